noncomputable def fP (w h : Nat) (ht : Nat → Nat) (d : Nat) (q : vQ) (c : Nat) : Bool := qI q && decide (flw w h ht q c = some d)
noncomputable def crsd (w h : Nat) (ht : Nat → Nat) (G : Nat → vQ) (r : Nat → Nat) (m c e : Nat) : Bool := anyK (fun k => anyK (fun j => fP w h ht (e % 4) (G (r j)) c) k && fP w h ht (e / 4) (G (r k)) c) m
set_option maxRecDepth 100000 in
set_option maxHeartbeats 4000000 in
theorem m_hasCross {E : vE} {l : Launch} {Q : Option Value → vS → vM → Prop} {L : Nat} {M : vM} {w h ng : Nat} {ht : Nat → Nat} {G : Nat → vQ} (V : GoV w h ng ht G) (K : GoM M w h ng ht G) (D : LdM M w h ng ht G) {m : Nat} {r : Nat → Nat} (RV : RwV ng m r) (RM : RwM M m r) {c x : Nat} (hc : c < w * h) (hx : x < 16) (hQ : Q (some (.int (bI (crsd w h ht G r m c x)))) (S0 L) M) : PM E l mX9_hasCross 0 [.ref 42, .int (nI c), .int (nI x), .null, .null, .null] [] (S0 L) M 0 0 Q := by
  have H := V.1
  have e4 := H.le
  have hng := V.2.2.1
  have hm6 := RV.1
  have l1 : PM E l mX9_hasCross 8 [.ref 42, .int (nI c), .int (nI x), .int (bI (anyK (fun k => anyK (fun j => fP w h ht (x % 4) (G (r j)) c) k && fP w h ht (x / 4) (G (r k)) c) 0)), .int (bI (anyK (fun j => fP w h ht (x % 4) (G (r j)) c) 0)), .int (nI 0)] [] (S0 L) M 0 0 Q := by
    refine lp_up (P := fun i => PM E l mX9_hasCross 8 [.ref 42, .int (nI c), .int (nI x), .int (bI (anyK (fun k => anyK (fun j => fP w h ht (x % 4) (G (r j)) c) k && fP w h ht (x / 4) (G (r k)) c) i)), .int (bI (anyK (fun j => fP w h ht (x % 4) (G (r j)) c) i)), .int (nI i)] [] (S0 L) M 0 0 Q) m ?_ ?_ 0 (Nat.zero_le _)
    · skip
      refine x_iload dX9_hasCross_8 rfl ?_
      refine x_aload_n dX9_hasCross_10 rfl ?_
      refine g_I (s0_42 L) fkX9_177 rfl rfl dX9_hasCross_11 ?_
      refine x_as RM.1 ?_
      refine n_icmp_ge 86 dX9_hasCross_14 rfl (by omega) (by omega) (fun h1 => ?_) (fun h1 => by omega)
      refine x_iload_n dX9_hasCross_86 rfl ?_
      refine x_iret dX9_hasCross_87 rfl (bI_nar _) ?_
      exact hQ
    · intro i hi ih
      have seg : PM E l mX9_hasCross 50 [.ref 42, .int (nI c), .int (nI x), .int (bI (anyK (fun k => anyK (fun j => fP w h ht (x % 4) (G (r j)) c) k && fP w h ht (x / 4) (G (r k)) c) (i + 1))), .int (bI (anyK (fun j => fP w h ht (x % 4) (G (r j)) c) i)), .int (nI i)] [] (S0 L) M 0 0 Q := by
        have hr := RV.2 i hi
        have hr6 : r i < 6 := by omega
        refine x_iload dX9_hasCross_50 rfl ?_
        refine b_if_ne 73 dX9_hasCross_52 rfl (fun z5 => ?_) (fun z5 => ?_)
        · refine x_iconst dX9_hasCross_73 iconst_1 ?_
          refine x_goto 78 dX9_hasCross_74 rfl ?_
          refine x_istore dX9_hasCross_78 (by decide) rfl ?_
          refine n_inc dX9_hasCross_80 rfl rfl ?_
          refine x_goto 8 dX9_hasCross_83 rfl ?_
          have ih2 := ih
          rw [anyK_t z5] at ih2
          exact ih2
        · refine x_aload_n dX9_hasCross_55 rfl ?_
          refine x_aload_n dX9_hasCross_56 rfl ?_
          refine g_R (s0_42 L) fkX9_53 rfl rfl rfl dX9_hasCross_57 ?_
          refine x_iload dX9_hasCross_60 rfl ?_
          refine n_iald (s0_57 L) (by omega) rfl dX9_hasCross_62 ?_
          refine x_as (RM.2 i hi) ?_
          refine x_iload_n dX9_hasCross_63 rfl ?_
          refine x_iload_n dX9_hasCross_64 rfl ?_
          refine x_iconst dX9_hasCross_65 iconst_4 ?_
          refine n_irem dX9_hasCross_66 (by omega) (by omega) (by omega) ?_
          refine cV3 (mj := mX9_flowsIn) lkX9_200 okX9_flowsIn imX9_flowsIn seX9_flowsIn (s0_42 L) rfl rfl rfl rfl rfl dX9_hasCross_67 rfl (m_flowsIn (by omega) (by omega) (by omega) (lt31 (n := 4) (by omega) (fun x e => Nat.le_of_lt (flw_lt e))) (K.2.2.2.2 _ hr).1 (D _ hr c hc).2 ?_)
          refine b_if_eq 77 dX9_hasCross_70 rfl (fun z6 => ?_) (fun z6 => ?_)
          · refine x_iconst dX9_hasCross_77 iconst_0 ?_
            refine x_istore dX9_hasCross_78 (by decide) rfl ?_
            refine n_inc dX9_hasCross_80 rfl rfl ?_
            refine x_goto 8 dX9_hasCross_83 rfl ?_
            have ih2 := ih
            rw [show (anyK (fun j => fP w h ht (x % 4) (G (r j)) c) (i + 1)) = false from (anyK_f z5).trans z6] at ih2
            exact ih2
          · refine x_iconst dX9_hasCross_73 iconst_1 ?_
            refine x_goto 78 dX9_hasCross_74 rfl ?_
            refine x_istore dX9_hasCross_78 (by decide) rfl ?_
            refine n_inc dX9_hasCross_80 rfl rfl ?_
            refine x_goto 8 dX9_hasCross_83 rfl ?_
            have ih2 := ih
            rw [show (anyK (fun j => fP w h ht (x % 4) (G (r j)) c) (i + 1)) = true from (anyK_f z5).trans z6] at ih2
            exact ih2
      refine x_iload dX9_hasCross_8 rfl ?_
      refine x_aload_n dX9_hasCross_10 rfl ?_
      refine g_I (s0_42 L) fkX9_177 rfl rfl dX9_hasCross_11 ?_
      refine x_as RM.1 ?_
      refine n_icmp_ge 86 dX9_hasCross_14 rfl (by omega) (by omega) (fun h1 => by omega) (fun h1 => ?_)
      have hr := RV.2 i hi
      have hr6 : r i < 6 := by omega
      refine x_iload_n dX9_hasCross_17 rfl ?_
      refine b_if_ne 44 dX9_hasCross_18 rfl (fun z1 => ?_) (fun z1 => ?_)
      · refine x_iconst dX9_hasCross_44 iconst_1 ?_
        refine x_goto 49 dX9_hasCross_45 rfl ?_
        refine x_istore_n dX9_hasCross_49 (by decide) rfl ?_
        have sg := seg
        rw [anyK_t z1] at sg
        exact sg
      · refine x_iload dX9_hasCross_21 rfl ?_
        refine b_if_eq 48 dX9_hasCross_23 rfl (fun z2 => ?_) (fun z2 => ?_)
        · refine x_iconst dX9_hasCross_48 iconst_0 ?_
          refine x_istore_n dX9_hasCross_49 (by decide) rfl ?_
          have sg := seg
          rw [show (anyK (fun k => anyK (fun j => fP w h ht (x % 4) (G (r j)) c) k && fP w h ht (x / 4) (G (r k)) c) (i + 1)) = false from (anyK_f z1).trans (by simp only [z2, Bool.false_and])] at sg
          exact sg
        · refine x_aload_n dX9_hasCross_26 rfl ?_
          refine x_aload_n dX9_hasCross_27 rfl ?_
          refine g_R (s0_42 L) fkX9_53 rfl rfl rfl dX9_hasCross_28 ?_
          refine x_iload dX9_hasCross_31 rfl ?_
          refine n_iald (s0_57 L) (by omega) rfl dX9_hasCross_33 ?_
          refine x_as (RM.2 i hi) ?_
          refine x_iload_n dX9_hasCross_34 rfl ?_
          refine x_iload_n dX9_hasCross_35 rfl ?_
          refine x_iconst dX9_hasCross_36 iconst_4 ?_
          refine n_idiv dX9_hasCross_37 (by omega) (by omega) (by omega) ?_
          refine cV3 (mj := mX9_flowsIn) lkX9_200 okX9_flowsIn imX9_flowsIn seX9_flowsIn (s0_42 L) rfl rfl rfl rfl rfl dX9_hasCross_38 rfl (m_flowsIn (by omega) (by omega) (by omega) (lt31 (n := 4) (by omega) (fun x e => Nat.le_of_lt (flw_lt e))) (K.2.2.2.2 _ hr).1 (D _ hr c hc).2 ?_)
          refine b_if_eq 48 dX9_hasCross_41 rfl (fun z3 => ?_) (fun z3 => ?_)
          · refine x_iconst dX9_hasCross_48 iconst_0 ?_
            refine x_istore_n dX9_hasCross_49 (by decide) rfl ?_
            have sg := seg
            rw [show (anyK (fun k => anyK (fun j => fP w h ht (x % 4) (G (r j)) c) k && fP w h ht (x / 4) (G (r k)) c) (i + 1)) = false from (anyK_f z1).trans (by simp only [z2, Bool.true_and]; exact z3)] at sg
            exact sg
          · refine x_iconst dX9_hasCross_44 iconst_1 ?_
            refine x_goto 49 dX9_hasCross_45 rfl ?_
            refine x_istore_n dX9_hasCross_49 (by decide) rfl ?_
            have sg := seg
            rw [show (anyK (fun k => anyK (fun j => fP w h ht (x % 4) (G (r j)) c) k && fP w h ht (x / 4) (G (r k)) c) (i + 1)) = true from (anyK_f z1).trans (by simp only [z2, Bool.true_and]; exact z3)] at sg
            exact sg
  refine x_iconst dX9_hasCross_0 iconst_0 ?_
  refine x_istore_n dX9_hasCross_1 (by decide) rfl ?_
  refine x_iconst dX9_hasCross_2 iconst_0 ?_
  refine x_istore dX9_hasCross_3 (by decide) rfl ?_
  refine x_iconst dX9_hasCross_5 iconst_0 ?_
  refine x_istore dX9_hasCross_6 (by decide) rfl ?_
  exact l1
/-- a sign: kind, cell, extra, worth -/
abbrev vU : Type := Nat × Nat × Nat × Nat
def SgV (w h ns nz : Nat) (U : Nat → vU) : Prop := nz ≤ 12 ∧ ∀ i, i < nz → (U i).1 ≤ 5 ∧ ((U i).1 ≠ 4 → (U i).2.1 < w * h) ∧ ((U i).1 = 0 → (U i).2.2.1 < 4) ∧ ((U i).1 = 4 → (U i).2.2.1 < ns) ∧ ((U i).1 = 5 → (U i).2.2.1 < 16) ∧ ((U i).1 = 1 ∨ (U i).1 = 2 ∨ (U i).1 = 3 → (U i).2.2.1 = 0) ∧ 1 ≤ (U i).2.2.2 ∧ (U i).2.2.2 ≤ 99
def SgM (M : vM) (nz : Nat) (U : Nat → vU) : Prop := M 42 20 = nI nz ∧ ∀ i, i < nz → M 58 i = nI (U i).1 ∧ ((U i).1 ≠ 4 → M 59 i = nI (U i).2.1) ∧ M 60 i = nI (U i).2.2.1 ∧ M 61 i = nI (U i).2.2.2
noncomputable def expl (w h : Nat) (ht : Nat → Nat) (G : Nat → vQ) (r : Nat → Nat) (m : Nat) (rk : Nat → Nat) (T : Nat → vT) (u : vU) : Bool :=
  if u.1 = 0 then thg w h ht G r m u.2.1 u.2.2.1 else if u.1 = 1 then thg w h ht G r m u.2.1 4 else if u.1 = 2 then thg w h ht G r m u.2.1 5 else if u.1 = 3 then thg w h ht G r m u.2.1 6
  else if u.1 = 4 then decide (0 < ctt (whn w h ht G r m rk (T u.2.2.1)) (w * h)) else crsd w h ht G r m u.2.1 u.2.2.1
def smK (f : Nat → Nat) : Nat → Nat
  | 0 => 0
  | n + 1 => smK f n + f n
theorem smK_le {f : Nat → Nat} {b : Nat} : ∀ n, (∀ i, i < n → f i ≤ b) → smK f n ≤ n * b
  | 0, _ => Nat.zero_le _
  | n + 1, h => by
    have h1 := smK_le n (fun i hi => h i (by omega))
    have h2 := h n (by omega)
    rw [Nat.succ_mul]
    simp only [smK]
    omega
noncomputable def cst (w h : Nat) (ht : Nat → Nat) (G : Nat → vQ) (r : Nat → Nat) (m : Nat) (rk : Nat → Nat) (T : Nat → vT) (U : Nat → vU) (nz : Nat) : Nat := smK (fun i => if expl w h ht G r m rk T (U i) then 0 else (U i).2.2.2) nz
theorem cst_le {w h : Nat} {ht : Nat → Nat} {G : Nat → vQ} {r : Nat → Nat} {m : Nat} {rk : Nat → Nat} {T : Nat → vT} {U : Nat → vU} {ns nz : Nat} (ZV : SgV w h ns nz U) {n : Nat} (hn : n ≤ nz) : cst w h ht G r m rk T U n ≤ 1188 := by
  have h1 : cst w h ht G r m rk T U n ≤ n * 99 := smK_le n (fun i hi => by
    have := (ZV.2 i (by omega)).2.2.2.2.2.2.2
    split <;> omega)
  have := ZV.1
  omega
set_option maxRecDepth 100000 in
set_option maxHeartbeats 4000000 in
theorem m_isExplained {E : vE} {l : Launch} {Q : Option Value → vS → vM → Prop} {L : Nat} {M : vM} {w h ng : Nat} {ht : Nat → Nat} {G : Nat → vQ} (V : GoV w h ng ht G) (K : GoM M w h ng ht G) (D : LdM M w h ng ht G) {m : Nat} {r : Nat → Nat} (RV : RwV ng m r) (RM : RwM M m r) {ns : Nat} {rk : Nat → Nat} {T : Nat → vT} (SV : StV w h ns rk T) (SM : StM M w h ns rk T) {nz : Nat} {U : Nat → vU} (ZV : SgV w h ns nz U) (ZM : SgM M nz U) {i : Nat} (hi : i < nz) (hQ : Q (some (.int (bI (expl w h ht G r m rk T (U i))))) (S0 L) M) : PM E l mX9_isExplained 0 [.ref 42, .int (nI i)] [] (S0 L) M 0 0 Q := by
  have H := V.1
  have e4 := H.le
  have hng := V.2.2.1
  have hnz := ZV.1
  have hns := SV.1
  have hz := ZM.2 i hi
  obtain ⟨b1, b2, b3, b4, b5, b6, b7, b8⟩ := ZV.2 i hi
  have hct := ctt_le (whn w h ht G r m rk (T (U i).2.2.1)) (w * h)
  refine x_aload_n dX9_isExplained_0 rfl ?_
  refine g_R (s0_42 L) fkX9_56 rfl rfl rfl dX9_isExplained_1 ?_
  refine x_iload_n dX9_isExplained_4 rfl ?_
  refine n_iald (s0_58 L) (by omega) rfl dX9_isExplained_5 ?_
  refine x_as hz.1 ?_
  rcases (show (U i).1 = 0 ∨ (U i).1 = 1 ∨ (U i).1 = 2 ∨ (U i).1 = 3 ∨ (U i).1 = 4 ∨ (U i).1 = 5 by omega) with hk | hk | hk | hk | hk | hk
  · rw [hk]
    refine x_tabIn 40 dX9_isExplained_6 (by decide) (by decide) rfl rfl ?_
    refine x_aload_n dX9_isExplained_40 rfl ?_
    refine x_aload_n dX9_isExplained_41 rfl ?_
    refine g_R (s0_42 L) fkX9_59 rfl rfl rfl dX9_isExplained_42 ?_
    refine x_iload_n dX9_isExplained_45 rfl ?_
    refine n_iald (s0_59 L) (by omega) rfl dX9_isExplained_46 ?_
    refine x_as (hz.2.1 (by omega)) ?_
    refine x_aload_n dX9_isExplained_47 rfl ?_
    refine g_R (s0_42 L) fkX9_62 rfl rfl rfl dX9_isExplained_48 ?_
    refine x_iload_n dX9_isExplained_51 rfl ?_
    refine n_iald (s0_60 L) (by omega) rfl dX9_isExplained_52 ?_
    refine x_as hz.2.2.1 ?_
    refine cV2 (mj := mX9_hasThing) lkX9_204 okX9_hasThing imX9_hasThing seX9_hasThing (s0_42 L) rfl rfl rfl rfl rfl dX9_isExplained_53 rfl (m_hasThing V K D RV RM (b2 (by omega)) (by have := b3 hk; omega) ?_)
    refine x_iret dX9_isExplained_56 rfl (bI_nar _) ?_
    unfold expl at hQ
    rw [if_pos hk] at hQ
    exact hQ
  · rw [hk]
    refine x_tabIn 57 dX9_isExplained_6 (by decide) (by decide) rfl rfl ?_
    refine x_aload_n dX9_isExplained_57 rfl ?_
    refine x_aload_n dX9_isExplained_58 rfl ?_
    refine g_R (s0_42 L) fkX9_59 rfl rfl rfl dX9_isExplained_59 ?_
    refine x_iload_n dX9_isExplained_62 rfl ?_
    refine n_iald (s0_59 L) (by omega) rfl dX9_isExplained_63 ?_
    refine x_as (hz.2.1 (by omega)) ?_
    refine x_iconst dX9_isExplained_64 iconst_4 ?_
    refine cV2 (mj := mX9_hasThing) lkX9_204 okX9_hasThing imX9_hasThing seX9_hasThing (s0_42 L) rfl rfl rfl rfl rfl dX9_isExplained_65 rfl (m_hasThing V K D RV RM (b2 (by omega)) (by omega) ?_)
    refine x_iret dX9_isExplained_68 rfl (bI_nar _) ?_
    unfold expl at hQ
    rw [if_neg (show ¬ (U i).1 = 0 by omega)] at hQ
    rw [if_pos hk] at hQ
    exact hQ
  · rw [hk]
    refine x_tabIn 69 dX9_isExplained_6 (by decide) (by decide) rfl rfl ?_
    refine x_aload_n dX9_isExplained_69 rfl ?_
    refine x_aload_n dX9_isExplained_70 rfl ?_
    refine g_R (s0_42 L) fkX9_59 rfl rfl rfl dX9_isExplained_71 ?_
    refine x_iload_n dX9_isExplained_74 rfl ?_
    refine n_iald (s0_59 L) (by omega) rfl dX9_isExplained_75 ?_
    refine x_as (hz.2.1 (by omega)) ?_
    refine x_iconst dX9_isExplained_76 iconst_5 ?_
    refine cV2 (mj := mX9_hasThing) lkX9_204 okX9_hasThing imX9_hasThing seX9_hasThing (s0_42 L) rfl rfl rfl rfl rfl dX9_isExplained_77 rfl (m_hasThing V K D RV RM (b2 (by omega)) (by omega) ?_)
    refine x_iret dX9_isExplained_80 rfl (bI_nar _) ?_
    unfold expl at hQ
    rw [if_neg (show ¬ (U i).1 = 0 by omega)] at hQ
    rw [if_neg (show ¬ (U i).1 = 1 by omega)] at hQ
    rw [if_pos hk] at hQ
    exact hQ
  · rw [hk]
    refine x_tabIn 81 dX9_isExplained_6 (by decide) (by decide) rfl rfl ?_
    refine x_aload_n dX9_isExplained_81 rfl ?_
    refine x_aload_n dX9_isExplained_82 rfl ?_
    refine g_R (s0_42 L) fkX9_59 rfl rfl rfl dX9_isExplained_83 ?_
    refine x_iload_n dX9_isExplained_86 rfl ?_
    refine n_iald (s0_59 L) (by omega) rfl dX9_isExplained_87 ?_
    refine x_as (hz.2.1 (by omega)) ?_
    refine x_bipush dX9_isExplained_88 bipush_6 ?_
    refine cV2 (mj := mX9_hasThing) lkX9_204 okX9_hasThing imX9_hasThing seX9_hasThing (s0_42 L) rfl rfl rfl rfl rfl dX9_isExplained_90 rfl (m_hasThing V K D RV RM (b2 (by omega)) (by omega) ?_)
    refine x_iret dX9_isExplained_93 rfl (bI_nar _) ?_
    unfold expl at hQ
    rw [if_neg (show ¬ (U i).1 = 0 by omega)] at hQ
    rw [if_neg (show ¬ (U i).1 = 1 by omega)] at hQ
    rw [if_neg (show ¬ (U i).1 = 2 by omega)] at hQ
    rw [if_pos hk] at hQ
    exact hQ
  · rw [hk]
    refine x_tabIn 94 dX9_isExplained_6 (by decide) (by decide) rfl rfl ?_
    refine x_aload_n dX9_isExplained_94 rfl ?_
    refine x_aload_n dX9_isExplained_95 rfl ?_
    refine g_R (s0_42 L) fkX9_62 rfl rfl rfl dX9_isExplained_96 ?_
    refine x_iload_n dX9_isExplained_99 rfl ?_
    refine n_iald (s0_60 L) (by omega) rfl dX9_isExplained_100 ?_
    refine x_as hz.2.2.1 ?_
    refine cV1 (mj := mX9_whenceOf) lkX9_189 okX9_whenceOf imX9_whenceOf seX9_whenceOf (s0_42 L) rfl rfl rfl rfl rfl dX9_isExplained_101 rfl (m_whenceOf V K D RV RM SV SM (b4 hk) ?_)
    refine x_if_le 111 dX9_isExplained_104 rfl (fun y1 => ?_) (fun y1 => ?_)
    · refine x_iconst dX9_isExplained_111 iconst_0 ?_
      refine x_iret dX9_isExplained_112 rfl (by first | exact bI_nar _ | exact n1_nar | exact n0_nar) ?_
      have y2 : ¬ 0 < ctt (whn w h ht G r m rk (T (U i).2.2.1)) (w * h) := fun z => nI_nle z (by omega) y1
      unfold expl at hQ
      rw [if_neg (show ¬ (U i).1 = 0 by omega)] at hQ
      rw [if_neg (show ¬ (U i).1 = 1 by omega)] at hQ
      rw [if_neg (show ¬ (U i).1 = 2 by omega)] at hQ
      rw [if_neg (show ¬ (U i).1 = 3 by omega)] at hQ
      rw [if_pos hk, decide_eq_false y2] at hQ
      exact hQ
    · refine x_iconst dX9_isExplained_107 iconst_1 ?_
      refine x_goto 112 dX9_isExplained_108 rfl ?_
      refine x_iret dX9_isExplained_112 rfl (by first | exact bI_nar _ | exact n1_nar | exact n0_nar) ?_
      have y2 : 0 < ctt (whn w h ht G r m rk (T (U i).2.2.1)) (w * h) := Nat.pos_of_ne_zero (fun z => y1 (by rw [z]; decide))
      unfold expl at hQ
      rw [if_neg (show ¬ (U i).1 = 0 by omega)] at hQ
      rw [if_neg (show ¬ (U i).1 = 1 by omega)] at hQ
      rw [if_neg (show ¬ (U i).1 = 2 by omega)] at hQ
      rw [if_neg (show ¬ (U i).1 = 3 by omega)] at hQ
      rw [if_pos hk, decide_eq_true y2] at hQ
      exact hQ
  · rw [hk]
    refine x_tabOut 113 dX9_isExplained_6 (by decide) rfl ?_
    refine x_aload_n dX9_isExplained_113 rfl ?_
    refine x_aload_n dX9_isExplained_114 rfl ?_
    refine g_R (s0_42 L) fkX9_59 rfl rfl rfl dX9_isExplained_115 ?_
    refine x_iload_n dX9_isExplained_118 rfl ?_
    refine n_iald (s0_59 L) (by omega) rfl dX9_isExplained_119 ?_
    refine x_as (hz.2.1 (by omega)) ?_
    refine x_aload_n dX9_isExplained_120 rfl ?_
    refine g_R (s0_42 L) fkX9_62 rfl rfl rfl dX9_isExplained_121 ?_
    refine x_iload_n dX9_isExplained_124 rfl ?_
    refine n_iald (s0_60 L) (by omega) rfl dX9_isExplained_125 ?_
    refine x_as hz.2.2.1 ?_
    refine cV2 (mj := mX9_hasCross) lkX9_207 okX9_hasCross imX9_hasCross seX9_hasCross (s0_42 L) rfl rfl rfl rfl rfl dX9_isExplained_126 rfl (m_hasCross V K D RV RM (b2 (by omega)) (b5 hk) ?_)
    refine x_iret dX9_isExplained_129 rfl (bI_nar _) ?_
    unfold expl at hQ
    rw [if_neg (show ¬ (U i).1 = 0 by omega)] at hQ
    rw [if_neg (show ¬ (U i).1 = 1 by omega)] at hQ
    rw [if_neg (show ¬ (U i).1 = 2 by omega)] at hQ
    rw [if_neg (show ¬ (U i).1 = 3 by omega)] at hQ
    rw [if_neg (show ¬ (U i).1 = 4 by omega)] at hQ
    exact hQ
set_option maxRecDepth 100000 in
set_option maxHeartbeats 4000000 in
theorem m_costOf {E : vE} {l : Launch} {Q : Option Value → vS → vM → Prop} {L : Nat} {M : vM} {w h ng : Nat} {ht : Nat → Nat} {G : Nat → vQ} (V : GoV w h ng ht G) (K : GoM M w h ng ht G) (D : LdM M w h ng ht G) {m : Nat} {r : Nat → Nat} (RV : RwV ng m r) (RM : RwM M m r) {ns : Nat} {rk : Nat → Nat} {T : Nat → vT} (SV : StV w h ns rk T) (SM : StM M w h ns rk T) {nz : Nat} {U : Nat → vU} (ZV : SgV w h ns nz U) (ZM : SgM M nz U) (hQ : Q (some (.int (nI (cst w h ht G r m rk T U nz)))) (S0 L) M) : PM E l mX9_costOf 0 [.ref 42, .null, .null] [] (S0 L) M 0 0 Q := by
  have H := V.1
  have e4 := H.le
  have hng := V.2.2.1
  have hnz := ZV.1
  have l1 : PM E l mX9_costOf 4 [.ref 42, .int (nI (cst w h ht G r m rk T U 0)), .int (nI 0)] [] (S0 L) M 0 0 Q := by
    refine lp_up (P := fun i => PM E l mX9_costOf 4 [.ref 42, .int (nI (cst w h ht G r m rk T U i)), .int (nI i)] [] (S0 L) M 0 0 Q) (nz) ?_ ?_ (0) (by omega)
    · skip
      refine x_iload_n dX9_costOf_4 rfl ?_
      refine x_aload_n dX9_costOf_5 rfl ?_
      refine g_I (s0_42 L) fkX9_100 rfl rfl dX9_costOf_6 ?_
      refine x_as ZM.1 ?_
      refine n_icmp_ge 39 dX9_costOf_9 rfl (by omega) (by omega) (fun h1 => ?_) (fun h1 => by omega)
      refine x_iload_n dX9_costOf_39 rfl ?_
      refine x_iret dX9_costOf_40 rfl rfl ?_
      exact hQ
    · intro i hi ih 
      refine x_iload_n dX9_costOf_4 rfl ?_
      refine x_aload_n dX9_costOf_5 rfl ?_
      refine g_I (s0_42 L) fkX9_100 rfl rfl dX9_costOf_6 ?_
      refine x_as ZM.1 ?_
      refine n_icmp_ge 39 dX9_costOf_9 rfl (by omega) (by omega) (fun h1 => by omega) (fun h1 => ?_)
      refine x_iload_n dX9_costOf_12 rfl ?_
      refine x_aload_n dX9_costOf_13 rfl ?_
      refine x_iload_n dX9_costOf_14 rfl ?_
      refine cV1 (mj := mX9_isExplained) lkX9_210 okX9_isExplained imX9_isExplained seX9_isExplained (s0_42 L) rfl rfl rfl rfl rfl dX9_costOf_15 rfl (m_isExplained V K D RV RM SV SM ZV ZM hi ?_)
      refine b_if_eq 25 dX9_costOf_18 rfl (fun z1 => ?_) (fun z1 => ?_)
      · refine x_aload_n dX9_costOf_25 rfl ?_
        refine g_R (s0_42 L) fkX9_65 rfl rfl rfl dX9_costOf_26 ?_
        refine x_iload_n dX9_costOf_29 rfl ?_
        refine n_iald (s0_61 L) (by omega) rfl dX9_costOf_30 ?_
        refine x_as (ZM.2 i hi).2.2.2 ?_
        refine n_iadd dX9_costOf_31 ?_
        refine x_istore_n dX9_costOf_32 (by decide) rfl ?_
        refine n_inc dX9_costOf_33 rfl rfl ?_
        refine x_goto 4 dX9_costOf_36 rfl ?_
        have ih2 := ih
        rw [show (cst w h ht G r m rk T U (i + 1)) = (cst w h ht G r m rk T U i) + (U i).2.2.2 from by show smK _ i + _ = smK _ i + _; simp only [z1, Bool.false_eq_true, if_false, if_true]] at ih2
        exact ih2
      · refine x_iconst dX9_costOf_21 iconst_0 ?_
        refine x_goto 31 dX9_costOf_22 rfl ?_
        refine n_iadd dX9_costOf_31 ?_
        refine x_istore_n dX9_costOf_32 (by decide) rfl ?_
        refine n_inc dX9_costOf_33 rfl rfl ?_
        refine x_goto 4 dX9_costOf_36 rfl ?_
        have ih2 := ih
        rw [show (cst w h ht G r m rk T U (i + 1)) = (cst w h ht G r m rk T U i) + 0 from by show smK _ i + _ = smK _ i + _; simp only [z1, Bool.false_eq_true, if_false, if_true]] at ih2
        exact ih2
  refine x_iconst dX9_costOf_0 iconst_0 ?_
  refine x_istore_n dX9_costOf_1 (by decide) rfl ?_
  refine x_iconst dX9_costOf_2 iconst_0 ?_
  refine x_istore_n dX9_costOf_3 (by decide) rfl ?_
  exact l1

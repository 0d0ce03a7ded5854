def qFa (q : vQ) : Nat := if qI q then qF q else 0
def srcB (w h : Nat) (q : vQ) (c : Nat) : Bool := if qI q then decide (c = qS q) else edg w h c
/-- what spread reads -/
def SpC (M : vM) (w h : Nat) (ht : Nat → Nat) (g : Nat) (q : vQ) : Prop := GrC M w h ∧ (∀ c, c < w * h → M 5 c = nI (ht c)) ∧ M 13 g = bI (qI q) ∧ M 15 g = nI (qT q) ∧ M 16 g = nI (qFa q) ∧ (qI q = true → M 14 g = nI (qS q))
def SpV (w h : Nat) (ht : Nat → Nat) (q : vQ) : Prop := WH w h ∧ (∀ c, c < w * h → ht c ≤ 99) ∧ qT q ≤ 199 ∧ (qI q = true → qS q < w * h ∧ qF q ≤ 20)
theorem SpV.fa {w h : Nat} {ht : Nat → Nat} {q : vQ} (V : SpV w h ht q) : qFa q ≤ 20 := by
  unfold qFa
  split
  · rename_i h1; exact (V.2.2.2 h1).2
  · omega
theorem SpC.kept {M M1 : vM} {w h : Nat} {ht : Nat → Nat} {g : Nat} {q : vQ} {ks : List Nat} (K : SpC M w h ht g q) (hf : Fr ks M M1) (hk : ∀ z ∈ ks, z = 12 ∨ z = 18 ∨ z = 19 ∨ z = 20) : SpC M1 w h ht g q := by
  have e : ∀ z, z ≠ 12 → z ≠ 18 → z ≠ 19 → z ≠ 20 → M1 z = M z := fun z h1 h2 h3 h4 => hf z (fun hz => by have := hk z hz; omega)
  unfold SpC GrC at K ⊢
  rw [e 4 (by omega) (by omega) (by omega) (by omega), e 5 (by omega) (by omega) (by omega) (by omega), e 7 (by omega) (by omega) (by omega) (by omega), e 13 (by omega) (by omega) (by omega) (by omega), e 14 (by omega) (by omega) (by omega) (by omega), e 15 (by omega) (by omega) (by omega) (by omega), e 16 (by omega) (by omega) (by omega) (by omega)]
  exact K
def BfM (M : vM) (w h g : Nat) (D : Nat → Option Nat) (qs : Nat → Nat) (n : Nat) : Prop := M 12 9 = nI n ∧ (∀ c, c < w * h → M 18 (36 * g + c) = oI (-1) (D c)) ∧ ∀ k, k < n → M 20 k = nI (qs k)
def OutG (g : Nat) (M M1 : vM) : Prop := (∀ j, j ≠ 9 → M1 12 j = M 12 j) ∧ ∀ j, (j < 36 * g ∨ 36 * g + 36 ≤ j) → M1 18 j = M 18 j ∧ M1 19 j = M 19 j
theorem OutG.rf {g : Nat} {M : vM} : OutG g M M := ⟨fun _ _ => rfl, fun _ _ => ⟨rfl, rfl⟩⟩
theorem OutG.trans {g : Nat} {M M1 M2 : vM} (h : OutG g M M1) (h2 : OutG g M1 M2) : OutG g M M2 := ⟨fun j hj => (h2.1 j hj).trans (h.1 j hj), fun j hj => ⟨(h2.2 j hj).1.trans (h.2 j hj).1, (h2.2 j hj).2.trans (h.2 j hj).2⟩⟩
def addQ (qs : Nat → Nat) (n o : Nat) : Nat → Nat := fun k => if k = n then o else qs k
def ldC (q : vQ) (ht : Nat → Nat) (D : Nat → Option Nat) (c o : Nat) : Bool := if qI q then ldI D c o else (D c).isSome && (D o).isSome && decide (ht o < ht c)
def bfK (q : vQ) (ht : Nat → Nat) (o : Nat) : Nat := if qI q then o else ht o * 64 + o
set_option maxRecDepth 100000 in
set_option maxHeartbeats 4000000 in
theorem k_reach {E : vE} {l : Launch} {Q : Option Value → vS → vM → Prop} {L : Nat} {M : vM} {w h : Nat} {ht : Nat → Nat} {g : Nat} {q : vQ} (V : SpV w h ht q) (K : SpC M w h ht g q) (hg : g < 6) {D : Nat → Option Nat} {qs : Nat → Nat} {n e : Nat} {oc : Option Nat} (B : BfM M w h g D qs n) (hv : ∀ c x, c < w * h → D c = some x → x ≤ 36) (he : e ≤ 37) (hn : n ≤ 36) (hoc : ∀ o, oc = some o → o < w * h) (hgd : ∀ o, oc = some o → D o = none → n < 36) (hN : (∀ o, oc = some o → D o = none → ¬ qFa q * e + ht o < qT q) → Q none (S0 L) M) (hY : ∀ (o : Nat) (M1 : vM), oc = some o → D o = none → qFa q * e + ht o < qT q → Fr [12, 18, 20] M M1 → OutG g M M1 → BfM M1 w h g (setO D o e) (addQ qs n o) (n + 1) → Q none (S0 L) M1) : PM E l mX0_reach 0 [.ref 12, .int (nI g), .int (oI (-1) oc), .int (nI e)] [] (S0 L) M 0 0 Q := by
  have H := V.1
  have e4 := H.le
  have hT := V.2.2.1
  have hF := V.fa
  rcases oc with _ | o
  · rw [oI_none]
    refine x_iload_n dX0_reach_0 rfl ?_
    refine x_if_lt 22 dX0_reach_1 rfl (fun h1 => ?_) (fun h1 => by exact absurd h1 (by decide))
    refine x_vret dX0_reach_22 rfl ?_
    exact hN (fun o e => by cases e)
  · rw [oI_some]
    have ho := hoc o rfl
    refine x_iload_n dX0_reach_0 rfl ?_
    refine x_if_lt 22 dX0_reach_1 rfl (fun zz => by exact absurd zz (nI_pos (by omega))) (fun zz => ?_)
    refine x_aload_n dX0_reach_4 rfl ?_
    refine x_iload_n dX0_reach_5 rfl ?_
    refine x_iload_n dX0_reach_6 rfl ?_
    refine cV2 (mj := mX0_isCovered) lkX0_78 okX0_isCovered imX0_isCovered seX0_isCovered (s0_12 L) rfl rfl rfl rfl rfl dX0_reach_7 rfl (k_isCovered hg (by omega) (fun x e => by have := hv o x ho e; omega) (B.2.1 o ho) ?_)
    refine b_if_ne 22 dX0_reach_10 rfl (fun y1 => ?_) (fun y1 => ?_)
    · refine x_vret dX0_reach_22 rfl ?_
      exact hN (fun o2 e2 d2 => by cases e2; rw [d2] at y1; cases y1)
    · refine x_aload_n dX0_reach_13 rfl ?_
      refine g_I (s0_12 L) fkX0_54 rfl rfl dX0_reach_14 ?_
      refine x_as B.1 ?_
      refine x_bipush dX0_reach_17 bipush_36 ?_
      refine n_icmp_lt 23 dX0_reach_19 rfl (by omega) (by omega) (fun h3 => ?_) (fun h3 => by have := hgd o rfl (by cases hz : D o with | none => rfl | some x => rw [hz] at y1; cases y1); omega)
      refine x_aload_n dX0_reach_23 rfl ?_
      refine g_R (s0_12 L) fkX0_19 rfl rfl rfl dX0_reach_24 ?_
      refine x_iload_n dX0_reach_27 rfl ?_
      refine n_iald (s0_15 L) hg rfl dX0_reach_28 ?_
      refine x_as K.2.2.2.1 ?_
      refine x_aload_n dX0_reach_29 rfl ?_
      refine g_R (s0_12 L) fkX0_22 rfl rfl rfl dX0_reach_30 ?_
      refine x_iload_n dX0_reach_33 rfl ?_
      refine n_iald (s0_16 L) hg rfl dX0_reach_34 ?_
      refine x_as K.2.2.2.2.1 ?_
      refine x_iload_n dX0_reach_35 rfl ?_
      refine n_imul dX0_reach_36 ?_
      have hf2 : qFa q * e ≤ 20 * e := Nat.mul_le_mul_right _ hF
      have hh9 := V.2.1 o ho
      have hDo : D o = none := by cases hz : D o with | none => rfl | some x => rw [hz] at y1; cases y1
      have hn36 := hgd o rfl hDo
      refine x_isub dX0_reach_37 ?_
      refine x_aload_n dX0_reach_38 rfl ?_
      refine g_R (s0_12 L) fkX0_37 rfl rfl rfl dX0_reach_39 ?_
      refine g_R (s0_4 L) fkX0_82 rfl rfl rfl dX0_reach_42 ?_
      refine x_iload_n dX0_reach_45 rfl ?_
      refine n_iald (s0_5 L) (by omega) rfl dX0_reach_46 ?_
      refine x_as (K.2.1 _ (by first | assumption | omega)) ?_
      refine x_icmp_le 79 dX0_reach_47 rfl (fun y2 => ?_) (fun y2 => ?_)
      · refine x_vret dX0_reach_79 rfl ?_
        exact hN (fun o2 e2 d2 => by cases e2; have := (nI_sub_le (by omega) (by omega) (by omega)).mp y2; omega)
      · refine x_aload_n dX0_reach_50 rfl ?_
        refine g_R (s0_12 L) fkX0_28 rfl rfl rfl dX0_reach_51 ?_
        refine x_bipush dX0_reach_54 bipush_36 ?_
        refine x_iload_n dX0_reach_56 rfl ?_
        refine n_imul dX0_reach_57 ?_
        refine x_iload_n dX0_reach_58 rfl ?_
        refine n_iadd dX0_reach_59 ?_
        refine x_iload_n dX0_reach_60 rfl ?_
        refine n_iast rfl (s0_18 L) (by omega) rfl dX0_reach_61 ?_
        refine x_aload_n dX0_reach_62 rfl ?_
        refine g_R (s0_12 L) fkX0_34 rfl rfl rfl dX0_reach_63 ?_
        refine x_aload_n dX0_reach_66 rfl ?_
        refine x_dup dX0_reach_67 rfl ?_
        refine g_I (s0_12 L) fkX0_54 rfl rfl dX0_reach_68 ?_
        refine x_as B.1 ?_
        refine x_dup_x1 dX0_reach_71 rfl rfl ?_
        refine x_iconst dX0_reach_72 iconst_1 ?_
        refine n_iadd dX0_reach_73 ?_
        refine g_P (s0_12 L) fkX0_54 rfl rfl rfl rfl dX0_reach_74 ?_
        refine x_iload_n dX0_reach_77 rfl ?_
        refine n_iast rfl (s0_20 L) (by omega) rfl dX0_reach_78 ?_
        refine x_vret dX0_reach_79 rfl ?_
        have hb : qFa q * e + ht o < qT q := Nat.not_le.mp (fun z => y2 ((nI_sub_le (by omega) (by omega) (by omega)).mpr z))
        refine hY o _ rfl hDo hb (((Fr.rf.set _ (by decide)).set _ (by decide)).set _ (by decide)) ⟨fun j hj => ?_, fun j hj => ⟨?_, rfl⟩⟩ ⟨?_, fun c hc => ?_, fun k hk => ?_⟩
        · exact upd_ne _ _ hj
        · exact upd_ne _ _ (by omega)
        · show upd (M 12) 9 (nI (n + 1)) 9 = nI (n + 1)
          exact upd_at _ _ _
        · show upd (M 18) (36 * g + o) (nI e) (36 * g + c) = oI (-1) (setO D o e c)
          by_cases e1 : c = o
          · subst e1; rw [setO_at]; exact upd_at _ _ _
          · rw [setO_ne _ _ e1]; exact (upd_ne _ _ (by omega)).trans (B.2.1 c hc)
        · show upd (M 20) n (nI o) k = nI (addQ qs n o k)
          unfold addQ
          by_cases e1 : k = n
          · subst e1; rw [if_pos rfl]; exact upd_at _ _ _
          · rw [if_neg e1]; exact (upd_ne _ _ e1).trans (B.2.2 k (by omega))
theorem some_of {o : Option Nat} (h : o.isSome = true) : ∃ x, o = some x := Option.isSome_iff_exists.mp h
theorem none_of {o : Option Nat} (h : o.isSome = false) : o = none := by cases o with | none => rfl | some x => cases h
def ldO (q : vQ) (ht : Nat → Nat) (D : Nat → Option Nat) (c : Nat) (oc : Option Nat) : Bool := match oc with
  | none => false
  | some o => ldC q ht D c o
theorem ldC_c {q : vQ} {ht : Nat → Nat} {D : Nat → Option Nat} {c o : Nat} (h : D c = none) : ldC q ht D c o = false := by
  unfold ldC ldI
  rw [h]
  split <;> rfl
theorem ldC_o {q : vQ} {ht : Nat → Nat} {D : Nat → Option Nat} {c o : Nat} (h : D o = none) : ldC q ht D c o = false := by
  unfold ldC ldI
  rw [h]
  split
  · cases D c <;> simp
  · simp
theorem ldC_i {q : vQ} {ht : Nat → Nat} {D : Nat → Option Nat} {c o x y : Nat} (hq : qI q = true) (h : D c = some x) (h2 : D o = some y) : ldC q ht D c o = decide (y = x + 1) := by
  unfold ldC ldI
  rw [if_pos hq, h, h2]
  simp
theorem ldC_f {q : vQ} {ht : Nat → Nat} {D : Nat → Option Nat} {c o x y : Nat} (hq : qI q = false) (h : D c = some x) (h2 : D o = some y) : ldC q ht D c o = decide (ht o < ht c) := by
  unfold ldC
  rw [if_neg (by rw [hq]; decide), h, h2]
  simp
set_option maxRecDepth 100000 in
set_option maxHeartbeats 4000000 in
theorem k_leads {E : vE} {l : Launch} {Q : Option Value → vS → vM → Prop} {L : Nat} {M : vM} {w h : Nat} {ht : Nat → Nat} {g : Nat} {q : vQ} (V : SpV w h ht q) (K : SpC M w h ht g q) (hg : g < 6) {D : Nat → Option Nat} (hv : ∀ c x, c < w * h → D c = some x → x ≤ 36) (B : ∀ c, c < w * h → M 18 (36 * g + c) = oI (-1) (D c)) {c : Nat} {oc : Option Nat} (hc : c < w * h) (hoc : ∀ o, oc = some o → o < w * h) (hQ : Q (some (.int (bI (ldO q ht D c oc)))) (S0 L) M) : PM E l mX0_leads 0 [.ref 12, .int (nI g), .int (nI c), .int (oI (-1) oc)] [] (S0 L) M 0 0 Q := by
  have H := V.1
  have e4 := H.le
  have hT := V.2.2.1
  have hF := V.fa
  rcases oc with _ | o
  · rw [oI_none]
    refine x_iload_n dX0_leads_0 rfl ?_
    refine x_if_lt 22 dX0_leads_1 rfl (fun h1 => ?_) (fun h1 => by exact absurd h1 (by decide))
    refine x_iconst dX0_leads_22 iconst_0 ?_
    refine x_iret dX0_leads_23 rfl (by first | exact bI_nar _ | exact n1_nar | exact n0_nar) ?_
    exact hQ
  · rw [oI_some]
    have ho := hoc o rfl
    refine x_iload_n dX0_leads_0 rfl ?_
    refine x_if_lt 22 dX0_leads_1 rfl (fun zz => by exact absurd zz (nI_pos (by omega))) (fun zz => ?_)
    refine x_aload_n dX0_leads_4 rfl ?_
    refine x_iload_n dX0_leads_5 rfl ?_
    refine x_iload_n dX0_leads_6 rfl ?_
    refine cV2 (mj := mX0_isCovered) lkX0_78 okX0_isCovered imX0_isCovered seX0_isCovered (s0_12 L) rfl rfl rfl rfl rfl dX0_leads_7 rfl (k_isCovered hg (by omega) (fun x e => by have := hv _ x hc e; omega) (B _ hc) ?_)
    refine b_if_eq 22 dX0_leads_10 rfl (fun y1 => ?_) (fun y1 => ?_)
    · refine x_iconst dX0_leads_22 iconst_0 ?_
      refine x_iret dX0_leads_23 rfl (by first | exact bI_nar _ | exact n1_nar | exact n0_nar) ?_
      rw [show ldO q ht D c (some o) = false from ldC_c (none_of y1)] at hQ
      exact hQ
    · obtain ⟨x, hx⟩ := some_of y1
      have hx9 := hv c x hc hx
      refine x_aload_n dX0_leads_13 rfl ?_
      refine x_iload_n dX0_leads_14 rfl ?_
      refine x_iload_n dX0_leads_15 rfl ?_
      refine cV2 (mj := mX0_isCovered) lkX0_78 okX0_isCovered imX0_isCovered seX0_isCovered (s0_12 L) rfl rfl rfl rfl rfl dX0_leads_16 rfl (k_isCovered hg (by omega) (fun x e => by have := hv _ x ho e; omega) (B _ ho) ?_)
      refine b_if_ne 24 dX0_leads_19 rfl (fun y2 => ?_) (fun y2 => ?_)
      · obtain ⟨y, hy⟩ := some_of y2
        have hy9 := hv o y ho hy
        refine x_aload_n dX0_leads_24 rfl ?_
        refine g_R (s0_12 L) fkX0_9 rfl rfl rfl dX0_leads_25 ?_
        refine x_iload_n dX0_leads_28 rfl ?_
        refine n_bald (s0_13 L) hg rfl dX0_leads_29 ?_
        refine x_as K.2.2.1 ?_
        refine b_if_eq 56 dX0_leads_30 rfl (fun y3 => ?_) (fun y3 => ?_)
        · refine x_aload_n dX0_leads_56 rfl ?_
          refine g_R (s0_12 L) fkX0_37 rfl rfl rfl dX0_leads_57 ?_
          refine g_R (s0_4 L) fkX0_82 rfl rfl rfl dX0_leads_60 ?_
          refine x_iload_n dX0_leads_63 rfl ?_
          refine n_iald (s0_5 L) (by omega) rfl dX0_leads_64 ?_
          refine x_as (K.2.1 _ (by first | assumption | omega)) ?_
          refine x_aload_n dX0_leads_65 rfl ?_
          refine g_R (s0_12 L) fkX0_37 rfl rfl rfl dX0_leads_66 ?_
          refine g_R (s0_4 L) fkX0_82 rfl rfl rfl dX0_leads_69 ?_
          refine x_iload_n dX0_leads_72 rfl ?_
          refine n_iald (s0_5 L) (by omega) rfl dX0_leads_73 ?_
          refine x_as (K.2.1 _ (by first | assumption | omega)) ?_
          refine n_icmp_ge 81 dX0_leads_74 rfl (by have := V.2.1 o ho; omega) (by have := V.2.1 c hc; omega) (fun y4 => ?_) (fun y4 => ?_)
          · refine x_iconst dX0_leads_81 iconst_0 ?_
            refine x_iret dX0_leads_82 rfl (by first | exact bI_nar _ | exact n1_nar | exact n0_nar) ?_
            rw [show ldO q ht D c (some o) = false from (ldC_f y3 hx hy).trans (decide_eq_false (by omega))] at hQ
            exact hQ
          · refine x_iconst dX0_leads_77 iconst_1 ?_
            refine x_goto 82 dX0_leads_78 rfl ?_
            refine x_iret dX0_leads_82 rfl (by first | exact bI_nar _ | exact n1_nar | exact n0_nar) ?_
            rw [show ldO q ht D c (some o) = true from (ldC_f y3 hx hy).trans (decide_eq_true y4)] at hQ
            exact hQ
        · refine x_aload_n dX0_leads_33 rfl ?_
          refine x_iload_n dX0_leads_34 rfl ?_
          refine x_iload_n dX0_leads_35 rfl ?_
          refine cV2 (mj := mX0_distAt) lkX0_71 okX0_distAt imX0_distAt seX0_distAt (s0_12 L) rfl rfl rfl rfl rfl dX0_leads_36 rfl (k_distAt hg (by omega) ?_)
          rw [B o ho, hy, oI_some]
          refine x_aload_n dX0_leads_39 rfl ?_
          refine x_iload_n dX0_leads_40 rfl ?_
          refine x_iload_n dX0_leads_41 rfl ?_
          refine cV2 (mj := mX0_distAt) lkX0_71 okX0_distAt imX0_distAt seX0_distAt (s0_12 L) rfl rfl rfl rfl rfl dX0_leads_42 rfl (k_distAt hg (by omega) ?_)
          rw [B c hc, hx, oI_some]
          refine x_iconst dX0_leads_45 iconst_1 ?_
          refine n_iadd dX0_leads_46 ?_
          refine n_icmp_ne 54 dX0_leads_47 rfl (by omega) (by omega) (fun y4 => ?_) (fun y4 => ?_)
          · refine x_iconst dX0_leads_54 iconst_0 ?_
            refine x_iret dX0_leads_55 rfl (by first | exact bI_nar _ | exact n1_nar | exact n0_nar) ?_
            rw [show ldO q ht D c (some o) = false from (ldC_i y3 hx hy).trans (decide_eq_false y4)] at hQ
            exact hQ
          · refine x_iconst dX0_leads_50 iconst_1 ?_
            refine x_goto 55 dX0_leads_51 rfl ?_
            refine x_iret dX0_leads_55 rfl (by first | exact bI_nar _ | exact n1_nar | exact n0_nar) ?_
            rw [show ldO q ht D c (some o) = true from (ldC_i y3 hx hy).trans (decide_eq_true y4)] at hQ
            exact hQ
      · refine x_iconst dX0_leads_22 iconst_0 ?_
        refine x_iret dX0_leads_23 rfl (by first | exact bI_nar _ | exact n1_nar | exact n0_nar) ?_
        rw [show ldO q ht D c (some o) = false from ldC_o (none_of y2)] at hQ
        exact hQ
set_option maxRecDepth 100000 in
set_option maxHeartbeats 4000000 in
theorem k_isBefore {E : vE} {l : Launch} {Q : Option Value → vS → vM → Prop} {L : Nat} {M : vM} {w h : Nat} {ht : Nat → Nat} {g : Nat} {q : vQ} (V : SpV w h ht q) (K : SpC M w h ht g q) (hg : g < 6) {o p : Nat} (ho : o < w * h) (hp : p < w * h) (hQ : Q (some (.int (bI (decide (bfK q ht o < bfK q ht p))))) (S0 L) M) : PM E l mX0_isBefore 0 [.ref 12, .int (nI g), .int (nI o), .int (nI p)] [] (S0 L) M 0 0 Q := by
  have H := V.1
  have e4 := H.le
  have hT := V.2.2.1
  have hF := V.fa
  have ho9 := V.2.1 o ho
  have hp9 := V.2.1 p hp
  refine x_aload_n dX0_isBefore_0 rfl ?_
  refine g_R (s0_12 L) fkX0_9 rfl rfl rfl dX0_isBefore_1 ?_
  refine x_iload_n dX0_isBefore_4 rfl ?_
  refine n_bald (s0_13 L) hg rfl dX0_isBefore_5 ?_
  refine x_as K.2.2.1 ?_
  refine b_if_ne 30 dX0_isBefore_6 rfl (fun y1 => ?_) (fun y1 => ?_)
  · refine x_iload_n dX0_isBefore_30 rfl ?_
    refine x_iload_n dX0_isBefore_31 rfl ?_
    refine n_icmp_ge 39 dX0_isBefore_32 rfl (by omega) (by omega) (fun h2 => ?_) (fun h2 => ?_)
    · refine x_iconst dX0_isBefore_39 iconst_0 ?_
      refine x_iret dX0_isBefore_40 rfl (by first | exact bI_nar _ | exact n1_nar | exact n0_nar) ?_
      rw [show decide (bfK q ht o < bfK q ht p) = false from by rw [decide_eq_false_iff_not]; unfold bfK; rw [if_pos y1, if_pos y1]; omega] at hQ
      exact hQ
    · refine x_iconst dX0_isBefore_35 iconst_1 ?_
      refine x_goto 40 dX0_isBefore_36 rfl ?_
      refine x_iret dX0_isBefore_40 rfl (by first | exact bI_nar _ | exact n1_nar | exact n0_nar) ?_
      rw [show decide (bfK q ht o < bfK q ht p) = true from by rw [decide_eq_true_eq]; unfold bfK; rw [if_pos y1, if_pos y1]; omega] at hQ
      exact hQ
  · refine x_aload_n dX0_isBefore_9 rfl ?_
    refine g_R (s0_12 L) fkX0_37 rfl rfl rfl dX0_isBefore_10 ?_
    refine g_R (s0_4 L) fkX0_82 rfl rfl rfl dX0_isBefore_13 ?_
    refine x_iload_n dX0_isBefore_16 rfl ?_
    refine n_iald (s0_5 L) (by omega) rfl dX0_isBefore_17 ?_
    refine x_as (K.2.1 _ (by first | assumption | omega)) ?_
    refine x_aload_n dX0_isBefore_18 rfl ?_
    refine g_R (s0_12 L) fkX0_37 rfl rfl rfl dX0_isBefore_19 ?_
    refine g_R (s0_4 L) fkX0_82 rfl rfl rfl dX0_isBefore_22 ?_
    refine x_iload_n dX0_isBefore_25 rfl ?_
    refine n_iald (s0_5 L) (by omega) rfl dX0_isBefore_26 ?_
    refine x_as (K.2.1 _ (by first | assumption | omega)) ?_
    refine n_icmp_ne 41 dX0_isBefore_27 rfl (by omega) (by omega) (fun y2 => ?_) (fun y2 => ?_)
    · refine x_aload_n dX0_isBefore_41 rfl ?_
      refine g_R (s0_12 L) fkX0_37 rfl rfl rfl dX0_isBefore_42 ?_
      refine g_R (s0_4 L) fkX0_82 rfl rfl rfl dX0_isBefore_45 ?_
      refine x_iload_n dX0_isBefore_48 rfl ?_
      refine n_iald (s0_5 L) (by omega) rfl dX0_isBefore_49 ?_
      refine x_as (K.2.1 _ (by first | assumption | omega)) ?_
      refine x_aload_n dX0_isBefore_50 rfl ?_
      refine g_R (s0_12 L) fkX0_37 rfl rfl rfl dX0_isBefore_51 ?_
      refine g_R (s0_4 L) fkX0_82 rfl rfl rfl dX0_isBefore_54 ?_
      refine x_iload_n dX0_isBefore_57 rfl ?_
      refine n_iald (s0_5 L) (by omega) rfl dX0_isBefore_58 ?_
      refine x_as (K.2.1 _ (by first | assumption | omega)) ?_
      refine n_icmp_ge 66 dX0_isBefore_59 rfl (by omega) (by omega) (fun h4 => ?_) (fun h4 => ?_)
      · refine x_iconst dX0_isBefore_66 iconst_0 ?_
        refine x_iret dX0_isBefore_67 rfl (by first | exact bI_nar _ | exact n1_nar | exact n0_nar) ?_
        rw [show decide (bfK q ht o < bfK q ht p) = false from by rw [decide_eq_false_iff_not]; unfold bfK; rw [if_neg (by rw [y1]; decide), if_neg (by rw [y1]; decide)]; omega] at hQ
        exact hQ
      · refine x_iconst dX0_isBefore_62 iconst_1 ?_
        refine x_goto 67 dX0_isBefore_63 rfl ?_
        refine x_iret dX0_isBefore_67 rfl (by first | exact bI_nar _ | exact n1_nar | exact n0_nar) ?_
        rw [show decide (bfK q ht o < bfK q ht p) = true from by rw [decide_eq_true_eq]; unfold bfK; rw [if_neg (by rw [y1]; decide), if_neg (by rw [y1]; decide)]; omega] at hQ
        exact hQ
    · refine x_iload_n dX0_isBefore_30 rfl ?_
      refine x_iload_n dX0_isBefore_31 rfl ?_
      refine n_icmp_ge 39 dX0_isBefore_32 rfl (by omega) (by omega) (fun h5 => ?_) (fun h5 => ?_)
      · refine x_iconst dX0_isBefore_39 iconst_0 ?_
        refine x_iret dX0_isBefore_40 rfl (by first | exact bI_nar _ | exact n1_nar | exact n0_nar) ?_
        rw [show decide (bfK q ht o < bfK q ht p) = false from by rw [decide_eq_false_iff_not]; unfold bfK; rw [if_neg (by rw [y1]; decide), if_neg (by rw [y1]; decide)]; omega] at hQ
        exact hQ
      · refine x_iconst dX0_isBefore_35 iconst_1 ?_
        refine x_goto 40 dX0_isBefore_36 rfl ?_
        refine x_iret dX0_isBefore_40 rfl (by first | exact bI_nar _ | exact n1_nar | exact n0_nar) ?_
        rw [show decide (bfK q ht o < bfK q ht p) = true from by rw [decide_eq_true_eq]; unfold bfK; rw [if_neg (by rw [y1]; decide), if_neg (by rw [y1]; decide)]; omega] at hQ
        exact hQ
set_option maxRecDepth 100000 in
set_option maxHeartbeats 4000000 in
theorem k_findCourse {E : vE} {l : Launch} {Q : Option Value → vS → vM → Prop} {L : Nat} {M : vM} {w h : Nat} {ht : Nat → Nat} {g : Nat} {q : vQ} (V : SpV w h ht q) (K : SpC M w h ht g q) (hg : g < 6) {D : Nat → Option Nat} (hv : ∀ c x, c < w * h → D c = some x → x ≤ 36) (B : ∀ c, c < w * h → M 18 (36 * g + c) = oI (-1) (D c)) {c : Nat} (hc : c < w * h) (hQ : Q (some (.int (oI (-1) ((fcS w h (ldC q ht D c) (bfK q ht) c 4).map Prod.fst)))) (S0 L) M) : PM E l mX0_findCourse 0 [.ref 12, .int (nI g), .int (nI c), .null, .null, .null, .null] [] (S0 L) M 0 0 Q := by
  have H := V.1
  have e4 := H.le
  have hT := V.2.2.1
  have hF := V.fa
  have l1 : PM E l mX0_findCourse 8 [.ref 12, .int (nI g), .int (nI c), .int (oI (-1) ((fcS w h (ldC q ht D c) (bfK q ht) c 0).map Prod.fst)), .int (oI (-1) ((fcS w h (ldC q ht D c) (bfK q ht) c 0).map Prod.snd)), .int (nI 0), .null] [] (S0 L) M 0 0 Q := by
    refine lp_up (P := fun i => PM E l mX0_findCourse 8 [.ref 12, .int (nI g), .int (nI c), .int (oI (-1) ((fcS w h (ldC q ht D c) (bfK q ht) c i).map Prod.fst)), .int (oI (-1) ((fcS w h (ldC q ht D c) (bfK q ht) c i).map Prod.snd)), .int (nI i), .null] [] (S0 L) M 0 0 Q) 4 ?_ ?_ 0 (by omega)
    · skip
      refine x_iload dX0_findCourse_8 rfl ?_
      refine x_iconst dX0_findCourse_10 iconst_4 ?_
      refine n_icmp_ge 71 dX0_findCourse_11 rfl (by omega) (by omega) (fun h1 => ?_) (fun h1 => by omega)
      refine x_iload_n dX0_findCourse_71 rfl ?_
      refine x_iret dX0_findCourse_72 rfl rfl ?_
      exact hQ
    · intro i hi ih
      refine x_iload dX0_findCourse_8 rfl ?_
      refine x_iconst dX0_findCourse_10 iconst_4 ?_
      refine n_icmp_ge 71 dX0_findCourse_11 rfl (by omega) (by omega) (fun h1 => by omega) (fun h1 => ?_)
      refine x_aload_n dX0_findCourse_14 rfl ?_
      refine g_R (s0_12 L) fkX0_37 rfl rfl rfl dX0_findCourse_15 ?_
      refine g_R (s0_4 L) fkX0_68 rfl rfl rfl dX0_findCourse_18 ?_
      refine x_iconst dX0_findCourse_21 iconst_4 ?_
      refine x_iload_n dX0_findCourse_22 rfl ?_
      refine n_imul dX0_findCourse_23 ?_
      refine x_iload dX0_findCourse_24 rfl ?_
      refine n_iadd dX0_findCourse_26 ?_
      refine n_iald (s0_7 L) (by omega) rfl dX0_findCourse_27 ?_
      refine x_as (K.1.2 c i hc hi) ?_
      rcases hnb : nb w h c i with _ | o
      · refine x_istore dX0_findCourse_28 (by decide) rfl ?_
        refine x_aload_n dX0_findCourse_30 rfl ?_
        refine x_iload_n dX0_findCourse_31 rfl ?_
        refine x_iload_n dX0_findCourse_32 rfl ?_
        refine x_iload dX0_findCourse_33 rfl ?_
        refine cV3 (mj := mX0_leads) lkX0_85 okX0_leads imX0_leads seX0_leads (s0_12 L) rfl rfl rfl rfl rfl dX0_findCourse_35 rfl (k_leads V K hg hv B hc (fun o e => by first | (cases e; done) | (cases e; exact ho)) ?_)
        refine b_if_eq 65 dX0_findCourse_38 rfl (fun y1 => ?_) (fun y1 => by cases y1)
        refine n_inc dX0_findCourse_65 rfl rfl ?_
        refine x_goto 8 dX0_findCourse_68 rfl ?_
        refine x_mask [true, true, true, true, true, true, false] ?_
        have ih2 := ih
        rw [fc_no hnb] at ih2
        exact ih2
      · have ho := nb_lt H hc hnb
        refine x_istore dX0_findCourse_28 (by decide) rfl ?_
        refine x_aload_n dX0_findCourse_30 rfl ?_
        refine x_iload_n dX0_findCourse_31 rfl ?_
        refine x_iload_n dX0_findCourse_32 rfl ?_
        refine x_iload dX0_findCourse_33 rfl ?_
        refine cV3 (mj := mX0_leads) lkX0_85 okX0_leads imX0_leads seX0_leads (s0_12 L) rfl rfl rfl rfl rfl dX0_findCourse_35 rfl (k_leads V K hg hv B hc (fun o e => by first | (cases e; done) | (cases e; exact ho)) ?_)
        refine b_if_eq 65 dX0_findCourse_38 rfl (fun y1 => ?_) (fun y1 => ?_)
        · refine n_inc dX0_findCourse_65 rfl rfl ?_
          refine x_goto 8 dX0_findCourse_68 rfl ?_
          refine x_mask [true, true, true, true, true, true, false] ?_
          have ih2 := ih
          rw [fc_off hnb y1] at ih2
          exact ih2
        · refine x_iload dX0_findCourse_41 rfl ?_
          rcases hfc : (fcS w h (ldC q ht D c) (bfK q ht) c i) with _ | p
          · refine x_if_lt 58 dX0_findCourse_43 rfl (fun y2 => ?_) (fun y2 => by exact absurd (show (-1 : Int32) < 0 by decide) y2)
            refine x_iload dX0_findCourse_58 rfl ?_
            refine x_istore_n dX0_findCourse_60 (by decide) rfl ?_
            refine x_iload dX0_findCourse_61 rfl ?_
            refine x_istore dX0_findCourse_63 (by decide) rfl ?_
            refine n_inc dX0_findCourse_65 rfl rfl ?_
            refine x_goto 8 dX0_findCourse_68 rfl ?_
            refine x_mask [true, true, true, true, true, true, false] ?_
            have ih2 := ih
            rw [fc_new hnb y1 hfc] at ih2
            exact ih2
          · obtain ⟨p1, p2, p3, p4⟩ := fc_some i p hfc
            have hp := nb_lt H hc p2
            refine x_as (show oI (-1) (Option.map Prod.snd (some p)) = nI p.2 from rfl) ?_
            refine x_if_lt 58 dX0_findCourse_43 rfl (fun y2 => by exact absurd y2 (nI_pos (by omega))) (fun y2 => ?_)
            refine x_aload_n dX0_findCourse_46 rfl ?_
            refine x_iload_n dX0_findCourse_47 rfl ?_
            refine x_iload dX0_findCourse_48 rfl ?_
            refine x_iload dX0_findCourse_50 rfl ?_
            refine cV3 (mj := mX0_isBefore) lkX0_88 okX0_isBefore imX0_isBefore seX0_isBefore (s0_12 L) rfl rfl rfl rfl rfl dX0_findCourse_52 rfl (k_isBefore V K hg ho hp ?_)
            refine b_if_eq 65 dX0_findCourse_55 rfl (fun y3 => ?_) (fun y3 => ?_)
            · refine n_inc dX0_findCourse_65 rfl rfl ?_
              refine x_goto 8 dX0_findCourse_68 rfl ?_
              refine x_mask [true, true, true, true, true, true, false] ?_
              have ih2 := ih
              rw [fc_ge hnb y1 hfc (of_decide_eq_false y3)] at ih2
              exact ih2
            · refine x_iload dX0_findCourse_58 rfl ?_
              refine x_istore_n dX0_findCourse_60 (by decide) rfl ?_
              refine x_iload dX0_findCourse_61 rfl ?_
              refine x_istore dX0_findCourse_63 (by decide) rfl ?_
              refine n_inc dX0_findCourse_65 rfl rfl ?_
              refine x_goto 8 dX0_findCourse_68 rfl ?_
              refine x_mask [true, true, true, true, true, true, false] ?_
              have ih2 := ih
              rw [fc_lt hnb y1 hfc (of_decide_eq_true y3)] at ih2
              exact ih2
  refine x_iconst dX0_findCourse_0 iconst_m1 ?_
  refine x_istore_n dX0_findCourse_1 (by decide) rfl ?_
  refine x_iconst dX0_findCourse_2 iconst_m1 ?_
  refine x_istore dX0_findCourse_3 (by decide) rfl ?_
  refine x_iconst dX0_findCourse_5 iconst_0 ?_
  refine x_istore dX0_findCourse_6 (by decide) rfl ?_
  exact l1

theorem fb_holes : ∀ (m n : Nat) (f : Nat → Nat), (∀ i, i < n → f i < m) → (∀ i j, i < j → j < n → f i ≠ f j) → n ≤ m := by
  intro m
  induction m with
  | zero =>
    intro n f h1 _
    rcases Nat.eq_zero_or_pos n with h | h
    · omega
    · exact absurd (h1 0 h) (Nat.not_lt_zero _)
  | succ m ih =>
    intro n f h1 h2
    by_cases hx : ∃ i, i < n ∧ f i = m
    · obtain ⟨a, ha, hfa⟩ := hx
      have hg := ih (n - 1) (fun i => if i < a then f i else f (i + 1)) (by
        intro i hi
        by_cases q : i < a
        · simp only [if_pos q]
          have b1 := h1 i (by omega)
          have b2 := h2 i a q ha
          omega
        · simp only [if_neg q]
          have b1 := h1 (i + 1) (by omega)
          have b2 := h2 a (i + 1) (by omega) (by omega)
          omega) (by
        intro i j hij hj
        by_cases q : i < a
        · by_cases r : j < a
          · simp only [if_pos q, if_pos r]
            exact h2 i j hij (by omega)
          · simp only [if_pos q, if_neg r]
            exact h2 i (j + 1) (by omega) (by omega)
        · have r : ¬ j < a := by omega
          simp only [if_neg q, if_neg r]
          exact h2 (i + 1) (j + 1) (by omega) (by omega))
      omega
    · have hg := ih n f (fun i hi => by
        have b1 := h1 i hi
        have b2 : f i ≠ m := fun e => hx ⟨i, hi, e⟩
        omega) h2
      omega
/-- is g in the row -/
def inRow (q : Nat × (Nat → Nat)) (g : Nat) : Prop := ∃ k, k < q.1 ∧ q.2 k = g
theorem row_room {ng g : Nat} {q : Nat × (Nat → Nat)} (hr : ∀ k, k < q.1 → q.2 k < ng) (hd : ∀ i j, i < q.1 → j < q.1 → q.2 i = q.2 j → i = j) (hg : g < ng) (hn : ¬ inRow q g) : q.1 < ng := by
  have := fb_holes ng (q.1 + 1) (fun i => if i < q.1 then q.2 i else g) (fun i hi => by
    by_cases e : i < q.1
    · simp only [if_pos e]; exact hr i e
    · simp only [if_neg e]; exact hg) (fun i j hij hj => by
    have hi : i < q.1 := by omega
    simp only [if_pos hi]
    by_cases e : j < q.1
    · simp only [if_pos e]; intro z; have := hd i j hi e z; omega
    · simp only [if_neg e]; intro z; exact hn ⟨i, hi, z⟩)
  omega
def addRow (q : Nat × (Nat → Nat)) (g : Nat) : Nat × (Nat → Nat) := (q.1 + 1, fun k => if k = q.1 then g else q.2 k)
def setRow (Rw : Nat → Nat × (Nat → Nat)) (s : Nat) (q : Nat × (Nat → Nat)) : Nat → Nat × (Nat → Nat) := fun i => if i = s then q else Rw i
/-- the first of n with p whose number among them is i -/
def fnd (p : Nat → Bool) (i : Int32) : Nat → Option Nat
  | 0 => none
  | n + 1 => match fnd p i n with
    | some c => some c
    | none => if p n = true ∧ nI (ctt p n) = i then some n else none
theorem fnd_no {p : Nat → Bool} {i : Int32} {n : Nat} (h : fnd p i n = none) (h2 : ¬ (p n = true ∧ nI (ctt p n) = i)) : fnd p i (n + 1) = none := by simp only [fnd, h, if_neg h2]
theorem fnd_yes {p : Nat → Bool} {i : Int32} {n : Nat} (h : fnd p i n = none) (h2 : p n = true ∧ nI (ctt p n) = i) : ∀ m, fnd p i (n + 1 + m) = some n
  | 0 => by simp only [fnd, h, if_pos h2]
  | m + 1 => by
    show (match fnd p i (n + 1 + m) with | some c => some c | none => _) = _
    rw [fnd_yes h h2 m]
set_option maxRecDepth 100000 in
set_option maxHeartbeats 4000000 in
theorem m_then {E : vE} {l : Launch} {Q : Option Value → vS → vM → Prop} {L : Nat} {M : vM} {w h : Nat} {ht rk : Nat → Nat} {ns : Nat} {T : Nat → vT} {ng : Nat} {G : Nat → vQ} {Rw : Nat → Nat × (Nat → Nat)} {nz : Nat} {U : Nat → vU} {O : Nat → Nat} (VV : Val w h ht rk ns T ng G Rw nz U O) (RR : RepM M w h ht rk ns T ng G Rw nz U O) {x y : Int32} (hN : ¬ (INr 0 2 x ∧ INn ng y) → Q (some (.int (-900001))) (S0 L) M) (hS : ∀ s g : Nat, (0 ≤ s ∧ s ≤ 2) → g < ng → x = nI s → y = nI g → inRow (Rw s) g → Q (some (.int (-900003))) (S0 L) M) (hY : ∀ s g : Nat, (0 ≤ s ∧ s ≤ 2) → g < ng → x = nI s → y = nI g → ¬ inRow (Rw s) g → (Rw s).1 < ng → ∀ M1 : vM, (∀ q, q < 42 → M1 q = M q) → RepM M1 w h ht rk ns T ng G (setRow Rw s (addRow (Rw s) g)) nz U O → Q (some (.int (nI ((Rw s).1 + 1)))) (S0 L) M1) : PM E l mX9_then 0 [.ref 42, .int x, .int y, .null] [] (S0 L) M 0 0 Q := by
  obtain ⟨V, SVv, ZV, RV, OV⟩ := VV
  obtain ⟨K, SM, ZM, RO, OM⟩ := RR
  have H := V.1
  have e4 := H.le
  have e6 := H.pos
  have hng := V.2.2.1
  have hns := SVv.1
  have hnz := ZV.1
  refine x_iload_n dX9_then_0 rfl ?_
  refine cS1 (mj := mX9_isSlot) lkX9_173 okX9_isSlot stX9_isSlot rfl rfl rfl rfl dX9_then_1 rfl (m_isSlot _ (fun b0 b0h => ?_))
  have k0 := in_two (x := 0) b0h
  refine b_if_eq 15 dX9_then_4 rfl (fun z0 => ?_) (fun z0 => ?_)
  · refine x_ldc kcX9_122 dX9_then_15 ?_
    refine x_iret dX9_then_17 rfl rfl ?_
    exact hN (fun z => k0.2 z0 z.1)
  · refine x_aload_n dX9_then_7 rfl ?_
    refine x_iload_n dX9_then_8 rfl ?_
    refine cV1 (mj := mX9_isGo) lkX9_157 okX9_isGo imX9_isGo seX9_isGo (s0_42 L) rfl rfl rfl rfl rfl dX9_then_9 rfl (m_isGo (by omega) K.2.2.2.1 _ (fun b1 b1h => ?_))
    have k1 := in_two (x := 0) b1h
    refine b_if_ne 18 dX9_then_12 rfl (fun z1 => ?_) (fun z1 => ?_)
    · obtain ⟨s, hs, rfl⟩ := k0.1 z0
      obtain ⟨g, hg, rfl⟩ := k1.1 z1
      have rv := RV s (by omega)
      have hl6 := rv.1.1
      refine x_iconst dX9_then_18 iconst_0 ?_
      refine x_istore_n dX9_then_19 (by decide) rfl ?_
      have l1 : (∀ k, k < 0 → (Rw s).2 k ≠ g) → PM E l mX9_then 20 [.ref 42, .int (nI s), .int (nI g), .int (nI 0)] [] (S0 L) M 0 0 Q := by
        refine lp_up (P := fun i => (∀ k, k < i → (Rw s).2 k ≠ g) → PM E l mX9_then 20 [.ref 42, .int (nI s), .int (nI g), .int (nI i)] [] (S0 L) M 0 0 Q) (Rw s).1 ?_ ?_ 0 (Nat.zero_le _)
        · intro g1
          refine x_iload_n dX9_then_20 rfl ?_
          refine x_aload_n dX9_then_21 rfl ?_
          refine g_R (s0_42 L) fkX9_47 rfl rfl rfl dX9_then_22 ?_
          refine x_iload_n dX9_then_25 rfl ?_
          refine n_iald (s0_55 L) (by omega) rfl dX9_then_26 ?_
          refine x_as (RO s (by omega)).1 ?_
          refine n_icmp_ge 54 dX9_then_27 rfl (by omega) (by omega) (fun h1 => ?_) (fun h1 => by omega)
          have hnr : ¬ inRow (Rw s) g := fun ⟨k, hk, e⟩ => g1 k hk e
          have hroom := row_room rv.1.2 rv.2.2 hg hnr
          refine x_aload_n dX9_then_54 rfl ?_
          refine g_R (s0_42 L) fkX9_50 rfl rfl rfl dX9_then_55 ?_
          refine x_bipush dX9_then_58 bipush_6 ?_
          refine x_iload_n dX9_then_60 rfl ?_
          refine n_imul dX9_then_61 ?_
          refine x_aload_n dX9_then_62 rfl ?_
          refine g_R (s0_42 L) fkX9_47 rfl rfl rfl dX9_then_63 ?_
          refine x_iload_n dX9_then_66 rfl ?_
          refine n_iald (s0_55 L) (by omega) rfl dX9_then_67 ?_
          refine x_as (RO s (by omega)).1 ?_
          refine n_iadd dX9_then_68 ?_
          refine x_iload_n dX9_then_69 rfl ?_
          refine n_iast rfl (s0_56 L) (by omega) rfl dX9_then_70 ?_
          refine x_aload_n dX9_then_71 rfl ?_
          refine g_R (s0_42 L) fkX9_47 rfl rfl rfl dX9_then_72 ?_
          refine x_iload_n dX9_then_75 rfl ?_
          refine x_dup2 dX9_then_76 rfl rfl ?_
          refine n_iald (s0_55 L) (by omega) rfl dX9_then_77 ?_
          refine x_as (RO s (by omega)).1 ?_
          refine x_iconst dX9_then_78 iconst_1 ?_
          refine n_iadd dX9_then_79 ?_
          refine n_iast rfl (s0_55 L) (by omega) rfl dX9_then_80 ?_
          refine x_aload_n dX9_then_81 rfl ?_
          refine g_R (s0_42 L) fkX9_47 rfl rfl rfl dX9_then_82 ?_
          refine x_iload_n dX9_then_85 rfl ?_
          refine n_iald (s0_55 L) (by omega) rfl dX9_then_86 ?_
          refine x_as (show _ = nI ((Rw s).1 + 1) from upd_at _ _ _) ?_
          refine x_iret dX9_then_87 rfl rfl ?_
          refine hY s g hs hg rfl rfl hnr hroom _ (fun q hq => ?_) ⟨K, SM, ZM, fun i hi => ?_, OM⟩
          · rw [sM_ne _ _ _ (by omega), sM_ne _ _ _ (by omega)]
          · show upd (M 55) s (nI ((Rw s).1 + 1)) i = nI (if i = s then addRow (Rw s) g else Rw i).1 ∧ ∀ k, k < (if i = s then addRow (Rw s) g else Rw i).1 → upd (M 56) (6 * s + (Rw s).1) (nI g) (6 * i + k) = nI ((if i = s then addRow (Rw s) g else Rw i).2 k)
            by_cases e : i = s
            · subst e
              rw [if_pos rfl, upd_at]
              refine ⟨rfl, fun k hk => ?_⟩
              show _ = nI (if k = (Rw i).1 then g else (Rw i).2 k)
              by_cases e : k = (Rw i).1
              · rw [e, if_pos rfl, upd_at]
              · rw [if_neg e, upd_ne _ _ (by omega)]; exact (RO i (by omega)).2 k (by have : k < (Rw i).1 + 1 := hk; omega)
            · rw [if_neg e, upd_ne _ _ e]
              have rvi := RV i hi
              refine ⟨(RO i hi).1, fun k hk => ?_⟩
              rw [upd_ne _ _ (by have := rvi.1.1; omega)]
              exact (RO i hi).2 k hk
        · intro i hi ih g1
          refine x_iload_n dX9_then_20 rfl ?_
          refine x_aload_n dX9_then_21 rfl ?_
          refine g_R (s0_42 L) fkX9_47 rfl rfl rfl dX9_then_22 ?_
          refine x_iload_n dX9_then_25 rfl ?_
          refine n_iald (s0_55 L) (by omega) rfl dX9_then_26 ?_
          refine x_as (RO s (by omega)).1 ?_
          refine n_icmp_ge 54 dX9_then_27 rfl (by omega) (by omega) (fun h1 => by omega) (fun h1 => ?_)
          refine x_aload_n dX9_then_30 rfl ?_
          refine g_R (s0_42 L) fkX9_50 rfl rfl rfl dX9_then_31 ?_
          refine x_bipush dX9_then_34 bipush_6 ?_
          refine x_iload_n dX9_then_36 rfl ?_
          refine n_imul dX9_then_37 ?_
          refine x_iload_n dX9_then_38 rfl ?_
          refine n_iadd dX9_then_39 ?_
          refine n_iald (s0_56 L) (by omega) rfl dX9_then_40 ?_
          refine x_as ((RO s (by omega)).2 i hi) ?_
          refine x_iload_n dX9_then_41 rfl ?_
          refine n_icmp_ne 48 dX9_then_42 rfl (by have := rv.1.2 i hi; omega) (by omega) (fun z5 => ?_) (fun z5 => ?_)
          · refine n_inc dX9_then_48 rfl rfl ?_
            refine x_goto 20 dX9_then_51 rfl ?_
            exact ih (fun k hk => by
              by_cases e : k = i
              · rw [e]; exact z5
              · exact g1 k (by omega))
          · refine x_ldc kcX9_176 dX9_then_45 ?_
            refine x_iret dX9_then_47 rfl rfl ?_
            exact hS s g hs hg rfl rfl ⟨i, hi, z5⟩
      exact l1 (fun k hk => absurd hk (Nat.not_lt_zero k))
    · refine x_ldc kcX9_122 dX9_then_15 ?_
      refine x_iret dX9_then_17 rfl rfl ?_
      exact hN (fun z => k1.2 z1 z.2)
set_option maxRecDepth 100000 in
set_option maxHeartbeats 4000000 in
theorem m_clear {E : vE} {l : Launch} {Q : Option Value → vS → vM → Prop} {L : Nat} {M : vM} {w h : Nat} {ht rk : Nat → Nat} {ns : Nat} {T : Nat → vT} {ng : Nat} {G : Nat → vQ} {Rw : Nat → Nat × (Nat → Nat)} {nz : Nat} {U : Nat → vU} {O : Nat → Nat} (VV : Val w h ht rk ns T ng G Rw nz U O) (RR : RepM M w h ht rk ns T ng G Rw nz U O) {x : Int32} (hN : ¬ INr 0 2 x → Q (some (.int (-900001))) (S0 L) M) (hY : ∀ s : Nat, (0 ≤ s ∧ s ≤ 2) → x = nI s → ∀ M1 : vM, (∀ q, q < 42 → M1 q = M q) → RepM M1 w h ht rk ns T ng G (setRow Rw s (0, (Rw s).2)) nz U O → Q (some (.int (nI (Rw s).1))) (S0 L) M1) : PM E l mX9_clear 0 [.ref 42, .int x, .null] [] (S0 L) M 0 0 Q := by
  obtain ⟨V, SVv, ZV, RV, OV⟩ := VV
  obtain ⟨K, SM, ZM, RO, OM⟩ := RR
  have H := V.1
  have e4 := H.le
  have e6 := H.pos
  have hng := V.2.2.1
  have hns := SVv.1
  have hnz := ZV.1
  refine x_iload_n dX9_clear_0 rfl ?_
  refine cS1 (mj := mX9_isSlot) lkX9_173 okX9_isSlot stX9_isSlot rfl rfl rfl rfl dX9_clear_1 rfl (m_isSlot _ (fun b0 b0h => ?_))
  have k0 := in_two (x := 0) b0h
  refine b_if_ne 10 dX9_clear_4 rfl (fun z0 => ?_) (fun z0 => ?_)
  · obtain ⟨s, hs, rfl⟩ := k0.1 z0
    refine x_aload_n dX9_clear_10 rfl ?_
    refine g_R (s0_42 L) fkX9_47 rfl rfl rfl dX9_clear_11 ?_
    refine x_iload_n dX9_clear_14 rfl ?_
    refine n_iald (s0_55 L) (by omega) rfl dX9_clear_15 ?_
    refine x_as (RO s (by omega)).1 ?_
    refine x_istore_n dX9_clear_16 (by decide) rfl ?_
    refine x_aload_n dX9_clear_17 rfl ?_
    refine g_R (s0_42 L) fkX9_47 rfl rfl rfl dX9_clear_18 ?_
    refine x_iload_n dX9_clear_21 rfl ?_
    refine x_iconst dX9_clear_22 iconst_0 ?_
    refine n_iast rfl (s0_55 L) (by omega) rfl dX9_clear_23 ?_
    refine x_iload_n dX9_clear_24 rfl ?_
    refine x_iret dX9_clear_25 rfl rfl ?_
    refine hY s hs rfl _ (fun q hq => sM_ne _ _ _ (by omega)) ⟨K, SM, ZM, fun i hi => ?_, OM⟩
    show upd (M 55) s (nI 0) i = nI (if i = s then (0, (Rw s).2) else Rw i).1 ∧ ∀ k, k < (if i = s then (0, (Rw s).2) else Rw i).1 → M 56 (6 * i + k) = nI ((if i = s then (0, (Rw s).2) else Rw i).2 k)
    by_cases e : i = s
    · subst e; rw [if_pos rfl, upd_at]; exact ⟨rfl, fun k hk => absurd hk (Nat.not_lt_zero k)⟩
    · rw [if_neg e, upd_ne _ _ e]; exact RO i hi
  · refine x_ldc kcX9_122 dX9_clear_7 ?_
    refine x_iret dX9_clear_9 rfl rfl ?_
    exact hN (k0.2 z0)
set_option maxRecDepth 100000 in
set_option maxHeartbeats 4000000 in
theorem m_told {E : vE} {l : Launch} {Q : Option Value → vS → vM → Prop} {L : Nat} {M : vM} {w h : Nat} {ht rk : Nat → Nat} {ns : Nat} {T : Nat → vT} {ng : Nat} {G : Nat → vQ} {Rw : Nat → Nat × (Nat → Nat)} {nz : Nat} {U : Nat → vU} {O : Nat → Nat} (VV : Val w h ht rk ns T ng G Rw nz U O) (RR : RepM M w h ht rk ns T ng G Rw nz U O) {x y : Int32} (hN : ¬ INr 0 2 x → Q (some (.int (-900001))) (S0 L) M) (hO : ∀ s : Nat, (0 ≤ s ∧ s ≤ 2) → x = nI s → ¬ INn (Rw s).1 y → Q (some (.int (-900009))) (S0 L) M) (hY : ∀ s j : Nat, (0 ≤ s ∧ s ≤ 2) → j < (Rw s).1 → x = nI s → y = nI j → Q (some (.int (nI ((Rw s).2 j)))) (S0 L) M) : PM E l mX9_told 0 [.ref 42, .int x, .int y] [] (S0 L) M 0 0 Q := by
  obtain ⟨V, SVv, ZV, RV, OV⟩ := VV
  obtain ⟨K, SM, ZM, RO, OM⟩ := RR
  have H := V.1
  have e4 := H.le
  have e6 := H.pos
  have hng := V.2.2.1
  have hns := SVv.1
  have hnz := ZV.1
  refine x_iload_n dX9_told_0 rfl ?_
  refine cS1 (mj := mX9_isSlot) lkX9_173 okX9_isSlot stX9_isSlot rfl rfl rfl rfl dX9_told_1 rfl (m_isSlot _ (fun b0 b0h => ?_))
  have k0 := in_two (x := 0) b0h
  refine b_if_ne 10 dX9_told_4 rfl (fun z0 => ?_) (fun z0 => ?_)
  · obtain ⟨s, hs, rfl⟩ := k0.1 z0
    have rv := RV s (by omega)
    have hl6 := rv.1.1
    refine x_iload_n dX9_told_10 rfl ?_
    refine x_i2l dX9_told_11 ?_
    refine x_lconst dX9_told_12 rfl ?_
    refine x_aload_n dX9_told_13 rfl ?_
    refine g_R (s0_42 L) fkX9_47 rfl rfl rfl dX9_told_14 ?_
    refine x_iload_n dX9_told_17 rfl ?_
    refine n_iald (s0_55 L) (by omega) rfl dX9_told_18 ?_
    refine x_as (RO s (by omega)).1 ?_
    refine x_iconst dX9_told_19 iconst_1 ?_
    refine x_isub dX9_told_20 ?_
    refine x_i2l dX9_told_21 ?_
    refine cS3 (mj := mX9_in) lkX9_107 okX9_in stX9_in rfl rfl rfl rfl dX9_told_22 rfl (c_in _ _ _ (fun b1 b1h => ?_))
    have k1 := in_two (x := 0) (b1h.trans ((in64 (p' := 0) (q' := nI (Rw s).1 - 1) (by decide) rfl _).trans (in_nat (by omega) _)))
    refine b_if_eq 42 dX9_told_25 rfl (fun z1 => ?_) (fun z1 => ?_)
    · refine x_ldc kcX9_134 dX9_told_42 ?_
      refine x_iret dX9_told_44 rfl rfl ?_
      exact hO s hs rfl (k1.2 z1)
    · obtain ⟨j, hj, rfl⟩ := k1.1 z1
      refine x_aload_n dX9_told_28 rfl ?_
      refine g_R (s0_42 L) fkX9_50 rfl rfl rfl dX9_told_29 ?_
      refine x_bipush dX9_told_32 bipush_6 ?_
      refine x_iload_n dX9_told_34 rfl ?_
      refine n_imul dX9_told_35 ?_
      refine x_iload_n dX9_told_36 rfl ?_
      refine n_iadd dX9_told_37 ?_
      refine n_iald (s0_56 L) (by omega) rfl dX9_told_38 ?_
      refine x_as ((RO s (by omega)).2 j hj) ?_
      refine x_goto 44 dX9_told_39 rfl ?_
      refine x_iret dX9_told_44 rfl rfl ?_
      exact hY s j hs hj rfl rfl
  · refine x_ldc kcX9_122 dX9_told_7 ?_
    refine x_iret dX9_told_9 rfl rfl ?_
    exact hN (k0.2 z0)
set_option maxRecDepth 100000 in
set_option maxHeartbeats 4000000 in
theorem m_ends {E : vE} {l : Launch} {Q : Option Value → vS → vM → Prop} {L : Nat} {M : vM} {w h : Nat} {ht rk : Nat → Nat} {ns : Nat} {T : Nat → vT} {ng : Nat} {G : Nat → vQ} {Rw : Nat → Nat × (Nat → Nat)} {nz : Nat} {U : Nat → vU} {O : Nat → Nat} (VV : Val w h ht rk ns T ng G Rw nz U O) (RR : RepM M w h ht rk ns T ng G Rw nz U O) {x y v : Int32} (hN : ¬ (INr 0 2 x ∧ INn (w * h) y) → Q (some (.int (-900001))) (S0 L) M) (hO : INr 0 2 x → INn (w * h) y → ¬ INr 1 9 v → Q (some (.int (-900002))) (S0 L) M) (hY : ∀ s c t : Nat, (0 ≤ s ∧ s ≤ 2) → c < w * h → (1 ≤ t ∧ t ≤ 9) → x = nI s → y = nI c → v = nI t → ∀ M1 : vM, (∀ q, q < 42 → M1 q = M q) → RepM M1 w h ht rk ns T ng G Rw nz U O → Q (some (.int (nI (endS w h ht G (Rw s).2 t (Rw s).1 c)))) (S0 L) M1) : PM E l mX9_ends 0 [.ref 42, .int x, .int y, .int v] [] (S0 L) M 0 0 Q := by
  have RR0 := RR
  have VV0 := VV
  obtain ⟨V, SVv, ZV, RV, OV⟩ := VV
  obtain ⟨K, SM, ZM, RO, OM⟩ := RR
  have H := V.1
  have e4 := H.le
  have e6 := H.pos
  have hng := V.2.2.1
  have hns := SVv.1
  have hnz := ZV.1
  refine x_iload_n dX9_ends_0 rfl ?_
  refine cS1 (mj := mX9_isSlot) lkX9_173 okX9_isSlot stX9_isSlot rfl rfl rfl rfl dX9_ends_1 rfl (m_isSlot _ (fun b0 b0h => ?_))
  have k0 := in_two (x := 0) b0h
  refine b_if_eq 15 dX9_ends_4 rfl (fun z0 => ?_) (fun z0 => ?_)
  · refine x_ldc kcX9_122 dX9_ends_15 ?_
    refine x_iret dX9_ends_17 rfl rfl ?_
    exact hN (fun z => k0.2 z0 z.1)
  · refine x_aload_n dX9_ends_7 rfl ?_
    refine x_iload_n dX9_ends_8 rfl ?_
    refine cV1 (mj := mX9_isCell) lkX9_118 okX9_isCell imX9_isCell seX9_isCell (s0_42 L) rfl rfl rfl rfl rfl dX9_ends_9 rfl (m_isCell (by omega) K.1 K.2.1 _ (fun b1 b1h => ?_))
    have k1 := in_two (x := 0) b1h
    refine b_if_ne 18 dX9_ends_12 rfl (fun z1 => ?_) (fun z1 => ?_)
    · refine x_iload_n dX9_ends_18 rfl ?_
      refine cS1 (mj := mX9_isWeight) lkX9_127 okX9_isWeight stX9_isWeight rfl rfl rfl rfl dX9_ends_19 rfl (m_isWeight _ (fun b2 b2h => ?_))
      have k2 := in_two (x := 0) b2h
      refine b_if_ne 28 dX9_ends_22 rfl (fun z2 => ?_) (fun z2 => ?_)
      · obtain ⟨s, hs, rfl⟩ := k0.1 z0
        obtain ⟨c, hc, rfl⟩ := k1.1 z1
        obtain ⟨t, ht1, rfl⟩ := k2.1 z2
        have rv := RV s (by omega)
        have hl6 := rv.1.1
        refine x_aload_n dX9_ends_28 rfl ?_
        refine x_iload_n dX9_ends_29 rfl ?_
        refine cV1 (mj := mX9_layRow) lkX9_180 okX9_layRow imX9_layRow seX9_layRow (s0_42 L) rfl rfl rfl rfl rfl dX9_ends_30 rfl (m_layRow V K (s := s) (by omega) rv.1.1 (RO s (by omega)).1 (RO s (by omega)).2 (fun M1 y1 y2 y3 D y5 => ?_))
        have K1 := K.kept2 (fun q hq => y1 q (by revert q; decide)) (fun j hj => y2 j (by revert j; decide))
        have S1 := SM.kept (fun q hq => y1 q (by revert q; decide)) (y2 4 (by decide))
        have Z1 := ZM.kept (fun q hq => y1 q (by revert q; decide)) (y2 20 (by decide))
        have R1 := RR0.scr y1 (by decide) (fun j hj => y2 j (by revert j; decide))
        have L1 := low_of y1 (by decide)
        have RW1 : RwM M1 (Rw s).1 (Rw s).2 := ⟨y3, y5⟩
        refine x_aload_n dX9_ends_33 rfl ?_
        refine x_iload_n dX9_ends_34 rfl ?_
        refine x_iload_n dX9_ends_35 rfl ?_
        refine cV2 (mj := mX9_endOf) lkX9_183 okX9_endOf imX9_endOf seX9_endOf (s0_42 L) rfl rfl rfl rfl rfl dX9_ends_36 rfl (m_endOf V K1 D rv.1 RW1 hc ht1.1 ht1.2 ?_)
        refine x_iret dX9_ends_39 rfl rfl ?_
        exact hY s c t hs hc ht1 rfl rfl rfl M1 L1 R1
      · refine x_ldc kcX9_117 dX9_ends_25 ?_
        refine x_iret dX9_ends_27 rfl rfl ?_
        exact hO (k0.1 z0) (k1.1 z1) (k2.2 z2)
    · refine x_ldc kcX9_122 dX9_ends_15 ?_
      refine x_iret dX9_ends_17 rfl rfl ?_
      exact hN (fun z => k1.2 z1 z.2)
set_option maxRecDepth 100000 in
set_option maxHeartbeats 4000000 in
theorem m_whence {E : vE} {l : Launch} {Q : Option Value → vS → vM → Prop} {L : Nat} {M : vM} {w h : Nat} {ht rk : Nat → Nat} {ns : Nat} {T : Nat → vT} {ng : Nat} {G : Nat → vQ} {Rw : Nat → Nat × (Nat → Nat)} {nz : Nat} {U : Nat → vU} {O : Nat → Nat} (VV : Val w h ht rk ns T ng G Rw nz U O) (RR : RepM M w h ht rk ns T ng G Rw nz U O) {x y : Int32} (hN : ¬ (INr 0 2 x ∧ INn ns y) → Q (some (.int (-900001))) (S0 L) M) (hY : ∀ s t : Nat, (0 ≤ s ∧ s ≤ 2) → t < ns → x = nI s → y = nI t → ∀ M1 : vM, (∀ q, q < 42 → M1 q = M q) → RepM M1 w h ht rk ns T ng G Rw nz U O → Q (some (.int (nI (ctt (whn w h ht G (Rw s).2 (Rw s).1 rk (T t)) (w * h))))) (S0 L) M1) : PM E l mX9_whence 0 [.ref 42, .int x, .int y] [] (S0 L) M 0 0 Q := by
  have RR0 := RR
  have VV0 := VV
  obtain ⟨V, SVv, ZV, RV, OV⟩ := VV
  obtain ⟨K, SM, ZM, RO, OM⟩ := RR
  have H := V.1
  have e4 := H.le
  have e6 := H.pos
  have hng := V.2.2.1
  have hns := SVv.1
  have hnz := ZV.1
  refine x_iload_n dX9_whence_0 rfl ?_
  refine cS1 (mj := mX9_isSlot) lkX9_173 okX9_isSlot stX9_isSlot rfl rfl rfl rfl dX9_whence_1 rfl (m_isSlot _ (fun b0 b0h => ?_))
  have k0 := in_two (x := 0) b0h
  refine b_if_eq 15 dX9_whence_4 rfl (fun z0 => ?_) (fun z0 => ?_)
  · refine x_ldc kcX9_122 dX9_whence_15 ?_
    refine x_iret dX9_whence_17 rfl rfl ?_
    exact hN (fun z => k0.2 z0 z.1)
  · refine x_aload_n dX9_whence_7 rfl ?_
    refine x_iload_n dX9_whence_8 rfl ?_
    refine cV1 (mj := mX9_isStone) lkX9_131 okX9_isStone imX9_isStone seX9_isStone (s0_42 L) rfl rfl rfl rfl rfl dX9_whence_9 rfl (m_isStone (by omega) SM.1 _ (fun b1 b1h => ?_))
    have k1 := in_two (x := 0) b1h
    refine b_if_ne 18 dX9_whence_12 rfl (fun z1 => ?_) (fun z1 => ?_)
    · obtain ⟨s, hs, rfl⟩ := k0.1 z0
      obtain ⟨t, htt, rfl⟩ := k1.1 z1
      have rv := RV s (by omega)
      have hl6 := rv.1.1
      refine x_aload_n dX9_whence_18 rfl ?_
      refine x_iload_n dX9_whence_19 rfl ?_
      refine cV1 (mj := mX9_layRow) lkX9_180 okX9_layRow imX9_layRow seX9_layRow (s0_42 L) rfl rfl rfl rfl rfl dX9_whence_20 rfl (m_layRow V K (s := s) (by omega) rv.1.1 (RO s (by omega)).1 (RO s (by omega)).2 (fun M1 y1 y2 y3 D y5 => ?_))
      have K1 := K.kept2 (fun q hq => y1 q (by revert q; decide)) (fun j hj => y2 j (by revert j; decide))
      have S1 := SM.kept (fun q hq => y1 q (by revert q; decide)) (y2 4 (by decide))
      have Z1 := ZM.kept (fun q hq => y1 q (by revert q; decide)) (y2 20 (by decide))
      have R1 := RR0.scr y1 (by decide) (fun j hj => y2 j (by revert j; decide))
      have L1 := low_of y1 (by decide)
      have RW1 : RwM M1 (Rw s).1 (Rw s).2 := ⟨y3, y5⟩
      refine x_aload_n dX9_whence_23 rfl ?_
      refine x_iload_n dX9_whence_24 rfl ?_
      refine cV1 (mj := mX9_whenceOf) lkX9_189 okX9_whenceOf imX9_whenceOf seX9_whenceOf (s0_42 L) rfl rfl rfl rfl rfl dX9_whence_25 rfl (m_whenceOf V K1 D rv.1 RW1 SVv S1 htt ?_)
      refine x_iret dX9_whence_28 rfl rfl ?_
      exact hY s t hs htt rfl rfl M1 L1 R1
    · refine x_ldc kcX9_122 dX9_whence_15 ?_
      refine x_iret dX9_whence_17 rfl rfl ?_
      exact hN (fun z => k1.2 z1 z.2)
set_option maxRecDepth 100000 in
set_option maxHeartbeats 4000000 in
theorem m_from {E : vE} {l : Launch} {Q : Option Value → vS → vM → Prop} {L : Nat} {M : vM} {w h : Nat} {ht rk : Nat → Nat} {ns : Nat} {T : Nat → vT} {ng : Nat} {G : Nat → vQ} {Rw : Nat → Nat × (Nat → Nat)} {nz : Nat} {U : Nat → vU} {O : Nat → Nat} (VV : Val w h ht rk ns T ng G Rw nz U O) (RR : RepM M w h ht rk ns T ng G Rw nz U O) {x y v : Int32} (hN : ¬ (INr 0 2 x ∧ INn ns y) → Q (some (.int (-900001))) (S0 L) M) (hY : ∀ s t : Nat, (0 ≤ s ∧ s ≤ 2) → t < ns → x = nI s → y = nI t → ∀ M1 : vM, (∀ q, q < 42 → M1 q = M q) → RepM M1 w h ht rk ns T ng G Rw nz U O → Q (some (.int (oI (-900009) (fnd (whn w h ht G (Rw s).2 (Rw s).1 rk (T t)) v (w * h))))) (S0 L) M1) : PM E l mX9_from 0 [.ref 42, .int x, .int y, .int v, .null, .null] [] (S0 L) M 0 0 Q := by
  have RR0 := RR
  have VV0 := VV
  obtain ⟨V, SVv, ZV, RV, OV⟩ := VV
  obtain ⟨K, SM, ZM, RO, OM⟩ := RR
  have H := V.1
  have e4 := H.le
  have e6 := H.pos
  have hng := V.2.2.1
  have hns := SVv.1
  have hnz := ZV.1
  refine x_iload_n dX9_from_0 rfl ?_
  refine cS1 (mj := mX9_isSlot) lkX9_173 okX9_isSlot stX9_isSlot rfl rfl rfl rfl dX9_from_1 rfl (m_isSlot _ (fun b0 b0h => ?_))
  have k0 := in_two (x := 0) b0h
  refine b_if_eq 15 dX9_from_4 rfl (fun z0 => ?_) (fun z0 => ?_)
  · refine x_ldc kcX9_122 dX9_from_15 ?_
    refine x_iret dX9_from_17 rfl rfl ?_
    exact hN (fun z => k0.2 z0 z.1)
  · refine x_aload_n dX9_from_7 rfl ?_
    refine x_iload_n dX9_from_8 rfl ?_
    refine cV1 (mj := mX9_isStone) lkX9_131 okX9_isStone imX9_isStone seX9_isStone (s0_42 L) rfl rfl rfl rfl rfl dX9_from_9 rfl (m_isStone (by omega) SM.1 _ (fun b1 b1h => ?_))
    have k1 := in_two (x := 0) b1h
    refine b_if_ne 18 dX9_from_12 rfl (fun z1 => ?_) (fun z1 => ?_)
    · obtain ⟨s, hs, rfl⟩ := k0.1 z0
      obtain ⟨t, htt, rfl⟩ := k1.1 z1
      have rv := RV s (by omega)
      have hl6 := rv.1.1
      refine x_aload_n dX9_from_18 rfl ?_
      refine x_iload_n dX9_from_19 rfl ?_
      refine cV1 (mj := mX9_layRow) lkX9_180 okX9_layRow imX9_layRow seX9_layRow (s0_42 L) rfl rfl rfl rfl rfl dX9_from_20 rfl (m_layRow V K (s := s) (by omega) rv.1.1 (RO s (by omega)).1 (RO s (by omega)).2 (fun M1 y1 y2 y3 D y5 => ?_))
      have K1 := K.kept2 (fun q hq => y1 q (by revert q; decide)) (fun j hj => y2 j (by revert j; decide))
      have S1 := SM.kept (fun q hq => y1 q (by revert q; decide)) (y2 4 (by decide))
      have Z1 := ZM.kept (fun q hq => y1 q (by revert q; decide)) (y2 20 (by decide))
      have R1 := RR0.scr y1 (by decide) (fun j hj => y2 j (by revert j; decide))
      have L1 := low_of y1 (by decide)
      have RW1 : RwM M1 (Rw s).1 (Rw s).2 := ⟨y3, y5⟩
      refine x_iconst dX9_from_23 iconst_0 ?_
      refine x_istore dX9_from_24 (by decide) rfl ?_
      refine x_iconst dX9_from_26 iconst_0 ?_
      refine x_istore dX9_from_27 (by decide) rfl ?_
      have l1 : fnd (whn w h ht G (Rw s).2 (Rw s).1 rk (T t)) v 0 = none → PM E l mX9_from 29 [.ref 42, .int (nI s), .int (nI t), .int v, .int (nI (ctt (whn w h ht G (Rw s).2 (Rw s).1 rk (T t)) 0)), .int (nI 0)] [] (S0 L) M1 0 0 Q := by
        refine lp_up (P := fun i => fnd (whn w h ht G (Rw s).2 (Rw s).1 rk (T t)) v i = none → PM E l mX9_from 29 [.ref 42, .int (nI s), .int (nI t), .int v, .int (nI (ctt (whn w h ht G (Rw s).2 (Rw s).1 rk (T t)) i)), .int (nI i)] [] (S0 L) M1 0 0 Q) (w * h) ?_ ?_ 0 (by omega)
        · intro g1
          refine x_iload dX9_from_29 rfl ?_
          refine x_aload_n dX9_from_31 rfl ?_
          refine cV0 (mj := mX9_cells) lkX9_103 okX9_cells imX9_cells seX9_cells (s0_42 L) rfl rfl rfl rfl rfl dX9_from_32 rfl (m_cells K1.1 K1.2.1 ?_)
          refine n_icmp_ge 66 dX9_from_35 rfl (by omega) (by omega) (fun h1 => ?_) (fun h1 => by omega)
          refine x_ldc kcX9_134 dX9_from_66 ?_
          refine x_iret dX9_from_68 rfl rfl ?_
          have h9 := hY s t hs htt rfl rfl M1 L1 R1
          rw [g1] at h9
          exact h9
        · intro i hi ih g1
          refine x_iload dX9_from_29 rfl ?_
          refine x_aload_n dX9_from_31 rfl ?_
          refine cV0 (mj := mX9_cells) lkX9_103 okX9_cells imX9_cells seX9_cells (s0_42 L) rfl rfl rfl rfl rfl dX9_from_32 rfl (m_cells K1.1 K1.2.1 ?_)
          refine n_icmp_ge 66 dX9_from_35 rfl (by omega) (by omega) (fun h1 => by omega) (fun h1 => ?_)
          refine x_aload_n dX9_from_38 rfl ?_
          refine x_iload_n dX9_from_39 rfl ?_
          refine x_iload dX9_from_40 rfl ?_
          refine cV2 (mj := mX9_isWhence) lkX9_186 okX9_isWhence imX9_isWhence seX9_isWhence (s0_42 L) rfl rfl rfl rfl rfl dX9_from_42 rfl (m_isWhence V K1 D rv.1 RW1 SVv S1 htt hi ?_)
          refine b_if_eq 60 dX9_from_45 rfl (fun z2 => ?_) (fun z2 => ?_)
          · refine n_inc dX9_from_60 rfl rfl ?_
            refine x_goto 29 dX9_from_63 rfl ?_
            have ih2 := ih (fnd_no g1 (fun z => by rw [z2] at z; cases z.1))
            rw [show ctt (whn w h ht G (Rw s).2 (Rw s).1 rk (T t)) (i + 1) = ctt (whn w h ht G (Rw s).2 (Rw s).1 rk (T t)) i + 0 from by simp only [ctt, z2, Bool.false_eq_true, if_false, if_true]] at ih2
            exact ih2
          · refine x_iload dX9_from_48 rfl ?_
            refine x_iload_n dX9_from_50 rfl ?_
            refine x_icmp_ne 57 dX9_from_51 rfl (fun z3 => ?_) (fun z3 => ?_)
            · refine n_inc dX9_from_57 rfl rfl ?_
              refine n_inc dX9_from_60 rfl rfl ?_
              refine x_goto 29 dX9_from_63 rfl ?_
              have ih2 := ih (fnd_no g1 (fun z => z3 z.2))
              rw [show ctt (whn w h ht G (Rw s).2 (Rw s).1 rk (T t)) (i + 1) = ctt (whn w h ht G (Rw s).2 (Rw s).1 rk (T t)) i + 1 from by simp only [ctt, z2, Bool.false_eq_true, if_false, if_true]] at ih2
              exact ih2
            · refine x_iload dX9_from_54 rfl ?_
              refine x_iret dX9_from_56 rfl rfl ?_
              have h9 := hY s t hs htt rfl rfl M1 L1 R1
              rw [show w * h = i + 1 + (w * h - (i + 1)) from by omega, fnd_yes g1 ⟨z2, z3⟩] at h9
              exact h9
      exact l1 rfl
    · refine x_ldc kcX9_122 dX9_from_15 ?_
      refine x_iret dX9_from_17 rfl rfl ?_
      exact hN (fun z => k1.2 z1 z.2)
set_option maxRecDepth 100000 in
set_option maxHeartbeats 4000000 in
theorem m_explains {E : vE} {l : Launch} {Q : Option Value → vS → vM → Prop} {L : Nat} {M : vM} {w h : Nat} {ht rk : Nat → Nat} {ns : Nat} {T : Nat → vT} {ng : Nat} {G : Nat → vQ} {Rw : Nat → Nat × (Nat → Nat)} {nz : Nat} {U : Nat → vU} {O : Nat → Nat} (VV : Val w h ht rk ns T ng G Rw nz U O) (RR : RepM M w h ht rk ns T ng G Rw nz U O) {x y : Int32} (hN : ¬ (INr 0 2 x ∧ INn nz y) → Q (some (.int (-900001))) (S0 L) M) (hY : ∀ s i : Nat, (0 ≤ s ∧ s ≤ 2) → i < nz → x = nI s → y = nI i → ∀ M1 : vM, (∀ q, q < 42 → M1 q = M q) → RepM M1 w h ht rk ns T ng G Rw nz U O → Q (some (.int (bI (expl w h ht G (Rw s).2 (Rw s).1 rk T (U i))))) (S0 L) M1) : PM E l mX9_explains 0 [.ref 42, .int x, .int y] [] (S0 L) M 0 0 Q := by
  have RR0 := RR
  have VV0 := VV
  obtain ⟨V, SVv, ZV, RV, OV⟩ := VV
  obtain ⟨K, SM, ZM, RO, OM⟩ := RR
  have H := V.1
  have e4 := H.le
  have e6 := H.pos
  have hng := V.2.2.1
  have hns := SVv.1
  have hnz := ZV.1
  refine x_iload_n dX9_explains_0 rfl ?_
  refine cS1 (mj := mX9_isSlot) lkX9_173 okX9_isSlot stX9_isSlot rfl rfl rfl rfl dX9_explains_1 rfl (m_isSlot _ (fun b0 b0h => ?_))
  have k0 := in_two (x := 0) b0h
  refine b_if_eq 15 dX9_explains_4 rfl (fun z0 => ?_) (fun z0 => ?_)
  · refine x_ldc kcX9_122 dX9_explains_15 ?_
    refine x_iret dX9_explains_17 rfl rfl ?_
    exact hN (fun z => k0.2 z0 z.1)
  · refine x_aload_n dX9_explains_7 rfl ?_
    refine x_iload_n dX9_explains_8 rfl ?_
    refine cV1 (mj := mX9_isSign) lkX9_197 okX9_isSign imX9_isSign seX9_isSign (s0_42 L) rfl rfl rfl rfl rfl dX9_explains_9 rfl (m_isSign (by omega) ZM.1 _ (fun b1 b1h => ?_))
    have k1 := in_two (x := 0) b1h
    refine b_if_ne 18 dX9_explains_12 rfl (fun z1 => ?_) (fun z1 => ?_)
    · obtain ⟨s, hs, rfl⟩ := k0.1 z0
      obtain ⟨i, hi, rfl⟩ := k1.1 z1
      have rv := RV s (by omega)
      have hl6 := rv.1.1
      refine x_aload_n dX9_explains_18 rfl ?_
      refine x_iload_n dX9_explains_19 rfl ?_
      refine cV1 (mj := mX9_layRow) lkX9_180 okX9_layRow imX9_layRow seX9_layRow (s0_42 L) rfl rfl rfl rfl rfl dX9_explains_20 rfl (m_layRow V K (s := s) (by omega) rv.1.1 (RO s (by omega)).1 (RO s (by omega)).2 (fun M1 y1 y2 y3 D y5 => ?_))
      have K1 := K.kept2 (fun q hq => y1 q (by revert q; decide)) (fun j hj => y2 j (by revert j; decide))
      have S1 := SM.kept (fun q hq => y1 q (by revert q; decide)) (y2 4 (by decide))
      have Z1 := ZM.kept (fun q hq => y1 q (by revert q; decide)) (y2 20 (by decide))
      have R1 := RR0.scr y1 (by decide) (fun j hj => y2 j (by revert j; decide))
      have L1 := low_of y1 (by decide)
      have RW1 : RwM M1 (Rw s).1 (Rw s).2 := ⟨y3, y5⟩
      refine x_aload_n dX9_explains_23 rfl ?_
      refine x_iload_n dX9_explains_24 rfl ?_
      refine cV1 (mj := mX9_isExplained) lkX9_210 okX9_isExplained imX9_isExplained seX9_isExplained (s0_42 L) rfl rfl rfl rfl rfl dX9_explains_25 rfl (m_isExplained V K1 D rv.1 RW1 SVv S1 ZV Z1 hi ?_)
      refine b_if_eq 35 dX9_explains_28 rfl (fun z2 => ?_) (fun z2 => ?_)
      · refine x_iconst dX9_explains_35 iconst_0 ?_
        refine x_iret dX9_explains_36 rfl rfl ?_
        have h9 := hY s i hs hi rfl rfl M1 L1 R1
        rw [z2] at h9
        exact h9
      · refine x_iconst dX9_explains_31 iconst_1 ?_
        refine x_goto 36 dX9_explains_32 rfl ?_
        refine x_iret dX9_explains_36 rfl rfl ?_
        have h9 := hY s i hs hi rfl rfl M1 L1 R1
        rw [z2] at h9
        exact h9
    · refine x_ldc kcX9_122 dX9_explains_15 ?_
      refine x_iret dX9_explains_17 rfl rfl ?_
      exact hN (fun z => k1.2 z1 z.2)
set_option maxRecDepth 100000 in
set_option maxHeartbeats 4000000 in
theorem m_costs {E : vE} {l : Launch} {Q : Option Value → vS → vM → Prop} {L : Nat} {M : vM} {w h : Nat} {ht rk : Nat → Nat} {ns : Nat} {T : Nat → vT} {ng : Nat} {G : Nat → vQ} {Rw : Nat → Nat × (Nat → Nat)} {nz : Nat} {U : Nat → vU} {O : Nat → Nat} (VV : Val w h ht rk ns T ng G Rw nz U O) (RR : RepM M w h ht rk ns T ng G Rw nz U O) {x : Int32} (hN : ¬ INr 0 2 x → Q (some (.int (-900001))) (S0 L) M) (hY : ∀ s : Nat, (0 ≤ s ∧ s ≤ 2) → x = nI s → ∀ M1 : vM, (∀ q, q < 42 → M1 q = M q) → RepM M1 w h ht rk ns T ng G Rw nz U O → Q (some (.int (nI (cst w h ht G (Rw s).2 (Rw s).1 rk T U nz)))) (S0 L) M1) : PM E l mX9_costs 0 [.ref 42, .int x] [] (S0 L) M 0 0 Q := by
  have RR0 := RR
  have VV0 := VV
  obtain ⟨V, SVv, ZV, RV, OV⟩ := VV
  obtain ⟨K, SM, ZM, RO, OM⟩ := RR
  have H := V.1
  have e4 := H.le
  have e6 := H.pos
  have hng := V.2.2.1
  have hns := SVv.1
  have hnz := ZV.1
  refine x_iload_n dX9_costs_0 rfl ?_
  refine cS1 (mj := mX9_isSlot) lkX9_173 okX9_isSlot stX9_isSlot rfl rfl rfl rfl dX9_costs_1 rfl (m_isSlot _ (fun b0 b0h => ?_))
  have k0 := in_two (x := 0) b0h
  refine b_if_ne 10 dX9_costs_4 rfl (fun z0 => ?_) (fun z0 => ?_)
  · obtain ⟨s, hs, rfl⟩ := k0.1 z0
    have rv := RV s (by omega)
    have hl6 := rv.1.1
    refine x_aload_n dX9_costs_10 rfl ?_
    refine x_iload_n dX9_costs_11 rfl ?_
    refine cV1 (mj := mX9_layRow) lkX9_180 okX9_layRow imX9_layRow seX9_layRow (s0_42 L) rfl rfl rfl rfl rfl dX9_costs_12 rfl (m_layRow V K (s := s) (by omega) rv.1.1 (RO s (by omega)).1 (RO s (by omega)).2 (fun M1 y1 y2 y3 D y5 => ?_))
    have K1 := K.kept2 (fun q hq => y1 q (by revert q; decide)) (fun j hj => y2 j (by revert j; decide))
    have S1 := SM.kept (fun q hq => y1 q (by revert q; decide)) (y2 4 (by decide))
    have Z1 := ZM.kept (fun q hq => y1 q (by revert q; decide)) (y2 20 (by decide))
    have R1 := RR0.scr y1 (by decide) (fun j hj => y2 j (by revert j; decide))
    have L1 := low_of y1 (by decide)
    have RW1 : RwM M1 (Rw s).1 (Rw s).2 := ⟨y3, y5⟩
    refine x_aload_n dX9_costs_15 rfl ?_
    refine cV0 (mj := mX9_costOf) lkX9_213 okX9_costOf imX9_costOf seX9_costOf (s0_42 L) rfl rfl rfl rfl rfl dX9_costs_16 rfl (m_costOf V K1 D rv.1 RW1 SVv S1 ZV Z1 ?_)
    refine x_iret dX9_costs_19 rfl rfl ?_
    exact hY s hs rfl M1 L1 R1
  · refine x_ldc kcX9_122 dX9_costs_7 ?_
    refine x_iret dX9_costs_9 rfl rfl ?_
    exact hN (k0.2 z0)

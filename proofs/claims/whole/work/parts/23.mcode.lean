def dg (code k : Nat) : Nat := code / (if k = 0 then 49 else if k = 1 then 7 else 1) % 7
theorem dg_lt (code k : Nat) : dg code k < 7 := Nat.mod_lt _ (by omega)
/-- while a code is read: may it be, has it ended, how many goes, which -/
abbrev vL : Type := Bool × Bool × Nat × (Nat → Nat)
def lcT (ng a : Nat) (s : vL) : vL :=
  if a = 0 then (s.1, true, s.2.2) else (s.1 && decide (a - 1 < ng) && !s.2.1 && !anyK (fun i => decide (s.2.2.2 i = a - 1)) s.2.2.1, s.2.1, s.2.2.1 + 1, fun i => if i = s.2.2.1 then a - 1 else s.2.2.2 i)
def lcS (ng code : Nat) : Nat → vL
  | 0 => (true, false, 0, fun _ => 0)
  | k + 1 => lcT ng (dg code k) (lcS ng code k)
theorem lcS_m (ng code : Nat) : ∀ k, (lcS ng code k).2.2.1 ≤ k
  | 0 => Nat.le_refl _
  | k + 1 => by
    have := lcS_m ng code k
    simp only [lcS, lcT]
    split <;> simp only <;> omega
theorem lcS_may {ng code : Nat} : ∀ k, (lcS ng code k).1 = true → ∀ i, i < (lcS ng code k).2.2.1 → (lcS ng code k).2.2.2 i < ng
  | 0, _, i, hi => absurd hi (Nat.not_lt_zero i)
  | k + 1, hm, i, hi => by
    simp only [lcS, lcT] at hm hi ⊢
    by_cases h0 : dg code k = 0
    · rw [if_pos h0] at hm hi ⊢
      exact lcS_may k hm i hi
    · rw [if_neg h0] at hm hi ⊢
      simp only [Bool.and_eq_true, decide_eq_true_eq] at hm hi ⊢
      by_cases e : i = (lcS ng code k).2.2.1
      · rw [if_pos e]; exact hm.1.1.2
      · rw [if_neg e]; exact lcS_may k hm.1.1.1 i (by omega)
set_option maxRecDepth 100000 in
set_option maxHeartbeats 4000000 in
theorem m_lcNeg {E : vE} {l : Launch} {Q : Option Value → vS → vM → Prop} {L : Nat} {M : vM} {ng code k : Nat} {may ends : Bool} (hn6 : ng ≤ 6) (h8 : M 42 8 = nI ng) (kk : PM E l mX9_layCode 158 [.ref 42, .int (nI code), .int (bI may), .int (bI true), .int (nI k), .int (-1), .null] [] (S0 L) M 0 0 Q) : PM E l mX9_layCode 49 [.ref 42, .int (nI code), .int (bI may), .int (bI ends), .int (nI k), .int (-1), .null] [] (S0 L) M 0 0 Q := by
  refine x_iload_n dX9_layCode_49 rfl ?_
  refine b_if_eq 75 dX9_layCode_50 rfl (fun z1 => ?_) (fun z1 => ?_)
  · refine x_iconst dX9_layCode_75 iconst_0 ?_
    refine x_istore_n dX9_layCode_76 (by decide) rfl ?_
    refine x_iload_n dX9_layCode_77 rfl ?_
    refine b_if_ne 86 dX9_layCode_78 rfl (fun z5 => ?_) (fun z5 => ?_)
    · refine x_iconst dX9_layCode_86 iconst_1 ?_
      refine x_goto 91 dX9_layCode_87 rfl ?_
      refine x_istore_n dX9_layCode_91 (by decide) rfl ?_
      refine x_iload dX9_layCode_92 rfl ?_
      refine x_if_lt 158 dX9_layCode_94 rfl (fun z7 => ?_) (fun z7 => by exact absurd (by decide : (-1 : Int32) < 0) z7)
      rw [z1] at kk
      exact kk
    · refine x_iload dX9_layCode_81 rfl ?_
      refine x_if_ge 90 dX9_layCode_83 rfl (fun z6 => by exact absurd z6 (by decide)) (fun z6 => ?_)
      refine x_iconst dX9_layCode_86 iconst_1 ?_
      refine x_goto 91 dX9_layCode_87 rfl ?_
      refine x_istore_n dX9_layCode_91 (by decide) rfl ?_
      refine x_iload dX9_layCode_92 rfl ?_
      refine x_if_lt 158 dX9_layCode_94 rfl (fun z7 => ?_) (fun z7 => by exact absurd (by decide : (-1 : Int32) < 0) z7)
      rw [z1] at kk
      exact kk
  · refine x_iload dX9_layCode_53 rfl ?_
    refine x_aload_n dX9_layCode_55 rfl ?_
    refine g_I (s0_42 L) fkX9_97 rfl rfl dX9_layCode_56 ?_
    refine x_as h8 ?_
    refine x_icmp_ge 75 dX9_layCode_59 rfl (fun z2 => by exact absurd z2 (Int32.not_le.mpr (Int32.lt_of_lt_of_le (b := nI 0) (by decide) (nI_pos' (by omega))))) (fun z2 => ?_)
    refine x_iload_n dX9_layCode_62 rfl ?_
    refine b_if_eq 71 dX9_layCode_63 rfl (fun z3 => ?_) (fun z3 => ?_)
    · refine x_iconst dX9_layCode_71 iconst_1 ?_
      refine x_goto 76 dX9_layCode_72 rfl ?_
      refine x_istore_n dX9_layCode_76 (by decide) rfl ?_
      refine x_iload_n dX9_layCode_77 rfl ?_
      refine b_if_ne 86 dX9_layCode_78 rfl (fun z5 => ?_) (fun z5 => ?_)
      · refine x_iconst dX9_layCode_86 iconst_1 ?_
        refine x_goto 91 dX9_layCode_87 rfl ?_
        refine x_istore_n dX9_layCode_91 (by decide) rfl ?_
        refine x_iload dX9_layCode_92 rfl ?_
        refine x_if_lt 158 dX9_layCode_94 rfl (fun z7 => ?_) (fun z7 => by exact absurd (by decide : (-1 : Int32) < 0) z7)
        rw [z1] at kk
        exact kk
      · refine x_iload dX9_layCode_81 rfl ?_
        refine x_if_ge 90 dX9_layCode_83 rfl (fun z6 => by exact absurd z6 (by decide)) (fun z6 => ?_)
        refine x_iconst dX9_layCode_86 iconst_1 ?_
        refine x_goto 91 dX9_layCode_87 rfl ?_
        refine x_istore_n dX9_layCode_91 (by decide) rfl ?_
        refine x_iload dX9_layCode_92 rfl ?_
        refine x_if_lt 158 dX9_layCode_94 rfl (fun z7 => ?_) (fun z7 => by exact absurd (by decide : (-1 : Int32) < 0) z7)
        rw [z1] at kk
        exact kk
    · refine x_iload dX9_layCode_66 rfl ?_
      refine x_if_ge 75 dX9_layCode_68 rfl (fun z4 => by exact absurd z4 (by decide)) (fun z4 => ?_)
      refine x_iconst dX9_layCode_71 iconst_1 ?_
      refine x_goto 76 dX9_layCode_72 rfl ?_
      refine x_istore_n dX9_layCode_76 (by decide) rfl ?_
      refine x_iload_n dX9_layCode_77 rfl ?_
      refine b_if_ne 86 dX9_layCode_78 rfl (fun z5 => ?_) (fun z5 => ?_)
      · refine x_iconst dX9_layCode_86 iconst_1 ?_
        refine x_goto 91 dX9_layCode_87 rfl ?_
        refine x_istore_n dX9_layCode_91 (by decide) rfl ?_
        refine x_iload dX9_layCode_92 rfl ?_
        refine x_if_lt 158 dX9_layCode_94 rfl (fun z7 => ?_) (fun z7 => by exact absurd (by decide : (-1 : Int32) < 0) z7)
        rw [z1] at kk
        exact kk
      · refine x_iload dX9_layCode_81 rfl ?_
        refine x_if_ge 90 dX9_layCode_83 rfl (fun z6 => by exact absurd z6 (by decide)) (fun z6 => ?_)
        refine x_iconst dX9_layCode_86 iconst_1 ?_
        refine x_goto 91 dX9_layCode_87 rfl ?_
        refine x_istore_n dX9_layCode_91 (by decide) rfl ?_
        refine x_iload dX9_layCode_92 rfl ?_
        refine x_if_lt 158 dX9_layCode_94 rfl (fun z7 => ?_) (fun z7 => by exact absurd (by decide : (-1 : Int32) < 0) z7)
        rw [z1] at kk
        exact kk
set_option maxRecDepth 100000 in
set_option maxHeartbeats 4000000 in
theorem m_lcPos {E : vE} {l : Launch} {Q : Option Value → vS → vM → Prop} {L : Nat} {M : vM} {ng code k b m : Nat} {r : Nat → Nat} {may ends : Bool} (hn6 : ng ≤ 6) (h8 : M 42 8 = nI ng) (hb : b ≤ 5) (hm : m < 6) (RM : RwM M m r) (hr : ∀ i, i < m → r i ≤ 5) (kk : ∀ M1 : vM, Fr [42, 57] M M1 → (∀ j, j ≠ 18 → M1 42 j = M 42 j) → RwM M1 (m + 1) (fun i => if i = m then b else r i) → PM E l mX9_layCode 158 [.ref 42, .int (nI code), .int (bI ((may && decide (b < ng) && !ends) && !(anyK (fun i => decide (r i = b)) m))), .int (bI ends), .int (nI k), .int (nI b), .null] [] (S0 L) M1 0 0 Q) : PM E l mX9_layCode 49 [.ref 42, .int (nI code), .int (bI may), .int (bI ends), .int (nI k), .int (nI b), .null] [] (S0 L) M 0 0 Q := by
  have hm3 := hm
  have l1 : PM E l mX9_layCode 100 [.ref 42, .int (nI code), .int (bI ((may && decide (b < ng) && !ends) && !(anyK (fun i => decide (r i = b)) 0))), .int (bI ends), .int (nI k), .int (nI b), .int (nI 0)] [] (S0 L) M 0 0 Q := by
    refine lp_up (P := fun j => PM E l mX9_layCode 100 [.ref 42, .int (nI code), .int (bI ((may && decide (b < ng) && !ends) && !(anyK (fun i => decide (r i = b)) j))), .int (bI ends), .int (nI k), .int (nI b), .int (nI j)] [] (S0 L) M 0 0 Q) m ?_ ?_ 0 (Nat.zero_le _)
    · skip
      refine x_iload dX9_layCode_100 rfl ?_
      refine x_aload_n dX9_layCode_102 rfl ?_
      refine g_I (s0_42 L) fkX9_177 rfl rfl dX9_layCode_103 ?_
      refine x_as RM.1 ?_
      refine n_icmp_ge 137 dX9_layCode_106 rfl (by omega) (by omega) (fun h1 => ?_) (fun h1 => by omega)
      refine x_aload_n dX9_layCode_137 rfl ?_
      refine g_R (s0_42 L) fkX9_53 rfl rfl rfl dX9_layCode_138 ?_
      refine x_aload_n dX9_layCode_141 rfl ?_
      refine g_I (s0_42 L) fkX9_177 rfl rfl dX9_layCode_142 ?_
      refine x_as RM.1 ?_
      refine x_iload dX9_layCode_145 rfl ?_
      refine n_iast rfl (s0_57 L) (by omega) rfl dX9_layCode_147 ?_
      refine x_aload_n dX9_layCode_148 rfl ?_
      refine x_dup dX9_layCode_149 rfl ?_
      refine g_I (s0_42 L) fkX9_177 rfl rfl dX9_layCode_150 ?_
      refine x_as RM.1 ?_
      refine x_iconst dX9_layCode_153 iconst_1 ?_
      refine n_iadd dX9_layCode_154 ?_
      refine g_P (s0_42 L) fkX9_177 rfl rfl rfl rfl dX9_layCode_155 ?_
      refine x_mask [true, true, true, true, true, true, false] ?_
      refine kk _ ((Fr.rf.set _ (by decide)).set _ (by decide)) (fun j hj => ?_) ⟨?_, fun i hi => ?_⟩
      · exact upd_ne _ _ hj
      · rfl
      · show upd (M 57) m (nI b) i = nI (if i = m then b else r i)
        by_cases e : i = m
        · rw [e, upd_at, if_pos rfl]
        · rw [upd_ne _ _ e, if_neg e]; exact RM.2 i (by omega)
    · intro j hj ih
      refine x_iload dX9_layCode_100 rfl ?_
      refine x_aload_n dX9_layCode_102 rfl ?_
      refine g_I (s0_42 L) fkX9_177 rfl rfl dX9_layCode_103 ?_
      refine x_as RM.1 ?_
      refine n_icmp_ge 137 dX9_layCode_106 rfl (by omega) (by omega) (fun h1 => by omega) (fun h1 => ?_)
      have hrj := hr j hj
      refine x_iload_n dX9_layCode_109 rfl ?_
      refine b_if_eq 129 dX9_layCode_110 rfl (fun z1 => ?_) (fun z1 => ?_)
      · refine x_iconst dX9_layCode_129 iconst_0 ?_
        refine x_istore_n dX9_layCode_130 (by decide) rfl ?_
        refine n_inc dX9_layCode_131 rfl rfl ?_
        refine x_goto 100 dX9_layCode_134 rfl ?_
        have ih2 := ih
        rw [show ((may && decide (b < ng) && !ends) && !(anyK (fun i => decide (r i = b)) (j + 1))) = false from by
          simp only [Bool.and_eq_false_iff, Bool.not_eq_false'] at z1 ⊢
          rcases z1 with z1 | z1
          · exact Or.inl z1
          · exact Or.inr (anyK_t z1)] at ih2
        exact ih2
      · refine x_aload_n dX9_layCode_113 rfl ?_
        refine g_R (s0_42 L) fkX9_53 rfl rfl rfl dX9_layCode_114 ?_
        refine x_iload dX9_layCode_117 rfl ?_
        refine n_iald (s0_57 L) (by omega) rfl dX9_layCode_119 ?_
        refine x_as (RM.2 j hj) ?_
        refine x_iload dX9_layCode_120 rfl ?_
        refine n_icmp_eq 129 dX9_layCode_122 rfl (by omega) (by omega) (fun z2 => ?_) (fun z2 => ?_)
        · refine x_iconst dX9_layCode_129 iconst_0 ?_
          refine x_istore_n dX9_layCode_130 (by decide) rfl ?_
          refine n_inc dX9_layCode_131 rfl rfl ?_
          refine x_goto 100 dX9_layCode_134 rfl ?_
          have ih2 := ih
          rw [show ((may && decide (b < ng) && !ends) && !(anyK (fun i => decide (r i = b)) (j + 1))) = false from by
            simp only [Bool.and_eq_true, Bool.not_eq_true'] at z1
            rw [anyK_f z1.2, decide_eq_true z2]
            simp] at ih2
          exact ih2
        · refine x_iconst dX9_layCode_125 iconst_1 ?_
          refine x_goto 130 dX9_layCode_126 rfl ?_
          refine x_istore_n dX9_layCode_130 (by decide) rfl ?_
          refine n_inc dX9_layCode_131 rfl rfl ?_
          refine x_goto 100 dX9_layCode_134 rfl ?_
          have ih2 := ih
          rw [show ((may && decide (b < ng) && !ends) && !(anyK (fun i => decide (r i = b)) (j + 1))) = true from by
            have z3 := z1
            simp only [Bool.and_eq_true, Bool.not_eq_true'] at z1
            rw [anyK_f z1.2, decide_eq_false z2]
            simp only [Bool.and_eq_true] at z3 ⊢
            exact ⟨z3.1, rfl⟩] at ih2
          exact ih2
  have s2 : PM E l mX9_layCode 77 [.ref 42, .int (nI code), .int (bI (may && decide (b < ng) && !ends)), .int (bI ends), .int (nI k), .int (nI b), .null] [] (S0 L) M 0 0 Q := by
    have s3 : PM E l mX9_layCode 92 [.ref 42, .int (nI code), .int (bI (may && decide (b < ng) && !ends)), .int (bI ends), .int (nI k), .int (nI b), .null] [] (S0 L) M 0 0 Q := by
      refine x_iload dX9_layCode_92 rfl ?_
      refine x_if_lt 158 dX9_layCode_94 rfl (fun z7 => by exact absurd z7 (nI_pos (by omega))) (fun z7 => ?_)
      refine x_iconst dX9_layCode_97 iconst_0 ?_
      refine x_istore dX9_layCode_98 (by decide) rfl ?_
      have l2 := l1
      rw [show ((may && decide (b < ng) && !ends) && !(anyK (fun i => decide (r i = b)) 0)) = (may && decide (b < ng) && !ends) from by simp [anyK, itr]] at l2
      exact l2
    refine x_iload_n dX9_layCode_77 rfl ?_
    refine b_if_ne 86 dX9_layCode_78 rfl (fun z5 => ?_) (fun z5 => ?_)
    · refine x_iconst dX9_layCode_86 iconst_1 ?_
      refine x_goto 91 dX9_layCode_87 rfl ?_
      refine x_istore_n dX9_layCode_91 (by decide) rfl ?_
      have s4 := s3
      rw [z5] at s4
      first | exact s4 | (rw [z5]; exact s4)
    · refine x_iload dX9_layCode_81 rfl ?_
      refine x_if_ge 90 dX9_layCode_83 rfl (fun z6 => ?_) (fun z6 => by exact absurd (nI_pos' (by omega)) z6)
      refine x_iconst dX9_layCode_90 iconst_0 ?_
      refine x_istore_n dX9_layCode_91 (by decide) rfl ?_
      have s4 := s3
      rw [z5] at s4
      first | exact s4 | (rw [z5]; exact s4)
  refine x_iload_n dX9_layCode_49 rfl ?_
  refine b_if_eq 75 dX9_layCode_50 rfl (fun z1 => ?_) (fun z1 => ?_)
  · refine x_iconst dX9_layCode_75 iconst_0 ?_
    refine x_istore_n dX9_layCode_76 (by decide) rfl ?_
    have s4 := s2
    rw [show (may && decide (b < ng) && !ends) = false from by rw [z1]; rfl] at s4
    exact s4
  · refine x_iload dX9_layCode_53 rfl ?_
    refine x_aload_n dX9_layCode_55 rfl ?_
    refine g_I (s0_42 L) fkX9_97 rfl rfl dX9_layCode_56 ?_
    refine x_as h8 ?_
    refine n_icmp_ge 75 dX9_layCode_59 rfl (by omega) (by omega) (fun z2 => ?_) (fun z2 => ?_)
    · refine x_iconst dX9_layCode_75 iconst_0 ?_
      refine x_istore_n dX9_layCode_76 (by decide) rfl ?_
      have s4 := s2
      rw [show (may && decide (b < ng) && !ends) = false from by rw [z1, decide_eq_false (by omega)]; rfl] at s4
      exact s4
    · refine x_iload_n dX9_layCode_62 rfl ?_
      refine b_if_eq 71 dX9_layCode_63 rfl (fun z3 => ?_) (fun z3 => ?_)
      · refine x_iconst dX9_layCode_71 iconst_1 ?_
        refine x_goto 76 dX9_layCode_72 rfl ?_
        refine x_istore_n dX9_layCode_76 (by decide) rfl ?_
        have s4 := s2
        rw [show (may && decide (b < ng) && !ends) = true from by rw [z1, decide_eq_true (by omega), z3]; rfl] at s4
        exact s4
      · refine x_iload dX9_layCode_66 rfl ?_
        refine x_if_ge 75 dX9_layCode_68 rfl (fun z4 => ?_) (fun z4 => by exact absurd (nI_pos' (by omega)) z4)
        refine x_iconst dX9_layCode_75 iconst_0 ?_
        refine x_istore_n dX9_layCode_76 (by decide) rfl ?_
        have s4 := s2
        rw [show (may && decide (b < ng) && !ends) = false from by rw [z1, decide_eq_true (by omega), z3]; rfl] at s4
        exact s4
theorem lcS_5 {ng code : Nat} : ∀ k i, i < (lcS ng code k).2.2.1 → (lcS ng code k).2.2.2 i ≤ 5
  | 0, i, hi => absurd hi (Nat.not_lt_zero i)
  | k + 1, i, hi => by
    have h7 := dg_lt code k
    simp only [lcS, lcT] at hi ⊢
    by_cases h0 : dg code k = 0
    · rw [if_pos h0] at hi ⊢
      exact lcS_5 k i hi
    · rw [if_neg h0] at hi ⊢
      simp only at hi ⊢
      by_cases e : i = (lcS ng code k).2.2.1
      · rw [if_pos e]; omega
      · rw [if_neg e]; exact lcS_5 k i (by omega)
set_option maxRecDepth 100000 in
set_option maxHeartbeats 4000000 in
theorem m_layCode {E : vE} {l : Launch} {Q : Option Value → vS → vM → Prop} {L : Nat} {M : vM} {ng code : Nat} (hn6 : ng ≤ 6) (h8 : M 42 8 = nI ng) (hcd : code < 343) (hQ : ∀ M1 : vM, Fr [42, 57] M M1 → (∀ j, j ≠ 18 → M1 42 j = M 42 j) → RwM M1 (lcS ng code 3).2.2.1 (lcS ng code 3).2.2.2 → Q (some (.int (bI (lcS ng code 3).1))) (S0 L) M1) : PM E l mX9_layCode 0 [.ref 42, .int (nI code), .null, .null, .null, .null, .null] [] (S0 L) M 0 0 Q := by
  have l1 : ∀ M1 : vM, Fr [42, 57] M M1 → (∀ j, j ≠ 18 → M1 42 j = M 42 j) → RwM M1 (lcS ng code 0).2.2.1 (lcS ng code 0).2.2.2 → PM E l mX9_layCode 12 [.ref 42, .int (nI code), .int (bI (lcS ng code 0).1), .int (bI (lcS ng code 0).2.1), .int (nI 0), .null, .null] [] (S0 L) M1 0 0 Q := by
    refine lp_up (P := fun i => ∀ M1 : vM, Fr [42, 57] M M1 → (∀ j, j ≠ 18 → M1 42 j = M 42 j) → RwM M1 (lcS ng code i).2.2.1 (lcS ng code i).2.2.2 → PM E l mX9_layCode 12 [.ref 42, .int (nI code), .int (bI (lcS ng code i).1), .int (bI (lcS ng code i).2.1), .int (nI i), .null, .null] [] (S0 L) M1 0 0 Q) 3 ?_ ?_ 0 (by omega)
    · intro M1 g1 g2 g3
      refine x_iload dX9_layCode_12 rfl ?_
      refine x_iconst dX9_layCode_14 iconst_3 ?_
      refine n_icmp_ge 164 dX9_layCode_15 rfl (by omega) (by omega) (fun h1 => ?_) (fun h1 => by omega)
      refine x_iload_n dX9_layCode_164 rfl ?_
      refine x_iret dX9_layCode_165 rfl (bI_nar _) ?_
      exact hQ M1 g1 g2 g3
    · intro i hi ih M1 g1 g2 g3
      rcases (show i = 0 ∨ i = 1 ∨ i = 2 by omega) with rfl | rfl | rfl
      · refine x_iload dX9_layCode_12 rfl ?_
        refine x_iconst dX9_layCode_14 iconst_3 ?_
        refine n_icmp_ge 164 dX9_layCode_15 rfl (by omega) (by omega) (fun h1 => by omega) (fun h1 => ?_)
        refine x_iload_n dX9_layCode_18 rfl ?_
        refine x_iload dX9_layCode_19 rfl ?_
        refine n_if_ne 29 dX9_layCode_21 rfl (by omega) (fun h2 => by omega) (fun h2 => ?_)
        refine x_bipush dX9_layCode_24 bipush_49 ?_
        refine x_goto 41 dX9_layCode_26 rfl ?_
        refine n_idiv dX9_layCode_41 (by omega) (by omega) (by omega) ?_
        refine x_bipush dX9_layCode_42 bipush_7 ?_
        refine n_irem dX9_layCode_44 (by omega) (by omega) (by omega) ?_
        refine x_iconst dX9_layCode_45 iconst_1 ?_
        refine x_isub dX9_layCode_46 ?_
        have hdg : code / 49 % 7 = dg code 0 := rfl
        have h7 := dg_lt code 0
        have hl3 := lcS_m ng code 0
        rcases Nat.eq_zero_or_pos (dg code 0) with h0 | h0
        · refine x_as (show nI (code / 49 % 7) - nI 1 = (-1 : Int32) by rw [hdg, h0]; decide) ?_
          refine x_istore dX9_layCode_47 (by decide) rfl ?_
          refine m_lcNeg hn6 ((g2 8 (by decide)).trans h8) ?_
          refine n_inc dX9_layCode_158 rfl rfl ?_
          refine x_goto 12 dX9_layCode_161 rfl ?_
          refine x_mask [true, true, true, true, true, false, false] ?_
          have e1 : lcS ng code (0 + 1) = ((lcS ng code 0).1, true, (lcS ng code 0).2.2) := by show lcT ng (dg code 0) _ = _; unfold lcT; rw [if_pos h0]
          have ih2 := ih M1 g1 g2
          rw [e1] at ih2
          exact ih2 g3
        · refine x_as (show nI (code / 49 % 7) - nI 1 = nI (dg code 0 - 1) by rw [hdg]; exact pk_sub (by omega)) ?_
          refine x_istore dX9_layCode_47 (by decide) rfl ?_
          refine m_lcPos hn6 ((g2 8 (by decide)).trans h8) (b := dg code 0 - 1) (by omega) (by omega) g3 (lcS_5 0) (fun M2 k1 k2 k3 => ?_)
          refine n_inc dX9_layCode_158 rfl rfl ?_
          refine x_goto 12 dX9_layCode_161 rfl ?_
          refine x_mask [true, true, true, true, true, false, false] ?_
          have ih2 := ih M2 (g1.trans k1) (fun j hj => (k2 j hj).trans (g2 j hj))
          rw [show lcS ng code (0 + 1) = lcT ng (dg code 0) (lcS ng code 0) from rfl] at ih2
          unfold lcT at ih2
          rw [if_neg (show ¬ dg code 0 = 0 by omega)] at ih2
          exact ih2 k3
      · refine x_iload dX9_layCode_12 rfl ?_
        refine x_iconst dX9_layCode_14 iconst_3 ?_
        refine n_icmp_ge 164 dX9_layCode_15 rfl (by omega) (by omega) (fun h1 => by omega) (fun h1 => ?_)
        refine x_iload_n dX9_layCode_18 rfl ?_
        refine x_iload dX9_layCode_19 rfl ?_
        refine n_if_ne 29 dX9_layCode_21 rfl (by omega) (fun h2 => ?_) (fun h2 => by omega)
        refine x_iload dX9_layCode_29 rfl ?_
        refine x_iconst dX9_layCode_31 iconst_1 ?_
        refine n_icmp_ne 40 dX9_layCode_32 rfl (by omega) (by omega) (fun h3 => by omega) (fun h3 => ?_)
        refine x_bipush dX9_layCode_35 bipush_7 ?_
        refine x_goto 41 dX9_layCode_37 rfl ?_
        refine n_idiv dX9_layCode_41 (by omega) (by omega) (by omega) ?_
        refine x_bipush dX9_layCode_42 bipush_7 ?_
        refine n_irem dX9_layCode_44 (by omega) (by omega) (by omega) ?_
        refine x_iconst dX9_layCode_45 iconst_1 ?_
        refine x_isub dX9_layCode_46 ?_
        have hdg : code / 7 % 7 = dg code 1 := rfl
        have h7 := dg_lt code 1
        have hl3 := lcS_m ng code 1
        rcases Nat.eq_zero_or_pos (dg code 1) with h0 | h0
        · refine x_as (show nI (code / 7 % 7) - nI 1 = (-1 : Int32) by rw [hdg, h0]; decide) ?_
          refine x_istore dX9_layCode_47 (by decide) rfl ?_
          refine m_lcNeg hn6 ((g2 8 (by decide)).trans h8) ?_
          refine n_inc dX9_layCode_158 rfl rfl ?_
          refine x_goto 12 dX9_layCode_161 rfl ?_
          refine x_mask [true, true, true, true, true, false, false] ?_
          have e1 : lcS ng code (1 + 1) = ((lcS ng code 1).1, true, (lcS ng code 1).2.2) := by show lcT ng (dg code 1) _ = _; unfold lcT; rw [if_pos h0]
          have ih2 := ih M1 g1 g2
          rw [e1] at ih2
          exact ih2 g3
        · refine x_as (show nI (code / 7 % 7) - nI 1 = nI (dg code 1 - 1) by rw [hdg]; exact pk_sub (by omega)) ?_
          refine x_istore dX9_layCode_47 (by decide) rfl ?_
          refine m_lcPos hn6 ((g2 8 (by decide)).trans h8) (b := dg code 1 - 1) (by omega) (by omega) g3 (lcS_5 1) (fun M2 k1 k2 k3 => ?_)
          refine n_inc dX9_layCode_158 rfl rfl ?_
          refine x_goto 12 dX9_layCode_161 rfl ?_
          refine x_mask [true, true, true, true, true, false, false] ?_
          have ih2 := ih M2 (g1.trans k1) (fun j hj => (k2 j hj).trans (g2 j hj))
          rw [show lcS ng code (1 + 1) = lcT ng (dg code 1) (lcS ng code 1) from rfl] at ih2
          unfold lcT at ih2
          rw [if_neg (show ¬ dg code 1 = 0 by omega)] at ih2
          exact ih2 k3
      · refine x_iload dX9_layCode_12 rfl ?_
        refine x_iconst dX9_layCode_14 iconst_3 ?_
        refine n_icmp_ge 164 dX9_layCode_15 rfl (by omega) (by omega) (fun h1 => by omega) (fun h1 => ?_)
        refine x_iload_n dX9_layCode_18 rfl ?_
        refine x_iload dX9_layCode_19 rfl ?_
        refine n_if_ne 29 dX9_layCode_21 rfl (by omega) (fun h2 => ?_) (fun h2 => by omega)
        refine x_iload dX9_layCode_29 rfl ?_
        refine x_iconst dX9_layCode_31 iconst_1 ?_
        refine n_icmp_ne 40 dX9_layCode_32 rfl (by omega) (by omega) (fun h3 => ?_) (fun h3 => by omega)
        refine x_iconst dX9_layCode_40 iconst_1 ?_
        refine n_idiv dX9_layCode_41 (by omega) (by omega) (by omega) ?_
        refine x_bipush dX9_layCode_42 bipush_7 ?_
        refine n_irem dX9_layCode_44 (by omega) (by omega) (by omega) ?_
        refine x_iconst dX9_layCode_45 iconst_1 ?_
        refine x_isub dX9_layCode_46 ?_
        have hdg : code / 1 % 7 = dg code 2 := rfl
        have h7 := dg_lt code 2
        have hl3 := lcS_m ng code 2
        rcases Nat.eq_zero_or_pos (dg code 2) with h0 | h0
        · refine x_as (show nI (code / 1 % 7) - nI 1 = (-1 : Int32) by rw [hdg, h0]; decide) ?_
          refine x_istore dX9_layCode_47 (by decide) rfl ?_
          refine m_lcNeg hn6 ((g2 8 (by decide)).trans h8) ?_
          refine n_inc dX9_layCode_158 rfl rfl ?_
          refine x_goto 12 dX9_layCode_161 rfl ?_
          refine x_mask [true, true, true, true, true, false, false] ?_
          have e1 : lcS ng code (2 + 1) = ((lcS ng code 2).1, true, (lcS ng code 2).2.2) := by show lcT ng (dg code 2) _ = _; unfold lcT; rw [if_pos h0]
          have ih2 := ih M1 g1 g2
          rw [e1] at ih2
          exact ih2 g3
        · refine x_as (show nI (code / 1 % 7) - nI 1 = nI (dg code 2 - 1) by rw [hdg]; exact pk_sub (by omega)) ?_
          refine x_istore dX9_layCode_47 (by decide) rfl ?_
          refine m_lcPos hn6 ((g2 8 (by decide)).trans h8) (b := dg code 2 - 1) (by omega) (by omega) g3 (lcS_5 2) (fun M2 k1 k2 k3 => ?_)
          refine n_inc dX9_layCode_158 rfl rfl ?_
          refine x_goto 12 dX9_layCode_161 rfl ?_
          refine x_mask [true, true, true, true, true, false, false] ?_
          have ih2 := ih M2 (g1.trans k1) (fun j hj => (k2 j hj).trans (g2 j hj))
          rw [show lcS ng code (2 + 1) = lcT ng (dg code 2) (lcS ng code 2) from rfl] at ih2
          unfold lcT at ih2
          rw [if_neg (show ¬ dg code 2 = 0 by omega)] at ih2
          exact ih2 k3
  refine x_aload_n dX9_layCode_0 rfl ?_
  refine x_iconst dX9_layCode_1 iconst_0 ?_
  refine g_P (s0_42 L) fkX9_177 rfl rfl rfl rfl dX9_layCode_2 ?_
  refine x_iconst dX9_layCode_5 iconst_1 ?_
  refine x_istore_n dX9_layCode_6 (by decide) rfl ?_
  refine x_iconst dX9_layCode_7 iconst_0 ?_
  refine x_istore_n dX9_layCode_8 (by decide) rfl ?_
  refine x_iconst dX9_layCode_9 iconst_0 ?_
  refine x_istore dX9_layCode_10 (by decide) rfl ?_
  exact l1 _ (Fr.rf.set _ (by decide)) (fun j hj => upd_ne _ _ hj) ⟨rfl, fun k hk => absurd hk (Nat.not_lt_zero k)⟩

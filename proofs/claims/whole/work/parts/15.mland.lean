theorem m1_in {a n : Nat} (hn : n < 2 ^ 31) (ha : a < n) : (∃ j : Nat, j < n ∧ nI a + (-1) = nI j) ↔ 0 < a := by
  constructor
  · rintro ⟨j, hj, e⟩
    rcases Nat.eq_zero_or_pos a with h | h
    · subst h
      exact absurd (show nI j = -1 by rw [← e]; decide) (nI_ne_m1 (by omega))
    · exact h
  · intro h
    obtain ⟨b, rfl⟩ : ∃ b, a = b + 1 := ⟨a - 1, by omega⟩
    exact ⟨b, by omega, pk_m1 b⟩
theorem p_in {a n : Nat} (hn : n < 2 ^ 31) (ha : a < 2 ^ 31) : (∃ j : Nat, j < n ∧ nI a = nI j) ↔ a < n := by
  constructor
  · rintro ⟨j, hj, e⟩
    rw [(nI_eq ha (by omega)).mp e]; exact hj
  · intro h
    exact ⟨a, h, rfl⟩
set_option maxRecDepth 100000 in
set_option maxHeartbeats 4000000 in
theorem m_beside0 {E : vE} {l : Launch} {Q : Option Value → vS → vM → Prop} {L : Nat} {M : vM} {w h : Nat} (H : WH w h) (hw : M 42 0 = nI w) (hh : M 42 1 = nI h) {c : Nat} (hc : c < w * h) (hQ : Q (some (.int (oI (-900009) (nb w h c 0)))) (S0 L) M) : PM E l mX9_beside 0 [.ref 42, .int (nI c), .int (nI 0), .null, .null] [] (S0 L) M 0 0 Q := by
  have e1 := c_sum w c
  have e2 := c_row H hc
  have e3 := c_col (c := c) H
  have e4 := H.le
  have e5 := H
  obtain ⟨b1, b2, b3, b4⟩ := e5
  refine x_iload_n dX9_beside_0 rfl ?_
  refine x_aload_n dX9_beside_1 rfl ?_
  refine g_I (s0_42 L) fkX9_87 rfl rfl dX9_beside_2 ?_
  refine x_as hw ?_
  refine n_irem dX9_beside_5 (by omega) (by omega) (by omega) ?_
  refine x_iload_n dX9_beside_6 rfl ?_
  refine n_if_ne 14 dX9_beside_7 rfl (by omega) (fun h1 => by omega) (fun h1 => ?_)
  refine x_iconst dX9_beside_10 iconst_1 ?_
  refine x_goto 24 dX9_beside_11 rfl ?_
  refine n_iadd dX9_beside_24 ?_
  refine x_istore_n dX9_beside_25 (by decide) rfl ?_
  refine x_iload_n dX9_beside_26 rfl ?_
  refine x_aload_n dX9_beside_27 rfl ?_
  refine g_I (s0_42 L) fkX9_87 rfl rfl dX9_beside_28 ?_
  refine x_as hw ?_
  refine n_idiv dX9_beside_31 (by omega) (by omega) (by omega) ?_
  refine x_iload_n dX9_beside_32 rfl ?_
  refine x_iconst dX9_beside_33 iconst_1 ?_
  refine n_icmp_ne 41 dX9_beside_34 rfl (by omega) (by omega) (fun h2 => ?_) (fun h2 => by omega)
  refine x_iload_n dX9_beside_41 rfl ?_
  refine x_iconst dX9_beside_42 iconst_3 ?_
  refine n_icmp_ne 50 dX9_beside_43 rfl (by omega) (by omega) (fun h3 => ?_) (fun h3 => by omega)
  refine x_iconst dX9_beside_50 iconst_0 ?_
  refine n_iadd dX9_beside_51 ?_
  refine x_istore dX9_beside_52 (by decide) rfl ?_
  refine x_iload_n dX9_beside_54 rfl ?_
  refine x_i2l dX9_beside_55 ?_
  refine x_lconst dX9_beside_56 rfl ?_
  refine x_aload_n dX9_beside_57 rfl ?_
  refine g_I (s0_42 L) fkX9_87 rfl rfl dX9_beside_58 ?_
  refine x_as hw ?_
  refine x_iconst dX9_beside_61 iconst_1 ?_
  refine x_isub dX9_beside_62 ?_
  refine x_i2l dX9_beside_63 ?_
  refine cS3 (mj := mX9_in) lkX9_107 okX9_in stX9_in rfl rfl rfl rfl dX9_beside_64 rfl (c_in _ _ _ (fun b1 g1 => ?_))
  have k1 := g1.trans ((in64 (p' := 0) (q' := nI w - 1) (by decide) rfl _).trans ((in_nat (by omega) _).trans (p_in (by omega) (by omega))))
  refine b_if_eq 99 dX9_beside_67 rfl (fun z1 => ?_) (fun z1 => ?_)
  · rw [z1] at k1
    refine x_ldc kcX9_134 dX9_beside_99 ?_
    refine x_iret dX9_beside_101 rfl rfl ?_
    first
      | (simp only [nb] at hQ; rw [if_pos (by simpa using k1)] at hQ; rw [oI_some, show c + 1 = (c / w + 0) * w + (c % w + 1) from by first | omega | (have e8 : (c / w + 1) * w = c / w * w + w := Nat.succ_mul _ _; omega) | (simp only [Nat.add_zero]; omega)] at hQ; exact hQ)
      | (simp only [nb] at hQ; rw [if_neg (by simpa using k1)] at hQ; exact hQ)
      | (exfalso; have := k1; have := k2; simp at *; omega)
      | (exfalso; have := k2; simp at *; omega)
      | (exfalso; have := k1; simp at *; omega)
  · rw [z1] at k1
    refine x_iload dX9_beside_70 rfl ?_
    refine x_i2l dX9_beside_72 ?_
    refine x_lconst dX9_beside_73 rfl ?_
    refine x_aload_n dX9_beside_74 rfl ?_
    refine g_I (s0_42 L) fkX9_91 rfl rfl dX9_beside_75 ?_
    refine x_as hh ?_
    refine x_iconst dX9_beside_78 iconst_1 ?_
    refine x_isub dX9_beside_79 ?_
    refine x_i2l dX9_beside_80 ?_
    refine cS3 (mj := mX9_in) lkX9_107 okX9_in stX9_in rfl rfl rfl rfl dX9_beside_81 rfl (c_in _ _ _ (fun b2 g2 => ?_))
    have k2 := g2.trans ((in64 (p' := 0) (q' := nI h - 1) (by decide) rfl _).trans ((in_nat (by omega) _).trans (p_in (by omega) (by omega))))
    refine b_if_eq 99 dX9_beside_84 rfl (fun z2 => ?_) (fun z2 => ?_)
    · rw [z2] at k2
      refine x_ldc kcX9_134 dX9_beside_99 ?_
      refine x_iret dX9_beside_101 rfl rfl ?_
      first
        | (simp only [nb] at hQ; rw [if_pos (by simpa using k1)] at hQ; rw [oI_some, show c + 1 = (c / w + 0) * w + (c % w + 1) from by first | omega | (have e8 : (c / w + 1) * w = c / w * w + w := Nat.succ_mul _ _; omega) | (simp only [Nat.add_zero]; omega)] at hQ; exact hQ)
        | (simp only [nb] at hQ; rw [if_neg (by simpa using k1)] at hQ; exact hQ)
        | (exfalso; have := k1; have := k2; simp at *; omega)
        | (exfalso; have := k2; simp at *; omega)
        | (exfalso; have := k1; simp at *; omega)
    · rw [z2] at k2
      refine x_iload dX9_beside_87 rfl ?_
      refine x_aload_n dX9_beside_89 rfl ?_
      refine g_I (s0_42 L) fkX9_87 rfl rfl dX9_beside_90 ?_
      refine x_as hw ?_
      refine n_imul dX9_beside_93 ?_
      refine x_iload_n dX9_beside_94 rfl ?_
      refine n_iadd dX9_beside_95 ?_
      refine x_goto 101 dX9_beside_96 rfl ?_
      refine x_iret dX9_beside_101 rfl rfl ?_
      first
        | (simp only [nb] at hQ; rw [if_pos (by simpa using k1)] at hQ; rw [oI_some, show c + 1 = (c / w + 0) * w + (c % w + 1) from by first | omega | (have e8 : (c / w + 1) * w = c / w * w + w := Nat.succ_mul _ _; omega) | (simp only [Nat.add_zero]; omega)] at hQ; exact hQ)
        | (simp only [nb] at hQ; rw [if_neg (by simpa using k1)] at hQ; exact hQ)
        | (exfalso; have := k1; have := k2; simp at *; omega)
        | (exfalso; have := k2; simp at *; omega)
        | (exfalso; have := k1; simp at *; omega)
set_option maxRecDepth 100000 in
set_option maxHeartbeats 4000000 in
theorem m_beside1 {E : vE} {l : Launch} {Q : Option Value → vS → vM → Prop} {L : Nat} {M : vM} {w h : Nat} (H : WH w h) (hw : M 42 0 = nI w) (hh : M 42 1 = nI h) {c : Nat} (hc : c < w * h) (hQ : Q (some (.int (oI (-900009) (nb w h c 1)))) (S0 L) M) : PM E l mX9_beside 0 [.ref 42, .int (nI c), .int (nI 1), .null, .null] [] (S0 L) M 0 0 Q := by
  have e1 := c_sum w c
  have e2 := c_row H hc
  have e3 := c_col (c := c) H
  have e4 := H.le
  have e5 := H
  obtain ⟨b1, b2, b3, b4⟩ := e5
  refine x_iload_n dX9_beside_0 rfl ?_
  refine x_aload_n dX9_beside_1 rfl ?_
  refine g_I (s0_42 L) fkX9_87 rfl rfl dX9_beside_2 ?_
  refine x_as hw ?_
  refine n_irem dX9_beside_5 (by omega) (by omega) (by omega) ?_
  refine x_iload_n dX9_beside_6 rfl ?_
  refine n_if_ne 14 dX9_beside_7 rfl (by omega) (fun h1 => ?_) (fun h1 => by omega)
  refine x_iload_n dX9_beside_14 rfl ?_
  refine x_iconst dX9_beside_15 iconst_2 ?_
  refine n_icmp_ne 23 dX9_beside_16 rfl (by omega) (by omega) (fun h2 => ?_) (fun h2 => by omega)
  refine x_iconst dX9_beside_23 iconst_0 ?_
  refine n_iadd dX9_beside_24 ?_
  refine x_istore_n dX9_beside_25 (by decide) rfl ?_
  refine x_iload_n dX9_beside_26 rfl ?_
  refine x_aload_n dX9_beside_27 rfl ?_
  refine g_I (s0_42 L) fkX9_87 rfl rfl dX9_beside_28 ?_
  refine x_as hw ?_
  refine n_idiv dX9_beside_31 (by omega) (by omega) (by omega) ?_
  refine x_iload_n dX9_beside_32 rfl ?_
  refine x_iconst dX9_beside_33 iconst_1 ?_
  refine n_icmp_ne 41 dX9_beside_34 rfl (by omega) (by omega) (fun h3 => by omega) (fun h3 => ?_)
  refine x_iconst dX9_beside_37 iconst_1 ?_
  refine x_goto 51 dX9_beside_38 rfl ?_
  refine n_iadd dX9_beside_51 ?_
  refine x_istore dX9_beside_52 (by decide) rfl ?_
  refine x_iload_n dX9_beside_54 rfl ?_
  refine x_i2l dX9_beside_55 ?_
  refine x_lconst dX9_beside_56 rfl ?_
  refine x_aload_n dX9_beside_57 rfl ?_
  refine g_I (s0_42 L) fkX9_87 rfl rfl dX9_beside_58 ?_
  refine x_as hw ?_
  refine x_iconst dX9_beside_61 iconst_1 ?_
  refine x_isub dX9_beside_62 ?_
  refine x_i2l dX9_beside_63 ?_
  refine cS3 (mj := mX9_in) lkX9_107 okX9_in stX9_in rfl rfl rfl rfl dX9_beside_64 rfl (c_in _ _ _ (fun b1 g1 => ?_))
  have k1 := g1.trans ((in64 (p' := 0) (q' := nI w - 1) (by decide) rfl _).trans ((in_nat (by omega) _).trans (p_in (by omega) (by omega))))
  refine b_if_eq 99 dX9_beside_67 rfl (fun z1 => ?_) (fun z1 => ?_)
  · rw [z1] at k1
    refine x_ldc kcX9_134 dX9_beside_99 ?_
    refine x_iret dX9_beside_101 rfl rfl ?_
    first
      | (simp only [nb] at hQ; rw [if_pos (by simpa using k2)] at hQ; rw [oI_some, show c + w = (c / w + 1) * w + (c % w + 0) from by first | omega | (have e8 : (c / w + 1) * w = c / w * w + w := Nat.succ_mul _ _; omega) | (simp only [Nat.add_zero]; omega)] at hQ; exact hQ)
      | (simp only [nb] at hQ; rw [if_neg (by simpa using k2)] at hQ; exact hQ)
      | (exfalso; have := k1; have := k2; simp at *; omega)
      | (exfalso; have := k2; simp at *; omega)
      | (exfalso; have := k1; simp at *; omega)
  · rw [z1] at k1
    refine x_iload dX9_beside_70 rfl ?_
    refine x_i2l dX9_beside_72 ?_
    refine x_lconst dX9_beside_73 rfl ?_
    refine x_aload_n dX9_beside_74 rfl ?_
    refine g_I (s0_42 L) fkX9_91 rfl rfl dX9_beside_75 ?_
    refine x_as hh ?_
    refine x_iconst dX9_beside_78 iconst_1 ?_
    refine x_isub dX9_beside_79 ?_
    refine x_i2l dX9_beside_80 ?_
    refine cS3 (mj := mX9_in) lkX9_107 okX9_in stX9_in rfl rfl rfl rfl dX9_beside_81 rfl (c_in _ _ _ (fun b2 g2 => ?_))
    have k2 := g2.trans ((in64 (p' := 0) (q' := nI h - 1) (by decide) rfl _).trans ((in_nat (by omega) _).trans (p_in (by omega) (by omega))))
    refine b_if_eq 99 dX9_beside_84 rfl (fun z2 => ?_) (fun z2 => ?_)
    · rw [z2] at k2
      refine x_ldc kcX9_134 dX9_beside_99 ?_
      refine x_iret dX9_beside_101 rfl rfl ?_
      first
        | (simp only [nb] at hQ; rw [if_pos (by simpa using k2)] at hQ; rw [oI_some, show c + w = (c / w + 1) * w + (c % w + 0) from by first | omega | (have e8 : (c / w + 1) * w = c / w * w + w := Nat.succ_mul _ _; omega) | (simp only [Nat.add_zero]; omega)] at hQ; exact hQ)
        | (simp only [nb] at hQ; rw [if_neg (by simpa using k2)] at hQ; exact hQ)
        | (exfalso; have := k1; have := k2; simp at *; omega)
        | (exfalso; have := k2; simp at *; omega)
        | (exfalso; have := k1; simp at *; omega)
    · rw [z2] at k2
      refine x_iload dX9_beside_87 rfl ?_
      refine x_aload_n dX9_beside_89 rfl ?_
      refine g_I (s0_42 L) fkX9_87 rfl rfl dX9_beside_90 ?_
      refine x_as hw ?_
      refine n_imul dX9_beside_93 ?_
      refine x_iload_n dX9_beside_94 rfl ?_
      refine n_iadd dX9_beside_95 ?_
      refine x_goto 101 dX9_beside_96 rfl ?_
      refine x_iret dX9_beside_101 rfl rfl ?_
      first
        | (simp only [nb] at hQ; rw [if_pos (by simpa using k2)] at hQ; rw [oI_some, show c + w = (c / w + 1) * w + (c % w + 0) from by first | omega | (have e8 : (c / w + 1) * w = c / w * w + w := Nat.succ_mul _ _; omega) | (simp only [Nat.add_zero]; omega)] at hQ; exact hQ)
        | (simp only [nb] at hQ; rw [if_neg (by simpa using k2)] at hQ; exact hQ)
        | (exfalso; have := k1; have := k2; simp at *; omega)
        | (exfalso; have := k2; simp at *; omega)
        | (exfalso; have := k1; simp at *; omega)
set_option maxRecDepth 100000 in
set_option maxHeartbeats 4000000 in
theorem m_beside2 {E : vE} {l : Launch} {Q : Option Value → vS → vM → Prop} {L : Nat} {M : vM} {w h : Nat} (H : WH w h) (hw : M 42 0 = nI w) (hh : M 42 1 = nI h) {c : Nat} (hc : c < w * h) (hQ : Q (some (.int (oI (-900009) (nb w h c 2)))) (S0 L) M) : PM E l mX9_beside 0 [.ref 42, .int (nI c), .int (nI 2), .null, .null] [] (S0 L) M 0 0 Q := by
  have e1 := c_sum w c
  have e2 := c_row H hc
  have e3 := c_col (c := c) H
  have e4 := H.le
  have e5 := H
  obtain ⟨b1, b2, b3, b4⟩ := e5
  refine x_iload_n dX9_beside_0 rfl ?_
  refine x_aload_n dX9_beside_1 rfl ?_
  refine g_I (s0_42 L) fkX9_87 rfl rfl dX9_beside_2 ?_
  refine x_as hw ?_
  refine n_irem dX9_beside_5 (by omega) (by omega) (by omega) ?_
  refine x_iload_n dX9_beside_6 rfl ?_
  refine n_if_ne 14 dX9_beside_7 rfl (by omega) (fun h1 => ?_) (fun h1 => by omega)
  refine x_iload_n dX9_beside_14 rfl ?_
  refine x_iconst dX9_beside_15 iconst_2 ?_
  refine n_icmp_ne 23 dX9_beside_16 rfl (by omega) (by omega) (fun h2 => by omega) (fun h2 => ?_)
  refine x_iconst dX9_beside_19 iconst_m1 ?_
  refine x_goto 24 dX9_beside_20 rfl ?_
  refine x_iadd dX9_beside_24 ?_
  refine x_istore_n dX9_beside_25 (by decide) rfl ?_
  refine x_iload_n dX9_beside_26 rfl ?_
  refine x_aload_n dX9_beside_27 rfl ?_
  refine g_I (s0_42 L) fkX9_87 rfl rfl dX9_beside_28 ?_
  refine x_as hw ?_
  refine n_idiv dX9_beside_31 (by omega) (by omega) (by omega) ?_
  refine x_iload_n dX9_beside_32 rfl ?_
  refine x_iconst dX9_beside_33 iconst_1 ?_
  refine n_icmp_ne 41 dX9_beside_34 rfl (by omega) (by omega) (fun h3 => ?_) (fun h3 => by omega)
  refine x_iload_n dX9_beside_41 rfl ?_
  refine x_iconst dX9_beside_42 iconst_3 ?_
  refine n_icmp_ne 50 dX9_beside_43 rfl (by omega) (by omega) (fun h4 => ?_) (fun h4 => by omega)
  refine x_iconst dX9_beside_50 iconst_0 ?_
  refine n_iadd dX9_beside_51 ?_
  refine x_istore dX9_beside_52 (by decide) rfl ?_
  refine x_iload_n dX9_beside_54 rfl ?_
  refine x_i2l dX9_beside_55 ?_
  refine x_lconst dX9_beside_56 rfl ?_
  refine x_aload_n dX9_beside_57 rfl ?_
  refine g_I (s0_42 L) fkX9_87 rfl rfl dX9_beside_58 ?_
  refine x_as hw ?_
  refine x_iconst dX9_beside_61 iconst_1 ?_
  refine x_isub dX9_beside_62 ?_
  refine x_i2l dX9_beside_63 ?_
  refine cS3 (mj := mX9_in) lkX9_107 okX9_in stX9_in rfl rfl rfl rfl dX9_beside_64 rfl (c_in _ _ _ (fun b1 g1 => ?_))
  have k1 := g1.trans ((in64 (p' := 0) (q' := nI w - 1) (by decide) rfl _).trans ((in_nat (by omega) _).trans (m1_in (by omega) (by omega))))
  refine b_if_eq 99 dX9_beside_67 rfl (fun z1 => ?_) (fun z1 => ?_)
  · rw [z1] at k1
    refine x_ldc kcX9_134 dX9_beside_99 ?_
    refine x_iret dX9_beside_101 rfl rfl ?_
    first
      | (simp only [nb] at hQ; rw [if_pos (by simpa using k1)] at hQ; simpa [oI] using hQ)
      | (simp only [nb] at hQ; rw [if_neg (by simpa using k1)] at hQ; exact hQ)
      | (exfalso; have := k1; have := k2; simp at *; omega)
      | (exfalso; have := k2; simp at *; omega)
      | (exfalso; have := k1; simp at *; omega)
  · rw [z1] at k1
    refine x_iload dX9_beside_70 rfl ?_
    refine x_i2l dX9_beside_72 ?_
    refine x_lconst dX9_beside_73 rfl ?_
    refine x_aload_n dX9_beside_74 rfl ?_
    refine g_I (s0_42 L) fkX9_91 rfl rfl dX9_beside_75 ?_
    refine x_as hh ?_
    refine x_iconst dX9_beside_78 iconst_1 ?_
    refine x_isub dX9_beside_79 ?_
    refine x_i2l dX9_beside_80 ?_
    refine cS3 (mj := mX9_in) lkX9_107 okX9_in stX9_in rfl rfl rfl rfl dX9_beside_81 rfl (c_in _ _ _ (fun b2 g2 => ?_))
    have k2 := g2.trans ((in64 (p' := 0) (q' := nI h - 1) (by decide) rfl _).trans ((in_nat (by omega) _).trans (p_in (by omega) (by omega))))
    refine b_if_eq 99 dX9_beside_84 rfl (fun z2 => ?_) (fun z2 => ?_)
    · rw [z2] at k2
      refine x_ldc kcX9_134 dX9_beside_99 ?_
      refine x_iret dX9_beside_101 rfl rfl ?_
      first
        | (simp only [nb] at hQ; rw [if_pos (by simpa using k1)] at hQ; simpa [oI] using hQ)
        | (simp only [nb] at hQ; rw [if_neg (by simpa using k1)] at hQ; exact hQ)
        | (exfalso; have := k1; have := k2; simp at *; omega)
        | (exfalso; have := k2; simp at *; omega)
        | (exfalso; have := k1; simp at *; omega)
    · rw [z2] at k2
      refine x_iload dX9_beside_87 rfl ?_
      refine x_aload_n dX9_beside_89 rfl ?_
      refine g_I (s0_42 L) fkX9_87 rfl rfl dX9_beside_90 ?_
      refine x_as hw ?_
      refine n_imul dX9_beside_93 ?_
      refine x_iload_n dX9_beside_94 rfl ?_
      refine x_iadd dX9_beside_95 ?_
      have e9 : nI (c / w + 0) * nI w + (nI (c % w) + (-1)) = nI (c - 1) := by
        obtain ⟨b, hb⟩ : ∃ b, c % w = b + 1 := ⟨c % w - 1, by have : 0 < c % w := by simpa using k1
                                                              omega⟩
        rw [hb, pk_m1, pk_mul, nI_add]
        congr 1
        simp only [Nat.add_zero]
        omega
      rw [pk_mul] at e9
      refine x_as e9 ?_
      refine x_goto 101 dX9_beside_96 rfl ?_
      refine x_iret dX9_beside_101 rfl rfl ?_
      first
        | (simp only [nb] at hQ; rw [if_pos (by simpa using k1)] at hQ; simpa [oI] using hQ)
        | (simp only [nb] at hQ; rw [if_neg (by simpa using k1)] at hQ; exact hQ)
        | (exfalso; have := k1; have := k2; simp at *; omega)
        | (exfalso; have := k2; simp at *; omega)
        | (exfalso; have := k1; simp at *; omega)
set_option maxRecDepth 100000 in
set_option maxHeartbeats 4000000 in
theorem m_beside3 {E : vE} {l : Launch} {Q : Option Value → vS → vM → Prop} {L : Nat} {M : vM} {w h : Nat} (H : WH w h) (hw : M 42 0 = nI w) (hh : M 42 1 = nI h) {c : Nat} (hc : c < w * h) (hQ : Q (some (.int (oI (-900009) (nb w h c 3)))) (S0 L) M) : PM E l mX9_beside 0 [.ref 42, .int (nI c), .int (nI 3), .null, .null] [] (S0 L) M 0 0 Q := by
  have e1 := c_sum w c
  have e2 := c_row H hc
  have e3 := c_col (c := c) H
  have e4 := H.le
  have e5 := H
  obtain ⟨b1, b2, b3, b4⟩ := e5
  refine x_iload_n dX9_beside_0 rfl ?_
  refine x_aload_n dX9_beside_1 rfl ?_
  refine g_I (s0_42 L) fkX9_87 rfl rfl dX9_beside_2 ?_
  refine x_as hw ?_
  refine n_irem dX9_beside_5 (by omega) (by omega) (by omega) ?_
  refine x_iload_n dX9_beside_6 rfl ?_
  refine n_if_ne 14 dX9_beside_7 rfl (by omega) (fun h1 => ?_) (fun h1 => by omega)
  refine x_iload_n dX9_beside_14 rfl ?_
  refine x_iconst dX9_beside_15 iconst_2 ?_
  refine n_icmp_ne 23 dX9_beside_16 rfl (by omega) (by omega) (fun h2 => ?_) (fun h2 => by omega)
  refine x_iconst dX9_beside_23 iconst_0 ?_
  refine n_iadd dX9_beside_24 ?_
  refine x_istore_n dX9_beside_25 (by decide) rfl ?_
  refine x_iload_n dX9_beside_26 rfl ?_
  refine x_aload_n dX9_beside_27 rfl ?_
  refine g_I (s0_42 L) fkX9_87 rfl rfl dX9_beside_28 ?_
  refine x_as hw ?_
  refine n_idiv dX9_beside_31 (by omega) (by omega) (by omega) ?_
  refine x_iload_n dX9_beside_32 rfl ?_
  refine x_iconst dX9_beside_33 iconst_1 ?_
  refine n_icmp_ne 41 dX9_beside_34 rfl (by omega) (by omega) (fun h3 => ?_) (fun h3 => by omega)
  refine x_iload_n dX9_beside_41 rfl ?_
  refine x_iconst dX9_beside_42 iconst_3 ?_
  refine n_icmp_ne 50 dX9_beside_43 rfl (by omega) (by omega) (fun h4 => by omega) (fun h4 => ?_)
  refine x_iconst dX9_beside_46 iconst_m1 ?_
  refine x_goto 51 dX9_beside_47 rfl ?_
  refine x_iadd dX9_beside_51 ?_
  refine x_istore dX9_beside_52 (by decide) rfl ?_
  refine x_iload_n dX9_beside_54 rfl ?_
  refine x_i2l dX9_beside_55 ?_
  refine x_lconst dX9_beside_56 rfl ?_
  refine x_aload_n dX9_beside_57 rfl ?_
  refine g_I (s0_42 L) fkX9_87 rfl rfl dX9_beside_58 ?_
  refine x_as hw ?_
  refine x_iconst dX9_beside_61 iconst_1 ?_
  refine x_isub dX9_beside_62 ?_
  refine x_i2l dX9_beside_63 ?_
  refine cS3 (mj := mX9_in) lkX9_107 okX9_in stX9_in rfl rfl rfl rfl dX9_beside_64 rfl (c_in _ _ _ (fun b1 g1 => ?_))
  have k1 := g1.trans ((in64 (p' := 0) (q' := nI w - 1) (by decide) rfl _).trans ((in_nat (by omega) _).trans (p_in (by omega) (by omega))))
  refine b_if_eq 99 dX9_beside_67 rfl (fun z1 => ?_) (fun z1 => ?_)
  · rw [z1] at k1
    refine x_ldc kcX9_134 dX9_beside_99 ?_
    refine x_iret dX9_beside_101 rfl rfl ?_
    first
      | (simp only [nb] at hQ; rw [if_pos (by simpa using k2)] at hQ; simpa [oI] using hQ)
      | (simp only [nb] at hQ; rw [if_neg (by simpa using k2)] at hQ; exact hQ)
      | (exfalso; have := k1; have := k2; simp at *; omega)
      | (exfalso; have := k2; simp at *; omega)
      | (exfalso; have := k1; simp at *; omega)
  · rw [z1] at k1
    refine x_iload dX9_beside_70 rfl ?_
    refine x_i2l dX9_beside_72 ?_
    refine x_lconst dX9_beside_73 rfl ?_
    refine x_aload_n dX9_beside_74 rfl ?_
    refine g_I (s0_42 L) fkX9_91 rfl rfl dX9_beside_75 ?_
    refine x_as hh ?_
    refine x_iconst dX9_beside_78 iconst_1 ?_
    refine x_isub dX9_beside_79 ?_
    refine x_i2l dX9_beside_80 ?_
    refine cS3 (mj := mX9_in) lkX9_107 okX9_in stX9_in rfl rfl rfl rfl dX9_beside_81 rfl (c_in _ _ _ (fun b2 g2 => ?_))
    have k2 := g2.trans ((in64 (p' := 0) (q' := nI h - 1) (by decide) rfl _).trans ((in_nat (by omega) _).trans (m1_in (by omega) (by omega))))
    refine b_if_eq 99 dX9_beside_84 rfl (fun z2 => ?_) (fun z2 => ?_)
    · rw [z2] at k2
      refine x_ldc kcX9_134 dX9_beside_99 ?_
      refine x_iret dX9_beside_101 rfl rfl ?_
      first
        | (simp only [nb] at hQ; rw [if_pos (by simpa using k2)] at hQ; simpa [oI] using hQ)
        | (simp only [nb] at hQ; rw [if_neg (by simpa using k2)] at hQ; exact hQ)
        | (exfalso; have := k1; have := k2; simp at *; omega)
        | (exfalso; have := k2; simp at *; omega)
        | (exfalso; have := k1; simp at *; omega)
    · rw [z2] at k2
      refine x_iload dX9_beside_87 rfl ?_
      refine x_aload_n dX9_beside_89 rfl ?_
      refine g_I (s0_42 L) fkX9_87 rfl rfl dX9_beside_90 ?_
      refine x_as hw ?_
      refine x_imul dX9_beside_93 ?_
      refine x_iload_n dX9_beside_94 rfl ?_
      refine x_iadd dX9_beside_95 ?_
      have e9 : (nI (c / w) + (-1)) * nI w + nI (c % w + 0) = nI (c - w) := by
        obtain ⟨b, hb⟩ : ∃ b, c / w = b + 1 := ⟨c / w - 1, by have : 0 < c / w := by simpa using k2
                                                              omega⟩
        have e8 : (b + 1) * w = b * w + w := Nat.succ_mul _ _
        rw [hb] at e1
        rw [hb, pk_m1, pk_mul, nI_add]
        congr 1
        omega
      refine x_as e9 ?_
      refine x_goto 101 dX9_beside_96 rfl ?_
      refine x_iret dX9_beside_101 rfl rfl ?_
      first
        | (simp only [nb] at hQ; rw [if_pos (by simpa using k2)] at hQ; simpa [oI] using hQ)
        | (simp only [nb] at hQ; rw [if_neg (by simpa using k2)] at hQ; exact hQ)
        | (exfalso; have := k1; have := k2; simp at *; omega)
        | (exfalso; have := k2; simp at *; omega)
        | (exfalso; have := k1; simp at *; omega)
set_option maxRecDepth 100000 in
set_option maxHeartbeats 4000000 in
theorem m_beside {E : vE} {l : Launch} {Q : Option Value → vS → vM → Prop} {L : Nat} {M : vM} {w h : Nat} (H : WH w h) (hw : M 42 0 = nI w) (hh : M 42 1 = nI h) {c d : Nat} (hc : c < w * h) (hd : d < 4) (hQ : Q (some (.int (oI (-900009) (nb w h c d)))) (S0 L) M) : PM E l mX9_beside 0 [.ref 42, .int (nI c), .int (nI d), .null, .null] [] (S0 L) M 0 0 Q := by
  rcases (show d = 0 ∨ d = 1 ∨ d = 2 ∨ d = 3 by omega) with rfl | rfl | rfl | rfl
  · exact m_beside0 H hw hh hc hQ
  · exact m_beside1 H hw hh hc hQ
  · exact m_beside2 H hw hh hc hQ
  · exact m_beside3 H hw hh hc hQ

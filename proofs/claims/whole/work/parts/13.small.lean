theorem iff_t {P : Prop} (h : P) : true = true ↔ P := ⟨fun _ => h, fun _ => rfl⟩
theorem iff_f {P : Prop} (h : ¬ P) : false = true ↔ P := ⟨(fun z => by cases z), fun z => absurd z h⟩
theorem i_le_lt {a b : Int32} (h : ¬ a < b) : b ≤ a := Int32.not_lt.mp h
theorem nI_m1 : nI 0 - 1 = (-1 : Int32) := by decide
theorem in_nat {n : Nat} (hn : n < 2 ^ 31) (x : Int32) : (0 ≤ x ∧ x ≤ nI n - 1) ↔ ∃ j : Nat, j < n ∧ x = nI j := by
  by_cases h0 : n = 0
  · subst h0
    rw [nI_m1]
    constructor
    · rintro ⟨h1, h2⟩
      exact absurd (Int32.le_trans h1 h2) (by decide)
    · rintro ⟨j, hj, -⟩
      omega
  have e : nI n - 1 = nI (n - 1) := pk_sub (a := n) (b := 1) (by omega)
  rw [e]
  constructor
  · rintro ⟨h1, h2⟩
    rcases pk_ix x hn with h | h | h
    · exact absurd h (Int32.not_lt.mpr h1)
    · exact absurd (Int32.le_trans h h2) (nI_ge (by omega) hn)
    · exact h
  · rintro ⟨j, hj, rfl⟩
    exact ⟨nI_pos' (by omega), nI_le (by omega) (by omega)⟩
theorem in_rng {a b : Nat} (hb : b < 2 ^ 31 - 1) (x : Int32) : (nI a ≤ x ∧ x ≤ nI b) ↔ ∃ j : Nat, (a ≤ j ∧ j ≤ b) ∧ x = nI j ∨ (b < a ∧ nI a ≤ x ∧ x ≤ nI b) := by
  constructor
  · rintro ⟨h1, h2⟩
    by_cases hab : b < a
    · exact ⟨0, Or.inr ⟨hab, h1, h2⟩⟩
    · have h3 : (0 : Int32) ≤ nI a := nI_pos' (by omega)
      rcases pk_ix x (n := b + 1) (by omega) with h | h | ⟨j, hj, rfl⟩
      · exact absurd h (Int32.not_lt.mpr (Int32.le_trans h3 h1))
      · exact absurd (Int32.le_trans h h2) (nI_ge (by omega) (by omega))
      · exact ⟨j, Or.inl ⟨⟨(nI_leI (by omega) (by omega)).mp h1, by omega⟩, rfl⟩⟩
  · rintro ⟨j, ⟨⟨h1, h2⟩, rfl⟩ | ⟨-, h⟩⟩
    · exact ⟨nI_le h1 (by omega), nI_le h2 (by omega)⟩
    · exact h
theorem in_rg {a b : Nat} (hab : a ≤ b) (hb : b < 2 ^ 31 - 1) (x : Int32) : (nI a ≤ x ∧ x ≤ nI b) ↔ ∃ j : Nat, (a ≤ j ∧ j ≤ b) ∧ x = nI j := by
  rw [in_rng hb]
  constructor
  · rintro ⟨j, h | ⟨h, -⟩⟩
    · exact ⟨j, h⟩
    · omega
  · rintro ⟨j, h⟩
    exact ⟨j, Or.inl h⟩
theorem i64_le (x y : Int32) : x.toInt64 ≤ y.toInt64 ↔ x ≤ y := by
  rw [Int64.le_iff_toInt_le, Int32.le_iff_toInt_le, Int32.toInt_toInt64, Int32.toInt_toInt64]
theorem in64 {p q : Int64} {p' q' : Int32} (hp : p = p'.toInt64) (hq : q = q'.toInt64) (x : Int32) : (p ≤ x.toInt64 ∧ x.toInt64 ≤ q) ↔ (p' ≤ x ∧ x ≤ q') := by rw [hp, hq, i64_le, i64_le]
set_option maxRecDepth 100000 in
set_option maxHeartbeats 4000000 in
theorem c_within {E : vE} {l : Launch} {Q : Option Value → vS → vM → Prop} {S : vS} {M : vM} (v p q : Int32) (hQ : ∀ b : Bool, (b = true ↔ p ≤ v ∧ v ≤ q) → Q (some (.int (bI b))) S M) : PM E l mX8_within 0 [.int v, .int p, .int q] [] S M 0 0 Q := by
  refine x_iload_n dX8_within_0 rfl ?_
  refine x_iload_n dX8_within_1 rfl ?_
  refine x_icmp_gt 14 dX8_within_2 rfl (fun h1 => ?_) (fun h1 => ?_)
  · refine x_iconst dX8_within_14 iconst_0 ?_
    refine x_iret dX8_within_15 rfl (by first | exact bI_nar _ | exact n1_nar | exact n0_nar) ?_
    first | exact hQ true (iff_t ⟨i_le_lt h1, i_le_lt h2⟩) | exact hQ false (iff_f (fun z => absurd z.1 (Int32.not_le.mpr h1))) | exact hQ false (iff_f (fun z => absurd z.2 (Int32.not_le.mpr h2)))
  · refine x_iload_n dX8_within_5 rfl ?_
    refine x_iload_n dX8_within_6 rfl ?_
    refine x_icmp_gt 14 dX8_within_7 rfl (fun h2 => ?_) (fun h2 => ?_)
    · refine x_iconst dX8_within_14 iconst_0 ?_
      refine x_iret dX8_within_15 rfl (by first | exact bI_nar _ | exact n1_nar | exact n0_nar) ?_
      first | exact hQ true (iff_t ⟨i_le_lt h1, i_le_lt h2⟩) | exact hQ false (iff_f (fun z => absurd z.1 (Int32.not_le.mpr h1))) | exact hQ false (iff_f (fun z => absurd z.2 (Int32.not_le.mpr h2)))
    · refine x_iconst dX8_within_10 iconst_1 ?_
      refine x_goto 15 dX8_within_11 rfl ?_
      refine x_iret dX8_within_15 rfl (by first | exact bI_nar _ | exact n1_nar | exact n0_nar) ?_
      first | exact hQ true (iff_t ⟨i_le_lt h1, i_le_lt h2⟩) | exact hQ false (iff_f (fun z => absurd z.1 (Int32.not_le.mpr h1))) | exact hQ false (iff_f (fun z => absurd z.2 (Int32.not_le.mpr h2)))
set_option maxRecDepth 100000 in
set_option maxHeartbeats 4000000 in
theorem c_bit {E : vE} {l : Launch} {Q : Option Value → vS → vM → Prop} {S : vS} {M : vM} (b : Bool) (hQ : Q (some (.int (nI (if b then 1 else 0)))) S M) : PM E l mX8_bit 0 [.int (bI b)] [] S M 0 0 Q := by
  refine x_iload_n dX8_bit_0 rfl ?_
  refine b_if_eq 8 dX8_bit_1 rfl (fun h1 => ?_) (fun h1 => ?_)
  · refine x_iconst dX8_bit_8 iconst_0 ?_
    refine x_iret dX8_bit_9 rfl rfl ?_
    simpa [h1] using hQ
  · refine x_iconst dX8_bit_4 iconst_1 ?_
    refine x_goto 9 dX8_bit_5 rfl ?_
    refine x_iret dX8_bit_9 rfl rfl ?_
    simpa [h1] using hQ
set_option maxRecDepth 100000 in
set_option maxHeartbeats 4000000 in
theorem c_in {E : vE} {l : Launch} {Q : Option Value → vS → vM → Prop} {S : vS} {M : vM} (v p q : Int64) (hQ : ∀ b : Bool, (b = true ↔ p ≤ v ∧ v ≤ q) → Q (some (.int (bI b))) S M) : PM E l mX9_in 0 [.long v, .null, .long p, .null, .long q, .null] [] S M 0 0 Q := by
  refine x_lload_n dX9_in_0 rfl ?_
  refine x_lload_n dX9_in_1 rfl ?_
  refine x_lcmp dX9_in_2 ?_
  refine x_if_lt 17 dX9_in_3 rfl (fun h1 => ?_) (fun h1 => ?_)
  · refine x_iconst dX9_in_17 iconst_0 ?_
    refine x_iret dX9_in_18 rfl (by first | exact bI_nar _ | exact n1_nar | exact n0_nar) ?_
    first | exact hQ true (iff_t ⟨Int64.not_lt.mp (fun z => h1 ((lg_cmp_lt _ _).mpr z)), Int64.not_lt.mp (fun z => h2 ((lg_cmp_gt _ _).mpr z))⟩) | exact hQ false (iff_f (fun z => absurd z.1 (Int64.not_le.mpr ((lg_cmp_lt _ _).mp h1)))) | exact hQ false (iff_f (fun z => absurd z.2 (Int64.not_le.mpr ((lg_cmp_gt _ _).mp h2))))
  · refine x_lload_n dX9_in_6 rfl ?_
    refine x_lload dX9_in_7 rfl ?_
    refine x_lcmp dX9_in_9 ?_
    refine x_if_gt 17 dX9_in_10 rfl (fun h2 => ?_) (fun h2 => ?_)
    · refine x_iconst dX9_in_17 iconst_0 ?_
      refine x_iret dX9_in_18 rfl (by first | exact bI_nar _ | exact n1_nar | exact n0_nar) ?_
      first | exact hQ true (iff_t ⟨Int64.not_lt.mp (fun z => h1 ((lg_cmp_lt _ _).mpr z)), Int64.not_lt.mp (fun z => h2 ((lg_cmp_gt _ _).mpr z))⟩) | exact hQ false (iff_f (fun z => absurd z.1 (Int64.not_le.mpr ((lg_cmp_lt _ _).mp h1)))) | exact hQ false (iff_f (fun z => absurd z.2 (Int64.not_le.mpr ((lg_cmp_gt _ _).mp h2))))
    · refine x_iconst dX9_in_13 iconst_1 ?_
      refine x_goto 18 dX9_in_14 rfl ?_
      refine x_iret dX9_in_18 rfl (by first | exact bI_nar _ | exact n1_nar | exact n0_nar) ?_
      first | exact hQ true (iff_t ⟨Int64.not_lt.mp (fun z => h1 ((lg_cmp_lt _ _).mpr z)), Int64.not_lt.mp (fun z => h2 ((lg_cmp_gt _ _).mpr z))⟩) | exact hQ false (iff_f (fun z => absurd z.1 (Int64.not_le.mpr ((lg_cmp_lt _ _).mp h1)))) | exact hQ false (iff_f (fun z => absurd z.2 (Int64.not_le.mpr ((lg_cmp_gt _ _).mp h2))))
set_option maxRecDepth 100000 in
set_option maxHeartbeats 4000000 in
theorem m_isStone {E : vE} {l : Launch} {Q : Option Value → vS → vM → Prop} {L : Nat} {M : vM} {n : Nat} (hn : n < 2 ^ 31) (hM : M 42 4 = nI n) (x : Int32) (hQ : ∀ b : Bool, (b = true ↔ ∃ j : Nat, j < n ∧ x = nI j) → Q (some (.int (bI b))) (S0 L) M) : PM E l mX9_isStone 0 [.ref 42, .int x] [] (S0 L) M 0 0 Q := by
  refine x_iload_n dX9_isStone_0 rfl ?_
  refine x_i2l dX9_isStone_1 ?_
  refine x_lconst dX9_isStone_2 rfl ?_
  refine x_aload_n dX9_isStone_3 rfl ?_
  refine g_I (s0_42 L) fkX9_94 rfl rfl dX9_isStone_4 ?_
  refine x_as hM ?_
  refine x_iconst dX9_isStone_7 iconst_1 ?_
  refine x_isub dX9_isStone_8 ?_
  refine x_i2l dX9_isStone_9 ?_
  refine cS3 (mj := mX9_in) lkX9_107 okX9_in stX9_in rfl rfl rfl rfl dX9_isStone_10 rfl (c_in _ _ _ (fun b hb => ?_))
  refine x_iret dX9_isStone_13 rfl (bI_nar _) ?_
  exact hQ b (hb.trans ((in64 (p' := 0) (q' := nI n - 1) (by decide) rfl x).trans (in_nat hn x)))
set_option maxRecDepth 100000 in
set_option maxHeartbeats 4000000 in
theorem m_isGo {E : vE} {l : Launch} {Q : Option Value → vS → vM → Prop} {L : Nat} {M : vM} {n : Nat} (hn : n < 2 ^ 31) (hM : M 42 8 = nI n) (x : Int32) (hQ : ∀ b : Bool, (b = true ↔ ∃ j : Nat, j < n ∧ x = nI j) → Q (some (.int (bI b))) (S0 L) M) : PM E l mX9_isGo 0 [.ref 42, .int x] [] (S0 L) M 0 0 Q := by
  refine x_iload_n dX9_isGo_0 rfl ?_
  refine x_i2l dX9_isGo_1 ?_
  refine x_lconst dX9_isGo_2 rfl ?_
  refine x_aload_n dX9_isGo_3 rfl ?_
  refine g_I (s0_42 L) fkX9_97 rfl rfl dX9_isGo_4 ?_
  refine x_as hM ?_
  refine x_iconst dX9_isGo_7 iconst_1 ?_
  refine x_isub dX9_isGo_8 ?_
  refine x_i2l dX9_isGo_9 ?_
  refine cS3 (mj := mX9_in) lkX9_107 okX9_in stX9_in rfl rfl rfl rfl dX9_isGo_10 rfl (c_in _ _ _ (fun b hb => ?_))
  refine x_iret dX9_isGo_13 rfl (bI_nar _) ?_
  exact hQ b (hb.trans ((in64 (p' := 0) (q' := nI n - 1) (by decide) rfl x).trans (in_nat hn x)))
set_option maxRecDepth 100000 in
set_option maxHeartbeats 4000000 in
theorem m_isSign {E : vE} {l : Launch} {Q : Option Value → vS → vM → Prop} {L : Nat} {M : vM} {n : Nat} (hn : n < 2 ^ 31) (hM : M 42 20 = nI n) (x : Int32) (hQ : ∀ b : Bool, (b = true ↔ ∃ j : Nat, j < n ∧ x = nI j) → Q (some (.int (bI b))) (S0 L) M) : PM E l mX9_isSign 0 [.ref 42, .int x] [] (S0 L) M 0 0 Q := by
  refine x_iload_n dX9_isSign_0 rfl ?_
  refine x_i2l dX9_isSign_1 ?_
  refine x_lconst dX9_isSign_2 rfl ?_
  refine x_aload_n dX9_isSign_3 rfl ?_
  refine g_I (s0_42 L) fkX9_100 rfl rfl dX9_isSign_4 ?_
  refine x_as hM ?_
  refine x_iconst dX9_isSign_7 iconst_1 ?_
  refine x_isub dX9_isSign_8 ?_
  refine x_i2l dX9_isSign_9 ?_
  refine cS3 (mj := mX9_in) lkX9_107 okX9_in stX9_in rfl rfl rfl rfl dX9_isSign_10 rfl (c_in _ _ _ (fun b hb => ?_))
  refine x_iret dX9_isSign_13 rfl (bI_nar _) ?_
  exact hQ b (hb.trans ((in64 (p' := 0) (q' := nI n - 1) (by decide) rfl x).trans (in_nat hn x)))
set_option maxRecDepth 100000 in
set_option maxHeartbeats 4000000 in
theorem m_cells {E : vE} {l : Launch} {Q : Option Value → vS → vM → Prop} {L : Nat} {M : vM} {w h : Nat} (hw : M 42 0 = nI w) (hh : M 42 1 = nI h) (hQ : Q (some (.int (nI (w * h)))) (S0 L) M) : PM E l mX9_cells 0 [.ref 42] [] (S0 L) M 0 0 Q := by
  refine x_aload_n dX9_cells_0 rfl ?_
  refine g_I (s0_42 L) fkX9_87 rfl rfl dX9_cells_1 ?_
  refine x_as hw ?_
  refine x_aload_n dX9_cells_4 rfl ?_
  refine g_I (s0_42 L) fkX9_91 rfl rfl dX9_cells_5 ?_
  refine x_as hh ?_
  refine n_imul dX9_cells_8 ?_
  refine x_iret dX9_cells_9 rfl rfl ?_
  exact hQ
set_option maxRecDepth 100000 in
set_option maxHeartbeats 4000000 in
theorem m_isCell {E : vE} {l : Launch} {Q : Option Value → vS → vM → Prop} {L : Nat} {M : vM} {w h : Nat} (hn : w * h < 2 ^ 31) (hw : M 42 0 = nI w) (hh : M 42 1 = nI h) (x : Int32) (hQ : ∀ b : Bool, (b = true ↔ ∃ j : Nat, j < w * h ∧ x = nI j) → Q (some (.int (bI b))) (S0 L) M) : PM E l mX9_isCell 0 [.ref 42, .int x] [] (S0 L) M 0 0 Q := by
  refine x_iload_n dX9_isCell_0 rfl ?_
  refine x_i2l dX9_isCell_1 ?_
  refine x_lconst dX9_isCell_2 rfl ?_
  refine x_aload_n dX9_isCell_3 rfl ?_
  refine cV0 (mj := mX9_cells) lkX9_103 okX9_cells imX9_cells seX9_cells (s0_42 L) rfl rfl rfl rfl rfl dX9_isCell_4 rfl (m_cells hw hh ?_)
  refine x_iconst dX9_isCell_7 iconst_1 ?_
  refine x_isub dX9_isCell_8 ?_
  refine x_i2l dX9_isCell_9 ?_
  refine cS3 (mj := mX9_in) lkX9_107 okX9_in stX9_in rfl rfl rfl rfl dX9_isCell_10 rfl (c_in _ _ _ (fun b hb => ?_))
  refine x_iret dX9_isCell_13 rfl (bI_nar _) ?_
  exact hQ b (hb.trans ((in64 (p' := 0) (q' := nI (w * h) - 1) (by decide) rfl x).trans (in_nat hn x)))
set_option maxRecDepth 100000 in
set_option maxHeartbeats 4000000 in
theorem m_isWeight {E : vE} {l : Launch} {Q : Option Value → vS → vM → Prop} {S : vS} {M : vM} (x : Int32) (hQ : ∀ b : Bool, (b = true ↔ ∃ j : Nat, (1 ≤ j ∧ j ≤ 9) ∧ x = nI j) → Q (some (.int (bI b))) S M) : PM E l mX9_isWeight 0 [.int x] [] S M 0 0 Q := by
  refine x_iload_n dX9_isWeight_0 rfl ?_
  refine x_i2l dX9_isWeight_1 ?_
  refine x_lconst dX9_isWeight_2 rfl ?_
  refine x_ldc2 klX9_111 dX9_isWeight_3 ?_
  refine cS3 (mj := mX9_in) lkX9_107 okX9_in stX9_in rfl rfl rfl rfl dX9_isWeight_6 rfl (c_in _ _ _ (fun b hb => ?_))
  refine x_iret dX9_isWeight_9 rfl (bI_nar _) ?_
  exact hQ b (hb.trans ((in64 (p' := nI 1) (q' := nI 9) (by decide) (by decide) x).trans (in_rg (by omega) (by omega) x)))
set_option maxRecDepth 100000 in
set_option maxHeartbeats 4000000 in
theorem m_isSlot {E : vE} {l : Launch} {Q : Option Value → vS → vM → Prop} {S : vS} {M : vM} (x : Int32) (hQ : ∀ b : Bool, (b = true ↔ ∃ j : Nat, (0 ≤ j ∧ j ≤ 2) ∧ x = nI j) → Q (some (.int (bI b))) S M) : PM E l mX9_isSlot 0 [.int x] [] S M 0 0 Q := by
  refine x_iload_n dX9_isSlot_0 rfl ?_
  refine x_i2l dX9_isSlot_1 ?_
  refine x_lconst dX9_isSlot_2 rfl ?_
  refine x_ldc2 klX9_113 dX9_isSlot_3 ?_
  refine cS3 (mj := mX9_in) lkX9_107 okX9_in stX9_in rfl rfl rfl rfl dX9_isSlot_6 rfl (c_in _ _ _ (fun b hb => ?_))
  refine x_iret dX9_isSlot_9 rfl (bI_nar _) ?_
  exact hQ b (hb.trans ((in64 (p' := nI 0) (q' := nI 2) (by decide) (by decide) x).trans (in_rg (by omega) (by omega) x)))
set_option maxRecDepth 100000 in
set_option maxHeartbeats 4000000 in
theorem m_isLayer {E : vE} {l : Launch} {Q : Option Value → vS → vM → Prop} {S : vS} {M : vM} (x : Int32) (hQ : ∀ b : Bool, (b = true ↔ ∃ j : Nat, (0 ≤ j ∧ j ≤ 9) ∧ x = nI j) → Q (some (.int (bI b))) S M) : PM E l mX9_isLayer 0 [.int x] [] S M 0 0 Q := by
  refine x_iload_n dX9_isLayer_0 rfl ?_
  refine x_i2l dX9_isLayer_1 ?_
  refine x_lconst dX9_isLayer_2 rfl ?_
  refine x_ldc2 klX9_111 dX9_isLayer_3 ?_
  refine cS3 (mj := mX9_in) lkX9_107 okX9_in stX9_in rfl rfl rfl rfl dX9_isLayer_6 rfl (c_in _ _ _ (fun b hb => ?_))
  refine x_iret dX9_isLayer_9 rfl (bI_nar _) ?_
  exact hQ b (hb.trans ((in64 (p' := nI 0) (q' := nI 9) (by decide) (by decide) x).trans (in_rg (by omega) (by omega) x)))
set_option maxRecDepth 100000 in
set_option maxHeartbeats 4000000 in
theorem k_g_has {E : vE} {l : Launch} {Q : Option Value → vS → vM → Prop} {L : Nat} {M : vM} {n : Nat} (hn : n < 2 ^ 31) (hM : M 4 3 = nI n) (x : Int32) (hQ : ∀ b : Bool, (b = true ↔ ∃ j : Nat, j < n ∧ x = nI j) → Q (some (.int (bI b))) (S0 L) M) : PM E l mX1_has 0 [.ref 4, .int x] [] (S0 L) M 0 0 Q := by
  refine x_iload_n dX1_has_0 rfl ?_
  refine x_iconst dX1_has_1 iconst_0 ?_
  refine x_aload_n dX1_has_2 rfl ?_
  refine g_I (s0_4 L) fkX1_25 rfl rfl dX1_has_3 ?_
  refine x_as hM ?_
  refine x_iconst dX1_has_6 iconst_1 ?_
  refine x_isub dX1_has_7 ?_
  refine cS3 (mj := mX8_within) lkX1_45 okX8_within stX8_within rfl rfl rfl rfl dX1_has_8 rfl (c_within _ _ _ (fun b hb => ?_))
  refine x_iret dX1_has_11 rfl (bI_nar _) ?_
  exact hQ b (hb.trans (in_nat hn x))
set_option maxRecDepth 100000 in
set_option maxHeartbeats 4000000 in
theorem k_s_has {E : vE} {l : Launch} {Q : Option Value → vS → vM → Prop} {L : Nat} {M : vM} {n : Nat} (hn : n < 2 ^ 31) (hM : M 8 3 = nI n) (x : Int32) (hQ : ∀ b : Bool, (b = true ↔ ∃ j : Nat, j < n ∧ x = nI j) → Q (some (.int (bI b))) (S0 L) M) : PM E l mX5_has 0 [.ref 8, .int x] [] (S0 L) M 0 0 Q := by
  refine x_iload_n dX5_has_0 rfl ?_
  refine x_iconst dX5_has_1 iconst_0 ?_
  refine x_aload_n dX5_has_2 rfl ?_
  refine g_I (s0_8 L) fkX5_21 rfl rfl dX5_has_3 ?_
  refine x_as hM ?_
  refine x_iconst dX5_has_6 iconst_1 ?_
  refine x_isub dX5_has_7 ?_
  refine cS3 (mj := mX8_within) lkX5_25 okX8_within stX8_within rfl rfl rfl rfl dX5_has_8 rfl (c_within _ _ _ (fun b hb => ?_))
  refine x_iret dX5_has_11 rfl (bI_nar _) ?_
  exact hQ b (hb.trans (in_nat hn x))
set_option maxRecDepth 100000 in
set_option maxHeartbeats 4000000 in
theorem k_o_has {E : vE} {l : Launch} {Q : Option Value → vS → vM → Prop} {L : Nat} {M : vM} {n : Nat} (hn : n < 2 ^ 31) (hM : M 12 10 = nI n) (x : Int32) (hQ : ∀ b : Bool, (b = true ↔ ∃ j : Nat, j < n ∧ x = nI j) → Q (some (.int (bI b))) (S0 L) M) : PM E l mX0_has 0 [.ref 12, .int x] [] (S0 L) M 0 0 Q := by
  refine x_iload_n dX0_has_0 rfl ?_
  refine x_iconst dX0_has_1 iconst_0 ?_
  refine x_aload_n dX0_has_2 rfl ?_
  refine g_I (s0_12 L) fkX0_41 rfl rfl dX0_has_3 ?_
  refine x_as hM ?_
  refine x_iconst dX0_has_6 iconst_1 ?_
  refine x_isub dX0_has_7 ?_
  refine cS3 (mj := mX8_within) lkX0_45 okX8_within stX8_within rfl rfl rfl rfl dX0_has_8 rfl (c_within _ _ _ (fun b hb => ?_))
  refine x_iret dX0_has_11 rfl (bI_nar _) ?_
  exact hQ b (hb.trans (in_nat hn x))
set_option maxRecDepth 100000 in
set_option maxHeartbeats 4000000 in
theorem k_z_has {E : vE} {l : Launch} {Q : Option Value → vS → vM → Prop} {L : Nat} {M : vM} {n : Nat} (hn : n < 2 ^ 31) (hM : M 27 7 = nI n) (x : Int32) (hQ : ∀ b : Bool, (b = true ↔ ∃ j : Nat, j < n ∧ x = nI j) → Q (some (.int (bI b))) (S0 L) M) : PM E l mX4_has 0 [.ref 27, .int x] [] (S0 L) M 0 0 Q := by
  refine x_iload_n dX4_has_0 rfl ?_
  refine x_iconst dX4_has_1 iconst_0 ?_
  refine x_aload_n dX4_has_2 rfl ?_
  refine g_I (s0_27 L) fkX4_36 rfl rfl dX4_has_3 ?_
  refine x_as hM ?_
  refine x_iconst dX4_has_6 iconst_1 ?_
  refine x_isub dX4_has_7 ?_
  refine cS3 (mj := mX8_within) lkX4_40 okX8_within stX8_within rfl rfl rfl rfl dX4_has_8 rfl (c_within _ _ _ (fun b hb => ?_))
  refine x_iret dX4_has_11 rfl (bI_nar _) ?_
  exact hQ b (hb.trans (in_nat hn x))
set_option maxRecDepth 100000 in
set_option maxHeartbeats 4000000 in
theorem k_isSlot {E : vE} {l : Launch} {Q : Option Value → vS → vM → Prop} {S : vS} {M : vM} (x : Int32) (hQ : ∀ b : Bool, (b = true ↔ ∃ j : Nat, (0 ≤ j ∧ j ≤ 2) ∧ x = nI j) → Q (some (.int (bI b))) S M) : PM E l mX8_isSlot 0 [.int x] [] S M 0 0 Q := by
  refine x_iload_n dX8_isSlot_0 rfl ?_
  refine x_iconst dX8_isSlot_1 iconst_0 ?_
  refine x_iconst dX8_isSlot_2 iconst_2 ?_
  refine cS3 (mj := mX8_within) lkX8_79 okX8_within stX8_within rfl rfl rfl rfl dX8_isSlot_3 rfl (c_within _ _ _ (fun b hb => ?_))
  refine x_iret dX8_isSlot_6 rfl (bI_nar _) ?_
  exact hQ b (hb.trans (in_rg (by omega) (by omega) x))
set_option maxRecDepth 100000 in
set_option maxHeartbeats 4000000 in
theorem k_isLayer {E : vE} {l : Launch} {Q : Option Value → vS → vM → Prop} {S : vS} {M : vM} (x : Int32) (hQ : ∀ b : Bool, (b = true ↔ ∃ j : Nat, (0 ≤ j ∧ j ≤ 9) ∧ x = nI j) → Q (some (.int (bI b))) S M) : PM E l mX8_isLayer 0 [.int x] [] S M 0 0 Q := by
  refine x_iload_n dX8_isLayer_0 rfl ?_
  refine x_iconst dX8_isLayer_1 iconst_0 ?_
  refine x_bipush dX8_isLayer_2 bipush_9 ?_
  refine cS3 (mj := mX8_within) lkX8_79 okX8_within stX8_within rfl rfl rfl rfl dX8_isLayer_4 rfl (c_within _ _ _ (fun b hb => ?_))
  refine x_iret dX8_isLayer_7 rfl (bI_nar _) ?_
  exact hQ b (hb.trans (in_rg (by omega) (by omega) x))

/-- what may be told at all -/
def Val (w h : Nat) (ht rk : Nat → Nat) (ns : Nat) (T : Nat → vT) (ng : Nat) (G : Nat → vQ) (Rw : Nat → Nat × (Nat → Nat)) (nz : Nat) (U : Nat → vU) (O : Nat → Nat) : Prop := GoV w h ng ht G ∧ StV w h ns rk T ∧ SgV w h ns nz U ∧ (∀ s, s < 3 → RwV ng (Rw s).1 (Rw s).2 ∧ (Rw s).1 ≤ ng ∧ ∀ i j, i < (Rw s).1 → j < (Rw s).1 → (Rw s).2 i = (Rw s).2 j → i = j) ∧ ∀ a, a < 10 → O a < 1024 ∧ (O a).testBit a = false
/-- the model's memory of it -/
def RoM (M : vM) (Rw : Nat → Nat × (Nat → Nat)) : Prop := ∀ s, s < 3 → M 55 s = nI (Rw s).1 ∧ ∀ k, k < (Rw s).1 → M 56 (6 * s + k) = nI ((Rw s).2 k)
def OvM (M : vM) (O : Nat → Nat) : Prop := ∀ a, a < 10 → M 65 a = nI (O a)
def RepM (M : vM) (w h : Nat) (ht rk : Nat → Nat) (ns : Nat) (T : Nat → vT) (ng : Nat) (G : Nat → vQ) (Rw : Nat → Nat × (Nat → Nat)) (nz : Nat) (U : Nat → vU) (O : Nat → Nat) : Prop := GoM M w h ng ht G ∧ StM M w h ns rk T ∧ SgM M nz U ∧ RoM M Rw ∧ OvM M O
theorem RepM.kept {M M1 : vM} {w h : Nat} {ht rk : Nat → Nat} {ns : Nat} {T : Nat → vT} {ng : Nat} {G : Nat → vQ} {Rw : Nat → Nat × (Nat → Nat)} {nz : Nat} {U : Nat → vU} {O : Nat → Nat} (k : RepM M w h ht rk ns T ng G Rw nz U O) (e : ∀ q, 43 ≤ q → q ≠ 53 → q ≠ 54 → q ≠ 57 → q ≠ 62 → q ≠ 63 → q ≠ 64 → q ≠ 66 → M1 q = M q) (e2 : ∀ j ∈ [0, 1, 4, 8, 20], M1 42 j = M 42 j) : RepM M1 w h ht rk ns T ng G Rw nz U O := by
  obtain ⟨a1, a2, a3, a4, a5⟩ := k
  refine ⟨a1.kept2 (fun q hq => ?_) (fun j hj => e2 j (by revert j; decide)), a2.kept (fun q hq => ?_) (e2 4 (by decide)), a3.kept (fun q hq => ?_) (e2 20 (by decide)), fun s hs => ?_, fun a ha => ?_⟩
  · exact e q (by revert q; decide) (by revert q; decide) (by revert q; decide) (by revert q; decide) (by revert q; decide) (by revert q; decide) (by revert q; decide) (by revert q; decide)
  · exact e q (by revert q; decide) (by revert q; decide) (by revert q; decide) (by revert q; decide) (by revert q; decide) (by revert q; decide) (by revert q; decide) (by revert q; decide)
  · exact e q (by revert q; decide) (by revert q; decide) (by revert q; decide) (by revert q; decide) (by revert q; decide) (by revert q; decide) (by revert q; decide) (by revert q; decide)
  · rw [e 55 (by decide) (by decide) (by decide) (by decide) (by decide) (by decide) (by decide) (by decide), e 56 (by decide) (by decide) (by decide) (by decide) (by decide) (by decide) (by decide) (by decide)]
    exact a4 s hs
  · rw [e 65 (by decide) (by decide) (by decide) (by decide) (by decide) (by decide) (by decide) (by decide)]
    exact a5 a ha
theorem in_two {x : Int32} {P : Prop} {b : Bool} (h : b = true ↔ P) : (b = true → P) ∧ (b = false → ¬ P) := ⟨h.mp, fun z y => by rw [h.mpr y] at z; cases z⟩
def INr (a b : Nat) (x : Int32) : Prop := ∃ j : Nat, (a ≤ j ∧ j ≤ b) ∧ x = nI j
def INn (n : Nat) (x : Int32) : Prop := ∃ j : Nat, j < n ∧ x = nI j
theorem in_r64 {p q : Int64} {a b : Nat} (hp : p = (nI a).toInt64) (hq : q = (nI b).toInt64) (hab : a ≤ b) (hb : b < 2 ^ 31 - 1) (x : Int32) : (p ≤ x.toInt64 ∧ x.toInt64 ≤ q) ↔ INr a b x := (in64 hp hq x).trans (in_rg hab hb x)
set_option maxRecDepth 100000 in
set_option maxHeartbeats 4000000 in
theorem m_land {E : vE} {l : Launch} {Q : Option Value → vS → vM → Prop} {L : Nat} {M : vM} {w h : Nat} {ht rk : Nat → Nat} {ns : Nat} {T : Nat → vT} {ng : Nat} {G : Nat → vQ} {Rw : Nat → Nat × (Nat → Nat)} {nz : Nat} {U : Nat → vU} {O : Nat → Nat} (VV : Val w h ht rk ns T ng G Rw nz U O) (RR : RepM M w h ht rk ns T ng G Rw nz U O) {x y : Int32} (hN : ¬ (INr 2 6 x ∧ INr 2 6 y) → Q (some (.int (-900002))) (S0 L) M) (hY : ∀ j k : Nat, (2 ≤ j ∧ j ≤ 6) → (2 ≤ k ∧ k ≤ 6) → x = nI j → y = nI k → ∀ M1 : vM, (∀ q, q < 42 → M1 q = M q) → RepM M1 j k (fun _ => 0) (fun _ => 0) 0 T 0 G (fun _ => (0, fun _ => 0)) 0 U O → Q (some (.int (nI (j * k)))) (S0 L) M1) : PM E l mX9_land 0 [.ref 42, .int x, .int y] [] (S0 L) M 0 0 Q := by
  obtain ⟨V, SVv, ZV, RV, OV⟩ := VV
  obtain ⟨K, SM, ZM, RO, OM⟩ := RR
  have H := V.1
  have e4 := H.le
  have e6 := H.pos
  have hng := V.2.2.1
  have hns := SVv.1
  have hnz := ZV.1
  refine x_iload_n dX9_land_0 rfl ?_
  refine x_i2l dX9_land_1 ?_
  refine x_ldc2 klX9_113 dX9_land_2 ?_
  refine x_ldc2 klX9_115 dX9_land_5 ?_
  refine cS3 (mj := mX9_in) lkX9_107 okX9_in stX9_in rfl rfl rfl rfl dX9_land_8 rfl (c_in _ _ _ (fun b1 b1h => ?_))
  have k1 := in_two (x := 0) (b1h.trans (in_r64 (a := 2) (b := 6) (by decide) (by decide) (by omega) (by omega) _))
  refine b_if_eq 28 dX9_land_11 rfl (fun z1 => ?_) (fun z1 => ?_)
  · refine x_ldc kcX9_117 dX9_land_28 ?_
    refine x_iret dX9_land_30 rfl rfl ?_
    exact hN (fun z => k1.2 z1 z.1)
  · refine x_iload_n dX9_land_14 rfl ?_
    refine x_i2l dX9_land_15 ?_
    refine x_ldc2 klX9_113 dX9_land_16 ?_
    refine x_ldc2 klX9_115 dX9_land_19 ?_
    refine cS3 (mj := mX9_in) lkX9_107 okX9_in stX9_in rfl rfl rfl rfl dX9_land_22 rfl (c_in _ _ _ (fun b2 b2h => ?_))
    have k2 := in_two (x := 0) (b2h.trans (in_r64 (a := 2) (b := 6) (by decide) (by decide) (by omega) (by omega) _))
    refine b_if_ne 31 dX9_land_25 rfl (fun z2 => ?_) (fun z2 => ?_)
    · obtain ⟨j, hj, rfl⟩ := k1.1 z1
      obtain ⟨k, hk, rfl⟩ := k2.1 z2
      refine x_aload_n dX9_land_31 rfl ?_
      refine x_iload_n dX9_land_32 rfl ?_
      refine x_iload_n dX9_land_33 rfl ?_
      refine cV2 (mj := mX9_layLand) lkX9_83 okX9_layLand imX9_layLand seX9_layLand (s0_42 L) rfl rfl rfl rfl rfl dX9_land_34 rfl (m_layLand (fun M1 y1 y2 y3 y4 y5 y6 y7 y8 => ?_))
      refine x_iload_n dX9_land_37 rfl ?_
      refine x_iload_n dX9_land_38 rfl ?_
      refine n_imul dX9_land_39 ?_
      refine x_iret dX9_land_40 rfl rfl ?_
      refine hY j k hj hk rfl rfl M1 (fun q hq => y1 q (by simp; omega)) ⟨⟨y2, y3, fun c hc => (y4 c (by have := Nat.mul_le_mul hj.2 hk.2; omega)).1, y6, fun g hg => absurd hg (Nat.not_lt_zero g)⟩, ⟨y5, fun c hc => (y4 c (by have := Nat.mul_le_mul hj.2 hk.2; omega)).2, fun i hi => absurd hi (Nat.not_lt_zero i)⟩, ⟨y7, fun i hi => absurd hi (Nat.not_lt_zero i)⟩, fun s hs => ⟨y8 s hs, fun k hk => absurd hk (Nat.not_lt_zero k)⟩, fun a ha => ?_⟩
      rw [y1 65 (by decide)]
      exact OM a ha
    · refine x_ldc kcX9_117 dX9_land_28 ?_
      refine x_iret dX9_land_30 rfl rfl ?_
      exact hN (fun z => k2.2 z2 z.2)
set_option maxRecDepth 100000 in
set_option maxHeartbeats 4000000 in
theorem m_cell {E : vE} {l : Launch} {Q : Option Value → vS → vM → Prop} {L : Nat} {M : vM} {w h : Nat} {ht rk : Nat → Nat} {ns : Nat} {T : Nat → vT} {ng : Nat} {G : Nat → vQ} {Rw : Nat → Nat × (Nat → Nat)} {nz : Nat} {U : Nat → vU} {O : Nat → Nat} (VV : Val w h ht rk ns T ng G Rw nz U O) (RR : RepM M w h ht rk ns T ng G Rw nz U O) {x y v : Int32} (hN : ¬ INn (w * h) x → Q (some (.int (-900001))) (S0 L) M) (hO : INn (w * h) x → ¬ ((y = 0 ∧ INr 0 99 v) ∨ (y = nI 1 ∧ INr 0 5 v)) → Q (some (.int (-900002))) (S0 L) M) (hH : ∀ j k : Nat, j < w * h → k ≤ 99 → x = nI j → y = 0 → v = nI k → ∀ M1 : vM, (∀ q, q < 42 → M1 q = M q) → RepM M1 w h (fun c => if c = j then k else ht c) rk ns T ng G Rw nz U O → Q (some (.int (nI (ht j)))) (S0 L) M1) (hR : ∀ j k : Nat, j < w * h → k ≤ 5 → x = nI j → y = nI 1 → v = nI k → ∀ M1 : vM, (∀ q, q < 42 → M1 q = M q) → RepM M1 w h ht (fun c => if c = j then k else rk c) ns T ng G Rw nz U O → Q (some (.int (nI (rk j)))) (S0 L) M1) : PM E l mX9_cell 0 [.ref 42, .int x, .int y, .int v, .null] [] (S0 L) M 0 0 Q := by
  obtain ⟨V, SVv, ZV, RV, OV⟩ := VV
  obtain ⟨K, SM, ZM, RO, OM⟩ := RR
  have H := V.1
  have e4 := H.le
  have e6 := H.pos
  have hng := V.2.2.1
  have hns := SVv.1
  have hnz := ZV.1
  have hA0 : INn (w * h) x → y = 0 → INr 0 99 v → PM E l mX9_cell 47 [.ref 42, .int x, .int y, .int v, .null] [] (S0 L) M 0 0 Q := by
    rintro ⟨j, hj, rfl⟩ rfl ⟨k, hk, rfl⟩
    refine x_iload_n dX9_cell_47 rfl ?_
    refine x_if_ne 60 dX9_cell_48 rfl (fun z1 => by exact absurd rfl z1) (fun z1 => ?_)
    refine x_aload_n dX9_cell_51 rfl ?_
    refine g_R (s0_42 L) fkX9_7 rfl rfl rfl dX9_cell_52 ?_
    refine x_iload_n dX9_cell_55 rfl ?_
    refine n_iald (s0_43 L) (by omega) rfl dX9_cell_56 ?_
    refine x_as (K.2.2.1 j hj) ?_
    refine x_goto 66 dX9_cell_57 rfl ?_
    refine x_istore dX9_cell_66 (by decide) rfl ?_
    refine x_iload_n dX9_cell_68 rfl ?_
    refine x_if_ne 82 dX9_cell_69 rfl (fun z2 => by exact absurd rfl z2) (fun z2 => ?_)
    refine x_aload_n dX9_cell_72 rfl ?_
    refine g_R (s0_42 L) fkX9_7 rfl rfl rfl dX9_cell_73 ?_
    refine x_iload_n dX9_cell_76 rfl ?_
    refine x_iload_n dX9_cell_77 rfl ?_
    refine n_iast rfl (s0_43 L) (by omega) rfl dX9_cell_78 ?_
    refine x_goto 89 dX9_cell_79 rfl ?_
    refine x_iload dX9_cell_89 rfl ?_
    refine x_iret dX9_cell_91 rfl rfl ?_
    refine hH j k hj hk.2 rfl rfl rfl _ (fun q hq => sM_ne _ _ _ (by omega)) ⟨⟨K.1, K.2.1, fun c hc => ?_, K.2.2.2⟩, SM, ZM, RO, OM⟩
    show upd (M 43) j (nI k) c = nI (if c = j then k else ht c)
    by_cases e : c = j
    · rw [e, if_pos rfl]; exact upd_at _ _ _
    · rw [if_neg e]; exact (upd_ne _ _ e).trans (K.2.2.1 c hc)
  have hA1 : INn (w * h) x → y = nI 1 → INr 0 5 v → PM E l mX9_cell 47 [.ref 42, .int x, .int y, .int v, .null] [] (S0 L) M 0 0 Q := by
    rintro ⟨j, hj, rfl⟩ rfl ⟨k, hk, rfl⟩
    refine x_iload_n dX9_cell_47 rfl ?_
    refine x_if_ne 60 dX9_cell_48 rfl (fun z1 => ?_) (fun z1 => by exact absurd z1 (by decide))
    refine x_aload_n dX9_cell_60 rfl ?_
    refine g_R (s0_42 L) fkX9_13 rfl rfl rfl dX9_cell_61 ?_
    refine x_iload_n dX9_cell_64 rfl ?_
    refine n_iald (s0_44 L) (by omega) rfl dX9_cell_65 ?_
    refine x_as (SM.2.1 j hj) ?_
    refine x_istore dX9_cell_66 (by decide) rfl ?_
    refine x_iload_n dX9_cell_68 rfl ?_
    refine x_if_ne 82 dX9_cell_69 rfl (fun z2 => ?_) (fun z2 => by exact absurd z2 (by decide))
    refine x_aload_n dX9_cell_82 rfl ?_
    refine g_R (s0_42 L) fkX9_13 rfl rfl rfl dX9_cell_83 ?_
    refine x_iload_n dX9_cell_86 rfl ?_
    refine x_iload_n dX9_cell_87 rfl ?_
    refine n_iast rfl (s0_44 L) (by omega) rfl dX9_cell_88 ?_
    refine x_iload dX9_cell_89 rfl ?_
    refine x_iret dX9_cell_91 rfl rfl ?_
    refine hR j k hj hk.2 rfl rfl rfl _ (fun q hq => sM_ne _ _ _ (by omega)) ⟨K, ⟨SM.1, fun c hc => ?_, SM.2.2⟩, ZM, RO, OM⟩
    show upd (M 44) j (nI k) c = nI (if c = j then k else rk c)
    by_cases e : c = j
    · rw [e, if_pos rfl]; exact upd_at _ _ _
    · rw [if_neg e]; exact (upd_ne _ _ e).trans (SM.2.1 c hc)
  refine x_aload_n dX9_cell_0 rfl ?_
  refine x_iload_n dX9_cell_1 rfl ?_
  refine cV1 (mj := mX9_isCell) lkX9_118 okX9_isCell imX9_isCell seX9_isCell (s0_42 L) rfl rfl rfl rfl rfl dX9_cell_2 rfl (m_isCell (by omega) K.1 K.2.1 _ (fun b0 b0h => ?_))
  have k0 := in_two (x := 0) b0h
  refine b_if_ne 11 dX9_cell_5 rfl (fun z0 => ?_) (fun z0 => ?_)
  · refine x_iload_n dX9_cell_11 rfl ?_
    refine x_if_ne 27 dX9_cell_12 rfl (fun z1 => ?_) (fun z1 => ?_)
    · refine x_iload_n dX9_cell_27 rfl ?_
      refine x_iconst dX9_cell_28 iconst_1 ?_
      refine x_icmp_ne 44 dX9_cell_29 rfl (fun z3 => ?_) (fun z3 => ?_)
      · refine x_ldc kcX9_117 dX9_cell_44 ?_
        refine x_iret dX9_cell_46 rfl rfl ?_
        refine hO (k0.1 z0) (fun z => ?_)
        rcases z with ⟨z, zz⟩ | ⟨z, zz⟩
        · first | exact z1 z | exact k2.2 z2 zz
        · first | (rw [z1] at z; exact absurd z (by decide)) | exact z3 z | exact k4.2 z4 zz
      · refine x_iload_n dX9_cell_32 rfl ?_
        refine x_i2l dX9_cell_33 ?_
        refine x_lconst dX9_cell_34 rfl ?_
        refine x_ldc2 klX9_125 dX9_cell_35 ?_
        refine cS3 (mj := mX9_in) lkX9_107 okX9_in stX9_in rfl rfl rfl rfl dX9_cell_38 rfl (c_in _ _ _ (fun b4 b4h => ?_))
        have k4 := in_two (x := 0) (b4h.trans (in_r64 (a := 0) (b := 5) (by decide) (by decide) (by omega) (by omega) _))
        refine b_if_ne 47 dX9_cell_41 rfl (fun z4 => ?_) (fun z4 => ?_)
        · exact hA1 (k0.1 z0) z3 (k4.1 z4)
        · refine x_ldc kcX9_117 dX9_cell_44 ?_
          refine x_iret dX9_cell_46 rfl rfl ?_
          refine hO (k0.1 z0) (fun z => ?_)
          rcases z with ⟨z, zz⟩ | ⟨z, zz⟩
          · first | exact z1 z | exact k2.2 z2 zz
          · first | (rw [z1] at z; exact absurd z (by decide)) | exact z3 z | exact k4.2 z4 zz
    · refine x_iload_n dX9_cell_15 rfl ?_
      refine x_i2l dX9_cell_16 ?_
      refine x_lconst dX9_cell_17 rfl ?_
      refine x_ldc2 klX9_123 dX9_cell_18 ?_
      refine cS3 (mj := mX9_in) lkX9_107 okX9_in stX9_in rfl rfl rfl rfl dX9_cell_21 rfl (c_in _ _ _ (fun b2 b2h => ?_))
      have k2 := in_two (x := 0) (b2h.trans (in_r64 (a := 0) (b := 99) (by decide) (by decide) (by omega) (by omega) _))
      refine b_if_ne 47 dX9_cell_24 rfl (fun z2 => ?_) (fun z2 => ?_)
      · exact hA0 (k0.1 z0) z1 (k2.1 z2)
      · refine x_iload_n dX9_cell_27 rfl ?_
        refine x_iconst dX9_cell_28 iconst_1 ?_
        refine x_icmp_ne 44 dX9_cell_29 rfl (fun z3 => ?_) (fun z3 => ?_)
        · refine x_ldc kcX9_117 dX9_cell_44 ?_
          refine x_iret dX9_cell_46 rfl rfl ?_
          refine hO (k0.1 z0) (fun z => ?_)
          rcases z with ⟨z, zz⟩ | ⟨z, zz⟩
          · first | exact z1 z | exact k2.2 z2 zz
          · first | (rw [z1] at z; exact absurd z (by decide)) | exact z3 z | exact k4.2 z4 zz
        · refine x_iload_n dX9_cell_32 rfl ?_
          refine x_i2l dX9_cell_33 ?_
          refine x_lconst dX9_cell_34 rfl ?_
          refine x_ldc2 klX9_125 dX9_cell_35 ?_
          refine cS3 (mj := mX9_in) lkX9_107 okX9_in stX9_in rfl rfl rfl rfl dX9_cell_38 rfl (c_in _ _ _ (fun b4 b4h => ?_))
          have k4 := in_two (x := 0) (b4h.trans (in_r64 (a := 0) (b := 5) (by decide) (by decide) (by omega) (by omega) _))
          refine b_if_ne 47 dX9_cell_41 rfl (fun z4 => ?_) (fun z4 => ?_)
          · exact hA1 (k0.1 z0) z3 (k4.1 z4)
          · refine x_ldc kcX9_117 dX9_cell_44 ?_
            refine x_iret dX9_cell_46 rfl rfl ?_
            refine hO (k0.1 z0) (fun z => ?_)
            rcases z with ⟨z, zz⟩ | ⟨z, zz⟩
            · first | exact z1 z | exact k2.2 z2 zz
            · first | (rw [z1] at z; exact absurd z (by decide)) | exact z3 z | exact k4.2 z4 zz
  · refine x_ldc kcX9_122 dX9_cell_8 ?_
    refine x_iret dX9_cell_10 rfl rfl ?_
    exact hN (k0.2 z0)
set_option maxRecDepth 100000 in
set_option maxHeartbeats 4000000 in
theorem m_stone {E : vE} {l : Launch} {Q : Option Value → vS → vM → Prop} {L : Nat} {M : vM} {w h : Nat} {ht rk : Nat → Nat} {ns : Nat} {T : Nat → vT} {ng : Nat} {G : Nat → vQ} {Rw : Nat → Nat × (Nat → Nat)} {nz : Nat} {U : Nat → vU} {O : Nat → Nat} (VV : Val w h ht rk ns T ng G Rw nz U O) (RR : RepM M w h ht rk ns T ng G Rw nz U O) {x y v : Int32} (hN : ¬ INn (w * h) x → Q (some (.int (-900001))) (S0 L) M) (hO : INn (w * h) x → ¬ (INr 0 5 y ∧ INr 1 9 v) → Q (some (.int (-900002))) (S0 L) M) (hF : ∀ j k t : Nat, j < w * h → k ≤ 5 → (1 ≤ t ∧ t ≤ 9) → x = nI j → y = nI k → v = nI t → ns = 12 → Q (some (.int (-900004))) (S0 L) M) (hY : ∀ j k t : Nat, j < w * h → k ≤ 5 → (1 ≤ t ∧ t ≤ 9) → x = nI j → y = nI k → v = nI t → ns < 12 → ∀ M1 : vM, (∀ q, q < 42 → M1 q = M q) → RepM M1 w h ht rk (ns + 1) (fun i => if i = ns then (j, k, t) else T i) ng G Rw nz U O → Q (some (.int (nI ns))) (S0 L) M1) : PM E l mX9_stone 0 [.ref 42, .int x, .int y, .int v] [] (S0 L) M 0 0 Q := by
  obtain ⟨V, SVv, ZV, RV, OV⟩ := VV
  obtain ⟨K, SM, ZM, RO, OM⟩ := RR
  have H := V.1
  have e4 := H.le
  have e6 := H.pos
  have hng := V.2.2.1
  have hns := SVv.1
  have hnz := ZV.1
  refine x_aload_n dX9_stone_0 rfl ?_
  refine x_iload_n dX9_stone_1 rfl ?_
  refine cV1 (mj := mX9_isCell) lkX9_118 okX9_isCell imX9_isCell seX9_isCell (s0_42 L) rfl rfl rfl rfl rfl dX9_stone_2 rfl (m_isCell (by omega) K.1 K.2.1 _ (fun b0 b0h => ?_))
  have k0 := in_two (x := 0) b0h
  refine b_if_ne 11 dX9_stone_5 rfl (fun z0 => ?_) (fun z0 => ?_)
  · refine x_iload_n dX9_stone_11 rfl ?_
    refine x_i2l dX9_stone_12 ?_
    refine x_lconst dX9_stone_13 rfl ?_
    refine x_ldc2 klX9_125 dX9_stone_14 ?_
    refine cS3 (mj := mX9_in) lkX9_107 okX9_in stX9_in rfl rfl rfl rfl dX9_stone_17 rfl (c_in _ _ _ (fun b1 b1h => ?_))
    have k1 := in_two (x := 0) (b1h.trans (in_r64 (a := 0) (b := 5) (by decide) (by decide) (by omega) (by omega) _))
    refine b_if_eq 30 dX9_stone_20 rfl (fun z1 => ?_) (fun z1 => ?_)
    · refine x_ldc kcX9_117 dX9_stone_30 ?_
      refine x_iret dX9_stone_32 rfl rfl ?_
      exact hO (k0.1 z0) (fun z => k1.2 z1 z.1)
    · refine x_iload_n dX9_stone_23 rfl ?_
      refine cS1 (mj := mX9_isWeight) lkX9_127 okX9_isWeight stX9_isWeight rfl rfl rfl rfl dX9_stone_24 rfl (m_isWeight _ (fun b2 b2h => ?_))
      have k2 := in_two (x := 0) b2h
      refine b_if_ne 33 dX9_stone_27 rfl (fun z2 => ?_) (fun z2 => ?_)
      · obtain ⟨j, hj, rfl⟩ := k0.1 z0
        obtain ⟨k, hk, rfl⟩ := k1.1 z1
        obtain ⟨t, htt, rfl⟩ := k2.1 z2
        refine x_aload_n dX9_stone_33 rfl ?_
        refine g_I (s0_42 L) fkX9_94 rfl rfl dX9_stone_34 ?_
        refine x_as SM.1 ?_
        refine x_bipush dX9_stone_37 bipush_12 ?_
        refine n_icmp_ne 45 dX9_stone_39 rfl (by omega) (by omega) (fun z3 => ?_) (fun z3 => ?_)
        · refine x_aload_n dX9_stone_45 rfl ?_
          refine g_R (s0_42 L) fkX9_16 rfl rfl rfl dX9_stone_46 ?_
          refine x_aload_n dX9_stone_49 rfl ?_
          refine g_I (s0_42 L) fkX9_94 rfl rfl dX9_stone_50 ?_
          refine x_as SM.1 ?_
          refine x_iload_n dX9_stone_53 rfl ?_
          refine n_iast rfl (s0_45 L) (by omega) rfl dX9_stone_54 ?_
          refine x_aload_n dX9_stone_55 rfl ?_
          refine g_R (s0_42 L) fkX9_19 rfl rfl rfl dX9_stone_56 ?_
          refine x_aload_n dX9_stone_59 rfl ?_
          refine g_I (s0_42 L) fkX9_94 rfl rfl dX9_stone_60 ?_
          refine x_as SM.1 ?_
          refine x_iload_n dX9_stone_63 rfl ?_
          refine n_iast rfl (s0_46 L) (by omega) rfl dX9_stone_64 ?_
          refine x_aload_n dX9_stone_65 rfl ?_
          refine g_R (s0_42 L) fkX9_22 rfl rfl rfl dX9_stone_66 ?_
          refine x_aload_n dX9_stone_69 rfl ?_
          refine g_I (s0_42 L) fkX9_94 rfl rfl dX9_stone_70 ?_
          refine x_as SM.1 ?_
          refine x_iload_n dX9_stone_73 rfl ?_
          refine n_iast rfl (s0_47 L) (by omega) rfl dX9_stone_74 ?_
          refine x_aload_n dX9_stone_75 rfl ?_
          refine x_dup dX9_stone_76 rfl ?_
          refine g_I (s0_42 L) fkX9_94 rfl rfl dX9_stone_77 ?_
          refine x_as SM.1 ?_
          refine x_iconst dX9_stone_80 iconst_1 ?_
          refine n_iadd dX9_stone_81 ?_
          refine g_P (s0_42 L) fkX9_94 rfl rfl rfl rfl dX9_stone_82 ?_
          refine x_aload_n dX9_stone_85 rfl ?_
          refine g_I (s0_42 L) fkX9_94 rfl rfl dX9_stone_86 ?_
          refine x_as (show _ = nI (ns + 1) from rfl) ?_
          refine x_iconst dX9_stone_89 iconst_1 ?_
          refine n_isub dX9_stone_90 (by omega) ?_
          refine x_iret dX9_stone_91 rfl rfl ?_
          refine hY j k t hj hk.2 htt rfl rfl rfl (by omega) _ (fun q hq => ?_) ⟨K, ⟨rfl, SM.2.1, fun i hi => ?_⟩, ZM, RO, OM⟩
          · rw [sM_ne _ _ _ (by omega), sM_ne _ _ _ (by omega), sM_ne _ _ _ (by omega), sM_ne _ _ _ (by omega)]
          · show upd (M 45) ns (nI j) i = nI (if i = ns then (j, k, t) else T i).1 ∧ upd (M 46) ns (nI k) i = nI (if i = ns then (j, k, t) else T i).2.1 ∧ upd (M 47) ns (nI t) i = nI (if i = ns then (j, k, t) else T i).2.2
            by_cases e : i = ns
            · rw [e, if_pos rfl, upd_at, upd_at, upd_at]; exact ⟨rfl, rfl, rfl⟩
            · rw [if_neg e, upd_ne _ _ e, upd_ne _ _ e, upd_ne _ _ e]; exact SM.2.2 i (by omega)
        · refine x_ldc kcX9_130 dX9_stone_42 ?_
          refine x_iret dX9_stone_44 rfl rfl ?_
          exact hF j k t hj hk.2 htt rfl rfl rfl z3
      · refine x_ldc kcX9_117 dX9_stone_30 ?_
        refine x_iret dX9_stone_32 rfl rfl ?_
        exact hO (k0.1 z0) (fun z => k2.2 z2 z.2)
  · refine x_ldc kcX9_122 dX9_stone_8 ?_
    refine x_iret dX9_stone_10 rfl rfl ?_
    exact hN (k0.2 z0)
set_option maxRecDepth 100000 in
set_option maxHeartbeats 4000000 in
theorem m_dug {E : vE} {l : Launch} {Q : Option Value → vS → vM → Prop} {L : Nat} {M : vM} {w h : Nat} {ht rk : Nat → Nat} {ns : Nat} {T : Nat → vT} {ng : Nat} {G : Nat → vQ} {Rw : Nat → Nat × (Nat → Nat)} {nz : Nat} {U : Nat → vU} {O : Nat → Nat} (VV : Val w h ht rk ns T ng G Rw nz U O) (RR : RepM M w h ht rk ns T ng G Rw nz U O) {x y : Int32} (hN : ¬ (INn ns x ∧ INn (w * h) y) → Q (some (.int (-900001))) (S0 L) M) (hY : ∀ t j : Nat, t < ns → j < w * h → x = nI t → y = nI j → ∀ M1 : vM, (∀ q, q < 42 → M1 q = M q) → RepM M1 w h ht rk ns (fun i => if i = t then (j, (T t).2) else T i) ng G Rw nz U O → Q (some (.int (nI (T t).1))) (S0 L) M1) : PM E l mX9_dug 0 [.ref 42, .int x, .int y, .null] [] (S0 L) M 0 0 Q := by
  obtain ⟨V, SVv, ZV, RV, OV⟩ := VV
  obtain ⟨K, SM, ZM, RO, OM⟩ := RR
  have H := V.1
  have e4 := H.le
  have e6 := H.pos
  have hng := V.2.2.1
  have hns := SVv.1
  have hnz := ZV.1
  refine x_aload_n dX9_dug_0 rfl ?_
  refine x_iload_n dX9_dug_1 rfl ?_
  refine cV1 (mj := mX9_isStone) lkX9_131 okX9_isStone imX9_isStone seX9_isStone (s0_42 L) rfl rfl rfl rfl rfl dX9_dug_2 rfl (m_isStone (by omega) SM.1 _ (fun b1 b1h => ?_))
  have k1 := in_two (x := 0) b1h
  refine b_if_eq 16 dX9_dug_5 rfl (fun z1 => ?_) (fun z1 => ?_)
  · refine x_ldc kcX9_122 dX9_dug_16 ?_
    refine x_iret dX9_dug_18 rfl rfl ?_
    exact hN (fun z => k1.2 z1 z.1)
  · refine x_aload_n dX9_dug_8 rfl ?_
    refine x_iload_n dX9_dug_9 rfl ?_
    refine cV1 (mj := mX9_isCell) lkX9_118 okX9_isCell imX9_isCell seX9_isCell (s0_42 L) rfl rfl rfl rfl rfl dX9_dug_10 rfl (m_isCell (by omega) K.1 K.2.1 _ (fun b0 b0h => ?_))
    have k0 := in_two (x := 0) b0h
    refine b_if_ne 19 dX9_dug_13 rfl (fun z0 => ?_) (fun z0 => ?_)
    · obtain ⟨t, htt, rfl⟩ := k1.1 z1
      obtain ⟨j, hj, rfl⟩ := k0.1 z0
      refine x_aload_n dX9_dug_19 rfl ?_
      refine g_R (s0_42 L) fkX9_16 rfl rfl rfl dX9_dug_20 ?_
      refine x_iload_n dX9_dug_23 rfl ?_
      refine n_iald (s0_45 L) (by omega) rfl dX9_dug_24 ?_
      refine x_as (SM.2.2 t htt).1 ?_
      refine x_istore_n dX9_dug_25 (by decide) rfl ?_
      refine x_aload_n dX9_dug_26 rfl ?_
      refine g_R (s0_42 L) fkX9_16 rfl rfl rfl dX9_dug_27 ?_
      refine x_iload_n dX9_dug_30 rfl ?_
      refine x_iload_n dX9_dug_31 rfl ?_
      refine n_iast rfl (s0_45 L) (by omega) rfl dX9_dug_32 ?_
      refine x_iload_n dX9_dug_33 rfl ?_
      refine x_iret dX9_dug_34 rfl rfl ?_
      refine hY t j htt hj rfl rfl _ (fun q hq => sM_ne _ _ _ (by omega)) ⟨K, ⟨SM.1, SM.2.1, fun i hi => ?_⟩, ZM, RO, OM⟩
      show upd (M 45) t (nI j) i = nI (if i = t then (j, (T t).2) else T i).1 ∧ M 46 i = nI (if i = t then (j, (T t).2) else T i).2.1 ∧ M 47 i = nI (if i = t then (j, (T t).2) else T i).2.2
      by_cases e : i = t
      · rw [e, if_pos rfl, upd_at]; exact ⟨rfl, (SM.2.2 t htt).2⟩
      · rw [if_neg e, upd_ne _ _ e]; exact SM.2.2 i hi
    · refine x_ldc kcX9_122 dX9_dug_16 ?_
      refine x_iret dX9_dug_18 rfl rfl ?_
      exact hN (fun z => k0.2 z0 z.2)

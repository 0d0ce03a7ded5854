set_option maxRecDepth 100000 in
set_option maxHeartbeats 4000000 in
theorem m_layThings {E : vE} {l : Launch} {Q : Option Value → vS → vM → Prop} {L : Nat} {M : vM} {w h : Nat} {ht rk : Nat → Nat} {ns : Nat} {T : Nat → vT} {ng : Nat} {G : Nat → vQ} {Rw : Nat → Nat × (Nat → Nat)} {nz : Nat} {U : Nat → vU} {O : Nat → Nat} (VV : Val w h ht rk ns T ng G Rw nz U O) (RR : RepM M w h ht rk ns T ng G Rw nz U O) {s : Nat} (hs : s ≤ 2) (hY : ∀ M1 : vM, (∀ q, q < 42 → M1 q = M q) → RepM M1 w h ht rk ns T ng G Rw nz U O → (∀ k, k < 7 * (w * h) → M1 63 k = bI (thg w h ht G (Rw s).2 (Rw s).1 (k / 7) (k % 7))) → Q none (S0 L) M1) : PM E l mX9_layThings 0 [.ref 42, .int (nI s), .null] [] (S0 L) M 0 0 Q := by
  have RR0 := RR
  have VV0 := VV
  obtain ⟨V, SVv, ZV, RV, OV⟩ := VV
  obtain ⟨K, SM, ZM, RO, OM⟩ := RR
  have H := V.1
  have e4 := H.le
  have e6 := H.pos
  have hng := V.2.2.1
  have hns := SVv.1
  have hnz := ZV.1
  have rv := RV s (by omega)
  have hl6 := rv.1.1
  refine x_aload_n dX9_layThings_0 rfl ?_
  refine x_iload_n dX9_layThings_1 rfl ?_
  refine cV1 (mj := mX9_layRow) lkX9_180 okX9_layRow imX9_layRow seX9_layRow (s0_42 L) rfl rfl rfl rfl rfl dX9_layThings_2 rfl (m_layRow V K (s := s) (by omega) rv.1.1 (RO s (by omega)).1 (RO s (by omega)).2 (fun M1 y1 y2 y3 D y5 => ?_))
  have K1 := K.kept2 (fun q hq => y1 q (by revert q; decide)) (fun j hj => y2 j (by revert j; decide))
  have S1 := SM.kept (fun q hq => y1 q (by revert q; decide)) (y2 4 (by decide))
  have Z1 := ZM.kept (fun q hq => y1 q (by revert q; decide)) (y2 20 (by decide))
  have R1 := RR0.scr y1 (by decide) (fun j hj => y2 j (by revert j; decide))
  have L1 := low_of y1 (by decide)
  have RW1 : RwM M1 (Rw s).1 (Rw s).2 := ⟨y3, y5⟩
  refine x_iconst dX9_layThings_5 iconst_0 ?_
  refine x_istore_n dX9_layThings_6 (by decide) rfl ?_
  have l1 : ∀ M2 : vM, Fr [63] M1 M2 → (∀ k, k < 0 → M2 63 k = bI (thg w h ht G (Rw s).2 (Rw s).1 (k / 7) (k % 7))) → PM E l mX9_layThings 7 [.ref 42, .int (nI s), .int (nI 0)] [] (S0 L) M2 0 0 Q := by
    refine lp_up (P := fun i => ∀ M2 : vM, Fr [63] M1 M2 → (∀ k, k < i → M2 63 k = bI (thg w h ht G (Rw s).2 (Rw s).1 (k / 7) (k % 7))) → PM E l mX9_layThings 7 [.ref 42, .int (nI s), .int (nI i)] [] (S0 L) M2 0 0 Q) (7 * (w * h)) ?_ ?_ 0 (by omega)
    · intro M2 g1 g2
      refine x_iload_n dX9_layThings_7 rfl ?_
      refine x_bipush dX9_layThings_8 bipush_7 ?_
      refine x_aload_n dX9_layThings_10 rfl ?_
      refine cV0 (mj := mX9_cells) lkX9_103 okX9_cells imX9_cells seX9_cells (s0_42 L) rfl rfl rfl rfl rfl dX9_layThings_11 rfl (m_cells ((congrFun (g1 42 (by decide)) _).trans K1.1) ((congrFun (g1 42 (by decide)) _).trans K1.2.1) ?_)
      refine n_imul dX9_layThings_14 ?_
      refine n_icmp_ge 42 dX9_layThings_15 rfl (by omega) (by omega) (fun h1 => ?_) (fun h1 => by omega)
      refine x_vret dX9_layThings_42 rfl ?_
      exact hY M2 (fun q hq => (g1 q (by simp; omega)).trans (L1 q hq)) (R1.scr g1 (by decide) (fun j hj => congrFun (g1 42 (by decide)) j)) g2
    · intro i hi ih M2 g1 g2
      refine x_iload_n dX9_layThings_7 rfl ?_
      refine x_bipush dX9_layThings_8 bipush_7 ?_
      refine x_aload_n dX9_layThings_10 rfl ?_
      refine cV0 (mj := mX9_cells) lkX9_103 okX9_cells imX9_cells seX9_cells (s0_42 L) rfl rfl rfl rfl rfl dX9_layThings_11 rfl (m_cells ((congrFun (g1 42 (by decide)) _).trans K1.1) ((congrFun (g1 42 (by decide)) _).trans K1.2.1) ?_)
      refine n_imul dX9_layThings_14 ?_
      refine n_icmp_ge 42 dX9_layThings_15 rfl (by omega) (by omega) (fun h1 => by omega) (fun h1 => ?_)
      have hi7 : i / 7 < w * h := by omega
      refine x_aload_n dX9_layThings_18 rfl ?_
      refine g_R (s0_42 L) fkX9_71 rfl rfl rfl dX9_layThings_19 ?_
      refine x_iload_n dX9_layThings_22 rfl ?_
      refine x_aload_n dX9_layThings_23 rfl ?_
      refine x_iload_n dX9_layThings_24 rfl ?_
      refine x_bipush dX9_layThings_25 bipush_7 ?_
      refine n_idiv dX9_layThings_27 (by omega) (by omega) (by omega) ?_
      refine x_iload_n dX9_layThings_28 rfl ?_
      refine x_bipush dX9_layThings_29 bipush_7 ?_
      refine n_irem dX9_layThings_31 (by omega) (by omega) (by omega) ?_
      refine cV2 (mj := mX9_hasThing) lkX9_204 okX9_hasThing imX9_hasThing seX9_hasThing (s0_42 L) rfl rfl rfl rfl rfl dX9_layThings_32 rfl (m_hasThing V (K1.kept2 (fun q hq => g1 q (by revert q; decide)) (fun j hj => congrFun (g1 42 (by decide)) j)) (D.kept (g1 53 (by decide)) (g1 54 (by decide))) rv.1 ⟨(congrFun (g1 42 (by decide)) _).trans RW1.1, fun k hk => (congrFun (g1 57 (by decide)) _).trans (RW1.2 k hk)⟩ (c := i / 7) (t := i % 7) hi7 (by omega) ?_)
      refine n_bast (s0_63 L) (by omega) rfl dX9_layThings_35 ?_
      refine n_inc dX9_layThings_36 rfl rfl ?_
      refine x_goto 7 dX9_layThings_39 rfl ?_
      refine ih _ (g1.set _ (by decide)) (fun k hk => ?_)
      by_cases e : k = i
      · subst e; exact upd_at _ _ _
      · exact (upd_ne _ _ e).trans (g2 k (by omega))
  exact l1 M1 Fr.rf (fun k hk => absurd hk (Nat.not_lt_zero k))
theorem bI_eq {a b : Bool} : bI a = bI b ↔ a = b := by cases a <;> cases b <;> decide
set_option maxRecDepth 100000 in
set_option maxHeartbeats 4000000 in
theorem m_unlike {E : vE} {l : Launch} {Q : Option Value → vS → vM → Prop} {L : Nat} {M : vM} {w h : Nat} {ht rk : Nat → Nat} {ns : Nat} {T : Nat → vT} {ng : Nat} {G : Nat → vQ} {Rw : Nat → Nat × (Nat → Nat)} {nz : Nat} {U : Nat → vU} {O : Nat → Nat} (VV : Val w h ht rk ns T ng G Rw nz U O) (RR : RepM M w h ht rk ns T ng G Rw nz U O) {x y : Int32} (hN : ¬ (INr 0 2 x ∧ INr 0 2 y) → Q (some (.int (-900001))) (S0 L) M) (hY : ∀ s t : Nat, (0 ≤ s ∧ s ≤ 2) → (0 ≤ t ∧ t ≤ 2) → x = nI s → y = nI t → ∀ M1 : vM, (∀ q, q < 42 → M1 q = M q) → RepM M1 w h ht rk ns T ng G Rw nz U O → Q (some (.int (nI (ctt (fun k => decide ((thg w h ht G (Rw s).2 (Rw s).1 (k / 7) (k % 7)) ≠ (thg w h ht G (Rw t).2 (Rw t).1 (k / 7) (k % 7)))) (7 * (w * h)))))) (S0 L) M1) : PM E l mX9_unlike 0 [.ref 42, .int x, .int y, .null, .null] [] (S0 L) M 0 0 Q := by
  have RR0 := RR
  have VV0 := VV
  obtain ⟨V, SVv, ZV, RV, OV⟩ := VV
  obtain ⟨K, SM, ZM, RO, OM⟩ := RR
  have H := V.1
  have e4 := H.le
  have e6 := H.pos
  have hng := V.2.2.1
  have hns := SVv.1
  have hnz := ZV.1
  refine x_iload_n dX9_unlike_0 rfl ?_
  refine cS1 (mj := mX9_isSlot) lkX9_173 okX9_isSlot stX9_isSlot rfl rfl rfl rfl dX9_unlike_1 rfl (m_isSlot _ (fun b0 b0h => ?_))
  have k0 := in_two (x := 0) b0h
  refine b_if_eq 14 dX9_unlike_4 rfl (fun z0 => ?_) (fun z0 => ?_)
  · refine x_ldc kcX9_122 dX9_unlike_14 ?_
    refine x_iret dX9_unlike_16 rfl rfl ?_
    exact hN (fun z => k0.2 z0 z.1)
  · refine x_iload_n dX9_unlike_7 rfl ?_
    refine cS1 (mj := mX9_isSlot) lkX9_173 okX9_isSlot stX9_isSlot rfl rfl rfl rfl dX9_unlike_8 rfl (m_isSlot _ (fun b1 b1h => ?_))
    have k1 := in_two (x := 0) b1h
    refine b_if_ne 17 dX9_unlike_11 rfl (fun z1 => ?_) (fun z1 => ?_)
    · obtain ⟨s, hs, rfl⟩ := k0.1 z0
      obtain ⟨t, htt, rfl⟩ := k1.1 z1
      have rv := RV t (by omega)
      have rvs := RV s (by omega)
      refine x_aload_n dX9_unlike_17 rfl ?_
      refine x_iload_n dX9_unlike_18 rfl ?_
      refine cV1 (mj := mX9_layThings) lkX9_232 okX9_layThings imX9_layThings seX9_layThings (s0_42 L) rfl rfl rfl rfl rfl dX9_unlike_19 rfl (m_layThings VV0 RR0 hs.2 (fun M2 L2 R2 hth => ?_))
      have R20 := R2
      obtain ⟨K, SM, ZM, RO, OM⟩ := R2
      refine x_aload_n dX9_unlike_22 rfl ?_
      refine x_iload_n dX9_unlike_23 rfl ?_
      refine cV1 (mj := mX9_layRow) lkX9_180 okX9_layRow imX9_layRow seX9_layRow (s0_42 L) rfl rfl rfl rfl rfl dX9_unlike_24 rfl (m_layRow V K (s := t) (by omega) rv.1.1 (RO t (by omega)).1 (RO t (by omega)).2 (fun M1 y1 y2 y3 D y5 => ?_))
      have K1 := K.kept2 (fun q hq => y1 q (by revert q; decide)) (fun j hj => y2 j (by revert j; decide))
      have R1 := R20.scr y1 (by decide) (fun j hj => y2 j (by revert j; decide))
      have L1 : ∀ q, q < 42 → M1 q = M q := fun q hq => (low_of y1 (by decide) q hq).trans (L2 q hq)
      have RW1 : RwM M1 (Rw t).1 (Rw t).2 := ⟨y3, y5⟩
      have hth1 : ∀ k, k < 7 * (w * h) → M1 63 k = bI (thg w h ht G (Rw s).2 (Rw s).1 (k / 7) (k % 7)) := fun k hk => by rw [y1 63 (by decide)]; exact hth k hk
      refine x_iconst dX9_unlike_27 iconst_0 ?_
      refine x_istore_n dX9_unlike_28 (by decide) rfl ?_
      refine x_iconst dX9_unlike_29 iconst_0 ?_
      refine x_istore dX9_unlike_30 (by decide) rfl ?_
      refine lp_up (P := fun i => PM E l mX9_unlike 32 [.ref 42, .int (nI s), .int (nI t), .int (nI (ctt (fun k => decide ((thg w h ht G (Rw s).2 (Rw s).1 (k / 7) (k % 7)) ≠ (thg w h ht G (Rw t).2 (Rw t).1 (k / 7) (k % 7)))) i)), .int (nI i)] [] (S0 L) M1 0 0 Q) (7 * (w * h)) ?_ ?_ 0 (by omega)
      · skip
        refine x_iload dX9_unlike_32 rfl ?_
        refine x_bipush dX9_unlike_34 bipush_7 ?_
        refine x_aload_n dX9_unlike_36 rfl ?_
        refine cV0 (mj := mX9_cells) lkX9_103 okX9_cells imX9_cells seX9_cells (s0_42 L) rfl rfl rfl rfl rfl dX9_unlike_37 rfl (m_cells K1.1 K1.2.1 ?_)
        refine n_imul dX9_unlike_40 ?_
        refine n_icmp_ge 82 dX9_unlike_41 rfl (by omega) (by omega) (fun h1 => ?_) (fun h1 => by omega)
        refine x_iload_n dX9_unlike_82 rfl ?_
        refine x_iret dX9_unlike_83 rfl rfl ?_
        exact hY s t hs htt rfl rfl M1 L1 R1
      · intro i hi ih
        refine x_iload dX9_unlike_32 rfl ?_
        refine x_bipush dX9_unlike_34 bipush_7 ?_
        refine x_aload_n dX9_unlike_36 rfl ?_
        refine cV0 (mj := mX9_cells) lkX9_103 okX9_cells imX9_cells seX9_cells (s0_42 L) rfl rfl rfl rfl rfl dX9_unlike_37 rfl (m_cells K1.1 K1.2.1 ?_)
        refine n_imul dX9_unlike_40 ?_
        refine n_icmp_ge 82 dX9_unlike_41 rfl (by omega) (by omega) (fun h1 => by omega) (fun h1 => ?_)
        have hi7 : i / 7 < w * h := by omega
        refine x_iload_n dX9_unlike_44 rfl ?_
        refine x_aload_n dX9_unlike_45 rfl ?_
        refine g_R (s0_42 L) fkX9_71 rfl rfl rfl dX9_unlike_46 ?_
        refine x_iload dX9_unlike_49 rfl ?_
        refine n_bald (s0_63 L) (by omega) rfl dX9_unlike_51 ?_
        refine x_as (hth1 i hi) ?_
        refine x_aload_n dX9_unlike_52 rfl ?_
        refine x_iload dX9_unlike_53 rfl ?_
        refine x_bipush dX9_unlike_55 bipush_7 ?_
        refine n_idiv dX9_unlike_57 (by omega) (by omega) (by omega) ?_
        refine x_iload dX9_unlike_58 rfl ?_
        refine x_bipush dX9_unlike_60 bipush_7 ?_
        refine n_irem dX9_unlike_62 (by omega) (by omega) (by omega) ?_
        refine cV2 (mj := mX9_hasThing) lkX9_204 okX9_hasThing imX9_hasThing seX9_hasThing (s0_42 L) rfl rfl rfl rfl rfl dX9_unlike_63 rfl (m_hasThing V K1 D rv.1 RW1 (c := i / 7) (t := i % 7) hi7 (by omega) ?_)
        refine x_icmp_eq 73 dX9_unlike_66 rfl (fun z2 => ?_) (fun z2 => ?_)
        · refine x_iconst dX9_unlike_73 iconst_0 ?_
          refine n_iadd dX9_unlike_74 ?_
          refine x_istore_n dX9_unlike_75 (by decide) rfl ?_
          refine n_inc dX9_unlike_76 rfl rfl ?_
          refine x_goto 32 dX9_unlike_79 rfl ?_
          have ih2 := ih
          rw [show ctt (fun k => decide ((thg w h ht G (Rw s).2 (Rw s).1 (k / 7) (k % 7)) ≠ (thg w h ht G (Rw t).2 (Rw t).1 (k / 7) (k % 7)))) (i + 1) = ctt (fun k => decide ((thg w h ht G (Rw s).2 (Rw s).1 (k / 7) (k % 7)) ≠ (thg w h ht G (Rw t).2 (Rw t).1 (k / 7) (k % 7)))) i + 0 from by
            show ctt _ i + (if decide _ = true then 1 else 0) = _
            rw [decide_eq_false (fun z => z (bI_eq.mp z2))]; rfl] at ih2
          exact ih2
        · refine x_iconst dX9_unlike_69 iconst_1 ?_
          refine x_goto 74 dX9_unlike_70 rfl ?_
          refine n_iadd dX9_unlike_74 ?_
          refine x_istore_n dX9_unlike_75 (by decide) rfl ?_
          refine n_inc dX9_unlike_76 rfl rfl ?_
          refine x_goto 32 dX9_unlike_79 rfl ?_
          have ih2 := ih
          rw [show ctt (fun k => decide ((thg w h ht G (Rw s).2 (Rw s).1 (k / 7) (k % 7)) ≠ (thg w h ht G (Rw t).2 (Rw t).1 (k / 7) (k % 7)))) (i + 1) = ctt (fun k => decide ((thg w h ht G (Rw s).2 (Rw s).1 (k / 7) (k % 7)) ≠ (thg w h ht G (Rw t).2 (Rw t).1 (k / 7) (k % 7)))) i + 1 from by
            show ctt _ i + (if decide _ = true then 1 else 0) = _
            rw [if_pos (decide_eq_true (show (thg w h ht G (Rw s).2 (Rw s).1 (i / 7) (i % 7)) ≠ (thg w h ht G (Rw t).2 (Rw t).1 (i / 7) (i % 7)) from fun z => z2 (bI_eq.mpr z)))]] at ih2
          exact ih2
    · refine x_ldc kcX9_122 dX9_unlike_14 ?_
      refine x_iret dX9_unlike_16 rfl rfl ?_
      exact hN (fun z => k1.2 z1 z.2)
def lookA (o : Option Nat) : Int32 := oI (-900009) (o.map (fun k => 10 * (k / 7) + k % 7))
set_option maxRecDepth 100000 in
set_option maxHeartbeats 4000000 in
theorem m_look {E : vE} {l : Launch} {Q : Option Value → vS → vM → Prop} {L : Nat} {M : vM} {w h : Nat} {ht rk : Nat → Nat} {ns : Nat} {T : Nat → vT} {ng : Nat} {G : Nat → vQ} {Rw : Nat → Nat × (Nat → Nat)} {nz : Nat} {U : Nat → vU} {O : Nat → Nat} (VV : Val w h ht rk ns T ng G Rw nz U O) (RR : RepM M w h ht rk ns T ng G Rw nz U O) {x y v : Int32} (hN : ¬ (INr 0 2 x ∧ INr 0 2 y) → Q (some (.int (-900001))) (S0 L) M) (hY : ∀ s t : Nat, (0 ≤ s ∧ s ≤ 2) → (0 ≤ t ∧ t ≤ 2) → x = nI s → y = nI t → ∀ M1 : vM, (∀ q, q < 42 → M1 q = M q) → RepM M1 w h ht rk ns T ng G Rw nz U O → Q (some (.int (lookA (fnd (fun k => decide ((thg w h ht G (Rw s).2 (Rw s).1 (k / 7) (k % 7)) ≠ (thg w h ht G (Rw t).2 (Rw t).1 (k / 7) (k % 7)))) v (7 * (w * h)))))) (S0 L) M1) : PM E l mX9_look 0 [.ref 42, .int x, .int y, .int v, .null, .null] [] (S0 L) M 0 0 Q := by
  have RR0 := RR
  have VV0 := VV
  obtain ⟨V, SVv, ZV, RV, OV⟩ := VV
  obtain ⟨K, SM, ZM, RO, OM⟩ := RR
  have H := V.1
  have e4 := H.le
  have e6 := H.pos
  have hng := V.2.2.1
  have hns := SVv.1
  have hnz := ZV.1
  refine x_iload_n dX9_look_0 rfl ?_
  refine cS1 (mj := mX9_isSlot) lkX9_173 okX9_isSlot stX9_isSlot rfl rfl rfl rfl dX9_look_1 rfl (m_isSlot _ (fun b0 b0h => ?_))
  have k0 := in_two (x := 0) b0h
  refine b_if_eq 14 dX9_look_4 rfl (fun z0 => ?_) (fun z0 => ?_)
  · refine x_ldc kcX9_122 dX9_look_14 ?_
    refine x_iret dX9_look_16 rfl rfl ?_
    exact hN (fun z => k0.2 z0 z.1)
  · refine x_iload_n dX9_look_7 rfl ?_
    refine cS1 (mj := mX9_isSlot) lkX9_173 okX9_isSlot stX9_isSlot rfl rfl rfl rfl dX9_look_8 rfl (m_isSlot _ (fun b1 b1h => ?_))
    have k1 := in_two (x := 0) b1h
    refine b_if_ne 17 dX9_look_11 rfl (fun z1 => ?_) (fun z1 => ?_)
    · obtain ⟨s, hs, rfl⟩ := k0.1 z0
      obtain ⟨t, htt, rfl⟩ := k1.1 z1
      have rv := RV t (by omega)
      have rvs := RV s (by omega)
      refine x_aload_n dX9_look_17 rfl ?_
      refine x_iload_n dX9_look_18 rfl ?_
      refine cV1 (mj := mX9_layThings) lkX9_232 okX9_layThings imX9_layThings seX9_layThings (s0_42 L) rfl rfl rfl rfl rfl dX9_look_19 rfl (m_layThings VV0 RR0 hs.2 (fun M2 L2 R2 hth => ?_))
      have R20 := R2
      obtain ⟨K, SM, ZM, RO, OM⟩ := R2
      refine x_aload_n dX9_look_22 rfl ?_
      refine x_iload_n dX9_look_23 rfl ?_
      refine cV1 (mj := mX9_layRow) lkX9_180 okX9_layRow imX9_layRow seX9_layRow (s0_42 L) rfl rfl rfl rfl rfl dX9_look_24 rfl (m_layRow V K (s := t) (by omega) rv.1.1 (RO t (by omega)).1 (RO t (by omega)).2 (fun M1 y1 y2 y3 D y5 => ?_))
      have K1 := K.kept2 (fun q hq => y1 q (by revert q; decide)) (fun j hj => y2 j (by revert j; decide))
      have R1 := R20.scr y1 (by decide) (fun j hj => y2 j (by revert j; decide))
      have L1 : ∀ q, q < 42 → M1 q = M q := fun q hq => (low_of y1 (by decide) q hq).trans (L2 q hq)
      have RW1 : RwM M1 (Rw t).1 (Rw t).2 := ⟨y3, y5⟩
      have hth1 : ∀ k, k < 7 * (w * h) → M1 63 k = bI (thg w h ht G (Rw s).2 (Rw s).1 (k / 7) (k % 7)) := fun k hk => by rw [y1 63 (by decide)]; exact hth k hk
      refine x_iconst dX9_look_27 iconst_0 ?_
      refine x_istore dX9_look_28 (by decide) rfl ?_
      refine x_iconst dX9_look_30 iconst_0 ?_
      refine x_istore dX9_look_31 (by decide) rfl ?_
      have l1 : fnd (fun k => decide ((thg w h ht G (Rw s).2 (Rw s).1 (k / 7) (k % 7)) ≠ (thg w h ht G (Rw t).2 (Rw t).1 (k / 7) (k % 7)))) v 0 = none → PM E l mX9_look 33 [.ref 42, .int (nI s), .int (nI t), .int v, .int (nI (ctt (fun k => decide ((thg w h ht G (Rw s).2 (Rw s).1 (k / 7) (k % 7)) ≠ (thg w h ht G (Rw t).2 (Rw t).1 (k / 7) (k % 7)))) 0)), .int (nI 0)] [] (S0 L) M1 0 0 Q := by
        refine lp_up (P := fun i => fnd (fun k => decide ((thg w h ht G (Rw s).2 (Rw s).1 (k / 7) (k % 7)) ≠ (thg w h ht G (Rw t).2 (Rw t).1 (k / 7) (k % 7)))) v i = none → PM E l mX9_look 33 [.ref 42, .int (nI s), .int (nI t), .int v, .int (nI (ctt (fun k => decide ((thg w h ht G (Rw s).2 (Rw s).1 (k / 7) (k % 7)) ≠ (thg w h ht G (Rw t).2 (Rw t).1 (k / 7) (k % 7)))) i)), .int (nI i)] [] (S0 L) M1 0 0 Q) (7 * (w * h)) ?_ ?_ 0 (by omega)
        · intro g1
          refine x_iload dX9_look_33 rfl ?_
          refine x_bipush dX9_look_35 bipush_7 ?_
          refine x_aload_n dX9_look_37 rfl ?_
          refine cV0 (mj := mX9_cells) lkX9_103 okX9_cells imX9_cells seX9_cells (s0_42 L) rfl rfl rfl rfl rfl dX9_look_38 rfl (m_cells K1.1 K1.2.1 ?_)
          refine n_imul dX9_look_41 ?_
          refine n_icmp_ge 99 dX9_look_42 rfl (by omega) (by omega) (fun h1 => ?_) (fun h1 => by omega)
          refine x_ldc kcX9_134 dX9_look_99 ?_
          refine x_iret dX9_look_101 rfl rfl ?_
          have h9 := hY s t hs htt rfl rfl M1 L1 R1
          rw [g1] at h9
          exact h9
        · intro i hi ih g1
          refine x_iload dX9_look_33 rfl ?_
          refine x_bipush dX9_look_35 bipush_7 ?_
          refine x_aload_n dX9_look_37 rfl ?_
          refine cV0 (mj := mX9_cells) lkX9_103 okX9_cells imX9_cells seX9_cells (s0_42 L) rfl rfl rfl rfl rfl dX9_look_38 rfl (m_cells K1.1 K1.2.1 ?_)
          refine n_imul dX9_look_41 ?_
          refine n_icmp_ge 99 dX9_look_42 rfl (by omega) (by omega) (fun h1 => by omega) (fun h1 => ?_)
          have hi7 : i / 7 < w * h := by omega
          refine x_aload_n dX9_look_45 rfl ?_
          refine g_R (s0_42 L) fkX9_71 rfl rfl rfl dX9_look_46 ?_
          refine x_iload dX9_look_49 rfl ?_
          refine n_bald (s0_63 L) (by omega) rfl dX9_look_51 ?_
          refine x_as (hth1 i hi) ?_
          refine x_aload_n dX9_look_52 rfl ?_
          refine x_iload dX9_look_53 rfl ?_
          refine x_bipush dX9_look_55 bipush_7 ?_
          refine n_idiv dX9_look_57 (by omega) (by omega) (by omega) ?_
          refine x_iload dX9_look_58 rfl ?_
          refine x_bipush dX9_look_60 bipush_7 ?_
          refine n_irem dX9_look_62 (by omega) (by omega) (by omega) ?_
          refine cV2 (mj := mX9_hasThing) lkX9_204 okX9_hasThing imX9_hasThing seX9_hasThing (s0_42 L) rfl rfl rfl rfl rfl dX9_look_63 rfl (m_hasThing V K1 D rv.1 RW1 (c := i / 7) (t := i % 7) hi7 (by omega) ?_)
          refine x_icmp_eq 93 dX9_look_66 rfl (fun z2 => ?_) (fun z2 => ?_)
          · refine n_inc dX9_look_93 rfl rfl ?_
            refine x_goto 33 dX9_look_96 rfl ?_
            have ih2 := ih (fnd_no g1 (fun z => of_decide_eq_true z.1 (bI_eq.mp z2)))
            rw [show ctt (fun k => decide ((thg w h ht G (Rw s).2 (Rw s).1 (k / 7) (k % 7)) ≠ (thg w h ht G (Rw t).2 (Rw t).1 (k / 7) (k % 7)))) (i + 1) = ctt (fun k => decide ((thg w h ht G (Rw s).2 (Rw s).1 (k / 7) (k % 7)) ≠ (thg w h ht G (Rw t).2 (Rw t).1 (k / 7) (k % 7)))) i + 0 from by
              show ctt _ i + (if decide _ = true then 1 else 0) = _
              rw [decide_eq_false (fun z => z (bI_eq.mp z2))]; rfl] at ih2
            exact ih2
          · refine x_iload dX9_look_69 rfl ?_
            refine x_iload_n dX9_look_71 rfl ?_
            refine x_icmp_ne 90 dX9_look_72 rfl (fun z3 => ?_) (fun z3 => ?_)
            · refine n_inc dX9_look_90 rfl rfl ?_
              refine n_inc dX9_look_93 rfl rfl ?_
              refine x_goto 33 dX9_look_96 rfl ?_
              have ih2 := ih (fnd_no g1 (fun z => z3 z.2))
              rw [show ctt (fun k => decide ((thg w h ht G (Rw s).2 (Rw s).1 (k / 7) (k % 7)) ≠ (thg w h ht G (Rw t).2 (Rw t).1 (k / 7) (k % 7)))) (i + 1) = ctt (fun k => decide ((thg w h ht G (Rw s).2 (Rw s).1 (k / 7) (k % 7)) ≠ (thg w h ht G (Rw t).2 (Rw t).1 (k / 7) (k % 7)))) i + 1 from by
                show ctt _ i + (if decide _ = true then 1 else 0) = _
                rw [if_pos (decide_eq_true (show (thg w h ht G (Rw s).2 (Rw s).1 (i / 7) (i % 7)) ≠ (thg w h ht G (Rw t).2 (Rw t).1 (i / 7) (i % 7)) from fun z => z2 (bI_eq.mpr z)))]] at ih2
              exact ih2
            · refine x_iload dX9_look_75 rfl ?_
              refine x_bipush dX9_look_77 bipush_7 ?_
              refine n_idiv dX9_look_79 (by omega) (by omega) (by omega) ?_
              refine x_bipush dX9_look_80 bipush_10 ?_
              refine n_imul dX9_look_82 ?_
              refine x_iload dX9_look_83 rfl ?_
              refine x_bipush dX9_look_85 bipush_7 ?_
              refine n_irem dX9_look_87 (by omega) (by omega) (by omega) ?_
              refine n_iadd dX9_look_88 ?_
              refine x_iret dX9_look_89 rfl rfl ?_
              have h9 := hY s t hs htt rfl rfl M1 L1 R1
              rw [show 7 * (w * h) = i + 1 + (7 * (w * h) - (i + 1)) from by omega, fnd_yes g1 ⟨decide_eq_true (fun z => z2 (bI_eq.mpr z)), z3⟩] at h9
              rw [show i / 7 * 10 + i % 7 = 10 * (i / 7) + i % 7 from by omega]
              exact h9
      exact l1 rfl
    · refine x_ldc kcX9_122 dX9_look_14 ?_
      refine x_iret dX9_look_16 rfl rfl ?_
      exact hN (fun z => k1.2 z1 z.2)
theorem lkN_ht {w h : Nat} {ht : Nat → Nat} {cv : Nat → Bool} {v : Nat} : ∀ k c, lkN w h ht cv v k c → ht c ≤ v
  | 0, _, e => e.2.2
  | k + 1, c, e => by
    rcases e with e | ⟨_, e, _⟩
    · exact lkN_ht k c e
    · exact e
theorem IsLk.ht {w h : Nat} {ht : Nat → Nat} {cv : Nat → Bool} {lv : Nat → Option Nat} (hl : IsLk w h ht cv lv) {c : Nat} (hc : c < w * h) {x : Nat} (e : lv c = some x) : ht c ≤ x := by
  obtain ⟨k, hk⟩ := (hl c hc x).mp ⟨x, e, Nat.le_refl _⟩
  exact lkN_ht k c hk
theorem lvN_far {o : Option Nat} (h : ∀ x, o = some x → x ≤ 99) : nI (lvN o) = 100000000 ↔ o = none := by
  cases o with
  | none => exact ⟨fun _ => rfl, fun _ => far_nI.symm⟩
  | some x =>
    have := h x rfl
    refine ⟨fun e => ?_, fun e => by cases e⟩
    rw [far_nI] at e
    have := (nI_eq (a := x) (b := 100000000) (by omega) (by omega)).mp e
    omega
noncomputable def cvB (w h : Nat) (ht : Nat → Nat) (q : vQ) (c : Nat) : Bool := (cov w h ht q c).isSome
set_option maxRecDepth 100000 in
set_option maxHeartbeats 4000000 in
theorem m_level {E : vE} {l : Launch} {Q : Option Value → vS → vM → Prop} {L : Nat} {M : vM} {w h : Nat} {ht rk : Nat → Nat} {ns : Nat} {T : Nat → vT} {ng : Nat} {G : Nat → vQ} {Rw : Nat → Nat × (Nat → Nat)} {nz : Nat} {U : Nat → vU} {O : Nat → Nat} (VV : Val w h ht rk ns T ng G Rw nz U O) (RR : RepM M w h ht rk ns T ng G Rw nz U O) {x y : Int32} (hN : ¬ (INn ng x ∧ INn (w * h) y) → Q (some (.int (-900001))) (S0 L) M) (hS : ∀ g c : Nat, g < ng → c < w * h → x = nI g → y = nI c → (qI (G g) = false ∨ (cov w h ht (G g) c).isSome = true) → ∀ M1 : vM, (∀ q, q < 42 → M1 q = M q) → RepM M1 w h ht rk ns T ng G Rw nz U O → Q (some (.int (-900003))) (S0 L) M1) (hY : ∀ g c : Nat, g < ng → c < w * h → x = nI g → y = nI c → qI (G g) = true → (cov w h ht (G g) c).isSome = false → ∀ lv : Nat → Option Nat, (∀ c, c < w * h → ∀ x, lv c = some x → x ≤ 99) → IsLk w h ht (cvB w h ht (G g)) lv → ∀ M1 : vM, (∀ q, q < 42 → M1 q = M q) → RepM M1 w h ht rk ns T ng G Rw nz U O → Q (some (.int (oI (-900009) (lv c)))) (S0 L) M1) : PM E l mX9_level 0 [.ref 42, .int x, .int y] [] (S0 L) M 0 0 Q := by
  have RR0 := RR
  have VV0 := VV
  obtain ⟨V, SVv, ZV, RV, OV⟩ := VV
  obtain ⟨K, SM, ZM, RO, OM⟩ := RR
  have H := V.1
  have e4 := H.le
  have e6 := H.pos
  have hng := V.2.2.1
  have hns := SVv.1
  have hnz := ZV.1
  refine x_aload_n dX9_level_0 rfl ?_
  refine x_iload_n dX9_level_1 rfl ?_
  refine cV1 (mj := mX9_isGo) lkX9_157 okX9_isGo imX9_isGo seX9_isGo (s0_42 L) rfl rfl rfl rfl rfl dX9_level_2 rfl (m_isGo (by omega) K.2.2.2.1 _ (fun b0 b0h => ?_))
  have k0 := in_two (x := 0) b0h
  refine b_if_eq 16 dX9_level_5 rfl (fun z0 => ?_) (fun z0 => ?_)
  · refine x_ldc kcX9_122 dX9_level_16 ?_
    refine x_iret dX9_level_18 rfl rfl ?_
    exact hN (fun z => k0.2 z0 z.1)
  · refine x_aload_n dX9_level_8 rfl ?_
    refine x_iload_n dX9_level_9 rfl ?_
    refine cV1 (mj := mX9_isCell) lkX9_118 okX9_isCell imX9_isCell seX9_isCell (s0_42 L) rfl rfl rfl rfl rfl dX9_level_10 rfl (m_isCell (by omega) K.1 K.2.1 _ (fun b1 b1h => ?_))
    have k1 := in_two (x := 0) b1h
    refine b_if_ne 19 dX9_level_13 rfl (fun z1 => ?_) (fun z1 => ?_)
    · obtain ⟨g, hg, rfl⟩ := k0.1 z0
      obtain ⟨c, hc, rfl⟩ := k1.1 z1
      refine x_aload_n dX9_level_19 rfl ?_
      refine cV0 (mj := mX9_layGoes) lkX9_160 okX9_layGoes imX9_layGoes seX9_layGoes (s0_42 L) rfl rfl rfl rfl rfl dX9_level_20 rfl (m_layGoes V K (fun M1 y1 D => ?_))
      have K1 := K.kept y1 (by decide)
      have R1 := RR0.scr y1 (by decide) (fun j hj => congrFun (y1 42 (by decide)) j)
      have L1 := low_of y1 (by decide)
      refine x_aload_n dX9_level_23 rfl ?_
      refine g_R (s0_42 L) fkX9_25 rfl rfl rfl dX9_level_24 ?_
      refine x_iload_n dX9_level_27 rfl ?_
      refine n_bald (s0_48 L) (by omega) rfl dX9_level_28 ?_
      refine x_as (K1.2.2.2.2 g hg).1 ?_
      refine b_if_eq 41 dX9_level_29 rfl (fun z2 => ?_) (fun z2 => ?_)
      · refine x_ldc kcX9_176 dX9_level_41 ?_
        refine x_iret dX9_level_43 rfl rfl ?_
        exact hS g c hg hc rfl rfl (Or.inl z2) M1 L1 R1
      · refine x_aload_n dX9_level_32 rfl ?_
        refine x_iload_n dX9_level_33 rfl ?_
        refine x_iload_n dX9_level_34 rfl ?_
        refine cV2 (mj := mX9_isCovered) lkX9_153 okX9_isCovered imX9_isCovered seX9_isCovered (s0_42 L) rfl rfl rfl rfl rfl dX9_level_35 rfl (m_isCovered (by omega) (by omega) (lt31 (by omega) (fun x e => cov_lt e)) (D g hg c hc).1 ?_)
        refine b_if_eq 44 dX9_level_38 rfl (fun z3 => ?_) (fun z3 => ?_)
        · refine x_aload_n dX9_level_44 rfl ?_
          refine x_iload_n dX9_level_45 rfl ?_
          refine cV1 (mj := mX9_layLake) lkX9_235 okX9_layLake imX9_layLake seX9_layLake (s0_42 L) rfl rfl rfl rfl rfl dX9_level_46 rfl (m_layLake H K1.1 K1.2.1 K1.2.2.1 V.2.1 (by omega) (C := cov w h ht (G g)) (fun c x e => cov_lt e) (fun c hc => (D g hg c hc).1) (fun M2 lv t1 t2 t3 t4 => ?_))
          have R2 := R1.scr t1 (by decide) (fun j hj => congrFun (t1 42 (by decide)) j)
          have L2 : ∀ q, q < 42 → M2 q = M q := fun q hq => (low_of t1 (by decide) q hq).trans (L1 q hq)
          refine x_aload_n dX9_level_49 rfl ?_
          refine g_R (s0_42 L) fkX9_74 rfl rfl rfl dX9_level_50 ?_
          refine x_iload_n dX9_level_53 rfl ?_
          refine n_iald (s0_64 L) (by omega) rfl dX9_level_54 ?_
          refine x_as (t2 c hc) ?_
          refine x_ldc kcX9_219 dX9_level_55 ?_
          refine x_icmp_ne 65 dX9_level_57 rfl (fun z4 => ?_) (fun z4 => ?_)
          · refine x_aload_n dX9_level_65 rfl ?_
            refine g_R (s0_42 L) fkX9_74 rfl rfl rfl dX9_level_66 ?_
            refine x_iload_n dX9_level_69 rfl ?_
            refine n_iald (s0_64 L) (by omega) rfl dX9_level_70 ?_
            refine x_as (t2 c hc) ?_
            refine x_iret dX9_level_71 rfl rfl ?_
            have h9 := hY g c hg hc rfl rfl z2 z3 lv t3 t4 M2 L2 R2
            rcases hx : lv c with _ | x
            · exact absurd ((lvN_far (t3 c hc)).mpr hx) z4
            · rw [hx] at h9
              exact h9
          · refine x_ldc kcX9_134 dX9_level_60 ?_
            refine x_goto 71 dX9_level_62 rfl ?_
            refine x_iret dX9_level_71 rfl rfl ?_
            have h9 := hY g c hg hc rfl rfl z2 z3 lv t3 t4 M2 L2 R2
            rw [(lvN_far (t3 c hc)).mp z4] at h9
            exact h9
        · refine x_ldc kcX9_176 dX9_level_41 ?_
          refine x_iret dX9_level_43 rfl rfl ?_
          exact hS g c hg hc rfl rfl (Or.inr z3) M1 L1 R1
    · refine x_ldc kcX9_122 dX9_level_16 ?_
      refine x_iret dX9_level_18 rfl rfl ?_
      exact hN (fun z => k1.2 z1 z.2)
def dpt (ht : Nat → Nat) (lv : Nat → Option Nat) (c : Nat) : Nat := match lv c with
  | none => 0
  | some x => x - ht c
set_option maxRecDepth 100000 in
set_option maxHeartbeats 4000000 in
theorem m_lake {E : vE} {l : Launch} {Q : Option Value → vS → vM → Prop} {L : Nat} {M : vM} {w h : Nat} {ht rk : Nat → Nat} {ns : Nat} {T : Nat → vT} {ng : Nat} {G : Nat → vQ} {Rw : Nat → Nat × (Nat → Nat)} {nz : Nat} {U : Nat → vU} {O : Nat → Nat} (VV : Val w h ht rk ns T ng G Rw nz U O) (RR : RepM M w h ht rk ns T ng G Rw nz U O) {x : Int32} (hN : ¬ INn ng x → Q (some (.int (-900001))) (S0 L) M) (hS : ∀ g : Nat, g < ng → x = nI g → qI (G g) = false → Q (some (.int (-900003))) (S0 L) M) (hY : ∀ g : Nat, g < ng → x = nI g → qI (G g) = true → ∀ lv : Nat → Option Nat, (∀ c, c < w * h → ∀ x, lv c = some x → x ≤ 99) → IsLk w h ht (cvB w h ht (G g)) lv → ∀ M1 : vM, (∀ q, q < 42 → M1 q = M q) → RepM M1 w h ht rk ns T ng G Rw nz U O → Q (some (.int (nI (smK (dpt ht lv) (w * h))))) (S0 L) M1) : PM E l mX9_lake 0 [.ref 42, .int x, .null, .null] [] (S0 L) M 0 0 Q := by
  have RR0 := RR
  have VV0 := VV
  obtain ⟨V, SVv, ZV, RV, OV⟩ := VV
  obtain ⟨K, SM, ZM, RO, OM⟩ := RR
  have H := V.1
  have e4 := H.le
  have e6 := H.pos
  have hng := V.2.2.1
  have hns := SVv.1
  have hnz := ZV.1
  refine x_aload_n dX9_lake_0 rfl ?_
  refine x_iload_n dX9_lake_1 rfl ?_
  refine cV1 (mj := mX9_isGo) lkX9_157 okX9_isGo imX9_isGo seX9_isGo (s0_42 L) rfl rfl rfl rfl rfl dX9_lake_2 rfl (m_isGo (by omega) K.2.2.2.1 _ (fun b0 b0h => ?_))
  have k0 := in_two (x := 0) b0h
  refine b_if_ne 11 dX9_lake_5 rfl (fun z0 => ?_) (fun z0 => ?_)
  · obtain ⟨g, hg, rfl⟩ := k0.1 z0
    refine x_aload_n dX9_lake_11 rfl ?_
    refine g_R (s0_42 L) fkX9_25 rfl rfl rfl dX9_lake_12 ?_
    refine x_iload_n dX9_lake_15 rfl ?_
    refine n_bald (s0_48 L) (by omega) rfl dX9_lake_16 ?_
    refine x_as (K.2.2.2.2 g hg).1 ?_
    refine b_if_ne 23 dX9_lake_17 rfl (fun z1 => ?_) (fun z1 => ?_)
    · refine x_aload_n dX9_lake_23 rfl ?_
      refine cV0 (mj := mX9_layGoes) lkX9_160 okX9_layGoes imX9_layGoes seX9_layGoes (s0_42 L) rfl rfl rfl rfl rfl dX9_lake_24 rfl (m_layGoes V K (fun M1 y1 D => ?_))
      have K1 := K.kept y1 (by decide)
      have R1 := RR0.scr y1 (by decide) (fun j hj => congrFun (y1 42 (by decide)) j)
      have L1 := low_of y1 (by decide)
      refine x_aload_n dX9_lake_27 rfl ?_
      refine x_iload_n dX9_lake_28 rfl ?_
      refine cV1 (mj := mX9_layLake) lkX9_235 okX9_layLake imX9_layLake seX9_layLake (s0_42 L) rfl rfl rfl rfl rfl dX9_lake_29 rfl (m_layLake H K1.1 K1.2.1 K1.2.2.1 V.2.1 (by omega) (C := cov w h ht (G g)) (fun c x e => cov_lt e) (fun c hc => (D g hg c hc).1) (fun M2 lv t1 t2 t3 t4 => ?_))
      have R2 := R1.scr t1 (by decide) (fun j hj => congrFun (t1 42 (by decide)) j)
      have L2 : ∀ q, q < 42 → M2 q = M q := fun q hq => (low_of t1 (by decide) q hq).trans (L1 q hq)
      refine x_iconst dX9_lake_32 iconst_0 ?_
      refine x_istore_n dX9_lake_33 (by decide) rfl ?_
      refine x_iconst dX9_lake_34 iconst_0 ?_
      refine x_istore_n dX9_lake_35 (by decide) rfl ?_
      refine lp_up (P := fun i => PM E l mX9_lake 36 [.ref 42, .int (nI g), .int (nI (smK (dpt ht lv) i)), .int (nI i)] [] (S0 L) M2 0 0 Q) (w * h) ?_ ?_ 0 (by omega)
      · skip
        refine x_iload_n dX9_lake_36 rfl ?_
        refine x_aload_n dX9_lake_37 rfl ?_
        refine cV0 (mj := mX9_cells) lkX9_103 okX9_cells imX9_cells seX9_cells (s0_42 L) rfl rfl rfl rfl rfl dX9_lake_38 rfl (m_cells R2.1.1 R2.1.2.1 ?_)
        refine n_icmp_ge 81 dX9_lake_41 rfl (by omega) (by omega) (fun h1 => ?_) (fun h1 => by omega)
        refine x_iload_n dX9_lake_81 rfl ?_
        refine x_iret dX9_lake_82 rfl rfl ?_
        exact hY g hg rfl z1 lv t3 t4 M2 L2 R2
      · intro i hi ih
        refine x_iload_n dX9_lake_36 rfl ?_
        refine x_aload_n dX9_lake_37 rfl ?_
        refine cV0 (mj := mX9_cells) lkX9_103 okX9_cells imX9_cells seX9_cells (s0_42 L) rfl rfl rfl rfl rfl dX9_lake_38 rfl (m_cells R2.1.1 R2.1.2.1 ?_)
        refine n_icmp_ge 81 dX9_lake_41 rfl (by omega) (by omega) (fun h1 => by omega) (fun h1 => ?_)
        refine x_iload_n dX9_lake_44 rfl ?_
        refine x_aload_n dX9_lake_45 rfl ?_
        refine g_R (s0_42 L) fkX9_74 rfl rfl rfl dX9_lake_46 ?_
        refine x_iload_n dX9_lake_49 rfl ?_
        refine n_iald (s0_64 L) (by omega) rfl dX9_lake_50 ?_
        refine x_as (t2 i hi) ?_
        rcases hx : lv i with _ | x
        · rw [show nI (lvN none) = (100000000 : Int32) from far_nI.symm]
          refine x_ldc kcX9_219 dX9_lake_51 ?_
          refine x_icmp_ne 60 dX9_lake_53 rfl (fun z4 => by exact absurd rfl z4) (fun z4 => ?_)
          refine x_iconst dX9_lake_56 iconst_0 ?_
          refine x_goto 73 dX9_lake_57 rfl ?_
          refine n_iadd dX9_lake_73 ?_
          refine x_istore_n dX9_lake_74 (by decide) rfl ?_
          refine n_inc dX9_lake_75 rfl rfl ?_
          refine x_goto 36 dX9_lake_78 rfl ?_
          have ih2 := ih
          rw [show smK (dpt ht lv) (i + 1) = smK (dpt ht lv) i + 0 from by show smK _ i + dpt ht lv i = _; unfold dpt; rw [hx]] at ih2
          exact ih2
        · have hx9 := t3 i hi x hx
          have hxh := t4.ht hi hx
          refine x_ldc kcX9_219 dX9_lake_51 ?_
          refine x_icmp_ne 60 dX9_lake_53 rfl (fun z4 => ?_) (fun z4 => by exact absurd z4 (fun z => by have := (nI_eq (a := x) (b := 100000000) (by omega) (by omega)).mp (z.trans far_nI); omega))
          refine x_aload_n dX9_lake_60 rfl ?_
          refine g_R (s0_42 L) fkX9_74 rfl rfl rfl dX9_lake_61 ?_
          refine x_iload_n dX9_lake_64 rfl ?_
          refine n_iald (s0_64 L) (by omega) rfl dX9_lake_65 ?_
          refine x_as ((t2 i hi).trans (by rw [hx]; rfl : _ = nI x)) ?_
          refine x_aload_n dX9_lake_66 rfl ?_
          refine g_R (s0_42 L) fkX9_7 rfl rfl rfl dX9_lake_67 ?_
          refine x_iload_n dX9_lake_70 rfl ?_
          refine n_iald (s0_43 L) (by omega) rfl dX9_lake_71 ?_
          refine x_as (R2.1.2.2.1 i hi) ?_
          refine n_isub dX9_lake_72 hxh ?_
          refine n_iadd dX9_lake_73 ?_
          refine x_istore_n dX9_lake_74 (by decide) rfl ?_
          refine n_inc dX9_lake_75 rfl rfl ?_
          refine x_goto 36 dX9_lake_78 rfl ?_
          have ih2 := ih
          rw [show smK (dpt ht lv) (i + 1) = smK (dpt ht lv) i + (x - ht i) from by show smK _ i + dpt ht lv i = _; unfold dpt; rw [hx]] at ih2
          exact ih2
    · refine x_ldc kcX9_176 dX9_lake_20 ?_
      refine x_iret dX9_lake_22 rfl rfl ?_
      exact hS g hg rfl z1
  · refine x_ldc kcX9_122 dX9_lake_8 ?_
    refine x_iret dX9_lake_10 rfl rfl ?_
    exact hN (k0.2 z0)
noncomputable def dep (w h : Nat) (ht : Nat → Nat) (G : Nat → vQ) (r : Nat → Nat) (c : Nat) : Nat → Nat
  | 0 => 0
  | k + 1 => dep w h ht G r c k / 2 + (match thk w h ht (G (r k)) c with
    | none => 0
    | some t => t / 4)
theorem thk_le {w h : Nat} {ht : Nat → Nat} {q : vQ} {c t : Nat} (hq : qT q ≤ 199) (e : thk w h ht q c = some t) : t ≤ 199 := by
  unfold thk at e
  split at e
  · split at e
    · cases e
    · cases e; omega
  · cases e
theorem dep_le {w h ng : Nat} {ht : Nat → Nat} {G : Nat → vQ} (V : GoV w h ng ht G) {r : Nat → Nat} {c : Nat} : ∀ k, (∀ i, i < k → r i < ng) → dep w h ht G r c k ≤ 98
  | 0, _ => Nat.zero_le _
  | k + 1, hr => by
    have ih := dep_le V (c := c) k (fun i hi => hr i (by omega))
    have h1 := (V.2.2.2 (r k) (hr k (by omega))).1.2
    simp only [dep]
    cases e : thk w h ht (G (r k)) c with
    | none => simp only; omega
    | some t => have := thk_le h1 e; simp only; omega
theorem thk_no {w h : Nat} {ht : Nat → Nat} {q : vQ} {c : Nat} (h1 : qI q = false ∨ (cov w h ht q c).isSome = false) : thk w h ht q c = none := by
  unfold thk
  rcases h1 with h1 | h1
  · rw [h1]; rfl
  · split
    · cases e : cov w h ht q c with
      | none => rfl
      | some d => rw [e] at h1; cases h1
    · rfl
theorem thk_yes {w h : Nat} {ht : Nat → Nat} {q : vQ} {c d : Nat} (h1 : qI q = true) (h2 : cov w h ht q c = some d) : thk w h ht q c = some (qT q - qF q * d - ht c) := by
  unfold thk
  rw [if_pos h1, h2]
set_option maxRecDepth 100000 in
set_option maxHeartbeats 4000000 in
theorem m_sunk {E : vE} {l : Launch} {Q : Option Value → vS → vM → Prop} {L : Nat} {M : vM} {w h : Nat} {ht rk : Nat → Nat} {ns : Nat} {T : Nat → vT} {ng : Nat} {G : Nat → vQ} {Rw : Nat → Nat × (Nat → Nat)} {nz : Nat} {U : Nat → vU} {O : Nat → Nat} (VV : Val w h ht rk ns T ng G Rw nz U O) (RR : RepM M w h ht rk ns T ng G Rw nz U O) {x y v : Int32} (hN : ¬ (INr 0 2 x ∧ INn (w * h) y) → Q (some (.int (-900001))) (S0 L) M) (hO : ∀ s c : Nat, (0 ≤ s ∧ s ≤ 2) → c < w * h → x = nI s → y = nI c → ¬ INr 0 (Rw s).1 v → Q (some (.int (-900002))) (S0 L) M) (hY : ∀ s c n : Nat, (0 ≤ s ∧ s ≤ 2) → c < w * h → (0 ≤ n ∧ n ≤ (Rw s).1) → x = nI s → y = nI c → v = nI n → ∀ M1 : vM, (∀ q, q < 42 → M1 q = M q) → RepM M1 w h ht rk ns T ng G Rw nz U O → Q (some (.int (nI (dep w h ht G (Rw s).2 c n)))) (S0 L) M1) : PM E l mX9_sunk 0 [.ref 42, .int x, .int y, .int v, .null, .null] [] (S0 L) M 0 0 Q := by
  have RR0 := RR
  have VV0 := VV
  obtain ⟨V, SVv, ZV, RV, OV⟩ := VV
  obtain ⟨K, SM, ZM, RO, OM⟩ := RR
  have H := V.1
  have e4 := H.le
  have e6 := H.pos
  have hng := V.2.2.1
  have hns := SVv.1
  have hnz := ZV.1
  refine x_iload_n dX9_sunk_0 rfl ?_
  refine cS1 (mj := mX9_isSlot) lkX9_173 okX9_isSlot stX9_isSlot rfl rfl rfl rfl dX9_sunk_1 rfl (m_isSlot _ (fun b0 b0h => ?_))
  have k0 := in_two (x := 0) b0h
  refine b_if_eq 15 dX9_sunk_4 rfl (fun z0 => ?_) (fun z0 => ?_)
  · refine x_ldc kcX9_122 dX9_sunk_15 ?_
    refine x_iret dX9_sunk_17 rfl rfl ?_
    exact hN (fun z => k0.2 z0 z.1)
  · refine x_aload_n dX9_sunk_7 rfl ?_
    refine x_iload_n dX9_sunk_8 rfl ?_
    refine cV1 (mj := mX9_isCell) lkX9_118 okX9_isCell imX9_isCell seX9_isCell (s0_42 L) rfl rfl rfl rfl rfl dX9_sunk_9 rfl (m_isCell (by omega) K.1 K.2.1 _ (fun b1 b1h => ?_))
    have k1 := in_two (x := 0) b1h
    refine b_if_ne 18 dX9_sunk_12 rfl (fun z1 => ?_) (fun z1 => ?_)
    · obtain ⟨s, hs, rfl⟩ := k0.1 z0
      obtain ⟨c, hc, rfl⟩ := k1.1 z1
      have rv := RV s (by omega)
      have hl6 := rv.1.1
      refine x_iload_n dX9_sunk_18 rfl ?_
      refine x_i2l dX9_sunk_19 ?_
      refine x_lconst dX9_sunk_20 rfl ?_
      refine x_aload_n dX9_sunk_21 rfl ?_
      refine g_R (s0_42 L) fkX9_47 rfl rfl rfl dX9_sunk_22 ?_
      refine x_iload_n dX9_sunk_25 rfl ?_
      refine n_iald (s0_55 L) (by omega) rfl dX9_sunk_26 ?_
      refine x_as (RO s (by omega)).1 ?_
      refine x_i2l dX9_sunk_27 ?_
      refine cS3 (mj := mX9_in) lkX9_107 okX9_in stX9_in rfl rfl rfl rfl dX9_sunk_28 rfl (c_in _ _ _ (fun b2 b2h => ?_))
      have k2 := in_two (x := 0) (b2h.trans (in_r64 (a := 0) (b := (Rw s).1) (by decide) (rfl) (by omega) (by omega) _))
      refine b_if_ne 37 dX9_sunk_31 rfl (fun z2 => ?_) (fun z2 => ?_)
      · obtain ⟨n, hn, rfl⟩ := k2.1 z2
        refine x_aload_n dX9_sunk_37 rfl ?_
        refine x_iload_n dX9_sunk_38 rfl ?_
        refine cV1 (mj := mX9_layRow) lkX9_180 okX9_layRow imX9_layRow seX9_layRow (s0_42 L) rfl rfl rfl rfl rfl dX9_sunk_39 rfl (m_layRow V K (s := s) (by omega) rv.1.1 (RO s (by omega)).1 (RO s (by omega)).2 (fun M1 y1 y2 y3 D y5 => ?_))
        have K1 := K.kept2 (fun q hq => y1 q (by revert q; decide)) (fun j hj => y2 j (by revert j; decide))
        have S1 := SM.kept (fun q hq => y1 q (by revert q; decide)) (y2 4 (by decide))
        have Z1 := ZM.kept (fun q hq => y1 q (by revert q; decide)) (y2 20 (by decide))
        have R1 := RR0.scr y1 (by decide) (fun j hj => y2 j (by revert j; decide))
        have L1 := low_of y1 (by decide)
        have RW1 : RwM M1 (Rw s).1 (Rw s).2 := ⟨y3, y5⟩
        refine x_iconst dX9_sunk_42 iconst_0 ?_
        refine x_istore dX9_sunk_43 (by decide) rfl ?_
        refine x_iconst dX9_sunk_45 iconst_0 ?_
        refine x_istore dX9_sunk_46 (by decide) rfl ?_
        refine lp_up (P := fun i => PM E l mX9_sunk 48 [.ref 42, .int (nI s), .int (nI c), .int (nI n), .int (nI (dep w h ht G (Rw s).2 c i)), .int (nI i)] [] (S0 L) M1 0 0 Q) n ?_ ?_ 0 (Nat.zero_le _)
        · skip
          refine x_iload dX9_sunk_48 rfl ?_
          refine x_iload_n dX9_sunk_50 rfl ?_
          refine n_icmp_ge 119 dX9_sunk_51 rfl (by omega) (by omega) (fun h1 => ?_) (fun h1 => by omega)
          refine x_iload dX9_sunk_119 rfl ?_
          refine x_iret dX9_sunk_121 rfl rfl ?_
          exact hY s c n hs hc hn rfl rfl rfl M1 L1 R1
        · intro i hi ih
          refine x_iload dX9_sunk_48 rfl ?_
          refine x_iload_n dX9_sunk_50 rfl ?_
          refine n_icmp_ge 119 dX9_sunk_51 rfl (by omega) (by omega) (fun h1 => by omega) (fun h1 => ?_)
          have hr := rv.1.2 i (by omega)
          have hdl := dep_le V (r := (Rw s).2) (c := c) i (fun j hj => rv.1.2 j (by omega))
          have hv9 := V.2.2.2 _ hr
          refine x_iload dX9_sunk_54 rfl ?_
          refine x_iconst dX9_sunk_56 iconst_2 ?_
          refine n_idiv dX9_sunk_57 (by omega) (by omega) (by omega) ?_
          refine x_istore dX9_sunk_58 (by decide) rfl ?_
          refine x_iload dX9_sunk_60 rfl ?_
          refine x_aload_n dX9_sunk_62 rfl ?_
          refine g_R (s0_42 L) fkX9_25 rfl rfl rfl dX9_sunk_63 ?_
          refine x_aload_n dX9_sunk_66 rfl ?_
          refine g_R (s0_42 L) fkX9_53 rfl rfl rfl dX9_sunk_67 ?_
          refine x_iload dX9_sunk_70 rfl ?_
          refine n_iald (s0_57 L) (by omega) rfl dX9_sunk_72 ?_
          refine x_as (RW1.2 i (by omega)) ?_
          refine n_bald (s0_48 L) (by omega) rfl dX9_sunk_73 ?_
          refine x_as (K1.2.2.2.2 _ hr).1 ?_
          refine b_if_eq 109 dX9_sunk_74 rfl (fun z5 => ?_) (fun z5 => ?_)
          · refine x_iconst dX9_sunk_109 iconst_0 ?_
            refine n_iadd dX9_sunk_110 ?_
            refine x_istore dX9_sunk_111 (by decide) rfl ?_
            refine n_inc dX9_sunk_113 rfl rfl ?_
            refine x_goto 48 dX9_sunk_116 rfl ?_
            have ih2 := ih
            rw [show (dep w h ht G (Rw s).2 c (i + 1)) = (dep w h ht G (Rw s).2 c i) / 2 + 0 from by show dep _ _ _ _ _ _ i / 2 + _ = _; rw [thk_no (Or.inl z5)]] at ih2
            exact ih2
          · refine x_aload_n dX9_sunk_77 rfl ?_
            refine x_aload_n dX9_sunk_78 rfl ?_
            refine g_R (s0_42 L) fkX9_53 rfl rfl rfl dX9_sunk_79 ?_
            refine x_iload dX9_sunk_82 rfl ?_
            refine n_iald (s0_57 L) (by omega) rfl dX9_sunk_84 ?_
            refine x_as (RW1.2 i (by omega)) ?_
            refine x_iload_n dX9_sunk_85 rfl ?_
            refine cV2 (mj := mX9_isCovered) lkX9_153 okX9_isCovered imX9_isCovered seX9_isCovered (s0_42 L) rfl rfl rfl rfl rfl dX9_sunk_86 rfl (m_isCovered (by omega) (by omega) (lt31 (by omega) (fun x e => cov_lt e)) (D _ hr c hc).1 ?_)
            refine b_if_eq 109 dX9_sunk_89 rfl (fun z6 => ?_) (fun z6 => ?_)
            · refine x_iconst dX9_sunk_109 iconst_0 ?_
              refine n_iadd dX9_sunk_110 ?_
              refine x_istore dX9_sunk_111 (by decide) rfl ?_
              refine n_inc dX9_sunk_113 rfl rfl ?_
              refine x_goto 48 dX9_sunk_116 rfl ?_
              have ih2 := ih
              rw [show (dep w h ht G (Rw s).2 c (i + 1)) = (dep w h ht G (Rw s).2 c i) / 2 + 0 from by show dep _ _ _ _ _ _ i / 2 + _ = _; rw [thk_no (Or.inr z6)]] at ih2
              exact ih2
            · refine x_aload_n dX9_sunk_92 rfl ?_
              refine x_aload_n dX9_sunk_93 rfl ?_
              refine g_R (s0_42 L) fkX9_53 rfl rfl rfl dX9_sunk_94 ?_
              refine x_iload dX9_sunk_97 rfl ?_
              refine n_iald (s0_57 L) (by omega) rfl dX9_sunk_99 ?_
              refine x_as (RW1.2 i (by omega)) ?_
              refine x_iload_n dX9_sunk_100 rfl ?_
              obtain ⟨d, hd⟩ := Option.isSome_iff_exists.mp z6
              have hd9 := cov_lt hd
              have hab := cov_above z5 hd
              refine cV2 (mj := mX9_thick) lkX9_163 okX9_thick imX9_thick seX9_thick (s0_42 L) rfl rfl rfl rfl rfl dX9_sunk_101 rfl (m_thick (by omega) (by omega) (K1.2.2.2.2 _ hr).2.1 ((K1.2.2.2.2 _ hr).2.2 z5).2.1 ((D _ hr c hc).1.trans (by rw [hd]; rfl : _ = nI d)) (K1.2.2.1 c hc) (by omega) ?_)
              refine x_iconst dX9_sunk_104 iconst_4 ?_
              refine n_idiv dX9_sunk_105 (by omega) (by omega) (by omega) ?_
              refine x_goto 110 dX9_sunk_106 rfl ?_
              refine n_iadd dX9_sunk_110 ?_
              refine x_istore dX9_sunk_111 (by decide) rfl ?_
              refine n_inc dX9_sunk_113 rfl rfl ?_
              refine x_goto 48 dX9_sunk_116 rfl ?_
              have ih2 := ih
              rw [show (dep w h ht G (Rw s).2 c (i + 1)) = (dep w h ht G (Rw s).2 c i) / 2 + (qT (G ((Rw s).2 i)) - qF (G ((Rw s).2 i)) * d - ht c) / 4 from by show dep _ _ _ _ _ _ i / 2 + _ = _; rw [thk_yes z5 hd]] at ih2
              exact ih2
      · refine x_ldc kcX9_117 dX9_sunk_34 ?_
        refine x_iret dX9_sunk_36 rfl rfl ?_
        exact hO s c hs hc rfl rfl (k2.2 z2)
    · refine x_ldc kcX9_122 dX9_sunk_15 ?_
      refine x_iret dX9_sunk_17 rfl rfl ?_
      exact hN (fun z => k1.2 z1 z.2)

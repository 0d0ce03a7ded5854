set_option maxRecDepth 100000 in
set_option maxHeartbeats 4000000 in
theorem k_land {E : vE} {l : Launch} {Q : Option Value → vS → vM → Prop} {L : Nat} {M : vM} {w h : Nat} {ht rk : Nat → Nat} {ns : Nat} {T : Nat → vT} {ng : Nat} {G : Nat → vQ} {Rw : Nat → Nat × (Nat → Nat)} {nz : Nat} {U : Nat → vU} {O : Nat → Nat} (VV : Val w h ht rk ns T ng G Rw nz U O) (RR : RepC M w h ht rk ns T ng G Rw nz U O) {x y : Int32} (hN : ¬ (INr 2 6 x ∧ INr 2 6 y) → Q (some (.int (-900002))) (S0 L) M) (hY : ∀ j k : Nat, (2 ≤ j ∧ j ≤ 6) → (2 ≤ k ∧ k ≤ 6) → x = nI j → y = nI k → ∀ M1 : vM, (∀ q, q < 3 ∨ 42 ≤ q → M1 q = M q) → RepC M1 j k (fun _ => 0) (fun _ => 0) 0 T 0 G (fun _ => (0, fun _ => 0)) 0 U O → Q (some (.int (nI (j * k)))) (S0 L) M1) : PM E l mX8_land 0 [.ref 3, .int x, .int y] [] (S0 L) M 0 0 Q := by
  have RR0 := RR
  obtain ⟨V, SVv, ZV, RV, OV⟩ := VV
  obtain ⟨⟨X0, K, D⟩, SC, ZC, RO, LC, SU⟩ := RR
  have H := V.1
  have e4 := H.le
  have e6 := H.pos
  have hng := V.2.2.1
  have hns := SVv.1
  have hnz := ZV.1
  refine x_iload_n dX8_land_0 rfl ?_
  refine x_iconst dX8_land_1 iconst_2 ?_
  refine x_bipush dX8_land_2 bipush_6 ?_
  refine cS3 (mj := mX8_within) lkX8_79 okX8_within stX8_within rfl rfl rfl rfl dX8_land_4 rfl (c_within _ _ _ (fun b1 b1h => ?_))
  have k1 := in_two (x := 0) (b1h.trans (in_rg (a := 2) (b := 6) (by omega) (by omega) _))
  refine b_if_eq 20 dX8_land_7 rfl (fun z1 => ?_) (fun z1 => ?_)
  · refine x_ldc kcX8_83 dX8_land_20 ?_
    refine x_iret dX8_land_22 rfl rfl ?_
    exact hN (fun z => k1.2 z1 z.1)
  · refine x_iload_n dX8_land_10 rfl ?_
    refine x_iconst dX8_land_11 iconst_2 ?_
    refine x_bipush dX8_land_12 bipush_6 ?_
    refine cS3 (mj := mX8_within) lkX8_79 okX8_within stX8_within rfl rfl rfl rfl dX8_land_14 rfl (c_within _ _ _ (fun b2 b2h => ?_))
    have k2 := in_two (x := 0) (b2h.trans (in_rg (a := 2) (b := 6) (by omega) (by omega) _))
    refine b_if_ne 23 dX8_land_17 rfl (fun z2 => ?_) (fun z2 => ?_)
    · obtain ⟨j, hj, rfl⟩ := k1.1 z1
      obtain ⟨k, hk, rfl⟩ := k2.1 z2
      refine x_aload_n dX8_land_23 rfl ?_
      refine g_R (s0_3 L) fkX8_10 rfl rfl rfl dX8_land_24 ?_
      refine x_iload_n dX8_land_27 rfl ?_
      refine x_iload_n dX8_land_28 rfl ?_
      refine cV2 (mj := mX1_lay) lkX8_84 okX1_lay imX1_lay seX1_lay (s0_4 L) rfl rfl rfl rfl rfl dX8_land_29 rfl (k_lay (s0_0 L) (s0_1 L) (s0_4 L) (s0_5 L) (s0_6 L) (s0_7 L) X0 ⟨hj.1, hj.2, hk.1, hk.2⟩ (fun M1 y1 y2 y3 y4 => ?_))
      refine x_aload_n dX8_land_32 rfl ?_
      refine g_R (s0_3 L) fkX8_19 rfl rfl rfl dX8_land_33 ?_
      refine x_iconst dX8_land_36 iconst_0 ?_
      refine g_P (s0_8 L) fkX8_88 rfl rfl rfl rfl dX8_land_37 ?_
      refine x_aload_n dX8_land_40 rfl ?_
      refine g_R (s0_3 L) fkX8_28 rfl rfl rfl dX8_land_41 ?_
      refine x_iconst dX8_land_44 iconst_0 ?_
      refine g_P (s0_12 L) fkX8_92 rfl rfl rfl rfl dX8_land_45 ?_
      refine x_aload_n dX8_land_48 rfl ?_
      refine g_R (s0_3 L) fkX8_50 rfl rfl rfl dX8_land_49 ?_
      refine x_iconst dX8_land_52 iconst_0 ?_
      refine g_P (s0_27 L) fkX8_93 rfl rfl rfl rfl dX8_land_53 ?_
      refine x_aload_n dX8_land_56 rfl ?_
      refine g_R (s0_3 L) fkX8_35 rfl rfl rfl dX8_land_57 ?_
      refine x_iconst dX8_land_60 iconst_0 ?_
      refine g_P (s0_21 L) fkX8_94 rfl rfl rfl rfl dX8_land_61 ?_
      refine x_aload_n dX8_land_64 rfl ?_
      refine g_R (s0_3 L) fkX8_39 rfl rfl rfl dX8_land_65 ?_
      refine x_iconst dX8_land_68 iconst_0 ?_
      refine g_P (s0_23 L) fkX8_94 rfl rfl rfl rfl dX8_land_69 ?_
      refine x_aload_n dX8_land_72 rfl ?_
      refine g_R (s0_3 L) fkX8_42 rfl rfl rfl dX8_land_73 ?_
      refine x_iconst dX8_land_76 iconst_0 ?_
      refine g_P (s0_25 L) fkX8_94 rfl rfl rfl rfl dX8_land_77 ?_
      refine x_aload_n dX8_land_80 rfl ?_
      refine g_R (s0_3 L) fkX8_59 rfl rfl rfl dX8_land_81 ?_
      refine x_iconst dX8_land_84 iconst_1 ?_
      refine x_as (show nI 1 = bI true from rfl) ?_
      refine g_Pz (s0_32 L) fkX8_95 rfl rfl rfl rfl dX8_land_85 ?_
      refine x_aload_n dX8_land_88 rfl ?_
      refine g_R (s0_3 L) fkX8_10 rfl rfl rfl dX8_land_89 ?_
      refine g_I (s0_4 L) fkX8_99 rfl rfl dX8_land_92 ?_
      refine x_as y2 ?_
      refine x_iret dX8_land_95 rfl rfl ?_
      have hf := (((((((y1.sub (by decide) : Fr [4, 5, 6, 7, 8, 12, 21, 23, 25, 27, 32] M M1).set (k := 8) (upd (M1 8) 3 (nI 0)) (by decide)).set (k := 12) (upd (M1 12) 10 (nI 0)) (by decide)).set (k := 27) (upd (M1 27) 7 (nI 0)) (by decide)).set (k := 21) (upd (M1 21) 1 (nI 0)) (by decide)).set (k := 23) (upd (M1 23) 1 (nI 0)) (by decide)).set (k := 25) (upd (M1 25) 1 (nI 0)) (by decide)).set (k := 32) (upd (M1 32) 6 (bI true)) (by decide)
      have hle : j * k ≤ 36 := Nat.mul_le_mul hj.2 hk.2
      refine hY j k hj hk rfl rfl _ (hi_of hf (by decide)) ⟨⟨X0.kept (hf 0 (by decide)) (hf 1 (by decide)), ⟨⟨y2, fun c d hc hd => y4 c hc d hd⟩, fun c hc => (y3 c (by omega)).1, rfl, fun g hg => absurd hg (Nat.not_lt_zero g)⟩, fun g hg => absurd hg (Nat.not_lt_zero g)⟩, ⟨rfl, fun c hc => (y3 c (by omega)).2, fun i hi => absurd hi (Nat.not_lt_zero i)⟩, ⟨rfl, fun i hi => absurd hi (Nat.not_lt_zero i)⟩, fun s hs => ?_, LC.kept (fun q hq => hf q (by revert q; decide)), SuC.stale rfl⟩
      rcases (show s = 0 ∨ s = 1 ∨ s = 2 by omega) with rfl | rfl | rfl
      · exact ⟨rfl, fun i hi => absurd hi (Nat.not_lt_zero i)⟩
      · exact ⟨rfl, fun i hi => absurd hi (Nat.not_lt_zero i)⟩
      · exact ⟨rfl, fun i hi => absurd hi (Nat.not_lt_zero i)⟩
    · refine x_ldc kcX8_83 dX8_land_20 ?_
      refine x_iret dX8_land_22 rfl rfl ?_
      exact hN (fun z => k2.2 z2 z.2)
set_option maxRecDepth 100000 in
set_option maxHeartbeats 4000000 in
theorem k_cell {E : vE} {l : Launch} {Q : Option Value → vS → vM → Prop} {L : Nat} {M : vM} {w h : Nat} {ht rk : Nat → Nat} {ns : Nat} {T : Nat → vT} {ng : Nat} {G : Nat → vQ} {Rw : Nat → Nat × (Nat → Nat)} {nz : Nat} {U : Nat → vU} {O : Nat → Nat} (VV : Val w h ht rk ns T ng G Rw nz U O) (RR : RepC M w h ht rk ns T ng G Rw nz U O) {x y v : Int32} (hN : ¬ INn (w * h) x → Q (some (.int (-900001))) (S0 L) M) (hO : INn (w * h) x → ¬ ((y = 0 ∧ INr 0 99 v) ∨ (y = nI 1 ∧ INr 0 5 v)) → Q (some (.int (-900002))) (S0 L) M) (hH : ∀ j k : Nat, j < w * h → k ≤ 99 → x = nI j → y = 0 → v = nI k → ∀ M1 : vM, (∀ q, q < 3 ∨ 42 ≤ q → M1 q = M q) → RepC M1 w h (fun c => if c = j then k else ht c) rk ns T ng G Rw nz U O → Q (some (.int (nI (ht j)))) (S0 L) M1) (hR : ∀ j k : Nat, j < w * h → k ≤ 5 → x = nI j → y = nI 1 → v = nI k → ∀ M1 : vM, (∀ q, q < 3 ∨ 42 ≤ q → M1 q = M q) → RepC M1 w h ht (fun c => if c = j then k else rk c) ns T ng G Rw nz U O → Q (some (.int (nI (rk j)))) (S0 L) M1) : PM E l mX8_cell 0 [.ref 3, .int x, .int y, .int v, .null, .null] [] (S0 L) M 0 0 Q := by
  have RR0 := RR
  obtain ⟨V, SVv, ZV, RV, OV⟩ := VV
  obtain ⟨⟨X0, K, D⟩, SC, ZC, RO, LC, SU⟩ := RR
  have H := V.1
  have e4 := H.le
  have e6 := H.pos
  have hng := V.2.2.1
  have hns := SVv.1
  have hnz := ZV.1
  have hA0 : INn (w * h) x → y = nI 0 → PM E l mX8_cell 23 [.ref 3, .int x, .int y, .int v, .null, .null] [] (S0 L) M 0 0 Q := by
    rintro ⟨j, hj, rfl⟩ rfl
    refine x_iload_n dX8_cell_23 rfl ?_
    refine x_iconst dX8_cell_24 iconst_0 ?_
    refine x_iload_n dX8_cell_25 rfl ?_
    refine n_if_ne 34 dX8_cell_26 rfl (by omega) (fun h1 => by omega) (fun h1 => ?_)
    refine x_bipush dX8_cell_29 bipush_99 ?_
    refine x_goto 35 dX8_cell_31 rfl ?_
    refine cS3 (mj := mX8_within) lkX8_79 okX8_within stX8_within rfl rfl rfl rfl dX8_cell_35 rfl (c_within _ _ _ (fun b4 b4h => ?_))
    have k4 := in_two (x := 0) (b4h.trans (in_rg (a := 0) (b := 99) (by omega) (by omega) _))
    refine b_if_ne 44 dX8_cell_38 rfl (fun z4 => ?_) (fun z4 => ?_)
    · obtain ⟨k, hk, rfl⟩ := k4.1 z4
      have hj9 := V.2.1 j hj
      refine x_iload_n dX8_cell_44 rfl ?_
      refine n_if_ne 58 dX8_cell_45 rfl (by omega) (fun h3 => by omega) (fun h3 => ?_)
      refine x_aload_n dX8_cell_48 rfl ?_
      refine g_R (s0_3 L) fkX8_10 rfl rfl rfl dX8_cell_49 ?_
      refine g_R (s0_4 L) fkX8_105 rfl rfl rfl dX8_cell_52 ?_
      refine x_goto 65 dX8_cell_55 rfl ?_
      refine x_astore dX8_cell_65 (by decide) rfl ?_
      refine x_aload dX8_cell_67 rfl ?_
      refine x_iload_n dX8_cell_69 rfl ?_
      refine n_iald (s0_5 L) (by omega) rfl dX8_cell_70 ?_
      refine x_as (K.2.1 j hj) ?_
      refine x_istore dX8_cell_71 (by decide) rfl ?_
      refine x_aload dX8_cell_73 rfl ?_
      refine x_iload_n dX8_cell_75 rfl ?_
      refine x_iload_n dX8_cell_76 rfl ?_
      refine n_iast rfl (s0_5 L) (by omega) rfl dX8_cell_77 ?_
      have V2 : GoV w h ng (fun c => if c = j then k else ht c) G := ⟨V.1, fun c hc => by (try dsimp only); split; exact hk.2; exact V.2.1 c hc, V.2.2⟩
      have K2 : GoC (sM M 5 (upd (M 5) j (nI k))) w h ng (fun c => if c = j then k else ht c) G := by
        refine ⟨K.1, fun c hc => ?_, K.2.2⟩
        show upd (M 5) j (nI k) c = nI (if c = j then k else ht c)
        by_cases e : c = j
        · rw [e, if_pos rfl]; exact upd_at _ _ _
        · rw [if_neg e]; exact (upd_ne _ _ e).trans (K.2.1 c hc)
      refine x_iload_n dX8_cell_78 rfl ?_
      refine n_if_ne 95 dX8_cell_79 rfl (by omega) (fun h4 => by omega) (fun h4 => ?_)
      refine x_iload dX8_cell_82 rfl ?_
      refine x_iload_n dX8_cell_84 rfl ?_
      refine n_icmp_eq 95 dX8_cell_85 rfl (by omega) (by omega) (fun z5 => ?_) (fun z5 => ?_)
      · refine x_aload_n dX8_cell_95 rfl ?_
        refine g_R (s0_3 L) fkX8_59 rfl rfl rfl dX8_cell_96 ?_
        refine x_iconst dX8_cell_99 iconst_1 ?_
        refine x_as (show nI 1 = bI true from rfl) ?_
        refine g_Pz (s0_32 L) fkX8_95 rfl rfl rfl rfl dX8_cell_100 ?_
        refine x_iload dX8_cell_103 rfl ?_
        refine x_iret dX8_cell_105 rfl rfl ?_
        have hh : (fun c => if c = j then k else ht c) = ht := by
          funext c
          by_cases e : c = j
          · simp only [e, if_pos]; exact z5.symm
          · simp only [if_neg e]
        refine hH j k hj hk.2 rfl rfl rfl _ (hi_of (ks := [5, 32]) ((Fr.rf.set _ (by decide)).set _ (by decide)) (by decide)) ?_
        refine ⟨⟨X0, K2, ?_⟩, SC, ZC, (RO.kept (fun q h1 h2 => (sM_ne _ _ _ (by omega)).trans (sM_ne _ _ _ (by omega)))), LC, SuC.stale rfl⟩
        rw [hh]
        exact D
      · refine x_aload_n dX8_cell_88 rfl ?_
        refine g_R (s0_3 L) fkX8_28 rfl rfl rfl dX8_cell_89 ?_
        refine cV0 (mj := mX0_spreadAll) lkX8_112 okX0_spreadAll imX0_spreadAll seX0_spreadAll (s0_12 L) rfl rfl rfl rfl rfl dX8_cell_92 rfl (k_spreadAll V2 K2 (fun M1 y1 y2 D2 => ?_))
        have hS : ∀ z, z ≠ 32 → sM M1 32 (upd (M1 32) 6 (bI true)) z = M1 z := fun z hz => sM_ne _ _ _ hz
        refine x_aload_n dX8_cell_95 rfl ?_
        refine g_R (s0_3 L) fkX8_59 rfl rfl rfl dX8_cell_96 ?_
        refine x_iconst dX8_cell_99 iconst_1 ?_
        refine x_as (show nI 1 = bI true from rfl) ?_
        refine g_Pz (s0_32 L) fkX8_95 rfl rfl rfl rfl dX8_cell_100 ?_
        refine x_iload dX8_cell_103 rfl ?_
        refine x_iret dX8_cell_105 rfl rfl ?_
        have hf := (((Fr.rf : Fr [5, 12, 18, 19, 20, 32] M M).set (k := 5) (upd (M 5) j (nI k)) (by decide)).trans (y1.sub (by decide))).set (k := 32) (upd (M1 32) 6 (bI true)) (by decide)
        refine hH j k hj hk.2 rfl rfl rfl _ (hi_of hf (by decide)) ⟨⟨X0.kept (hf 0 (by decide)) (hf 1 (by decide)), K2.kept (fun z hz => (hS z (by revert z; decide)).trans (y1 z (by revert z; decide))) (y2 10 (by decide)), D2.kept rfl rfl⟩, SC.kept (fun q hq => hf q (by revert q; decide)), ZC.kept (fun q hq => hf q (by revert q; decide)), RO.kept (fun q h1 h2 => hf q (by simp only [List.mem_cons, List.not_mem_nil, or_false]; omega)), LC.kept (fun q hq => hf q (by revert q; decide)), SuC.stale rfl⟩
    · refine x_ldc kcX8_83 dX8_cell_41 ?_
      refine x_iret dX8_cell_43 rfl rfl ?_
      refine hO ⟨j, hj, rfl⟩ (fun z => ?_)
      rcases z with ⟨-, z⟩ | ⟨z, -⟩
      · exact k4.2 z4 z
      · exact absurd z (by decide)
  have hA1 : INn (w * h) x → y = nI 1 → PM E l mX8_cell 23 [.ref 3, .int x, .int y, .int v, .null, .null] [] (S0 L) M 0 0 Q := by
    rintro ⟨j, hj, rfl⟩ rfl
    refine x_iload_n dX8_cell_23 rfl ?_
    refine x_iconst dX8_cell_24 iconst_0 ?_
    refine x_iload_n dX8_cell_25 rfl ?_
    refine n_if_ne 34 dX8_cell_26 rfl (by omega) (fun h1 => ?_) (fun h1 => by omega)
    refine x_iconst dX8_cell_34 iconst_5 ?_
    refine cS3 (mj := mX8_within) lkX8_79 okX8_within stX8_within rfl rfl rfl rfl dX8_cell_35 rfl (c_within _ _ _ (fun b4 b4h => ?_))
    have k4 := in_two (x := 0) (b4h.trans (in_rg (a := 0) (b := 5) (by omega) (by omega) _))
    refine b_if_ne 44 dX8_cell_38 rfl (fun z4 => ?_) (fun z4 => ?_)
    · obtain ⟨k, hk, rfl⟩ := k4.1 z4
      refine x_iload_n dX8_cell_44 rfl ?_
      refine n_if_ne 58 dX8_cell_45 rfl (by omega) (fun h3 => ?_) (fun h3 => by omega)
      refine x_aload_n dX8_cell_58 rfl ?_
      refine g_R (s0_3 L) fkX8_10 rfl rfl rfl dX8_cell_59 ?_
      refine g_R (s0_4 L) fkX8_109 rfl rfl rfl dX8_cell_62 ?_
      refine x_astore dX8_cell_65 (by decide) rfl ?_
      refine x_aload dX8_cell_67 rfl ?_
      refine x_iload_n dX8_cell_69 rfl ?_
      refine n_iald (s0_6 L) (by omega) rfl dX8_cell_70 ?_
      refine x_as (SC.2.1 j hj) ?_
      refine x_istore dX8_cell_71 (by decide) rfl ?_
      refine x_aload dX8_cell_73 rfl ?_
      refine x_iload_n dX8_cell_75 rfl ?_
      refine x_iload_n dX8_cell_76 rfl ?_
      refine n_iast rfl (s0_6 L) (by omega) rfl dX8_cell_77 ?_
      refine x_iload_n dX8_cell_78 rfl ?_
      refine n_if_ne 95 dX8_cell_79 rfl (by omega) (fun h4 => ?_) (fun h4 => by omega)
      refine x_aload_n dX8_cell_95 rfl ?_
      refine g_R (s0_3 L) fkX8_59 rfl rfl rfl dX8_cell_96 ?_
      refine x_iconst dX8_cell_99 iconst_1 ?_
      refine x_as (show nI 1 = bI true from rfl) ?_
      refine g_Pz (s0_32 L) fkX8_95 rfl rfl rfl rfl dX8_cell_100 ?_
      refine x_iload dX8_cell_103 rfl ?_
      refine x_iret dX8_cell_105 rfl rfl ?_
      refine hR j k hj hk.2 rfl rfl rfl _ (hi_of (ks := [6, 32]) ((Fr.rf.set _ (by decide)).set _ (by decide)) (by decide)) ⟨⟨X0, K, D⟩, ⟨SC.1, fun c hc => ?_, SC.2.2⟩, ZC, (RO.kept (fun q h1 h2 => (sM_ne _ _ _ (by omega)).trans (sM_ne _ _ _ (by omega)))), LC, SuC.stale rfl⟩
      show upd (M 6) j (nI k) c = nI (if c = j then k else rk c)
      by_cases e : c = j
      · rw [e, if_pos rfl]; exact upd_at _ _ _
      · rw [if_neg e]; exact (upd_ne _ _ e).trans (SC.2.1 c hc)
    · refine x_ldc kcX8_83 dX8_cell_41 ?_
      refine x_iret dX8_cell_43 rfl rfl ?_
      refine hO ⟨j, hj, rfl⟩ (fun z => ?_)
      rcases z with ⟨z, -⟩ | ⟨-, z⟩
      · exact absurd z (by decide)
      · exact k4.2 z4 z
  refine x_aload_n dX8_cell_0 rfl ?_
  refine g_R (s0_3 L) fkX8_10 rfl rfl rfl dX8_cell_1 ?_
  refine x_iload_n dX8_cell_4 rfl ?_
  refine cV1 (mj := mX1_has) lkX8_100 okX1_has imX1_has seX1_has (s0_4 L) rfl rfl rfl rfl rfl dX8_cell_5 rfl (k_g_has (by omega) K.1.1 _ (fun b0 b0h => ?_))
  have k0 := in_two (x := 0) b0h
  refine b_if_ne 14 dX8_cell_8 rfl (fun z0 => ?_) (fun z0 => ?_)
  · refine x_iload_n dX8_cell_14 rfl ?_
    refine x_iconst dX8_cell_15 iconst_0 ?_
    refine x_iconst dX8_cell_16 iconst_1 ?_
    refine cS3 (mj := mX8_within) lkX8_79 okX8_within stX8_within rfl rfl rfl rfl dX8_cell_17 rfl (c_within _ _ _ (fun b1 b1h => ?_))
    have k1 := in_two (x := 0) (b1h.trans (in_rg (a := 0) (b := 1) (by omega) (by omega) _))
    refine b_if_eq 41 dX8_cell_20 rfl (fun z1 => ?_) (fun z1 => ?_)
    · refine x_ldc kcX8_83 dX8_cell_41 ?_
      refine x_iret dX8_cell_43 rfl rfl ?_
      refine hO (k0.1 z0) (fun z => k1.2 z1 ?_)
      rcases z with ⟨z, -⟩ | ⟨z, -⟩
      · exact ⟨0, by omega, z⟩
      · exact ⟨1, by omega, z⟩
    · obtain ⟨yv, hyv, e9⟩ := k1.1 z1
      rcases (show yv = 0 ∨ yv = 1 by omega) with rfl | rfl
      · exact hA0 (k0.1 z0) e9
      · exact hA1 (k0.1 z0) e9
  · refine x_ldc kcX8_104 dX8_cell_11 ?_
    refine x_iret dX8_cell_13 rfl rfl ?_
    exact hN (k0.2 z0)
set_option maxRecDepth 100000 in
set_option maxHeartbeats 4000000 in
theorem k_stone {E : vE} {l : Launch} {Q : Option Value → vS → vM → Prop} {L : Nat} {M : vM} {w h : Nat} {ht rk : Nat → Nat} {ns : Nat} {T : Nat → vT} {ng : Nat} {G : Nat → vQ} {Rw : Nat → Nat × (Nat → Nat)} {nz : Nat} {U : Nat → vU} {O : Nat → Nat} (VV : Val w h ht rk ns T ng G Rw nz U O) (RR : RepC M w h ht rk ns T ng G Rw nz U O) {x y v : Int32} (hN : ¬ INn (w * h) x → Q (some (.int (-900001))) (S0 L) M) (hO : INn (w * h) x → ¬ (INr 0 5 y ∧ INr 1 9 v) → Q (some (.int (-900002))) (S0 L) M) (hF : ∀ j k t : Nat, j < w * h → k ≤ 5 → (1 ≤ t ∧ t ≤ 9) → x = nI j → y = nI k → v = nI t → ns = 12 → Q (some (.int (-900004))) (S0 L) M) (hY : ∀ j k t : Nat, j < w * h → k ≤ 5 → (1 ≤ t ∧ t ≤ 9) → x = nI j → y = nI k → v = nI t → ns < 12 → ∀ M1 : vM, (∀ q, q < 3 ∨ 42 ≤ q → M1 q = M q) → RepC M1 w h ht rk (ns + 1) (fun i => if i = ns then (j, k, t) else T i) ng G Rw nz U O → Q (some (.int (nI ns))) (S0 L) M1) : PM E l mX8_stone 0 [.ref 3, .int x, .int y, .int v] [] (S0 L) M 0 0 Q := by
  have RR0 := RR
  obtain ⟨V, SVv, ZV, RV, OV⟩ := VV
  obtain ⟨⟨X0, K, D⟩, SC, ZC, RO, LC, SU⟩ := RR
  have H := V.1
  have e4 := H.le
  have e6 := H.pos
  have hng := V.2.2.1
  have hns := SVv.1
  have hnz := ZV.1
  refine x_aload_n dX8_stone_0 rfl ?_
  refine g_R (s0_3 L) fkX8_10 rfl rfl rfl dX8_stone_1 ?_
  refine x_iload_n dX8_stone_4 rfl ?_
  refine cV1 (mj := mX1_has) lkX8_100 okX1_has imX1_has seX1_has (s0_4 L) rfl rfl rfl rfl rfl dX8_stone_5 rfl (k_g_has (by omega) K.1.1 _ (fun b0 b0h => ?_))
  have k0 := in_two (x := 0) b0h
  refine b_if_ne 14 dX8_stone_8 rfl (fun z0 => ?_) (fun z0 => ?_)
  · refine x_iload_n dX8_stone_14 rfl ?_
    refine x_iconst dX8_stone_15 iconst_0 ?_
    refine x_iconst dX8_stone_16 iconst_5 ?_
    refine cS3 (mj := mX8_within) lkX8_79 okX8_within stX8_within rfl rfl rfl rfl dX8_stone_17 rfl (c_within _ _ _ (fun b1 b1h => ?_))
    have k1 := in_two (x := 0) (b1h.trans (in_rg (a := 0) (b := 5) (by omega) (by omega) _))
    refine b_if_eq 33 dX8_stone_20 rfl (fun z1 => ?_) (fun z1 => ?_)
    · refine x_ldc kcX8_83 dX8_stone_33 ?_
      refine x_iret dX8_stone_35 rfl rfl ?_
      exact hO (k0.1 z0) (fun z => k1.2 z1 z.1)
    · refine x_iload_n dX8_stone_23 rfl ?_
      refine x_iconst dX8_stone_24 iconst_1 ?_
      refine x_bipush dX8_stone_25 bipush_9 ?_
      refine cS3 (mj := mX8_within) lkX8_79 okX8_within stX8_within rfl rfl rfl rfl dX8_stone_27 rfl (c_within _ _ _ (fun b2 b2h => ?_))
      have k2 := in_two (x := 0) (b2h.trans (in_rg (a := 1) (b := 9) (by omega) (by omega) _))
      refine b_if_ne 36 dX8_stone_30 rfl (fun z2 => ?_) (fun z2 => ?_)
      · obtain ⟨j, hj, rfl⟩ := k0.1 z0
        obtain ⟨k, hk, rfl⟩ := k1.1 z1
        obtain ⟨t, htt, rfl⟩ := k2.1 z2
        refine x_aload_n dX8_stone_36 rfl ?_
        refine g_R (s0_3 L) fkX8_19 rfl rfl rfl dX8_stone_37 ?_
        refine x_iload_n dX8_stone_40 rfl ?_
        refine x_iload_n dX8_stone_41 rfl ?_
        refine x_iload_n dX8_stone_42 rfl ?_
        refine cV3 (mj := mX5_add) lkX8_115 okX5_add imX5_add seX5_add (s0_8 L) rfl rfl rfl rfl rfl dX8_stone_43 rfl (k_stoneAdd (by omega) SC.1 (fun z3 => ?_) (fun z3 => ?_))
        skip
        · skip
          refine x_iret dX8_stone_46 rfl rfl ?_
          exact hF j k t hj hk.2 htt rfl rfl rfl z3
        · skip
          refine x_iret dX8_stone_46 rfl rfl ?_
          have hf : Fr [8, 9, 10, 11] M _ := (((Fr.rf.set (k := 9) (upd (M 9) ns (nI j)) (by decide)).set (k := 10) (upd (M 10) ns (nI k)) (by decide)).set (k := 11) (upd (M 11) ns (nI t)) (by decide)).set (k := 8) (upd (M 8) 3 (nI (ns + 1))) (by decide)
          refine hY j k t hj hk.2 htt rfl rfl rfl z3 _ (hi_of hf (by decide)) ⟨⟨X0, K, D⟩, ⟨rfl, SC.2.1, fun i hi => ?_⟩, ZC, (RO.kept (fun q h1 h2 => (sM_ne _ _ _ (by omega)).trans ((sM_ne _ _ _ (by omega)).trans ((sM_ne _ _ _ (by omega)).trans (sM_ne _ _ _ (by omega)))))), LC, ?_⟩
          · show upd (M 9) ns (nI j) i = nI (if i = ns then (j, k, t) else T i).1 ∧ upd (M 10) ns (nI k) i = nI (if i = ns then (j, k, t) else T i).2.1 ∧ upd (M 11) ns (nI t) i = nI (if i = ns then (j, k, t) else T i).2.2
            by_cases e : i = ns
            · rw [e, if_pos rfl, upd_at, upd_at, upd_at]; exact ⟨rfl, rfl, rfl⟩
            · rw [if_neg e, upd_ne _ _ e, upd_ne _ _ e, upd_ne _ _ e]; exact SC.2.2 i (by omega)
          · obtain ⟨st, s1, s2⟩ := SU
            refine ⟨st, s1, fun z => ?_⟩
            have e9 : (fun m r => cst w h ht G r m rk T U nz) = (fun m r => cst w h ht G r m rk (fun i => if i = ns then (j, k, t) else T i) U nz) := by
              funext m r
              exact cst_T ZV (fun i hi => by (try dsimp only); rw [if_neg (by omega)])
            rw [← e9]
            exact s2 z
      · refine x_ldc kcX8_83 dX8_stone_33 ?_
        refine x_iret dX8_stone_35 rfl rfl ?_
        exact hO (k0.1 z0) (fun z => k2.2 z2 z.2)
  · refine x_ldc kcX8_104 dX8_stone_11 ?_
    refine x_iret dX8_stone_13 rfl rfl ?_
    exact hN (k0.2 z0)
set_option maxRecDepth 100000 in
set_option maxHeartbeats 4000000 in
theorem k_dug {E : vE} {l : Launch} {Q : Option Value → vS → vM → Prop} {L : Nat} {M : vM} {w h : Nat} {ht rk : Nat → Nat} {ns : Nat} {T : Nat → vT} {ng : Nat} {G : Nat → vQ} {Rw : Nat → Nat × (Nat → Nat)} {nz : Nat} {U : Nat → vU} {O : Nat → Nat} (VV : Val w h ht rk ns T ng G Rw nz U O) (RR : RepC M w h ht rk ns T ng G Rw nz U O) {x y : Int32} (hN : ¬ (INn ns x ∧ INn (w * h) y) → Q (some (.int (-900001))) (S0 L) M) (hY : ∀ t j : Nat, t < ns → j < w * h → x = nI t → y = nI j → ∀ M1 : vM, (∀ q, q < 3 ∨ 42 ≤ q → M1 q = M q) → RepC M1 w h ht rk ns (fun i => if i = t then (j, (T t).2) else T i) ng G Rw nz U O → Q (some (.int (nI (T t).1))) (S0 L) M1) : PM E l mX8_dug 0 [.ref 3, .int x, .int y, .null] [] (S0 L) M 0 0 Q := by
  have RR0 := RR
  obtain ⟨V, SVv, ZV, RV, OV⟩ := VV
  obtain ⟨⟨X0, K, D⟩, SC, ZC, RO, LC, SU⟩ := RR
  have H := V.1
  have e4 := H.le
  have e6 := H.pos
  have hng := V.2.2.1
  have hns := SVv.1
  have hnz := ZV.1
  refine x_aload_n dX8_dug_0 rfl ?_
  refine g_R (s0_3 L) fkX8_19 rfl rfl rfl dX8_dug_1 ?_
  refine x_iload_n dX8_dug_4 rfl ?_
  refine cV1 (mj := mX5_has) lkX8_119 okX5_has imX5_has seX5_has (s0_8 L) rfl rfl rfl rfl rfl dX8_dug_5 rfl (k_s_has (by omega) SC.1 _ (fun b1 b1h => ?_))
  have k1 := in_two (x := 0) b1h
  refine b_if_eq 22 dX8_dug_8 rfl (fun z1 => ?_) (fun z1 => ?_)
  · refine x_ldc kcX8_104 dX8_dug_22 ?_
    refine x_iret dX8_dug_24 rfl rfl ?_
    exact hN (fun z => k1.2 z1 z.1)
  · refine x_aload_n dX8_dug_11 rfl ?_
    refine g_R (s0_3 L) fkX8_10 rfl rfl rfl dX8_dug_12 ?_
    refine x_iload_n dX8_dug_15 rfl ?_
    refine cV1 (mj := mX1_has) lkX8_100 okX1_has imX1_has seX1_has (s0_4 L) rfl rfl rfl rfl rfl dX8_dug_16 rfl (k_g_has (by omega) K.1.1 _ (fun b0 b0h => ?_))
    have k0 := in_two (x := 0) b0h
    refine b_if_ne 25 dX8_dug_19 rfl (fun z0 => ?_) (fun z0 => ?_)
    · obtain ⟨t, htt, rfl⟩ := k1.1 z1
      obtain ⟨j, hj, rfl⟩ := k0.1 z0
      refine x_aload_n dX8_dug_25 rfl ?_
      refine g_R (s0_3 L) fkX8_19 rfl rfl rfl dX8_dug_26 ?_
      refine g_R (s0_8 L) fkX8_120 rfl rfl rfl dX8_dug_29 ?_
      refine x_iload_n dX8_dug_32 rfl ?_
      refine n_iald (s0_9 L) (by omega) rfl dX8_dug_33 ?_
      refine x_as (SC.2.2 t htt).1 ?_
      refine x_istore_n dX8_dug_34 (by decide) rfl ?_
      refine x_aload_n dX8_dug_35 rfl ?_
      refine g_R (s0_3 L) fkX8_19 rfl rfl rfl dX8_dug_36 ?_
      refine g_R (s0_8 L) fkX8_120 rfl rfl rfl dX8_dug_39 ?_
      refine x_iload_n dX8_dug_42 rfl ?_
      refine x_iload_n dX8_dug_43 rfl ?_
      refine n_iast rfl (s0_9 L) (by omega) rfl dX8_dug_44 ?_
      refine x_aload_n dX8_dug_45 rfl ?_
      refine g_R (s0_3 L) fkX8_59 rfl rfl rfl dX8_dug_46 ?_
      refine x_iconst dX8_dug_49 iconst_1 ?_
      refine x_as (show nI 1 = bI true from rfl) ?_
      refine g_Pz (s0_32 L) fkX8_95 rfl rfl rfl rfl dX8_dug_50 ?_
      refine x_iload_n dX8_dug_53 rfl ?_
      refine x_iret dX8_dug_54 rfl rfl ?_
      refine hY t j htt hj rfl rfl _ (hi_of (ks := [9, 32]) ((Fr.rf.set _ (by decide)).set _ (by decide)) (by decide)) ⟨⟨X0, K, D⟩, ⟨SC.1, SC.2.1, fun i hi => ?_⟩, ZC, (RO.kept (fun q h1 h2 => (sM_ne _ _ _ (by omega)).trans (sM_ne _ _ _ (by omega)))), LC, SuC.stale rfl⟩
      show upd (M 9) t (nI j) i = nI (if i = t then (j, (T t).2) else T i).1 ∧ M 10 i = nI (if i = t then (j, (T t).2) else T i).2.1 ∧ M 11 i = nI (if i = t then (j, (T t).2) else T i).2.2
      by_cases e : i = t
      · rw [e, if_pos rfl, upd_at]; exact ⟨rfl, (SC.2.2 t htt).2⟩
      · rw [if_neg e, upd_ne _ _ e]; exact SC.2.2 i hi
    · refine x_ldc kcX8_104 dX8_dug_22 ?_
      refine x_iret dX8_dug_24 rfl rfl ?_
      exact hN (fun z => k0.2 z0 z.2)
set_option maxRecDepth 100000 in
set_option maxHeartbeats 4000000 in
theorem k_ice {E : vE} {l : Launch} {Q : Option Value → vS → vM → Prop} {L : Nat} {M : vM} {w h : Nat} {ht rk : Nat → Nat} {ns : Nat} {T : Nat → vT} {ng : Nat} {G : Nat → vQ} {Rw : Nat → Nat × (Nat → Nat)} {nz : Nat} {U : Nat → vU} {O : Nat → Nat} (VV : Val w h ht rk ns T ng G Rw nz U O) (RR : RepC M w h ht rk ns T ng G Rw nz U O) {x y v u : Int32} (hN : ¬ INn (w * h) x → Q (some (.int (-900001))) (S0 L) M) (hO : INn (w * h) x → ¬ (INr 1 199 y ∧ INr 1 20 v ∧ INr 0 20 u) → Q (some (.int (-900002))) (S0 L) M) (hF : ∀ j t f n : Nat, j < w * h → (1 ≤ t ∧ t ≤ 199) → (1 ≤ f ∧ f ≤ 20) → (0 ≤ n ∧ n ≤ 20) → x = nI j → y = nI t → v = nI f → u = nI n → ng = 6 → ∀ M1 : vM, (∀ q, q < 3 ∨ 42 ≤ q → M1 q = M q) → RepC M1 w h ht rk ns T ng G Rw nz U O → Q (some (.int (-900004))) (S0 L) M1) (hY : ∀ j t f n : Nat, j < w * h → (1 ≤ t ∧ t ≤ 199) → (1 ≤ f ∧ f ≤ 20) → (0 ≤ n ∧ n ≤ 20) → x = nI j → y = nI t → v = nI f → u = nI n → ng < 6 → ∀ M1 : vM, (∀ q, q < 3 ∨ 42 ≤ q → M1 q = M q) → RepC M1 w h ht rk ns T (ng + 1) (fun g => if g = ng then (true, j, t, f, n) else G g) Rw nz U O → Q (some (.int (nI ng))) (S0 L) M1) : PM E l mX8_ice 0 [.ref 3, .int x, .int y, .int v, .int u] [] (S0 L) M 0 0 Q := by
  have RR0 := RR
  obtain ⟨V, SVv, ZV, RV, OV⟩ := VV
  obtain ⟨⟨X0, K, D⟩, SC, ZC, RO, LC, SU⟩ := RR
  have H := V.1
  have e4 := H.le
  have e6 := H.pos
  have hng := V.2.2.1
  have hns := SVv.1
  have hnz := ZV.1
  refine x_aload_n dX8_ice_0 rfl ?_
  refine g_R (s0_3 L) fkX8_10 rfl rfl rfl dX8_ice_1 ?_
  refine x_iload_n dX8_ice_4 rfl ?_
  refine cV1 (mj := mX1_has) lkX8_100 okX1_has imX1_has seX1_has (s0_4 L) rfl rfl rfl rfl rfl dX8_ice_5 rfl (k_g_has (by omega) K.1.1 _ (fun b0 b0h => ?_))
  have k0 := in_two (x := 0) b0h
  refine b_if_ne 14 dX8_ice_8 rfl (fun z0 => ?_) (fun z0 => ?_)
  · refine x_iload_n dX8_ice_14 rfl ?_
    refine x_iconst dX8_ice_15 iconst_1 ?_
    refine x_sipush dX8_ice_16 sipush_199 ?_
    refine cS3 (mj := mX8_within) lkX8_79 okX8_within stX8_within rfl rfl rfl rfl dX8_ice_19 rfl (c_within _ _ _ (fun b1 b1h => ?_))
    have k1 := in_two (x := 0) (b1h.trans (in_rg (a := 1) (b := 199) (by omega) (by omega) _))
    refine b_if_eq 46 dX8_ice_22 rfl (fun z1 => ?_) (fun z1 => ?_)
    · refine x_ldc kcX8_83 dX8_ice_46 ?_
      refine x_iret dX8_ice_48 rfl rfl ?_
      exact hO (k0.1 z0) (fun z => k1.2 z1 z.1)
    · refine x_iload_n dX8_ice_25 rfl ?_
      refine x_iconst dX8_ice_26 iconst_1 ?_
      refine x_bipush dX8_ice_27 bipush_20 ?_
      refine cS3 (mj := mX8_within) lkX8_79 okX8_within stX8_within rfl rfl rfl rfl dX8_ice_29 rfl (c_within _ _ _ (fun b2 b2h => ?_))
      have k2 := in_two (x := 0) (b2h.trans (in_rg (a := 1) (b := 20) (by omega) (by omega) _))
      refine b_if_eq 46 dX8_ice_32 rfl (fun z2 => ?_) (fun z2 => ?_)
      · refine x_ldc kcX8_83 dX8_ice_46 ?_
        refine x_iret dX8_ice_48 rfl rfl ?_
        exact hO (k0.1 z0) (fun z => k2.2 z2 z.2.1)
      · refine x_iload dX8_ice_35 rfl ?_
        refine x_iconst dX8_ice_37 iconst_0 ?_
        refine x_bipush dX8_ice_38 bipush_20 ?_
        refine cS3 (mj := mX8_within) lkX8_79 okX8_within stX8_within rfl rfl rfl rfl dX8_ice_40 rfl (c_within _ _ _ (fun b3 b3h => ?_))
        have k3 := in_two (x := 0) (b3h.trans (in_rg (a := 0) (b := 20) (by omega) (by omega) _))
        refine b_if_ne 49 dX8_ice_43 rfl (fun z3 => ?_) (fun z3 => ?_)
        · obtain ⟨j, hj, rfl⟩ := k0.1 z0
          obtain ⟨t, htt, rfl⟩ := k1.1 z1
          obtain ⟨f, hff, rfl⟩ := k2.1 z2
          obtain ⟨n, hn, rfl⟩ := k3.1 z3
          refine x_aload_n dX8_ice_49 rfl ?_
          refine g_R (s0_3 L) fkX8_59 rfl rfl rfl dX8_ice_50 ?_
          refine x_iconst dX8_ice_53 iconst_1 ?_
          refine x_as (show nI 1 = bI true from rfl) ?_
          refine g_Pz (s0_32 L) fkX8_95 rfl rfl rfl rfl dX8_ice_54 ?_
          have K9 : GoC (sM M 32 (upd (M 32) 6 (bI true))) w h ng ht G := K
          have D9 : LdC (sM M 32 (upd (M 32) 6 (bI true))) w h ng ht G := D
          refine x_aload_n dX8_ice_57 rfl ?_
          refine g_R (s0_3 L) fkX8_28 rfl rfl rfl dX8_ice_58 ?_
          refine x_iload_n dX8_ice_61 rfl ?_
          refine x_iload_n dX8_ice_62 rfl ?_
          refine x_iload_n dX8_ice_63 rfl ?_
          refine x_iload dX8_ice_64 rfl ?_
          refine cV4 (mj := mX0_addIce) lkX8_123 okX0_addIce imX0_addIce seX0_addIce (s0_12 L) rfl rfl rfl rfl rfl dX8_ice_66 rfl (k_addIce V K9 D9 hj htt.1 htt.2 hff.2 hn.2 (fun z4 => ?_) (fun z4 M1 y1 y2 y3 y4 => ?_))
          skip
          · skip
            refine x_iret dX8_ice_69 rfl rfl ?_
            exact hF j t f n hj htt hff hn rfl rfl rfl rfl z4 _ (hi_of (ks := [32]) (Fr.rf.set _ (by decide)) (by decide)) ⟨⟨X0, K, D⟩, SC, ZC, (RO.kept (fun q h1 h2 => sM_ne _ _ _ (by omega))), LC, SuC.stale rfl⟩
          · skip
            refine x_iret dX8_ice_69 rfl rfl ?_
            have hf : Fr [12, 13, 14, 15, 16, 17, 18, 19, 20, 32] M M1 := ((Fr.rf : Fr [12, 13, 14, 15, 16, 17, 18, 19, 20, 32] M M).set (k := 32) (upd (M 32) 6 (bI true)) (by decide)).trans (y1.sub (by decide))
            refine hY j t f n hj htt hff hn rfl rfl rfl rfl z4 M1 (hi_of hf (by decide)) ⟨⟨X0.kept (hf 0 (by decide)) (hf 1 (by decide)), y3, y4⟩, SC.kept (fun q hq => hf q (by revert q; decide)), ZC.kept (fun q hq => hf q (by revert q; decide)), RO.kept (fun q h1 h2 => hf q (by simp only [List.mem_cons, List.not_mem_nil, or_false]; omega)), LC.kept (fun q hq => hf q (by revert q; decide)), SuC.stale ?_⟩
            rw [y1 32 (by decide)]
            rfl
        · refine x_ldc kcX8_83 dX8_ice_46 ?_
          refine x_iret dX8_ice_48 rfl rfl ?_
          exact hO (k0.1 z0) (fun z => k3.2 z3 z.2.2)
  · refine x_ldc kcX8_104 dX8_ice_11 ?_
    refine x_iret dX8_ice_13 rfl rfl ?_
    exact hN (k0.2 z0)
set_option maxRecDepth 100000 in
set_option maxHeartbeats 4000000 in
theorem k_flood {E : vE} {l : Launch} {Q : Option Value → vS → vM → Prop} {L : Nat} {M : vM} {w h : Nat} {ht rk : Nat → Nat} {ns : Nat} {T : Nat → vT} {ng : Nat} {G : Nat → vQ} {Rw : Nat → Nat × (Nat → Nat)} {nz : Nat} {U : Nat → vU} {O : Nat → Nat} (VV : Val w h ht rk ns T ng G Rw nz U O) (RR : RepC M w h ht rk ns T ng G Rw nz U O) {x : Int32} (hO : ¬ INr 1 99 x → Q (some (.int (-900002))) (S0 L) M) (hF : ∀ t : Nat, (1 ≤ t ∧ t ≤ 99) → x = nI t → ng = 6 → ∀ M1 : vM, (∀ q, q < 3 ∨ 42 ≤ q → M1 q = M q) → RepC M1 w h ht rk ns T ng G Rw nz U O → Q (some (.int (-900004))) (S0 L) M1) (hY : ∀ t : Nat, (1 ≤ t ∧ t ≤ 99) → x = nI t → ng < 6 → ∀ M1 : vM, (∀ q, q < 3 ∨ 42 ≤ q → M1 q = M q) → RepC M1 w h ht rk ns T (ng + 1) (fun g => if g = ng then (false, 0, t, 0, 0) else G g) Rw nz U O → Q (some (.int (nI ng))) (S0 L) M1) : PM E l mX8_flood 0 [.ref 3, .int x] [] (S0 L) M 0 0 Q := by
  have RR0 := RR
  obtain ⟨V, SVv, ZV, RV, OV⟩ := VV
  obtain ⟨⟨X0, K, D⟩, SC, ZC, RO, LC, SU⟩ := RR
  have H := V.1
  have e4 := H.le
  have e6 := H.pos
  have hng := V.2.2.1
  have hns := SVv.1
  have hnz := ZV.1
  refine x_iload_n dX8_flood_0 rfl ?_
  refine x_iconst dX8_flood_1 iconst_1 ?_
  refine x_bipush dX8_flood_2 bipush_99 ?_
  refine cS3 (mj := mX8_within) lkX8_79 okX8_within stX8_within rfl rfl rfl rfl dX8_flood_4 rfl (c_within _ _ _ (fun b1 b1h => ?_))
  have k1 := in_two (x := 0) (b1h.trans (in_rg (a := 1) (b := 99) (by omega) (by omega) _))
  refine b_if_ne 13 dX8_flood_7 rfl (fun z1 => ?_) (fun z1 => ?_)
  · obtain ⟨t, htt, rfl⟩ := k1.1 z1
    refine x_aload_n dX8_flood_13 rfl ?_
    refine g_R (s0_3 L) fkX8_59 rfl rfl rfl dX8_flood_14 ?_
    refine x_iconst dX8_flood_17 iconst_1 ?_
    refine x_as (show nI 1 = bI true from rfl) ?_
    refine g_Pz (s0_32 L) fkX8_95 rfl rfl rfl rfl dX8_flood_18 ?_
    have K9 : GoC (sM M 32 (upd (M 32) 6 (bI true))) w h ng ht G := K
    have D9 : LdC (sM M 32 (upd (M 32) 6 (bI true))) w h ng ht G := D
    refine x_aload_n dX8_flood_21 rfl ?_
    refine g_R (s0_3 L) fkX8_28 rfl rfl rfl dX8_flood_22 ?_
    refine x_iload_n dX8_flood_25 rfl ?_
    refine cV1 (mj := mX0_addFlood) lkX8_127 okX0_addFlood imX0_addFlood seX0_addFlood (s0_12 L) rfl rfl rfl rfl rfl dX8_flood_26 rfl (k_addFlood V K9 D9 htt.1 (by omega) (fun z4 => ?_) (fun z4 M1 y1 y2 y3 y4 => ?_))
    skip
    · skip
      refine x_iret dX8_flood_29 rfl rfl ?_
      exact hF t htt rfl z4 _ (hi_of (ks := [32]) (Fr.rf.set _ (by decide)) (by decide)) ⟨⟨X0, K, D⟩, SC, ZC, (RO.kept (fun q h1 h2 => sM_ne _ _ _ (by omega))), LC, SuC.stale rfl⟩
    · skip
      refine x_iret dX8_flood_29 rfl rfl ?_
      have hf : Fr [12, 13, 14, 15, 16, 17, 18, 19, 20, 32] M M1 := ((Fr.rf : Fr [12, 13, 14, 15, 16, 17, 18, 19, 20, 32] M M).set (k := 32) (upd (M 32) 6 (bI true)) (by decide)).trans (y1.sub (by decide))
      refine hY t htt rfl z4 M1 (hi_of hf (by decide)) ⟨⟨X0.kept (hf 0 (by decide)) (hf 1 (by decide)), y3, y4⟩, SC.kept (fun q hq => hf q (by revert q; decide)), ZC.kept (fun q hq => hf q (by revert q; decide)), RO.kept (fun q h1 h2 => hf q (by simp only [List.mem_cons, List.not_mem_nil, or_false]; omega)), LC.kept (fun q hq => hf q (by revert q; decide)), SuC.stale ?_⟩
      rw [y1 32 (by decide)]
      rfl
  · refine x_ldc kcX8_83 dX8_flood_10 ?_
    refine x_iret dX8_flood_12 rfl rfl ?_
    exact hO (k1.2 z1)

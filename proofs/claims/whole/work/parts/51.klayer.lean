set_option maxRecDepth 100000 in
set_option maxHeartbeats 4000000 in
theorem k_level {E : vE} {l : Launch} {Q : Option Value → vS → vM → Prop} {L : Nat} {M : vM} {w h : Nat} {ht rk : Nat → Nat} {ns : Nat} {T : Nat → vT} {ng : Nat} {G : Nat → vQ} {Rw : Nat → Nat × (Nat → Nat)} {nz : Nat} {U : Nat → vU} {O : Nat → Nat} (VV : Val w h ht rk ns T ng G Rw nz U O) (RR : RepC M w h ht rk ns T ng G Rw nz U O) {x y : Int32} (hN : ¬ (INn ng x ∧ INn (w * h) y) → Q (some (.int (-900001))) (S0 L) M) (hS : ∀ g c : Nat, g < ng → c < w * h → x = nI g → y = nI c → (qI (G g) = false ∨ (cov w h ht (G g) c).isSome = true) → Q (some (.int (-900003))) (S0 L) M) (hY : ∀ g c : Nat, g < ng → c < w * h → x = nI g → y = nI c → qI (G g) = true → (cov w h ht (G g) c).isSome = false → ∀ lv : Nat → Option Nat, IsLk w h ht (cvB w h ht (G g)) lv → ∀ M1 : vM, (∀ q, q < 3 ∨ 42 ≤ q → M1 q = M q) → RepC M1 w h ht rk ns T ng G Rw nz U O → Q (some (.int (oI (-900009) (lv c)))) (S0 L) M1) : PM E l mX8_level 0 [.ref 3, .int x, .int y] [] (S0 L) M 0 0 Q := by
  have RR0 := RR
  obtain ⟨V, SVv, ZV, RV, OV⟩ := VV
  obtain ⟨⟨X0, K, D⟩, SC, ZC, RO, LC, SU⟩ := RR
  have H := V.1
  have e4 := H.le
  have e6 := H.pos
  have hng := V.2.2.1
  have hns := SVv.1
  have hnz := ZV.1
  refine x_aload_n dX8_level_0 rfl ?_
  refine g_R (s0_3 L) fkX8_28 rfl rfl rfl dX8_level_1 ?_
  refine x_iload_n dX8_level_4 rfl ?_
  refine cV1 (mj := mX0_has) lkX8_131 okX0_has imX0_has seX0_has (s0_12 L) rfl rfl rfl rfl rfl dX8_level_5 rfl (k_o_has (by omega) K.2.2.1 _ (fun b0 b0h => ?_))
  have k0 := in_two (x := 0) b0h
  refine b_if_eq 22 dX8_level_8 rfl (fun z0 => ?_) (fun z0 => ?_)
  · refine x_ldc kcX8_104 dX8_level_22 ?_
    refine x_iret dX8_level_24 rfl rfl ?_
    exact hN (fun z => k0.2 z0 z.1)
  · refine x_aload_n dX8_level_11 rfl ?_
    refine g_R (s0_3 L) fkX8_10 rfl rfl rfl dX8_level_12 ?_
    refine x_iload_n dX8_level_15 rfl ?_
    refine cV1 (mj := mX1_has) lkX8_100 okX1_has imX1_has seX1_has (s0_4 L) rfl rfl rfl rfl rfl dX8_level_16 rfl (k_g_has (by omega) K.1.1 _ (fun b1 b1h => ?_))
    have k1 := in_two (x := 0) b1h
    refine b_if_ne 25 dX8_level_19 rfl (fun z1 => ?_) (fun z1 => ?_)
    · obtain ⟨g, hg, rfl⟩ := k0.1 z0
      obtain ⟨c, hc, rfl⟩ := k1.1 z1
      obtain ⟨⟨od, hod, hd1, hd2, hd3⟩, -⟩ := D g hg c hc
      have km := K.2.2.2 g hg
      refine x_aload_n dX8_level_25 rfl ?_
      refine g_R (s0_3 L) fkX8_28 rfl rfl rfl dX8_level_26 ?_
      refine g_R (s0_12 L) fkX8_223 rfl rfl rfl dX8_level_29 ?_
      refine x_iload_n dX8_level_32 rfl ?_
      refine n_bald (s0_13 L) (by omega) rfl dX8_level_33 ?_
      refine x_as km.1 ?_
      refine b_if_eq 49 dX8_level_34 rfl (fun w1 => ?_) (fun w1 => ?_)
      · refine x_ldc kcX8_171 dX8_level_49 ?_
        refine x_iret dX8_level_51 rfl rfl ?_
        exact hS g c hg hc rfl rfl (Or.inl w1)
      · refine x_aload_n dX8_level_37 rfl ?_
        refine g_R (s0_3 L) fkX8_28 rfl rfl rfl dX8_level_38 ?_
        refine x_iload_n dX8_level_41 rfl ?_
        refine x_iload_n dX8_level_42 rfl ?_
        refine cV2 (mj := mX0_isCovered) lkX8_135 okX0_isCovered imX0_isCovered seX0_isCovered (s0_12 L) rfl rfl rfl rfl rfl dX8_level_43 rfl (k_isCovered (by omega) (by omega) (lt31 (n := 36) (by omega) hd3) hod ?_)
        rw [hd1]
        refine b_if_eq 52 dX8_level_46 rfl (fun w2 => ?_) (fun w2 => ?_)
        · refine x_aload_n dX8_level_52 rfl ?_
          refine g_R (s0_3 L) fkX8_68 rfl rfl rfl dX8_level_53 ?_
          refine x_iload_n dX8_level_56 rfl ?_
          refine cV1 (mj := mX7_stand) lkX8_227 okX7_stand imX7_stand seX7_stand (s0_37 L) rfl rfl rfl rfl rfl dX8_level_57 rfl (k_stand V K D hg (fun M1 sf y1 y2 y3 y4 => ?_))
          have R1 := RR0.fr y1 (by decide)
          have L1 := hi_of y1 (by decide)
          refine x_aload_n dX8_level_60 rfl ?_
          refine g_R (s0_3 L) fkX8_68 rfl rfl rfl dX8_level_61 ?_
          refine x_iload_n dX8_level_64 rfl ?_
          refine cV1 (mj := mX7_isClosed) lkX8_230 okX7_isClosed imX7_isClosed seX7_isClosed (s0_37 L) rfl rfl rfl rfl rfl dX8_level_65 rfl (k_isClosed H y2 y3 hc ?_)
          refine b_if_eq 76 dX8_level_68 rfl (fun w3 => ?_) (fun w3 => ?_)
          · refine x_aload_n dX8_level_76 rfl ?_
            refine g_R (s0_3 L) fkX8_68 rfl rfl rfl dX8_level_77 ?_
            refine g_R (s0_37 L) fkX8_233 rfl rfl rfl dX8_level_80 ?_
            refine x_iload_n dX8_level_83 rfl ?_
            refine n_iald (s0_38 L) (by omega) rfl dX8_level_84 ?_
            refine x_as (y2 c hc) ?_
            refine x_iret dX8_level_85 rfl rfl ?_
            have h9 := hY g c hg hc rfl rfl w1 w2 (lvO sf) y4 M1 L1 R1
            unfold lvO at w3 h9
            by_cases e : sf c < 100
            · rw [if_pos e] at h9; exact h9
            · rw [if_neg e] at w3; cases w3
          · refine x_ldc kcX8_150 dX8_level_71 ?_
            refine x_goto 85 dX8_level_73 rfl ?_
            refine x_iret dX8_level_85 rfl rfl ?_
            have h9 := hY g c hg hc rfl rfl w1 w2 (lvO sf) y4 M1 L1 R1
            unfold lvO at w3 h9
            by_cases e : sf c < 100
            · rw [if_pos e] at w3; cases w3
            · rw [if_neg e] at h9; exact h9
        · refine x_ldc kcX8_171 dX8_level_49 ?_
          refine x_iret dX8_level_51 rfl rfl ?_
          exact hS g c hg hc rfl rfl (Or.inr w2)
    · refine x_ldc kcX8_104 dX8_level_22 ?_
      refine x_iret dX8_level_24 rfl rfl ?_
      exact hN (fun z => k1.2 z1 z.2)
set_option maxRecDepth 100000 in
set_option maxHeartbeats 4000000 in
theorem k_lake {E : vE} {l : Launch} {Q : Option Value → vS → vM → Prop} {L : Nat} {M : vM} {w h : Nat} {ht rk : Nat → Nat} {ns : Nat} {T : Nat → vT} {ng : Nat} {G : Nat → vQ} {Rw : Nat → Nat × (Nat → Nat)} {nz : Nat} {U : Nat → vU} {O : Nat → Nat} (VV : Val w h ht rk ns T ng G Rw nz U O) (RR : RepC M w h ht rk ns T ng G Rw nz U O) {x : Int32} (hN : ¬ INn ng x → Q (some (.int (-900001))) (S0 L) M) (hS : ∀ g : Nat, g < ng → x = nI g → qI (G g) = false → Q (some (.int (-900003))) (S0 L) M) (hY : ∀ g : Nat, g < ng → x = nI g → qI (G g) = true → ∀ lv : Nat → Option Nat, IsLk w h ht (cvB w h ht (G g)) lv → ∀ M1 : vM, (∀ q, q < 3 ∨ 42 ≤ q → M1 q = M q) → RepC M1 w h ht rk ns T ng G Rw nz U O → Q (some (.int (nI (smK (dpt ht lv) (w * h))))) (S0 L) M1) : PM E l mX8_lake 0 [.ref 3, .int x] [] (S0 L) M 0 0 Q := by
  have RR0 := RR
  obtain ⟨V, SVv, ZV, RV, OV⟩ := VV
  obtain ⟨⟨X0, K, D⟩, SC, ZC, RO, LC, SU⟩ := RR
  have H := V.1
  have e4 := H.le
  have e6 := H.pos
  have hng := V.2.2.1
  have hns := SVv.1
  have hnz := ZV.1
  refine x_aload_n dX8_lake_0 rfl ?_
  refine g_R (s0_3 L) fkX8_28 rfl rfl rfl dX8_lake_1 ?_
  refine x_iload_n dX8_lake_4 rfl ?_
  refine cV1 (mj := mX0_has) lkX8_131 okX0_has imX0_has seX0_has (s0_12 L) rfl rfl rfl rfl rfl dX8_lake_5 rfl (k_o_has (by omega) K.2.2.1 _ (fun b0 b0h => ?_))
  have k0 := in_two (x := 0) b0h
  refine b_if_ne 14 dX8_lake_8 rfl (fun z0 => ?_) (fun z0 => ?_)
  · obtain ⟨g, hg, rfl⟩ := k0.1 z0
    have km := K.2.2.2 g hg
    refine x_aload_n dX8_lake_14 rfl ?_
    refine g_R (s0_3 L) fkX8_28 rfl rfl rfl dX8_lake_15 ?_
    refine g_R (s0_12 L) fkX8_223 rfl rfl rfl dX8_lake_18 ?_
    refine x_iload_n dX8_lake_21 rfl ?_
    refine n_bald (s0_13 L) (by omega) rfl dX8_lake_22 ?_
    refine x_as km.1 ?_
    refine b_if_ne 29 dX8_lake_23 rfl (fun w1 => ?_) (fun w1 => ?_)
    · refine x_aload_n dX8_lake_29 rfl ?_
      refine g_R (s0_3 L) fkX8_68 rfl rfl rfl dX8_lake_30 ?_
      refine x_iload_n dX8_lake_33 rfl ?_
      refine cV1 (mj := mX7_stand) lkX8_227 okX7_stand imX7_stand seX7_stand (s0_37 L) rfl rfl rfl rfl rfl dX8_lake_34 rfl (k_stand V K D hg (fun M1 sf y1 y2 y3 y4 => ?_))
      have R1 := RR0.fr y1 (by decide)
      have L1 := hi_of y1 (by decide)
      refine x_aload_n dX8_lake_37 rfl ?_
      refine g_R (s0_3 L) fkX8_68 rfl rfl rfl dX8_lake_38 ?_
      have K1 : GoC M1 w h ng ht G := (K.kept (fun q hq => y1 q (by revert q; decide)) (congrFun (y1 12 (by decide)) 10))
      refine cV0 (mj := mX7_sumDeep) lkX8_236 okX7_sumDeep imX7_sumDeep seX7_sumDeep (s0_37 L) rfl rfl rfl rfl rfl dX8_lake_41 rfl (k_sumDeep H K1.1 K1.2.1 V.2.1 y2 y3 (fun c hc x e => IsLk.ht y4 hc e) ?_)
      refine x_iret dX8_lake_44 rfl rfl ?_
      exact hY g hg rfl w1 (lvO sf) y4 M1 L1 R1
    · refine x_ldc kcX8_171 dX8_lake_26 ?_
      refine x_iret dX8_lake_28 rfl rfl ?_
      exact hS g hg rfl w1
  · refine x_ldc kcX8_104 dX8_lake_11 ?_
    refine x_iret dX8_lake_13 rfl rfl ?_
    exact hN (k0.2 z0)
set_option maxRecDepth 100000 in
set_option maxHeartbeats 4000000 in
theorem k_sunk {E : vE} {l : Launch} {Q : Option Value → vS → vM → Prop} {L : Nat} {M : vM} {w h : Nat} {ht rk : Nat → Nat} {ns : Nat} {T : Nat → vT} {ng : Nat} {G : Nat → vQ} {Rw : Nat → Nat × (Nat → Nat)} {nz : Nat} {U : Nat → vU} {O : Nat → Nat} (VV : Val w h ht rk ns T ng G Rw nz U O) (RR : RepC M w h ht rk ns T ng G Rw nz U O) {x y v : Int32} (hN : ¬ (INr 0 2 x ∧ INn (w * h) y) → Q (some (.int (-900001))) (S0 L) M) (hO : ∀ s c : Nat, (0 ≤ s ∧ s ≤ 2) → c < w * h → x = nI s → y = nI c → ¬ INr 0 (Rw s).1 v → Q (some (.int (-900002))) (S0 L) M) (hY : ∀ s c n : Nat, (0 ≤ s ∧ s ≤ 2) → c < w * h → (0 ≤ n ∧ n ≤ (Rw s).1) → x = nI s → y = nI c → v = nI n → Q (some (.int (nI (dep w h ht G (Rw s).2 c n)))) (S0 L) M) : PM E l mX8_sunk 0 [.ref 3, .int x, .int y, .int v, .null, .null, .null, .null] [] (S0 L) M 0 0 Q := by
  have RR0 := RR
  obtain ⟨V, SVv, ZV, RV, OV⟩ := VV
  obtain ⟨⟨X0, K, D⟩, SC, ZC, RO, LC, SU⟩ := RR
  have H := V.1
  have e4 := H.le
  have e6 := H.pos
  have hng := V.2.2.1
  have hns := SVv.1
  have hnz := ZV.1
  refine x_iload_n dX8_sunk_0 rfl ?_
  refine cS1 (mj := mX8_isSlot) lkX8_163 okX8_isSlot stX8_isSlot rfl rfl rfl rfl dX8_sunk_1 rfl (k_isSlot _ (fun b0 b0h => ?_))
  have k0 := in_two (x := 0) b0h
  refine b_if_eq 18 dX8_sunk_4 rfl (fun z0 => ?_) (fun z0 => ?_)
  · refine x_ldc kcX8_104 dX8_sunk_18 ?_
    refine x_iret dX8_sunk_20 rfl rfl ?_
    exact hN (fun z => k0.2 z0 z.1)
  · refine x_aload_n dX8_sunk_7 rfl ?_
    refine g_R (s0_3 L) fkX8_10 rfl rfl rfl dX8_sunk_8 ?_
    refine x_iload_n dX8_sunk_11 rfl ?_
    refine cV1 (mj := mX1_has) lkX8_100 okX1_has imX1_has seX1_has (s0_4 L) rfl rfl rfl rfl rfl dX8_sunk_12 rfl (k_g_has (by omega) K.1.1 _ (fun b1 b1h => ?_))
    have k1 := in_two (x := 0) b1h
    refine b_if_ne 21 dX8_sunk_15 rfl (fun z1 => ?_) (fun z1 => ?_)
    · obtain ⟨s, hs, rfl⟩ := k0.1 z0
      obtain ⟨c, hc, rfl⟩ := k1.1 z1
      have hs2 : s ≤ 2 := hs.2
      have rv := RV s (by omega)
      have hl6 := rv.1.1
      have ro := RO s (by omega)
      have hRs := row_s (L := L) hs2
      have hRg := row_g (L := L) hs2
      refine x_aload_n dX8_sunk_21 rfl ?_
      refine x_iload_n dX8_sunk_22 rfl ?_
      refine cV1 (mj := mX8_rowOf) lkX8_166 okX8_rowOf imX8_rowOf seX8_rowOf (s0_3 L) rfl rfl rfl rfl rfl dX8_sunk_23 rfl (k_rowOf (by omega) ?_)
      refine x_astore dX8_sunk_26 (by decide) rfl ?_
      refine x_iload_n dX8_sunk_28 rfl ?_
      refine x_iconst dX8_sunk_29 iconst_0 ?_
      refine x_aload dX8_sunk_30 rfl ?_
      refine g_I hRs fkX8_94 rfl rfl dX8_sunk_32 ?_
      refine x_as ro.1 ?_
      refine cS3 (mj := mX8_within) lkX8_79 okX8_within stX8_within rfl rfl rfl rfl dX8_sunk_35 rfl (c_within _ _ _ (fun b2 b2h => ?_))
      have k2 := in_two (x := 0) (b2h.trans (in_rg (a := 0) (b := (Rw s).1) (by omega) (by omega) _))
      refine b_if_ne 44 dX8_sunk_38 rfl (fun z2 => ?_) (fun z2 => ?_)
      · obtain ⟨n, hn, rfl⟩ := k2.1 z2
        refine x_iconst dX8_sunk_44 iconst_0 ?_
        refine x_istore dX8_sunk_45 (by decide) rfl ?_
        refine x_iconst dX8_sunk_47 iconst_0 ?_
        refine x_istore dX8_sunk_48 (by decide) rfl ?_
        have l1 : PM E l mX8_sunk 50 [.ref 3, .int (nI s), .int (nI c), .int (nI n), .ref (21 + 2 * s), .int (nI (dep w h ht G (Rw s).2 c 0)), .int (nI 0), .null] [] (S0 L) M 0 0 Q := by
          refine lp_up (P := fun i => PM E l mX8_sunk 50 [.ref 3, .int (nI s), .int (nI c), .int (nI n), .ref (21 + 2 * s), .int (nI (dep w h ht G (Rw s).2 c i)), .int (nI i), .null] [] (S0 L) M 0 0 Q) n ?_ ?_ 0 (by omega)
          · skip
            refine x_iload dX8_sunk_50 rfl ?_
            refine x_iload_n dX8_sunk_52 rfl ?_
            refine n_icmp_ge 108 dX8_sunk_53 rfl (by omega) (by omega) (fun h1 => ?_) (fun h1 => by omega)
            refine x_iload dX8_sunk_108 rfl ?_
            refine x_iret dX8_sunk_110 rfl rfl ?_
            exact hY s c n hs hc hn rfl rfl rfl
          · intro i hi ih
            refine x_iload dX8_sunk_50 rfl ?_
            refine x_iload_n dX8_sunk_52 rfl ?_
            refine n_icmp_ge 108 dX8_sunk_53 rfl (by omega) (by omega) (fun h1 => by omega) (fun h1 => ?_)
            have hgi := rv.1.2 i (by omega)
            have hdl := dep_le V (r := (Rw s).2) (c := c) i (fun j hj => rv.1.2 j (by omega))
            refine x_aload dX8_sunk_56 rfl ?_
            refine g_R hRs fkX8_240 rfl rfl rfl dX8_sunk_58 ?_
            refine x_iload dX8_sunk_61 rfl ?_
            refine n_iald hRg (by omega) rfl dX8_sunk_63 ?_
            refine x_as (ro.2 i (by omega)) ?_
            refine x_istore dX8_sunk_64 (by decide) rfl ?_
            refine x_iload dX8_sunk_66 rfl ?_
            refine x_iconst dX8_sunk_68 iconst_2 ?_
            refine n_idiv dX8_sunk_69 (by omega) (by omega) (by omega) ?_
            refine x_aload_n dX8_sunk_70 rfl ?_
            refine g_R (s0_3 L) fkX8_28 rfl rfl rfl dX8_sunk_71 ?_
            refine x_iload dX8_sunk_74 rfl ?_
            refine x_iload_n dX8_sunk_76 rfl ?_
            refine cV2 (mj := mX0_isIced) lkX8_143 okX0_isIced imX0_isIced seX0_isIced (s0_12 L) rfl rfl rfl rfl rfl dX8_sunk_77 rfl (k_isIced V K D hgi hc ?_)
            refine b_if_eq 98 dX8_sunk_80 rfl (fun w1 => ?_) (fun w1 => ?_)
            · refine x_iconst dX8_sunk_98 iconst_0 ?_
              refine n_iadd dX8_sunk_99 ?_
              refine x_istore dX8_sunk_100 (by decide) rfl ?_
              refine n_inc dX8_sunk_102 rfl rfl ?_
              refine x_goto 50 dX8_sunk_105 rfl ?_
              refine x_mask [true, true, true, true, true, true, true, false] ?_
              have e9 : dep w h ht G (Rw s).2 c (i + 1) = (dep w h ht G (Rw s).2 c i) / 2 + 0 := by
                simp only [dep]
                unfold icP at w1
                rw [thk_no (by cases hi9 : qI (G ((Rw s).2 i)) with | false => exact Or.inl rfl | true => rw [hi9, Bool.true_and] at w1; exact Or.inr w1)]
              rw [e9] at ih
              exact ih
            · refine x_aload_n dX8_sunk_83 rfl ?_
              refine g_R (s0_3 L) fkX8_28 rfl rfl rfl dX8_sunk_84 ?_
              refine x_iload dX8_sunk_87 rfl ?_
              refine x_iload_n dX8_sunk_89 rfl ?_
              unfold icP at w1
              rw [Bool.and_eq_true] at w1
              obtain ⟨x9, hx9⟩ := some_of w1.2
              have h19 := thk_le (V.2.2.2 _ hgi).1.2 (thk_yes w1.1 hx9)
              refine cV2 (mj := mX0_thickAt) lkX8_151 okX0_thickAt imX0_thickAt seX0_thickAt (s0_12 L) rfl rfl rfl rfl rfl dX8_sunk_90 rfl (k_thickAt V K D hgi hc w1.1 hx9 ?_)
              refine x_iconst dX8_sunk_93 iconst_4 ?_
              refine n_idiv dX8_sunk_94 (by omega) (by omega) (by omega) ?_
              refine x_goto 99 dX8_sunk_95 rfl ?_
              refine n_iadd dX8_sunk_99 ?_
              refine x_istore dX8_sunk_100 (by decide) rfl ?_
              refine n_inc dX8_sunk_102 rfl rfl ?_
              refine x_goto 50 dX8_sunk_105 rfl ?_
              refine x_mask [true, true, true, true, true, true, true, false] ?_
              have e9 : dep w h ht G (Rw s).2 c (i + 1) = (dep w h ht G (Rw s).2 c i) / 2 + (qT (G ((Rw s).2 i)) - qF (G ((Rw s).2 i)) * x9 - ht c) / 4 := by
                simp only [dep]
                rw [thk_yes w1.1 hx9]
              rw [e9] at ih
              exact ih
        exact l1
      · refine x_ldc kcX8_83 dX8_sunk_41 ?_
        refine x_iret dX8_sunk_43 rfl rfl ?_
        exact hO s c hs hc rfl rfl (k2.2 z2)
    · refine x_ldc kcX8_104 dX8_sunk_18 ?_
      refine x_iret dX8_sunk_20 rfl rfl ?_
      exact hN (fun z => k1.2 z1 z.2)
theorem RepC.lay {M M1 : vM} {w h : Nat} {ht rk : Nat → Nat} {ns : Nat} {T : Nat → vT} {ng : Nat} {G : Nat → vQ} {Rw : Nat → Nat × (Nat → Nat)} {nz : Nat} {U : Nat → vU} {O : Nat → Nat} {O2 : Nat → Nat} (k : RepC M w h ht rk ns T ng G Rw nz U O) (hf : Fr [39, 40, 41] M M1) (hl : LyC M1 O2) : RepC M1 w h ht rk ns T ng G Rw nz U O2 := by
  obtain ⟨⟨a0, a1, a2⟩, a3, a4, a5, a6, a7⟩ := k
  exact ⟨⟨a0.kept (hf 0 (by decide)) (hf 1 (by decide)), a1.kept (fun q hq => hf q (by revert q; decide)) (congrFun (hf 12 (by decide)) 10), a2.kept (hf 18 (by decide)) (hf 19 (by decide))⟩, a3.kept (fun q hq => hf q (by revert q; decide)), a4.kept (fun q hq => hf q (by revert q; decide)), a5.kept (fun q h1 h2 => hf q (by simp only [List.mem_cons, List.not_mem_nil, or_false]; omega)), hl, a7.kept (fun q hq => hf q (by revert q; decide))⟩
theorem LyC.few {M M1 : vM} {O : Nat → Nat} (k : LyC M O) (hf : Fr [39] M M1) (h2 : M1 39 2 = M 39 2) (h4 : M1 39 4 = bI false) (h3 : M1 39 3 = nI (rv (fwS O 1023))) : LyC M1 O := by
  obtain ⟨k1, k2, k3, -⟩ := k
  refine ⟨fun a ha => by rw [hf 40 (by decide)]; exact k1 a ha, ?_, h2.trans k3, false, h4, fun _ => h3⟩
  obtain ⟨u, u1, u2⟩ := k2
  exact ⟨u, fun a ha => by rw [hf 41 (by decide)]; exact u1 a ha, u2⟩
set_option maxRecDepth 100000 in
set_option maxHeartbeats 4000000 in
theorem k_over {E : vE} {l : Launch} {Q : Option Value → vS → vM → Prop} {L : Nat} {M : vM} {w h : Nat} {ht rk : Nat → Nat} {ns : Nat} {T : Nat → vT} {ng : Nat} {G : Nat → vQ} {Rw : Nat → Nat × (Nat → Nat)} {nz : Nat} {U : Nat → vU} {O : Nat → Nat} (VV : Val w h ht rk ns T ng G Rw nz U O) (RR : RepC M w h ht rk ns T ng G Rw nz U O) {x y : Int32} {b : Bool} (hN : ¬ (INr 0 9 x ∧ INr 0 9 y) → Q (some (.int (-900001))) (S0 L) M) (hS : ∀ s t : Nat, (0 ≤ s ∧ s ≤ 9) → (0 ≤ t ∧ t ≤ 9) → x = nI s → y = nI t → s = t → Q (some (.int (-900003))) (S0 L) M) (hY : ∀ s t : Nat, (0 ≤ s ∧ s ≤ 9) → (0 ≤ t ∧ t ≤ 9) → x = nI s → y = nI t → s ≠ t → ∀ M1 : vM, (∀ q, q < 3 ∨ 42 ≤ q → M1 q = M q) → RepC M1 w h ht rk ns T ng G Rw nz U (setOv O s t b) → Q (some (.int (nI (b1 ((O s).testBit t))))) (S0 L) M1) : PM E l mX8_over 0 [.ref 3, .int x, .int y, .int (bI b), .null] [] (S0 L) M 0 0 Q := by
  have RR0 := RR
  obtain ⟨V, SVv, ZV, RV, OV⟩ := VV
  obtain ⟨⟨X0, K, D⟩, SC, ZC, RO, LC, SU⟩ := RR
  have H := V.1
  have e4 := H.le
  have e6 := H.pos
  have hng := V.2.2.1
  have hns := SVv.1
  have hnz := ZV.1
  refine x_iload_n dX8_over_0 rfl ?_
  refine cS1 (mj := mX8_isLayer) lkX8_243 okX8_isLayer stX8_isLayer rfl rfl rfl rfl dX8_over_1 rfl (k_isLayer _ (fun b0 b0h => ?_))
  have k0 := in_two (x := 0) b0h
  refine b_if_eq 14 dX8_over_4 rfl (fun z0 => ?_) (fun z0 => ?_)
  · refine x_ldc kcX8_104 dX8_over_14 ?_
    refine x_iret dX8_over_16 rfl rfl ?_
    exact hN (fun z => k0.2 z0 z.1)
  · refine x_iload_n dX8_over_7 rfl ?_
    refine cS1 (mj := mX8_isLayer) lkX8_243 okX8_isLayer stX8_isLayer rfl rfl rfl rfl dX8_over_8 rfl (k_isLayer _ (fun b1 b1h => ?_))
    have k1 := in_two (x := 0) b1h
    refine b_if_ne 17 dX8_over_11 rfl (fun z1 => ?_) (fun z1 => ?_)
    · obtain ⟨s, hs, rfl⟩ := k0.1 z0
      obtain ⟨t, htt, rfl⟩ := k1.1 z1
      have hs9 : s < 10 := by omega
      have ht9 : t < 10 := by omega
      refine x_iload_n dX8_over_17 rfl ?_
      refine x_iload_n dX8_over_18 rfl ?_
      refine n_icmp_ne 25 dX8_over_19 rfl (by omega) (by omega) (fun z2 => ?_) (fun z2 => ?_)
      · refine x_aload_n dX8_over_25 rfl ?_
        refine g_R (s0_3 L) fkX8_75 rfl rfl rfl dX8_over_26 ?_
        refine x_iload_n dX8_over_29 rfl ?_
        refine x_iload_n dX8_over_30 rfl ?_
        refine cV2 (mj := mX2_isToldOver) lkX8_246 okX2_isToldOver imX2_isToldOver seX2_isToldOver (s0_39 L) rfl rfl rfl rfl rfl dX8_over_31 rfl (k_isTold hs9 ht9 (rv_all (OV s hs9).1).1 (LC.1 s hs9) ?_)
        rw [rvO (OV s hs9).1 ht9]
        refine x_istore dX8_over_34 (by decide) rfl ?_
        refine x_iload dX8_over_36 rfl ?_
        refine x_iload_n dX8_over_38 rfl ?_
        refine x_icmp_eq 51 dX8_over_39 rfl (fun z3 => ?_) (fun z3 => ?_)
        · refine x_iload dX8_over_51 rfl ?_
          refine cS1 (mj := mX8_bit) lkX8_139 okX8_bit stX8_bit rfl rfl rfl rfl dX8_over_53 rfl (c_bit _ ?_)
          refine x_iret dX8_over_56 rfl rfl ?_
          have h9 := hY s t hs htt rfl rfl z2 M (fun _ _ => rfl)
          rw [← bI_eq.mp z3, setOv_same OV hs9 ht9] at h9
          exact h9 RR0
        · refine x_aload_n dX8_over_42 rfl ?_
          refine g_R (s0_3 L) fkX8_75 rfl rfl rfl dX8_over_43 ?_
          refine x_iload_n dX8_over_46 rfl ?_
          refine x_iload_n dX8_over_47 rfl ?_
          refine cV2 (mj := mX2_turn) lkX8_249 okX2_turn imX2_turn seX2_turn (s0_39 L) rfl rfl rfl rfl rfl dX8_over_48 rfl (k_turn OV LC hs9 ht9 z2 (fun M1 y1 y2 => ?_))
          refine x_iload dX8_over_51 rfl ?_
          refine cS1 (mj := mX8_bit) lkX8_139 okX8_bit stX8_bit rfl rfl rfl rfl dX8_over_53 rfl (c_bit _ ?_)
          refine x_iret dX8_over_56 rfl rfl ?_
          refine hY s t hs htt rfl rfl z2 M1 (hi_of y1 (by decide)) (RR0.lay y1 ?_)
          have e9 : b = !(O s).testBit t := by
            cases hb : b <;> cases hc : (O s).testBit t <;> rw [hb, hc] at z3 <;> first | rfl | exact absurd rfl z3
          rw [e9]
          exact y2
      · refine x_ldc kcX8_171 dX8_over_22 ?_
        refine x_iret dX8_over_24 rfl rfl ?_
        exact hS s t hs htt rfl rfl z2
    · refine x_ldc kcX8_104 dX8_over_14 ?_
      refine x_iret dX8_over_16 rfl rfl ?_
      exact hN (fun z => k1.2 z1 z.2)
set_option maxRecDepth 100000 in
set_option maxHeartbeats 4000000 in
theorem k_above {E : vE} {l : Launch} {Q : Option Value → vS → vM → Prop} {L : Nat} {M : vM} {w h : Nat} {ht rk : Nat → Nat} {ns : Nat} {T : Nat → vT} {ng : Nat} {G : Nat → vQ} {Rw : Nat → Nat × (Nat → Nat)} {nz : Nat} {U : Nat → vU} {O : Nat → Nat} (VV : Val w h ht rk ns T ng G Rw nz U O) (RR : RepC M w h ht rk ns T ng G Rw nz U O) {x y : Int32} (hN : ¬ (INr 0 9 x ∧ INr 0 9 y) → Q (some (.int (-900001))) (S0 L) M) (hY : ∀ s t : Nat, (0 ≤ s ∧ s ≤ 9) → (0 ≤ t ∧ t ≤ 9) → x = nI s → y = nI t → Q (some (.int (nI (b1 (tcB (eOv O 0) s t))))) (S0 L) M) : PM E l mX8_above 0 [.ref 3, .int x, .int y] [] (S0 L) M 0 0 Q := by
  have RR0 := RR
  obtain ⟨V, SVv, ZV, RV, OV⟩ := VV
  obtain ⟨⟨X0, K, D⟩, SC, ZC, RO, LC, SU⟩ := RR
  have H := V.1
  have e4 := H.le
  have e6 := H.pos
  have hng := V.2.2.1
  have hns := SVv.1
  have hnz := ZV.1
  refine x_iload_n dX8_above_0 rfl ?_
  refine cS1 (mj := mX8_isLayer) lkX8_243 okX8_isLayer stX8_isLayer rfl rfl rfl rfl dX8_above_1 rfl (k_isLayer _ (fun b0 b0h => ?_))
  have k0 := in_two (x := 0) b0h
  refine b_if_eq 14 dX8_above_4 rfl (fun z0 => ?_) (fun z0 => ?_)
  · refine x_ldc kcX8_104 dX8_above_14 ?_
    refine x_iret dX8_above_16 rfl rfl ?_
    exact hN (fun z => k0.2 z0 z.1)
  · refine x_iload_n dX8_above_7 rfl ?_
    refine cS1 (mj := mX8_isLayer) lkX8_243 okX8_isLayer stX8_isLayer rfl rfl rfl rfl dX8_above_8 rfl (k_isLayer _ (fun b1 b1h => ?_))
    have k1 := in_two (x := 0) b1h
    refine b_if_ne 17 dX8_above_11 rfl (fun z1 => ?_) (fun z1 => ?_)
    · obtain ⟨s, hs, rfl⟩ := k0.1 z0
      obtain ⟨t, htt, rfl⟩ := k1.1 z1
      have hs9 : s < 10 := by omega
      have ht9 : t < 10 := by omega
      obtain ⟨u, u1, u2⟩ := LC.2.1
      refine x_aload_n dX8_above_17 rfl ?_
      refine g_R (s0_3 L) fkX8_75 rfl rfl rfl dX8_above_18 ?_
      refine x_iload_n dX8_above_21 rfl ?_
      refine x_iload_n dX8_above_22 rfl ?_
      refine cV2 (mj := mX2_isRoundAbout) lkX8_252 okX2_isRoundAbout imX2_isRoundAbout seX2_isRoundAbout (s0_39 L) rfl rfl rfl rfl rfl dX8_above_23 rfl (k_isRound hs9 ht9 (u1 s hs9).2 (u1 s hs9).1 ?_)
      rw [u2 s t hs9 ht9]
      refine cS1 (mj := mX8_bit) lkX8_139 okX8_bit stX8_bit rfl rfl rfl rfl dX8_above_26 rfl (c_bit _ ?_)
      refine x_iret dX8_above_29 rfl rfl ?_
      exact hY s t hs htt rfl rfl
    · refine x_ldc kcX8_104 dX8_above_14 ?_
      refine x_iret dX8_above_16 rfl rfl ?_
      exact hN (fun z => k1.2 z1 z.2)
set_option maxRecDepth 100000 in
set_option maxHeartbeats 4000000 in
theorem k_ring {E : vE} {l : Launch} {Q : Option Value → vS → vM → Prop} {L : Nat} {M : vM} {w h : Nat} {ht rk : Nat → Nat} {ns : Nat} {T : Nat → vT} {ng : Nat} {G : Nat → vQ} {Rw : Nat → Nat × (Nat → Nat)} {nz : Nat} {U : Nat → vU} {O : Nat → Nat} (VV : Val w h ht rk ns T ng G Rw nz U O) (RR : RepC M w h ht rk ns T ng G Rw nz U O) (hY : Q (some (.int (nI (ctt (fun k => tcB (eOv O 0) k k) 10)))) (S0 L) M) : PM E l mX8_ring 0 [.ref 3, .null, .null] [] (S0 L) M 0 0 Q := by
  have RR0 := RR
  obtain ⟨V, SVv, ZV, RV, OV⟩ := VV
  obtain ⟨⟨X0, K, D⟩, SC, ZC, RO, LC, SU⟩ := RR
  have H := V.1
  have e4 := H.le
  have e6 := H.pos
  have hng := V.2.2.1
  have hns := SVv.1
  have hnz := ZV.1
  obtain ⟨u, u1, u2⟩ := LC.2.1
  have l1 : PM E l mX8_ring 4 [.ref 3, .int (nI (ctt (fun k => tcB (eOv O 0) k k) 0)), .int (nI 0)] [] (S0 L) M 0 0 Q := by
    refine lp_up (P := fun i => PM E l mX8_ring 4 [.ref 3, .int (nI (ctt (fun k => tcB (eOv O 0) k k) i)), .int (nI i)] [] (S0 L) M 0 0 Q) 10 ?_ ?_ 0 (by omega)
    · skip
      refine x_iload_n dX8_ring_4 rfl ?_
      refine x_bipush dX8_ring_5 bipush_10 ?_
      refine n_icmp_ge 31 dX8_ring_7 rfl (by omega) (by omega) (fun h1 => ?_) (fun h1 => by omega)
      refine x_iload_n dX8_ring_31 rfl ?_
      refine x_iret dX8_ring_32 rfl rfl ?_
      exact hY
    · intro i hi ih
      refine x_iload_n dX8_ring_4 rfl ?_
      refine x_bipush dX8_ring_5 bipush_10 ?_
      refine n_icmp_ge 31 dX8_ring_7 rfl (by omega) (by omega) (fun h1 => by omega) (fun h1 => ?_)
      refine x_iload_n dX8_ring_10 rfl ?_
      refine x_aload_n dX8_ring_11 rfl ?_
      refine g_R (s0_3 L) fkX8_75 rfl rfl rfl dX8_ring_12 ?_
      refine x_iload_n dX8_ring_15 rfl ?_
      refine x_iload_n dX8_ring_16 rfl ?_
      refine cV2 (mj := mX2_isRoundAbout) lkX8_252 okX2_isRoundAbout imX2_isRoundAbout seX2_isRoundAbout (s0_39 L) rfl rfl rfl rfl rfl dX8_ring_17 rfl (k_isRound hi hi (u1 i hi).2 (u1 i hi).1 ?_)
      rw [u2 i i hi hi]
      refine cS1 (mj := mX8_bit) lkX8_139 okX8_bit stX8_bit rfl rfl rfl rfl dX8_ring_20 rfl (c_bit _ ?_)
      refine n_iadd dX8_ring_23 ?_
      refine x_istore_n dX8_ring_24 (by decide) rfl ?_
      refine n_inc dX8_ring_25 rfl rfl ?_
      refine x_goto 4 dX8_ring_28 rfl ?_
      exact ih
  refine x_iconst dX8_ring_0 iconst_0 ?_
  refine x_istore_n dX8_ring_1 (by decide) rfl ?_
  refine x_iconst dX8_ring_2 iconst_0 ?_
  refine x_istore_n dX8_ring_3 (by decide) rfl ?_
  exact l1
set_option maxRecDepth 100000 in
set_option maxHeartbeats 4000000 in
theorem k_drops {E : vE} {l : Launch} {Q : Option Value → vS → vM → Prop} {L : Nat} {M : vM} {w h : Nat} {ht rk : Nat → Nat} {ns : Nat} {T : Nat → vT} {ng : Nat} {G : Nat → vQ} {Rw : Nat → Nat × (Nat → Nat)} {nz : Nat} {U : Nat → vU} {O : Nat → Nat} (VV : Val w h ht rk ns T ng G Rw nz U O) (RR : RepC M w h ht rk ns T ng G Rw nz U O) (hY : ∀ M1 : vM, (∀ q, q < 3 ∨ 42 ≤ q → M1 q = M q) → RepC M1 w h ht rk ns T ng G Rw nz U O → Q (some (.int (nI (on10 (fwS O 1023))))) (S0 L) M1) : PM E l mX8_drops 0 [.ref 3] [] (S0 L) M 0 0 Q := by
  have RR0 := RR
  obtain ⟨V, SVv, ZV, RV, OV⟩ := VV
  obtain ⟨⟨X0, K, D⟩, SC, ZC, RO, LC, SU⟩ := RR
  have H := V.1
  have e4 := H.le
  have e6 := H.pos
  have hng := V.2.2.1
  have hns := SVv.1
  have hnz := ZV.1
  have hF := fwS_lt (O := O) 1023 (by omega)
  have hr := rv_all hF
  refine x_aload_n dX8_drops_0 rfl ?_
  refine g_R (s0_3 L) fkX8_75 rfl rfl rfl dX8_drops_1 ?_
  refine cV0 (mj := mX2_fewestDropped) lkX8_255 okX2_fewestDropped imX2_fewestDropped seX2_fewestDropped (s0_39 L) rfl rfl rfl rfl rfl dX8_drops_4 rfl (k_fewest OV LC (fun M1 y1 y2 y3 y4 => ?_))
  have R1 := RR0.lay (y1.sub (by decide)) (LC.few y1 y2 y3 y4)
  have L1 := hi_of y1 (by decide)
  refine cS1 (mj := mJ6_bitCount_0f7a4) lkX8_258 okJ6_bitCount_0f7a4 stJ6_bitCount_0f7a4 rfl rfl rfl rfl dX8_drops_7 rfl (c_bitCount hr.1 ?_)
  refine x_iret dX8_drops_10 rfl rfl ?_
  rw [hr.2.2.1]
  exact hY M1 L1 R1
set_option maxRecDepth 100000 in
set_option maxHeartbeats 4000000 in
theorem k_drop {E : vE} {l : Launch} {Q : Option Value → vS → vM → Prop} {L : Nat} {M : vM} {w h : Nat} {ht rk : Nat → Nat} {ns : Nat} {T : Nat → vT} {ng : Nat} {G : Nat → vQ} {Rw : Nat → Nat × (Nat → Nat)} {nz : Nat} {U : Nat → vU} {O : Nat → Nat} (VV : Val w h ht rk ns T ng G Rw nz U O) (RR : RepC M w h ht rk ns T ng G Rw nz U O) {x : Int32} (hY : ∀ M1 : vM, (∀ q, q < 3 ∨ 42 ≤ q → M1 q = M q) → RepC M1 w h ht rk ns T ng G Rw nz U O → Q (some (.int (oI (-900009) (fnd (fun k => (fwS O 1023).testBit k) x 10)))) (S0 L) M1) : PM E l mX8_drop 0 [.ref 3, .int x, .null, .null, .null] [] (S0 L) M 0 0 Q := by
  have RR0 := RR
  obtain ⟨V, SVv, ZV, RV, OV⟩ := VV
  obtain ⟨⟨X0, K, D⟩, SC, ZC, RO, LC, SU⟩ := RR
  have H := V.1
  have e4 := H.le
  have e6 := H.pos
  have hng := V.2.2.1
  have hns := SVv.1
  have hnz := ZV.1
  have hF := fwS_lt (O := O) 1023 (by omega)
  have hr := rv_all hF
  refine x_aload_n dX8_drop_0 rfl ?_
  refine g_R (s0_3 L) fkX8_75 rfl rfl rfl dX8_drop_1 ?_
  refine cV0 (mj := mX2_fewestDropped) lkX8_255 okX2_fewestDropped imX2_fewestDropped seX2_fewestDropped (s0_39 L) rfl rfl rfl rfl rfl dX8_drop_4 rfl (k_fewest OV LC (fun M1 y1 y2 y3 y4 => ?_))
  have R1 := RR0.lay (y1.sub (by decide)) (LC.few y1 y2 y3 y4)
  have L1 := hi_of y1 (by decide)
  refine x_istore_n dX8_drop_7 (by decide) rfl ?_
  refine x_iconst dX8_drop_8 iconst_0 ?_
  refine x_istore_n dX8_drop_9 (by decide) rfl ?_
  refine x_iconst dX8_drop_10 iconst_0 ?_
  refine x_istore dX8_drop_11 (by decide) rfl ?_
  have hr1 := hr.1
  have l1 : fnd (fun k => (fwS O 1023).testBit k) x 0 = none → PM E l mX8_drop 13 [.ref 3, .int x, .int (nI (rv (fwS O 1023))), .int (nI (ctt (fun k => (fwS O 1023).testBit k) 0)), .int (nI 0)] [] (S0 L) M1 0 0 Q := by
    refine lp_up (P := fun i => fnd (fun k => (fwS O 1023).testBit k) x i = none → PM E l mX8_drop 13 [.ref 3, .int x, .int (nI (rv (fwS O 1023))), .int (nI (ctt (fun k => (fwS O 1023).testBit k) i)), .int (nI i)] [] (S0 L) M1 0 0 Q) 10 ?_ ?_ 0 (by omega)
    · intro g1
      refine x_iload dX8_drop_13 rfl ?_
      refine x_bipush dX8_drop_15 bipush_10 ?_
      refine n_icmp_ge 47 dX8_drop_17 rfl (by omega) (by omega) (fun h1 => ?_) (fun h1 => by omega)
      refine x_ldc kcX8_150 dX8_drop_47 ?_
      refine x_iret dX8_drop_49 rfl rfl ?_
      have h9 := hY M1 L1 R1
      rw [g1] at h9
      exact h9
    · intro i hi ih g1
      refine x_iload dX8_drop_13 rfl ?_
      refine x_bipush dX8_drop_15 bipush_10 ?_
      refine n_icmp_ge 47 dX8_drop_17 rfl (by omega) (by omega) (fun h1 => by omega) (fun h1 => ?_)
      refine x_iload_n dX8_drop_20 rfl ?_
      refine x_iload dX8_drop_21 rfl ?_
      refine cS1 (mj := mX2_mask) lkX8_263 okX2_mask stX2_mask rfl rfl rfl rfl dX8_drop_23 rfl (k_mask hi ?_)
      refine x_iand dX8_drop_26 ?_
      refine x_as (fa_and _ _) ?_
      refine n_if_eq 41 dX8_drop_27 rfl (Nat.lt_of_le_of_lt Nat.and_le_left (by omega)) (fun z2 => ?_) (fun z2 => ?_)
      · refine n_inc dX8_drop_41 rfl rfl ?_
        refine x_goto 13 dX8_drop_44 rfl ?_
        have hb9 : (fwS O 1023).testBit i = false := (hr.2.2.2 i hi).symm.trans (and_hs.mp z2)
        have ih2 := ih (fnd_no g1 (fun z => by rw [hb9] at z; cases z.1))
        rw [show ctt (fun k => (fwS O 1023).testBit k) (i + 1) = ctt (fun k => (fwS O 1023).testBit k) i + 0 from by simp only [ctt, hb9, Bool.false_eq_true, if_false]] at ih2
        exact ih2
      · have hb9 : (fwS O 1023).testBit i = true := by
          rw [← hr.2.2.2 i hi]
          cases h8 : (rv (fwS O 1023)).testBit (9 - i) with
          | true => rfl
          | false => exact absurd (and_hs.mpr h8) z2
        refine x_iload_n dX8_drop_30 rfl ?_
        refine x_iload_n dX8_drop_31 rfl ?_
        refine x_icmp_ne 38 dX8_drop_32 rfl (fun z3 => ?_) (fun z3 => ?_)
        · refine n_inc dX8_drop_38 rfl rfl ?_
          refine n_inc dX8_drop_41 rfl rfl ?_
          refine x_goto 13 dX8_drop_44 rfl ?_
          have ih2 := ih (fnd_no g1 (fun z => z3 z.2))
          rw [show ctt (fun k => (fwS O 1023).testBit k) (i + 1) = ctt (fun k => (fwS O 1023).testBit k) i + 1 from by simp only [ctt, hb9, if_true]] at ih2
          exact ih2
        · refine x_iload dX8_drop_35 rfl ?_
          refine x_iret dX8_drop_37 rfl rfl ?_
          have h9 := hY M1 L1 R1
          rw [show (10 : Nat) = i + 1 + (10 - (i + 1)) from by omega, fnd_yes g1 ⟨hb9, z3⟩] at h9
          exact h9
  exact l1 rfl
set_option maxRecDepth 100000 in
set_option maxHeartbeats 4000000 in
theorem k_count {E : vE} {l : Launch} {Q : Option Value → vS → vM → Prop} {L : Nat} {M : vM} {w h : Nat} {ht rk : Nat → Nat} {ns : Nat} {T : Nat → vT} {ng : Nat} {G : Nat → vQ} {Rw : Nat → Nat × (Nat → Nat)} {nz : Nat} {U : Nat → vU} {O : Nat → Nat} (VV : Val w h ht rk ns T ng G Rw nz U O) (RR : RepC M w h ht rk ns T ng G Rw nz U O) {x : Int32} (hO : ¬ INr 0 4 x → Q (some (.int (-900002))) (S0 L) M) (hY : ∀ k : Nat, k ≤ 4 → x = nI k → Q (some (.int (nI (cntA w h ns ng nz O k)))) (S0 L) M) : PM E l mX8_count 0 [.ref 3, .int x] [] (S0 L) M 0 0 Q := by
  have RR0 := RR
  obtain ⟨V, SVv, ZV, RV, OV⟩ := VV
  obtain ⟨⟨X0, K, D⟩, SC, ZC, RO, LC, SU⟩ := RR
  have H := V.1
  have e4 := H.le
  have e6 := H.pos
  have hng := V.2.2.1
  have hns := SVv.1
  have hnz := ZV.1
  by_cases hv : INr 0 4 x
  · obtain ⟨kk, hk, rfl⟩ := hv
    rcases (show kk = 0 ∨ kk = 1 ∨ kk = 2 ∨ kk = 3 ∨ kk = 4 by omega) with rfl | rfl | rfl | rfl | rfl
    · refine x_iload_n dX8_count_0 rfl ?_
      refine x_tabIn 36 dX8_count_1 (by decide) (by decide) rfl rfl ?_
      refine x_aload_n dX8_count_36 rfl ?_
      refine g_R (s0_3 L) fkX8_10 rfl rfl rfl dX8_count_37 ?_
      refine g_I (s0_4 L) fkX8_99 rfl rfl dX8_count_40 ?_
      refine x_as K.1.1 ?_
      refine x_iret dX8_count_43 rfl rfl ?_
      exact hY 0 (by omega) rfl
    · refine x_iload_n dX8_count_0 rfl ?_
      refine x_tabIn 44 dX8_count_1 (by decide) (by decide) rfl rfl ?_
      refine x_aload_n dX8_count_44 rfl ?_
      refine g_R (s0_3 L) fkX8_19 rfl rfl rfl dX8_count_45 ?_
      refine g_I (s0_8 L) fkX8_88 rfl rfl dX8_count_48 ?_
      refine x_as SC.1 ?_
      refine x_iret dX8_count_51 rfl rfl ?_
      exact hY 1 (by omega) rfl
    · refine x_iload_n dX8_count_0 rfl ?_
      refine x_tabIn 52 dX8_count_1 (by decide) (by decide) rfl rfl ?_
      refine x_aload_n dX8_count_52 rfl ?_
      refine g_R (s0_3 L) fkX8_28 rfl rfl rfl dX8_count_53 ?_
      refine g_I (s0_12 L) fkX8_92 rfl rfl dX8_count_56 ?_
      refine x_as K.2.2.1 ?_
      refine x_iret dX8_count_59 rfl rfl ?_
      exact hY 2 (by omega) rfl
    · refine x_iload_n dX8_count_0 rfl ?_
      refine x_tabIn 60 dX8_count_1 (by decide) (by decide) rfl rfl ?_
      refine x_aload_n dX8_count_60 rfl ?_
      refine g_R (s0_3 L) fkX8_50 rfl rfl rfl dX8_count_61 ?_
      refine g_I (s0_27 L) fkX8_93 rfl rfl dX8_count_64 ?_
      refine x_as ZC.1 ?_
      refine x_iret dX8_count_67 rfl rfl ?_
      exact hY 3 (by omega) rfl
    · refine x_iload_n dX8_count_0 rfl ?_
      refine x_tabIn 68 dX8_count_1 (by decide) (by decide) rfl rfl ?_
      refine x_aload_n dX8_count_68 rfl ?_
      refine g_R (s0_3 L) fkX8_75 rfl rfl rfl dX8_count_69 ?_
      refine g_I (s0_39 L) fkX8_266 rfl rfl dX8_count_72 ?_
      refine x_as LC.2.2.1 ?_
      refine x_iret dX8_count_75 rfl rfl ?_
      exact hY 4 (by omega) rfl
  · refine x_iload_n dX8_count_0 rfl ?_
    refine x_tabOut 76 dX8_count_1 (tab_out (a := 0) (b := 4) (by omega) hv) rfl ?_
    refine x_ldc kcX8_83 dX8_count_76 ?_
    refine x_iret dX8_count_78 rfl rfl ?_
    exact hO hv

theorem INr_cong {a b b2 : Nat} {x : Int32} (e : b = b2) : INr a b x ↔ INr a b2 x := by rw [e]
theorem ex_iff {k ns : Nat} {v : Int32} (hk : k ≤ 5) (hs : k = 4 → INn ns v) (hns : ns ≤ 12) : INr 0 (mostX k) v ↔ exOk k v := by
  rcases (show k = 0 ∨ k = 1 ∨ k = 2 ∨ k = 3 ∨ k = 4 ∨ k = 5 by omega) with rfl | rfl | rfl | rfl | rfl | rfl
  · exact ⟨fun z => Or.inr (Or.inl ⟨rfl, z⟩), fun z => by rcases z with z | ⟨-, z⟩ | ⟨z, -⟩ | ⟨-, z, -⟩; cases z; exact z; cases z; exact absurd rfl z⟩
  · exact ⟨fun ⟨j, hj, e⟩ => Or.inr (Or.inr (Or.inr ⟨by decide, by decide, by decide, by rw [e, show j = 0 from by have := hj.2; simp [mostX] at this; omega]; rfl⟩)), fun z => by rcases z with z | ⟨z, -⟩ | ⟨z, -⟩ | ⟨-, -, -, z⟩; cases z; cases z; cases z; exact ⟨0, by omega, z⟩⟩
  · exact ⟨fun ⟨j, hj, e⟩ => Or.inr (Or.inr (Or.inr ⟨by decide, by decide, by decide, by rw [e, show j = 0 from by have := hj.2; simp [mostX] at this; omega]; rfl⟩)), fun z => by rcases z with z | ⟨z, -⟩ | ⟨z, -⟩ | ⟨-, -, -, z⟩; cases z; cases z; cases z; exact ⟨0, by omega, z⟩⟩
  · exact ⟨fun ⟨j, hj, e⟩ => Or.inr (Or.inr (Or.inr ⟨by decide, by decide, by decide, by rw [e, show j = 0 from by have := hj.2; simp [mostX] at this; omega]; rfl⟩)), fun z => by rcases z with z | ⟨z, -⟩ | ⟨z, -⟩ | ⟨-, -, -, z⟩; cases z; cases z; cases z; exact ⟨0, by omega, z⟩⟩
  · exact ⟨fun _ => Or.inl rfl, fun _ => by obtain ⟨j, hj, e⟩ := hs rfl; exact ⟨j, ⟨by omega, by show j ≤ 11; omega⟩, e⟩⟩
  · exact ⟨fun z => Or.inr (Or.inr (Or.inl ⟨rfl, z⟩)), fun z => by rcases z with z | ⟨z, -⟩ | ⟨-, z⟩ | ⟨-, -, z, -⟩; cases z; cases z; exact z; exact absurd rfl z⟩
theorem mostX_le (k : Nat) : mostX k ≤ 15 := by unfold mostX; split; omega; split; omega; split; omega; omega
set_option maxRecDepth 100000 in
set_option maxHeartbeats 4000000 in
theorem k_sign {E : vE} {l : Launch} {Q : Option Value → vS → vM → Prop} {L : Nat} {M : vM} {w h : Nat} {ht rk : Nat → Nat} {ns : Nat} {T : Nat → vT} {ng : Nat} {G : Nat → vQ} {Rw : Nat → Nat × (Nat → Nat)} {nz : Nat} {U : Nat → vU} {O : Nat → Nat} (VV : Val w h ht rk ns T ng G Rw nz U O) (RR : RepC M w h ht rk ns T ng G Rw nz U O) {x y v u : Int32} (hO0 : ¬ INr 0 5 x → Q (some (.int (-900002))) (S0 L) M) (hN : ∀ k : Nat, (0 ≤ k ∧ k ≤ 5) → x = nI k → ¬ sgAt k ns (w * h) y v → Q (some (.int (-900001))) (S0 L) M) (hO1 : ∀ k : Nat, (0 ≤ k ∧ k ≤ 5) → x = nI k → sgAt k ns (w * h) y v → ¬ (exOk k v ∧ INr 1 99 u) → Q (some (.int (-900002))) (S0 L) M) (hF : ∀ k wo : Nat, (0 ≤ k ∧ k ≤ 5) → (1 ≤ wo ∧ wo ≤ 99) → x = nI k → u = nI wo → sgAt k ns (w * h) y v → exOk k v → nz = 12 → ∀ M1 : vM, (∀ q, q < 3 ∨ 42 ≤ q → M1 q = M q) → RepC M1 w h ht rk ns T ng G Rw nz U O → Q (some (.int (-900004))) (S0 L) M1) (hY : ∀ k ee wo : Nat, (0 ≤ k ∧ k ≤ 5) → (1 ≤ wo ∧ wo ≤ 99) → x = nI k → u = nI wo → v = nI ee → ee ≤ 15 → sgAt k ns (w * h) y v → exOk k v → nz < 12 → ∀ M1 : vM, (∀ q, q < 3 ∨ 42 ≤ q → M1 q = M q) → (∀ cc : Nat, (k ≠ 4 → y = nI cc) → RepC M1 w h ht rk ns T ng G Rw (nz + 1) (fun i => if i = nz then (k, cc, ee, wo) else U i) O) → Q (some (.int (nI nz))) (S0 L) M1) : PM E l mX8_sign 0 [.ref 3, .int x, .int y, .int v, .int u] [] (S0 L) M 0 0 Q := by
  have RR0 := RR
  obtain ⟨V, SVv, ZV, RV, OV⟩ := VV
  obtain ⟨⟨X0, K, D⟩, SC, ZC, RO, LC, SU⟩ := RR
  have H := V.1
  have e4 := H.le
  have e6 := H.pos
  have hng := V.2.2.1
  have hns := SVv.1
  have hnz := ZV.1
  refine x_iload_n dX8_sign_0 rfl ?_
  refine x_iconst dX8_sign_1 iconst_0 ?_
  refine x_iconst dX8_sign_2 iconst_5 ?_
  refine cS3 (mj := mX8_within) lkX8_79 okX8_within stX8_within rfl rfl rfl rfl dX8_sign_3 rfl (c_within _ _ _ (fun b0 b0h => ?_))
  have k0 := in_two (x := 0) (b0h.trans (in_rg (a := 0) (b := 5) (by omega) (by omega) _))
  refine b_if_ne 12 dX8_sign_6 rfl (fun z0 => ?_) (fun z0 => ?_)
  · obtain ⟨k, hk, rfl⟩ := k0.1 z0
    refine x_iload_n dX8_sign_12 rfl ?_
    refine x_iconst dX8_sign_13 iconst_4 ?_
    refine n_icmp_ne 31 dX8_sign_14 rfl (by omega) (by omega) (fun z9 => ?_) (fun z9 => ?_)
    · refine x_aload_n dX8_sign_31 rfl ?_
      refine g_R (s0_3 L) fkX8_10 rfl rfl rfl dX8_sign_32 ?_
      refine x_iload_n dX8_sign_35 rfl ?_
      refine cV1 (mj := mX1_has) lkX8_100 okX1_has imX1_has seX1_has (s0_4 L) rfl rfl rfl rfl rfl dX8_sign_36 rfl (k_g_has (by omega) K.1.1 _ (fun b1 b1h => ?_))
      have k1 := in_two (x := 0) b1h
      refine b_if_ne 45 dX8_sign_39 rfl (fun z1 => ?_) (fun z1 => ?_)
      · have hat : sgAt k ns (w * h) y v := by unfold sgAt; rw [if_neg z9]; exact k1.1 z1
        have h4n : k = 4 → INn ns v := fun z => absurd z z9
        refine x_iload_n dX8_sign_45 rfl ?_
        refine x_iconst dX8_sign_46 iconst_0 ?_
        refine x_iload_n dX8_sign_47 rfl ?_
        refine cS1 (mj := mX8_mostExtra) lkX8_186 okX8_mostExtra stX8_mostExtra rfl rfl rfl rfl dX8_sign_48 rfl (k_mostExtra hk.2 ?_)
        refine cS3 (mj := mX8_within) lkX8_79 okX8_within stX8_within rfl rfl rfl rfl dX8_sign_51 rfl (c_within _ _ _ (fun b3 b3h => ?_))
        have hmx := mostX_le k
        have k3 := in_two (x := 0) (b3h.trans (in_rg (a := 0) (b := mostX k) (by omega) (by omega) _))
        refine b_if_eq 68 dX8_sign_54 rfl (fun z3 => ?_) (fun z3 => ?_)
        · refine x_ldc kcX8_83 dX8_sign_68 ?_
          refine x_iret dX8_sign_70 rfl rfl ?_
          exact hO1 k hk rfl hat (fun z => k3.2 z3 ((ex_iff hk.2 h4n (by omega)).mpr z.1))
        · refine x_iload dX8_sign_57 rfl ?_
          refine x_iconst dX8_sign_59 iconst_1 ?_
          refine x_bipush dX8_sign_60 bipush_99 ?_
          refine cS3 (mj := mX8_within) lkX8_79 okX8_within stX8_within rfl rfl rfl rfl dX8_sign_62 rfl (c_within _ _ _ (fun b4 b4h => ?_))
          have k4 := in_two (x := 0) (b4h.trans (in_rg (a := 1) (b := 99) (by omega) (by omega) _))
          refine b_if_ne 71 dX8_sign_65 rfl (fun z4 => ?_) (fun z4 => ?_)
          · obtain ⟨wo, hwo, rfl⟩ := k4.1 z4
            refine x_aload_n dX8_sign_71 rfl ?_
            refine g_R (s0_3 L) fkX8_59 rfl rfl rfl dX8_sign_72 ?_
            refine x_iconst dX8_sign_75 iconst_1 ?_
            refine x_as (show nI 1 = bI true from rfl) ?_
            refine g_Pz (s0_32 L) fkX8_95 rfl rfl rfl rfl dX8_sign_76 ?_
            refine x_aload_n dX8_sign_79 rfl ?_
            refine g_R (s0_3 L) fkX8_50 rfl rfl rfl dX8_sign_80 ?_
            refine x_iload_n dX8_sign_83 rfl ?_
            refine x_iload_n dX8_sign_84 rfl ?_
            refine x_iload_n dX8_sign_85 rfl ?_
            refine x_iload dX8_sign_86 rfl ?_
            refine cV4 (mj := mX4_add) lkX8_189 okX4_add imX4_add seX4_add (s0_27 L) rfl rfl rfl rfl rfl dX8_sign_88 rfl (k_signAdd (by omega) ZC.1 (fun z5 => ?_) (fun z5 => ?_))
            skip
            · skip
              refine x_iret dX8_sign_91 rfl rfl ?_
              exact hF k wo hk hwo rfl rfl hat ((ex_iff hk.2 h4n (by omega)).mp (k3.1 z3)) z5 _ (hi_of (ks := [32]) (Fr.rf.set _ (by decide)) (by decide)) ⟨⟨X0, K, D⟩, SC, ZC, (RO.kept (fun q h1 h2 => sM_ne _ _ _ (by omega))), LC, SuC.stale rfl⟩
            · skip
              refine x_iret dX8_sign_91 rfl rfl ?_
              obtain ⟨ee, hee, rfl⟩ := k3.1 z3
              have hf : Fr [27, 28, 29, 30, 31, 32] M _ := (((((Fr.rf.set (k := 32) (upd (M 32) 6 (bI true)) (by decide)).set (k := 28) (upd (M 28) nz (nI k)) (by decide)).set (k := 29) (upd (M 29) nz y) (by decide)).set (k := 30) (upd (M 30) nz (nI ee)) (by decide)).set (k := 31) (upd (M 31) nz (nI wo)) (by decide)).set (k := 27) (upd (M 27) 7 (nI (nz + 1))) (by decide)
              refine hY k ee wo hk hwo rfl rfl rfl (by omega) hat ((ex_iff hk.2 h4n (by omega)).mp (k3.1 z3)) z5 _ (hi_of hf (by decide)) (fun cc hcc => ⟨⟨X0, K, D⟩, SC, ⟨rfl, fun i hi => ?_⟩, (RO.kept (fun q h1 h2 => (sM_ne _ _ _ (by omega)).trans ((sM_ne _ _ _ (by omega)).trans ((sM_ne _ _ _ (by omega)).trans ((sM_ne _ _ _ (by omega)).trans ((sM_ne _ _ _ (by omega)).trans (sM_ne _ _ _ (by omega)))))))), LC, SuC.stale rfl⟩)
              show upd (M 28) nz (nI k) i = nI ((fun i => if i = nz then (k, cc, ee, wo) else U i) i).1 ∧ (((fun i => if i = nz then (k, cc, ee, wo) else U i) i).1 ≠ 4 → upd (M 29) nz y i = nI ((fun i => if i = nz then (k, cc, ee, wo) else U i) i).2.1) ∧ upd (M 30) nz (nI ee) i = nI ((fun i => if i = nz then (k, cc, ee, wo) else U i) i).2.2.1 ∧ upd (M 31) nz (nI wo) i = nI ((fun i => if i = nz then (k, cc, ee, wo) else U i) i).2.2.2
              (try dsimp only)
              by_cases e : i = nz
              · rw [e, if_pos rfl, upd_at, upd_at, upd_at, upd_at]; exact ⟨rfl, hcc, rfl, rfl⟩
              · rw [if_neg e, upd_ne _ _ e, upd_ne _ _ e, upd_ne _ _ e, upd_ne _ _ e]; exact ZC.2 i (by omega)
          · refine x_ldc kcX8_83 dX8_sign_68 ?_
            refine x_iret dX8_sign_70 rfl rfl ?_
            exact hO1 k hk rfl hat (fun z => k4.2 z4 z.2)
      · refine x_ldc kcX8_104 dX8_sign_42 ?_
        refine x_iret dX8_sign_44 rfl rfl ?_
        exact hN k hk rfl (fun z => k1.2 z1 (by unfold sgAt at z; rw [if_neg z9] at z; exact z))
    · refine x_aload_n dX8_sign_17 rfl ?_
      refine g_R (s0_3 L) fkX8_19 rfl rfl rfl dX8_sign_18 ?_
      refine x_iload_n dX8_sign_21 rfl ?_
      refine cV1 (mj := mX5_has) lkX8_119 okX5_has imX5_has seX5_has (s0_8 L) rfl rfl rfl rfl rfl dX8_sign_22 rfl (k_s_has (by omega) SC.1 _ (fun b1 b1h => ?_))
      have k1 := in_two (x := 0) b1h
      refine b_if_ne 45 dX8_sign_25 rfl (fun z1 => ?_) (fun z1 => ?_)
      · have hat : sgAt k ns (w * h) y v := by unfold sgAt; rw [if_pos z9]; exact k1.1 z1
        have h4n : k = 4 → INn ns v := fun _ => k1.1 z1
        refine x_iload_n dX8_sign_45 rfl ?_
        refine x_iconst dX8_sign_46 iconst_0 ?_
        refine x_iload_n dX8_sign_47 rfl ?_
        refine cS1 (mj := mX8_mostExtra) lkX8_186 okX8_mostExtra stX8_mostExtra rfl rfl rfl rfl dX8_sign_48 rfl (k_mostExtra hk.2 ?_)
        refine cS3 (mj := mX8_within) lkX8_79 okX8_within stX8_within rfl rfl rfl rfl dX8_sign_51 rfl (c_within _ _ _ (fun b3 b3h => ?_))
        have hmx := mostX_le k
        have k3 := in_two (x := 0) (b3h.trans (in_rg (a := 0) (b := mostX k) (by omega) (by omega) _))
        refine b_if_eq 68 dX8_sign_54 rfl (fun z3 => ?_) (fun z3 => ?_)
        · refine x_ldc kcX8_83 dX8_sign_68 ?_
          refine x_iret dX8_sign_70 rfl rfl ?_
          exact hO1 k hk rfl hat (fun z => k3.2 z3 ((ex_iff hk.2 h4n (by omega)).mpr z.1))
        · refine x_iload dX8_sign_57 rfl ?_
          refine x_iconst dX8_sign_59 iconst_1 ?_
          refine x_bipush dX8_sign_60 bipush_99 ?_
          refine cS3 (mj := mX8_within) lkX8_79 okX8_within stX8_within rfl rfl rfl rfl dX8_sign_62 rfl (c_within _ _ _ (fun b4 b4h => ?_))
          have k4 := in_two (x := 0) (b4h.trans (in_rg (a := 1) (b := 99) (by omega) (by omega) _))
          refine b_if_ne 71 dX8_sign_65 rfl (fun z4 => ?_) (fun z4 => ?_)
          · obtain ⟨wo, hwo, rfl⟩ := k4.1 z4
            refine x_aload_n dX8_sign_71 rfl ?_
            refine g_R (s0_3 L) fkX8_59 rfl rfl rfl dX8_sign_72 ?_
            refine x_iconst dX8_sign_75 iconst_1 ?_
            refine x_as (show nI 1 = bI true from rfl) ?_
            refine g_Pz (s0_32 L) fkX8_95 rfl rfl rfl rfl dX8_sign_76 ?_
            refine x_aload_n dX8_sign_79 rfl ?_
            refine g_R (s0_3 L) fkX8_50 rfl rfl rfl dX8_sign_80 ?_
            refine x_iload_n dX8_sign_83 rfl ?_
            refine x_iload_n dX8_sign_84 rfl ?_
            refine x_iload_n dX8_sign_85 rfl ?_
            refine x_iload dX8_sign_86 rfl ?_
            refine cV4 (mj := mX4_add) lkX8_189 okX4_add imX4_add seX4_add (s0_27 L) rfl rfl rfl rfl rfl dX8_sign_88 rfl (k_signAdd (by omega) ZC.1 (fun z5 => ?_) (fun z5 => ?_))
            skip
            · skip
              refine x_iret dX8_sign_91 rfl rfl ?_
              exact hF k wo hk hwo rfl rfl hat ((ex_iff hk.2 h4n (by omega)).mp (k3.1 z3)) z5 _ (hi_of (ks := [32]) (Fr.rf.set _ (by decide)) (by decide)) ⟨⟨X0, K, D⟩, SC, ZC, (RO.kept (fun q h1 h2 => sM_ne _ _ _ (by omega))), LC, SuC.stale rfl⟩
            · skip
              refine x_iret dX8_sign_91 rfl rfl ?_
              obtain ⟨ee, hee, rfl⟩ := k3.1 z3
              have hf : Fr [27, 28, 29, 30, 31, 32] M _ := (((((Fr.rf.set (k := 32) (upd (M 32) 6 (bI true)) (by decide)).set (k := 28) (upd (M 28) nz (nI k)) (by decide)).set (k := 29) (upd (M 29) nz y) (by decide)).set (k := 30) (upd (M 30) nz (nI ee)) (by decide)).set (k := 31) (upd (M 31) nz (nI wo)) (by decide)).set (k := 27) (upd (M 27) 7 (nI (nz + 1))) (by decide)
              refine hY k ee wo hk hwo rfl rfl rfl (by omega) hat ((ex_iff hk.2 h4n (by omega)).mp (k3.1 z3)) z5 _ (hi_of hf (by decide)) (fun cc hcc => ⟨⟨X0, K, D⟩, SC, ⟨rfl, fun i hi => ?_⟩, (RO.kept (fun q h1 h2 => (sM_ne _ _ _ (by omega)).trans ((sM_ne _ _ _ (by omega)).trans ((sM_ne _ _ _ (by omega)).trans ((sM_ne _ _ _ (by omega)).trans ((sM_ne _ _ _ (by omega)).trans (sM_ne _ _ _ (by omega)))))))), LC, SuC.stale rfl⟩)
              show upd (M 28) nz (nI k) i = nI ((fun i => if i = nz then (k, cc, ee, wo) else U i) i).1 ∧ (((fun i => if i = nz then (k, cc, ee, wo) else U i) i).1 ≠ 4 → upd (M 29) nz y i = nI ((fun i => if i = nz then (k, cc, ee, wo) else U i) i).2.1) ∧ upd (M 30) nz (nI ee) i = nI ((fun i => if i = nz then (k, cc, ee, wo) else U i) i).2.2.1 ∧ upd (M 31) nz (nI wo) i = nI ((fun i => if i = nz then (k, cc, ee, wo) else U i) i).2.2.2
              (try dsimp only)
              by_cases e : i = nz
              · rw [e, if_pos rfl, upd_at, upd_at, upd_at, upd_at]; exact ⟨rfl, hcc, rfl, rfl⟩
              · rw [if_neg e, upd_ne _ _ e, upd_ne _ _ e, upd_ne _ _ e, upd_ne _ _ e]; exact ZC.2 i (by omega)
          · refine x_ldc kcX8_83 dX8_sign_68 ?_
            refine x_iret dX8_sign_70 rfl rfl ?_
            exact hO1 k hk rfl hat (fun z => k4.2 z4 z.2)
      · refine x_goto 42 dX8_sign_28 rfl ?_
        refine x_ldc kcX8_104 dX8_sign_42 ?_
        refine x_iret dX8_sign_44 rfl rfl ?_
        exact hN k hk rfl (fun z => k1.2 z1 (by unfold sgAt at z; rw [if_pos z9] at z; exact z))
  · refine x_ldc kcX8_83 dX8_sign_9 ?_
    refine x_iret dX8_sign_11 rfl rfl ?_
    exact hO0 (k0.2 z0)
set_option maxRecDepth 100000 in
set_option maxHeartbeats 4000000 in
theorem k_forget {E : vE} {l : Launch} {Q : Option Value → vS → vM → Prop} {L : Nat} {M : vM} {w h : Nat} {ht rk : Nat → Nat} {ns : Nat} {T : Nat → vT} {ng : Nat} {G : Nat → vQ} {Rw : Nat → Nat × (Nat → Nat)} {nz : Nat} {U : Nat → vU} {O : Nat → Nat} (VV : Val w h ht rk ns T ng G Rw nz U O) (RR : RepC M w h ht rk ns T ng G Rw nz U O) {x : Int32} (hN : ¬ INn nz x → Q (some (.int (-900001))) (S0 L) M) (hY : ∀ t : Nat, t < nz → x = nI t → ∀ M1 : vM, (∀ q, q < 3 ∨ 42 ≤ q → M1 q = M q) → RepC M1 w h ht rk ns T ng G Rw (nz - 1) (fun k => if k < t then U k else U (k + 1)) O → Q (some (.int (nI (U t).2.2.2))) (S0 L) M1) : PM E l mX8_forget 0 [.ref 3, .int x] [] (S0 L) M 0 0 Q := by
  have RR0 := RR
  obtain ⟨V, SVv, ZV, RV, OV⟩ := VV
  obtain ⟨⟨X0, K, D⟩, SC, ZC, RO, LC, SU⟩ := RR
  have H := V.1
  have e4 := H.le
  have e6 := H.pos
  have hng := V.2.2.1
  have hns := SVv.1
  have hnz := ZV.1
  refine x_aload_n dX8_forget_0 rfl ?_
  refine g_R (s0_3 L) fkX8_50 rfl rfl rfl dX8_forget_1 ?_
  refine x_iload_n dX8_forget_4 rfl ?_
  refine cV1 (mj := mX4_has) lkX8_191 okX4_has imX4_has seX4_has (s0_27 L) rfl rfl rfl rfl rfl dX8_forget_5 rfl (k_z_has (by omega) ZC.1 _ (fun b0 b0h => ?_))
  have k0 := in_two (x := 0) b0h
  refine b_if_ne 14 dX8_forget_8 rfl (fun z0 => ?_) (fun z0 => ?_)
  · obtain ⟨t, htt, rfl⟩ := k0.1 z0
    refine x_aload_n dX8_forget_14 rfl ?_
    refine g_R (s0_3 L) fkX8_59 rfl rfl rfl dX8_forget_15 ?_
    refine x_iconst dX8_forget_18 iconst_1 ?_
    refine x_as (show nI 1 = bI true from rfl) ?_
    refine g_Pz (s0_32 L) fkX8_95 rfl rfl rfl rfl dX8_forget_19 ?_
    have ZC9 : SgC (sM M 32 (upd (M 32) 6 (bI true))) nz U := ZC
    refine x_aload_n dX8_forget_22 rfl ?_
    refine g_R (s0_3 L) fkX8_50 rfl rfl rfl dX8_forget_23 ?_
    refine x_iload_n dX8_forget_26 rfl ?_
    refine cV1 (mj := mX4_remove) lkX8_192 okX4_remove imX4_remove seX4_remove (s0_27 L) rfl rfl rfl rfl rfl dX8_forget_27 rfl (k_remove (by omega) ZC9 htt (fun M1 y1 y2 => ?_))
    refine x_iret dX8_forget_30 rfl rfl ?_
    have hf : Fr [27, 28, 29, 30, 31, 32] M M1 := ((Fr.rf : Fr [27, 28, 29, 30, 31, 32] M M).set (k := 32) (upd (M 32) 6 (bI true)) (by decide)).trans (y1.sub (by decide))
    refine hY t htt rfl M1 (hi_of hf (by decide)) ⟨⟨X0.kept (hf 0 (by decide)) (hf 1 (by decide)), K.kept (fun q hq => hf q (by revert q; decide)) (congrFun (hf 12 (by decide)) 10), D.kept (hf 18 (by decide)) (hf 19 (by decide))⟩, SC.kept (fun q hq => hf q (by revert q; decide)), y2, RO.kept (fun q h1 h2 => hf q (by simp only [List.mem_cons, List.not_mem_nil, or_false]; omega)), LC.kept (fun q hq => hf q (by revert q; decide)), SuC.stale ?_⟩
    rw [y1 32 (by decide)]
    rfl
  · refine x_ldc kcX8_104 dX8_forget_11 ?_
    refine x_iret dX8_forget_13 rfl rfl ?_
    exact hN (k0.2 z0)
set_option maxRecDepth 100000 in
set_option maxHeartbeats 4000000 in
theorem k_explains {E : vE} {l : Launch} {Q : Option Value → vS → vM → Prop} {L : Nat} {M : vM} {w h : Nat} {ht rk : Nat → Nat} {ns : Nat} {T : Nat → vT} {ng : Nat} {G : Nat → vQ} {Rw : Nat → Nat × (Nat → Nat)} {nz : Nat} {U : Nat → vU} {O : Nat → Nat} (VV : Val w h ht rk ns T ng G Rw nz U O) (RR : RepC M w h ht rk ns T ng G Rw nz U O) {x y : Int32} (hN : ¬ (INr 0 2 x ∧ INn nz y) → Q (some (.int (-900001))) (S0 L) M) (hY : ∀ s i : Nat, (0 ≤ s ∧ s ≤ 2) → i < nz → x = nI s → y = nI i → Q (some (.int (bI (expl w h ht G (Rw s).2 (Rw s).1 rk T (U i))))) (S0 L) M) : PM E l mX8_explains 0 [.ref 3, .int x, .int y] [] (S0 L) M 0 0 Q := by
  have RR0 := RR
  obtain ⟨V, SVv, ZV, RV, OV⟩ := VV
  obtain ⟨⟨X0, K, D⟩, SC, ZC, RO, LC, SU⟩ := RR
  have H := V.1
  have e4 := H.le
  have e6 := H.pos
  have hng := V.2.2.1
  have hns := SVv.1
  have hnz := ZV.1
  refine x_iload_n dX8_explains_0 rfl ?_
  refine cS1 (mj := mX8_isSlot) lkX8_163 okX8_isSlot stX8_isSlot rfl rfl rfl rfl dX8_explains_1 rfl (k_isSlot _ (fun b0 b0h => ?_))
  have k0 := in_two (x := 0) b0h
  refine b_if_eq 18 dX8_explains_4 rfl (fun z0 => ?_) (fun z0 => ?_)
  · refine x_ldc kcX8_104 dX8_explains_18 ?_
    refine x_iret dX8_explains_20 rfl rfl ?_
    exact hN (fun z => k0.2 z0 z.1)
  · refine x_aload_n dX8_explains_7 rfl ?_
    refine g_R (s0_3 L) fkX8_50 rfl rfl rfl dX8_explains_8 ?_
    refine x_iload_n dX8_explains_11 rfl ?_
    refine cV1 (mj := mX4_has) lkX8_191 okX4_has imX4_has seX4_has (s0_27 L) rfl rfl rfl rfl rfl dX8_explains_12 rfl (k_z_has (by omega) ZC.1 _ (fun b1 b1h => ?_))
    have k1 := in_two (x := 0) b1h
    refine b_if_ne 21 dX8_explains_15 rfl (fun z1 => ?_) (fun z1 => ?_)
    · obtain ⟨s, hs, rfl⟩ := k0.1 z0
      obtain ⟨i, hi, rfl⟩ := k1.1 z1
      have hs2 : s ≤ 2 := hs.2
      have rv := RV s (by omega)
      have hl6 := rv.1.1
      have ro := RO s (by omega)
      have hRs := row_s (L := L) hs2
      have hRg := row_g (L := L) hs2
      refine x_aload_n dX8_explains_21 rfl ?_
      refine g_R (s0_3 L) fkX8_50 rfl rfl rfl dX8_explains_22 ?_
      refine x_aload_n dX8_explains_25 rfl ?_
      refine x_iload_n dX8_explains_26 rfl ?_
      refine cV1 (mj := mX8_rowOf) lkX8_166 okX8_rowOf imX8_rowOf seX8_rowOf (s0_3 L) rfl rfl rfl rfl rfl dX8_explains_27 rfl (k_rowOf (by omega) ?_)
      refine x_iload_n dX8_explains_30 rfl ?_
      refine cV2 (mj := mX4_isExplained) lkX8_195 okX4_isExplained imX4_isExplained seX4_isExplained (s0_27 L) rfl rfl rfl rfl rfl dX8_explains_31 rfl (k_isExplained V K D hRs hRg rv.1 ro.1 ro.2 SVv SC ZV ZC hi ?_)
      refine cS1 (mj := mX8_bit) lkX8_139 okX8_bit stX8_bit rfl rfl rfl rfl dX8_explains_34 rfl (c_bit _ ?_)
      refine x_as (bitI _) ?_
      refine x_iret dX8_explains_37 rfl rfl ?_
      exact hY s i hs hi rfl rfl
    · refine x_ldc kcX8_104 dX8_explains_18 ?_
      refine x_iret dX8_explains_20 rfl rfl ?_
      exact hN (fun z => k1.2 z1 z.2)
set_option maxRecDepth 100000 in
set_option maxHeartbeats 4000000 in
theorem k_costs {E : vE} {l : Launch} {Q : Option Value → vS → vM → Prop} {L : Nat} {M : vM} {w h : Nat} {ht rk : Nat → Nat} {ns : Nat} {T : Nat → vT} {ng : Nat} {G : Nat → vQ} {Rw : Nat → Nat × (Nat → Nat)} {nz : Nat} {U : Nat → vU} {O : Nat → Nat} (VV : Val w h ht rk ns T ng G Rw nz U O) (RR : RepC M w h ht rk ns T ng G Rw nz U O) {x : Int32} (hN : ¬ INr 0 2 x → Q (some (.int (-900001))) (S0 L) M) (hY : ∀ s : Nat, (0 ≤ s ∧ s ≤ 2) → x = nI s → Q (some (.int (nI (cst w h ht G (Rw s).2 (Rw s).1 rk T U nz)))) (S0 L) M) : PM E l mX8_costs 0 [.ref 3, .int x] [] (S0 L) M 0 0 Q := by
  have RR0 := RR
  obtain ⟨V, SVv, ZV, RV, OV⟩ := VV
  obtain ⟨⟨X0, K, D⟩, SC, ZC, RO, LC, SU⟩ := RR
  have H := V.1
  have e4 := H.le
  have e6 := H.pos
  have hng := V.2.2.1
  have hns := SVv.1
  have hnz := ZV.1
  refine x_iload_n dX8_costs_0 rfl ?_
  refine cS1 (mj := mX8_isSlot) lkX8_163 okX8_isSlot stX8_isSlot rfl rfl rfl rfl dX8_costs_1 rfl (k_isSlot _ (fun b0 b0h => ?_))
  have k0 := in_two (x := 0) b0h
  refine b_if_eq 22 dX8_costs_4 rfl (fun z0 => ?_) (fun z0 => ?_)
  · refine x_ldc kcX8_104 dX8_costs_22 ?_
    refine x_iret dX8_costs_24 rfl rfl ?_
    exact hN (k0.2 z0)
  · obtain ⟨s, hs, rfl⟩ := k0.1 z0
    have hs2 : s ≤ 2 := hs.2
    have rv := RV s (by omega)
    have hl6 := rv.1.1
    have ro := RO s (by omega)
    have hRs := row_s (L := L) hs2
    have hRg := row_g (L := L) hs2
    refine x_aload_n dX8_costs_7 rfl ?_
    refine g_R (s0_3 L) fkX8_50 rfl rfl rfl dX8_costs_8 ?_
    refine x_aload_n dX8_costs_11 rfl ?_
    refine x_iload_n dX8_costs_12 rfl ?_
    refine cV1 (mj := mX8_rowOf) lkX8_166 okX8_rowOf imX8_rowOf seX8_rowOf (s0_3 L) rfl rfl rfl rfl rfl dX8_costs_13 rfl (k_rowOf (by omega) ?_)
    refine cV1 (mj := mX4_costOf) lkX8_199 okX4_costOf imX4_costOf seX4_costOf (s0_27 L) rfl rfl rfl rfl rfl dX8_costs_16 rfl (k_costOf V K D hRs hRg rv.1 ro.1 ro.2 SVv SC ZV ZC ?_)
    refine x_goto 24 dX8_costs_19 rfl ?_
    refine x_iret dX8_costs_24 rfl rfl ?_
    exact hY s hs rfl
theorem RepC.new {M M1 : vM} {w h : Nat} {ht rk : Nat → Nat} {ns : Nat} {T : Nat → vT} {ng : Nat} {G : Nat → vQ} {Rw : Nat → Nat × (Nat → Nat)} {nz : Nat} {U : Nat → vU} {O : Nat → Nat} (k : RepC M w h ht rk ns T ng G Rw nz U O) (hf : Fr [32, 33, 34, 35, 36] M M1) (h1 : M1 32 6 = bI false) (h2 : CbM M1 (clO ng (fun m r => cst w h ht G r m rk T U nz) 4)) : RepC M1 w h ht rk ns T ng G Rw nz U O := by
  obtain ⟨⟨a0, a1, a2⟩, a3, a4, a5, a6, a7⟩ := k
  exact ⟨⟨a0.kept (hf 0 (by decide)) (hf 1 (by decide)), a1.kept (fun q hq => hf q (by revert q; decide)) (congrFun (hf 12 (by decide)) 10), a2.kept (hf 18 (by decide)) (hf 19 (by decide))⟩, a3.kept (fun q hq => hf q (by revert q; decide)), a4.kept (fun q hq => hf q (by revert q; decide)), a5.kept (fun q h1 h2 => hf q (by simp only [List.mem_cons, List.not_mem_nil, or_false]; omega)), a6.kept (fun q hq => hf q (by revert q; decide)), SuC.fresh h1 h2⟩
set_option maxRecDepth 100000 in
set_option maxHeartbeats 4000000 in
theorem k_renewS {E : vE} {l : Launch} {Q : Option Value → vS → vM → Prop} {L : Nat} {M : vM} {w h : Nat} {ht rk : Nat → Nat} {ns : Nat} {T : Nat → vT} {ng : Nat} {G : Nat → vQ} {Rw : Nat → Nat × (Nat → Nat)} {nz : Nat} {U : Nat → vU} {O : Nat → Nat} (VV : Val w h ht rk ns T ng G Rw nz U O) (RR : RepC M w h ht rk ns T ng G Rw nz U O) (hQ : ∀ (M1 : vM) (b : Nat × Nat × (Nat → Nat)), (∀ q, q < 3 ∨ 42 ≤ q → M1 q = M q) → RepC M1 w h ht rk ns T ng G Rw nz U O → (bsS ng (fun m r => cst w h ht G r m rk T U nz) 343).2 = some b → b.2.1 ≤ 3 → M1 32 5 = nI (bsS ng (fun m r => cst w h ht G r m rk T U nz) 343).1 → M1 32 4 = nI b.1 → M1 35 1 = nI b.2.1 → (∀ k, k < b.2.1 → M1 36 k = nI (b.2.2 k)) → Q none (S0 L) M1) : PM E l mX6_renew 0 [.ref 32, .null, .null, .null] [] (S0 L) M 0 0 Q := by
  have RR0 := RR
  obtain ⟨V, SVv, ZV, RV, OV⟩ := VV
  obtain ⟨⟨X0, K, D⟩, SC, ZC, RO, LC, SU⟩ := RR
  have H := V.1
  have e4 := H.le
  have e6 := H.pos
  have hng := V.2.2.1
  have hns := SVv.1
  have hnz := ZV.1
  obtain ⟨q1, b, b2, q2, q3, q4, q5, q6⟩ := bs_cl (cf := (fun m r => cst w h ht G r m rk T U nz)) hng (fun m r r2 hr => cst_cong hr)
  have hb3 := bsS_many _ b q2
  have fin : ∀ M1 : vM, (∀ q, q < 3 ∨ 42 ≤ q → M1 q = M q) → RepC M1 w h ht rk ns T ng G Rw nz U O → CbM M1 (clO ng (fun m r => cst w h ht G r m rk T U nz) 4) → Q none (S0 L) M1 := by
    intro M1 h1 h2 h3
    obtain ⟨c1, c2⟩ := h3
    rcases c2 with ⟨c2, -⟩ | ⟨b9, c2, -, -, c3, c4, c5⟩
    · rw [q3] at c2; cases c2
    · rw [q3] at c2
      cases c2
      refine hQ M1 b h1 h2 q2 hb3 (by rw [c1, q1]) (by rw [c3, q4]) (by rw [c4, q5]) (fun k hk => ?_)
      rw [c5 k (by rw [q5]; exact hk), q6 k hk]
  obtain ⟨st, s1, s2⟩ := SU
  refine k_renew V K D SVv SC ZV ZC s1 (fun z z2 => fin M (fun _ _ => rfl) RR0 (s2 z)) (fun M1 y1 y2 y3 y4 => fin M1 (hi_of y1 (by decide)) (RR0.new y1 y3 y4) y4)
set_option maxRecDepth 100000 in
set_option maxHeartbeats 4000000 in
theorem k_fits {E : vE} {l : Launch} {Q : Option Value → vS → vM → Prop} {L : Nat} {M : vM} {w h : Nat} {ht rk : Nat → Nat} {ns : Nat} {T : Nat → vT} {ng : Nat} {G : Nat → vQ} {Rw : Nat → Nat × (Nat → Nat)} {nz : Nat} {U : Nat → vU} {O : Nat → Nat} (VV : Val w h ht rk ns T ng G Rw nz U O) (RR : RepC M w h ht rk ns T ng G Rw nz U O) (hY : ∀ M1 : vM, (∀ q, q < 3 ∨ 42 ≤ q → M1 q = M q) → RepC M1 w h ht rk ns T ng G Rw nz U O → Q (some (.int (nI (bsS ng (fun m r => cst w h ht G r m rk T U nz) 343).1))) (S0 L) M1) : PM E l mX8_fits 0 [.ref 3] [] (S0 L) M 0 0 Q := by
  have VV9 := VV
  have RR0 := RR
  obtain ⟨V, SVv, ZV, RV, OV⟩ := VV
  obtain ⟨⟨X0, K, D⟩, SC, ZC, RO, LC, SU⟩ := RR
  have H := V.1
  have e4 := H.le
  have e6 := H.pos
  have hng := V.2.2.1
  have hns := SVv.1
  have hnz := ZV.1
  refine x_aload_n dX8_fits_0 rfl ?_
  refine g_R (s0_3 L) fkX8_59 rfl rfl rfl dX8_fits_1 ?_
  refine cV0 (mj := mX6_renew) lkX8_203 okX6_renew imX6_renew seX6_renew (s0_32 L) rfl rfl rfl rfl rfl dX8_fits_4 rfl (k_renewS VV9 RR0 (fun M1 b L1 R1 hb hb3 c1 c2 c3 c4 => ?_))
  refine x_aload_n dX8_fits_7 rfl ?_
  refine g_R (s0_3 L) fkX8_59 rfl rfl rfl dX8_fits_8 ?_
  refine g_I (s0_32 L) fkX8_206 rfl rfl dX8_fits_11 ?_
  refine x_as c1 ?_
  refine x_iret dX8_fits_14 rfl rfl ?_
  exact hY M1 L1 R1
set_option maxRecDepth 100000 in
set_option maxHeartbeats 4000000 in
theorem k_best {E : vE} {l : Launch} {Q : Option Value → vS → vM → Prop} {L : Nat} {M : vM} {w h : Nat} {ht rk : Nat → Nat} {ns : Nat} {T : Nat → vT} {ng : Nat} {G : Nat → vQ} {Rw : Nat → Nat × (Nat → Nat)} {nz : Nat} {U : Nat → vU} {O : Nat → Nat} (VV : Val w h ht rk ns T ng G Rw nz U O) (RR : RepC M w h ht rk ns T ng G Rw nz U O) (hY : ∀ b, (bsS ng (fun m r => cst w h ht G r m rk T U nz) 343).2 = some b → ∀ M1 : vM, (∀ q, q < 3 ∨ 42 ≤ q → M1 q = M q) → RepC M1 w h ht rk ns T ng G Rw nz U O → Q (some (.int (nI b.1))) (S0 L) M1) : PM E l mX8_best 0 [.ref 3] [] (S0 L) M 0 0 Q := by
  have VV9 := VV
  have RR0 := RR
  obtain ⟨V, SVv, ZV, RV, OV⟩ := VV
  obtain ⟨⟨X0, K, D⟩, SC, ZC, RO, LC, SU⟩ := RR
  have H := V.1
  have e4 := H.le
  have e6 := H.pos
  have hng := V.2.2.1
  have hns := SVv.1
  have hnz := ZV.1
  refine x_aload_n dX8_best_0 rfl ?_
  refine g_R (s0_3 L) fkX8_59 rfl rfl rfl dX8_best_1 ?_
  refine cV0 (mj := mX6_renew) lkX8_203 okX6_renew imX6_renew seX6_renew (s0_32 L) rfl rfl rfl rfl rfl dX8_best_4 rfl (k_renewS VV9 RR0 (fun M1 b L1 R1 hb hb3 c1 c2 c3 c4 => ?_))
  refine x_aload_n dX8_best_7 rfl ?_
  refine g_R (s0_3 L) fkX8_59 rfl rfl rfl dX8_best_8 ?_
  refine g_I (s0_32 L) fkX8_209 rfl rfl dX8_best_11 ?_
  refine x_as c2 ?_
  refine x_iret dX8_best_14 rfl rfl ?_
  exact hY b hb M1 L1 R1
set_option maxRecDepth 100000 in
set_option maxHeartbeats 4000000 in
theorem k_bestGo {E : vE} {l : Launch} {Q : Option Value → vS → vM → Prop} {L : Nat} {M : vM} {w h : Nat} {ht rk : Nat → Nat} {ns : Nat} {T : Nat → vT} {ng : Nat} {G : Nat → vQ} {Rw : Nat → Nat × (Nat → Nat)} {nz : Nat} {U : Nat → vU} {O : Nat → Nat} (VV : Val w h ht rk ns T ng G Rw nz U O) (RR : RepC M w h ht rk ns T ng G Rw nz U O) {x : Int32} (hO : ∀ b, (bsS ng (fun m r => cst w h ht G r m rk T U nz) 343).2 = some b → ¬ INn b.2.1 x → ∀ M1 : vM, (∀ q, q < 3 ∨ 42 ≤ q → M1 q = M q) → RepC M1 w h ht rk ns T ng G Rw nz U O → Q (some (.int (-900009))) (S0 L) M1) (hY : ∀ b, (bsS ng (fun m r => cst w h ht G r m rk T U nz) 343).2 = some b → ∀ j : Nat, j < b.2.1 → x = nI j → ∀ M1 : vM, (∀ q, q < 3 ∨ 42 ≤ q → M1 q = M q) → RepC M1 w h ht rk ns T ng G Rw nz U O → Q (some (.int (nI (b.2.2 j)))) (S0 L) M1) : PM E l mX8_bestGo 0 [.ref 3, .int x] [] (S0 L) M 0 0 Q := by
  have VV9 := VV
  have RR0 := RR
  obtain ⟨V, SVv, ZV, RV, OV⟩ := VV
  obtain ⟨⟨X0, K, D⟩, SC, ZC, RO, LC, SU⟩ := RR
  have H := V.1
  have e4 := H.le
  have e6 := H.pos
  have hng := V.2.2.1
  have hns := SVv.1
  have hnz := ZV.1
  refine x_aload_n dX8_bestGo_0 rfl ?_
  refine g_R (s0_3 L) fkX8_59 rfl rfl rfl dX8_bestGo_1 ?_
  refine cV0 (mj := mX6_renew) lkX8_203 okX6_renew imX6_renew seX6_renew (s0_32 L) rfl rfl rfl rfl rfl dX8_bestGo_4 rfl (k_renewS VV9 RR0 (fun M1 b L1 R1 hb hb3 c1 c2 c3 c4 => ?_))
  refine x_aload_n dX8_bestGo_7 rfl ?_
  refine g_R (s0_3 L) fkX8_59 rfl rfl rfl dX8_bestGo_8 ?_
  refine g_R (s0_32 L) fkX8_212 rfl rfl rfl dX8_bestGo_11 ?_
  refine x_iload_n dX8_bestGo_14 rfl ?_
  refine cV1 (mj := mX3_at) lkX8_175 okX3_at imX3_at seX3_at (s0_35 L) rfl rfl rfl rfl rfl dX8_bestGo_15 rfl (k_rowAt (s0_35 L) (s0_36 L) (by omega) c3 c4 (fun z1 => ?_) (fun j hj e9 => ?_))
  skip
  · skip
    refine x_iret dX8_bestGo_18 rfl rfl ?_
    exact hO b hb z1 M1 L1 R1
  · skip
    refine x_iret dX8_bestGo_18 rfl rfl ?_
    exact hY b hb j hj e9 M1 L1 R1
set_option maxRecDepth 100000 in
set_option maxHeartbeats 4000000 in
theorem k_take {E : vE} {l : Launch} {Q : Option Value → vS → vM → Prop} {L : Nat} {M : vM} {w h : Nat} {ht rk : Nat → Nat} {ns : Nat} {T : Nat → vT} {ng : Nat} {G : Nat → vQ} {Rw : Nat → Nat × (Nat → Nat)} {nz : Nat} {U : Nat → vU} {O : Nat → Nat} (VV : Val w h ht rk ns T ng G Rw nz U O) (RR : RepC M w h ht rk ns T ng G Rw nz U O) {x : Int32} (hN : ¬ INr 0 2 x → Q (some (.int (-900001))) (S0 L) M) (hY : ∀ s : Nat, (0 ≤ s ∧ s ≤ 2) → x = nI s → ∀ b, (bsS ng (fun m r => cst w h ht G r m rk T U nz) 343).2 = some b → ∀ M1 : vM, (∀ q, q < 3 ∨ 42 ≤ q → M1 q = M q) → RepC M1 w h ht rk ns T ng G (setRow Rw s b.2) nz U O → Q (some (.int (nI b.2.1))) (S0 L) M1) : PM E l mX8_take 0 [.ref 3, .int x, .null] [] (S0 L) M 0 0 Q := by
  have VV9 := VV
  have RR0 := RR
  obtain ⟨V, SVv, ZV, RV, OV⟩ := VV
  obtain ⟨⟨X0, K, D⟩, SC, ZC, RO, LC, SU⟩ := RR
  have H := V.1
  have e4 := H.le
  have e6 := H.pos
  have hng := V.2.2.1
  have hns := SVv.1
  have hnz := ZV.1
  refine x_iload_n dX8_take_0 rfl ?_
  refine cS1 (mj := mX8_isSlot) lkX8_163 okX8_isSlot stX8_isSlot rfl rfl rfl rfl dX8_take_1 rfl (k_isSlot _ (fun b0 b0h => ?_))
  have k0 := in_two (x := 0) b0h
  refine b_if_ne 10 dX8_take_4 rfl (fun z0 => ?_) (fun z0 => ?_)
  · obtain ⟨s, hs, rfl⟩ := k0.1 z0
    have hs2 : s ≤ 2 := hs.2
    have hRs := row_s (L := L) hs2
    have hRg := row_g (L := L) hs2
    refine x_aload_n dX8_take_10 rfl ?_
    refine g_R (s0_3 L) fkX8_59 rfl rfl rfl dX8_take_11 ?_
    refine cV0 (mj := mX6_renew) lkX8_203 okX6_renew imX6_renew seX6_renew (s0_32 L) rfl rfl rfl rfl rfl dX8_take_14 rfl (k_renewS VV9 RR0 (fun M1 b L1 R1 hb hb3 c1 c2 c3 c4 => ?_))
    refine x_aload_n dX8_take_17 rfl ?_
    refine x_iload_n dX8_take_18 rfl ?_
    refine cV1 (mj := mX8_rowOf) lkX8_166 okX8_rowOf imX8_rowOf seX8_rowOf (s0_3 L) rfl rfl rfl rfl rfl dX8_take_19 rfl (k_rowOf (by omega) ?_)
    refine x_astore_n dX8_take_22 (by decide) rfl ?_
    refine x_aload_n dX8_take_23 rfl ?_
    refine x_aload_n dX8_take_24 rfl ?_
    refine g_R (s0_3 L) fkX8_59 rfl rfl rfl dX8_take_25 ?_
    refine g_R (s0_32 L) fkX8_212 rfl rfl rfl dX8_take_28 ?_
    refine cV1 (mj := mX3_copy) lkX8_215 okX3_copy imX3_copy seX3_copy hRs rfl rfl rfl rfl rfl dX8_take_31 rfl (k_rowCopy hRs hRg (s0_35 L) (s0_36 L) row_b rfl ?_)
    refine x_aload_n dX8_take_34 rfl ?_
    refine g_I hRs fkX8_94 rfl rfl dX8_take_35 ?_
    refine x_as (show _ = nI b.2.1 from by rw [sM_ne _ _ _ (by omega), sM_at, upd_at]; exact c3) ?_
    refine x_iret dX8_take_38 rfl rfl ?_
    have hf : Fr [21 + 2 * s, 22 + 2 * s] M1 _ := (Fr.rf.set (k := 21 + 2 * s) (upd (M1 (21 + 2 * s)) 1 (M1 35 1)) (by simp)).set (k := 22 + 2 * s) (va_cpy (sM M1 (21 + 2 * s) (upd (M1 (21 + 2 * s)) 1 (M1 35 1)) 36) (sM M1 (21 + 2 * s) (upd (M1 (21 + 2 * s)) 1 (M1 35 1)) (22 + 2 * s)) (nI 0).toNatClampNeg (nI 0).toNatClampNeg (nI 6).toNatClampNeg) (by simp)
    refine hY s hs rfl b hb _ (fun q hq => (hi_row hs2 hf q hq).trans (L1 q hq)) (R1.row hs2 hf ?_ (fun k hk => ?_))
    · rw [sM_ne _ _ _ (by omega), sM_at, upd_at]; exact c3
    · rw [sM_at]
      refine (pk_cpy_in (Nat.zero_le _) (show k < 0 + 6 by omega)).trans ?_
      rw [show (nI 0).toNatClampNeg + (k - 0) = k from Nat.zero_add k, sM_ne _ _ _ (by omega)]
      exact c4 k hk
  · refine x_ldc kcX8_104 dX8_take_7 ?_
    refine x_iret dX8_take_9 rfl rfl ?_
    exact hN (k0.2 z0)
set_option maxRecDepth 100000 in
set_option maxHeartbeats 4000000 in
theorem k_unlike {E : vE} {l : Launch} {Q : Option Value → vS → vM → Prop} {L : Nat} {M : vM} {w h : Nat} {ht rk : Nat → Nat} {ns : Nat} {T : Nat → vT} {ng : Nat} {G : Nat → vQ} {Rw : Nat → Nat × (Nat → Nat)} {nz : Nat} {U : Nat → vU} {O : Nat → Nat} (VV : Val w h ht rk ns T ng G Rw nz U O) (RR : RepC M w h ht rk ns T ng G Rw nz U O) {x y : Int32} (hN : ¬ (INr 0 2 x ∧ INr 0 2 y) → Q (some (.int (-900001))) (S0 L) M) (hY : ∀ s t : Nat, (0 ≤ s ∧ s ≤ 2) → (0 ≤ t ∧ t ≤ 2) → x = nI s → y = nI t → Q (some (.int (nI (ctt (fun k => decide ((thg w h ht G (Rw s).2 (Rw s).1 (k / 7) (k % 7)) ≠ (thg w h ht G (Rw t).2 (Rw t).1 (k / 7) (k % 7)))) (7 * (w * h)))))) (S0 L) M) : PM E l mX8_unlike 0 [.ref 3, .int x, .int y, .null, .null, .null, .null] [] (S0 L) M 0 0 Q := by
  have RR0 := RR
  obtain ⟨V, SVv, ZV, RV, OV⟩ := VV
  obtain ⟨⟨X0, K, D⟩, SC, ZC, RO, LC, SU⟩ := RR
  have H := V.1
  have e4 := H.le
  have e6 := H.pos
  have hng := V.2.2.1
  have hns := SVv.1
  have hnz := ZV.1
  refine x_iload_n dX8_unlike_0 rfl ?_
  refine cS1 (mj := mX8_isSlot) lkX8_163 okX8_isSlot stX8_isSlot rfl rfl rfl rfl dX8_unlike_1 rfl (k_isSlot _ (fun b0 b0h => ?_))
  have k0 := in_two (x := 0) b0h
  refine b_if_eq 14 dX8_unlike_4 rfl (fun z0 => ?_) (fun z0 => ?_)
  · refine x_ldc kcX8_104 dX8_unlike_14 ?_
    refine x_iret dX8_unlike_16 rfl rfl ?_
    exact hN (fun z => k0.2 z0 z.1)
  · refine x_iload_n dX8_unlike_7 rfl ?_
    refine cS1 (mj := mX8_isSlot) lkX8_163 okX8_isSlot stX8_isSlot rfl rfl rfl rfl dX8_unlike_8 rfl (k_isSlot _ (fun b1 b1h => ?_))
    have k1 := in_two (x := 0) b1h
    refine b_if_ne 17 dX8_unlike_11 rfl (fun z1 => ?_) (fun z1 => ?_)
    · obtain ⟨s, hs, rfl⟩ := k0.1 z0
      obtain ⟨t, htt, rfl⟩ := k1.1 z1
      have hs2 : s ≤ 2 := hs.2
      have rv := RV s (by omega)
      have hl6 := rv.1.1
      have ro := RO s (by omega)
      have hRs := row_s (L := L) hs2
      have hRg := row_g (L := L) hs2
      have ht2 : t ≤ 2 := htt.2
      have rv2 := RV t (by omega)
      have hl62 := rv2.1.1
      have ro2 := RO t (by omega)
      have hRs2 := row_s (L := L) ht2
      have hRg2 := row_g (L := L) ht2
      refine x_aload_n dX8_unlike_17 rfl ?_
      refine x_iload_n dX8_unlike_18 rfl ?_
      refine cV1 (mj := mX8_rowOf) lkX8_166 okX8_rowOf imX8_rowOf seX8_rowOf (s0_3 L) rfl rfl rfl rfl rfl dX8_unlike_19 rfl (k_rowOf (by omega) ?_)
      refine x_astore_n dX8_unlike_22 (by decide) rfl ?_
      refine x_aload_n dX8_unlike_23 rfl ?_
      refine x_iload_n dX8_unlike_24 rfl ?_
      refine cV1 (mj := mX8_rowOf) lkX8_166 okX8_rowOf imX8_rowOf seX8_rowOf (s0_3 L) rfl rfl rfl rfl rfl dX8_unlike_25 rfl (k_rowOf (by omega) ?_)
      refine x_astore dX8_unlike_28 (by decide) rfl ?_
      refine x_iconst dX8_unlike_30 iconst_0 ?_
      refine x_istore dX8_unlike_31 (by decide) rfl ?_
      refine x_iconst dX8_unlike_33 iconst_0 ?_
      refine x_istore dX8_unlike_34 (by decide) rfl ?_
      have l1 : PM E l mX8_unlike 36 [.ref 3, .int (nI s), .int (nI t), .ref (21 + 2 * s), .ref (21 + 2 * t), .int (nI (ctt (fun k => decide ((thg w h ht G (Rw s).2 (Rw s).1 (k / 7) (k % 7)) ≠ (thg w h ht G (Rw t).2 (Rw t).1 (k / 7) (k % 7)))) 0)), .int (nI 0)] [] (S0 L) M 0 0 Q := by
        refine lp_up (P := fun i => PM E l mX8_unlike 36 [.ref 3, .int (nI s), .int (nI t), .ref (21 + 2 * s), .ref (21 + 2 * t), .int (nI (ctt (fun k => decide ((thg w h ht G (Rw s).2 (Rw s).1 (k / 7) (k % 7)) ≠ (thg w h ht G (Rw t).2 (Rw t).1 (k / 7) (k % 7)))) i)), .int (nI i)] [] (S0 L) M 0 0 Q) (7 * (w * h)) ?_ ?_ 0 (by omega)
        · skip
          refine x_iload dX8_unlike_36 rfl ?_
          refine x_aload_n dX8_unlike_38 rfl ?_
          refine g_R (s0_3 L) fkX8_10 rfl rfl rfl dX8_unlike_39 ?_
          refine g_I (s0_4 L) fkX8_99 rfl rfl dX8_unlike_42 ?_
          refine x_as K.1.1 ?_
          refine x_bipush dX8_unlike_45 bipush_7 ?_
          refine n_imul dX8_unlike_47 ?_
          rw [Nat.mul_comm (w * h) 7]
          refine n_icmp_ge 85 dX8_unlike_48 rfl (by omega) (by omega) (fun h1 => ?_) (fun h1 => by omega)
          refine x_iload dX8_unlike_85 rfl ?_
          refine x_iret dX8_unlike_87 rfl rfl ?_
          exact hY s t hs htt rfl rfl
        · intro i hi ih
          refine x_iload dX8_unlike_36 rfl ?_
          refine x_aload_n dX8_unlike_38 rfl ?_
          refine g_R (s0_3 L) fkX8_10 rfl rfl rfl dX8_unlike_39 ?_
          refine g_I (s0_4 L) fkX8_99 rfl rfl dX8_unlike_42 ?_
          refine x_as K.1.1 ?_
          refine x_bipush dX8_unlike_45 bipush_7 ?_
          refine n_imul dX8_unlike_47 ?_
          rw [Nat.mul_comm (w * h) 7]
          refine n_icmp_ge 85 dX8_unlike_48 rfl (by omega) (by omega) (fun h1 => by omega) (fun h1 => ?_)
          refine x_iload dX8_unlike_51 rfl ?_
          refine x_aload_n dX8_unlike_53 rfl ?_
          refine g_R (s0_3 L) fkX8_50 rfl rfl rfl dX8_unlike_54 ?_
          refine x_aload_n dX8_unlike_57 rfl ?_
          refine x_aload dX8_unlike_58 rfl ?_
          refine x_iload dX8_unlike_60 rfl ?_
          refine x_bipush dX8_unlike_62 bipush_7 ?_
          refine n_idiv dX8_unlike_64 (by omega) (by omega) (by omega) ?_
          refine x_iload dX8_unlike_65 rfl ?_
          refine x_bipush dX8_unlike_67 bipush_7 ?_
          refine n_irem dX8_unlike_69 (by omega) (by omega) (by omega) ?_
          refine cV4 (mj := mX4_tellApart) lkX8_219 okX4_tellApart imX4_tellApart seX4_tellApart (s0_27 L) rfl rfl rfl rfl rfl dX8_unlike_70 rfl (k_tellApart V K D hRs hRg rv.1 ro.1 ro.2 SVv SC hRs2 hRg2 rv2.1 ro2.1 ro2.2 (c := i / 7) (t := i % 7) (Nat.div_lt_of_lt_mul hi) (Nat.mod_lt _ (by omega)) ?_)
          refine cS1 (mj := mX8_bit) lkX8_139 okX8_bit stX8_bit rfl rfl rfl rfl dX8_unlike_73 rfl (c_bit _ ?_)
          refine n_iadd dX8_unlike_76 ?_
          refine x_istore dX8_unlike_77 (by decide) rfl ?_
          refine n_inc dX8_unlike_79 rfl rfl ?_
          refine x_goto 36 dX8_unlike_82 rfl ?_
          exact ih
      exact l1
    · refine x_ldc kcX8_104 dX8_unlike_14 ?_
      refine x_iret dX8_unlike_16 rfl rfl ?_
      exact hN (fun z => k1.2 z1 z.2)
set_option maxRecDepth 100000 in
set_option maxHeartbeats 4000000 in
theorem k_look {E : vE} {l : Launch} {Q : Option Value → vS → vM → Prop} {L : Nat} {M : vM} {w h : Nat} {ht rk : Nat → Nat} {ns : Nat} {T : Nat → vT} {ng : Nat} {G : Nat → vQ} {Rw : Nat → Nat × (Nat → Nat)} {nz : Nat} {U : Nat → vU} {O : Nat → Nat} (VV : Val w h ht rk ns T ng G Rw nz U O) (RR : RepC M w h ht rk ns T ng G Rw nz U O) {x y v : Int32} (hN : ¬ (INr 0 2 x ∧ INr 0 2 y) → Q (some (.int (-900001))) (S0 L) M) (hY : ∀ s t : Nat, (0 ≤ s ∧ s ≤ 2) → (0 ≤ t ∧ t ≤ 2) → x = nI s → y = nI t → Q (some (.int (lookA (fnd (fun k => decide ((thg w h ht G (Rw s).2 (Rw s).1 (k / 7) (k % 7)) ≠ (thg w h ht G (Rw t).2 (Rw t).1 (k / 7) (k % 7)))) v (7 * (w * h)))))) (S0 L) M) : PM E l mX8_look 0 [.ref 3, .int x, .int y, .int v, .null, .null, .null, .null] [] (S0 L) M 0 0 Q := by
  have RR0 := RR
  obtain ⟨V, SVv, ZV, RV, OV⟩ := VV
  obtain ⟨⟨X0, K, D⟩, SC, ZC, RO, LC, SU⟩ := RR
  have H := V.1
  have e4 := H.le
  have e6 := H.pos
  have hng := V.2.2.1
  have hns := SVv.1
  have hnz := ZV.1
  refine x_iload_n dX8_look_0 rfl ?_
  refine cS1 (mj := mX8_isSlot) lkX8_163 okX8_isSlot stX8_isSlot rfl rfl rfl rfl dX8_look_1 rfl (k_isSlot _ (fun b0 b0h => ?_))
  have k0 := in_two (x := 0) b0h
  refine b_if_eq 14 dX8_look_4 rfl (fun z0 => ?_) (fun z0 => ?_)
  · refine x_ldc kcX8_104 dX8_look_14 ?_
    refine x_iret dX8_look_16 rfl rfl ?_
    exact hN (fun z => k0.2 z0 z.1)
  · refine x_iload_n dX8_look_7 rfl ?_
    refine cS1 (mj := mX8_isSlot) lkX8_163 okX8_isSlot stX8_isSlot rfl rfl rfl rfl dX8_look_8 rfl (k_isSlot _ (fun b1 b1h => ?_))
    have k1 := in_two (x := 0) b1h
    refine b_if_ne 17 dX8_look_11 rfl (fun z1 => ?_) (fun z1 => ?_)
    · obtain ⟨s, hs, rfl⟩ := k0.1 z0
      obtain ⟨t, htt, rfl⟩ := k1.1 z1
      have hs2 : s ≤ 2 := hs.2
      have rv := RV s (by omega)
      have hl6 := rv.1.1
      have ro := RO s (by omega)
      have hRs := row_s (L := L) hs2
      have hRg := row_g (L := L) hs2
      have ht2 : t ≤ 2 := htt.2
      have rv2 := RV t (by omega)
      have hl62 := rv2.1.1
      have ro2 := RO t (by omega)
      have hRs2 := row_s (L := L) ht2
      have hRg2 := row_g (L := L) ht2
      refine x_aload_n dX8_look_17 rfl ?_
      refine x_iload_n dX8_look_18 rfl ?_
      refine cV1 (mj := mX8_rowOf) lkX8_166 okX8_rowOf imX8_rowOf seX8_rowOf (s0_3 L) rfl rfl rfl rfl rfl dX8_look_19 rfl (k_rowOf (by omega) ?_)
      refine x_astore dX8_look_22 (by decide) rfl ?_
      refine x_aload_n dX8_look_24 rfl ?_
      refine x_iload_n dX8_look_25 rfl ?_
      refine cV1 (mj := mX8_rowOf) lkX8_166 okX8_rowOf imX8_rowOf seX8_rowOf (s0_3 L) rfl rfl rfl rfl rfl dX8_look_26 rfl (k_rowOf (by omega) ?_)
      refine x_astore dX8_look_29 (by decide) rfl ?_
      refine x_iconst dX8_look_31 iconst_0 ?_
      refine x_istore dX8_look_32 (by decide) rfl ?_
      refine x_iconst dX8_look_34 iconst_0 ?_
      refine x_istore dX8_look_35 (by decide) rfl ?_
      have l1 : fnd (fun k => decide ((thg w h ht G (Rw s).2 (Rw s).1 (k / 7) (k % 7)) ≠ (thg w h ht G (Rw t).2 (Rw t).1 (k / 7) (k % 7)))) v 0 = none → PM E l mX8_look 37 [.ref 3, .int (nI s), .int (nI t), .int v, .ref (21 + 2 * s), .ref (21 + 2 * t), .int (nI (ctt (fun k => decide ((thg w h ht G (Rw s).2 (Rw s).1 (k / 7) (k % 7)) ≠ (thg w h ht G (Rw t).2 (Rw t).1 (k / 7) (k % 7)))) 0)), .int (nI 0)] [] (S0 L) M 0 0 Q := by
        refine lp_up (P := fun i => fnd (fun k => decide ((thg w h ht G (Rw s).2 (Rw s).1 (k / 7) (k % 7)) ≠ (thg w h ht G (Rw t).2 (Rw t).1 (k / 7) (k % 7)))) v i = none → PM E l mX8_look 37 [.ref 3, .int (nI s), .int (nI t), .int v, .ref (21 + 2 * s), .ref (21 + 2 * t), .int (nI (ctt (fun k => decide ((thg w h ht G (Rw s).2 (Rw s).1 (k / 7) (k % 7)) ≠ (thg w h ht G (Rw t).2 (Rw t).1 (k / 7) (k % 7)))) i)), .int (nI i)] [] (S0 L) M 0 0 Q) (7 * (w * h)) ?_ ?_ 0 (by omega)
        · intro g1
          refine x_iload dX8_look_37 rfl ?_
          refine x_aload_n dX8_look_39 rfl ?_
          refine g_R (s0_3 L) fkX8_10 rfl rfl rfl dX8_look_40 ?_
          refine g_I (s0_4 L) fkX8_99 rfl rfl dX8_look_43 ?_
          refine x_as K.1.1 ?_
          refine x_bipush dX8_look_46 bipush_7 ?_
          refine n_imul dX8_look_48 ?_
          rw [Nat.mul_comm (w * h) 7]
          refine n_icmp_ge 106 dX8_look_49 rfl (by omega) (by omega) (fun h1 => ?_) (fun h1 => by omega)
          refine x_ldc kcX8_150 dX8_look_106 ?_
          refine x_iret dX8_look_108 rfl rfl ?_
          have h9 := hY s t hs htt rfl rfl
          rw [g1] at h9
          exact h9
        · intro i hi ih g1
          refine x_iload dX8_look_37 rfl ?_
          refine x_aload_n dX8_look_39 rfl ?_
          refine g_R (s0_3 L) fkX8_10 rfl rfl rfl dX8_look_40 ?_
          refine g_I (s0_4 L) fkX8_99 rfl rfl dX8_look_43 ?_
          refine x_as K.1.1 ?_
          refine x_bipush dX8_look_46 bipush_7 ?_
          refine n_imul dX8_look_48 ?_
          rw [Nat.mul_comm (w * h) 7]
          refine n_icmp_ge 106 dX8_look_49 rfl (by omega) (by omega) (fun h1 => by omega) (fun h1 => ?_)
          refine x_aload_n dX8_look_52 rfl ?_
          refine g_R (s0_3 L) fkX8_50 rfl rfl rfl dX8_look_53 ?_
          refine x_aload dX8_look_56 rfl ?_
          refine x_aload dX8_look_58 rfl ?_
          refine x_iload dX8_look_60 rfl ?_
          refine x_bipush dX8_look_62 bipush_7 ?_
          refine n_idiv dX8_look_64 (by omega) (by omega) (by omega) ?_
          refine x_iload dX8_look_65 rfl ?_
          refine x_bipush dX8_look_67 bipush_7 ?_
          refine n_irem dX8_look_69 (by omega) (by omega) (by omega) ?_
          refine cV4 (mj := mX4_tellApart) lkX8_219 okX4_tellApart imX4_tellApart seX4_tellApart (s0_27 L) rfl rfl rfl rfl rfl dX8_look_70 rfl (k_tellApart V K D hRs hRg rv.1 ro.1 ro.2 SVv SC hRs2 hRg2 rv2.1 ro2.1 ro2.2 (c := i / 7) (t := i % 7) (Nat.div_lt_of_lt_mul hi) (Nat.mod_lt _ (by omega)) ?_)
          refine b_if_eq 100 dX8_look_73 rfl (fun z2 => ?_) (fun z2 => ?_)
          · refine n_inc dX8_look_100 rfl rfl ?_
            refine x_goto 37 dX8_look_103 rfl ?_
            have ih2 := ih (fnd_no g1 (fun z => by rw [z2] at z; cases z.1))
            rw [show ctt (fun k => decide ((thg w h ht G (Rw s).2 (Rw s).1 (k / 7) (k % 7)) ≠ (thg w h ht G (Rw t).2 (Rw t).1 (k / 7) (k % 7)))) (i + 1) = ctt (fun k => decide ((thg w h ht G (Rw s).2 (Rw s).1 (k / 7) (k % 7)) ≠ (thg w h ht G (Rw t).2 (Rw t).1 (k / 7) (k % 7)))) i + 0 from by show ctt (fun k => decide ((thg w h ht G (Rw s).2 (Rw s).1 (k / 7) (k % 7)) ≠ (thg w h ht G (Rw t).2 (Rw t).1 (k / 7) (k % 7)))) i + (if (fun k => decide ((thg w h ht G (Rw s).2 (Rw s).1 (k / 7) (k % 7)) ≠ (thg w h ht G (Rw t).2 (Rw t).1 (k / 7) (k % 7)))) i then 1 else 0) = _; rw [show (fun k => decide ((thg w h ht G (Rw s).2 (Rw s).1 (k / 7) (k % 7)) ≠ (thg w h ht G (Rw t).2 (Rw t).1 (k / 7) (k % 7)))) i = false from z2]; rfl] at ih2
            exact ih2
          · refine x_iload dX8_look_76 rfl ?_
            refine x_iload_n dX8_look_78 rfl ?_
            refine x_icmp_ne 97 dX8_look_79 rfl (fun z3 => ?_) (fun z3 => ?_)
            · refine n_inc dX8_look_97 rfl rfl ?_
              refine n_inc dX8_look_100 rfl rfl ?_
              refine x_goto 37 dX8_look_103 rfl ?_
              have ih2 := ih (fnd_no g1 (fun z => z3 z.2))
              rw [show ctt (fun k => decide ((thg w h ht G (Rw s).2 (Rw s).1 (k / 7) (k % 7)) ≠ (thg w h ht G (Rw t).2 (Rw t).1 (k / 7) (k % 7)))) (i + 1) = ctt (fun k => decide ((thg w h ht G (Rw s).2 (Rw s).1 (k / 7) (k % 7)) ≠ (thg w h ht G (Rw t).2 (Rw t).1 (k / 7) (k % 7)))) i + 1 from by show ctt (fun k => decide ((thg w h ht G (Rw s).2 (Rw s).1 (k / 7) (k % 7)) ≠ (thg w h ht G (Rw t).2 (Rw t).1 (k / 7) (k % 7)))) i + (if (fun k => decide ((thg w h ht G (Rw s).2 (Rw s).1 (k / 7) (k % 7)) ≠ (thg w h ht G (Rw t).2 (Rw t).1 (k / 7) (k % 7)))) i then 1 else 0) = _; rw [show (fun k => decide ((thg w h ht G (Rw s).2 (Rw s).1 (k / 7) (k % 7)) ≠ (thg w h ht G (Rw t).2 (Rw t).1 (k / 7) (k % 7)))) i = true from z2]; rfl] at ih2
              exact ih2
            · refine x_bipush dX8_look_82 bipush_10 ?_
              refine x_iload dX8_look_84 rfl ?_
              refine x_bipush dX8_look_86 bipush_7 ?_
              refine n_idiv dX8_look_88 (by omega) (by omega) (by omega) ?_
              refine n_imul dX8_look_89 ?_
              refine x_iload dX8_look_90 rfl ?_
              refine x_bipush dX8_look_92 bipush_7 ?_
              refine n_irem dX8_look_94 (by omega) (by omega) (by omega) ?_
              refine n_iadd dX8_look_95 ?_
              refine x_iret dX8_look_96 rfl rfl ?_
              have h9 := hY s t hs htt rfl rfl
              rw [show 7 * (w * h) = i + 1 + (7 * (w * h) - (i + 1)) from by omega, fnd_yes g1 ⟨z2, z3⟩] at h9
              exact h9
      exact l1 rfl
    · refine x_ldc kcX8_104 dX8_look_14 ?_
      refine x_iret dX8_look_16 rfl rfl ?_
      exact hN (fun z => k1.2 z1 z.2)

theorem RepM.scr {M M1 : vM} {w h : Nat} {ht rk : Nat → Nat} {ns : Nat} {T : Nat → vT} {ng : Nat} {G : Nat → vQ} {Rw : Nat → Nat × (Nat → Nat)} {nz : Nat} {U : Nat → vU} {O : Nat → Nat} {ks : List Nat} (k : RepM M w h ht rk ns T ng G Rw nz U O) (hf : Fr ks M M1) (hk : ∀ q ∈ ks, q = 42 ∨ q = 53 ∨ q = 54 ∨ q = 57 ∨ q = 62 ∨ q = 63 ∨ q = 64 ∨ q = 66) (e2 : ∀ j ∈ [0, 1, 4, 8, 20], M1 42 j = M 42 j) : RepM M1 w h ht rk ns T ng G Rw nz U O := by
  refine k.kept (fun q a1 a2 a3 a4 a5 a6 a7 a8 => hf q (fun z => ?_)) e2
  have := hk q z
  omega
theorem low_of {M M1 : vM} {ks : List Nat} (hf : Fr ks M M1) (hk : ∀ q ∈ ks, 42 ≤ q) : ∀ q, q < 42 → M1 q = M q := fun q hq => hf q (fun z => by have := hk q z; omega)
theorem bI_of {b : Bool} {v : Int32} (h : (b = true ∧ v = 1) ∨ (b = false ∧ v = 0)) : v = bI b := by
  rcases h with ⟨rfl, rfl⟩ | ⟨rfl, rfl⟩ <;> rfl
theorem tab_out {a b : Nat} (hb : b < 2 ^ 31 - 1) {x : Int32} (h : ¬ INr a b x) : x.toInt < (a : Int) ∨ (b : Int) < x.toInt := by
  rcases Int.lt_or_le x.toInt (a : Int) with h1 | h1
  · exact Or.inl h1
  · rcases Int.lt_or_le (b : Int) x.toInt with h2 | h2
    · exact Or.inr h2
    · exfalso
      have h3 : ¬ x < 0 := fun z => by have := Int32.lt_iff_toInt_lt.mp z; have e : (0 : Int32).toInt = 0 := by decide
                                       omega
      obtain ⟨j, hj, rfl⟩ := nI_of h3
      rw [nI_toInt hj] at h1 h2
      exact h ⟨j, ⟨by omega, by omega⟩, rfl⟩
set_option maxRecDepth 100000 in
set_option maxHeartbeats 4000000 in
theorem m_ice {E : vE} {l : Launch} {Q : Option Value → vS → vM → Prop} {L : Nat} {M : vM} {w h : Nat} {ht rk : Nat → Nat} {ns : Nat} {T : Nat → vT} {ng : Nat} {G : Nat → vQ} {Rw : Nat → Nat × (Nat → Nat)} {nz : Nat} {U : Nat → vU} {O : Nat → Nat} (VV : Val w h ht rk ns T ng G Rw nz U O) (RR : RepM M w h ht rk ns T ng G Rw nz U O) {x y v u : Int32} (hN : ¬ INn (w * h) x → Q (some (.int (-900001))) (S0 L) M) (hO : INn (w * h) x → ¬ (INr 1 199 y ∧ INr 1 20 v ∧ INr 0 20 u) → Q (some (.int (-900002))) (S0 L) M) (hF : ∀ j t f n : Nat, j < w * h → (1 ≤ t ∧ t ≤ 199) → (1 ≤ f ∧ f ≤ 20) → (0 ≤ n ∧ n ≤ 20) → x = nI j → y = nI t → v = nI f → u = nI n → ng = 6 → Q (some (.int (-900004))) (S0 L) M) (hY : ∀ j t f n : Nat, j < w * h → (1 ≤ t ∧ t ≤ 199) → (1 ≤ f ∧ f ≤ 20) → (0 ≤ n ∧ n ≤ 20) → x = nI j → y = nI t → v = nI f → u = nI n → ng < 6 → ∀ M1 : vM, (∀ q, q < 42 → M1 q = M q) → RepM M1 w h ht rk ns T (ng + 1) (fun g => if g = ng then (true, j, t, f, n) else G g) Rw nz U O → Q (some (.int (nI ng))) (S0 L) M1) : PM E l mX9_ice 0 [.ref 42, .int x, .int y, .int v, .int u] [] (S0 L) M 0 0 Q := by
  obtain ⟨V, SVv, ZV, RV, OV⟩ := VV
  obtain ⟨K, SM, ZM, RO, OM⟩ := RR
  have H := V.1
  have e4 := H.le
  have e6 := H.pos
  have hng := V.2.2.1
  have hns := SVv.1
  have hnz := ZV.1
  refine x_aload_n dX9_ice_0 rfl ?_
  refine x_iload_n dX9_ice_1 rfl ?_
  refine cV1 (mj := mX9_isCell) lkX9_118 okX9_isCell imX9_isCell seX9_isCell (s0_42 L) rfl rfl rfl rfl rfl dX9_ice_2 rfl (m_isCell (by omega) K.1 K.2.1 _ (fun b0 b0h => ?_))
  have k0 := in_two (x := 0) b0h
  refine b_if_ne 11 dX9_ice_5 rfl (fun z0 => ?_) (fun z0 => ?_)
  · refine x_iload_n dX9_ice_11 rfl ?_
    refine x_i2l dX9_ice_12 ?_
    refine x_lconst dX9_ice_13 rfl ?_
    refine x_ldc2 klX9_135 dX9_ice_14 ?_
    refine cS3 (mj := mX9_in) lkX9_107 okX9_in stX9_in rfl rfl rfl rfl dX9_ice_17 rfl (c_in _ _ _ (fun b1 b1h => ?_))
    have k1 := in_two (x := 0) (b1h.trans (in_r64 (a := 1) (b := 199) (by decide) (by decide) (by omega) (by omega) _))
    refine b_if_eq 48 dX9_ice_20 rfl (fun z1 => ?_) (fun z1 => ?_)
    · refine x_ldc kcX9_117 dX9_ice_48 ?_
      refine x_iret dX9_ice_50 rfl rfl ?_
      exact hO (k0.1 z0) (fun z => k1.2 z1 z.1)
    · refine x_iload_n dX9_ice_23 rfl ?_
      refine x_i2l dX9_ice_24 ?_
      refine x_lconst dX9_ice_25 rfl ?_
      refine x_ldc2 klX9_137 dX9_ice_26 ?_
      refine cS3 (mj := mX9_in) lkX9_107 okX9_in stX9_in rfl rfl rfl rfl dX9_ice_29 rfl (c_in _ _ _ (fun b2 b2h => ?_))
      have k2 := in_two (x := 0) (b2h.trans (in_r64 (a := 1) (b := 20) (by decide) (by decide) (by omega) (by omega) _))
      refine b_if_eq 48 dX9_ice_32 rfl (fun z2 => ?_) (fun z2 => ?_)
      · refine x_ldc kcX9_117 dX9_ice_48 ?_
        refine x_iret dX9_ice_50 rfl rfl ?_
        exact hO (k0.1 z0) (fun z => k2.2 z2 z.2.1)
      · refine x_iload dX9_ice_35 rfl ?_
        refine x_i2l dX9_ice_37 ?_
        refine x_lconst dX9_ice_38 rfl ?_
        refine x_ldc2 klX9_137 dX9_ice_39 ?_
        refine cS3 (mj := mX9_in) lkX9_107 okX9_in stX9_in rfl rfl rfl rfl dX9_ice_42 rfl (c_in _ _ _ (fun b3 b3h => ?_))
        have k3 := in_two (x := 0) (b3h.trans (in_r64 (a := 0) (b := 20) (by decide) (by decide) (by omega) (by omega) _))
        refine b_if_ne 51 dX9_ice_45 rfl (fun z3 => ?_) (fun z3 => ?_)
        · obtain ⟨j, hj, rfl⟩ := k0.1 z0
          obtain ⟨t, ht1, rfl⟩ := k1.1 z1
          obtain ⟨f, hf1, rfl⟩ := k2.1 z2
          obtain ⟨n, hn1, rfl⟩ := k3.1 z3
          refine x_aload_n dX9_ice_51 rfl ?_
          refine g_I (s0_42 L) fkX9_97 rfl rfl dX9_ice_52 ?_
          refine x_as K.2.2.2.1 ?_
          refine x_bipush dX9_ice_55 bipush_6 ?_
          refine n_icmp_ne 63 dX9_ice_57 rfl (by omega) (by omega) (fun z4 => ?_) (fun z4 => ?_)
          · refine x_aload_n dX9_ice_63 rfl ?_
            refine g_R (s0_42 L) fkX9_25 rfl rfl rfl dX9_ice_64 ?_
            refine x_aload_n dX9_ice_67 rfl ?_
            refine g_I (s0_42 L) fkX9_97 rfl rfl dX9_ice_68 ?_
            refine x_as K.2.2.2.1 ?_
            refine x_iconst dX9_ice_71 iconst_1 ?_
            refine n_bast (b := true) (s0_48 L) (by omega) rfl dX9_ice_72 ?_
            refine x_aload_n dX9_ice_73 rfl ?_
            refine g_R (s0_42 L) fkX9_29 rfl rfl rfl dX9_ice_74 ?_
            refine x_aload_n dX9_ice_77 rfl ?_
            refine g_I (s0_42 L) fkX9_97 rfl rfl dX9_ice_78 ?_
            refine x_as K.2.2.2.1 ?_
            refine x_iload_n dX9_ice_81 rfl ?_
            refine n_iast rfl (s0_49 L) (by omega) rfl dX9_ice_82 ?_
            refine x_aload_n dX9_ice_83 rfl ?_
            refine g_R (s0_42 L) fkX9_32 rfl rfl rfl dX9_ice_84 ?_
            refine x_aload_n dX9_ice_87 rfl ?_
            refine g_I (s0_42 L) fkX9_97 rfl rfl dX9_ice_88 ?_
            refine x_as K.2.2.2.1 ?_
            refine x_iload_n dX9_ice_91 rfl ?_
            refine n_iast rfl (s0_50 L) (by omega) rfl dX9_ice_92 ?_
            refine x_aload_n dX9_ice_93 rfl ?_
            refine g_R (s0_42 L) fkX9_35 rfl rfl rfl dX9_ice_94 ?_
            refine x_aload_n dX9_ice_97 rfl ?_
            refine g_I (s0_42 L) fkX9_97 rfl rfl dX9_ice_98 ?_
            refine x_as K.2.2.2.1 ?_
            refine x_iload_n dX9_ice_101 rfl ?_
            refine n_iast rfl (s0_51 L) (by omega) rfl dX9_ice_102 ?_
            refine x_aload_n dX9_ice_103 rfl ?_
            refine g_R (s0_42 L) fkX9_38 rfl rfl rfl dX9_ice_104 ?_
            refine x_aload_n dX9_ice_107 rfl ?_
            refine g_I (s0_42 L) fkX9_97 rfl rfl dX9_ice_108 ?_
            refine x_as K.2.2.2.1 ?_
            refine x_iload dX9_ice_111 rfl ?_
            refine n_iast rfl (s0_52 L) (by omega) rfl dX9_ice_113 ?_
            refine x_aload_n dX9_ice_114 rfl ?_
            refine x_dup dX9_ice_115 rfl ?_
            refine g_I (s0_42 L) fkX9_97 rfl rfl dX9_ice_116 ?_
            refine x_as K.2.2.2.1 ?_
            refine x_iconst dX9_ice_119 iconst_1 ?_
            refine n_iadd dX9_ice_120 ?_
            refine g_P (s0_42 L) fkX9_97 rfl rfl rfl rfl dX9_ice_121 ?_
            refine x_aload_n dX9_ice_124 rfl ?_
            refine g_I (s0_42 L) fkX9_97 rfl rfl dX9_ice_125 ?_
            refine x_as (show _ = nI (ng + 1) from rfl) ?_
            refine x_iconst dX9_ice_128 iconst_1 ?_
            refine n_isub dX9_ice_129 (by omega) ?_
            refine x_iret dX9_ice_130 rfl rfl ?_
            refine hY j t f n hj ht1 hf1 hn1 rfl rfl rfl rfl (by omega) _ (fun q hq => ?_) ⟨⟨K.1, K.2.1, K.2.2.1, rfl, fun g hg => ?_⟩, SM, ZM, RO, OM⟩
            · rw [sM_ne _ _ _ (by omega), sM_ne _ _ _ (by omega), sM_ne _ _ _ (by omega), sM_ne _ _ _ (by omega), sM_ne _ _ _ (by omega), sM_ne _ _ _ (by omega)]
            · show upd (M 48) ng (bI true) g = bI (qI (if g = ng then (true, j, t, f, n) else G g)) ∧ upd (M 50) ng (nI t) g = nI (qT (if g = ng then (true, j, t, f, n) else G g)) ∧ (qI (if g = ng then (true, j, t, f, n) else G g) = true → upd (M 49) ng (nI j) g = nI (qS (if g = ng then (true, j, t, f, n) else G g)) ∧ upd (M 51) ng (nI f) g = nI (qF (if g = ng then (true, j, t, f, n) else G g)) ∧ upd (M 52) ng (nI n) g = nI (qN (if g = ng then (true, j, t, f, n) else G g)))
              by_cases e : g = ng
              · rw [e, if_pos rfl, upd_at, upd_at, upd_at, upd_at, upd_at]; exact ⟨rfl, rfl, fun _ => ⟨rfl, rfl, rfl⟩⟩
              · rw [if_neg e, upd_ne _ _ e, upd_ne _ _ e, upd_ne _ _ e, upd_ne _ _ e, upd_ne _ _ e]; exact K.2.2.2.2 g (by omega)
          · refine x_ldc kcX9_130 dX9_ice_60 ?_
            refine x_iret dX9_ice_62 rfl rfl ?_
            exact hF j t f n hj ht1 hf1 hn1 rfl rfl rfl rfl z4
        · refine x_ldc kcX9_117 dX9_ice_48 ?_
          refine x_iret dX9_ice_50 rfl rfl ?_
          exact hO (k0.1 z0) (fun z => k3.2 z3 z.2.2)
  · refine x_ldc kcX9_122 dX9_ice_8 ?_
    refine x_iret dX9_ice_10 rfl rfl ?_
    exact hN (k0.2 z0)
set_option maxRecDepth 100000 in
set_option maxHeartbeats 4000000 in
theorem m_flood {E : vE} {l : Launch} {Q : Option Value → vS → vM → Prop} {L : Nat} {M : vM} {w h : Nat} {ht rk : Nat → Nat} {ns : Nat} {T : Nat → vT} {ng : Nat} {G : Nat → vQ} {Rw : Nat → Nat × (Nat → Nat)} {nz : Nat} {U : Nat → vU} {O : Nat → Nat} (VV : Val w h ht rk ns T ng G Rw nz U O) (RR : RepM M w h ht rk ns T ng G Rw nz U O) {x : Int32} (hO : ¬ INr 1 99 x → Q (some (.int (-900002))) (S0 L) M) (hF : ∀ t : Nat, (1 ≤ t ∧ t ≤ 99) → x = nI t → ng = 6 → Q (some (.int (-900004))) (S0 L) M) (hY : ∀ t : Nat, (1 ≤ t ∧ t ≤ 99) → x = nI t → ng < 6 → ∀ M1 : vM, (∀ q, q < 42 → M1 q = M q) → RepM M1 w h ht rk ns T (ng + 1) (fun g => if g = ng then (false, 0, t, 0, 0) else G g) Rw nz U O → Q (some (.int (nI ng))) (S0 L) M1) : PM E l mX9_flood 0 [.ref 42, .int x] [] (S0 L) M 0 0 Q := by
  obtain ⟨V, SVv, ZV, RV, OV⟩ := VV
  obtain ⟨K, SM, ZM, RO, OM⟩ := RR
  have H := V.1
  have e4 := H.le
  have e6 := H.pos
  have hng := V.2.2.1
  have hns := SVv.1
  have hnz := ZV.1
  refine x_iload_n dX9_flood_0 rfl ?_
  refine x_i2l dX9_flood_1 ?_
  refine x_lconst dX9_flood_2 rfl ?_
  refine x_ldc2 klX9_123 dX9_flood_3 ?_
  refine cS3 (mj := mX9_in) lkX9_107 okX9_in stX9_in rfl rfl rfl rfl dX9_flood_6 rfl (c_in _ _ _ (fun b1 b1h => ?_))
  have k1 := in_two (x := 0) (b1h.trans (in_r64 (a := 1) (b := 99) (by decide) (by decide) (by omega) (by omega) _))
  refine b_if_ne 15 dX9_flood_9 rfl (fun z1 => ?_) (fun z1 => ?_)
  · obtain ⟨t, ht1, rfl⟩ := k1.1 z1
    refine x_aload_n dX9_flood_15 rfl ?_
    refine g_I (s0_42 L) fkX9_97 rfl rfl dX9_flood_16 ?_
    refine x_as K.2.2.2.1 ?_
    refine x_bipush dX9_flood_19 bipush_6 ?_
    refine n_icmp_ne 27 dX9_flood_21 rfl (by omega) (by omega) (fun z4 => ?_) (fun z4 => ?_)
    · refine x_aload_n dX9_flood_27 rfl ?_
      refine g_R (s0_42 L) fkX9_25 rfl rfl rfl dX9_flood_28 ?_
      refine x_aload_n dX9_flood_31 rfl ?_
      refine g_I (s0_42 L) fkX9_97 rfl rfl dX9_flood_32 ?_
      refine x_as K.2.2.2.1 ?_
      refine x_iconst dX9_flood_35 iconst_0 ?_
      refine n_bast (b := false) (s0_48 L) (by omega) rfl dX9_flood_36 ?_
      refine x_aload_n dX9_flood_37 rfl ?_
      refine g_R (s0_42 L) fkX9_32 rfl rfl rfl dX9_flood_38 ?_
      refine x_aload_n dX9_flood_41 rfl ?_
      refine g_I (s0_42 L) fkX9_97 rfl rfl dX9_flood_42 ?_
      refine x_as K.2.2.2.1 ?_
      refine x_iload_n dX9_flood_45 rfl ?_
      refine n_iast rfl (s0_50 L) (by omega) rfl dX9_flood_46 ?_
      refine x_aload_n dX9_flood_47 rfl ?_
      refine x_dup dX9_flood_48 rfl ?_
      refine g_I (s0_42 L) fkX9_97 rfl rfl dX9_flood_49 ?_
      refine x_as K.2.2.2.1 ?_
      refine x_iconst dX9_flood_52 iconst_1 ?_
      refine n_iadd dX9_flood_53 ?_
      refine g_P (s0_42 L) fkX9_97 rfl rfl rfl rfl dX9_flood_54 ?_
      refine x_aload_n dX9_flood_57 rfl ?_
      refine g_I (s0_42 L) fkX9_97 rfl rfl dX9_flood_58 ?_
      refine x_as (show _ = nI (ng + 1) from rfl) ?_
      refine x_iconst dX9_flood_61 iconst_1 ?_
      refine n_isub dX9_flood_62 (by omega) ?_
      refine x_iret dX9_flood_63 rfl rfl ?_
      refine hY t ht1 rfl (by omega) _ (fun q hq => ?_) ⟨⟨K.1, K.2.1, K.2.2.1, rfl, fun g hg => ?_⟩, SM, ZM, RO, OM⟩
      · rw [sM_ne _ _ _ (by omega), sM_ne _ _ _ (by omega), sM_ne _ _ _ (by omega)]
      · show upd (M 48) ng (bI false) g = bI (qI (if g = ng then (false, 0, t, 0, 0) else G g)) ∧ upd (M 50) ng (nI t) g = nI (qT (if g = ng then (false, 0, t, 0, 0) else G g)) ∧ (qI (if g = ng then (false, 0, t, 0, 0) else G g) = true → M 49 g = nI (qS (if g = ng then (false, 0, t, 0, 0) else G g)) ∧ M 51 g = nI (qF (if g = ng then (false, 0, t, 0, 0) else G g)) ∧ M 52 g = nI (qN (if g = ng then (false, 0, t, 0, 0) else G g)))
        by_cases e : g = ng
        · rw [e, if_pos rfl, upd_at, upd_at]; exact ⟨rfl, rfl, fun z => by cases z⟩
        · rw [if_neg e, upd_ne _ _ e, upd_ne _ _ e]; exact K.2.2.2.2 g (by omega)
    · refine x_ldc kcX9_130 dX9_flood_24 ?_
      refine x_iret dX9_flood_26 rfl rfl ?_
      exact hF t ht1 rfl z4
  · refine x_ldc kcX9_117 dX9_flood_12 ?_
    refine x_iret dX9_flood_14 rfl rfl ?_
    exact hO (k1.2 z1)
set_option maxRecDepth 100000 in
set_option maxHeartbeats 4000000 in
theorem m_covers {E : vE} {l : Launch} {Q : Option Value → vS → vM → Prop} {L : Nat} {M : vM} {w h : Nat} {ht rk : Nat → Nat} {ns : Nat} {T : Nat → vT} {ng : Nat} {G : Nat → vQ} {Rw : Nat → Nat × (Nat → Nat)} {nz : Nat} {U : Nat → vU} {O : Nat → Nat} (VV : Val w h ht rk ns T ng G Rw nz U O) (RR : RepM M w h ht rk ns T ng G Rw nz U O) {x : Int32} (hN : ¬ INn ng x → Q (some (.int (-900001))) (S0 L) M) (hY : ∀ g : Nat, g < ng → x = nI g → ∀ M1 : vM, (∀ q, q < 42 → M1 q = M q) → RepM M1 w h ht rk ns T ng G Rw nz U O → Q (some (.int (nI (ctt (fun c => (cov w h ht (G g) c).isSome) (w * h))))) (S0 L) M1) : PM E l mX9_covers 0 [.ref 42, .int x, .null, .null] [] (S0 L) M 0 0 Q := by
  have RR0 := RR
  have VV0 := VV
  obtain ⟨V, SVv, ZV, RV, OV⟩ := VV
  obtain ⟨K, SM, ZM, RO, OM⟩ := RR
  have H := V.1
  have e4 := H.le
  have e6 := H.pos
  have hng := V.2.2.1
  have hns := SVv.1
  have hnz := ZV.1
  refine x_aload_n dX9_covers_0 rfl ?_
  refine x_iload_n dX9_covers_1 rfl ?_
  refine cV1 (mj := mX9_isGo) lkX9_157 okX9_isGo imX9_isGo seX9_isGo (s0_42 L) rfl rfl rfl rfl rfl dX9_covers_2 rfl (m_isGo (by omega) K.2.2.2.1 _ (fun b0 b0h => ?_))
  have k0 := in_two (x := 0) b0h
  refine b_if_ne 11 dX9_covers_5 rfl (fun z0 => ?_) (fun z0 => ?_)
  · obtain ⟨g, hg, rfl⟩ := k0.1 z0
    refine x_aload_n dX9_covers_11 rfl ?_
    refine cV0 (mj := mX9_layGoes) lkX9_160 okX9_layGoes imX9_layGoes seX9_layGoes (s0_42 L) rfl rfl rfl rfl rfl dX9_covers_12 rfl (m_layGoes V K (fun M1 y1 D => ?_))
    have K1 := K.kept y1 (by decide)
    have R1 := RR0.scr y1 (by decide) (fun j hj => congrFun (y1 42 (by decide)) j)
    have L1 := low_of y1 (by decide)
    refine x_iconst dX9_covers_15 iconst_0 ?_
    refine x_istore_n dX9_covers_16 (by decide) rfl ?_
    refine x_iconst dX9_covers_17 iconst_0 ?_
    refine x_istore_n dX9_covers_18 (by decide) rfl ?_
    refine lp_up (P := fun i => PM E l mX9_covers 19 [.ref 42, .int (nI g), .int (nI (ctt (fun c => (cov w h ht (G g) c).isSome) i)), .int (nI i)] [] (S0 L) M1 0 0 Q) (w * h) ?_ ?_ 0 (by omega)
    · skip
      refine x_iload_n dX9_covers_19 rfl ?_
      refine x_aload_n dX9_covers_20 rfl ?_
      refine cV0 (mj := mX9_cells) lkX9_103 okX9_cells imX9_cells seX9_cells (s0_42 L) rfl rfl rfl rfl rfl dX9_covers_21 rfl (m_cells K1.1 K1.2.1 ?_)
      refine n_icmp_ge 50 dX9_covers_24 rfl (by omega) (by omega) (fun h1 => ?_) (fun h1 => by omega)
      refine x_iload_n dX9_covers_50 rfl ?_
      refine x_iret dX9_covers_51 rfl rfl ?_
      exact hY g hg rfl M1 L1 R1
    · intro i hi ih
      refine x_iload_n dX9_covers_19 rfl ?_
      refine x_aload_n dX9_covers_20 rfl ?_
      refine cV0 (mj := mX9_cells) lkX9_103 okX9_cells imX9_cells seX9_cells (s0_42 L) rfl rfl rfl rfl rfl dX9_covers_21 rfl (m_cells K1.1 K1.2.1 ?_)
      refine n_icmp_ge 50 dX9_covers_24 rfl (by omega) (by omega) (fun h1 => by omega) (fun h1 => ?_)
      refine x_iload_n dX9_covers_27 rfl ?_
      refine x_aload_n dX9_covers_28 rfl ?_
      refine x_iload_n dX9_covers_29 rfl ?_
      refine x_iload_n dX9_covers_30 rfl ?_
      refine cV2 (mj := mX9_isCovered) lkX9_153 okX9_isCovered imX9_isCovered seX9_isCovered (s0_42 L) rfl rfl rfl rfl rfl dX9_covers_31 rfl (m_isCovered (by omega) (by omega) (lt31 (by omega) (fun x e => cov_lt e)) (D g hg i hi).1 ?_)
      refine b_if_eq 41 dX9_covers_34 rfl (fun z1 => ?_) (fun z1 => ?_)
      · refine x_iconst dX9_covers_41 iconst_0 ?_
        refine n_iadd dX9_covers_42 ?_
        refine x_istore_n dX9_covers_43 (by decide) rfl ?_
        refine n_inc dX9_covers_44 rfl rfl ?_
        refine x_goto 19 dX9_covers_47 rfl ?_
        have ih2 := ih
        rw [show (ctt (fun c => (cov w h ht (G g) c).isSome) (i + 1)) = (ctt (fun c => (cov w h ht (G g) c).isSome) i) + 0 from by simp only [ctt, z1, Bool.false_eq_true, if_false, if_true]] at ih2
        exact ih2
      · refine x_iconst dX9_covers_37 iconst_1 ?_
        refine x_goto 42 dX9_covers_38 rfl ?_
        refine n_iadd dX9_covers_42 ?_
        refine x_istore_n dX9_covers_43 (by decide) rfl ?_
        refine n_inc dX9_covers_44 rfl rfl ?_
        refine x_goto 19 dX9_covers_47 rfl ?_
        have ih2 := ih
        rw [show (ctt (fun c => (cov w h ht (G g) c).isSome) (i + 1)) = (ctt (fun c => (cov w h ht (G g) c).isSome) i) + 1 from by simp only [ctt, z1, Bool.false_eq_true, if_false, if_true]] at ih2
        exact ih2
  · refine x_ldc kcX9_122 dX9_covers_8 ?_
    refine x_iret dX9_covers_10 rfl rfl ?_
    exact hN (k0.2 z0)
noncomputable def thk (w h : Nat) (ht : Nat → Nat) (q : vQ) (c : Nat) : Option Nat := if qI q then (match cov w h ht q c with
  | none => none
  | some d => some (qT q - qF q * d - ht c)) else none
noncomputable def byA (w h : Nat) (ht : Nat → Nat) (q : vQ) (c k : Nat) : Int32 :=
  if k = 0 then bI (cov w h ht q c).isSome else if k = 1 then oI (-900009) (if qI q then cov w h ht q c else none) else if k = 2 then oI (-900009) (thk w h ht q c) else if k = 3 then oI (-900009) (flw w h ht q c) else bI (qI q && (cov w h ht q c).isSome && (flw w h ht q c).isNone)
/-- ice stands above the land where it covers -/
theorem ice_above {w h : Nat} {ht : Nat → Nat} {tp fl : Nat} {D : Nat → Option Nat} {d : Nat} (hD : ∀ c x, D c = some x → fl * x + ht c < tp) : ∀ k c x, itr (fun k D => iceStep w h ht tp fl d k D) k D c = some x → fl * x + ht c < tp
  | 0 => hD
  | k + 1 => by
    intro c x e
    have ih := ice_above (w := w) (h := h) (d := d) hD k
    have e : iceStep w h ht tp fl d k (itr (fun k D => iceStep w h ht tp fl d k D) k D) c = some x := e
    unfold iceStep at e
    cases hn : nb w h (k / 4) (k % 4) with
    | none => simp only [hn] at e; exact ih c x e
    | some o =>
      simp only [hn] at e
      split at e
      · rename_i hc
        by_cases e1 : c = o
        · simp only [e1, if_true] at e; cases e; rw [e1]; exact hc.2.2
        · simp only [e1, if_false] at e; exact ih c x e
      · exact ih c x e
theorem iceR_above {w h : Nat} {ht : Nat → Nat} {so tp fl : Nat} : ∀ d c x, itr (fun d D => iceRow w h ht tp fl d D) d (iceD0 ht so tp) c = some x → fl * x + ht c < tp
  | 0 => by
    intro c x e
    simp only [itr, iceD0] at e
    split at e
    · rename_i hc; cases e; rw [hc.1]; have := hc.2; omega
    · cases e
  | d + 1 => ice_above (iceR_above d) (4 * (w * h))
theorem cov_above {w h : Nat} {ht : Nat → Nat} {q : vQ} {c x : Nat} (hi : qI q = true) (e : cov w h ht q c = some x) : qF q * x + ht c < qT q := by
  unfold cov at e
  rw [if_pos hi] at e
  exact iceR_above (w * h) c x e
set_option maxRecDepth 100000 in
set_option maxHeartbeats 4000000 in
theorem m_by {E : vE} {l : Launch} {Q : Option Value → vS → vM → Prop} {L : Nat} {M : vM} {w h : Nat} {ht rk : Nat → Nat} {ns : Nat} {T : Nat → vT} {ng : Nat} {G : Nat → vQ} {Rw : Nat → Nat × (Nat → Nat)} {nz : Nat} {U : Nat → vU} {O : Nat → Nat} (VV : Val w h ht rk ns T ng G Rw nz U O) (RR : RepM M w h ht rk ns T ng G Rw nz U O) {x y v : Int32} (hN : ¬ (INn ng x ∧ INn (w * h) y) → Q (some (.int (-900001))) (S0 L) M) (hO : ∀ g c : Nat, g < ng → c < w * h → x = nI g → y = nI c → ¬ INr 0 4 v → ∀ M1 : vM, (∀ q, q < 42 → M1 q = M q) → RepM M1 w h ht rk ns T ng G Rw nz U O → Q (some (.int (-900002))) (S0 L) M1) (hY : ∀ g c : Nat, g < ng → c < w * h → x = nI g → y = nI c → ∀ k : Nat, k ≤ 4 → v = nI k → ∀ M1 : vM, (∀ q, q < 42 → M1 q = M q) → RepM M1 w h ht rk ns T ng G Rw nz U O → Q (some (.int (byA w h ht (G g) c k))) (S0 L) M1) : PM E l mX9_by 0 [.ref 42, .int x, .int y, .int v, .null] [] (S0 L) M 0 0 Q := by
  have RR0 := RR
  have VV0 := VV
  obtain ⟨V, SVv, ZV, RV, OV⟩ := VV
  obtain ⟨K, SM, ZM, RO, OM⟩ := RR
  have H := V.1
  have e4 := H.le
  have e6 := H.pos
  have hng := V.2.2.1
  have hns := SVv.1
  have hnz := ZV.1
  refine x_aload_n dX9_by_0 rfl ?_
  refine x_iload_n dX9_by_1 rfl ?_
  refine cV1 (mj := mX9_isGo) lkX9_157 okX9_isGo imX9_isGo seX9_isGo (s0_42 L) rfl rfl rfl rfl rfl dX9_by_2 rfl (m_isGo (by omega) K.2.2.2.1 _ (fun b0 b0h => ?_))
  have k0 := in_two (x := 0) b0h
  refine b_if_eq 16 dX9_by_5 rfl (fun z0 => ?_) (fun z0 => ?_)
  · refine x_ldc kcX9_122 dX9_by_16 ?_
    refine x_iret dX9_by_18 rfl rfl ?_
    exact hN (fun z => k0.2 z0 z.1)
  · refine x_aload_n dX9_by_8 rfl ?_
    refine x_iload_n dX9_by_9 rfl ?_
    refine cV1 (mj := mX9_isCell) lkX9_118 okX9_isCell imX9_isCell seX9_isCell (s0_42 L) rfl rfl rfl rfl rfl dX9_by_10 rfl (m_isCell (by omega) K.1 K.2.1 _ (fun b1 b1h => ?_))
    have k1 := in_two (x := 0) b1h
    refine b_if_ne 19 dX9_by_13 rfl (fun z1 => ?_) (fun z1 => ?_)
    · obtain ⟨g, hg, rfl⟩ := k0.1 z0
      obtain ⟨c, hc, rfl⟩ := k1.1 z1
      refine x_aload_n dX9_by_19 rfl ?_
      refine cV0 (mj := mX9_layGoes) lkX9_160 okX9_layGoes imX9_layGoes seX9_layGoes (s0_42 L) rfl rfl rfl rfl rfl dX9_by_20 rfl (m_layGoes V K (fun M1 y1 D => ?_))
      have K1 := K.kept y1 (by decide)
      have R1 := RR0.scr y1 (by decide) (fun j hj => congrFun (y1 42 (by decide)) j)
      have L1 := low_of y1 (by decide)
      have sw : PM E l mX9_by 48 [.ref 42, .int (nI g), .int (nI c), .int v, .int (bI (qI (G g) && (cov w h ht (G g) c).isSome))] [] (S0 L) M1 0 0 Q := by
        by_cases hv : INr 0 4 v
        · obtain ⟨k, hk, rfl⟩ := hv
          rcases (show k = 0 ∨ k = 1 ∨ k = 2 ∨ k = 3 ∨ k = 4 by omega) with rfl | rfl | rfl | rfl | rfl
          · refine x_iload_n dX9_by_48 rfl ?_
            refine x_tabIn 84 dX9_by_49 (by decide) (by decide) rfl rfl ?_
            refine x_aload_n dX9_by_84 rfl ?_
            refine x_iload_n dX9_by_85 rfl ?_
            refine x_iload_n dX9_by_86 rfl ?_
            refine cV2 (mj := mX9_isCovered) lkX9_153 okX9_isCovered imX9_isCovered seX9_isCovered (s0_42 L) rfl rfl rfl rfl rfl dX9_by_87 rfl (m_isCovered (by omega) (by omega) (lt31 (by omega) (fun x e => cov_lt e)) (D g hg c hc).1 ?_)
            refine b_if_eq 97 dX9_by_90 rfl (fun z1 => ?_) (fun z1 => ?_)
            · refine x_iconst dX9_by_97 iconst_0 ?_
              refine x_iret dX9_by_98 rfl rfl ?_
              have hQ9 := hY g c hg hc rfl rfl 0 (by omega) rfl M1 L1 R1
              unfold byA at hQ9
              rw [if_pos rfl] at hQ9
              rw [z1] at hQ9
              exact hQ9
            · refine x_iconst dX9_by_93 iconst_1 ?_
              refine x_goto 98 dX9_by_94 rfl ?_
              refine x_iret dX9_by_98 rfl rfl ?_
              have hQ9 := hY g c hg hc rfl rfl 0 (by omega) rfl M1 L1 R1
              unfold byA at hQ9
              rw [if_pos rfl] at hQ9
              rw [z1] at hQ9
              exact hQ9
          · refine x_iload_n dX9_by_48 rfl ?_
            refine x_tabIn 99 dX9_by_49 (by decide) (by decide) rfl rfl ?_
            refine x_iload dX9_by_99 rfl ?_
            refine b_if_eq 118 dX9_by_101 rfl (fun z1 => ?_) (fun z1 => ?_)
            · refine x_ldc kcX9_134 dX9_by_118 ?_
              refine x_iret dX9_by_120 rfl rfl ?_
              have hQ9 := hY g c hg hc rfl rfl 1 (by omega) rfl M1 L1 R1
              unfold byA at hQ9
              rw [if_neg (show ¬ 1 = 0 by omega)] at hQ9
              rw [if_pos rfl] at hQ9
              have hn9 : (if qI (G g) then cov w h ht (G g) c else none) = none := by
                rcases hqi : qI (G g) with _ | _
                · rfl
                · rw [hqi, Bool.true_and] at z1
                  rw [if_pos rfl]
                  cases hx : cov w h ht (G g) c with
                  | none => rfl
                  | some d => rw [hx] at z1; cases z1
              rw [hn9] at hQ9
              exact hQ9
            · refine x_aload_n dX9_by_104 rfl ?_
              refine g_R (s0_42 L) fkX9_41 rfl rfl rfl dX9_by_105 ?_
              refine x_bipush dX9_by_108 bipush_36 ?_
              refine x_iload_n dX9_by_110 rfl ?_
              refine n_imul dX9_by_111 ?_
              refine x_iload_n dX9_by_112 rfl ?_
              refine n_iadd dX9_by_113 ?_
              refine n_iald (s0_53 L) (by omega) rfl dX9_by_114 ?_
              refine x_as (D g hg c hc).1 ?_
              refine x_goto 120 dX9_by_115 rfl ?_
              refine x_iret dX9_by_120 rfl rfl ?_
              have hQ9 := hY g c hg hc rfl rfl 1 (by omega) rfl M1 L1 R1
              unfold byA at hQ9
              rw [if_neg (show ¬ 1 = 0 by omega)] at hQ9
              rw [if_pos rfl] at hQ9
              simp only [Bool.and_eq_true] at z1
              rw [if_pos z1.1] at hQ9
              exact hQ9
          · refine x_iload_n dX9_by_48 rfl ?_
            refine x_tabIn 121 dX9_by_49 (by decide) (by decide) rfl rfl ?_
            refine x_iload dX9_by_121 rfl ?_
            refine b_if_eq 135 dX9_by_123 rfl (fun z1 => ?_) (fun z1 => ?_)
            · refine x_ldc kcX9_134 dX9_by_135 ?_
              refine x_iret dX9_by_137 rfl rfl ?_
              have hQ9 := hY g c hg hc rfl rfl 2 (by omega) rfl M1 L1 R1
              unfold byA at hQ9
              rw [if_neg (show ¬ 2 = 0 by omega)] at hQ9
              rw [if_neg (show ¬ 2 = 1 by omega)] at hQ9
              rw [if_pos rfl] at hQ9
              have hn9 : thk w h ht (G g) c = none := by
                unfold thk
                rcases hqi : qI (G g) with _ | _
                · rfl
                · rw [hqi, Bool.true_and] at z1
                  rw [if_pos rfl]
                  cases hx : cov w h ht (G g) c with
                  | none => rfl
                  | some d => rw [hx] at z1; cases z1
              rw [hn9] at hQ9
              exact hQ9
            · refine x_aload_n dX9_by_126 rfl ?_
              refine x_iload_n dX9_by_127 rfl ?_
              refine x_iload_n dX9_by_128 rfl ?_
              simp only [Bool.and_eq_true] at z1
              obtain ⟨d, hd⟩ := Option.isSome_iff_exists.mp z1.2
              have hd9 := cov_lt hd
              have hab := cov_above z1.1 hd
              have hv9 := (V.2.2.2 g hg).2 z1.1
              refine cV2 (mj := mX9_thick) lkX9_163 okX9_thick imX9_thick seX9_thick (s0_42 L) rfl rfl rfl rfl rfl dX9_by_129 rfl (m_thick (by omega) (by omega) (K1.2.2.2.2 g hg).2.1 ((K1.2.2.2.2 g hg).2.2 z1.1).2.1 ((D g hg c hc).1.trans (by rw [hd]; rfl : _ = nI d)) (K1.2.2.1 c hc) (by omega) ?_)
              refine x_goto 137 dX9_by_132 rfl ?_
              refine x_iret dX9_by_137 rfl rfl ?_
              have hQ9 := hY g c hg hc rfl rfl 2 (by omega) rfl M1 L1 R1
              unfold byA at hQ9
              rw [if_neg (show ¬ 2 = 0 by omega)] at hQ9
              rw [if_neg (show ¬ 2 = 1 by omega)] at hQ9
              rw [if_pos rfl] at hQ9
              rw [show thk w h ht (G g) c = some (qT (G g) - qF (G g) * d - ht c) from by unfold thk; rw [if_pos z1.1, hd]] at hQ9
              exact hQ9
          · refine x_iload_n dX9_by_48 rfl ?_
            refine x_tabIn 138 dX9_by_49 (by decide) (by decide) rfl rfl ?_
            refine x_iload dX9_by_138 rfl ?_
            refine b_if_eq 157 dX9_by_140 rfl (fun z1 => ?_) (fun z1 => ?_)
            · refine x_ldc kcX9_134 dX9_by_157 ?_
              refine x_iret dX9_by_159 rfl rfl ?_
              have hQ9 := hY g c hg hc rfl rfl 3 (by omega) rfl M1 L1 R1
              unfold byA at hQ9
              rw [if_neg (show ¬ 3 = 0 by omega)] at hQ9
              rw [if_neg (show ¬ 3 = 1 by omega)] at hQ9
              rw [if_neg (show ¬ 3 = 2 by omega)] at hQ9
              rw [if_pos rfl] at hQ9
              have hn9 : flw w h ht (G g) c = none := by
                rcases hqi : qI (G g) with _ | _
                · unfold flw; rw [hqi]; rfl
                · rw [hqi, Bool.true_and] at z1
                  refine flw_none ?_
                  cases hx : cov w h ht (G g) c with
                  | none => rfl
                  | some d => rw [hx] at z1; cases z1
              rw [hn9] at hQ9
              exact hQ9
            · refine x_aload_n dX9_by_143 rfl ?_
              refine g_R (s0_42 L) fkX9_44 rfl rfl rfl dX9_by_144 ?_
              refine x_bipush dX9_by_147 bipush_36 ?_
              refine x_iload_n dX9_by_149 rfl ?_
              refine n_imul dX9_by_150 ?_
              refine x_iload_n dX9_by_151 rfl ?_
              refine n_iadd dX9_by_152 ?_
              refine n_iald (s0_54 L) (by omega) rfl dX9_by_153 ?_
              refine x_as (D g hg c hc).2 ?_
              refine x_goto 159 dX9_by_154 rfl ?_
              refine x_iret dX9_by_159 rfl rfl ?_
              have hQ9 := hY g c hg hc rfl rfl 3 (by omega) rfl M1 L1 R1
              unfold byA at hQ9
              rw [if_neg (show ¬ 3 = 0 by omega)] at hQ9
              rw [if_neg (show ¬ 3 = 1 by omega)] at hQ9
              rw [if_neg (show ¬ 3 = 2 by omega)] at hQ9
              rw [if_pos rfl] at hQ9
              exact hQ9
          · refine x_iload_n dX9_by_48 rfl ?_
            refine x_tabIn 160 dX9_by_49 (by decide) (by decide) rfl rfl ?_
            refine x_aload_n dX9_by_160 rfl ?_
            refine x_iload_n dX9_by_161 rfl ?_
            refine x_iload_n dX9_by_162 rfl ?_
            refine cV2 (mj := mX9_isHeap) lkX9_166 okX9_isHeap imX9_isHeap seX9_isHeap (s0_42 L) rfl rfl rfl rfl rfl dX9_by_163 rfl (m_isHeap (by omega) (by omega) (lt31 (by omega) (fun x e => cov_lt e)) (lt31 (n := 4) (by omega) (fun x e => Nat.le_of_lt (flw_lt e))) (K1.2.2.2.2 g hg).1 (D g hg c hc).1 (D g hg c hc).2 ?_)
            refine b_if_eq 173 dX9_by_166 rfl (fun z1 => ?_) (fun z1 => ?_)
            · refine x_iconst dX9_by_173 iconst_0 ?_
              refine x_iret dX9_by_174 rfl rfl ?_
              have hQ9 := hY g c hg hc rfl rfl 4 (by omega) rfl M1 L1 R1
              unfold byA at hQ9
              rw [if_neg (show ¬ 4 = 0 by omega)] at hQ9
              rw [if_neg (show ¬ 4 = 1 by omega)] at hQ9
              rw [if_neg (show ¬ 4 = 2 by omega)] at hQ9
              rw [if_neg (show ¬ 4 = 3 by omega)] at hQ9
              rw [z1] at hQ9
              exact hQ9
            · refine x_iconst dX9_by_169 iconst_1 ?_
              refine x_goto 174 dX9_by_170 rfl ?_
              refine x_iret dX9_by_174 rfl rfl ?_
              have hQ9 := hY g c hg hc rfl rfl 4 (by omega) rfl M1 L1 R1
              unfold byA at hQ9
              rw [if_neg (show ¬ 4 = 0 by omega)] at hQ9
              rw [if_neg (show ¬ 4 = 1 by omega)] at hQ9
              rw [if_neg (show ¬ 4 = 2 by omega)] at hQ9
              rw [if_neg (show ¬ 4 = 3 by omega)] at hQ9
              rw [z1] at hQ9
              exact hQ9
        · refine x_iload_n dX9_by_48 rfl ?_
          refine x_tabOut 175 dX9_by_49 (tab_out (a := 0) (b := 4) (by omega) hv) rfl ?_
          refine x_ldc kcX9_117 dX9_by_175 ?_
          refine x_iret dX9_by_177 rfl rfl ?_
          exact hO g c hg hc rfl rfl hv M1 L1 R1
      refine x_aload_n dX9_by_23 rfl ?_
      refine g_R (s0_42 L) fkX9_25 rfl rfl rfl dX9_by_24 ?_
      refine x_iload_n dX9_by_27 rfl ?_
      refine n_bald (s0_48 L) (by omega) rfl dX9_by_28 ?_
      refine x_as (K1.2.2.2.2 g hg).1 ?_
      refine b_if_eq 45 dX9_by_29 rfl (fun z2 => ?_) (fun z2 => ?_)
      · refine x_iconst dX9_by_45 iconst_0 ?_
        refine x_istore dX9_by_46 (by decide) rfl ?_
        have sw2 := sw
        rw [z2, Bool.false_and] at sw2
        exact sw2
      · refine x_aload_n dX9_by_32 rfl ?_
        refine x_iload_n dX9_by_33 rfl ?_
        refine x_iload_n dX9_by_34 rfl ?_
        refine cV2 (mj := mX9_isCovered) lkX9_153 okX9_isCovered imX9_isCovered seX9_isCovered (s0_42 L) rfl rfl rfl rfl rfl dX9_by_35 rfl (m_isCovered (by omega) (by omega) (lt31 (by omega) (fun x e => cov_lt e)) (D g hg c hc).1 ?_)
        refine b_if_eq 45 dX9_by_38 rfl (fun z3 => ?_) (fun z3 => ?_)
        · refine x_iconst dX9_by_45 iconst_0 ?_
          refine x_istore dX9_by_46 (by decide) rfl ?_
          have sw2 := sw
          rw [z2, z3] at sw2
          exact sw2
        · refine x_iconst dX9_by_41 iconst_1 ?_
          refine x_goto 46 dX9_by_42 rfl ?_
          refine x_istore dX9_by_46 (by decide) rfl ?_
          have sw2 := sw
          rw [z2, z3] at sw2
          exact sw2
    · refine x_ldc kcX9_122 dX9_by_16 ?_
      refine x_iret dX9_by_18 rfl rfl ?_
      exact hN (fun z => k1.2 z1 z.2)
set_option maxRecDepth 100000 in
set_option maxHeartbeats 4000000 in
theorem m_brings {E : vE} {l : Launch} {Q : Option Value → vS → vM → Prop} {L : Nat} {M : vM} {w h : Nat} {ht rk : Nat → Nat} {ns : Nat} {T : Nat → vT} {ng : Nat} {G : Nat → vQ} {Rw : Nat → Nat × (Nat → Nat)} {nz : Nat} {U : Nat → vU} {O : Nat → Nat} (VV : Val w h ht rk ns T ng G Rw nz U O) (RR : RepM M w h ht rk ns T ng G Rw nz U O) {x y v : Int32} (hN : ¬ (INn ng x ∧ INn (w * h) y) → Q (some (.int (-900001))) (S0 L) M) (hO : INn ng x → INn (w * h) y → ¬ INr 1 9 v → Q (some (.int (-900002))) (S0 L) M) (hY : ∀ g c t : Nat, g < ng → c < w * h → (1 ≤ t ∧ t ≤ 9) → x = nI g → y = nI c → v = nI t → ∀ M1 : vM, (∀ q, q < 42 → M1 q = M q) → RepM M1 w h ht rk ns T ng G Rw nz U O → Q (some (.int (nI (brb w h ht (G g) c t)))) (S0 L) M1) : PM E l mX9_brings 0 [.ref 42, .int x, .int y, .int v] [] (S0 L) M 0 0 Q := by
  have RR0 := RR
  have VV0 := VV
  obtain ⟨V, SVv, ZV, RV, OV⟩ := VV
  obtain ⟨K, SM, ZM, RO, OM⟩ := RR
  have H := V.1
  have e4 := H.le
  have e6 := H.pos
  have hng := V.2.2.1
  have hns := SVv.1
  have hnz := ZV.1
  refine x_aload_n dX9_brings_0 rfl ?_
  refine x_iload_n dX9_brings_1 rfl ?_
  refine cV1 (mj := mX9_isGo) lkX9_157 okX9_isGo imX9_isGo seX9_isGo (s0_42 L) rfl rfl rfl rfl rfl dX9_brings_2 rfl (m_isGo (by omega) K.2.2.2.1 _ (fun b0 b0h => ?_))
  have k0 := in_two (x := 0) b0h
  refine b_if_eq 16 dX9_brings_5 rfl (fun z0 => ?_) (fun z0 => ?_)
  · refine x_ldc kcX9_122 dX9_brings_16 ?_
    refine x_iret dX9_brings_18 rfl rfl ?_
    exact hN (fun z => k0.2 z0 z.1)
  · refine x_aload_n dX9_brings_8 rfl ?_
    refine x_iload_n dX9_brings_9 rfl ?_
    refine cV1 (mj := mX9_isCell) lkX9_118 okX9_isCell imX9_isCell seX9_isCell (s0_42 L) rfl rfl rfl rfl rfl dX9_brings_10 rfl (m_isCell (by omega) K.1 K.2.1 _ (fun b1 b1h => ?_))
    have k1 := in_two (x := 0) b1h
    refine b_if_ne 19 dX9_brings_13 rfl (fun z1 => ?_) (fun z1 => ?_)
    · refine x_iload_n dX9_brings_19 rfl ?_
      refine cS1 (mj := mX9_isWeight) lkX9_127 okX9_isWeight stX9_isWeight rfl rfl rfl rfl dX9_brings_20 rfl (m_isWeight _ (fun b2 b2h => ?_))
      have k2 := in_two (x := 0) b2h
      refine b_if_ne 29 dX9_brings_23 rfl (fun z2 => ?_) (fun z2 => ?_)
      · obtain ⟨g, hg, rfl⟩ := k0.1 z0
        obtain ⟨c, hc, rfl⟩ := k1.1 z1
        obtain ⟨t, ht1, rfl⟩ := k2.1 z2
        refine x_aload_n dX9_brings_29 rfl ?_
        refine cV0 (mj := mX9_layGoes) lkX9_160 okX9_layGoes imX9_layGoes seX9_layGoes (s0_42 L) rfl rfl rfl rfl rfl dX9_brings_30 rfl (m_layGoes V K (fun M1 y1 D => ?_))
        have K1 := K.kept y1 (by decide)
        have R1 := RR0.scr y1 (by decide) (fun j hj => congrFun (y1 42 (by decide)) j)
        have L1 := low_of y1 (by decide)
        refine x_aload_n dX9_brings_33 rfl ?_
        refine x_iload_n dX9_brings_34 rfl ?_
        refine x_iload_n dX9_brings_35 rfl ?_
        refine x_iload_n dX9_brings_36 rfl ?_
        refine cV3 (mj := mX9_broughtBy) lkX9_169 okX9_broughtBy imX9_broughtBy seX9_broughtBy (s0_42 L) rfl rfl rfl rfl rfl dX9_brings_37 rfl (m_broughtBy V K1 D hg hc ht1.1 ht1.2 ?_)
        refine x_iret dX9_brings_40 rfl rfl ?_
        exact hY g c t hg hc ht1 rfl rfl rfl M1 L1 R1
      · refine x_ldc kcX9_117 dX9_brings_26 ?_
        refine x_iret dX9_brings_28 rfl rfl ?_
        exact hO (k0.1 z0) (k1.1 z1) (k2.2 z2)
    · refine x_ldc kcX9_122 dX9_brings_16 ?_
      refine x_iret dX9_brings_18 rfl rfl ?_
      exact hN (fun z => k1.2 z1 z.2)

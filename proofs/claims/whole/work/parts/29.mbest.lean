/-- may a sign of kind k bear this extra -/
def exOk (k : Nat) (x : Int32) : Prop := k = 4 ∨ (k = 0 ∧ INr 0 3 x) ∨ (k = 5 ∧ INr 0 15 x) ∨ (k ≠ 4 ∧ k ≠ 0 ∧ k ≠ 5 ∧ x = 0)
def sgAt (k ns n : Nat) (c e : Int32) : Prop := if k = 4 then INn ns e else INn n c
set_option maxRecDepth 100000 in
set_option maxHeartbeats 4000000 in
theorem m_sign {E : vE} {l : Launch} {Q : Option Value → vS → vM → Prop} {L : Nat} {M : vM} {w h : Nat} {ht rk : Nat → Nat} {ns : Nat} {T : Nat → vT} {ng : Nat} {G : Nat → vQ} {Rw : Nat → Nat × (Nat → Nat)} {nz : Nat} {U : Nat → vU} {O : Nat → Nat} (VV : Val w h ht rk ns T ng G Rw nz U O) (RR : RepM M w h ht rk ns T ng G Rw nz U O) {x y v u : Int32} (hO0 : ¬ INr 0 5 x → Q (some (.int (-900002))) (S0 L) M) (hN : ∀ k : Nat, (0 ≤ k ∧ k ≤ 5) → x = nI k → ¬ sgAt k ns (w * h) y v → Q (some (.int (-900001))) (S0 L) M) (hO1 : ∀ k : Nat, (0 ≤ k ∧ k ≤ 5) → x = nI k → sgAt k ns (w * h) y v → ¬ (exOk k v ∧ INr 1 99 u) → Q (some (.int (-900002))) (S0 L) M) (hF : ∀ k wo : Nat, (0 ≤ k ∧ k ≤ 5) → (1 ≤ wo ∧ wo ≤ 99) → x = nI k → u = nI wo → sgAt k ns (w * h) y v → exOk k v → nz = 12 → Q (some (.int (-900004))) (S0 L) M) (hY : ∀ k cc ee wo : Nat, (0 ≤ k ∧ k ≤ 5) → (1 ≤ wo ∧ wo ≤ 99) → x = nI k → u = nI wo → v = nI ee → (k ≠ 4 → y = nI cc ∧ cc < w * h) → ((k = 0 → ee < 4) ∧ (k = 4 → ee < ns) ∧ (k = 5 → ee < 16) ∧ (k = 1 ∨ k = 2 ∨ k = 3 → ee = 0)) → sgAt k ns (w * h) y v → exOk k v → nz < 12 → ∀ M1 : vM, (∀ q, q < 42 → M1 q = M q) → RepM M1 w h ht rk ns T ng G Rw (nz + 1) (fun i => if i = nz then (k, cc, ee, wo) else U i) O → Q (some (.int (nI nz))) (S0 L) M1) : PM E l mX9_sign 0 [.ref 42, .int x, .int y, .int v, .int u, .null] [] (S0 L) M 0 0 Q := by
  obtain ⟨V, SVv, ZV, RV, OV⟩ := VV
  obtain ⟨K, SM, ZM, RO, OM⟩ := RR
  have H := V.1
  have e4 := H.le
  have e6 := H.pos
  have hng := V.2.2.1
  have hns := SVv.1
  have hnz := ZV.1
  have s97 : ∀ k : Nat, (0 ≤ k ∧ k ≤ 5) → x = nI k → sgAt k ns (w * h) y v → ∀ b : Bool, (b = true ↔ exOk k v) → PM E l mX9_sign 97 [.ref 42, .int x, .int y, .int v, .int u, .int (bI b)] [] (S0 L) M 0 0 Q := by
    rintro k hk rfl hat b hb
    refine x_iload dX9_sign_97 rfl ?_
    refine b_if_eq 115 dX9_sign_99 rfl (fun x1 => ?_) (fun x1 => ?_)
    · refine x_ldc kcX9_117 dX9_sign_115 ?_
      refine x_iret dX9_sign_117 rfl rfl ?_
      exact hO1 k hk rfl hat (fun z => by rw [hb.mpr z.1] at x1; cases x1)
    · refine x_iload dX9_sign_102 rfl ?_
      refine x_i2l dX9_sign_104 ?_
      refine x_lconst dX9_sign_105 rfl ?_
      refine x_ldc2 klX9_123 dX9_sign_106 ?_
      refine cS3 (mj := mX9_in) lkX9_107 okX9_in stX9_in rfl rfl rfl rfl dX9_sign_109 rfl (c_in _ _ _ (fun b2 b2h => ?_))
      have k2 := in_two (x := 0) (b2h.trans (in_r64 (a := 1) (b := 99) (by decide) (by decide) (by omega) (by omega) _))
      refine b_if_ne 118 dX9_sign_112 rfl (fun x2 => ?_) (fun x2 => ?_)
      · obtain ⟨wo, hwo, rfl⟩ := k2.1 x2
        refine x_aload_n dX9_sign_118 rfl ?_
        refine g_I (s0_42 L) fkX9_100 rfl rfl dX9_sign_119 ?_
        refine x_as ZM.1 ?_
        refine x_bipush dX9_sign_122 bipush_12 ?_
        refine n_icmp_ne 130 dX9_sign_124 rfl (by omega) (by omega) (fun x3 => ?_) (fun x3 => ?_)
        · refine x_aload_n dX9_sign_130 rfl ?_
          refine g_R (s0_42 L) fkX9_56 rfl rfl rfl dX9_sign_131 ?_
          refine x_aload_n dX9_sign_134 rfl ?_
          refine g_I (s0_42 L) fkX9_100 rfl rfl dX9_sign_135 ?_
          refine x_as ZM.1 ?_
          refine x_iload_n dX9_sign_138 rfl ?_
          refine n_iast rfl (s0_58 L) (by omega) rfl dX9_sign_139 ?_
          refine x_aload_n dX9_sign_140 rfl ?_
          refine g_R (s0_42 L) fkX9_59 rfl rfl rfl dX9_sign_141 ?_
          refine x_aload_n dX9_sign_144 rfl ?_
          refine g_I (s0_42 L) fkX9_100 rfl rfl dX9_sign_145 ?_
          refine x_as ZM.1 ?_
          refine x_iload_n dX9_sign_148 rfl ?_
          refine n_iast rfl (s0_59 L) (by omega) rfl dX9_sign_149 ?_
          refine x_aload_n dX9_sign_150 rfl ?_
          refine g_R (s0_42 L) fkX9_62 rfl rfl rfl dX9_sign_151 ?_
          refine x_aload_n dX9_sign_154 rfl ?_
          refine g_I (s0_42 L) fkX9_100 rfl rfl dX9_sign_155 ?_
          refine x_as ZM.1 ?_
          refine x_iload_n dX9_sign_158 rfl ?_
          refine n_iast rfl (s0_60 L) (by omega) rfl dX9_sign_159 ?_
          refine x_aload_n dX9_sign_160 rfl ?_
          refine g_R (s0_42 L) fkX9_65 rfl rfl rfl dX9_sign_161 ?_
          refine x_aload_n dX9_sign_164 rfl ?_
          refine g_I (s0_42 L) fkX9_100 rfl rfl dX9_sign_165 ?_
          refine x_as ZM.1 ?_
          refine x_iload dX9_sign_168 rfl ?_
          refine n_iast rfl (s0_61 L) (by omega) rfl dX9_sign_170 ?_
          refine x_aload_n dX9_sign_171 rfl ?_
          refine x_dup dX9_sign_172 rfl ?_
          refine g_I (s0_42 L) fkX9_100 rfl rfl dX9_sign_173 ?_
          refine x_as ZM.1 ?_
          refine x_iconst dX9_sign_176 iconst_1 ?_
          refine n_iadd dX9_sign_177 ?_
          refine g_P (s0_42 L) fkX9_100 rfl rfl rfl rfl dX9_sign_178 ?_
          refine x_aload_n dX9_sign_181 rfl ?_
          refine g_I (s0_42 L) fkX9_100 rfl rfl dX9_sign_182 ?_
          refine x_as (show _ = nI (nz + 1) from rfl) ?_
          refine x_iconst dX9_sign_185 iconst_1 ?_
          refine n_isub dX9_sign_186 (by omega) ?_
          refine x_iret dX9_sign_187 rfl rfl ?_
          obtain ⟨cc, ee, hce1, hce2, hce3⟩ : ∃ cc ee : Nat, (k ≠ 4 → y = nI cc ∧ cc < w * h) ∧ v = nI ee ∧ ((k = 0 → ee < 4) ∧ (k = 4 → ee < ns) ∧ (k = 5 → ee < 16) ∧ (k = 1 ∨ k = 2 ∨ k = 3 → ee = 0)) := by
            have hok := hb.mp x1
            unfold sgAt at hat
            by_cases h4 : k = 4
            · rw [if_pos h4] at hat
              obtain ⟨e, he, rfl⟩ := hat
              exact ⟨0, e, fun z => absurd h4 z, rfl, by omega, fun _ => he, by omega, by omega⟩
            · rw [if_neg h4] at hat
              obtain ⟨c, hc, rfl⟩ := hat
              rcases hok with z | ⟨z, e, he, rfl⟩ | ⟨z, e, he, rfl⟩ | ⟨z1, z2, z3, rfl⟩
              · exact absurd z h4
              · exact ⟨c, e, fun _ => ⟨rfl, hc⟩, rfl, by omega, by omega, by omega, by omega⟩
              · exact ⟨c, e, fun _ => ⟨rfl, hc⟩, rfl, by omega, by omega, by omega, by omega⟩
              · exact ⟨c, 0, fun _ => ⟨rfl, hc⟩, rfl, by omega, by omega, by omega, by omega⟩
          refine hY k cc ee wo hk hwo rfl rfl hce2 hce1 hce3 hat (hb.mp x1) (by omega) _ (fun q hq => ?_) ⟨K, SM, ⟨rfl, fun i hi => ?_⟩, RO, OM⟩
          · rw [sM_ne _ _ _ (by omega), sM_ne _ _ _ (by omega), sM_ne _ _ _ (by omega), sM_ne _ _ _ (by omega), sM_ne _ _ _ (by omega)]
          · show upd (M 58) nz (nI k) i = nI (if i = nz then (k, cc, ee, wo) else U i).1 ∧ ((if i = nz then (k, cc, ee, wo) else U i).1 ≠ 4 → upd (M 59) nz y i = nI (if i = nz then (k, cc, ee, wo) else U i).2.1) ∧ upd (M 60) nz v i = nI (if i = nz then (k, cc, ee, wo) else U i).2.2.1 ∧ upd (M 61) nz (nI wo) i = nI (if i = nz then (k, cc, ee, wo) else U i).2.2.2
            by_cases e : i = nz
            · rw [e, if_pos rfl, upd_at, upd_at, upd_at, upd_at]; exact ⟨rfl, fun z => (hce1 z).1, hce2, rfl⟩
            · rw [if_neg e, upd_ne _ _ e, upd_ne _ _ e, upd_ne _ _ e, upd_ne _ _ e]; exact ZM.2 i (by omega)
        · refine x_ldc kcX9_130 dX9_sign_127 ?_
          refine x_iret dX9_sign_129 rfl rfl ?_
          exact hF k wo hk hwo rfl rfl hat (hb.mp x1) x3
      · refine x_ldc kcX9_117 dX9_sign_115 ?_
        refine x_iret dX9_sign_117 rfl rfl ?_
        exact hO1 k hk rfl hat (fun z => k2.2 x2 z.2)
  have s42 : ∀ k : Nat, (0 ≤ k ∧ k ≤ 5) → x = nI k → sgAt k ns (w * h) y v → PM E l mX9_sign 42 [.ref 42, .int x, .int y, .int v, .int u, .null] [] (S0 L) M 0 0 Q := by
    rintro k hk rfl hat
    refine x_iload_n dX9_sign_42 rfl ?_
    refine x_iconst dX9_sign_43 iconst_4 ?_
    refine n_icmp_eq 90 dX9_sign_44 rfl (by omega) (by omega) (fun y1 => ?_) (fun y1 => ?_)
    · refine x_iconst dX9_sign_90 iconst_1 ?_
      refine x_goto 95 dX9_sign_91 rfl ?_
      refine x_istore dX9_sign_95 (by decide) rfl ?_
      exact s97 k hk rfl hat true (iff_t (Or.inl y1))
    · refine x_iload_n dX9_sign_47 rfl ?_
      refine n_if_ne 66 dX9_sign_48 rfl (by omega) (fun y2 => ?_) (fun y2 => ?_)
      · refine x_iload_n dX9_sign_66 rfl ?_
        refine x_iconst dX9_sign_67 iconst_5 ?_
        refine n_icmp_ne 86 dX9_sign_68 rfl (by omega) (by omega) (fun y4 => ?_) (fun y4 => ?_)
        · refine x_iload_n dX9_sign_86 rfl ?_
          refine x_if_ne 94 dX9_sign_87 rfl (fun y6 => ?_) (fun y6 => ?_)
          · refine x_iconst dX9_sign_94 iconst_0 ?_
            refine x_istore dX9_sign_95 (by decide) rfl ?_
            exact s97 k hk rfl hat false (iff_f (fun z => by rcases z with z | ⟨z, zz⟩ | ⟨z, zz⟩ | ⟨z1, z2, z3, z4⟩ <;> first | omega | exact y6 z4))
          · refine x_iconst dX9_sign_90 iconst_1 ?_
            refine x_goto 95 dX9_sign_91 rfl ?_
            refine x_istore dX9_sign_95 (by decide) rfl ?_
            exact s97 k hk rfl hat true (iff_t (Or.inr (Or.inr (Or.inr ⟨y1, y2, y4, y6⟩))))
        · refine x_iload_n dX9_sign_71 rfl ?_
          refine x_i2l dX9_sign_72 ?_
          refine x_lconst dX9_sign_73 rfl ?_
          refine x_ldc2 klX9_195 dX9_sign_74 ?_
          refine cS3 (mj := mX9_in) lkX9_107 okX9_in stX9_in rfl rfl rfl rfl dX9_sign_77 rfl (c_in _ _ _ (fun b1 b1h => ?_))
          have k1 := in_two (x := 0) (b1h.trans (in_r64 (a := 0) (b := 15) (by decide) (by decide) (by omega) (by omega) _))
          refine b_if_eq 94 dX9_sign_80 rfl (fun y5 => ?_) (fun y5 => ?_)
          · refine x_iconst dX9_sign_94 iconst_0 ?_
            refine x_istore dX9_sign_95 (by decide) rfl ?_
            exact s97 k hk rfl hat false (iff_f (fun z => by rcases z with z | ⟨z, zz⟩ | ⟨z, zz⟩ | ⟨z1, z2, z3, z4⟩ <;> first | omega | exact k1.2 y5 zz))
          · refine x_goto 90 dX9_sign_83 rfl ?_
            refine x_iconst dX9_sign_90 iconst_1 ?_
            refine x_goto 95 dX9_sign_91 rfl ?_
            refine x_istore dX9_sign_95 (by decide) rfl ?_
            exact s97 k hk rfl hat true (iff_t (Or.inr (Or.inr (Or.inl ⟨y4, k1.1 y5⟩))))
      · refine x_iload_n dX9_sign_51 rfl ?_
        refine x_i2l dX9_sign_52 ?_
        refine x_lconst dX9_sign_53 rfl ?_
        refine x_ldc2 klX9_193 dX9_sign_54 ?_
        refine cS3 (mj := mX9_in) lkX9_107 okX9_in stX9_in rfl rfl rfl rfl dX9_sign_57 rfl (c_in _ _ _ (fun b1 b1h => ?_))
        have k1 := in_two (x := 0) (b1h.trans (in_r64 (a := 0) (b := 3) (by decide) (by decide) (by omega) (by omega) _))
        refine b_if_eq 94 dX9_sign_60 rfl (fun y3 => ?_) (fun y3 => ?_)
        · refine x_iconst dX9_sign_94 iconst_0 ?_
          refine x_istore dX9_sign_95 (by decide) rfl ?_
          exact s97 k hk rfl hat false (iff_f (fun z => by rcases z with z | ⟨z, zz⟩ | ⟨z, zz⟩ | ⟨z1, z2, z3, z4⟩ <;> first | omega | exact k1.2 y3 zz))
        · refine x_goto 90 dX9_sign_63 rfl ?_
          refine x_iconst dX9_sign_90 iconst_1 ?_
          refine x_goto 95 dX9_sign_91 rfl ?_
          refine x_istore dX9_sign_95 (by decide) rfl ?_
          exact s97 k hk rfl hat true (iff_t (Or.inr (Or.inl ⟨y2, k1.1 y3⟩)))
  refine x_iload_n dX9_sign_0 rfl ?_
  refine x_i2l dX9_sign_1 ?_
  refine x_lconst dX9_sign_2 rfl ?_
  refine x_ldc2 klX9_125 dX9_sign_3 ?_
  refine cS3 (mj := mX9_in) lkX9_107 okX9_in stX9_in rfl rfl rfl rfl dX9_sign_6 rfl (c_in _ _ _ (fun b0 b0h => ?_))
  have k0 := in_two (x := 0) (b0h.trans (in_r64 (a := 0) (b := 5) (by decide) (by decide) (by omega) (by omega) _))
  refine b_if_ne 15 dX9_sign_9 rfl (fun z0 => ?_) (fun z0 => ?_)
  · obtain ⟨k, hk, rfl⟩ := k0.1 z0
    refine x_iload_n dX9_sign_15 rfl ?_
    refine x_iconst dX9_sign_16 iconst_4 ?_
    refine n_icmp_ne 31 dX9_sign_17 rfl (by omega) (by omega) (fun z1 => ?_) (fun z1 => ?_)
    · refine x_aload_n dX9_sign_31 rfl ?_
      refine x_iload_n dX9_sign_32 rfl ?_
      refine cV1 (mj := mX9_isCell) lkX9_118 okX9_isCell imX9_isCell seX9_isCell (s0_42 L) rfl rfl rfl rfl rfl dX9_sign_33 rfl (m_isCell (by omega) K.1 K.2.1 _ (fun b1 b1h => ?_))
      have k1 := in_two (x := 0) b1h
      refine b_if_ne 42 dX9_sign_36 rfl (fun z2 => ?_) (fun z2 => ?_)
      · exact s42 k hk rfl (by unfold sgAt; rw [if_neg z1]; exact k1.1 z2)
      · refine x_ldc kcX9_122 dX9_sign_39 ?_
        refine x_iret dX9_sign_41 rfl rfl ?_
        exact hN k hk rfl (by unfold sgAt; rw [if_neg z1]; exact k1.2 z2)
    · refine x_aload_n dX9_sign_20 rfl ?_
      refine x_iload_n dX9_sign_21 rfl ?_
      refine cV1 (mj := mX9_isStone) lkX9_131 okX9_isStone imX9_isStone seX9_isStone (s0_42 L) rfl rfl rfl rfl rfl dX9_sign_22 rfl (m_isStone (by omega) SM.1 _ (fun b1 b1h => ?_))
      have k1 := in_two (x := 0) b1h
      refine b_if_ne 42 dX9_sign_25 rfl (fun z2 => ?_) (fun z2 => ?_)
      · exact s42 k hk rfl (by unfold sgAt; rw [if_pos z1]; exact k1.1 z2)
      · refine x_goto 39 dX9_sign_28 rfl ?_
        refine x_ldc kcX9_122 dX9_sign_39 ?_
        refine x_iret dX9_sign_41 rfl rfl ?_
        exact hN k hk rfl (by unfold sgAt; rw [if_pos z1]; exact k1.2 z2)
  · refine x_ldc kcX9_117 dX9_sign_12 ?_
    refine x_iret dX9_sign_14 rfl rfl ?_
    exact hO0 (k0.2 z0)
set_option maxRecDepth 100000 in
set_option maxHeartbeats 4000000 in
theorem m_forget {E : vE} {l : Launch} {Q : Option Value → vS → vM → Prop} {L : Nat} {M : vM} {w h : Nat} {ht rk : Nat → Nat} {ns : Nat} {T : Nat → vT} {ng : Nat} {G : Nat → vQ} {Rw : Nat → Nat × (Nat → Nat)} {nz : Nat} {U : Nat → vU} {O : Nat → Nat} (VV : Val w h ht rk ns T ng G Rw nz U O) (RR : RepM M w h ht rk ns T ng G Rw nz U O) {x : Int32} (hN : ¬ INn nz x → Q (some (.int (-900001))) (S0 L) M) (hY : ∀ t : Nat, t < nz → x = nI t → ∀ M1 : vM, (∀ q, q < 42 → M1 q = M q) → RepM M1 w h ht rk ns T ng G Rw (nz - 1) (fun k => if k < t then U k else U (k + 1)) O → Q (some (.int (nI (U t).2.2.2))) (S0 L) M1) : PM E l mX9_forget 0 [.ref 42, .int x, .null, .null] [] (S0 L) M 0 0 Q := by
  have RR0 := RR
  have VV0 := VV
  obtain ⟨V, SVv, ZV, RV, OV⟩ := VV
  obtain ⟨K, SM, ZM, RO, OM⟩ := RR
  have H := V.1
  have e4 := H.le
  have e6 := H.pos
  have hng := V.2.2.1
  have hns := SVv.1
  have hnz := ZV.1
  refine x_aload_n dX9_forget_0 rfl ?_
  refine x_iload_n dX9_forget_1 rfl ?_
  refine cV1 (mj := mX9_isSign) lkX9_197 okX9_isSign imX9_isSign seX9_isSign (s0_42 L) rfl rfl rfl rfl rfl dX9_forget_2 rfl (m_isSign (by omega) ZM.1 _ (fun b0 b0h => ?_))
  have k0 := in_two (x := 0) b0h
  refine b_if_ne 11 dX9_forget_5 rfl (fun z0 => ?_) (fun z0 => ?_)
  · obtain ⟨t, htt, rfl⟩ := k0.1 z0
    refine x_aload_n dX9_forget_11 rfl ?_
    refine g_R (s0_42 L) fkX9_65 rfl rfl rfl dX9_forget_12 ?_
    refine x_iload_n dX9_forget_15 rfl ?_
    refine n_iald (s0_61 L) (by omega) rfl dX9_forget_16 ?_
    refine x_as (ZM.2 t htt).2.2.2 ?_
    refine x_istore_n dX9_forget_17 (by decide) rfl ?_
    refine x_aload_n dX9_forget_18 rfl ?_
    refine x_dup dX9_forget_19 rfl ?_
    refine g_I (s0_42 L) fkX9_100 rfl rfl dX9_forget_20 ?_
    refine x_as ZM.1 ?_
    refine x_iconst dX9_forget_23 iconst_1 ?_
    refine n_isub dX9_forget_24 (by omega) ?_
    refine g_P (s0_42 L) fkX9_100 rfl rfl rfl rfl dX9_forget_25 ?_
    refine x_iload_n dX9_forget_28 rfl ?_
    refine x_istore_n dX9_forget_29 (by decide) rfl ?_
    have l1 : t ≤ t → ∀ M1 : vM, Fr [42, 58, 59, 60, 61] M M1 → (∀ j, j ≠ 20 → M1 42 j = M 42 j) → M1 42 20 = nI (nz - 1) → (∀ k, k < nz → ∀ q ∈ [58, 59, 60, 61], M1 q k = if k < t then (if k < t then M q k else M q (k + 1)) else M q k) → PM E l mX9_forget 30 [.ref 42, .int (nI t), .int (nI (U t).2.2.2), .int (nI t)] [] (S0 L) M1 0 0 Q := by
      refine lp_up (P := fun i => t ≤ i → ∀ M1 : vM, Fr [42, 58, 59, 60, 61] M M1 → (∀ j, j ≠ 20 → M1 42 j = M 42 j) → M1 42 20 = nI (nz - 1) → (∀ k, k < nz → ∀ q ∈ [58, 59, 60, 61], M1 q k = if k < i then (if k < t then M q k else M q (k + 1)) else M q k) → PM E l mX9_forget 30 [.ref 42, .int (nI t), .int (nI (U t).2.2.2), .int (nI i)] [] (S0 L) M1 0 0 Q) (nz - 1) ?_ ?_ t (by omega)
      · intro hti M1 g1 g2 g3 g4
        refine x_iload_n dX9_forget_30 rfl ?_
        refine x_aload_n dX9_forget_31 rfl ?_
        refine g_I (s0_42 L) fkX9_100 rfl rfl dX9_forget_32 ?_
        refine x_as g3 ?_
        refine n_icmp_ge 100 dX9_forget_35 rfl (by omega) (by omega) (fun h1 => ?_) (fun h1 => by omega)
        refine x_iload_n dX9_forget_100 rfl ?_
        refine x_iret dX9_forget_101 rfl rfl ?_
        refine hY t htt rfl M1 (low_of g1 (by decide)) ⟨K.kept2 (fun q hq => g1 q (by revert q; decide)) (fun j hj => g2 j (by revert j; decide)), SM.kept (fun q hq => g1 q (by revert q; decide)) (g2 4 (by decide)), ⟨g3, fun k hk => ?_⟩, fun s hs => by rw [g1 55 (by decide), g1 56 (by decide)]; exact RO s hs, fun a ha => by rw [g1 65 (by decide)]; exact OM a ha⟩
        have h58 := g4 k (by omega) 58 (by decide)
        have h59 := g4 k (by omega) 59 (by decide)
        have h60 := g4 k (by omega) 60 (by decide)
        have h61 := g4 k (by omega) 61 (by decide)
        rw [if_pos hk] at h58 h59 h60 h61
        rw [h58, h59, h60, h61]
        by_cases e : k < t
        · simp only [if_pos e]; exact ZM.2 k (by omega)
        · simp only [if_neg e]; exact ZM.2 (k + 1) (by omega)
      · intro i hi ih hti M1 g1 g2 g3 g4
        refine x_iload_n dX9_forget_30 rfl ?_
        refine x_aload_n dX9_forget_31 rfl ?_
        refine g_I (s0_42 L) fkX9_100 rfl rfl dX9_forget_32 ?_
        refine x_as g3 ?_
        refine n_icmp_ge 100 dX9_forget_35 rfl (by omega) (by omega) (fun h1 => by omega) (fun h1 => ?_)
        refine x_aload_n dX9_forget_38 rfl ?_
        refine g_R (s0_42 L) fkX9_56 rfl rfl rfl dX9_forget_39 ?_
        refine x_iload_n dX9_forget_42 rfl ?_
        refine x_aload_n dX9_forget_43 rfl ?_
        refine g_R (s0_42 L) fkX9_56 rfl rfl rfl dX9_forget_44 ?_
        refine x_iload_n dX9_forget_47 rfl ?_
        refine x_iconst dX9_forget_48 iconst_1 ?_
        refine n_iadd dX9_forget_49 ?_
        refine n_iald (s0_58 L) (by omega) rfl dX9_forget_50 ?_
        refine x_as ((g4 (i + 1) (by omega) 58 (by decide)).trans (if_neg (by omega))) ?_
        refine n_iast rfl (s0_58 L) (by omega) rfl dX9_forget_51 ?_
        refine x_aload_n dX9_forget_52 rfl ?_
        refine g_R (s0_42 L) fkX9_59 rfl rfl rfl dX9_forget_53 ?_
        refine x_iload_n dX9_forget_56 rfl ?_
        refine x_aload_n dX9_forget_57 rfl ?_
        refine g_R (s0_42 L) fkX9_59 rfl rfl rfl dX9_forget_58 ?_
        refine x_iload_n dX9_forget_61 rfl ?_
        refine x_iconst dX9_forget_62 iconst_1 ?_
        refine n_iadd dX9_forget_63 ?_
        refine n_iald (s0_59 L) (by omega) rfl dX9_forget_64 ?_
        refine x_as ((g4 (i + 1) (by omega) 59 (by decide)).trans (if_neg (by omega))) ?_
        refine n_iast rfl (s0_59 L) (by omega) rfl dX9_forget_65 ?_
        refine x_aload_n dX9_forget_66 rfl ?_
        refine g_R (s0_42 L) fkX9_62 rfl rfl rfl dX9_forget_67 ?_
        refine x_iload_n dX9_forget_70 rfl ?_
        refine x_aload_n dX9_forget_71 rfl ?_
        refine g_R (s0_42 L) fkX9_62 rfl rfl rfl dX9_forget_72 ?_
        refine x_iload_n dX9_forget_75 rfl ?_
        refine x_iconst dX9_forget_76 iconst_1 ?_
        refine n_iadd dX9_forget_77 ?_
        refine n_iald (s0_60 L) (by omega) rfl dX9_forget_78 ?_
        refine x_as ((g4 (i + 1) (by omega) 60 (by decide)).trans (if_neg (by omega))) ?_
        refine n_iast rfl (s0_60 L) (by omega) rfl dX9_forget_79 ?_
        refine x_aload_n dX9_forget_80 rfl ?_
        refine g_R (s0_42 L) fkX9_65 rfl rfl rfl dX9_forget_81 ?_
        refine x_iload_n dX9_forget_84 rfl ?_
        refine x_aload_n dX9_forget_85 rfl ?_
        refine g_R (s0_42 L) fkX9_65 rfl rfl rfl dX9_forget_86 ?_
        refine x_iload_n dX9_forget_89 rfl ?_
        refine x_iconst dX9_forget_90 iconst_1 ?_
        refine n_iadd dX9_forget_91 ?_
        refine n_iald (s0_61 L) (by omega) rfl dX9_forget_92 ?_
        refine x_as ((g4 (i + 1) (by omega) 61 (by decide)).trans (if_neg (by omega))) ?_
        refine n_iast rfl (s0_61 L) (by omega) rfl dX9_forget_93 ?_
        refine n_inc dX9_forget_94 rfl rfl ?_
        refine x_goto 30 dX9_forget_97 rfl ?_
        refine ih (by omega) _ ((((g1.set _ (by decide)).set _ (by decide)).set _ (by decide)).set _ (by decide)) g2 g3 (fun k hk q hq => ?_)
        have hcase : q = 58 ∨ q = 59 ∨ q = 60 ∨ q = 61 := by simpa using hq
        have h9 := g4 k hk q hq
        by_cases e : k = i
        · subst e
          rw [if_pos (by omega), if_neg (by omega)]
          rcases hcase with rfl | rfl | rfl | rfl <;> exact upd_at _ _ _
        · have e2 : sM (sM (sM (sM M1 58 (upd (M1 58) i (M 58 (i + 1)))) 59 (upd (M1 59) i (M 59 (i + 1)))) 60 (upd (M1 60) i (M 60 (i + 1)))) 61 (upd (M1 61) i (M 61 (i + 1))) q k = M1 q k := by
            rcases hcase with rfl | rfl | rfl | rfl <;> exact upd_ne _ _ e
          refine e2.trans (h9.trans ?_)
          by_cases e3 : k < i
          · rw [if_pos e3, if_pos (show k < i + 1 by omega)]
          · rw [if_neg e3, if_neg (show ¬ k < i + 1 by omega)]
    refine l1 (Nat.le_refl _) _ (Fr.rf.set _ (by decide)) (fun j hj => upd_ne _ _ hj) rfl (fun k hk q hq => ?_)
    have hcase : q = 58 ∨ q = 59 ∨ q = 60 ∨ q = 61 := by simpa using hq
    have e1 : sM M 42 (upd (M 42) 20 (nI (nz - 1))) q = M q := sM_ne _ _ _ (by omega)
    rw [e1]
    split <;> rfl
  · refine x_ldc kcX9_122 dX9_forget_8 ?_
    refine x_iret dX9_forget_10 rfl rfl ?_
    exact hN (k0.2 z0)
theorem lc0 (ng : Nat) : (lcS ng 0 3).1 = true ∧ (lcS ng 0 3).2.2.1 = 0 := by
  have : ∀ k, dg 0 k = 0 := fun k => by unfold dg; rw [Nat.zero_div]
  have h1 : lcS ng 0 3 = (true, true, 0, fun _ => 0) := by simp only [lcS, lcT, this, if_true]
  rw [h1]; exact ⟨rfl, rfl⟩
theorem bs_some {ng : Nat} {cf : Nat → (Nat → Nat) → Nat} : ∀ i, ∃ b, (bsS ng cf (i + 1)).2 = some b
  | 0 => by
    show ∃ b, (bsT (lcS ng 0 3).1 (cf (lcS ng 0 3).2.2.1 (lcS ng 0 3).2.2.2) (lcS ng 0 3).2.2.1 (lcS ng 0 3).2.2.2 (bsS ng cf 0)).2 = some b
    rw [bs_take (lc0 ng).1 (fun b z => by cases z)]
    exact ⟨_, rfl⟩
  | i + 1 => by
    obtain ⟨b, hb⟩ := bs_some (ng := ng) (cf := cf) i
    show ∃ b, (bsT (lcS ng (i + 1) 3).1 _ _ _ (bsS ng cf (i + 1))).2 = some b
    unfold bsT
    split
    · rw [hb]
      simp only
      split
      · exact ⟨_, rfl⟩
      · exact ⟨_, rfl⟩
    · exact ⟨b, hb⟩
set_option maxRecDepth 100000 in
set_option maxHeartbeats 4000000 in
theorem m_fits {E : vE} {l : Launch} {Q : Option Value → vS → vM → Prop} {L : Nat} {M : vM} {w h : Nat} {ht rk : Nat → Nat} {ns : Nat} {T : Nat → vT} {ng : Nat} {G : Nat → vQ} {Rw : Nat → Nat × (Nat → Nat)} {nz : Nat} {U : Nat → vU} {O : Nat → Nat} (VV : Val w h ht rk ns T ng G Rw nz U O) (RR : RepM M w h ht rk ns T ng G Rw nz U O) (hY : ∀ M1 : vM, (∀ q, q < 42 → M1 q = M q) → RepM M1 w h ht rk ns T ng G Rw nz U O → Q (some (.int (nI (bsS ng (fun m r => cst w h ht G r m rk T U nz) 343).1))) (S0 L) M1) : PM E l mX9_fits 0 [.ref 42] [] (S0 L) M 0 0 Q := by
  have RR0 := RR
  have VV0 := VV
  obtain ⟨V, SVv, ZV, RV, OV⟩ := VV
  obtain ⟨K, SM, ZM, RO, OM⟩ := RR
  have H := V.1
  have e4 := H.le
  have e6 := H.pos
  have hng := V.2.2.1
  have hns := SVv.1
  have hnz := ZV.1
  refine x_aload_n dX9_fits_0 rfl ?_
  refine cV0 (mj := mX9_layBest) lkX9_229 okX9_layBest imX9_layBest seX9_layBest (s0_42 L) rfl rfl rfl rfl rfl dX9_fits_1 rfl (m_layBest V K SVv SM ZV ZM (fun M1 y1 y2 D y4 => ?_))
  have R1 := RR0.scr y1 (by decide) (fun j hj => y2 j (by revert j; decide) (by revert j; decide) (by revert j; decide) (by revert j; decide))
  have L1 := low_of y1 (by decide)
  obtain ⟨b, hb⟩ := bs_some (ng := ng) (cf := (fun m r => cst w h ht G r m rk T U nz)) 342
  have y5 := y4.2
  rw [hb] at y5
  simp only at y5
  have hb3 := bsS_many _ b hb
  refine x_aload_n dX9_fits_4 rfl ?_
  refine g_I (s0_42 L) fkX9_216 rfl rfl dX9_fits_5 ?_
  refine x_as y4.1 ?_
  refine x_iret dX9_fits_8 rfl rfl ?_
  exact hY M1 L1 R1
set_option maxRecDepth 100000 in
set_option maxHeartbeats 4000000 in
theorem m_best {E : vE} {l : Launch} {Q : Option Value → vS → vM → Prop} {L : Nat} {M : vM} {w h : Nat} {ht rk : Nat → Nat} {ns : Nat} {T : Nat → vT} {ng : Nat} {G : Nat → vQ} {Rw : Nat → Nat × (Nat → Nat)} {nz : Nat} {U : Nat → vU} {O : Nat → Nat} (VV : Val w h ht rk ns T ng G Rw nz U O) (RR : RepM M w h ht rk ns T ng G Rw nz U O) (hY : ∀ b, (bsS ng (fun m r => cst w h ht G r m rk T U nz) 343).2 = some b → ∀ M1 : vM, (∀ q, q < 42 → M1 q = M q) → RepM M1 w h ht rk ns T ng G Rw nz U O → Q (some (.int (nI b.1))) (S0 L) M1) : PM E l mX9_best 0 [.ref 42] [] (S0 L) M 0 0 Q := by
  have RR0 := RR
  have VV0 := VV
  obtain ⟨V, SVv, ZV, RV, OV⟩ := VV
  obtain ⟨K, SM, ZM, RO, OM⟩ := RR
  have H := V.1
  have e4 := H.le
  have e6 := H.pos
  have hng := V.2.2.1
  have hns := SVv.1
  have hnz := ZV.1
  refine x_aload_n dX9_best_0 rfl ?_
  refine cV0 (mj := mX9_layBest) lkX9_229 okX9_layBest imX9_layBest seX9_layBest (s0_42 L) rfl rfl rfl rfl rfl dX9_best_1 rfl (m_layBest V K SVv SM ZV ZM (fun M1 y1 y2 D y4 => ?_))
  have R1 := RR0.scr y1 (by decide) (fun j hj => y2 j (by revert j; decide) (by revert j; decide) (by revert j; decide) (by revert j; decide))
  have L1 := low_of y1 (by decide)
  obtain ⟨b, hb⟩ := bs_some (ng := ng) (cf := (fun m r => cst w h ht G r m rk T U nz)) 342
  have y5 := y4.2
  rw [hb] at y5
  simp only at y5
  have hb3 := bsS_many _ b hb
  refine x_aload_n dX9_best_4 rfl ?_
  refine g_I (s0_42 L) fkX9_220 rfl rfl dX9_best_5 ?_
  refine x_as y5.1 ?_
  refine x_iret dX9_best_8 rfl rfl ?_
  exact hY b hb M1 L1 R1
set_option maxRecDepth 100000 in
set_option maxHeartbeats 4000000 in
theorem m_bestGo {E : vE} {l : Launch} {Q : Option Value → vS → vM → Prop} {L : Nat} {M : vM} {w h : Nat} {ht rk : Nat → Nat} {ns : Nat} {T : Nat → vT} {ng : Nat} {G : Nat → vQ} {Rw : Nat → Nat × (Nat → Nat)} {nz : Nat} {U : Nat → vU} {O : Nat → Nat} (VV : Val w h ht rk ns T ng G Rw nz U O) (RR : RepM M w h ht rk ns T ng G Rw nz U O) {x : Int32} (hO : ∀ b, (bsS ng (fun m r => cst w h ht G r m rk T U nz) 343).2 = some b → ¬ INn b.2.1 x → ∀ M1 : vM, (∀ q, q < 42 → M1 q = M q) → RepM M1 w h ht rk ns T ng G Rw nz U O → Q (some (.int (-900009))) (S0 L) M1) (hY : ∀ b, (bsS ng (fun m r => cst w h ht G r m rk T U nz) 343).2 = some b → ∀ j : Nat, j < b.2.1 → x = nI j → ∀ M1 : vM, (∀ q, q < 42 → M1 q = M q) → RepM M1 w h ht rk ns T ng G Rw nz U O → Q (some (.int (nI (b.2.2 j)))) (S0 L) M1) : PM E l mX9_bestGo 0 [.ref 42, .int x] [] (S0 L) M 0 0 Q := by
  have RR0 := RR
  have VV0 := VV
  obtain ⟨V, SVv, ZV, RV, OV⟩ := VV
  obtain ⟨K, SM, ZM, RO, OM⟩ := RR
  have H := V.1
  have e4 := H.le
  have e6 := H.pos
  have hng := V.2.2.1
  have hns := SVv.1
  have hnz := ZV.1
  refine x_aload_n dX9_bestGo_0 rfl ?_
  refine cV0 (mj := mX9_layBest) lkX9_229 okX9_layBest imX9_layBest seX9_layBest (s0_42 L) rfl rfl rfl rfl rfl dX9_bestGo_1 rfl (m_layBest V K SVv SM ZV ZM (fun M1 y1 y2 D y4 => ?_))
  have R1 := RR0.scr y1 (by decide) (fun j hj => y2 j (by revert j; decide) (by revert j; decide) (by revert j; decide) (by revert j; decide))
  have L1 := low_of y1 (by decide)
  obtain ⟨b, hb⟩ := bs_some (ng := ng) (cf := (fun m r => cst w h ht G r m rk T U nz)) 342
  have y5 := y4.2
  rw [hb] at y5
  simp only at y5
  have hb3 := bsS_many _ b hb
  refine x_iload_n dX9_bestGo_4 rfl ?_
  refine x_i2l dX9_bestGo_5 ?_
  refine x_lconst dX9_bestGo_6 rfl ?_
  refine x_aload_n dX9_bestGo_7 rfl ?_
  refine g_I (s0_42 L) fkX9_226 rfl rfl dX9_bestGo_8 ?_
  refine x_as y5.2.1 ?_
  refine x_iconst dX9_bestGo_11 iconst_1 ?_
  refine x_isub dX9_bestGo_12 ?_
  refine x_i2l dX9_bestGo_13 ?_
  refine cS3 (mj := mX9_in) lkX9_107 okX9_in stX9_in rfl rfl rfl rfl dX9_bestGo_14 rfl (c_in _ _ _ (fun b1 b1h => ?_))
  have k1 := in_two (x := 0) (b1h.trans ((in64 (p' := 0) (q' := nI b.2.1 - 1) (by decide) rfl _).trans (in_nat (by omega) _)))
  refine b_if_eq 29 dX9_bestGo_17 rfl (fun z1 => ?_) (fun z1 => ?_)
  · refine x_ldc kcX9_134 dX9_bestGo_29 ?_
    refine x_iret dX9_bestGo_31 rfl rfl ?_
    exact hO b hb (k1.2 z1) M1 L1 R1
  · obtain ⟨j, hj, rfl⟩ := k1.1 z1
    refine x_aload_n dX9_bestGo_20 rfl ?_
    refine g_R (s0_42 L) fkX9_68 rfl rfl rfl dX9_bestGo_21 ?_
    refine x_iload_n dX9_bestGo_24 rfl ?_
    refine n_iald (s0_62 L) (by omega) rfl dX9_bestGo_25 ?_
    refine x_as (y5.2.2 j hj) ?_
    refine x_goto 31 dX9_bestGo_26 rfl ?_
    refine x_iret dX9_bestGo_31 rfl rfl ?_
    exact hY b hb j hj rfl M1 L1 R1
set_option maxRecDepth 100000 in
set_option maxHeartbeats 4000000 in
theorem m_take {E : vE} {l : Launch} {Q : Option Value → vS → vM → Prop} {L : Nat} {M : vM} {w h : Nat} {ht rk : Nat → Nat} {ns : Nat} {T : Nat → vT} {ng : Nat} {G : Nat → vQ} {Rw : Nat → Nat × (Nat → Nat)} {nz : Nat} {U : Nat → vU} {O : Nat → Nat} (VV : Val w h ht rk ns T ng G Rw nz U O) (RR : RepM M w h ht rk ns T ng G Rw nz U O) {x : Int32} (hN : ¬ INr 0 2 x → Q (some (.int (-900001))) (S0 L) M) (hY : ∀ s : Nat, (0 ≤ s ∧ s ≤ 2) → x = nI s → ∀ b, (bsS ng (fun m r => cst w h ht G r m rk T U nz) 343).2 = some b → ∀ M1 : vM, (∀ q, q < 42 → M1 q = M q) → RepM M1 w h ht rk ns T ng G (setRow Rw s b.2) nz U O → Q (some (.int (nI b.2.1))) (S0 L) M1) : PM E l mX9_take 0 [.ref 42, .int x, .null] [] (S0 L) M 0 0 Q := by
  have RR0 := RR
  have VV0 := VV
  obtain ⟨V, SVv, ZV, RV, OV⟩ := VV
  obtain ⟨K, SM, ZM, RO, OM⟩ := RR
  have H := V.1
  have e4 := H.le
  have e6 := H.pos
  have hng := V.2.2.1
  have hns := SVv.1
  have hnz := ZV.1
  refine x_iload_n dX9_take_0 rfl ?_
  refine cS1 (mj := mX9_isSlot) lkX9_173 okX9_isSlot stX9_isSlot rfl rfl rfl rfl dX9_take_1 rfl (m_isSlot _ (fun b0 b0h => ?_))
  have k0 := in_two (x := 0) b0h
  refine b_if_ne 10 dX9_take_4 rfl (fun z0 => ?_) (fun z0 => ?_)
  · obtain ⟨s, hs, rfl⟩ := k0.1 z0
    refine x_aload_n dX9_take_10 rfl ?_
    refine cV0 (mj := mX9_layBest) lkX9_229 okX9_layBest imX9_layBest seX9_layBest (s0_42 L) rfl rfl rfl rfl rfl dX9_take_11 rfl (m_layBest V K SVv SM ZV ZM (fun M1 y1 y2 D y4 => ?_))
    have R1 := RR0.scr y1 (by decide) (fun j hj => y2 j (by revert j; decide) (by revert j; decide) (by revert j; decide) (by revert j; decide))
    have L1 := low_of y1 (by decide)
    obtain ⟨b, hb⟩ := bs_some (ng := ng) (cf := (fun m r => cst w h ht G r m rk T U nz)) 342
    have y5 := y4.2
    rw [hb] at y5
    simp only at y5
    have hb3 := bsS_many _ b hb
    refine x_aload_n dX9_take_14 rfl ?_
    refine g_R (s0_42 L) fkX9_47 rfl rfl rfl dX9_take_15 ?_
    refine x_iload_n dX9_take_18 rfl ?_
    refine x_aload_n dX9_take_19 rfl ?_
    refine g_I (s0_42 L) fkX9_226 rfl rfl dX9_take_20 ?_
    refine x_as y5.2.1 ?_
    refine n_iast rfl (s0_55 L) (by omega) rfl dX9_take_23 ?_
    refine x_iconst dX9_take_24 iconst_0 ?_
    refine x_istore_n dX9_take_25 (by decide) rfl ?_
    have l1 : ∀ M2 : vM, Fr [55, 56] M1 M2 → (∀ i, i ≠ s → M2 55 i = M1 55 i) → M2 55 s = nI b.2.1 → (∀ k, k < 0 → M2 56 (6 * s + k) = nI (b.2.2 k)) → (∀ k, (k < 6 * s ∨ 6 * s + 6 ≤ k) → M2 56 k = M1 56 k) → PM E l mX9_take 26 [.ref 42, .int (nI s), .int (nI 0)] [] (S0 L) M2 0 0 Q := by
      refine lp_up (P := fun i => ∀ M2 : vM, Fr [55, 56] M1 M2 → (∀ i, i ≠ s → M2 55 i = M1 55 i) → M2 55 s = nI b.2.1 → (∀ k, k < i → M2 56 (6 * s + k) = nI (b.2.2 k)) → (∀ k, (k < 6 * s ∨ 6 * s + 6 ≤ k) → M2 56 k = M1 56 k) → PM E l mX9_take 26 [.ref 42, .int (nI s), .int (nI i)] [] (S0 L) M2 0 0 Q) b.2.1 ?_ ?_ 0 (Nat.zero_le _)
      · intro M2 g1 g2 g3 g4 g5
        refine x_iload_n dX9_take_26 rfl ?_
        refine x_aload_n dX9_take_27 rfl ?_
        refine g_I (s0_42 L) fkX9_226 rfl rfl dX9_take_28 ?_
        refine x_as ((congrFun (g1 42 (by decide)) 27).trans y5.2.1) ?_
        refine n_icmp_ge 57 dX9_take_31 rfl (by omega) (by omega) (fun h1 => ?_) (fun h1 => by omega)
        refine x_aload_n dX9_take_57 rfl ?_
        refine g_I (s0_42 L) fkX9_226 rfl rfl dX9_take_58 ?_
        refine x_as ((congrFun (g1 42 (by decide)) 27).trans y5.2.1) ?_
        refine x_iret dX9_take_61 rfl rfl ?_
        refine hY s hs rfl b hb M2 (fun q hq => (g1 q (by simp; omega)).trans (L1 q hq)) ⟨R1.1.kept2 (fun q hq => g1 q (by revert q; decide)) (fun j hj => congrFun (g1 42 (by decide)) j), R1.2.1.kept (fun q hq => g1 q (by revert q; decide)) (congrFun (g1 42 (by decide)) 4), R1.2.2.1.kept (fun q hq => g1 q (by revert q; decide)) (congrFun (g1 42 (by decide)) 20), fun i hi => ?_, fun a ha => by rw [g1 65 (by decide)]; exact R1.2.2.2.2 a ha⟩
        show M2 55 i = nI (if i = s then b.2 else Rw i).1 ∧ ∀ k, k < (if i = s then b.2 else Rw i).1 → M2 56 (6 * i + k) = nI ((if i = s then b.2 else Rw i).2 k)
        by_cases e : i = s
        · subst e; rw [if_pos rfl]; exact ⟨g3, g4⟩
        · rw [if_neg e, g2 i e]
          refine ⟨(R1.2.2.2.1 i hi).1, fun k hk => ?_⟩
          have := (RV i hi).1.1
          rw [g5 _ (by omega)]
          exact (R1.2.2.2.1 i hi).2 k hk
      · intro i hi ih M2 g1 g2 g3 g4 g5
        refine x_iload_n dX9_take_26 rfl ?_
        refine x_aload_n dX9_take_27 rfl ?_
        refine g_I (s0_42 L) fkX9_226 rfl rfl dX9_take_28 ?_
        refine x_as ((congrFun (g1 42 (by decide)) 27).trans y5.2.1) ?_
        refine n_icmp_ge 57 dX9_take_31 rfl (by omega) (by omega) (fun h1 => by omega) (fun h1 => ?_)
        refine x_aload_n dX9_take_34 rfl ?_
        refine g_R (s0_42 L) fkX9_50 rfl rfl rfl dX9_take_35 ?_
        refine x_bipush dX9_take_38 bipush_6 ?_
        refine x_iload_n dX9_take_40 rfl ?_
        refine n_imul dX9_take_41 ?_
        refine x_iload_n dX9_take_42 rfl ?_
        refine n_iadd dX9_take_43 ?_
        refine x_aload_n dX9_take_44 rfl ?_
        refine g_R (s0_42 L) fkX9_68 rfl rfl rfl dX9_take_45 ?_
        refine x_iload_n dX9_take_48 rfl ?_
        refine n_iald (s0_62 L) (by omega) rfl dX9_take_49 ?_
        refine x_as ((congrFun (g1 62 (by decide)) _).trans (y5.2.2 i hi)) ?_
        refine n_iast rfl (s0_56 L) (by omega) rfl dX9_take_50 ?_
        refine n_inc dX9_take_51 rfl rfl ?_
        refine x_goto 26 dX9_take_54 rfl ?_
        refine ih _ (g1.set _ (by decide)) g2 g3 (fun k hk => ?_) (fun k hk => (upd_ne _ _ (by omega)).trans (g5 k hk))
        by_cases e : k = i
        · subst e; exact upd_at _ _ _
        · exact (upd_ne _ _ (by omega)).trans (g4 k (by omega))
    exact l1 _ (Fr.rf.set _ (by decide)) (fun i hi => upd_ne _ _ hi) (upd_at _ _ _) (fun k hk => absurd hk (Nat.not_lt_zero k)) (fun _ _ => rfl)
  · refine x_ldc kcX9_122 dX9_take_7 ?_
    refine x_iret dX9_take_9 rfl rfl ?_
    exact hN (k0.2 z0)

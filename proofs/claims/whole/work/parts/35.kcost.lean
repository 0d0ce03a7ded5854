theorem anyK_cong {p q : Nat → Bool} : ∀ {m : Nat}, (∀ k, k < m → p k = q k) → anyK p m = anyK q m
  | 0, _ => rfl
  | m + 1, h => by
    show (anyK p m || p m) = (anyK q m || q m)
    rw [anyK_cong (fun k hk => h k (by omega)), h m (by omega)]
theorem tP_f {w h : Nat} {ht : Nat → Nat} {t : Nat} {q : vQ} {c : Nat} (h4 : t < 4) : tP w h ht t q c = fP w h ht t q c := by unfold tP fP; rw [if_pos h4]
theorem hol_expl {w h : Nat} {ht : Nat → Nat} {G : Nat → vQ} {r : Nat → Nat} {m : Nat} {rk : Nat → Nat} {T : Nat → vT} {u : vU} (hk : u.1 ≤ 5) (h0 : u.1 = 0 → u.2.2.1 < 4) : hol w h ht G r m rk T u.1 u.2.1 u.2.2.1 = expl w h ht G r m rk T u := by
  unfold hol expl
  rcases (show u.1 = 0 ∨ u.1 = 1 ∨ u.1 = 2 ∨ u.1 = 3 ∨ u.1 = 4 ∨ u.1 = 5 by omega) with e | e | e | e | e | e
  · rw [e, if_neg (by omega), if_neg (by omega), if_neg (by omega), if_pos rfl]
    have := h0 e
    unfold thg
    rw [if_neg (by omega)]
    exact anyK_cong (fun k _ => (tP_f this).symm)
  · rw [e, if_neg (by omega), if_neg (by omega), if_neg (by omega), if_neg (by omega), if_pos rfl]
    rfl
  · rw [e, if_neg (by omega), if_neg (by omega), if_neg (by omega), if_neg (by omega), if_neg (by omega), if_pos rfl]
    rfl
  · rw [e, if_neg (by omega), if_neg (by omega), if_pos rfl, if_neg (by omega), if_neg (by omega), if_neg (by omega), if_pos rfl]
    rfl
  · rw [e, if_pos rfl, if_neg (by omega), if_neg (by omega), if_neg (by omega), if_neg (by omega), if_pos rfl]
  · rw [e, if_neg (by omega), if_pos rfl, if_neg (by omega), if_neg (by omega), if_neg (by omega), if_neg (by omega), if_neg (by omega)]
theorem hol_thg {w h : Nat} {ht : Nat → Nat} {G : Nat → vQ} {r : Nat → Nat} {m : Nat} {rk : Nat → Nat} {T : Nat → vT} {c t : Nat} (h7 : t < 7) : hol w h ht G r m rk T (if t < 4 then 0 else t - 4 + 1) c t = thg w h ht G r m c t := by
  by_cases h4 : t < 4
  · rw [if_pos h4]
    exact hol_expl (u := (0, c, t, 0)) (by show 0 ≤ 5; omega) (fun _ => h4)
  · rw [if_neg h4]
    rcases (show t = 4 ∨ t = 5 ∨ t = 6 by omega) with rfl | rfl | rfl <;> rfl
set_option maxRecDepth 100000 in
set_option maxHeartbeats 4000000 in
theorem k_isExplained {E : vE} {l : Launch} {Q : Option Value → vS → vM → Prop} {L : Nat} {M : vM} {w h ng : Nat} {ht : Nat → Nat} {G : Nat → vQ} (V : GoV w h ng ht G) (K : GoC M w h ng ht G) (D : LdC M w h ng ht G) {rw_ gw m : Nat} {r : Nat → Nat} (hRs : (S0 L)[rw_]? = some (3, 2, [gw + 1])) (hRg : (S0 L)[gw]? = some (100, 6, [])) (RV : RwV ng m r) (RM : M rw_ 1 = nI m) (RE : ∀ k, k < m → M gw k = nI (r k)) {ns : Nat} {rk : Nat → Nat} {T : Nat → vT} (SV : StV w h ns rk T) (SC : StC M w h ns rk T) {nz : Nat} {U : Nat → vU} (ZV : SgV w h ns nz U) (ZC : SgC M nz U) {i : Nat} (hi : i < nz) (hQ : Q (some (.int (bI (expl w h ht G r m rk T (U i))))) (S0 L) M) : PM E l mX4_isExplained 0 [.ref 27, .ref rw_, .int (nI i)] [] (S0 L) M 0 0 Q := by
  have H := V.1
  have e4 := H.le
  have hng := V.2.2.1
  have hnz := ZV.1
  have hz := ZC.2 i hi
  obtain ⟨b1, b2, b3, b4, b5, b6, b7, b8⟩ := ZV.2 i hi
  have hns := SV.1
  have he16 : (U i).2.2.1 < 16 := by
    rcases (show (U i).1 = 0 ∨ (U i).1 = 1 ∨ (U i).1 = 2 ∨ (U i).1 = 3 ∨ (U i).1 = 4 ∨ (U i).1 = 5 by omega) with e | e | e | e | e | e
    · have := b3 e; omega
    · have := b6 (Or.inl e); omega
    · have := b6 (Or.inr (Or.inl e)); omega
    · have := b6 (Or.inr (Or.inr e)); omega
    · have := b4 e; omega
    · exact b5 e
  refine x_aload_n dX4_isExplained_0 rfl ?_
  refine x_aload_n dX4_isExplained_1 rfl ?_
  refine x_aload_n dX4_isExplained_2 rfl ?_
  refine g_R (s0_27 L) fkX4_9 rfl rfl rfl dX4_isExplained_3 ?_
  refine x_iload_n dX4_isExplained_6 rfl ?_
  refine n_iald (s0_28 L) (by omega) rfl dX4_isExplained_7 ?_
  refine x_as hz.1 ?_
  refine x_aload_n dX4_isExplained_8 rfl ?_
  refine g_R (s0_27 L) fkX4_15 rfl rfl rfl dX4_isExplained_9 ?_
  refine x_iload_n dX4_isExplained_12 rfl ?_
  refine n_iald (s0_29 L) (by omega) rfl dX4_isExplained_13 ?_
  refine x_aload_n dX4_isExplained_14 rfl ?_
  refine g_R (s0_27 L) fkX4_18 rfl rfl rfl dX4_isExplained_15 ?_
  refine x_iload_n dX4_isExplained_18 rfl ?_
  refine n_iald (s0_30 L) (by omega) rfl dX4_isExplained_19 ?_
  refine x_as hz.2.2.1 ?_
  refine cV4 (mj := mX4_holds) lkX4_45 okX4_holds imX4_holds seX4_holds (s0_27 L) rfl rfl rfl rfl rfl dX4_isExplained_20 rfl (k_holds V K D hRs hRg RV RM RE SV SC (k := (U i).1) (c := (U i).2.1) (e := (U i).2.2.1) b1 (by omega) (fun z => ⟨hz.2.1 z, b2 z⟩) b4 ?_)
  rw [hol_expl b1 b3]
  refine x_iret dX4_isExplained_23 rfl (bI_nar _) ?_
  exact hQ
set_option maxRecDepth 100000 in
set_option maxHeartbeats 4000000 in
theorem k_costOf {E : vE} {l : Launch} {Q : Option Value → vS → vM → Prop} {L : Nat} {M : vM} {w h ng : Nat} {ht : Nat → Nat} {G : Nat → vQ} (V : GoV w h ng ht G) (K : GoC M w h ng ht G) (D : LdC M w h ng ht G) {rw_ gw m : Nat} {r : Nat → Nat} (hRs : (S0 L)[rw_]? = some (3, 2, [gw + 1])) (hRg : (S0 L)[gw]? = some (100, 6, [])) (RV : RwV ng m r) (RM : M rw_ 1 = nI m) (RE : ∀ k, k < m → M gw k = nI (r k)) {ns : Nat} {rk : Nat → Nat} {T : Nat → vT} (SV : StV w h ns rk T) (SC : StC M w h ns rk T) {nz : Nat} {U : Nat → vU} (ZV : SgV w h ns nz U) (ZC : SgC M nz U) (hQ : Q (some (.int (nI (cst w h ht G r m rk T U nz)))) (S0 L) M) : PM E l mX4_costOf 0 [.ref 27, .ref rw_, .null, .null] [] (S0 L) M 0 0 Q := by
  have H := V.1
  have e4 := H.le
  have hng := V.2.2.1
  have hnz := ZV.1
  have l1 : PM E l mX4_costOf 4 [.ref 27, .ref rw_, .int (nI (cst w h ht G r m rk T U 0)), .int (nI 0)] [] (S0 L) M 0 0 Q := by
    refine lp_up (P := fun i => PM E l mX4_costOf 4 [.ref 27, .ref rw_, .int (nI (cst w h ht G r m rk T U i)), .int (nI i)] [] (S0 L) M 0 0 Q) nz ?_ ?_ 0 (Nat.zero_le _)
    · skip
      refine x_iload_n dX4_costOf_4 rfl ?_
      refine x_aload_n dX4_costOf_5 rfl ?_
      refine g_I (s0_27 L) fkX4_36 rfl rfl dX4_costOf_6 ?_
      refine x_as ZC.1 ?_
      refine n_icmp_ge 57 dX4_costOf_9 rfl (by omega) (by omega) (fun h1 => ?_) (fun h1 => by omega)
      refine x_iload_n dX4_costOf_57 rfl ?_
      refine x_iret dX4_costOf_58 rfl rfl ?_
      exact hQ
    · intro i hi ih
      refine x_iload_n dX4_costOf_4 rfl ?_
      refine x_aload_n dX4_costOf_5 rfl ?_
      refine g_I (s0_27 L) fkX4_36 rfl rfl dX4_costOf_6 ?_
      refine x_as ZC.1 ?_
      refine n_icmp_ge 57 dX4_costOf_9 rfl (by omega) (by omega) (fun h1 => by omega) (fun h1 => ?_)
      have hz := ZC.2 i hi
      obtain ⟨b1, b2, b3, b4, b5, b6, b7, b8⟩ := ZV.2 i hi
      have hns := SV.1
      have he16 : (U i).2.2.1 < 16 := by
        rcases (show (U i).1 = 0 ∨ (U i).1 = 1 ∨ (U i).1 = 2 ∨ (U i).1 = 3 ∨ (U i).1 = 4 ∨ (U i).1 = 5 by omega) with e | e | e | e | e | e
        · have := b3 e; omega
        · have := b6 (Or.inl e); omega
        · have := b6 (Or.inr (Or.inl e)); omega
        · have := b6 (Or.inr (Or.inr e)); omega
        · have := b4 e; omega
        · exact b5 e
      refine x_iload_n dX4_costOf_12 rfl ?_
      refine x_aload_n dX4_costOf_13 rfl ?_
      refine x_aload_n dX4_costOf_14 rfl ?_
      refine x_aload_n dX4_costOf_15 rfl ?_
      refine g_R (s0_27 L) fkX4_9 rfl rfl rfl dX4_costOf_16 ?_
      refine x_iload_n dX4_costOf_19 rfl ?_
      refine n_iald (s0_28 L) (by omega) rfl dX4_costOf_20 ?_
      refine x_as hz.1 ?_
      refine x_aload_n dX4_costOf_21 rfl ?_
      refine g_R (s0_27 L) fkX4_15 rfl rfl rfl dX4_costOf_22 ?_
      refine x_iload_n dX4_costOf_25 rfl ?_
      refine n_iald (s0_29 L) (by omega) rfl dX4_costOf_26 ?_
      refine x_aload_n dX4_costOf_27 rfl ?_
      refine g_R (s0_27 L) fkX4_18 rfl rfl rfl dX4_costOf_28 ?_
      refine x_iload_n dX4_costOf_31 rfl ?_
      refine n_iald (s0_30 L) (by omega) rfl dX4_costOf_32 ?_
      refine x_as hz.2.2.1 ?_
      refine cV4 (mj := mX4_holds) lkX4_45 okX4_holds imX4_holds seX4_holds (s0_27 L) rfl rfl rfl rfl rfl dX4_costOf_33 rfl (k_holds V K D hRs hRg RV RM RE SV SC (k := (U i).1) (c := (U i).2.1) (e := (U i).2.2.1) b1 (by omega) (fun z => ⟨hz.2.1 z, b2 z⟩) b4 ?_)
      rw [hol_expl b1 b3]
      refine b_if_eq 43 dX4_costOf_36 rfl (fun z1 => ?_) (fun z1 => ?_)
      · refine x_aload_n dX4_costOf_43 rfl ?_
        refine g_R (s0_27 L) fkX4_21 rfl rfl rfl dX4_costOf_44 ?_
        refine x_iload_n dX4_costOf_47 rfl ?_
        refine n_iald (s0_31 L) (by omega) rfl dX4_costOf_48 ?_
        refine x_as hz.2.2.2 ?_
        refine n_iadd dX4_costOf_49 ?_
        refine x_istore_n dX4_costOf_50 (by decide) rfl ?_
        refine n_inc dX4_costOf_51 rfl rfl ?_
        refine x_goto 4 dX4_costOf_54 rfl ?_
        have ih2 := ih
        rw [show (cst w h ht G r m rk T U (i + 1)) = (cst w h ht G r m rk T U i) + (U i).2.2.2 from by show smK _ i + _ = smK _ i + _; simp only [z1, Bool.false_eq_true, if_false, if_true]] at ih2
        exact ih2
      · refine x_iconst dX4_costOf_39 iconst_0 ?_
        refine x_goto 49 dX4_costOf_40 rfl ?_
        refine n_iadd dX4_costOf_49 ?_
        refine x_istore_n dX4_costOf_50 (by decide) rfl ?_
        refine n_inc dX4_costOf_51 rfl rfl ?_
        refine x_goto 4 dX4_costOf_54 rfl ?_
        have ih2 := ih
        rw [show (cst w h ht G r m rk T U (i + 1)) = (cst w h ht G r m rk T U i) + 0 from by show smK _ i + _ = smK _ i + _; simp only [z1, Bool.false_eq_true, if_false, if_true]] at ih2
        exact ih2
  refine x_iconst dX4_costOf_0 iconst_0 ?_
  refine x_istore_n dX4_costOf_1 (by decide) rfl ?_
  refine x_iconst dX4_costOf_2 iconst_0 ?_
  refine x_istore_n dX4_costOf_3 (by decide) rfl ?_
  exact l1
set_option maxRecDepth 100000 in
set_option maxHeartbeats 4000000 in
theorem k_tellApart {E : vE} {l : Launch} {Q : Option Value → vS → vM → Prop} {L : Nat} {M : vM} {w h ng : Nat} {ht : Nat → Nat} {G : Nat → vQ} (V : GoV w h ng ht G) (K : GoC M w h ng ht G) (D : LdC M w h ng ht G) {rw_ gw m : Nat} {r : Nat → Nat} (hRs : (S0 L)[rw_]? = some (3, 2, [gw + 1])) (hRg : (S0 L)[gw]? = some (100, 6, [])) (RV : RwV ng m r) (RM : M rw_ 1 = nI m) (RE : ∀ k, k < m → M gw k = nI (r k)) {ns : Nat} {rk : Nat → Nat} {T : Nat → vT} (SV : StV w h ns rk T) (SC : StC M w h ns rk T) {rw2 gw2 m2 : Nat} {r2 : Nat → Nat} (hRs2 : (S0 L)[rw2]? = some (3, 2, [gw2 + 1])) (hRg2 : (S0 L)[gw2]? = some (100, 6, [])) (RV2 : RwV ng m2 r2) (RM2 : M rw2 1 = nI m2) (RE2 : ∀ k, k < m2 → M gw2 k = nI (r2 k)) {c t : Nat} (hc : c < w * h) (h7 : t < 7) (hQ : Q (some (.int (bI (decide (thg w h ht G r m c t ≠ thg w h ht G r2 m2 c t))))) (S0 L) M) : PM E l mX4_tellApart 0 [.ref 27, .ref rw_, .ref rw2, .int (nI c), .int (nI t), .null] [] (S0 L) M 0 0 Q := by
  have H := V.1
  have e4 := H.le
  have hng := V.2.2.1
  have sg : PM E l mX4_tellApart 18 [.ref 27, .ref rw_, .ref rw2, .int (nI c), .int (nI t), .int (nI (if t < 4 then 0 else t - 4 + 1))] [] (S0 L) M 0 0 Q := by
    have hk5 : (if t < 4 then 0 else t - 4 + 1) ≤ 5 := by split <;> omega
    have hk4 : (if t < 4 then 0 else t - 4 + 1) ≠ 4 := by split <;> omega
    refine x_aload_n dX4_tellApart_18 rfl ?_
    refine x_aload_n dX4_tellApart_19 rfl ?_
    refine x_iload dX4_tellApart_20 rfl ?_
    refine x_iload_n dX4_tellApart_22 rfl ?_
    refine x_iload dX4_tellApart_23 rfl ?_
    refine cV4 (mj := mX4_holds) lkX4_45 okX4_holds imX4_holds seX4_holds (s0_27 L) rfl rfl rfl rfl rfl dX4_tellApart_25 rfl (k_holds V K D hRs hRg RV RM RE SV SC (k := (if t < 4 then 0 else t - 4 + 1)) (c := c) (e := t) hk5 (by omega) (fun _ => ⟨rfl, hc⟩) (fun z => absurd z hk4) ?_)
    rw [hol_thg h7]
    refine x_aload_n dX4_tellApart_28 rfl ?_
    refine x_aload_n dX4_tellApart_29 rfl ?_
    refine x_iload dX4_tellApart_30 rfl ?_
    refine x_iload_n dX4_tellApart_32 rfl ?_
    refine x_iload dX4_tellApart_33 rfl ?_
    refine cV4 (mj := mX4_holds) lkX4_45 okX4_holds imX4_holds seX4_holds (s0_27 L) rfl rfl rfl rfl rfl dX4_tellApart_35 rfl (k_holds V K D hRs2 hRg2 RV2 RM2 RE2 SV SC (k := (if t < 4 then 0 else t - 4 + 1)) (c := c) (e := t) hk5 (by omega) (fun _ => ⟨rfl, hc⟩) (fun z => absurd z hk4) ?_)
    rw [hol_thg h7]
    refine x_icmp_eq 45 dX4_tellApart_38 rfl (fun z1 => ?_) (fun z1 => ?_)
    · refine x_iconst dX4_tellApart_45 iconst_0 ?_
      refine x_iret dX4_tellApart_46 rfl (by first | exact bI_nar _ | exact n1_nar | exact n0_nar) ?_
      rw [decide_eq_false (fun z => z (bI_eq.mp z1))] at hQ
      exact hQ
    · refine x_iconst dX4_tellApart_41 iconst_1 ?_
      refine x_goto 46 dX4_tellApart_42 rfl ?_
      refine x_iret dX4_tellApart_46 rfl (by first | exact bI_nar _ | exact n1_nar | exact n0_nar) ?_
      rw [decide_eq_true (show thg w h ht G r m c t ≠ thg w h ht G r2 m2 c t from fun z => z1 (bI_eq.mpr z))] at hQ
      exact hQ
  refine x_iload dX4_tellApart_0 rfl ?_
  refine x_iconst dX4_tellApart_2 iconst_4 ?_
  refine n_icmp_ge 10 dX4_tellApart_3 rfl (by omega) (by omega) (fun z0 => ?_) (fun z0 => ?_)
  · refine x_iload dX4_tellApart_10 rfl ?_
    refine x_iconst dX4_tellApart_12 iconst_4 ?_
    refine n_isub dX4_tellApart_13 (by omega) ?_
    refine x_iconst dX4_tellApart_14 iconst_1 ?_
    refine n_iadd dX4_tellApart_15 ?_
    refine x_istore dX4_tellApart_16 (by decide) rfl ?_
    have s9 := sg
    rw [if_neg (show ¬ t < 4 by omega)] at s9
    exact s9
  · refine x_iconst dX4_tellApart_6 iconst_0 ?_
    refine x_goto 16 dX4_tellApart_7 rfl ?_
    refine x_istore dX4_tellApart_16 (by decide) rfl ?_
    have s9 := sg
    rw [if_pos (show t < 4 by omega)] at s9
    exact s9
set_option maxRecDepth 100000 in
set_option maxHeartbeats 4000000 in
theorem k_stoneAdd {E : vE} {l : Launch} {Q : Option Value → vS → vM → Prop} {L : Nat} {M : vM} {ns c k t : Nat} (hn : ns ≤ 12) (hM : M 8 3 = nI ns) (hF : ns = 12 → Q (some (.int (-900004))) (S0 L) M) (hY : ns < 12 → Q (some (.int (nI ns))) (S0 L) (sM (sM (sM (sM M 9 (upd (M 9) ns (nI c))) 10 (upd (M 10) ns (nI k))) 11 (upd (M 11) ns (nI t))) 8 (upd (M 8) 3 (nI (ns + 1))))) : PM E l mX5_add 0 [.ref 8, .int (nI c), .int (nI k), .int (nI t)] [] (S0 L) M 0 0 Q := by
  refine x_aload_n dX5_add_0 rfl ?_
  refine g_I (s0_8 L) fkX5_21 rfl rfl dX5_add_1 ?_
  refine x_as hM ?_
  refine x_bipush dX5_add_4 bipush_12 ?_
  refine n_icmp_lt 12 dX5_add_6 rfl (by omega) (by omega) (fun z1 => ?_) (fun z1 => ?_)
  · refine x_aload_n dX5_add_12 rfl ?_
    refine g_R (s0_8 L) fkX5_9 rfl rfl rfl dX5_add_13 ?_
    refine x_aload_n dX5_add_16 rfl ?_
    refine g_I (s0_8 L) fkX5_21 rfl rfl dX5_add_17 ?_
    refine x_as hM ?_
    refine x_iload_n dX5_add_20 rfl ?_
    refine n_iast rfl (s0_9 L) (by omega) rfl dX5_add_21 ?_
    refine x_aload_n dX5_add_22 rfl ?_
    refine g_R (s0_8 L) fkX5_15 rfl rfl rfl dX5_add_23 ?_
    refine x_aload_n dX5_add_26 rfl ?_
    refine g_I (s0_8 L) fkX5_21 rfl rfl dX5_add_27 ?_
    refine x_as hM ?_
    refine x_iload_n dX5_add_30 rfl ?_
    refine n_iast rfl (s0_10 L) (by omega) rfl dX5_add_31 ?_
    refine x_aload_n dX5_add_32 rfl ?_
    refine g_R (s0_8 L) fkX5_18 rfl rfl rfl dX5_add_33 ?_
    refine x_aload_n dX5_add_36 rfl ?_
    refine g_I (s0_8 L) fkX5_21 rfl rfl dX5_add_37 ?_
    refine x_as hM ?_
    refine x_iload_n dX5_add_40 rfl ?_
    refine n_iast rfl (s0_11 L) (by omega) rfl dX5_add_41 ?_
    refine x_aload_n dX5_add_42 rfl ?_
    refine x_dup dX5_add_43 rfl ?_
    refine g_I (s0_8 L) fkX5_21 rfl rfl dX5_add_44 ?_
    refine x_as hM ?_
    refine x_dup_x1 dX5_add_47 rfl rfl ?_
    refine x_iconst dX5_add_48 iconst_1 ?_
    refine n_iadd dX5_add_49 ?_
    refine g_P (s0_8 L) fkX5_21 rfl rfl rfl rfl dX5_add_50 ?_
    refine x_iret dX5_add_53 rfl rfl ?_
    exact hY (by omega)
  · refine x_ldc kcX5_29 dX5_add_9 ?_
    refine x_iret dX5_add_11 rfl rfl ?_
    exact hF (by omega)
set_option maxRecDepth 100000 in
set_option maxHeartbeats 4000000 in
theorem k_signAdd {E : vE} {l : Launch} {Q : Option Value → vS → vM → Prop} {L : Nat} {M : vM} {nz : Nat} {a1 a2 a3 a4 : Int32} (hn : nz ≤ 12) (hM : M 27 7 = nI nz) (hF : nz = 12 → Q (some (.int (-900004))) (S0 L) M) (hY : nz < 12 → Q (some (.int (nI nz))) (S0 L) (sM (sM (sM (sM (sM M 28 (upd (M 28) nz a1)) 29 (upd (M 29) nz a2)) 30 (upd (M 30) nz a3)) 31 (upd (M 31) nz a4)) 27 (upd (M 27) 7 (nI (nz + 1))))) : PM E l mX4_add 0 [.ref 27, .int a1, .int a2, .int a3, .int a4] [] (S0 L) M 0 0 Q := by
  refine x_aload_n dX4_add_0 rfl ?_
  refine g_I (s0_27 L) fkX4_36 rfl rfl dX4_add_1 ?_
  refine x_as hM ?_
  refine x_bipush dX4_add_4 bipush_12 ?_
  refine n_icmp_lt 12 dX4_add_6 rfl (by omega) (by omega) (fun z1 => ?_) (fun z1 => ?_)
  · refine x_aload_n dX4_add_12 rfl ?_
    refine g_R (s0_27 L) fkX4_9 rfl rfl rfl dX4_add_13 ?_
    refine x_aload_n dX4_add_16 rfl ?_
    refine g_I (s0_27 L) fkX4_36 rfl rfl dX4_add_17 ?_
    refine x_as hM ?_
    refine x_iload_n dX4_add_20 rfl ?_
    refine n_iast rfl (s0_28 L) (by omega) rfl dX4_add_21 ?_
    refine x_aload_n dX4_add_22 rfl ?_
    refine g_R (s0_27 L) fkX4_15 rfl rfl rfl dX4_add_23 ?_
    refine x_aload_n dX4_add_26 rfl ?_
    refine g_I (s0_27 L) fkX4_36 rfl rfl dX4_add_27 ?_
    refine x_as hM ?_
    refine x_iload_n dX4_add_30 rfl ?_
    refine n_iast rfl (s0_29 L) (by omega) rfl dX4_add_31 ?_
    refine x_aload_n dX4_add_32 rfl ?_
    refine g_R (s0_27 L) fkX4_18 rfl rfl rfl dX4_add_33 ?_
    refine x_aload_n dX4_add_36 rfl ?_
    refine g_I (s0_27 L) fkX4_36 rfl rfl dX4_add_37 ?_
    refine x_as hM ?_
    refine x_iload_n dX4_add_40 rfl ?_
    refine n_iast rfl (s0_30 L) (by omega) rfl dX4_add_41 ?_
    refine x_aload_n dX4_add_42 rfl ?_
    refine g_R (s0_27 L) fkX4_21 rfl rfl rfl dX4_add_43 ?_
    refine x_aload_n dX4_add_46 rfl ?_
    refine g_I (s0_27 L) fkX4_36 rfl rfl dX4_add_47 ?_
    refine x_as hM ?_
    refine x_iload dX4_add_50 rfl ?_
    refine n_iast rfl (s0_31 L) (by omega) rfl dX4_add_52 ?_
    refine x_aload_n dX4_add_53 rfl ?_
    refine x_dup dX4_add_54 rfl ?_
    refine g_I (s0_27 L) fkX4_36 rfl rfl dX4_add_55 ?_
    refine x_as hM ?_
    refine x_dup_x1 dX4_add_58 rfl rfl ?_
    refine x_iconst dX4_add_59 iconst_1 ?_
    refine n_iadd dX4_add_60 ?_
    refine g_P (s0_27 L) fkX4_36 rfl rfl rfl rfl dX4_add_61 ?_
    refine x_iret dX4_add_64 rfl rfl ?_
    exact hY (by omega)
  · refine x_ldc kcX4_44 dX4_add_9 ?_
    refine x_iret dX4_add_11 rfl rfl ?_
    exact hF (by omega)
set_option maxRecDepth 100000 in
set_option maxHeartbeats 4000000 in
theorem k_remove {E : vE} {l : Launch} {Q : Option Value → vS → vM → Prop} {L : Nat} {M : vM} {nz : Nat} {U : Nat → vU} (hnz : nz ≤ 12) (ZC : SgC M nz U) {t : Nat} (htt : t < nz) (hQ : ∀ M1 : vM, Fr [27, 28, 29, 30, 31] M M1 → SgC M1 (nz - 1) (fun k => if k < t then U k else U (k + 1)) → Q (some (.int (nI (U t).2.2.2))) (S0 L) M1) : PM E l mX4_remove 0 [.ref 27, .int (nI t), .null, .null] [] (S0 L) M 0 0 Q := by
  refine x_aload_n dX4_remove_0 rfl ?_
  refine g_R (s0_27 L) fkX4_21 rfl rfl rfl dX4_remove_1 ?_
  refine x_iload_n dX4_remove_4 rfl ?_
  refine n_iald (s0_31 L) (by omega) rfl dX4_remove_5 ?_
  refine x_as (ZC.2 t htt).2.2.2 ?_
  refine x_istore_n dX4_remove_6 (by decide) rfl ?_
  refine x_aload_n dX4_remove_7 rfl ?_
  refine x_dup dX4_remove_8 rfl ?_
  refine g_I (s0_27 L) fkX4_36 rfl rfl dX4_remove_9 ?_
  refine x_as ZC.1 ?_
  refine x_iconst dX4_remove_12 iconst_1 ?_
  refine n_isub dX4_remove_13 (by omega) ?_
  refine g_P (s0_27 L) fkX4_36 rfl rfl rfl rfl dX4_remove_14 ?_
  refine x_iload_n dX4_remove_17 rfl ?_
  refine x_istore_n dX4_remove_18 (by decide) rfl ?_
  have l1 : t ≤ t → ∀ M1 : vM, Fr [27, 28, 29, 30, 31] M M1 → (∀ j, j ≠ 7 → M1 27 j = M 27 j) → M1 27 7 = nI (nz - 1) → (∀ k, k < nz → ∀ q ∈ [28, 29, 30, 31], M1 q k = if k < t then (if k < t then M q k else M q (k + 1)) else M q k) → PM E l mX4_remove 19 [.ref 27, .int (nI t), .int (nI (U t).2.2.2), .int (nI t)] [] (S0 L) M1 0 0 Q := by
    refine lp_up (P := fun i => t ≤ i → ∀ M1 : vM, Fr [27, 28, 29, 30, 31] M M1 → (∀ j, j ≠ 7 → M1 27 j = M 27 j) → M1 27 7 = nI (nz - 1) → (∀ k, k < nz → ∀ q ∈ [28, 29, 30, 31], M1 q k = if k < i then (if k < t then M q k else M q (k + 1)) else M q k) → PM E l mX4_remove 19 [.ref 27, .int (nI t), .int (nI (U t).2.2.2), .int (nI i)] [] (S0 L) M1 0 0 Q) (nz - 1) ?_ ?_ t (by omega)
    · intro hti M1 g1 g2 g3 g4
      refine x_iload_n dX4_remove_19 rfl ?_
      refine x_aload_n dX4_remove_20 rfl ?_
      refine g_I (s0_27 L) fkX4_36 rfl rfl dX4_remove_21 ?_
      refine x_as g3 ?_
      refine n_icmp_ge 89 dX4_remove_24 rfl (by omega) (by omega) (fun h1 => ?_) (fun h1 => by omega)
      refine x_iload_n dX4_remove_89 rfl ?_
      refine x_iret dX4_remove_90 rfl rfl ?_
      refine hQ M1 g1 ⟨g3, fun k hk => ?_⟩
      have h58 := g4 k (by omega) 28 (by decide)
      have h59 := g4 k (by omega) 29 (by decide)
      have h60 := g4 k (by omega) 30 (by decide)
      have h61 := g4 k (by omega) 31 (by decide)
      rw [if_pos hk] at h58 h59 h60 h61
      rw [h58, h59, h60, h61]
      by_cases e : k < t
      · simp only [if_pos e]; exact ZC.2 k (by omega)
      · simp only [if_neg e]; exact ZC.2 (k + 1) (by omega)
    · intro i hi ih hti M1 g1 g2 g3 g4
      refine x_iload_n dX4_remove_19 rfl ?_
      refine x_aload_n dX4_remove_20 rfl ?_
      refine g_I (s0_27 L) fkX4_36 rfl rfl dX4_remove_21 ?_
      refine x_as g3 ?_
      refine n_icmp_ge 89 dX4_remove_24 rfl (by omega) (by omega) (fun h1 => by omega) (fun h1 => ?_)
      refine x_aload_n dX4_remove_27 rfl ?_
      refine g_R (s0_27 L) fkX4_9 rfl rfl rfl dX4_remove_28 ?_
      refine x_iload_n dX4_remove_31 rfl ?_
      refine x_aload_n dX4_remove_32 rfl ?_
      refine g_R (s0_27 L) fkX4_9 rfl rfl rfl dX4_remove_33 ?_
      refine x_iload_n dX4_remove_36 rfl ?_
      refine x_iconst dX4_remove_37 iconst_1 ?_
      refine n_iadd dX4_remove_38 ?_
      refine n_iald (s0_28 L) (by omega) rfl dX4_remove_39 ?_
      refine x_as ((g4 (i + 1) (by omega) 28 (by decide)).trans (if_neg (by omega))) ?_
      refine n_iast rfl (s0_28 L) (by omega) rfl dX4_remove_40 ?_
      refine x_aload_n dX4_remove_41 rfl ?_
      refine g_R (s0_27 L) fkX4_15 rfl rfl rfl dX4_remove_42 ?_
      refine x_iload_n dX4_remove_45 rfl ?_
      refine x_aload_n dX4_remove_46 rfl ?_
      refine g_R (s0_27 L) fkX4_15 rfl rfl rfl dX4_remove_47 ?_
      refine x_iload_n dX4_remove_50 rfl ?_
      refine x_iconst dX4_remove_51 iconst_1 ?_
      refine n_iadd dX4_remove_52 ?_
      refine n_iald (s0_29 L) (by omega) rfl dX4_remove_53 ?_
      refine x_as ((g4 (i + 1) (by omega) 29 (by decide)).trans (if_neg (by omega))) ?_
      refine n_iast rfl (s0_29 L) (by omega) rfl dX4_remove_54 ?_
      refine x_aload_n dX4_remove_55 rfl ?_
      refine g_R (s0_27 L) fkX4_18 rfl rfl rfl dX4_remove_56 ?_
      refine x_iload_n dX4_remove_59 rfl ?_
      refine x_aload_n dX4_remove_60 rfl ?_
      refine g_R (s0_27 L) fkX4_18 rfl rfl rfl dX4_remove_61 ?_
      refine x_iload_n dX4_remove_64 rfl ?_
      refine x_iconst dX4_remove_65 iconst_1 ?_
      refine n_iadd dX4_remove_66 ?_
      refine n_iald (s0_30 L) (by omega) rfl dX4_remove_67 ?_
      refine x_as ((g4 (i + 1) (by omega) 30 (by decide)).trans (if_neg (by omega))) ?_
      refine n_iast rfl (s0_30 L) (by omega) rfl dX4_remove_68 ?_
      refine x_aload_n dX4_remove_69 rfl ?_
      refine g_R (s0_27 L) fkX4_21 rfl rfl rfl dX4_remove_70 ?_
      refine x_iload_n dX4_remove_73 rfl ?_
      refine x_aload_n dX4_remove_74 rfl ?_
      refine g_R (s0_27 L) fkX4_21 rfl rfl rfl dX4_remove_75 ?_
      refine x_iload_n dX4_remove_78 rfl ?_
      refine x_iconst dX4_remove_79 iconst_1 ?_
      refine n_iadd dX4_remove_80 ?_
      refine n_iald (s0_31 L) (by omega) rfl dX4_remove_81 ?_
      refine x_as ((g4 (i + 1) (by omega) 31 (by decide)).trans (if_neg (by omega))) ?_
      refine n_iast rfl (s0_31 L) (by omega) rfl dX4_remove_82 ?_
      refine n_inc dX4_remove_83 rfl rfl ?_
      refine x_goto 19 dX4_remove_86 rfl ?_
      refine ih (by omega) _ ((((g1.set _ (by decide)).set _ (by decide)).set _ (by decide)).set _ (by decide)) g2 g3 (fun k hk q hq => ?_)
      have hcase : q = 28 ∨ q = 29 ∨ q = 30 ∨ q = 31 := by simpa using hq
      have h9 := g4 k hk q hq
      by_cases e : k = i
      · subst e
        rw [if_pos (by omega), if_neg (by omega)]
        rcases hcase with rfl | rfl | rfl | rfl <;> exact upd_at _ _ _
      · have e2 : sM (sM (sM (sM M1 28 (upd (M1 28) i (M 28 (i + 1)))) 29 (upd (M1 29) i (M 29 (i + 1)))) 30 (upd (M1 30) i (M 30 (i + 1)))) 31 (upd (M1 31) i (M 31 (i + 1))) q k = M1 q k := by
          rcases hcase with rfl | rfl | rfl | rfl <;> exact upd_ne _ _ e
        refine e2.trans (h9.trans ?_)
        by_cases e3 : k < i
        · rw [if_pos e3, if_pos (show k < i + 1 by omega)]
        · rw [if_neg e3, if_neg (show ¬ k < i + 1 by omega)]
  refine l1 (Nat.le_refl _) _ (Fr.rf.set _ (by decide)) (fun j hj => upd_ne _ _ hj) rfl (fun k hk q hq => ?_)
  have hcase : q = 28 ∨ q = 29 ∨ q = 30 ∨ q = 31 := by simpa using hq
  have e1 : sM M 27 (upd (M 27) 7 (nI (nz - 1))) q = M q := sM_ne _ _ _ (by omega)
  rw [e1]
  split <;> rfl

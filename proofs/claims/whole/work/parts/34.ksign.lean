def StC (M : vM) (w h ns : Nat) (rk : Nat → Nat) (T : Nat → vT) : Prop := M 8 3 = nI ns ∧ (∀ c, c < w * h → M 6 c = nI (rk c)) ∧ ∀ i, i < ns → M 9 i = nI (T i).1 ∧ M 10 i = nI (T i).2.1 ∧ M 11 i = nI (T i).2.2
def SgC (M : vM) (nz : Nat) (U : Nat → vU) : Prop := M 27 7 = nI nz ∧ ∀ i, i < nz → M 28 i = nI (U i).1 ∧ ((U i).1 ≠ 4 → M 29 i = nI (U i).2.1) ∧ M 30 i = nI (U i).2.2.1 ∧ M 31 i = nI (U i).2.2.2
theorem anyK_has {p : Nat → Bool} {i m : Nat} (hi : i < m) (hp : p i = true) : anyK p m = true := by
  obtain ⟨k, rfl⟩ : ∃ k, m = i + 1 + k := ⟨m - (i + 1), by omega⟩
  clear hi
  induction k with
  | zero => show (anyK p i || p i) = true; rw [hp, Bool.or_true]
  | succ k ih => exact anyK_t ih
theorem ctt_pos {p : Nat → Bool} {i n : Nat} (hi : i < n) (hp : p i = true) : 0 < ctt p n := by
  obtain ⟨k, rfl⟩ : ∃ k, n = i + 1 + k := ⟨n - (i + 1), by omega⟩
  clear hi
  induction k with
  | zero => show 0 < ctt p i + (if p i then 1 else 0); rw [hp]; simp
  | succ k ih => exact Nat.lt_of_lt_of_le ih (Nat.le_add_right _ _)
set_option maxRecDepth 100000 in
set_option maxHeartbeats 4000000 in
theorem k_rowHas {E : vE} {l : Launch} {Q : Option Value → vS → vM → Prop} {L : Nat} {M : vM} {rw_ gw m : Nat} {r : Nat → Nat} (hRs : (S0 L)[rw_]? = some (3, 2, [gw + 1])) (hRg : (S0 L)[gw]? = some (100, 6, [])) (hm6 : m ≤ 6) (RM : M rw_ 1 = nI m) (RE : ∀ k, k < m → M gw k = nI (r k)) {g : Nat} (hg : g < 2 ^ 31) (hr : ∀ k, k < m → r k < 2 ^ 31) (hQ : ∀ b : Bool, (b = true ↔ inRow (m, r) g) → Q (some (.int (bI b))) (S0 L) M) : PM E l mX3_has 0 [.ref rw_, .int (nI g), .null] [] (S0 L) M 0 0 Q := by
  have l1 : (∀ k, k < 0 → r k ≠ g) → PM E l mX3_has 2 [.ref rw_, .int (nI g), .int (nI 0)] [] (S0 L) M 0 0 Q := by
    refine lp_up (P := fun i => (∀ k, k < i → r k ≠ g) → PM E l mX3_has 2 [.ref rw_, .int (nI g), .int (nI i)] [] (S0 L) M 0 0 Q) m ?_ ?_ 0 (Nat.zero_le _)
    · intro g1
      refine x_iload_n dX3_has_2 rfl ?_
      refine x_aload_n dX3_has_3 rfl ?_
      refine g_I hRs fkX3_15 rfl rfl dX3_has_4 ?_
      refine x_as RM ?_
      refine n_icmp_ge 28 dX3_has_7 rfl (by omega) (by omega) (fun h1 => ?_) (fun h1 => by omega)
      refine x_iconst dX3_has_28 iconst_0 ?_
      refine x_iret dX3_has_29 rfl (by first | exact bI_nar _ | exact n1_nar | exact n0_nar) ?_
      exact hQ false (iff_f (fun ⟨k, hk, e⟩ => g1 k hk e))
    · intro i hi ih g1
      refine x_iload_n dX3_has_2 rfl ?_
      refine x_aload_n dX3_has_3 rfl ?_
      refine g_I hRs fkX3_15 rfl rfl dX3_has_4 ?_
      refine x_as RM ?_
      refine n_icmp_ge 28 dX3_has_7 rfl (by omega) (by omega) (fun h1 => by omega) (fun h1 => ?_)
      refine x_aload_n dX3_has_10 rfl ?_
      refine g_R hRs fkX3_9 rfl rfl rfl dX3_has_11 ?_
      refine x_iload_n dX3_has_14 rfl ?_
      refine n_iald hRg (by omega) rfl dX3_has_15 ?_
      refine x_as (RE i hi) ?_
      refine x_iload_n dX3_has_16 rfl ?_
      refine n_icmp_ne 22 dX3_has_17 rfl (hr i hi) hg (fun z1 => ?_) (fun z1 => ?_)
      · refine n_inc dX3_has_22 rfl rfl ?_
        refine x_goto 2 dX3_has_25 rfl ?_
        exact ih (fun k hk => by
          by_cases e : k = i
          · rw [e]; exact z1
          · exact g1 k (by omega))
      · refine x_iconst dX3_has_20 iconst_1 ?_
        refine x_iret dX3_has_21 rfl (by first | exact bI_nar _ | exact n1_nar | exact n0_nar) ?_
        exact hQ true (iff_t ⟨i, hi, z1⟩)
  refine x_iconst dX3_has_0 iconst_0 ?_
  refine x_istore_n dX3_has_1 (by decide) rfl ?_
  exact l1 (fun k hk => absurd hk (Nat.not_lt_zero k))
set_option maxRecDepth 100000 in
set_option maxHeartbeats 4000000 in
theorem k_rowAt {E : vE} {l : Launch} {Q : Option Value → vS → vM → Prop} {L : Nat} {M : vM} {rw_ gw m : Nat} {r : Nat → Nat} (hRs : (S0 L)[rw_]? = some (3, 2, [gw + 1])) (hRg : (S0 L)[gw]? = some (100, 6, [])) (hm6 : m ≤ 6) (RM : M rw_ 1 = nI m) (RE : ∀ k, k < m → M gw k = nI (r k)) {x : Int32} (hN : ¬ INn m x → Q (some (.int (-900009))) (S0 L) M) (hY : ∀ j : Nat, j < m → x = nI j → Q (some (.int (nI (r j)))) (S0 L) M) : PM E l mX3_at 0 [.ref rw_, .int x] [] (S0 L) M 0 0 Q := by
  refine x_iload_n dX3_at_0 rfl ?_
  refine x_iconst dX3_at_1 iconst_0 ?_
  refine x_aload_n dX3_at_2 rfl ?_
  refine g_I hRs fkX3_15 rfl rfl dX3_at_3 ?_
  refine x_as RM ?_
  refine x_iconst dX3_at_6 iconst_1 ?_
  refine x_isub dX3_at_7 ?_
  refine cS3 (mj := mX8_within) lkX3_19 okX8_within stX8_within rfl rfl rfl rfl dX3_at_8 rfl (c_within _ _ _ (fun b b0h => ?_))
  have k0 := in_two (x := 0) (b0h.trans (in_nat (by omega) _))
  refine b_if_eq 23 dX3_at_11 rfl (fun z0 => ?_) (fun z0 => ?_)
  · refine x_ldc kcX3_23 dX3_at_23 ?_
    refine x_iret dX3_at_25 rfl rfl ?_
    exact hN (k0.2 z0)
  · obtain ⟨j, hj, rfl⟩ := k0.1 z0
    refine x_aload_n dX3_at_14 rfl ?_
    refine g_R hRs fkX3_9 rfl rfl rfl dX3_at_15 ?_
    refine x_iload_n dX3_at_18 rfl ?_
    refine n_iald hRg (by omega) rfl dX3_at_19 ?_
    refine x_as (RE j hj) ?_
    refine x_goto 25 dX3_at_20 rfl ?_
    refine x_iret dX3_at_25 rfl rfl ?_
    exact hY j hj rfl
set_option maxRecDepth 100000 in
set_option maxHeartbeats 4000000 in
theorem k_rowAdd {E : vE} {l : Launch} {Q : Option Value → vS → vM → Prop} {L : Nat} {M : vM} {rw_ gw m : Nat} {r : Nat → Nat} (hRs : (S0 L)[rw_]? = some (3, 2, [gw + 1])) (hRg : (S0 L)[gw]? = some (100, 6, [])) (hgw : Nat.ble 3 gw = true) (hm : m < 6) (RM : M rw_ 1 = nI m) {g : Nat} (hQ : Q none (S0 L) (sM (sM M rw_ (upd (M rw_) 1 (nI (m + 1)))) gw (upd (sM M rw_ (upd (M rw_) 1 (nI (m + 1))) gw) m (nI g)))) : PM E l mX3_add 0 [.ref rw_, .int (nI g)] [] (S0 L) M 0 0 Q := by
  refine x_aload_n dX3_add_0 rfl ?_
  refine g_I hRs fkX3_15 rfl rfl dX3_add_1 ?_
  refine x_as RM ?_
  refine x_bipush dX3_add_4 bipush_6 ?_
  refine n_icmp_ge 26 dX3_add_6 rfl (by omega) (by omega) (fun h1 => by omega) (fun h1 => ?_)
  refine x_aload_n dX3_add_9 rfl ?_
  refine g_R hRs fkX3_9 rfl rfl rfl dX3_add_10 ?_
  refine x_aload_n dX3_add_13 rfl ?_
  refine x_dup dX3_add_14 rfl ?_
  refine g_I hRs fkX3_15 rfl rfl dX3_add_15 ?_
  refine x_as RM ?_
  refine x_dup_x1 dX3_add_18 rfl rfl ?_
  refine x_iconst dX3_add_19 iconst_1 ?_
  refine n_iadd dX3_add_20 ?_
  refine g_P hRs fkX3_15 rfl rfl rfl rfl dX3_add_21 ?_
  refine x_iload_n dX3_add_24 rfl ?_
  refine n_iast hgw hRg hm rfl dX3_add_25 ?_
  refine x_vret dX3_add_26 rfl ?_
  exact hQ
set_option maxRecDepth 100000 in
set_option maxHeartbeats 4000000 in
theorem k_rowCopy {E : vE} {l : Launch} {Q : Option Value → vS → vM → Prop} {L : Nat} {M : vM} {rw_ gw rw2 gw2 : Nat} (hRs : (S0 L)[rw_]? = some (3, 2, [gw + 1])) (hRg : (S0 L)[gw]? = some (100, 6, [])) (hRs2 : (S0 L)[rw2]? = some (3, 2, [gw2 + 1])) (hRg2 : (S0 L)[gw2]? = some (100, 6, [])) (hgw : Nat.ble 3 gw = true) (hg2 : Nat.ble 3 gw2 = true) (hQ : Q none (S0 L) (sM (sM M rw_ (upd (M rw_) 1 (M rw2 1))) gw (va_cpy (sM M rw_ (upd (M rw_) 1 (M rw2 1)) gw2) (sM M rw_ (upd (M rw_) 1 (M rw2 1)) gw) (nI 0).toNatClampNeg (nI 0).toNatClampNeg (nI 6).toNatClampNeg))) : PM E l mX3_copy 0 [.ref rw_, .ref rw2] [] (S0 L) M 0 0 Q := by
  refine x_aload_n dX3_copy_0 rfl ?_
  refine x_aload_n dX3_copy_1 rfl ?_
  refine g_I hRs2 fkX3_15 rfl rfl dX3_copy_2 ?_
  refine g_P hRs fkX3_15 rfl rfl rfl rfl dX3_copy_5 ?_
  refine x_aload_n dX3_copy_8 rfl ?_
  refine g_R hRs2 fkX3_9 rfl rfl rfl dX3_copy_9 ?_
  refine x_iconst dX3_copy_12 iconst_0 ?_
  refine x_aload_n dX3_copy_13 rfl ?_
  refine g_R hRs fkX3_9 rfl rfl rfl dX3_copy_14 ?_
  refine x_iconst dX3_copy_17 iconst_0 ?_
  refine x_bipush dX3_copy_18 bipush_6 ?_
  refine x_copy acX3_24 w_nat w_acs w_sys (Nat.le_of_ble_eq_true hg2) (Nat.le_of_ble_eq_true hgw) (Nat.le_of_eq (S0_len L).symm) hRg2 hRg (by decide) (by decide) (by decide) (by decide) (by decide) (by decide) (by decide) dX3_copy_20 ?_
  refine x_vret dX3_copy_23 rfl ?_
  exact hQ
set_option maxRecDepth 100000 in
set_option maxHeartbeats 4000000 in
theorem k_canComeFrom {E : vE} {l : Launch} {Q : Option Value → vS → vM → Prop} {L : Nat} {M : vM} {w h ng : Nat} {ht : Nat → Nat} {G : Nat → vQ} (V : GoV w h ng ht G) (K : GoC M w h ng ht G) (D : LdC M w h ng ht G) {rw_ gw m : Nat} {r : Nat → Nat} (hRs : (S0 L)[rw_]? = some (3, 2, [gw + 1])) (hRg : (S0 L)[gw]? = some (100, 6, [])) (RV : RwV ng m r) (RM : M rw_ 1 = nI m) (RE : ∀ k, k < m → M gw k = nI (r k)) {ns : Nat} {rk : Nat → Nat} {T : Nat → vT} (SV : StV w h ns rk T) (SC : StC M w h ns rk T) {t c : Nat} (htn : t < ns) (hc : c < w * h) (hQ : Q (some (.int (bI ((whn w h ht G r m rk (T t)) c)))) (S0 L) M) : PM E l mX4_canComeFrom 0 [.ref 27, .ref rw_, .int (nI t), .int (nI c)] [] (S0 L) M 0 0 Q := by
  have H := V.1
  have e4 := H.le
  have hng := V.2.2.1
  have hns := SV.1
  obtain ⟨b1, b2, b3, b4⟩ := SV.2.2 t htn
  have hk5 := SV.2.1 c hc
  have hen := endS_lt (ht := ht) (G := G) (r := r) (wt := (T t).2.2) H hc m
  refine x_aload_n dX4_canComeFrom_0 rfl ?_
  refine g_R (s0_27 L) fkX4_24 rfl rfl rfl dX4_canComeFrom_1 ?_
  refine g_R (s0_4 L) fkX4_49 rfl rfl rfl dX4_canComeFrom_4 ?_
  refine x_iload_n dX4_canComeFrom_7 rfl ?_
  refine n_iald (s0_6 L) (by omega) rfl dX4_canComeFrom_8 ?_
  refine x_as (SC.2.1 c hc) ?_
  refine x_aload_n dX4_canComeFrom_9 rfl ?_
  refine g_R (s0_27 L) fkX4_28 rfl rfl rfl dX4_canComeFrom_10 ?_
  refine g_R (s0_8 L) fkX4_54 rfl rfl rfl dX4_canComeFrom_13 ?_
  refine x_iload_n dX4_canComeFrom_16 rfl ?_
  refine n_iald (s0_10 L) (by omega) rfl dX4_canComeFrom_17 ?_
  refine x_as (SC.2.2 t htn).2.1 ?_
  refine n_icmp_ne 55 dX4_canComeFrom_18 rfl (by omega) (by omega) (fun z1 => ?_) (fun z1 => ?_)
  · refine x_iconst dX4_canComeFrom_55 iconst_0 ?_
    refine x_iret dX4_canComeFrom_56 rfl (by first | exact bI_nar _ | exact n1_nar | exact n0_nar) ?_
    first | (simp only [whn, decide_eq_false z1, Bool.false_and] at hQ; exact hQ) | (simp only [whn, decide_eq_true z1, decide_eq_false z2, Bool.true_and] at hQ; exact hQ) | (simp only [whn, decide_eq_true z1, decide_eq_true z2, Bool.true_and] at hQ; exact hQ)
  · refine x_aload_n dX4_canComeFrom_21 rfl ?_
    refine g_R (s0_27 L) fkX4_32 rfl rfl rfl dX4_canComeFrom_22 ?_
    refine x_aload_n dX4_canComeFrom_25 rfl ?_
    refine x_iload_n dX4_canComeFrom_26 rfl ?_
    refine x_aload_n dX4_canComeFrom_27 rfl ?_
    refine g_R (s0_27 L) fkX4_28 rfl rfl rfl dX4_canComeFrom_28 ?_
    refine g_R (s0_8 L) fkX4_57 rfl rfl rfl dX4_canComeFrom_31 ?_
    refine x_iload_n dX4_canComeFrom_34 rfl ?_
    refine n_iald (s0_11 L) (by omega) rfl dX4_canComeFrom_35 ?_
    refine x_as (SC.2.2 t htn).2.2 ?_
    refine cV3 (mj := mX0_carryAlong) lkX4_60 okX0_carryAlong imX0_carryAlong seX0_carryAlong (s0_12 L) rfl rfl rfl rfl rfl dX4_canComeFrom_36 rfl (k_carryAlong V K D hRs hRg RV RM RE hc b3 b4 ?_)
    refine x_aload_n dX4_canComeFrom_39 rfl ?_
    refine g_R (s0_27 L) fkX4_28 rfl rfl rfl dX4_canComeFrom_40 ?_
    refine g_R (s0_8 L) fkX4_66 rfl rfl rfl dX4_canComeFrom_43 ?_
    refine x_iload_n dX4_canComeFrom_46 rfl ?_
    refine n_iald (s0_9 L) (by omega) rfl dX4_canComeFrom_47 ?_
    refine x_as (SC.2.2 t htn).1 ?_
    refine n_icmp_ne 55 dX4_canComeFrom_48 rfl (by omega) (by omega) (fun z2 => ?_) (fun z2 => ?_)
    · refine x_iconst dX4_canComeFrom_55 iconst_0 ?_
      refine x_iret dX4_canComeFrom_56 rfl (by first | exact bI_nar _ | exact n1_nar | exact n0_nar) ?_
      first | (simp only [whn, decide_eq_false z1, Bool.false_and] at hQ; exact hQ) | (simp only [whn, decide_eq_true z1, decide_eq_false z2, Bool.true_and] at hQ; exact hQ) | (simp only [whn, decide_eq_true z1, decide_eq_true z2, Bool.true_and] at hQ; exact hQ)
    · refine x_iconst dX4_canComeFrom_51 iconst_1 ?_
      refine x_goto 56 dX4_canComeFrom_52 rfl ?_
      refine x_iret dX4_canComeFrom_56 rfl (by first | exact bI_nar _ | exact n1_nar | exact n0_nar) ?_
      first | (simp only [whn, decide_eq_false z1, Bool.false_and] at hQ; exact hQ) | (simp only [whn, decide_eq_true z1, decide_eq_false z2, Bool.true_and] at hQ; exact hQ) | (simp only [whn, decide_eq_true z1, decide_eq_true z2, Bool.true_and] at hQ; exact hQ)
set_option maxRecDepth 100000 in
set_option maxHeartbeats 4000000 in
theorem k_comes {E : vE} {l : Launch} {Q : Option Value → vS → vM → Prop} {L : Nat} {M : vM} {w h ng : Nat} {ht : Nat → Nat} {G : Nat → vQ} (V : GoV w h ng ht G) (K : GoC M w h ng ht G) (D : LdC M w h ng ht G) {rw_ gw m : Nat} {r : Nat → Nat} (hRs : (S0 L)[rw_]? = some (3, 2, [gw + 1])) (hRg : (S0 L)[gw]? = some (100, 6, [])) (RV : RwV ng m r) (RM : M rw_ 1 = nI m) (RE : ∀ k, k < m → M gw k = nI (r k)) {ns : Nat} {rk : Nat → Nat} {T : Nat → vT} (SV : StV w h ns rk T) (SC : StC M w h ns rk T) {t : Nat} (htn : t < ns) (hQ : Q (some (.int (bI (decide (0 < ctt (whn w h ht G r m rk (T t)) (w * h)))))) (S0 L) M) : PM E l mX4_comesFromSomewhere 0 [.ref 27, .ref rw_, .int (nI t), .null] [] (S0 L) M 0 0 Q := by
  have H := V.1
  have e4 := H.le
  have hng := V.2.2.1
  have l1 : ctt (whn w h ht G r m rk (T t)) 0 = 0 → PM E l mX4_comesFromSomewhere 2 [.ref 27, .ref rw_, .int (nI t), .int (nI 0)] [] (S0 L) M 0 0 Q := by
    refine lp_up (P := fun i => ctt (whn w h ht G r m rk (T t)) i = 0 → PM E l mX4_comesFromSomewhere 2 [.ref 27, .ref rw_, .int (nI t), .int (nI i)] [] (S0 L) M 0 0 Q) (w * h) ?_ ?_ 0 (by omega)
    · intro g1
      refine x_iload_n dX4_comesFromSomewhere_2 rfl ?_
      refine x_aload_n dX4_comesFromSomewhere_3 rfl ?_
      refine g_R (s0_27 L) fkX4_24 rfl rfl rfl dX4_comesFromSomewhere_4 ?_
      refine g_I (s0_4 L) fkX4_101 rfl rfl dX4_comesFromSomewhere_7 ?_
      refine x_as K.1.1 ?_
      refine n_icmp_ge 31 dX4_comesFromSomewhere_10 rfl (by omega) (by omega) (fun h1 => ?_) (fun h1 => by omega)
      refine x_iconst dX4_comesFromSomewhere_31 iconst_0 ?_
      refine x_iret dX4_comesFromSomewhere_32 rfl (by first | exact bI_nar _ | exact n1_nar | exact n0_nar) ?_
      rw [show decide (0 < ctt (whn w h ht G r m rk (T t)) (w * h)) = false from decide_eq_false (by omega)] at hQ
      exact hQ
    · intro i hi ih g1
      refine x_iload_n dX4_comesFromSomewhere_2 rfl ?_
      refine x_aload_n dX4_comesFromSomewhere_3 rfl ?_
      refine g_R (s0_27 L) fkX4_24 rfl rfl rfl dX4_comesFromSomewhere_4 ?_
      refine g_I (s0_4 L) fkX4_101 rfl rfl dX4_comesFromSomewhere_7 ?_
      refine x_as K.1.1 ?_
      refine n_icmp_ge 31 dX4_comesFromSomewhere_10 rfl (by omega) (by omega) (fun h1 => by omega) (fun h1 => ?_)
      refine x_aload_n dX4_comesFromSomewhere_13 rfl ?_
      refine x_aload_n dX4_comesFromSomewhere_14 rfl ?_
      refine x_iload_n dX4_comesFromSomewhere_15 rfl ?_
      refine x_iload_n dX4_comesFromSomewhere_16 rfl ?_
      refine cV3 (mj := mX4_canComeFrom) lkX4_102 okX4_canComeFrom imX4_canComeFrom seX4_canComeFrom (s0_27 L) rfl rfl rfl rfl rfl dX4_comesFromSomewhere_17 rfl (k_canComeFrom V K D hRs hRg RV RM RE SV SC htn hi ?_)
      refine b_if_eq 25 dX4_comesFromSomewhere_20 rfl (fun z1 => ?_) (fun z1 => ?_)
      · refine n_inc dX4_comesFromSomewhere_25 rfl rfl ?_
        refine x_goto 2 dX4_comesFromSomewhere_28 rfl ?_
        refine ih ?_
        show ctt (whn w h ht G r m rk (T t)) i + (if (whn w h ht G r m rk (T t)) i then 1 else 0) = 0
        rw [g1, z1]; rfl
      · refine x_iconst dX4_comesFromSomewhere_23 iconst_1 ?_
        refine x_iret dX4_comesFromSomewhere_24 rfl (by first | exact bI_nar _ | exact n1_nar | exact n0_nar) ?_
        rw [show decide (0 < ctt (whn w h ht G r m rk (T t)) (w * h)) = true from decide_eq_true (ctt_pos hi z1)] at hQ
        exact hQ
  refine x_iconst dX4_comesFromSomewhere_0 iconst_0 ?_
  refine x_istore_n dX4_comesFromSomewhere_1 (by decide) rfl ?_
  exact l1 rfl
noncomputable def pK (w h : Nat) (ht : Nat → Nat) (k e : Nat) (q : vQ) (c : Nat) : Bool := if k = 0 then fP w h ht e q c else if k = 1 then hpP w h ht q c else if k = 2 then !qI q && (cov w h ht q c).isSome else icP w h ht q c
set_option maxRecDepth 100000 in
set_option maxHeartbeats 4000000 in
theorem k_isDoneBy {E : vE} {l : Launch} {Q : Option Value → vS → vM → Prop} {L : Nat} {M : vM} {w h ng : Nat} {ht : Nat → Nat} {G : Nat → vQ} (V : GoV w h ng ht G) (K : GoC M w h ng ht G) (D : LdC M w h ng ht G) {g k c e : Nat} (hg : g < ng) (hk : k ≤ 3) (hc : c < w * h) (he : e < 16) (hQ : Q (some (.int (bI (pK w h ht k e (G g) c)))) (S0 L) M) : PM E l mX4_isDoneBy 0 [.ref 27, .int (nI g), .int (nI k), .int (nI c), .int (nI e)] [] (S0 L) M 0 0 Q := by
  have H := V.1
  have e4 := H.le
  have hng := V.2.2.1
  rcases (show k = 0 ∨ k = 1 ∨ k = 2 ∨ k = 3 by omega) with rfl | rfl | rfl | rfl
  · refine x_iload_n dX4_isDoneBy_0 rfl ?_
    refine x_tabIn 32 dX4_isDoneBy_1 (by decide) (by decide) rfl rfl ?_
    refine x_aload_n dX4_isDoneBy_32 rfl ?_
    refine g_R (s0_27 L) fkX4_32 rfl rfl rfl dX4_isDoneBy_33 ?_
    refine x_iload_n dX4_isDoneBy_36 rfl ?_
    refine x_iload_n dX4_isDoneBy_37 rfl ?_
    refine x_iload dX4_isDoneBy_38 rfl ?_
    refine cV3 (mj := mX0_isFlowing) lkX4_84 okX0_isFlowing imX0_isFlowing seX0_isFlowing (s0_12 L) rfl rfl rfl rfl rfl dX4_isDoneBy_40 rfl (k_isFlowing V K D hg hc he ?_)
    refine x_iret dX4_isDoneBy_43 rfl (bI_nar _) ?_
    exact hQ
  · refine x_iload_n dX4_isDoneBy_0 rfl ?_
    refine x_tabIn 44 dX4_isDoneBy_1 (by decide) (by decide) rfl rfl ?_
    refine x_aload_n dX4_isDoneBy_44 rfl ?_
    refine g_R (s0_27 L) fkX4_32 rfl rfl rfl dX4_isDoneBy_45 ?_
    refine x_iload_n dX4_isDoneBy_48 rfl ?_
    refine x_iload_n dX4_isDoneBy_49 rfl ?_
    refine cV2 (mj := mX0_isHeap) lkX4_87 okX0_isHeap imX0_isHeap seX0_isHeap (s0_12 L) rfl rfl rfl rfl rfl dX4_isDoneBy_50 rfl (k_isHeap V K D hg hc ?_)
    refine x_iret dX4_isDoneBy_53 rfl (bI_nar _) ?_
    exact hQ
  · obtain ⟨⟨od, hod, hd1, hd2, hd3⟩, -⟩ := D g hg c hc
    have km := K.2.2.2 g hg
    refine x_iload_n dX4_isDoneBy_0 rfl ?_
    refine x_tabIn 54 dX4_isDoneBy_1 (by decide) (by decide) rfl rfl ?_
    refine x_aload_n dX4_isDoneBy_54 rfl ?_
    refine g_R (s0_27 L) fkX4_32 rfl rfl rfl dX4_isDoneBy_55 ?_
    refine g_R (s0_12 L) fkX4_91 rfl rfl rfl dX4_isDoneBy_58 ?_
    refine x_iload_n dX4_isDoneBy_61 rfl ?_
    refine n_bald (s0_13 L) (by omega) rfl dX4_isDoneBy_62 ?_
    refine x_as km.1 ?_
    refine b_if_ne 82 dX4_isDoneBy_63 rfl (fun z1 => ?_) (fun z1 => ?_)
    · refine x_iconst dX4_isDoneBy_82 iconst_0 ?_
      refine x_iret dX4_isDoneBy_83 rfl (by first | exact bI_nar _ | exact n1_nar | exact n0_nar) ?_
      have h9 : pK w h ht 2 e (G g) c = (!qI (G g) && (cov w h ht (G g) c).isSome) := rfl
      rw [h9, z1] at hQ
      exact hQ
    · refine x_aload_n dX4_isDoneBy_66 rfl ?_
      refine g_R (s0_27 L) fkX4_32 rfl rfl rfl dX4_isDoneBy_67 ?_
      refine x_iload_n dX4_isDoneBy_70 rfl ?_
      refine x_iload_n dX4_isDoneBy_71 rfl ?_
      refine cV2 (mj := mX0_isCovered) lkX4_95 okX0_isCovered imX0_isCovered seX0_isCovered (s0_12 L) rfl rfl rfl rfl rfl dX4_isDoneBy_72 rfl (k_isCovered (by omega) (by omega) (lt31 (n := 36) (by omega) hd3) hod ?_)
      rw [hd1]
      refine b_if_eq 82 dX4_isDoneBy_75 rfl (fun z2 => ?_) (fun z2 => ?_)
      · refine x_iconst dX4_isDoneBy_82 iconst_0 ?_
        refine x_iret dX4_isDoneBy_83 rfl (by first | exact bI_nar _ | exact n1_nar | exact n0_nar) ?_
        have h9 : pK w h ht 2 e (G g) c = (!qI (G g) && (cov w h ht (G g) c).isSome) := rfl
        rw [h9, z1, z2] at hQ
        exact hQ
      · refine x_iconst dX4_isDoneBy_78 iconst_1 ?_
        refine x_goto 83 dX4_isDoneBy_79 rfl ?_
        refine x_iret dX4_isDoneBy_83 rfl (by first | exact bI_nar _ | exact n1_nar | exact n0_nar) ?_
        have h9 : pK w h ht 2 e (G g) c = (!qI (G g) && (cov w h ht (G g) c).isSome) := rfl
        rw [h9, z1, z2] at hQ
        exact hQ
  · refine x_iload_n dX4_isDoneBy_0 rfl ?_
    refine x_tabIn 84 dX4_isDoneBy_1 (by decide) (by decide) rfl rfl ?_
    refine x_aload_n dX4_isDoneBy_84 rfl ?_
    refine g_R (s0_27 L) fkX4_32 rfl rfl rfl dX4_isDoneBy_85 ?_
    refine x_iload_n dX4_isDoneBy_88 rfl ?_
    refine x_iload_n dX4_isDoneBy_89 rfl ?_
    refine cV2 (mj := mX0_isIced) lkX4_98 okX0_isIced imX0_isIced seX0_isIced (s0_12 L) rfl rfl rfl rfl rfl dX4_isDoneBy_90 rfl (k_isIced V K D hg hc ?_)
    refine x_iret dX4_isDoneBy_93 rfl (bI_nar _) ?_
    exact hQ
set_option maxRecDepth 100000 in
set_option maxHeartbeats 4000000 in
theorem k_isCrossed {E : vE} {l : Launch} {Q : Option Value → vS → vM → Prop} {L : Nat} {M : vM} {w h ng : Nat} {ht : Nat → Nat} {G : Nat → vQ} (V : GoV w h ng ht G) (K : GoC M w h ng ht G) (D : LdC M w h ng ht G) {rw_ gw m : Nat} {r : Nat → Nat} (hRs : (S0 L)[rw_]? = some (3, 2, [gw + 1])) (hRg : (S0 L)[gw]? = some (100, 6, [])) (RV : RwV ng m r) (RM : M rw_ 1 = nI m) (RE : ∀ k, k < m → M gw k = nI (r k)) {c x y : Nat} (hc : c < w * h) (hx : x < 16) (hy : y < 16) (hQ : Q (some (.int (bI (anyK (fun k => anyK (fun j => fP w h ht y (G (r j)) c) k && fP w h ht x (G (r k)) c) m)))) (S0 L) M) : PM E l mX4_isCrossed 0 [.ref 27, .ref rw_, .int (nI c), .int (nI x), .int (nI y), .null, .null] [] (S0 L) M 0 0 Q := by
  have H := V.1
  have e4 := H.le
  have hng := V.2.2.1
  have hm6 := RV.1
  have l1 : (anyK (fun k => anyK (fun j => fP w h ht y (G (r j)) c) k && fP w h ht x (G (r k)) c) 0) = false → PM E l mX4_isCrossed 6 [.ref 27, .ref rw_, .int (nI c), .int (nI x), .int (nI y), .int (bI (anyK (fun j => fP w h ht y (G (r j)) c) 0)), .int (nI 0)] [] (S0 L) M 0 0 Q := by
    refine lp_up (P := fun i => (anyK (fun k => anyK (fun j => fP w h ht y (G (r j)) c) k && fP w h ht x (G (r k)) c) i) = false → PM E l mX4_isCrossed 6 [.ref 27, .ref rw_, .int (nI c), .int (nI x), .int (nI y), .int (bI (anyK (fun j => fP w h ht y (G (r j)) c) i)), .int (nI i)] [] (S0 L) M 0 0 Q) m ?_ ?_ 0 (Nat.zero_le _)
    · intro g1
      refine x_iload dX4_isCrossed_6 rfl ?_
      refine x_aload_n dX4_isCrossed_8 rfl ?_
      refine g_I hRs fkX4_74 rfl rfl dX4_isCrossed_9 ?_
      refine x_as RM ?_
      refine n_icmp_ge 79 dX4_isCrossed_12 rfl (by omega) (by omega) (fun h1 => ?_) (fun h1 => by omega)
      refine x_iconst dX4_isCrossed_79 iconst_0 ?_
      refine x_iret dX4_isCrossed_80 rfl (by first | exact bI_nar _ | exact n1_nar | exact n0_nar) ?_
      rw [g1] at hQ
      exact hQ
    · intro i hi ih g1
      have seg : (anyK (fun k => anyK (fun j => fP w h ht y (G (r j)) c) k && fP w h ht x (G (r k)) c) (i + 1)) = false → PM E l mX4_isCrossed 41 [.ref 27, .ref rw_, .int (nI c), .int (nI x), .int (nI y), .int (bI (anyK (fun j => fP w h ht y (G (r j)) c) i)), .int (nI i)] [] (S0 L) M 0 0 Q := by
        intro g2
        have hr := RV.2 i hi
        refine x_iload dX4_isCrossed_41 rfl ?_
        refine b_if_ne 66 dX4_isCrossed_43 rfl (fun z3 => ?_) (fun z3 => ?_)
        · refine x_iconst dX4_isCrossed_66 iconst_1 ?_
          refine x_goto 71 dX4_isCrossed_67 rfl ?_
          refine x_istore dX4_isCrossed_71 (by decide) rfl ?_
          refine n_inc dX4_isCrossed_73 rfl rfl ?_
          refine x_goto 6 dX4_isCrossed_76 rfl ?_
          have ih2 := ih g2
          rw [anyK_t z3] at ih2
          exact ih2
        · refine x_aload_n dX4_isCrossed_46 rfl ?_
          refine g_R (s0_27 L) fkX4_32 rfl rfl rfl dX4_isCrossed_47 ?_
          refine x_aload_n dX4_isCrossed_50 rfl ?_
          refine g_R hRs fkX4_77 rfl rfl rfl dX4_isCrossed_51 ?_
          refine x_iload dX4_isCrossed_54 rfl ?_
          refine n_iald hRg (by omega) rfl dX4_isCrossed_56 ?_
          refine x_as (RE i hi) ?_
          refine x_iload_n dX4_isCrossed_57 rfl ?_
          refine x_iload dX4_isCrossed_58 rfl ?_
          refine cV3 (mj := mX0_isFlowing) lkX4_84 okX0_isFlowing imX0_isFlowing seX0_isFlowing (s0_12 L) rfl rfl rfl rfl rfl dX4_isCrossed_60 rfl (k_isFlowing V K D hr hc (by omega) ?_)
          refine b_if_eq 70 dX4_isCrossed_63 rfl (fun z4 => ?_) (fun z4 => ?_)
          · refine x_iconst dX4_isCrossed_70 iconst_0 ?_
            refine x_istore dX4_isCrossed_71 (by decide) rfl ?_
            refine n_inc dX4_isCrossed_73 rfl rfl ?_
            refine x_goto 6 dX4_isCrossed_76 rfl ?_
            have ih2 := ih g2
            rw [show (anyK (fun j => fP w h ht y (G (r j)) c) (i + 1)) = false from (anyK_f z3).trans z4] at ih2
            exact ih2
          · refine x_iconst dX4_isCrossed_66 iconst_1 ?_
            refine x_goto 71 dX4_isCrossed_67 rfl ?_
            refine x_istore dX4_isCrossed_71 (by decide) rfl ?_
            refine n_inc dX4_isCrossed_73 rfl rfl ?_
            refine x_goto 6 dX4_isCrossed_76 rfl ?_
            have ih2 := ih g2
            rw [show (anyK (fun j => fP w h ht y (G (r j)) c) (i + 1)) = true from (anyK_f z3).trans z4] at ih2
            exact ih2
      refine x_iload dX4_isCrossed_6 rfl ?_
      refine x_aload_n dX4_isCrossed_8 rfl ?_
      refine g_I hRs fkX4_74 rfl rfl dX4_isCrossed_9 ?_
      refine x_as RM ?_
      refine n_icmp_ge 79 dX4_isCrossed_12 rfl (by omega) (by omega) (fun h1 => by omega) (fun h1 => ?_)
      have hr := RV.2 i hi
      refine x_iload dX4_isCrossed_15 rfl ?_
      refine b_if_eq 41 dX4_isCrossed_17 rfl (fun z1 => ?_) (fun z1 => ?_)
      · exact seg ((anyK_f g1).trans (by rw [z1]; rfl))
      · refine x_aload_n dX4_isCrossed_20 rfl ?_
        refine g_R (s0_27 L) fkX4_32 rfl rfl rfl dX4_isCrossed_21 ?_
        refine x_aload_n dX4_isCrossed_24 rfl ?_
        refine g_R hRs fkX4_77 rfl rfl rfl dX4_isCrossed_25 ?_
        refine x_iload dX4_isCrossed_28 rfl ?_
        refine n_iald hRg (by omega) rfl dX4_isCrossed_30 ?_
        refine x_as (RE i hi) ?_
        refine x_iload_n dX4_isCrossed_31 rfl ?_
        refine x_iload_n dX4_isCrossed_32 rfl ?_
        refine cV3 (mj := mX0_isFlowing) lkX4_84 okX0_isFlowing imX0_isFlowing seX0_isFlowing (s0_12 L) rfl rfl rfl rfl rfl dX4_isCrossed_33 rfl (k_isFlowing V K D hr hc (by omega) ?_)
        refine b_if_eq 41 dX4_isCrossed_36 rfl (fun z2 => ?_) (fun z2 => ?_)
        · exact seg ((anyK_f g1).trans (by rw [z1, z2]; rfl))
        · refine x_iconst dX4_isCrossed_39 iconst_1 ?_
          refine x_iret dX4_isCrossed_40 rfl (by first | exact bI_nar _ | exact n1_nar | exact n0_nar) ?_
          rw [show (anyK (fun k => anyK (fun j => fP w h ht y (G (r j)) c) k && fP w h ht x (G (r k)) c) m) = true from anyK_has hi (by rw [z1, z2]; rfl)] at hQ
          exact hQ
  refine x_iconst dX4_isCrossed_0 iconst_0 ?_
  refine x_istore dX4_isCrossed_1 (by decide) rfl ?_
  refine x_iconst dX4_isCrossed_3 iconst_0 ?_
  refine x_istore dX4_isCrossed_4 (by decide) rfl ?_
  exact l1 rfl
/-- what the class asks of a row: kind k at cell c with e -/
noncomputable def hol (w h : Nat) (ht : Nat → Nat) (G : Nat → vQ) (r : Nat → Nat) (m : Nat) (rk : Nat → Nat) (T : Nat → vT) (k c e : Nat) : Bool :=
  if k = 4 then decide (0 < ctt (whn w h ht G r m rk (T e)) (w * h)) else if k = 5 then crsd w h ht G r m c e else if k = 3 then !anyK (fun i => pK w h ht k e (G (r i)) c) m else anyK (fun i => pK w h ht k e (G (r i)) c) m
set_option maxRecDepth 100000 in
set_option maxHeartbeats 4000000 in
theorem k_holds {E : vE} {l : Launch} {Q : Option Value → vS → vM → Prop} {L : Nat} {M : vM} {w h ng : Nat} {ht : Nat → Nat} {G : Nat → vQ} (V : GoV w h ng ht G) (K : GoC M w h ng ht G) (D : LdC M w h ng ht G) {rw_ gw m : Nat} {r : Nat → Nat} (hRs : (S0 L)[rw_]? = some (3, 2, [gw + 1])) (hRg : (S0 L)[gw]? = some (100, 6, [])) (RV : RwV ng m r) (RM : M rw_ 1 = nI m) (RE : ∀ k, k < m → M gw k = nI (r k)) {ns : Nat} {rk : Nat → Nat} {T : Nat → vT} (SV : StV w h ns rk T) (SC : StC M w h ns rk T) {k c e : Nat} {v : Int32} (hk : k ≤ 5) (he : e < 16) (hv : k ≠ 4 → v = nI c ∧ c < w * h) (h4 : k = 4 → e < ns) (hQ : Q (some (.int (bI (hol w h ht G r m rk T k c e)))) (S0 L) M) : PM E l mX4_holds 0 [.ref 27, .ref rw_, .int (nI k), .int v, .int (nI e), .null] [] (S0 L) M 0 0 Q := by
  have H := V.1
  have e4 := H.le
  have hng := V.2.2.1
  have hm6 := RV.1
  have l1 : k ≠ 4 → k ≠ 5 → v = nI c → c < w * h → PM E l mX4_holds 36 [.ref 27, .ref rw_, .int (nI k), .int v, .int (nI e), .int (nI 0)] [] (S0 L) M 0 0 Q := by
    rintro n4 n5 rfl hc
    have l2 : (anyK (fun i => pK w h ht k e (G (r i)) c) 0) = false → PM E l mX4_holds 36 [.ref 27, .ref rw_, .int (nI k), .int (nI c), .int (nI e), .int (nI 0)] [] (S0 L) M 0 0 Q := by
      refine lp_up (P := fun i => (anyK (fun i => pK w h ht k e (G (r i)) c) i) = false → PM E l mX4_holds 36 [.ref 27, .ref rw_, .int (nI k), .int (nI c), .int (nI e), .int (nI i)] [] (S0 L) M 0 0 Q) m ?_ ?_ 0 (Nat.zero_le _)
      · intro g1
        refine x_iload dX4_holds_36 rfl ?_
        refine x_aload_n dX4_holds_38 rfl ?_
        refine g_I hRs fkX4_74 rfl rfl dX4_holds_39 ?_
        refine x_as RM ?_
        refine n_icmp_ge 80 dX4_holds_42 rfl (by omega) (by omega) (fun h1 => ?_) (fun h1 => by omega)
        refine x_iload_n dX4_holds_80 rfl ?_
        refine x_iconst dX4_holds_81 iconst_3 ?_
        refine n_icmp_ne 89 dX4_holds_82 rfl (by omega) (by omega) (fun y1 => ?_) (fun y1 => ?_)
        · refine x_iconst dX4_holds_89 iconst_0 ?_
          refine x_iret dX4_holds_90 rfl (by first | exact bI_nar _ | exact n1_nar | exact n0_nar) ?_
          rw [show (hol w h ht G r m rk T k c e) = false from by unfold hol; rw [if_neg n4, if_neg n5, if_neg y1]; exact g1] at hQ
          exact hQ
        · refine x_iconst dX4_holds_85 iconst_1 ?_
          refine x_goto 90 dX4_holds_86 rfl ?_
          refine x_iret dX4_holds_90 rfl (by first | exact bI_nar _ | exact n1_nar | exact n0_nar) ?_
          rw [show (hol w h ht G r m rk T k c e) = true from by unfold hol; rw [if_neg n4, if_neg n5, if_pos y1, g1]; rfl] at hQ
          exact hQ
      · intro i hi ih g1
        refine x_iload dX4_holds_36 rfl ?_
        refine x_aload_n dX4_holds_38 rfl ?_
        refine g_I hRs fkX4_74 rfl rfl dX4_holds_39 ?_
        refine x_as RM ?_
        refine n_icmp_ge 80 dX4_holds_42 rfl (by omega) (by omega) (fun h1 => by omega) (fun h1 => ?_)
        have hr := RV.2 i hi
        refine x_aload_n dX4_holds_45 rfl ?_
        refine x_aload_n dX4_holds_46 rfl ?_
        refine g_R hRs fkX4_77 rfl rfl rfl dX4_holds_47 ?_
        refine x_iload dX4_holds_50 rfl ?_
        refine n_iald hRg (by omega) rfl dX4_holds_52 ?_
        refine x_as (RE i hi) ?_
        refine x_iload_n dX4_holds_53 rfl ?_
        refine x_iload_n dX4_holds_54 rfl ?_
        refine x_iload dX4_holds_55 rfl ?_
        refine cV4 (mj := mX4_isDoneBy) lkX4_80 okX4_isDoneBy imX4_isDoneBy seX4_isDoneBy (s0_27 L) rfl rfl rfl rfl rfl dX4_holds_57 rfl (k_isDoneBy V K D hr (by omega) hc he ?_)
        refine b_if_eq 74 dX4_holds_60 rfl (fun z1 => ?_) (fun z1 => ?_)
        · refine n_inc dX4_holds_74 rfl rfl ?_
          refine x_goto 36 dX4_holds_77 rfl ?_
          exact ih ((anyK_f g1).trans z1)
        · refine x_iload_n dX4_holds_63 rfl ?_
          refine x_iconst dX4_holds_64 iconst_3 ?_
          refine n_icmp_eq 72 dX4_holds_65 rfl (by omega) (by omega) (fun y1 => ?_) (fun y1 => ?_)
          · refine x_iconst dX4_holds_72 iconst_0 ?_
            refine x_iret dX4_holds_73 rfl (by first | exact bI_nar _ | exact n1_nar | exact n0_nar) ?_
            rw [show (hol w h ht G r m rk T k c e) = false from by unfold hol; rw [if_neg n4, if_neg n5, if_pos y1, anyK_has (p := fun i => pK w h ht k e (G (r i)) c) hi z1]; rfl] at hQ
            exact hQ
          · refine x_iconst dX4_holds_68 iconst_1 ?_
            refine x_goto 73 dX4_holds_69 rfl ?_
            refine x_iret dX4_holds_73 rfl (by first | exact bI_nar _ | exact n1_nar | exact n0_nar) ?_
            rw [show (hol w h ht G r m rk T k c e) = true from by unfold hol; rw [if_neg n4, if_neg n5, if_neg y1]; exact anyK_has (p := fun i => pK w h ht k e (G (r i)) c) hi z1] at hQ
            exact hQ
    exact l2 rfl
  refine x_iload_n dX4_holds_0 rfl ?_
  refine x_iconst dX4_holds_1 iconst_4 ?_
  refine n_icmp_ne 13 dX4_holds_2 rfl (by omega) (by omega) (fun z0 => ?_) (fun z0 => ?_)
  · refine x_iload_n dX4_holds_13 rfl ?_
    refine x_iconst dX4_holds_14 iconst_5 ?_
    refine n_icmp_ne 33 dX4_holds_15 rfl (by omega) (by omega) (fun z1 => ?_) (fun z1 => ?_)
    · refine x_iconst dX4_holds_33 iconst_0 ?_
      refine x_istore dX4_holds_34 (by decide) rfl ?_
      exact l1 z0 z1 (hv z0).1 (hv z0).2
    · obtain ⟨rfl, hc⟩ := hv z0
      refine x_aload_n dX4_holds_18 rfl ?_
      refine x_aload_n dX4_holds_19 rfl ?_
      refine x_iload_n dX4_holds_20 rfl ?_
      refine x_iload dX4_holds_21 rfl ?_
      refine x_iconst dX4_holds_23 iconst_4 ?_
      refine n_idiv dX4_holds_24 (by omega) (by omega) (by omega) ?_
      refine x_iload dX4_holds_25 rfl ?_
      refine x_iconst dX4_holds_27 iconst_4 ?_
      refine n_irem dX4_holds_28 (by omega) (by omega) (by omega) ?_
      refine cV4 (mj := mX4_isCrossed) lkX4_71 okX4_isCrossed imX4_isCrossed seX4_isCrossed (s0_27 L) rfl rfl rfl rfl rfl dX4_holds_29 rfl (k_isCrossed V K D hRs hRg RV RM RE hc (by omega) (by omega) ?_)
      refine x_iret dX4_holds_32 rfl (bI_nar _) ?_
      rw [show (hol w h ht G r m rk T k c e) = crsd w h ht G r m c e from by unfold hol; rw [if_neg z0, if_pos z1]] at hQ
      exact hQ
  · refine x_aload_n dX4_holds_5 rfl ?_
    refine x_aload_n dX4_holds_6 rfl ?_
    refine x_iload dX4_holds_7 rfl ?_
    refine cV2 (mj := mX4_comesFromSomewhere) lkX4_67 okX4_comesFromSomewhere imX4_comesFromSomewhere seX4_comesFromSomewhere (s0_27 L) rfl rfl rfl rfl rfl dX4_holds_9 rfl (k_comes V K D hRs hRg RV RM RE SV SC (h4 z0) ?_)
    refine x_iret dX4_holds_12 rfl (bI_nar _) ?_
    rw [show (hol w h ht G r m rk T k c e) = _ from if_pos z0] at hQ
    exact hQ

/-- X_STEP, Y_STEP -/
def StepC (M : vM) : Prop := (M 0 0 = nI 1 ∧ M 0 1 = nI 0 ∧ M 0 2 = -1 ∧ M 0 3 = nI 0) ∧ (M 1 0 = nI 0 ∧ M 1 1 = nI 1 ∧ M 1 2 = nI 0 ∧ M 1 3 = -1)
theorem wn {b : Bool} {x n : Nat} (ha : x < 2 ^ 31) (hn : n < 2 ^ 31) (g : b = true ↔ nI 0 ≤ nI x ∧ nI x ≤ nI n) : b = true ↔ x ≤ n := by
  rw [g, nI_leI (by omega) ha, nI_leI ha hn]
  omega
theorem wm {b : Bool} {y : Int32} (g : b = true ↔ nI 0 ≤ (-1 : Int32) ∧ (-1 : Int32) ≤ y) : b = false := by
  cases b with
  | false => rfl
  | true => exact absurd (g.mp rfl).1 (by decide)
theorem xy_mod {w x y : Nat} (hx : x < w) : (y * w + x) % w = x := by rw [Nat.add_comm, Nat.add_mul_mod_self_right]; exact Nat.mod_eq_of_lt hx
theorem xy_div {w x y : Nat} (hx : x < w) : (y * w + x) / w = y := by
  rw [Nat.add_comm, Nat.add_mul_div_right _ _ (by omega), Nat.div_eq_of_lt hx, Nat.zero_add]
theorem xy_0 {w h x y : Nat} (hx : x < w) : nb w h (y * w + x) 0 = if x + 1 < w then some (y * w + x + 1) else none := by simp only [nb, xy_mod hx]
theorem xy_1 {w h x y : Nat} (hx : x < w) : nb w h (y * w + x) 1 = if y + 1 < h then some (y * w + x + w) else none := by simp only [nb, xy_div hx]
theorem xy_2 {w h x y : Nat} (hx : x < w) : nb w h (y * w + x) 2 = if 0 < x then some (y * w + x - 1) else none := by simp only [nb, xy_mod hx]
theorem xy_3 {w h x y : Nat} (hx : x < w) : nb w h (y * w + x) 3 = if 0 < y then some (y * w + x - w) else none := by simp only [nb, xy_div hx]
theorem xy_lt {w h x y : Nat} (hx : x < w) (hy : y < h) : y * w + x < w * h := by
  have h1 : (y + 1) * w ≤ h * w := Nat.mul_le_mul_right w hy
  have h2 : (y + 1) * w = y * w + w := Nat.succ_mul _ _
  have h3 : h * w = w * h := Nat.mul_comm _ _
  omega
theorem nI_dn {x : Nat} (h : 0 < x) : nI x + (-1) = nI (x - 1) := by
  obtain ⟨b, rfl⟩ : ∃ b, x = b + 1 := ⟨x - 1, by omega⟩
  exact pk_m1 b
theorem nI_dn0 {x : Nat} (h : x = 0) : nI x + (-1) = -1 := by rw [h]; decide
set_option maxRecDepth 100000 in
set_option maxHeartbeats 4000000 in
theorem j_fill {E : vE} {l : Launch} {Q : Option Value → vS → vM → Prop} {M : vM} {S : vS} {q n : Nat} {x : Int32} (hq : Nat.ble 3 q = true) (hs : S[q]? = some (100, n, [])) (hn : Nat.ble n 100000 = true) (hQ : ∀ M1 : vM, Fr [q] M M1 → (∀ j, j < n → M1 q j = x) → Q none S M1) : PM E l mJ7_fill_53178 0 [.ref q, .int x, .null, .null] [] S M 0 0 Q := by
  have hn2 := Nat.le_of_ble_eq_true hn
  have l1 : ∀ M1 : vM, Fr [q] M M1 → (∀ j, j < 0 → M1 q j = x) → PM E l mJ7_fill_53178 5 [.ref q, .int x, .int (nI 0), .int (nI n)] [] S M1 0 0 Q := by
    refine lp_up (P := fun i => ∀ M1 : vM, Fr [q] M M1 → (∀ j, j < i → M1 q j = x) → PM E l mJ7_fill_53178 5 [.ref q, .int x, .int (nI i), .int (nI n)] [] S M1 0 0 Q) n ?_ ?_ 0 (Nat.zero_le _)
    · intro M1 g1 g2
      refine x_iload_n dJ7_fill_53178_5 rfl ?_
      refine x_iload_n dJ7_fill_53178_6 rfl ?_
      refine n_icmp_ge 20 dJ7_fill_53178_7 rfl (by omega) (by omega) (fun h1 => ?_) (fun h1 => by omega)
      refine x_vret dJ7_fill_53178_20 rfl ?_
      exact hQ M1 g1 g2
    · intro i hi ih M1 g1 g2
      refine x_iload_n dJ7_fill_53178_5 rfl ?_
      refine x_iload_n dJ7_fill_53178_6 rfl ?_
      refine n_icmp_ge 20 dJ7_fill_53178_7 rfl (by omega) (by omega) (fun h1 => by omega) (fun h1 => ?_)
      refine x_aload_n dJ7_fill_53178_10 rfl ?_
      refine x_iload_n dJ7_fill_53178_11 rfl ?_
      refine x_iload_n dJ7_fill_53178_12 rfl ?_
      refine n_iast hq hs hi hn dJ7_fill_53178_13 ?_
      refine n_inc dJ7_fill_53178_14 rfl rfl ?_
      refine x_goto 5 dJ7_fill_53178_17 rfl ?_
      refine ih _ (g1.set _ (by simp)) (fun j hj => ?_)
      rw [sM_at]
      by_cases e : j = i
      · subst e; exact upd_at _ _ _
      · exact (upd_ne _ _ e).trans (g2 j (by omega))
  refine x_iconst dJ7_fill_53178_0 iconst_0 ?_
  refine x_istore_n dJ7_fill_53178_1 (by decide) rfl ?_
  refine x_aload_n dJ7_fill_53178_2 rfl ?_
  refine x_alen hs dJ7_fill_53178_3 ?_
  refine x_istore_n dJ7_fill_53178_4 (by decide) rfl ?_
  exact l1 M Fr.rf (fun j hj => absurd hj (by omega))
set_option maxRecDepth 100000 in
set_option maxHeartbeats 4000000 in
theorem k_layBeside {E : vE} {l : Launch} {Q : Option Value → vS → vM → Prop} {M : vM} {S : vS} (z0 : S[0]? = some (100, 4, [])) (z1 : S[1]? = some (100, 4, [])) (s4 : S[4]? = some (1, 4, [6, 7, 8])) (s5 : S[5]? = some (100, 36, [])) (s6 : S[6]? = some (100, 36, [])) (s7 : S[7]? = some (100, 144, [])) (X : StepC M) {w h x y : Nat} (H : WH w h) (hx : x < w) (hy : y < h) (hQ : ∀ M1 : vM, Fr [7] M M1 → (∀ j, j < 4 → M1 7 (4 * (y * w + x) + j) = oI (-1) (nb w h (y * w + x) j)) → (∀ j, (j < 4 * (y * w + x) ∨ 4 * (y * w + x) + 4 ≤ j) → M1 7 j = M 7 j) → Q none S M1) : PM E l mX1_layBeside 0 [.ref 4, .int (nI x), .int (nI y), .int (nI w), .int (nI h), .null, .null, .null, .null] [] S M 0 0 Q := by
  have e4 := H.le
  have ec := xy_lt hx hy
  have hH := H
  obtain ⟨b1, b2, b3, b4⟩ := hH
  have l1 : ∀ M1 : vM, Fr [7] M M1 → (∀ j, j < 0 → M1 7 (4 * (y * w + x) + j) = oI (-1) (nb w h (y * w + x) j)) → (∀ j, (j < 4 * (y * w + x) ∨ 4 * (y * w + x) + 4 ≤ j) → M1 7 j = M 7 j) → PM E l mX1_layBeside 3 [.ref 4, .int (nI x), .int (nI y), .int (nI w), .int (nI h), .int (nI 0), .null, .null, .null] [] S M1 0 0 Q := by
    refine lp_up (P := fun i => ∀ M1 : vM, Fr [7] M M1 → (∀ j, j < i → M1 7 (4 * (y * w + x) + j) = oI (-1) (nb w h (y * w + x) j)) → (∀ j, (j < 4 * (y * w + x) ∨ 4 * (y * w + x) + 4 ≤ j) → M1 7 j = M 7 j) → PM E l mX1_layBeside 3 [.ref 4, .int (nI x), .int (nI y), .int (nI w), .int (nI h), .int (nI i), .null, .null, .null] [] S M1 0 0 Q) 4 ?_ ?_ 0 (by omega)
    · intro M1 g1 g2 g3
      refine x_iload dX1_layBeside_3 rfl ?_
      refine x_iconst dX1_layBeside_5 iconst_4 ?_
      refine n_icmp_ge 98 dX1_layBeside_6 rfl (by omega) (by omega) (fun h1 => ?_) (fun h1 => by omega)
      refine x_vret dX1_layBeside_98 rfl ?_
      exact hQ M1 g1 g2 g3
    · intro i hi ih M1 g1 g2 g3
      rcases (show i = 0 ∨ i = 1 ∨ i = 2 ∨ i = 3 by omega) with rfl | rfl | rfl | rfl
      · refine x_iload dX1_layBeside_3 rfl ?_
        refine x_iconst dX1_layBeside_5 iconst_4 ?_
        refine n_icmp_ge 98 dX1_layBeside_6 rfl (by omega) (by omega) (fun h1 => by omega) (fun h1 => ?_)
        refine x_iload_n dX1_layBeside_9 rfl ?_
        refine x_getsX gsX1_39 dX1_layBeside_10 ?_
        refine x_iload dX1_layBeside_13 rfl ?_
        refine n_iald z0 (by omega) rfl dX1_layBeside_15 ?_
        refine x_as ((congrFun (g1 0 (by decide)) _).trans X.1.1) ?_
        refine n_iadd dX1_layBeside_16 ?_
        refine x_istore dX1_layBeside_17 (by decide) rfl ?_
        refine x_iload_n dX1_layBeside_19 rfl ?_
        refine x_getsY gsX1_42 dX1_layBeside_20 ?_
        refine x_iload dX1_layBeside_23 rfl ?_
        refine n_iald z1 (by omega) rfl dX1_layBeside_25 ?_
        refine x_as ((congrFun (g1 1 (by decide)) _).trans X.2.1) ?_
        refine n_iadd dX1_layBeside_26 ?_
        refine x_istore dX1_layBeside_27 (by decide) rfl ?_
        refine x_iload dX1_layBeside_29 rfl ?_
        refine x_iconst dX1_layBeside_31 iconst_0 ?_
        refine x_iload_n dX1_layBeside_32 rfl ?_
        refine x_iconst dX1_layBeside_33 iconst_1 ?_
        refine n_isub dX1_layBeside_34 (by omega) ?_
        refine cS3 (mj := mX8_within) lkX1_45 okX8_within stX8_within rfl rfl rfl rfl dX1_layBeside_35 rfl (c_within _ _ _ (fun qx gx => ?_))
        replace gx := wn (by omega) (by omega) gx
        refine b_if_eq 58 dX1_layBeside_38 rfl (fun zx => ?_) (fun zx => ?_)
        · have zx2 : ¬ _ := fun z => by rw [gx.mpr z] at zx; cases zx
          refine x_iconst dX1_layBeside_58 iconst_0 ?_
          refine x_istore dX1_layBeside_59 (by decide) rfl ?_
          refine x_aload_n dX1_layBeside_61 rfl ?_
          refine g_R s4 fkX1_18 rfl rfl rfl dX1_layBeside_62 ?_
          refine x_iconst dX1_layBeside_65 iconst_4 ?_
          refine x_iload_n dX1_layBeside_66 rfl ?_
          refine x_iload_n dX1_layBeside_67 rfl ?_
          refine n_imul dX1_layBeside_68 ?_
          refine x_iload_n dX1_layBeside_69 rfl ?_
          refine n_iadd dX1_layBeside_70 ?_
          refine n_imul dX1_layBeside_71 ?_
          refine x_iload dX1_layBeside_72 rfl ?_
          refine n_iadd dX1_layBeside_74 ?_
          refine x_iload dX1_layBeside_75 rfl ?_
          refine n_if_eq 90 dX1_layBeside_77 rfl (by omega) (fun h3 => ?_) (fun h3 => by omega)
          refine x_iconst dX1_layBeside_90 iconst_m1 ?_
          refine x_as (y := oI (-1) (nb w h (y * w + x) 0)) ?_ ?_
          · rw [xy_0 hx, if_neg (by omega)]
            rfl
          refine n_iast rfl s7 (by omega) rfl dX1_layBeside_91 ?_
          refine n_inc dX1_layBeside_92 rfl rfl ?_
          refine x_goto 3 dX1_layBeside_95 rfl ?_
          refine x_mask [true, true, true, true, true, true, false, false, false] ?_
          refine ih _ (g1.set _ (by decide)) (fun j hj => ?_) (fun j hj => ?_)
          · by_cases e : j = 0
            · subst e; exact upd_at _ _ _
            · exact (upd_ne _ _ (by omega)).trans (g2 j (by omega))
          · exact (upd_ne _ _ (by omega)).trans (g3 j hj)
        · have zx2 := gx.mp zx
          refine x_iload dX1_layBeside_41 rfl ?_
          refine x_iconst dX1_layBeside_43 iconst_0 ?_
          refine x_iload dX1_layBeside_44 rfl ?_
          refine x_iconst dX1_layBeside_46 iconst_1 ?_
          refine n_isub dX1_layBeside_47 (by omega) ?_
          refine cS3 (mj := mX8_within) lkX1_45 okX8_within stX8_within rfl rfl rfl rfl dX1_layBeside_48 rfl (c_within _ _ _ (fun qy gy => ?_))
          replace gy := wn (by omega) (by omega) gy
          refine b_if_eq 58 dX1_layBeside_51 rfl (fun zy => by rw [gy.mpr (by omega)] at zy; cases zy) (fun zy => ?_)
          refine x_iconst dX1_layBeside_54 iconst_1 ?_
          refine x_goto 59 dX1_layBeside_55 rfl ?_
          refine x_istore dX1_layBeside_59 (by decide) rfl ?_
          refine x_aload_n dX1_layBeside_61 rfl ?_
          refine g_R s4 fkX1_18 rfl rfl rfl dX1_layBeside_62 ?_
          refine x_iconst dX1_layBeside_65 iconst_4 ?_
          refine x_iload_n dX1_layBeside_66 rfl ?_
          refine x_iload_n dX1_layBeside_67 rfl ?_
          refine n_imul dX1_layBeside_68 ?_
          refine x_iload_n dX1_layBeside_69 rfl ?_
          refine n_iadd dX1_layBeside_70 ?_
          refine n_imul dX1_layBeside_71 ?_
          refine x_iload dX1_layBeside_72 rfl ?_
          refine n_iadd dX1_layBeside_74 ?_
          refine x_iload dX1_layBeside_75 rfl ?_
          refine n_if_eq 90 dX1_layBeside_77 rfl (by omega) (fun h5 => by omega) (fun h5 => ?_)
          refine x_iload dX1_layBeside_80 rfl ?_
          refine x_iload_n dX1_layBeside_82 rfl ?_
          refine n_imul dX1_layBeside_83 ?_
          refine x_iload dX1_layBeside_84 rfl ?_
          refine n_iadd dX1_layBeside_86 ?_
          refine x_goto 91 dX1_layBeside_87 rfl ?_
          refine x_as (y := oI (-1) (nb w h (y * w + x) 0)) ?_ ?_
          · rw [xy_0 hx, if_pos (by omega)]
            show nI _ = nI _
            congr 1 <;> omega
          refine n_iast rfl s7 (by omega) rfl dX1_layBeside_91 ?_
          refine n_inc dX1_layBeside_92 rfl rfl ?_
          refine x_goto 3 dX1_layBeside_95 rfl ?_
          refine x_mask [true, true, true, true, true, true, false, false, false] ?_
          refine ih _ (g1.set _ (by decide)) (fun j hj => ?_) (fun j hj => ?_)
          · by_cases e : j = 0
            · subst e; exact upd_at _ _ _
            · exact (upd_ne _ _ (by omega)).trans (g2 j (by omega))
          · exact (upd_ne _ _ (by omega)).trans (g3 j hj)
      · refine x_iload dX1_layBeside_3 rfl ?_
        refine x_iconst dX1_layBeside_5 iconst_4 ?_
        refine n_icmp_ge 98 dX1_layBeside_6 rfl (by omega) (by omega) (fun h1 => by omega) (fun h1 => ?_)
        refine x_iload_n dX1_layBeside_9 rfl ?_
        refine x_getsX gsX1_39 dX1_layBeside_10 ?_
        refine x_iload dX1_layBeside_13 rfl ?_
        refine n_iald z0 (by omega) rfl dX1_layBeside_15 ?_
        refine x_as ((congrFun (g1 0 (by decide)) _).trans X.1.2.1) ?_
        refine n_iadd dX1_layBeside_16 ?_
        refine x_istore dX1_layBeside_17 (by decide) rfl ?_
        refine x_iload_n dX1_layBeside_19 rfl ?_
        refine x_getsY gsX1_42 dX1_layBeside_20 ?_
        refine x_iload dX1_layBeside_23 rfl ?_
        refine n_iald z1 (by omega) rfl dX1_layBeside_25 ?_
        refine x_as ((congrFun (g1 1 (by decide)) _).trans X.2.2.1) ?_
        refine n_iadd dX1_layBeside_26 ?_
        refine x_istore dX1_layBeside_27 (by decide) rfl ?_
        refine x_iload dX1_layBeside_29 rfl ?_
        refine x_iconst dX1_layBeside_31 iconst_0 ?_
        refine x_iload_n dX1_layBeside_32 rfl ?_
        refine x_iconst dX1_layBeside_33 iconst_1 ?_
        refine n_isub dX1_layBeside_34 (by omega) ?_
        refine cS3 (mj := mX8_within) lkX1_45 okX8_within stX8_within rfl rfl rfl rfl dX1_layBeside_35 rfl (c_within _ _ _ (fun qx gx => ?_))
        replace gx := wn (by omega) (by omega) gx
        refine b_if_eq 58 dX1_layBeside_38 rfl (fun zx => by rw [gx.mpr (by omega)] at zx; cases zx) (fun zx => ?_)
        refine x_iload dX1_layBeside_41 rfl ?_
        refine x_iconst dX1_layBeside_43 iconst_0 ?_
        refine x_iload dX1_layBeside_44 rfl ?_
        refine x_iconst dX1_layBeside_46 iconst_1 ?_
        refine n_isub dX1_layBeside_47 (by omega) ?_
        refine cS3 (mj := mX8_within) lkX1_45 okX8_within stX8_within rfl rfl rfl rfl dX1_layBeside_48 rfl (c_within _ _ _ (fun qy gy => ?_))
        replace gy := wn (by omega) (by omega) gy
        refine b_if_eq 58 dX1_layBeside_51 rfl (fun zy => ?_) (fun zy => ?_)
        · have zy2 : ¬ _ := fun z => by rw [gy.mpr z] at zy; cases zy
          refine x_iconst dX1_layBeside_58 iconst_0 ?_
          refine x_istore dX1_layBeside_59 (by decide) rfl ?_
          refine x_aload_n dX1_layBeside_61 rfl ?_
          refine g_R s4 fkX1_18 rfl rfl rfl dX1_layBeside_62 ?_
          refine x_iconst dX1_layBeside_65 iconst_4 ?_
          refine x_iload_n dX1_layBeside_66 rfl ?_
          refine x_iload_n dX1_layBeside_67 rfl ?_
          refine n_imul dX1_layBeside_68 ?_
          refine x_iload_n dX1_layBeside_69 rfl ?_
          refine n_iadd dX1_layBeside_70 ?_
          refine n_imul dX1_layBeside_71 ?_
          refine x_iload dX1_layBeside_72 rfl ?_
          refine n_iadd dX1_layBeside_74 ?_
          refine x_iload dX1_layBeside_75 rfl ?_
          refine n_if_eq 90 dX1_layBeside_77 rfl (by omega) (fun h4 => ?_) (fun h4 => by omega)
          refine x_iconst dX1_layBeside_90 iconst_m1 ?_
          refine x_as (y := oI (-1) (nb w h (y * w + x) 1)) ?_ ?_
          · rw [xy_1 hx, if_neg (by omega)]
            rfl
          refine n_iast rfl s7 (by omega) rfl dX1_layBeside_91 ?_
          refine n_inc dX1_layBeside_92 rfl rfl ?_
          refine x_goto 3 dX1_layBeside_95 rfl ?_
          refine x_mask [true, true, true, true, true, true, false, false, false] ?_
          refine ih _ (g1.set _ (by decide)) (fun j hj => ?_) (fun j hj => ?_)
          · by_cases e : j = 1
            · subst e; exact upd_at _ _ _
            · exact (upd_ne _ _ (by omega)).trans (g2 j (by omega))
          · exact (upd_ne _ _ (by omega)).trans (g3 j hj)
        · have zy2 := gy.mp zy
          refine x_iconst dX1_layBeside_54 iconst_1 ?_
          refine x_goto 59 dX1_layBeside_55 rfl ?_
          refine x_istore dX1_layBeside_59 (by decide) rfl ?_
          refine x_aload_n dX1_layBeside_61 rfl ?_
          refine g_R s4 fkX1_18 rfl rfl rfl dX1_layBeside_62 ?_
          refine x_iconst dX1_layBeside_65 iconst_4 ?_
          refine x_iload_n dX1_layBeside_66 rfl ?_
          refine x_iload_n dX1_layBeside_67 rfl ?_
          refine n_imul dX1_layBeside_68 ?_
          refine x_iload_n dX1_layBeside_69 rfl ?_
          refine n_iadd dX1_layBeside_70 ?_
          refine n_imul dX1_layBeside_71 ?_
          refine x_iload dX1_layBeside_72 rfl ?_
          refine n_iadd dX1_layBeside_74 ?_
          refine x_iload dX1_layBeside_75 rfl ?_
          refine n_if_eq 90 dX1_layBeside_77 rfl (by omega) (fun h5 => by omega) (fun h5 => ?_)
          refine x_iload dX1_layBeside_80 rfl ?_
          refine x_iload_n dX1_layBeside_82 rfl ?_
          refine n_imul dX1_layBeside_83 ?_
          refine x_iload dX1_layBeside_84 rfl ?_
          refine n_iadd dX1_layBeside_86 ?_
          refine x_goto 91 dX1_layBeside_87 rfl ?_
          refine x_as (y := oI (-1) (nb w h (y * w + x) 1)) ?_ ?_
          · rw [xy_1 hx, if_pos (by omega)]
            show nI _ = nI _
            congr 1
            have q1 : (y + 1) * w = y * w + w := Nat.succ_mul y w
            omega
          refine n_iast rfl s7 (by omega) rfl dX1_layBeside_91 ?_
          refine n_inc dX1_layBeside_92 rfl rfl ?_
          refine x_goto 3 dX1_layBeside_95 rfl ?_
          refine x_mask [true, true, true, true, true, true, false, false, false] ?_
          refine ih _ (g1.set _ (by decide)) (fun j hj => ?_) (fun j hj => ?_)
          · by_cases e : j = 1
            · subst e; exact upd_at _ _ _
            · exact (upd_ne _ _ (by omega)).trans (g2 j (by omega))
          · exact (upd_ne _ _ (by omega)).trans (g3 j hj)
      · refine x_iload dX1_layBeside_3 rfl ?_
        refine x_iconst dX1_layBeside_5 iconst_4 ?_
        refine n_icmp_ge 98 dX1_layBeside_6 rfl (by omega) (by omega) (fun h1 => by omega) (fun h1 => ?_)
        refine x_iload_n dX1_layBeside_9 rfl ?_
        refine x_getsX gsX1_39 dX1_layBeside_10 ?_
        refine x_iload dX1_layBeside_13 rfl ?_
        refine n_iald z0 (by omega) rfl dX1_layBeside_15 ?_
        refine x_as ((congrFun (g1 0 (by decide)) _).trans X.1.2.2.1) ?_
        refine x_iadd dX1_layBeside_16 ?_
        rcases Nat.eq_zero_or_pos x with hx0 | hx0
        · refine x_as (nI_dn0 hx0) ?_
          refine x_istore dX1_layBeside_17 (by decide) rfl ?_
          refine x_iload_n dX1_layBeside_19 rfl ?_
          refine x_getsY gsX1_42 dX1_layBeside_20 ?_
          refine x_iload dX1_layBeside_23 rfl ?_
          refine n_iald z1 (by omega) rfl dX1_layBeside_25 ?_
          refine x_as ((congrFun (g1 1 (by decide)) _).trans X.2.2.2.1) ?_
          refine n_iadd dX1_layBeside_26 ?_
          refine x_istore dX1_layBeside_27 (by decide) rfl ?_
          refine x_iload dX1_layBeside_29 rfl ?_
          refine x_iconst dX1_layBeside_31 iconst_0 ?_
          refine x_iload_n dX1_layBeside_32 rfl ?_
          refine x_iconst dX1_layBeside_33 iconst_1 ?_
          refine n_isub dX1_layBeside_34 (by omega) ?_
          refine cS3 (mj := mX8_within) lkX1_45 okX8_within stX8_within rfl rfl rfl rfl dX1_layBeside_35 rfl (c_within _ _ _ (fun qx gx => ?_))
          replace gx := wm gx
          refine b_if_eq 58 dX1_layBeside_38 rfl (fun zx => ?_) (fun zx => by rw [gx] at zx; cases zx)
          refine x_iconst dX1_layBeside_58 iconst_0 ?_
          refine x_istore dX1_layBeside_59 (by decide) rfl ?_
          refine x_aload_n dX1_layBeside_61 rfl ?_
          refine g_R s4 fkX1_18 rfl rfl rfl dX1_layBeside_62 ?_
          refine x_iconst dX1_layBeside_65 iconst_4 ?_
          refine x_iload_n dX1_layBeside_66 rfl ?_
          refine x_iload_n dX1_layBeside_67 rfl ?_
          refine n_imul dX1_layBeside_68 ?_
          refine x_iload_n dX1_layBeside_69 rfl ?_
          refine n_iadd dX1_layBeside_70 ?_
          refine n_imul dX1_layBeside_71 ?_
          refine x_iload dX1_layBeside_72 rfl ?_
          refine n_iadd dX1_layBeside_74 ?_
          refine x_iload dX1_layBeside_75 rfl ?_
          refine n_if_eq 90 dX1_layBeside_77 rfl (by omega) (fun h3 => ?_) (fun h3 => by omega)
          refine x_iconst dX1_layBeside_90 iconst_m1 ?_
          refine x_as (y := oI (-1) (nb w h (y * w + x) 2)) ?_ ?_
          · rw [xy_2 hx, if_neg (by omega)]
            rfl
          refine n_iast rfl s7 (by omega) rfl dX1_layBeside_91 ?_
          refine n_inc dX1_layBeside_92 rfl rfl ?_
          refine x_goto 3 dX1_layBeside_95 rfl ?_
          refine x_mask [true, true, true, true, true, true, false, false, false] ?_
          refine ih _ (g1.set _ (by decide)) (fun j hj => ?_) (fun j hj => ?_)
          · by_cases e : j = 2
            · subst e; exact upd_at _ _ _
            · exact (upd_ne _ _ (by omega)).trans (g2 j (by omega))
          · exact (upd_ne _ _ (by omega)).trans (g3 j hj)
        · refine x_as (nI_dn hx0) ?_
          refine x_istore dX1_layBeside_17 (by decide) rfl ?_
          refine x_iload_n dX1_layBeside_19 rfl ?_
          refine x_getsY gsX1_42 dX1_layBeside_20 ?_
          refine x_iload dX1_layBeside_23 rfl ?_
          refine n_iald z1 (by omega) rfl dX1_layBeside_25 ?_
          refine x_as ((congrFun (g1 1 (by decide)) _).trans X.2.2.2.1) ?_
          refine n_iadd dX1_layBeside_26 ?_
          refine x_istore dX1_layBeside_27 (by decide) rfl ?_
          refine x_iload dX1_layBeside_29 rfl ?_
          refine x_iconst dX1_layBeside_31 iconst_0 ?_
          refine x_iload_n dX1_layBeside_32 rfl ?_
          refine x_iconst dX1_layBeside_33 iconst_1 ?_
          refine n_isub dX1_layBeside_34 (by omega) ?_
          refine cS3 (mj := mX8_within) lkX1_45 okX8_within stX8_within rfl rfl rfl rfl dX1_layBeside_35 rfl (c_within _ _ _ (fun qx gx => ?_))
          replace gx := wn (by omega) (by omega) gx
          refine b_if_eq 58 dX1_layBeside_38 rfl (fun zx => by rw [gx.mpr (by omega)] at zx; cases zx) (fun zx => ?_)
          refine x_iload dX1_layBeside_41 rfl ?_
          refine x_iconst dX1_layBeside_43 iconst_0 ?_
          refine x_iload dX1_layBeside_44 rfl ?_
          refine x_iconst dX1_layBeside_46 iconst_1 ?_
          refine n_isub dX1_layBeside_47 (by omega) ?_
          refine cS3 (mj := mX8_within) lkX1_45 okX8_within stX8_within rfl rfl rfl rfl dX1_layBeside_48 rfl (c_within _ _ _ (fun qy gy => ?_))
          replace gy := wn (by omega) (by omega) gy
          refine b_if_eq 58 dX1_layBeside_51 rfl (fun zy => by rw [gy.mpr (by omega)] at zy; cases zy) (fun zy => ?_)
          refine x_iconst dX1_layBeside_54 iconst_1 ?_
          refine x_goto 59 dX1_layBeside_55 rfl ?_
          refine x_istore dX1_layBeside_59 (by decide) rfl ?_
          refine x_aload_n dX1_layBeside_61 rfl ?_
          refine g_R s4 fkX1_18 rfl rfl rfl dX1_layBeside_62 ?_
          refine x_iconst dX1_layBeside_65 iconst_4 ?_
          refine x_iload_n dX1_layBeside_66 rfl ?_
          refine x_iload_n dX1_layBeside_67 rfl ?_
          refine n_imul dX1_layBeside_68 ?_
          refine x_iload_n dX1_layBeside_69 rfl ?_
          refine n_iadd dX1_layBeside_70 ?_
          refine n_imul dX1_layBeside_71 ?_
          refine x_iload dX1_layBeside_72 rfl ?_
          refine n_iadd dX1_layBeside_74 ?_
          refine x_iload dX1_layBeside_75 rfl ?_
          refine n_if_eq 90 dX1_layBeside_77 rfl (by omega) (fun h6 => by omega) (fun h6 => ?_)
          refine x_iload dX1_layBeside_80 rfl ?_
          refine x_iload_n dX1_layBeside_82 rfl ?_
          refine n_imul dX1_layBeside_83 ?_
          refine x_iload dX1_layBeside_84 rfl ?_
          refine n_iadd dX1_layBeside_86 ?_
          refine x_goto 91 dX1_layBeside_87 rfl ?_
          refine x_as (y := oI (-1) (nb w h (y * w + x) 2)) ?_ ?_
          · rw [xy_2 hx, if_pos (by omega)]
            show nI _ = nI _
            congr 1
            simp only [Nat.add_zero]
            omega
          refine n_iast rfl s7 (by omega) rfl dX1_layBeside_91 ?_
          refine n_inc dX1_layBeside_92 rfl rfl ?_
          refine x_goto 3 dX1_layBeside_95 rfl ?_
          refine x_mask [true, true, true, true, true, true, false, false, false] ?_
          refine ih _ (g1.set _ (by decide)) (fun j hj => ?_) (fun j hj => ?_)
          · by_cases e : j = 2
            · subst e; exact upd_at _ _ _
            · exact (upd_ne _ _ (by omega)).trans (g2 j (by omega))
          · exact (upd_ne _ _ (by omega)).trans (g3 j hj)
      · refine x_iload dX1_layBeside_3 rfl ?_
        refine x_iconst dX1_layBeside_5 iconst_4 ?_
        refine n_icmp_ge 98 dX1_layBeside_6 rfl (by omega) (by omega) (fun h1 => by omega) (fun h1 => ?_)
        refine x_iload_n dX1_layBeside_9 rfl ?_
        refine x_getsX gsX1_39 dX1_layBeside_10 ?_
        refine x_iload dX1_layBeside_13 rfl ?_
        refine n_iald z0 (by omega) rfl dX1_layBeside_15 ?_
        refine x_as ((congrFun (g1 0 (by decide)) _).trans X.1.2.2.2) ?_
        refine n_iadd dX1_layBeside_16 ?_
        refine x_istore dX1_layBeside_17 (by decide) rfl ?_
        refine x_iload_n dX1_layBeside_19 rfl ?_
        refine x_getsY gsX1_42 dX1_layBeside_20 ?_
        refine x_iload dX1_layBeside_23 rfl ?_
        refine n_iald z1 (by omega) rfl dX1_layBeside_25 ?_
        refine x_as ((congrFun (g1 1 (by decide)) _).trans X.2.2.2.2) ?_
        refine x_iadd dX1_layBeside_26 ?_
        rcases Nat.eq_zero_or_pos y with hy0 | hy0
        · refine x_as (nI_dn0 hy0) ?_
          refine x_istore dX1_layBeside_27 (by decide) rfl ?_
          refine x_iload dX1_layBeside_29 rfl ?_
          refine x_iconst dX1_layBeside_31 iconst_0 ?_
          refine x_iload_n dX1_layBeside_32 rfl ?_
          refine x_iconst dX1_layBeside_33 iconst_1 ?_
          refine n_isub dX1_layBeside_34 (by omega) ?_
          refine cS3 (mj := mX8_within) lkX1_45 okX8_within stX8_within rfl rfl rfl rfl dX1_layBeside_35 rfl (c_within _ _ _ (fun qx gx => ?_))
          replace gx := wn (by omega) (by omega) gx
          refine b_if_eq 58 dX1_layBeside_38 rfl (fun zx => by rw [gx.mpr (by omega)] at zx; cases zx) (fun zx => ?_)
          refine x_iload dX1_layBeside_41 rfl ?_
          refine x_iconst dX1_layBeside_43 iconst_0 ?_
          refine x_iload dX1_layBeside_44 rfl ?_
          refine x_iconst dX1_layBeside_46 iconst_1 ?_
          refine n_isub dX1_layBeside_47 (by omega) ?_
          refine cS3 (mj := mX8_within) lkX1_45 okX8_within stX8_within rfl rfl rfl rfl dX1_layBeside_48 rfl (c_within _ _ _ (fun qy gy => ?_))
          replace gy := wm gy
          refine b_if_eq 58 dX1_layBeside_51 rfl (fun zy => ?_) (fun zy => by rw [gy] at zy; cases zy)
          refine x_iconst dX1_layBeside_58 iconst_0 ?_
          refine x_istore dX1_layBeside_59 (by decide) rfl ?_
          refine x_aload_n dX1_layBeside_61 rfl ?_
          refine g_R s4 fkX1_18 rfl rfl rfl dX1_layBeside_62 ?_
          refine x_iconst dX1_layBeside_65 iconst_4 ?_
          refine x_iload_n dX1_layBeside_66 rfl ?_
          refine x_iload_n dX1_layBeside_67 rfl ?_
          refine n_imul dX1_layBeside_68 ?_
          refine x_iload_n dX1_layBeside_69 rfl ?_
          refine n_iadd dX1_layBeside_70 ?_
          refine n_imul dX1_layBeside_71 ?_
          refine x_iload dX1_layBeside_72 rfl ?_
          refine n_iadd dX1_layBeside_74 ?_
          refine x_iload dX1_layBeside_75 rfl ?_
          refine n_if_eq 90 dX1_layBeside_77 rfl (by omega) (fun h4 => ?_) (fun h4 => by omega)
          refine x_iconst dX1_layBeside_90 iconst_m1 ?_
          refine x_as (y := oI (-1) (nb w h (y * w + x) 3)) ?_ ?_
          · rw [xy_3 hx, if_neg (by omega)]
            rfl
          refine n_iast rfl s7 (by omega) rfl dX1_layBeside_91 ?_
          refine n_inc dX1_layBeside_92 rfl rfl ?_
          refine x_goto 3 dX1_layBeside_95 rfl ?_
          refine x_mask [true, true, true, true, true, true, false, false, false] ?_
          refine ih _ (g1.set _ (by decide)) (fun j hj => ?_) (fun j hj => ?_)
          · by_cases e : j = 3
            · subst e; exact upd_at _ _ _
            · exact (upd_ne _ _ (by omega)).trans (g2 j (by omega))
          · exact (upd_ne _ _ (by omega)).trans (g3 j hj)
        · refine x_as (nI_dn hy0) ?_
          refine x_istore dX1_layBeside_27 (by decide) rfl ?_
          refine x_iload dX1_layBeside_29 rfl ?_
          refine x_iconst dX1_layBeside_31 iconst_0 ?_
          refine x_iload_n dX1_layBeside_32 rfl ?_
          refine x_iconst dX1_layBeside_33 iconst_1 ?_
          refine n_isub dX1_layBeside_34 (by omega) ?_
          refine cS3 (mj := mX8_within) lkX1_45 okX8_within stX8_within rfl rfl rfl rfl dX1_layBeside_35 rfl (c_within _ _ _ (fun qx gx => ?_))
          replace gx := wn (by omega) (by omega) gx
          refine b_if_eq 58 dX1_layBeside_38 rfl (fun zx => by rw [gx.mpr (by omega)] at zx; cases zx) (fun zx => ?_)
          refine x_iload dX1_layBeside_41 rfl ?_
          refine x_iconst dX1_layBeside_43 iconst_0 ?_
          refine x_iload dX1_layBeside_44 rfl ?_
          refine x_iconst dX1_layBeside_46 iconst_1 ?_
          refine n_isub dX1_layBeside_47 (by omega) ?_
          refine cS3 (mj := mX8_within) lkX1_45 okX8_within stX8_within rfl rfl rfl rfl dX1_layBeside_48 rfl (c_within _ _ _ (fun qy gy => ?_))
          replace gy := wn (by omega) (by omega) gy
          refine b_if_eq 58 dX1_layBeside_51 rfl (fun zy => by rw [gy.mpr (by omega)] at zy; cases zy) (fun zy => ?_)
          refine x_iconst dX1_layBeside_54 iconst_1 ?_
          refine x_goto 59 dX1_layBeside_55 rfl ?_
          refine x_istore dX1_layBeside_59 (by decide) rfl ?_
          refine x_aload_n dX1_layBeside_61 rfl ?_
          refine g_R s4 fkX1_18 rfl rfl rfl dX1_layBeside_62 ?_
          refine x_iconst dX1_layBeside_65 iconst_4 ?_
          refine x_iload_n dX1_layBeside_66 rfl ?_
          refine x_iload_n dX1_layBeside_67 rfl ?_
          refine n_imul dX1_layBeside_68 ?_
          refine x_iload_n dX1_layBeside_69 rfl ?_
          refine n_iadd dX1_layBeside_70 ?_
          refine n_imul dX1_layBeside_71 ?_
          refine x_iload dX1_layBeside_72 rfl ?_
          refine n_iadd dX1_layBeside_74 ?_
          refine x_iload dX1_layBeside_75 rfl ?_
          refine n_if_eq 90 dX1_layBeside_77 rfl (by omega) (fun h7 => by omega) (fun h7 => ?_)
          refine x_iload dX1_layBeside_80 rfl ?_
          refine x_iload_n dX1_layBeside_82 rfl ?_
          refine n_imul dX1_layBeside_83 ?_
          refine x_iload dX1_layBeside_84 rfl ?_
          refine n_iadd dX1_layBeside_86 ?_
          refine x_goto 91 dX1_layBeside_87 rfl ?_
          refine x_as (y := oI (-1) (nb w h (y * w + x) 3)) ?_ ?_
          · rw [xy_3 hx, if_pos (by omega)]
            show nI _ = nI _
            congr 1
            obtain ⟨u, rfl⟩ : ∃ u, y = u + 1 := ⟨y - 1, by omega⟩
            have q1 : (u + 1) * w = u * w + w := Nat.succ_mul u w
            have q2 : (u + 1 - 1) * w = u * w := by rw [Nat.add_sub_cancel]
            omega
          refine n_iast rfl s7 (by omega) rfl dX1_layBeside_91 ?_
          refine n_inc dX1_layBeside_92 rfl rfl ?_
          refine x_goto 3 dX1_layBeside_95 rfl ?_
          refine x_mask [true, true, true, true, true, true, false, false, false] ?_
          refine ih _ (g1.set _ (by decide)) (fun j hj => ?_) (fun j hj => ?_)
          · by_cases e : j = 3
            · subst e; exact upd_at _ _ _
            · exact (upd_ne _ _ (by omega)).trans (g2 j (by omega))
          · exact (upd_ne _ _ (by omega)).trans (g3 j hj)
  refine x_iconst dX1_layBeside_0 iconst_0 ?_
  refine x_istore dX1_layBeside_1 (by decide) rfl ?_
  exact l1 M Fr.rf (fun j hj => absurd hj (by omega)) (fun j hj => rfl)
set_option maxRecDepth 100000 in
set_option maxHeartbeats 4000000 in
theorem k_lay {E : vE} {l : Launch} {Q : Option Value → vS → vM → Prop} {M : vM} {S : vS} (z0 : S[0]? = some (100, 4, [])) (z1 : S[1]? = some (100, 4, [])) (s4 : S[4]? = some (1, 4, [6, 7, 8])) (s5 : S[5]? = some (100, 36, [])) (s6 : S[6]? = some (100, 36, [])) (s7 : S[7]? = some (100, 144, [])) (X : StepC M) {w h : Nat} (H : WH w h) (hQ : ∀ M1 : vM, Fr [4, 5, 6, 7] M M1 → M1 4 3 = nI (w * h) → (∀ c, c < 36 → M1 5 c = nI 0 ∧ M1 6 c = nI 0) → (∀ c, c < w * h → ∀ d, d < 4 → M1 7 (4 * c + d) = oI (-1) (nb w h c d)) → Q none S M1) : PM E l mX1_lay 0 [.ref 4, .int (nI w), .int (nI h), .null, .null] [] S M 0 0 Q := by
  have e4 := H.le
  have hH := H
  obtain ⟨b1, b2, b3, b4⟩ := hH
  have ly : ∀ M1 : vM, Fr [4, 5, 6, 7] M M1 → M1 4 3 = nI (w * h) → (∀ c, c < 36 → M1 5 c = nI 0 ∧ M1 6 c = nI 0) → (∀ c, c < 0 * w → ∀ d, d < 4 → M1 7 (4 * c + d) = oI (-1) (nb w h c d)) → PM E l mX1_lay 25 [.ref 4, .int (nI w), .int (nI h), .int (nI 0), .null] [] S M1 0 0 Q := by
    refine lp_up (P := fun y => ∀ M1 : vM, Fr [4, 5, 6, 7] M M1 → M1 4 3 = nI (w * h) → (∀ c, c < 36 → M1 5 c = nI 0 ∧ M1 6 c = nI 0) → (∀ c, c < y * w → ∀ d, d < 4 → M1 7 (4 * c + d) = oI (-1) (nb w h c d)) → PM E l mX1_lay 25 [.ref 4, .int (nI w), .int (nI h), .int (nI y), .null] [] S M1 0 0 Q) h ?_ ?_ 0 (Nat.zero_le _)
    · intro M1 g1 g2 g3 g4
      refine x_iload_n dX1_lay_25 rfl ?_
      refine x_iload_n dX1_lay_26 rfl ?_
      refine n_icmp_ge 60 dX1_lay_27 rfl (by omega) (by omega) (fun h1 => ?_) (fun h1 => by omega)
      refine x_vret dX1_lay_60 rfl ?_
      refine hQ M1 g1 g2 g3 (fun c hc => g4 c (by rw [Nat.mul_comm]; exact hc))
    · intro y hy ih M1 g1 g2 g3 g4
      have lx : ∀ M1 : vM, Fr [4, 5, 6, 7] M M1 → M1 4 3 = nI (w * h) → (∀ c, c < 36 → M1 5 c = nI 0 ∧ M1 6 c = nI 0) → (∀ c, c < y * w + 0 → ∀ d, d < 4 → M1 7 (4 * c + d) = oI (-1) (nb w h c d)) → PM E l mX1_lay 33 [.ref 4, .int (nI w), .int (nI h), .int (nI y), .int (nI 0)] [] S M1 0 0 Q := by
        refine lp_up (P := fun x => ∀ M1 : vM, Fr [4, 5, 6, 7] M M1 → M1 4 3 = nI (w * h) → (∀ c, c < 36 → M1 5 c = nI 0 ∧ M1 6 c = nI 0) → (∀ c, c < y * w + x → ∀ d, d < 4 → M1 7 (4 * c + d) = oI (-1) (nb w h c d)) → PM E l mX1_lay 33 [.ref 4, .int (nI w), .int (nI h), .int (nI y), .int (nI x)] [] S M1 0 0 Q) w ?_ ?_ 0 (Nat.zero_le _)
        · intro M1 g1 g2 g3 g4
          refine x_iload dX1_lay_33 rfl ?_
          refine x_iload_n dX1_lay_35 rfl ?_
          refine n_icmp_ge 54 dX1_lay_36 rfl (by omega) (by omega) (fun h1 => ?_) (fun h1 => by omega)
          refine n_inc dX1_lay_54 rfl rfl ?_
          refine x_goto 25 dX1_lay_57 rfl ?_
          refine x_mask [true, true, true, true, false] ?_
          exact ih _ g1 g2 g3 (fun c hc => g4 c (by rw [Nat.succ_mul] at hc; exact hc))
        · intro x hx ih2 M1 g1 g2 g3 g4
          refine x_iload dX1_lay_33 rfl ?_
          refine x_iload_n dX1_lay_35 rfl ?_
          refine n_icmp_ge 54 dX1_lay_36 rfl (by omega) (by omega) (fun h1 => by omega) (fun h1 => ?_)
          refine x_aload_n dX1_lay_39 rfl ?_
          refine x_iload dX1_lay_40 rfl ?_
          refine x_iload_n dX1_lay_42 rfl ?_
          refine x_iload_n dX1_lay_43 rfl ?_
          refine x_iload_n dX1_lay_44 rfl ?_
          refine cV4 (mj := mX1_layBeside) lkX1_35 okX1_layBeside imX1_layBeside seX1_layBeside s4 rfl rfl rfl rfl rfl dX1_lay_45 rfl (k_layBeside z0 z1 s4 s5 s6 s7 (by unfold StepC; rw [g1 0 (by decide), g1 1 (by decide)]; exact X) H hx hy (fun M2 k1 k2 k3 => ?_))
          refine n_inc dX1_lay_48 rfl rfl ?_
          refine x_goto 33 dX1_lay_51 rfl ?_
          refine ih2 M2 (g1.trans (k1.sub (by decide))) ((congrFun (k1 4 (by decide)) 3).trans g2) (fun c hc => ⟨(congrFun (k1 5 (by decide)) c).trans (g3 c hc).1, (congrFun (k1 6 (by decide)) c).trans (g3 c hc).2⟩) (fun c hc d hd => ?_)
          by_cases e : c = y * w + x
          · subst e; exact k2 d hd
          · exact (k3 _ (by omega)).trans (g4 c (by omega) d hd)
      refine x_iload_n dX1_lay_25 rfl ?_
      refine x_iload_n dX1_lay_26 rfl ?_
      refine n_icmp_ge 60 dX1_lay_27 rfl (by omega) (by omega) (fun h1 => by omega) (fun h1 => ?_)
      refine x_iconst dX1_lay_30 iconst_0 ?_
      refine x_istore dX1_lay_31 (by decide) rfl ?_
      exact lx M1 g1 g2 g3 g4
  refine x_aload_n dX1_lay_0 rfl ?_
  refine x_iload_n dX1_lay_1 rfl ?_
  refine x_iload_n dX1_lay_2 rfl ?_
  refine n_imul dX1_lay_3 ?_
  refine g_P s4 fkX1_25 rfl rfl rfl rfl dX1_lay_4 ?_
  refine x_aload_n dX1_lay_7 rfl ?_
  refine g_R s4 fkX1_9 rfl rfl rfl dX1_lay_8 ?_
  refine x_iconst dX1_lay_11 iconst_0 ?_
  refine cS2 (mj := mJ7_fill_53178) lkX1_29 okJ7_fill_53178 stJ7_fill_53178 rfl rfl rfl rfl dX1_lay_12 rfl (j_fill rfl s5 rfl (fun M2 k1 k2 => ?_))
  refine x_aload_n dX1_lay_15 rfl ?_
  refine g_R s4 fkX1_15 rfl rfl rfl dX1_lay_16 ?_
  refine x_iconst dX1_lay_19 iconst_0 ?_
  refine cS2 (mj := mJ7_fill_53178) lkX1_29 okJ7_fill_53178 stJ7_fill_53178 rfl rfl rfl rfl dX1_lay_20 rfl (j_fill rfl s6 rfl (fun M3 k3 k4 => ?_))
  refine x_iconst dX1_lay_23 iconst_0 ?_
  refine x_istore_n dX1_lay_24 (by decide) rfl ?_
  refine ly M3 ?_ ?_ ?_ (fun c hc => absurd hc (by omega))
  · exact ((Fr.rf.set _ (by decide)).trans (k1.sub (by decide))).trans (k3.sub (by decide))
  · rw [k3 4 (by decide), k1 4 (by decide)]; rfl
  · intro c hc; exact ⟨(congrFun (k3 5 (by decide)) c).trans (k2 c hc), k4 c hc⟩
set_option maxRecDepth 100000 in
set_option maxHeartbeats 4000000 in
theorem k_isEdge {E : vE} {l : Launch} {Q : Option Value → vS → vM → Prop} {L : Nat} {M : vM} {w h : Nat} (H : WH w h) (K : GrC M w h) {c : Nat} (hc : c < w * h) (hQ : Q (some (.int (bI (edg w h c)))) (S0 L) M) : PM E l mX1_isEdge 0 [.ref 4, .int (nI c), .null] [] (S0 L) M 0 0 Q := by
  have e4 := H.le
  have l1 : (∀ j, j < 0 → nb w h c j ≠ none) → PM E l mX1_isEdge 2 [.ref 4, .int (nI c), .int (nI 0)] [] (S0 L) M 0 0 Q := by
    refine lp_up (P := fun i => (∀ j, j < i → nb w h c j ≠ none) → PM E l mX1_isEdge 2 [.ref 4, .int (nI c), .int (nI i)] [] (S0 L) M 0 0 Q) 4 ?_ ?_ 0 (by omega)
    · intro g1
      refine x_iload_n dX1_isEdge_2 rfl ?_
      refine x_iconst dX1_isEdge_3 iconst_4 ?_
      refine n_icmp_ge 28 dX1_isEdge_4 rfl (by omega) (by omega) (fun h1 => ?_) (fun h1 => by omega)
      refine x_iconst dX1_isEdge_28 iconst_0 ?_
      refine x_iret dX1_isEdge_29 rfl (by first | exact bI_nar _ | exact n1_nar | exact n0_nar) ?_
      rw [show edg w h c = false from by rw [← Bool.not_eq_true, edg_nb H hc]; rintro ⟨d, hd, h1⟩; exact g1 d hd h1] at hQ
      exact hQ
    · intro i hi ih g1
      refine x_iload_n dX1_isEdge_2 rfl ?_
      refine x_iconst dX1_isEdge_3 iconst_4 ?_
      refine n_icmp_ge 28 dX1_isEdge_4 rfl (by omega) (by omega) (fun h1 => by omega) (fun h1 => ?_)
      refine x_aload_n dX1_isEdge_7 rfl ?_
      refine g_R (s0_4 L) fkX1_18 rfl rfl rfl dX1_isEdge_8 ?_
      refine x_iconst dX1_isEdge_11 iconst_4 ?_
      refine x_iload_n dX1_isEdge_12 rfl ?_
      refine n_imul dX1_isEdge_13 ?_
      refine x_iload_n dX1_isEdge_14 rfl ?_
      refine n_iadd dX1_isEdge_15 ?_
      refine n_iald (s0_7 L) (by omega) rfl dX1_isEdge_16 ?_
      have hb : ∀ x, nb w h c i = some x → x < 2 ^ 31 := fun x e => by have := nb_lt H hc e; omega
      refine x_as (K.2 c i hc hi) ?_
      refine x_if_ge 22 dX1_isEdge_17 rfl (fun z9 => ?_) (fun z9 => ?_)
      · refine n_inc dX1_isEdge_22 rfl rfl ?_
        refine x_goto 2 dX1_isEdge_25 rfl ?_
        refine ih (fun j hj => ?_)
        by_cases e : j = i
        · subst e; exact (oI_ge hb).mp z9
        · exact g1 j (by omega)
      · refine x_iconst dX1_isEdge_20 iconst_1 ?_
        refine x_iret dX1_isEdge_21 rfl (by first | exact bI_nar _ | exact n1_nar | exact n0_nar) ?_
        rw [show edg w h c = true from (edg_nb H hc).mpr ⟨i, hi, (oI_lt hb).mp (by rw [← Int32.not_le]; exact z9)⟩] at hQ
        exact hQ
  refine x_iconst dX1_isEdge_0 iconst_0 ?_
  refine x_istore_n dX1_isEdge_1 (by decide) rfl ?_
  exact l1 (fun j hj => absurd hj (by omega))

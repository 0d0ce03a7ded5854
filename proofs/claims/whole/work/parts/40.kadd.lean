theorem GoV.sp {w h ng : Nat} {ht : Nat → Nat} {G : Nat → vQ} (V : GoV w h ng ht G) {g : Nat} (hg : g < ng) : SpV w h ht (G g) := ⟨V.1, V.2.1, (V.2.2.2 g hg).1.2, fun z => ⟨((V.2.2.2 g hg).2 z).1, ((V.2.2.2 g hg).2 z).2.1⟩⟩
theorem GoC.sp {M : vM} {w h ng : Nat} {ht : Nat → Nat} {G : Nat → vQ} (K : GoC M w h ng ht G) {g : Nat} (hg : g < ng) : SpC M w h ht g (G g) := by
  obtain ⟨k1, k2, k3, k4⟩ := K.2.2.2 g hg
  refine ⟨K.1, K.2.1, k1, k2, ?_, fun z => (k3 z).1⟩
  unfold qFa
  cases hq : qI (G g) with
  | true => rw [if_pos rfl]; exact (k3 hq).2.1
  | false => rw [if_neg (by decide)]; exact k4 hq
theorem GoC.kept {M M1 : vM} {w h ng : Nat} {ht : Nat → Nat} {G : Nat → vQ} (K : GoC M w h ng ht G) (hf : ∀ z, z ∈ [4, 5, 7, 13, 14, 15, 16, 17] → M1 z = M z) (h10 : M1 12 10 = M 12 10) : GoC M1 w h ng ht G := by
  unfold GoC GrC at K ⊢
  rw [hf 4 (by decide), hf 5 (by decide), hf 7 (by decide), hf 13 (by decide), hf 14 (by decide), hf 15 (by decide), hf 16 (by decide), hf 17 (by decide), h10]
  exact K
theorem LdC.kept {M M1 : vM} {w h ng : Nat} {ht : Nat → Nat} {G : Nat → vQ} (K : LdC M w h ng ht G) (h18 : M1 18 = M 18) (h19 : M1 19 = M 19) : LdC M1 w h ng ht G := by
  unfold LdC at K ⊢
  rw [h18, h19]
  exact K
theorem LdC.add {M M1 : vM} {w h g : Nat} {ht : Nat → Nat} {G : Nat → vQ} (H : WH w h) (D : LdC M w h g ht G) (ho : ∀ j, (j < 36 * g ∨ 36 * g + 36 ≤ j) → M1 18 j = M 18 j ∧ M1 19 j = M 19 j) (hn : ∀ c, c < w * h → (∃ o, M1 18 (36 * g + c) = oI (-1) o ∧ DsC w h ht (G g) c o) ∧ ∃ o, M1 19 (36 * g + c) = oI (-1) o ∧ CrC w h ht (G g) c o) : LdC M1 w h (g + 1) ht G := by
  intro i hi c hc
  have e4 := H.le
  by_cases e : i = g
  · subst e; exact hn c hc
  · have := ho (36 * i + c) (by omega)
    rw [this.1, this.2]
    exact D i (by omega) c hc
set_option maxRecDepth 100000 in
set_option maxHeartbeats 4000000 in
theorem k_spreadAll {E : vE} {l : Launch} {Q : Option Value → vS → vM → Prop} {L : Nat} {M : vM} {w h ng : Nat} {ht : Nat → Nat} {G : Nat → vQ} (V : GoV w h ng ht G) (K : GoC M w h ng ht G) (hQ : ∀ M1 : vM, Fr [12, 18, 19, 20] M M1 → (∀ j, j ≠ 9 → M1 12 j = M 12 j) → LdC M1 w h ng ht G → Q none (S0 L) M1) : PM E l mX0_spreadAll 0 [.ref 12, .null] [] (S0 L) M 0 0 Q := by
  have hng := V.2.2.1
  have l1 : ∀ M1 : vM, Fr [12, 18, 19, 20] M M1 → (∀ j, j ≠ 9 → M1 12 j = M 12 j) → LdC M1 w h 0 ht G → PM E l mX0_spreadAll 2 [.ref 12, .int (nI 0)] [] (S0 L) M1 0 0 Q := by
    refine lp_up (P := fun i => ∀ M1 : vM, Fr [12, 18, 19, 20] M M1 → (∀ j, j ≠ 9 → M1 12 j = M 12 j) → LdC M1 w h i ht G → PM E l mX0_spreadAll 2 [.ref 12, .int (nI i)] [] (S0 L) M1 0 0 Q) ng ?_ ?_ 0 (Nat.zero_le _)
    · intro M1 g1 g2 g3
      refine x_iload_n dX0_spreadAll_2 rfl ?_
      refine x_aload_n dX0_spreadAll_3 rfl ?_
      refine g_I (s0_12 L) fkX0_41 rfl rfl dX0_spreadAll_4 ?_
      refine x_as ((g2 10 (by omega)).trans K.2.2.1) ?_
      refine n_icmp_ge 21 dX0_spreadAll_7 rfl (by omega) (by omega) (fun h1 => ?_) (fun h1 => by omega)
      refine x_vret dX0_spreadAll_21 rfl ?_
      exact hQ M1 g1 g2 g3
    · intro i hi ih M1 g1 g2 g3
      refine x_iload_n dX0_spreadAll_2 rfl ?_
      refine x_aload_n dX0_spreadAll_3 rfl ?_
      refine g_I (s0_12 L) fkX0_41 rfl rfl dX0_spreadAll_4 ?_
      refine x_as ((g2 10 (by omega)).trans K.2.2.1) ?_
      refine n_icmp_ge 21 dX0_spreadAll_7 rfl (by omega) (by omega) (fun h1 => by omega) (fun h1 => ?_)
      refine x_aload_n dX0_spreadAll_10 rfl ?_
      refine x_iload_n dX0_spreadAll_11 rfl ?_
      refine cV1 (mj := mX0_spread) lkX0_50 okX0_spread imX0_spread seX0_spread (s0_12 L) rfl rfl rfl rfl rfl dX0_spreadAll_12 rfl (k_spread (V.sp hi) ((K.kept (fun z hz => g1 z (by simp only [List.mem_cons, List.not_mem_nil, or_false] at hz ⊢; omega)) (g2 10 (by omega))).sp hi) (by omega) (fun M2 k1 k2 k3 => ?_))
      refine n_inc dX0_spreadAll_15 rfl rfl ?_
      refine x_goto 2 dX0_spreadAll_18 rfl ?_
      exact ih M2 (g1.trans k1) (fun j hj => (k2.1 j hj).trans (g2 j hj)) (LdC.add V.1 g3 k2.2 k3)
  refine x_iconst dX0_spreadAll_0 iconst_0 ?_
  refine x_istore_n dX0_spreadAll_1 (by decide) rfl ?_
  exact l1 M Fr.rf (fun j hj => rfl) (fun g hg => absurd hg (by omega))
theorem GoC.one {M M1 : vM} {w h ng : Nat} {ht : Nat → Nat} {G : Nat → vQ} {q : vQ} (K : GoC M w h ng ht G) (h4 : M1 4 = M 4) (h5 : M1 5 = M 5) (h7 : M1 7 = M 7) (h10 : M1 12 10 = nI (ng + 1)) (ho : ∀ g, g ≠ ng → M1 13 g = M 13 g ∧ M1 14 g = M 14 g ∧ M1 15 g = M 15 g ∧ M1 16 g = M 16 g ∧ M1 17 g = M 17 g)
    (hq : M1 13 ng = bI (qI q) ∧ M1 15 ng = nI (qT q) ∧ (qI q = true → M1 14 ng = nI (qS q) ∧ M1 16 ng = nI (qF q) ∧ M1 17 ng = nI (qN q)) ∧ (qI q = false → M1 16 ng = nI 0)) : GoC M1 w h (ng + 1) ht (fun g => if g = ng then q else G g) := by
  obtain ⟨⟨k1, k2⟩, k3, k4, k5⟩ := K
  refine ⟨⟨by rw [h4]; exact k1, by rw [h7]; exact k2⟩, by rw [h5]; exact k3, h10, fun g hg => ?_⟩
  by_cases e : g = ng
  · subst e; simp only [if_true]; exact hq
  · simp only [if_neg e]
    obtain ⟨o1, o2, o3, o4, o5⟩ := ho g e
    rw [o1, o2, o3, o4, o5]
    exact k5 g (by omega)
theorem LdC.old {M M1 : vM} {w h ng : Nat} {ht : Nat → Nat} {G : Nat → vQ} {q : vQ} (H : WH w h) (D : LdC M w h ng ht G) (ho : ∀ j, (j < 36 * ng ∨ 36 * ng + 36 ≤ j) → M1 18 j = M 18 j ∧ M1 19 j = M 19 j) : LdC M1 w h ng ht (fun g => if g = ng then q else G g) := by
  intro g hg c hc
  have e4 := H.le
  have := ho (36 * g + c) (by omega)
  rw [this.1, this.2]
  simp only [if_neg (show g ≠ ng by omega)]
  exact D g hg c hc
theorem LdC.more {M1 : vM} {w h g : Nat} {ht : Nat → Nat} {G : Nat → vQ} (D : LdC M1 w h g ht G) (hn : ∀ c, c < w * h → (∃ o, M1 18 (36 * g + c) = oI (-1) o ∧ DsC w h ht (G g) c o) ∧ ∃ o, M1 19 (36 * g + c) = oI (-1) o ∧ CrC w h ht (G g) c o) : LdC M1 w h (g + 1) ht G := by
  intro i hi c hc
  by_cases e : i = g
  · subst e; exact hn c hc
  · exact D i (by omega) c hc
set_option maxRecDepth 100000 in
set_option maxHeartbeats 4000000 in
theorem k_addIce {E : vE} {l : Launch} {Q : Option Value → vS → vM → Prop} {L : Nat} {M : vM} {w h ng : Nat} {ht : Nat → Nat} {G : Nat → vQ} (V : GoV w h ng ht G) (K : GoC M w h ng ht G) (D : LdC M w h ng ht G) {so tp fl stp : Nat} (hso : so < w * h) (h1 : 1 ≤ tp) (htp : tp ≤ 199) (hfl : fl ≤ 20) (hst : stp ≤ 20) (hF : ng = 6 → Q (some (.int (-900004))) (S0 L) M) (hY : ng < 6 → ∀ M1 : vM, Fr [12, 13, 14, 15, 16, 17, 18, 19, 20] M M1 → (∀ j, j ≠ 9 → j ≠ 10 → M1 12 j = M 12 j) → GoC M1 w h (ng + 1) ht (fun g => if g = ng then (true, so, tp, fl, stp) else G g) → LdC M1 w h (ng + 1) ht (fun g => if g = ng then (true, so, tp, fl, stp) else G g) → Q (some (.int (nI ng))) (S0 L) M1) : PM E l mX0_addIce 0 [.ref 12, .int (nI so), .int (nI tp), .int (nI fl), .int (nI stp)] [] (S0 L) M 0 0 Q := by
  have hng := V.2.2.1
  have e4 := V.1.le
  refine x_aload_n dX0_addIce_0 rfl ?_
  refine g_I (s0_12 L) fkX0_41 rfl rfl dX0_addIce_1 ?_
  refine x_as K.2.2.1 ?_
  refine x_bipush dX0_addIce_4 bipush_6 ?_
  refine n_icmp_lt 12 dX0_addIce_6 rfl (by omega) (by omega) (fun y1 => ?_) (fun y1 => ?_)
  · refine x_aload_n dX0_addIce_12 rfl ?_
    refine g_R (s0_12 L) fkX0_9 rfl rfl rfl dX0_addIce_13 ?_
    refine x_aload_n dX0_addIce_16 rfl ?_
    refine g_I (s0_12 L) fkX0_41 rfl rfl dX0_addIce_17 ?_
    refine x_as K.2.2.1 ?_
    refine x_iconst dX0_addIce_20 iconst_1 ?_
    refine x_as (show nI 1 = bI true from rfl) ?_
    refine n_bast (b := true) (s0_13 L) (by omega) rfl dX0_addIce_21 ?_
    refine x_aload_n dX0_addIce_22 rfl ?_
    refine g_R (s0_12 L) fkX0_15 rfl rfl rfl dX0_addIce_23 ?_
    refine x_aload_n dX0_addIce_26 rfl ?_
    refine g_I (s0_12 L) fkX0_41 rfl rfl dX0_addIce_27 ?_
    refine x_as K.2.2.1 ?_
    refine x_iload_n dX0_addIce_30 rfl ?_
    refine n_iast rfl (s0_14 L) (by omega) rfl dX0_addIce_31 ?_
    refine x_aload_n dX0_addIce_32 rfl ?_
    refine g_R (s0_12 L) fkX0_19 rfl rfl rfl dX0_addIce_33 ?_
    refine x_aload_n dX0_addIce_36 rfl ?_
    refine g_I (s0_12 L) fkX0_41 rfl rfl dX0_addIce_37 ?_
    refine x_as K.2.2.1 ?_
    refine x_iload_n dX0_addIce_40 rfl ?_
    refine n_iast rfl (s0_15 L) (by omega) rfl dX0_addIce_41 ?_
    refine x_aload_n dX0_addIce_42 rfl ?_
    refine g_R (s0_12 L) fkX0_22 rfl rfl rfl dX0_addIce_43 ?_
    refine x_aload_n dX0_addIce_46 rfl ?_
    refine g_I (s0_12 L) fkX0_41 rfl rfl dX0_addIce_47 ?_
    refine x_as K.2.2.1 ?_
    refine x_iload_n dX0_addIce_50 rfl ?_
    refine n_iast rfl (s0_16 L) (by omega) rfl dX0_addIce_51 ?_
    refine x_aload_n dX0_addIce_52 rfl ?_
    refine g_R (s0_12 L) fkX0_25 rfl rfl rfl dX0_addIce_53 ?_
    refine x_aload_n dX0_addIce_56 rfl ?_
    refine g_I (s0_12 L) fkX0_41 rfl rfl dX0_addIce_57 ?_
    refine x_as K.2.2.1 ?_
    refine x_iload dX0_addIce_60 rfl ?_
    refine n_iast rfl (s0_17 L) (by omega) rfl dX0_addIce_62 ?_
    refine x_aload_n dX0_addIce_63 rfl ?_
    refine x_aload_n dX0_addIce_64 rfl ?_
    refine g_I (s0_12 L) fkX0_41 rfl rfl dX0_addIce_65 ?_
    refine x_as K.2.2.1 ?_
    refine cV1 (mj := mX0_spread) lkX0_50 okX0_spread imX0_spread seX0_spread (s0_12 L) rfl rfl rfl rfl rfl dX0_addIce_68 rfl (k_spread (q := (true, so, tp, fl, stp)) ⟨V.1, V.2.1, htp, fun _ => ⟨hso, hfl⟩⟩ ⟨K.1, K.2.1, upd_at _ _ _, upd_at _ _ _, upd_at _ _ _, fun _ => upd_at _ _ _⟩ (by omega) (fun M2 k1 k2 k3 => ?_))
    have k10 : M2 12 10 = nI ng := (k2.1 10 (by omega)).trans K.2.2.1
    refine x_aload_n dX0_addIce_71 rfl ?_
    refine x_dup dX0_addIce_72 rfl ?_
    refine g_I (s0_12 L) fkX0_41 rfl rfl dX0_addIce_73 ?_
    refine x_as k10 ?_
    refine x_dup_x1 dX0_addIce_76 rfl rfl ?_
    refine x_iconst dX0_addIce_77 iconst_1 ?_
    refine n_iadd dX0_addIce_78 ?_
    refine g_P (s0_12 L) fkX0_41 rfl rfl rfl rfl dX0_addIce_79 ?_
    refine x_iret dX0_addIce_82 rfl rfl ?_
    refine hY (by omega) _ (((((((Fr.rf.set _ (by decide)).set _ (by decide)).set _ (by decide)).set _ (by decide)).set _ (by decide)).trans (k1.sub (by decide))).set _ (by decide)) (fun j hj1 hj2 => ?_) ?_ ?_
    · exact (upd_ne _ _ hj2).trans (k2.1 j hj1)
    · refine GoC.one K (k1 4 (by decide)) (k1 5 (by decide)) (k1 7 (by decide)) ?_ (fun g hg => ?_) ?_
      · show upd (M2 12) 10 (nI (ng + 1)) 10 = nI (ng + 1)
        exact upd_at _ _ _
      · exact ⟨(congrFun (k1 13 (by decide)) _).trans (upd_ne _ _ hg), (congrFun (k1 14 (by decide)) _).trans (upd_ne _ _ hg), (congrFun (k1 15 (by decide)) _).trans (upd_ne _ _ hg), (congrFun (k1 16 (by decide)) _).trans (upd_ne _ _ hg), (congrFun (k1 17 (by decide)) _).trans (upd_ne _ _ hg)⟩
      · exact ⟨(congrFun (k1 13 (by decide)) _).trans (upd_at _ _ _), (congrFun (k1 15 (by decide)) _).trans (upd_at _ _ _), fun _ => ⟨(congrFun (k1 14 (by decide)) _).trans (upd_at _ _ _), (congrFun (k1 16 (by decide)) _).trans (upd_at _ _ _), (congrFun (k1 17 (by decide)) _).trans (upd_at _ _ _)⟩, fun z => by cases z⟩
    · refine LdC.kept (M := M2) ?_ rfl rfl
      refine LdC.more (LdC.old V.1 D k2.2) (fun c hc => ?_)
      simp only [if_true]
      exact k3 c hc
  · refine x_ldc kcX0_49 dX0_addIce_9 ?_
    refine x_iret dX0_addIce_11 rfl rfl ?_
    exact hF (by omega)
set_option maxRecDepth 100000 in
set_option maxHeartbeats 4000000 in
theorem k_addFlood {E : vE} {l : Launch} {Q : Option Value → vS → vM → Prop} {L : Nat} {M : vM} {w h ng : Nat} {ht : Nat → Nat} {G : Nat → vQ} (V : GoV w h ng ht G) (K : GoC M w h ng ht G) (D : LdC M w h ng ht G) {tp : Nat} (h1 : 1 ≤ tp) (htp : tp ≤ 199) (hF : ng = 6 → Q (some (.int (-900004))) (S0 L) M) (hY : ng < 6 → ∀ M1 : vM, Fr [12, 13, 14, 15, 16, 17, 18, 19, 20] M M1 → (∀ j, j ≠ 9 → j ≠ 10 → M1 12 j = M 12 j) → GoC M1 w h (ng + 1) ht (fun g => if g = ng then (false, 0, tp, 0, 0) else G g) → LdC M1 w h (ng + 1) ht (fun g => if g = ng then (false, 0, tp, 0, 0) else G g) → Q (some (.int (nI ng))) (S0 L) M1) : PM E l mX0_addFlood 0 [.ref 12, .int (nI tp)] [] (S0 L) M 0 0 Q := by
  have hng := V.2.2.1
  have e4 := V.1.le
  refine x_aload_n dX0_addFlood_0 rfl ?_
  refine g_I (s0_12 L) fkX0_41 rfl rfl dX0_addFlood_1 ?_
  refine x_as K.2.2.1 ?_
  refine x_bipush dX0_addFlood_4 bipush_6 ?_
  refine n_icmp_lt 12 dX0_addFlood_6 rfl (by omega) (by omega) (fun y1 => ?_) (fun y1 => ?_)
  · refine x_aload_n dX0_addFlood_12 rfl ?_
    refine g_R (s0_12 L) fkX0_9 rfl rfl rfl dX0_addFlood_13 ?_
    refine x_aload_n dX0_addFlood_16 rfl ?_
    refine g_I (s0_12 L) fkX0_41 rfl rfl dX0_addFlood_17 ?_
    refine x_as K.2.2.1 ?_
    refine x_iconst dX0_addFlood_20 iconst_0 ?_
    refine x_as (show nI 0 = bI false from rfl) ?_
    refine n_bast (b := false) (s0_13 L) (by omega) rfl dX0_addFlood_21 ?_
    refine x_aload_n dX0_addFlood_22 rfl ?_
    refine g_R (s0_12 L) fkX0_19 rfl rfl rfl dX0_addFlood_23 ?_
    refine x_aload_n dX0_addFlood_26 rfl ?_
    refine g_I (s0_12 L) fkX0_41 rfl rfl dX0_addFlood_27 ?_
    refine x_as K.2.2.1 ?_
    refine x_iload_n dX0_addFlood_30 rfl ?_
    refine n_iast rfl (s0_15 L) (by omega) rfl dX0_addFlood_31 ?_
    refine x_aload_n dX0_addFlood_32 rfl ?_
    refine g_R (s0_12 L) fkX0_22 rfl rfl rfl dX0_addFlood_33 ?_
    refine x_aload_n dX0_addFlood_36 rfl ?_
    refine g_I (s0_12 L) fkX0_41 rfl rfl dX0_addFlood_37 ?_
    refine x_as K.2.2.1 ?_
    refine x_iconst dX0_addFlood_40 iconst_0 ?_
    refine n_iast rfl (s0_16 L) (by omega) rfl dX0_addFlood_41 ?_
    refine x_aload_n dX0_addFlood_42 rfl ?_
    refine x_aload_n dX0_addFlood_43 rfl ?_
    refine g_I (s0_12 L) fkX0_41 rfl rfl dX0_addFlood_44 ?_
    refine x_as K.2.2.1 ?_
    refine cV1 (mj := mX0_spread) lkX0_50 okX0_spread imX0_spread seX0_spread (s0_12 L) rfl rfl rfl rfl rfl dX0_addFlood_47 rfl (k_spread (q := (false, 0, tp, 0, 0)) ⟨V.1, V.2.1, htp, fun z => by cases z⟩ ⟨K.1, K.2.1, upd_at _ _ _, upd_at _ _ _, upd_at _ _ _, fun z => by cases z⟩ (by omega) (fun M2 k1 k2 k3 => ?_))
    have k10 : M2 12 10 = nI ng := (k2.1 10 (by omega)).trans K.2.2.1
    refine x_aload_n dX0_addFlood_50 rfl ?_
    refine x_dup dX0_addFlood_51 rfl ?_
    refine g_I (s0_12 L) fkX0_41 rfl rfl dX0_addFlood_52 ?_
    refine x_as k10 ?_
    refine x_dup_x1 dX0_addFlood_55 rfl rfl ?_
    refine x_iconst dX0_addFlood_56 iconst_1 ?_
    refine n_iadd dX0_addFlood_57 ?_
    refine g_P (s0_12 L) fkX0_41 rfl rfl rfl rfl dX0_addFlood_58 ?_
    refine x_iret dX0_addFlood_61 rfl rfl ?_
    refine hY (by omega) _ (((((Fr.rf.set _ (by decide)).set _ (by decide)).set _ (by decide)).trans (k1.sub (by decide))).set _ (by decide)) (fun j hj1 hj2 => ?_) ?_ ?_
    · exact (upd_ne _ _ hj2).trans (k2.1 j hj1)
    · refine GoC.one K (k1 4 (by decide)) (k1 5 (by decide)) (k1 7 (by decide)) ?_ (fun g hg => ?_) ?_
      · show upd (M2 12) 10 (nI (ng + 1)) 10 = nI (ng + 1)
        exact upd_at _ _ _
      · exact ⟨(congrFun (k1 13 (by decide)) _).trans (upd_ne _ _ hg), (congrFun (k1 14 (by decide)) _), (congrFun (k1 15 (by decide)) _).trans (upd_ne _ _ hg), (congrFun (k1 16 (by decide)) _).trans (upd_ne _ _ hg), (congrFun (k1 17 (by decide)) _)⟩
      · exact ⟨(congrFun (k1 13 (by decide)) _).trans (upd_at _ _ _), (congrFun (k1 15 (by decide)) _).trans (upd_at _ _ _), fun z => (by cases z), fun _ => (congrFun (k1 16 (by decide)) _).trans (upd_at _ _ _)⟩
    · refine LdC.kept (M := M2) ?_ rfl rfl
      refine LdC.more (LdC.old V.1 D k2.2) (fun c hc => ?_)
      simp only [if_true]
      exact k3 c hc
  · refine x_ldc kcX0_49 dX0_addFlood_9 ?_
    refine x_iret dX0_addFlood_11 rfl rfl ?_
    exact hF (by omega)

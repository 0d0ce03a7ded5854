/-- the class's memory -/
def RoC (M : vM) (Rw : Nat → Nat × (Nat → Nat)) : Prop := ∀ s, s < 3 → M (21 + 2 * s) 1 = nI (Rw s).1 ∧ ∀ k, k < (Rw s).1 → M (22 + 2 * s) k = nI ((Rw s).2 k)
def SuC (M : vM) (w h : Nat) (ht rk : Nat → Nat) (T : Nat → vT) (ng : Nat) (G : Nat → vQ) (nz : Nat) (U : Nat → vU) : Prop := ∃ st : Bool, M 32 6 = bI st ∧ (st = false → CbM M (clO ng (fun m r => cst w h ht G r m rk T U nz) 4))
def RepC (M : vM) (w h : Nat) (ht rk : Nat → Nat) (ns : Nat) (T : Nat → vT) (ng : Nat) (G : Nat → vQ) (Rw : Nat → Nat × (Nat → Nat)) (nz : Nat) (U : Nat → vU) (O : Nat → Nat) : Prop := (StepC M ∧ GoC M w h ng ht G ∧ LdC M w h ng ht G) ∧ StC M w h ns rk T ∧ SgC M nz U ∧ RoC M Rw ∧ LyC M O ∧ SuC M w h ht rk T ng G nz U
theorem StepC.kept {M M1 : vM} (k : StepC M) (e0 : M1 0 = M 0) (e1 : M1 1 = M 1) : StepC M1 := by unfold StepC at k ⊢; rw [e0, e1]; exact k
theorem RoC.kept {M M1 : vM} {Rw : Nat → Nat × (Nat → Nat)} (k : RoC M Rw) (e : ∀ q, 21 ≤ q → q ≤ 26 → M1 q = M q) : RoC M1 Rw := by
  intro s hs
  rw [e (21 + 2 * s) (by omega) (by omega), e (22 + 2 * s) (by omega) (by omega)]
  exact k s hs
theorem LyC.kept {M M1 : vM} {O : Nat → Nat} (k : LyC M O) (e : ∀ q ∈ [39, 40, 41], M1 q = M q) : LyC M1 O := by
  unfold LyC at k ⊢
  rw [e 39 (by decide), e 40 (by decide), e 41 (by decide)]
  exact k
theorem CbM.kept {M M1 : vM} {s : vB} (k : CbM M s) (e : ∀ q ∈ [32, 35, 36], M1 q = M q) : CbM M1 s := by
  unfold CbM at k ⊢
  rw [e 32 (by decide), e 35 (by decide), e 36 (by decide)]
  exact k
theorem SuC.kept {M M1 : vM} {w h : Nat} {ht rk : Nat → Nat} {T : Nat → vT} {ng : Nat} {G : Nat → vQ} {nz : Nat} {U : Nat → vU} (k : SuC M w h ht rk T ng G nz U) (e : ∀ q ∈ [32, 35, 36], M1 q = M q) : SuC M1 w h ht rk T ng G nz U := by
  obtain ⟨st, k1, k2⟩ := k
  exact ⟨st, by rw [e 32 (by decide)]; exact k1, fun z => (k2 z).kept e⟩
theorem SuC.stale {M : vM} {w h : Nat} {ht rk : Nat → Nat} {T : Nat → vT} {ng : Nat} {G : Nat → vQ} {nz : Nat} {U : Nat → vU} (k : M 32 6 = bI true) : SuC M w h ht rk T ng G nz U := ⟨true, k, fun z => by cases z⟩
theorem SuC.fresh {M : vM} {w h : Nat} {ht rk : Nat → Nat} {T : Nat → vT} {ng : Nat} {G : Nat → vQ} {nz : Nat} {U : Nat → vU} (k : M 32 6 = bI false) (c : CbM M (clO ng (fun m r => cst w h ht G r m rk T U nz) 4)) : SuC M w h ht rk T ng G nz U := ⟨false, k, fun _ => c⟩
theorem RepC.kept {M M1 : vM} {w h : Nat} {ht rk : Nat → Nat} {ns : Nat} {T : Nat → vT} {ng : Nat} {G : Nat → vQ} {Rw : Nat → Nat × (Nat → Nat)} {nz : Nat} {U : Nat → vU} {O : Nat → Nat} (k : RepC M w h ht rk ns T ng G Rw nz U O) (e : ∀ q, q ≠ 2 → q ≠ 3 → q ≠ 12 → q ≠ 20 → q ≠ 33 → q ≠ 34 → q ≠ 37 → q ≠ 38 → q < 42 → M1 q = M q) (e2 : M1 12 10 = M 12 10) : RepC M1 w h ht rk ns T ng G Rw nz U O := by
  obtain ⟨⟨a0, a1, a2⟩, a3, a4, a5, a6, a7⟩ := k
  have E : ∀ q, q ≠ 2 ∧ q ≠ 3 ∧ q ≠ 12 ∧ q ≠ 20 ∧ q ≠ 33 ∧ q ≠ 34 ∧ q ≠ 37 ∧ q ≠ 38 ∧ q < 42 → M1 q = M q := fun q ⟨b1, b2, b3, b4, b5, b6, b7, b8, b9⟩ => e q b1 b2 b3 b4 b5 b6 b7 b8 b9
  refine ⟨⟨a0.kept (E 0 (by decide)) (E 1 (by decide)), a1.kept (fun q hq => E q (by revert q; decide)) e2, a2.kept (E 18 (by decide)) (E 19 (by decide))⟩, a3.kept (fun q hq => E q (by revert q; decide)), a4.kept (fun q hq => E q (by revert q; decide)), a5.kept (fun q h1 h2 => E q (by omega)), a6.kept (fun q hq => E q (by revert q; decide)), a7.kept (fun q hq => E q (by revert q; decide))⟩
theorem RepC.low {M M1 : vM} {w h : Nat} {ht rk : Nat → Nat} {ns : Nat} {T : Nat → vT} {ng : Nat} {G : Nat → vQ} {Rw : Nat → Nat × (Nat → Nat)} {nz : Nat} {U : Nat → vU} {O : Nat → Nat} (k : RepC M w h ht rk ns T ng G Rw nz U O) (e : ∀ q, q < 42 → M1 q = M q) : RepC M1 w h ht rk ns T ng G Rw nz U O := k.kept (fun q _ _ _ _ _ _ _ _ h => e q h) (congrFun (e 12 (by decide)) 10)
theorem RepC.fr {M M1 : vM} {w h : Nat} {ht rk : Nat → Nat} {ns : Nat} {T : Nat → vT} {ng : Nat} {G : Nat → vQ} {Rw : Nat → Nat × (Nat → Nat)} {nz : Nat} {U : Nat → vU} {O : Nat → Nat} {ks : List Nat} (k : RepC M w h ht rk ns T ng G Rw nz U O) (hf : Fr ks M M1) (hk : ∀ q ∈ ks, q = 20 ∨ q = 33 ∨ q = 34 ∨ q = 37 ∨ q = 38) : RepC M1 w h ht rk ns T ng G Rw nz U O := by
  refine k.kept (fun q h1 h2 h3 h4 h5 h6 h7 h8 _ => hf q (fun z => ?_)) (congrFun (hf 12 (fun z => ?_)) 10)
  · have := hk q z; omega
  · have := hk 12 z; omega
theorem RepM.high {M M1 : vM} {w h : Nat} {ht rk : Nat → Nat} {ns : Nat} {T : Nat → vT} {ng : Nat} {G : Nat → vQ} {Rw : Nat → Nat × (Nat → Nat)} {nz : Nat} {U : Nat → vU} {O : Nat → Nat} (k : RepM M w h ht rk ns T ng G Rw nz U O) (e : ∀ q, q < 3 ∨ 42 ≤ q → M1 q = M q) : RepM M1 w h ht rk ns T ng G Rw nz U O := k.kept (fun q h _ _ _ _ _ _ _ => e q (Or.inr (by omega))) (fun j _ => congrFun (e 42 (Or.inr (by omega))) j)
theorem hi_of {M M1 : vM} {ks : List Nat} (hf : Fr ks M M1) (hk : ∀ q ∈ ks, 3 ≤ q ∧ q < 42) : ∀ q, q < 3 ∨ 42 ≤ q → M1 q = M q := fun q hq => hf q (fun z => by have := hk q z; omega)
set_option maxRecDepth 100000 in
set_option maxHeartbeats 4000000 in
theorem k_rowOf {E : vE} {l : Launch} {Q : Option Value → vS → vM → Prop} {L : Nat} {M : vM} {s : Nat} (hs : s ≤ 2) (hQ : Q (some (.ref (21 + 2 * s))) (S0 L) M) : PM E l mX8_rowOf 0 [.ref 3, .int (nI s)] [] (S0 L) M 0 0 Q := by
  rcases (show s = 0 ∨ s = 1 ∨ s = 2 by omega) with rfl | rfl | rfl
  · refine x_iload_n dX8_rowOf_0 rfl ?_
    refine n_if_ne 9 dX8_rowOf_1 rfl (by omega) (fun h1 => by omega) (fun h1 => ?_)
    refine x_aload_n dX8_rowOf_4 rfl ?_
    refine g_R (s0_3 L) fkX8_35 rfl rfl rfl dX8_rowOf_5 ?_
    refine x_aret dX8_rowOf_8 rfl ?_
    exact hQ
  · refine x_iload_n dX8_rowOf_0 rfl ?_
    refine n_if_ne 9 dX8_rowOf_1 rfl (by omega) (fun h1 => ?_) (fun h1 => by omega)
    refine x_iload_n dX8_rowOf_9 rfl ?_
    refine x_iconst dX8_rowOf_10 iconst_1 ?_
    refine n_icmp_ne 21 dX8_rowOf_11 rfl (by omega) (by omega) (fun h2 => by omega) (fun h2 => ?_)
    refine x_aload_n dX8_rowOf_14 rfl ?_
    refine g_R (s0_3 L) fkX8_39 rfl rfl rfl dX8_rowOf_15 ?_
    refine x_goto 25 dX8_rowOf_18 rfl ?_
    refine x_aret dX8_rowOf_25 rfl ?_
    exact hQ
  · refine x_iload_n dX8_rowOf_0 rfl ?_
    refine n_if_ne 9 dX8_rowOf_1 rfl (by omega) (fun h1 => ?_) (fun h1 => by omega)
    refine x_iload_n dX8_rowOf_9 rfl ?_
    refine x_iconst dX8_rowOf_10 iconst_1 ?_
    refine n_icmp_ne 21 dX8_rowOf_11 rfl (by omega) (by omega) (fun h2 => ?_) (fun h2 => by omega)
    refine x_aload_n dX8_rowOf_21 rfl ?_
    refine g_R (s0_3 L) fkX8_42 rfl rfl rfl dX8_rowOf_22 ?_
    refine x_aret dX8_rowOf_25 rfl ?_
    exact hQ
theorem row_s {L s : Nat} (hs : s ≤ 2) : (S0 L)[21 + 2 * s]? = some (3, 2, [22 + 2 * s + 1]) := by
  rcases (show s = 0 ∨ s = 1 ∨ s = 2 by omega) with rfl | rfl | rfl <;> rfl
theorem row_g {L s : Nat} (hs : s ≤ 2) : (S0 L)[22 + 2 * s]? = some (100, 6, []) := by
  rcases (show s = 0 ∨ s = 1 ∨ s = 2 by omega) with rfl | rfl | rfl <;> rfl
theorem row_b {s : Nat} : Nat.ble 3 (22 + 2 * s) = true := Nat.ble_eq_true_of_le (by omega)
def mostX (k : Nat) : Nat := if k = 0 then 3 else if k = 4 then 11 else if k = 5 then 15 else 0
set_option maxRecDepth 100000 in
set_option maxHeartbeats 4000000 in
theorem k_mostExtra {E : vE} {l : Launch} {Q : Option Value → vS → vM → Prop} {S : vS} {M : vM} {k : Nat} (hk : k ≤ 5) (hQ : Q (some (.int (nI (mostX k)))) S M) : PM E l mX8_mostExtra 0 [.int (nI k)] [] S M 0 0 Q := by
  rcases (show k = 0 ∨ k = 1 ∨ k = 2 ∨ k = 3 ∨ k = 4 ∨ k = 5 by omega) with rfl | rfl | rfl | rfl | rfl | rfl
  · refine x_iload_n dX8_mostExtra_0 rfl ?_
    refine x_lookup (off := 35) 36 dX8_mostExtra_1 (by decide) (by decide) rfl ?_
    refine x_iconst dX8_mostExtra_36 iconst_3 ?_
    refine x_iret dX8_mostExtra_37 rfl rfl ?_
    exact hQ
  · refine x_iload_n dX8_mostExtra_0 rfl ?_
    refine x_lookup (off := 43) 44 dX8_mostExtra_1 (by decide) (by decide) rfl ?_
    refine x_iconst dX8_mostExtra_44 iconst_0 ?_
    refine x_iret dX8_mostExtra_45 rfl rfl ?_
    exact hQ
  · refine x_iload_n dX8_mostExtra_0 rfl ?_
    refine x_lookup (off := 43) 44 dX8_mostExtra_1 (by decide) (by decide) rfl ?_
    refine x_iconst dX8_mostExtra_44 iconst_0 ?_
    refine x_iret dX8_mostExtra_45 rfl rfl ?_
    exact hQ
  · refine x_iload_n dX8_mostExtra_0 rfl ?_
    refine x_lookup (off := 43) 44 dX8_mostExtra_1 (by decide) (by decide) rfl ?_
    refine x_iconst dX8_mostExtra_44 iconst_0 ?_
    refine x_iret dX8_mostExtra_45 rfl rfl ?_
    exact hQ
  · refine x_iload_n dX8_mostExtra_0 rfl ?_
    refine x_lookup (off := 37) 38 dX8_mostExtra_1 (by decide) (by decide) rfl ?_
    refine x_bipush dX8_mostExtra_38 bipush_11 ?_
    refine x_iret dX8_mostExtra_40 rfl rfl ?_
    exact hQ
  · refine x_iload_n dX8_mostExtra_0 rfl ?_
    refine x_lookup (off := 40) 41 dX8_mostExtra_1 (by decide) (by decide) rfl ?_
    refine x_bipush dX8_mostExtra_41 bipush_15 ?_
    refine x_iret dX8_mostExtra_43 rfl rfl ?_
    exact hQ

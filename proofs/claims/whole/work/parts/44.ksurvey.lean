theorem itr_cong {σ : Type} {F F2 : Nat → σ → σ} : ∀ {n : Nat} {s : σ}, (∀ k, k < n → ∀ x, F k x = F2 k x) → itr F n s = itr F2 n s
  | 0, s, _ => rfl
  | n + 1, s, h => by simp only [itr]; rw [itr_cong (fun k hk => h k (by omega)), h n (by omega)]
section CC
variable {w h : Nat} {ht : Nat → Nat} {G : Nat → vQ} {r r2 : Nat → Nat} {m : Nat} {rk : Nat → Nat} {T T2 : Nat → vT}
theorem endS_cong (hr : ∀ k, k < m → r k = r2 k) {wt c : Nat} : endS w h ht G r wt m c = endS w h ht G r2 wt m c := by
  unfold endS
  exact itr_cong (fun k hk x => by rw [hr k hk])
theorem whn_cong (hr : ∀ k, k < m → r k = r2 k) {t : vT} {c : Nat} : whn w h ht G r m rk t c = whn w h ht G r2 m rk t c := by
  unfold whn
  rw [endS_cong hr]
theorem thg_cong (hr : ∀ k, k < m → r k = r2 k) {c t : Nat} : thg w h ht G r m c t = thg w h ht G r2 m c t := by
  unfold thg
  rw [anyK_cong (p := fun k => icP w h ht (G (r k)) c) (q := fun k => icP w h ht (G (r2 k)) c) (fun k hk => by simp only [hr k hk]), anyK_cong (p := fun k => tP w h ht t (G (r k)) c) (q := fun k => tP w h ht t (G (r2 k)) c) (fun k hk => by simp only [hr k hk])]
theorem crsd_cong (hr : ∀ k, k < m → r k = r2 k) {c e : Nat} : crsd w h ht G r m c e = crsd w h ht G r2 m c e := by
  unfold crsd
  refine anyK_cong (fun k hk => ?_)
  simp only [hr k hk]
  rw [anyK_cong (p := fun j => fP w h ht (e % 4) (G (r j)) c) (q := fun j => fP w h ht (e % 4) (G (r2 j)) c) (fun j hj => by simp only [hr j (by omega)])]
theorem expl_cong (hr : ∀ k, k < m → r k = r2 k) {u : vU} : expl w h ht G r m rk T u = expl w h ht G r2 m rk T u := by
  unfold expl
  rw [thg_cong hr, thg_cong hr, thg_cong hr, thg_cong hr, crsd_cong hr, ctt_cong (fun c _ => whn_cong hr)]
theorem cst_cong (hr : ∀ k, k < m → r k = r2 k) {U : Nat → vU} {nz : Nat} : cst w h ht G r m rk T U nz = cst w h ht G r2 m rk T U nz := by
  unfold cst
  exact smK_cong (fun i hi => by rw [expl_cong hr])
theorem cst_T {ns nz : Nat} {U : Nat → vU} (ZV : SgV w h ns nz U) (hT : ∀ i, i < ns → T i = T2 i) : cst w h ht G r m rk T U nz = cst w h ht G r m rk T2 U nz := by
  unfold cst
  refine smK_cong (fun i hi => ?_)
  have h1 := (ZV.2 i hi).2.2.2.1
  have e : expl w h ht G r m rk T (U i) = expl w h ht G r m rk T2 (U i) := by
    unfold expl
    by_cases e4 : (U i).1 = 4
    · rw [hT _ (h1 e4)]
    · simp only [if_neg e4]
  rw [e]
end CC
theorem clT_t {c m : Nat} {r : Nat → Nat} {s : vB} (h : s.2 = none ∨ ∃ b, s.2 = some b ∧ c < b.1) : clT true c m r s = (s.1 + (if c = 0 then 1 else 0), some (c, m, r)) := by
  unfold clT
  rw [if_pos rfl]
  rcases h with h | ⟨b, h, h2⟩
  · rw [h]
  · rw [h]; simp only [if_pos h2]
theorem clT_k {c m : Nat} {r : Nat → Nat} {s : vB} {b : Nat × Nat × (Nat → Nat)} (h : s.2 = some b) (h2 : ¬ c < b.1) : clT true c m r s = (s.1 + (if c = 0 then 1 else 0), some b) := by
  unfold clT
  rw [if_pos rfl, h]
  simp only [if_neg h2]
set_option maxRecDepth 100000 in
set_option maxHeartbeats 4000000 in
theorem k_weigh {E : vE} {l : Launch} {Q : Option Value → vS → vM → Prop} {L : Nat} {M : vM} {c m : Nat} {r : Nat → Nat} {s : vB} (hc9 : c ≤ 1188) (hm6 : m ≤ 6) (RM : M 33 1 = nI m) (RE : ∀ k, k < m → M 34 k = nI (r k)) (C : CbM M s) (hQ : ∀ M1 : vM, Fr [32, 35, 36] M M1 → (∀ j, j ≠ 4 → j ≠ 5 → M1 32 j = M 32 j) → CbM M1 (clT true c m r s) → Q none (S0 L) M1) : PM E l mX6_weigh 0 [.ref 32, .int (nI c)] [] (S0 L) M 0 0 Q := by
  rcases C.2 with ⟨hs2, hl⟩ | ⟨b, hs2, hb1, hb2, hl, hb3, hb4⟩
  · refine x_aload_n dX6_weigh_0 rfl ?_
    refine x_dup dX6_weigh_1 rfl ?_
    refine g_I (s0_32 L) fkX6_33 rfl rfl dX6_weigh_2 ?_
    refine x_as C.1 ?_
    refine x_iload_n dX6_weigh_5 rfl ?_
    refine n_if_ne 13 dX6_weigh_6 rfl (by omega) (fun z0 => ?_) (fun z0 => ?_)
    · refine x_iconst dX6_weigh_13 iconst_0 ?_
      refine x_as (show nI 0 = bI (decide (c = 0)) from by rw [decide_eq_false z0]; rfl) ?_
      refine cS1 (mj := mX8_bit) lkX6_59 okX8_bit stX8_bit rfl rfl rfl rfl dX6_weigh_14 rfl (c_bit _ ?_)
      rw [show (if decide (c = 0) = true then 1 else 0 : Nat) = if c = 0 then 1 else 0 from by simp only [decide_eq_true_eq]]
      refine n_iadd dX6_weigh_17 ?_
      refine g_P (s0_32 L) fkX6_33 rfl rfl rfl rfl dX6_weigh_18 ?_
      refine x_aload_n dX6_weigh_21 rfl ?_
      refine g_I (s0_32 L) fkX6_37 rfl rfl dX6_weigh_22 ?_
      refine x_as hl ?_
      refine x_if_lt 36 dX6_weigh_25 rfl (fun y1 => ?_) (fun y1 => by exact absurd (show (-1 : Int32) < 0 by decide) y1)
      refine x_aload_n dX6_weigh_36 rfl ?_
      refine x_iload_n dX6_weigh_37 rfl ?_
      refine g_P (s0_32 L) fkX6_37 rfl rfl rfl rfl dX6_weigh_38 ?_
      refine x_aload_n dX6_weigh_41 rfl ?_
      refine g_R (s0_32 L) fkX6_18 rfl rfl rfl dX6_weigh_42 ?_
      refine x_aload_n dX6_weigh_45 rfl ?_
      refine g_R (s0_32 L) fkX6_12 rfl rfl rfl dX6_weigh_46 ?_
      refine cV1 (mj := mX3_copy) lkX6_63 okX3_copy imX3_copy seX3_copy (s0_35 L) rfl rfl rfl rfl rfl dX6_weigh_49 rfl (k_rowCopy (s0_35 L) (s0_36 L) (s0_33 L) (s0_34 L) rfl rfl ?_)
      refine x_vret dX6_weigh_52 rfl ?_
      rw [clT_t (Or.inl hs2)] at hQ
      refine hQ _ ((((Fr.rf.set _ (by decide)).set _ (by decide)).set _ (by decide)).set _ (by decide)) (fun j h4 h5 => ?_) ⟨?_, Or.inr ⟨_, rfl, hc9, hm6, ?_, ?_, fun k hk => ?_⟩⟩
      · exact (upd_ne _ _ h4).trans (upd_ne _ _ h5)
      · simp [sM, upd]
      · simp [sM, upd]
      · show upd (M 35) 1 (M 33 1) 1 = nI m
        rw [upd_at]; exact RM
      · rw [sM_at]
        refine (pk_cpy_in (Nat.zero_le _) (show k < 0 + 6 by have h9 : k < m := hk; omega)).trans ?_
        show M 34 (0 + (k - 0)) = nI (r k)
        rw [Nat.zero_add, Nat.sub_zero]
        exact RE k hk
    · refine x_iconst dX6_weigh_9 iconst_1 ?_
      refine x_as (show nI 1 = bI (decide (c = 0)) from by rw [decide_eq_true z0]; rfl) ?_
      refine x_goto 14 dX6_weigh_10 rfl ?_
      refine cS1 (mj := mX8_bit) lkX6_59 okX8_bit stX8_bit rfl rfl rfl rfl dX6_weigh_14 rfl (c_bit _ ?_)
      rw [show (if decide (c = 0) = true then 1 else 0 : Nat) = if c = 0 then 1 else 0 from by simp only [decide_eq_true_eq]]
      refine n_iadd dX6_weigh_17 ?_
      refine g_P (s0_32 L) fkX6_33 rfl rfl rfl rfl dX6_weigh_18 ?_
      refine x_aload_n dX6_weigh_21 rfl ?_
      refine g_I (s0_32 L) fkX6_37 rfl rfl dX6_weigh_22 ?_
      refine x_as hl ?_
      refine x_if_lt 36 dX6_weigh_25 rfl (fun y1 => ?_) (fun y1 => by exact absurd (show (-1 : Int32) < 0 by decide) y1)
      refine x_aload_n dX6_weigh_36 rfl ?_
      refine x_iload_n dX6_weigh_37 rfl ?_
      refine g_P (s0_32 L) fkX6_37 rfl rfl rfl rfl dX6_weigh_38 ?_
      refine x_aload_n dX6_weigh_41 rfl ?_
      refine g_R (s0_32 L) fkX6_18 rfl rfl rfl dX6_weigh_42 ?_
      refine x_aload_n dX6_weigh_45 rfl ?_
      refine g_R (s0_32 L) fkX6_12 rfl rfl rfl dX6_weigh_46 ?_
      refine cV1 (mj := mX3_copy) lkX6_63 okX3_copy imX3_copy seX3_copy (s0_35 L) rfl rfl rfl rfl rfl dX6_weigh_49 rfl (k_rowCopy (s0_35 L) (s0_36 L) (s0_33 L) (s0_34 L) rfl rfl ?_)
      refine x_vret dX6_weigh_52 rfl ?_
      rw [clT_t (Or.inl hs2)] at hQ
      refine hQ _ ((((Fr.rf.set _ (by decide)).set _ (by decide)).set _ (by decide)).set _ (by decide)) (fun j h4 h5 => ?_) ⟨?_, Or.inr ⟨_, rfl, hc9, hm6, ?_, ?_, fun k hk => ?_⟩⟩
      · exact (upd_ne _ _ h4).trans (upd_ne _ _ h5)
      · simp [sM, upd]
      · simp [sM, upd]
      · show upd (M 35) 1 (M 33 1) 1 = nI m
        rw [upd_at]; exact RM
      · rw [sM_at]
        refine (pk_cpy_in (Nat.zero_le _) (show k < 0 + 6 by have h9 : k < m := hk; omega)).trans ?_
        show M 34 (0 + (k - 0)) = nI (r k)
        rw [Nat.zero_add, Nat.sub_zero]
        exact RE k hk
  · refine x_aload_n dX6_weigh_0 rfl ?_
    refine x_dup dX6_weigh_1 rfl ?_
    refine g_I (s0_32 L) fkX6_33 rfl rfl dX6_weigh_2 ?_
    refine x_as C.1 ?_
    refine x_iload_n dX6_weigh_5 rfl ?_
    refine n_if_ne 13 dX6_weigh_6 rfl (by omega) (fun z0 => ?_) (fun z0 => ?_)
    · refine x_iconst dX6_weigh_13 iconst_0 ?_
      refine x_as (show nI 0 = bI (decide (c = 0)) from by rw [decide_eq_false z0]; rfl) ?_
      refine cS1 (mj := mX8_bit) lkX6_59 okX8_bit stX8_bit rfl rfl rfl rfl dX6_weigh_14 rfl (c_bit _ ?_)
      rw [show (if decide (c = 0) = true then 1 else 0 : Nat) = if c = 0 then 1 else 0 from by simp only [decide_eq_true_eq]]
      refine n_iadd dX6_weigh_17 ?_
      refine g_P (s0_32 L) fkX6_33 rfl rfl rfl rfl dX6_weigh_18 ?_
      refine x_aload_n dX6_weigh_21 rfl ?_
      refine g_I (s0_32 L) fkX6_37 rfl rfl dX6_weigh_22 ?_
      refine x_as hl ?_
      refine x_if_lt 36 dX6_weigh_25 rfl (fun y1 => by exact absurd y1 (nI_pos (by omega))) (fun y1 => ?_)
      refine x_iload_n dX6_weigh_28 rfl ?_
      refine x_aload_n dX6_weigh_29 rfl ?_
      refine g_I (s0_32 L) fkX6_37 rfl rfl dX6_weigh_30 ?_
      refine x_as hl ?_
      refine n_icmp_ge 52 dX6_weigh_33 rfl (by omega) (by omega) (fun y2 => ?_) (fun y2 => ?_)
      · refine x_vret dX6_weigh_52 rfl ?_
        rw [clT_k hs2 (by omega)] at hQ
        refine hQ _ (Fr.rf.set _ (by decide)) (fun j h4 h5 => upd_ne _ _ h5) ⟨(by simp [sM, upd]), Or.inr ⟨_, rfl, hb1, hb2, ?_, hb3, hb4⟩⟩
        simp [sM, upd]
        exact hl
      · refine x_aload_n dX6_weigh_36 rfl ?_
        refine x_iload_n dX6_weigh_37 rfl ?_
        refine g_P (s0_32 L) fkX6_37 rfl rfl rfl rfl dX6_weigh_38 ?_
        refine x_aload_n dX6_weigh_41 rfl ?_
        refine g_R (s0_32 L) fkX6_18 rfl rfl rfl dX6_weigh_42 ?_
        refine x_aload_n dX6_weigh_45 rfl ?_
        refine g_R (s0_32 L) fkX6_12 rfl rfl rfl dX6_weigh_46 ?_
        refine cV1 (mj := mX3_copy) lkX6_63 okX3_copy imX3_copy seX3_copy (s0_35 L) rfl rfl rfl rfl rfl dX6_weigh_49 rfl (k_rowCopy (s0_35 L) (s0_36 L) (s0_33 L) (s0_34 L) rfl rfl ?_)
        refine x_vret dX6_weigh_52 rfl ?_
        rw [clT_t (Or.inr ⟨b, hs2, y2⟩)] at hQ
        refine hQ _ ((((Fr.rf.set _ (by decide)).set _ (by decide)).set _ (by decide)).set _ (by decide)) (fun j h4 h5 => ?_) ⟨?_, Or.inr ⟨_, rfl, hc9, hm6, ?_, ?_, fun k hk => ?_⟩⟩
        · exact (upd_ne _ _ h4).trans (upd_ne _ _ h5)
        · simp [sM, upd]
        · simp [sM, upd]
        · show upd (M 35) 1 (M 33 1) 1 = nI m
          rw [upd_at]; exact RM
        · rw [sM_at]
          refine (pk_cpy_in (Nat.zero_le _) (show k < 0 + 6 by have h9 : k < m := hk; omega)).trans ?_
          show M 34 (0 + (k - 0)) = nI (r k)
          rw [Nat.zero_add, Nat.sub_zero]
          exact RE k hk
    · refine x_iconst dX6_weigh_9 iconst_1 ?_
      refine x_as (show nI 1 = bI (decide (c = 0)) from by rw [decide_eq_true z0]; rfl) ?_
      refine x_goto 14 dX6_weigh_10 rfl ?_
      refine cS1 (mj := mX8_bit) lkX6_59 okX8_bit stX8_bit rfl rfl rfl rfl dX6_weigh_14 rfl (c_bit _ ?_)
      rw [show (if decide (c = 0) = true then 1 else 0 : Nat) = if c = 0 then 1 else 0 from by simp only [decide_eq_true_eq]]
      refine n_iadd dX6_weigh_17 ?_
      refine g_P (s0_32 L) fkX6_33 rfl rfl rfl rfl dX6_weigh_18 ?_
      refine x_aload_n dX6_weigh_21 rfl ?_
      refine g_I (s0_32 L) fkX6_37 rfl rfl dX6_weigh_22 ?_
      refine x_as hl ?_
      refine x_if_lt 36 dX6_weigh_25 rfl (fun y1 => by exact absurd y1 (nI_pos (by omega))) (fun y1 => ?_)
      refine x_iload_n dX6_weigh_28 rfl ?_
      refine x_aload_n dX6_weigh_29 rfl ?_
      refine g_I (s0_32 L) fkX6_37 rfl rfl dX6_weigh_30 ?_
      refine x_as hl ?_
      refine n_icmp_ge 52 dX6_weigh_33 rfl (by omega) (by omega) (fun y2 => ?_) (fun y2 => ?_)
      · refine x_vret dX6_weigh_52 rfl ?_
        rw [clT_k hs2 (by omega)] at hQ
        refine hQ _ (Fr.rf.set _ (by decide)) (fun j h4 h5 => upd_ne _ _ h5) ⟨(by simp [sM, upd]), Or.inr ⟨_, rfl, hb1, hb2, ?_, hb3, hb4⟩⟩
        simp [sM, upd]
        exact hl
      · refine x_aload_n dX6_weigh_36 rfl ?_
        refine x_iload_n dX6_weigh_37 rfl ?_
        refine g_P (s0_32 L) fkX6_37 rfl rfl rfl rfl dX6_weigh_38 ?_
        refine x_aload_n dX6_weigh_41 rfl ?_
        refine g_R (s0_32 L) fkX6_18 rfl rfl rfl dX6_weigh_42 ?_
        refine x_aload_n dX6_weigh_45 rfl ?_
        refine g_R (s0_32 L) fkX6_12 rfl rfl rfl dX6_weigh_46 ?_
        refine cV1 (mj := mX3_copy) lkX6_63 okX3_copy imX3_copy seX3_copy (s0_35 L) rfl rfl rfl rfl rfl dX6_weigh_49 rfl (k_rowCopy (s0_35 L) (s0_36 L) (s0_33 L) (s0_34 L) rfl rfl ?_)
        refine x_vret dX6_weigh_52 rfl ?_
        rw [clT_t (Or.inr ⟨b, hs2, y2⟩)] at hQ
        refine hQ _ ((((Fr.rf.set _ (by decide)).set _ (by decide)).set _ (by decide)).set _ (by decide)) (fun j h4 h5 => ?_) ⟨?_, Or.inr ⟨_, rfl, hc9, hm6, ?_, ?_, fun k hk => ?_⟩⟩
        · exact (upd_ne _ _ h4).trans (upd_ne _ _ h5)
        · simp [sM, upd]
        · simp [sM, upd]
        · show upd (M 35) 1 (M 33 1) 1 = nI m
          rw [upd_at]; exact RM
        · rw [sM_at]
          refine (pk_cpy_in (Nat.zero_le _) (show k < 0 + 6 by have h9 : k < m := hk; omega)).trans ?_
          show M 34 (0 + (k - 0)) = nI (r k)
          rw [Nat.zero_add, Nat.sub_zero]
          exact RE k hk
set_option maxRecDepth 100000 in
set_option maxHeartbeats 4000000 in
theorem k_renew {E : vE} {l : Launch} {Q : Option Value → vS → vM → Prop} {L : Nat} {M : vM} {w h ng : Nat} {ht : Nat → Nat} {G : Nat → vQ} (V : GoV w h ng ht G) (K : GoC M w h ng ht G) (D : LdC M w h ng ht G) {ns : Nat} {rk : Nat → Nat} {T : Nat → vT} (SV : StV w h ns rk T) (SC : StC M w h ns rk T) {nz : Nat} {U : Nat → vU} (ZV : SgV w h ns nz U) (ZC : SgC M nz U) {st : Bool} (hst : M 32 6 = bI st) (hO : st = false → M 32 6 = bI false → Q none (S0 L) M) (hQ : ∀ M1 : vM, Fr [32, 33, 34, 35, 36] M M1 → (∀ j, j ≠ 4 → j ≠ 5 → j ≠ 6 → M1 32 j = M 32 j) → M1 32 6 = bI false → CbM M1 (clO ng (fun m r => cst w h ht G r m rk T U nz) 4) → Q none (S0 L) M1) : PM E l mX6_renew 0 [.ref 32, .null, .null, .null] [] (S0 L) M 0 0 Q := by
  have hng := V.2.2.1
  have lo : ∀ M1 : vM, Fr [32, 33, 34, 35, 36] M M1 → (∀ j, j ≠ 4 → j ≠ 5 → j ≠ 6 → M1 32 j = M 32 j) → M1 32 6 = bI false → CbM M1 (clO ng (fun m r => cst w h ht G r m rk T U nz) 0) → PM E l mX6_renew 27 [.ref 32, .int (nI (ng ^ 0)), .int (nI 0), .null] [] (S0 L) M1 0 0 Q := by
    refine lp_up (P := fun m => ∀ M1 : vM, Fr [32, 33, 34, 35, 36] M M1 → (∀ j, j ≠ 4 → j ≠ 5 → j ≠ 6 → M1 32 j = M 32 j) → M1 32 6 = bI false → CbM M1 (clO ng (fun m r => cst w h ht G r m rk T U nz) m) → PM E l mX6_renew 27 [.ref 32, .int (nI (ng ^ m)), .int (nI m), .null] [] (S0 L) M1 0 0 Q) 4 ?_ ?_ 0 (by omega)
    · intro M1 g1 g2 g3 g4
      refine x_iload_n dX6_renew_27 rfl ?_
      refine x_iconst dX6_renew_28 iconst_3 ?_
      refine n_icmp_gt 95 dX6_renew_29 rfl (by omega) (by omega) (fun h1 => ?_) (fun h1 => by omega)
      refine x_vret dX6_renew_95 rfl ?_
      exact hQ M1 g1 g2 g3 g4
    · intro m hm ih M1 g1 g2 g3 g4
      have hp := pw_le (ng := ng) (m := m) hng (by omega)
      have li : ∀ M1 : vM, Fr [32, 33, 34, 35, 36] M M1 → (∀ j, j ≠ 4 → j ≠ 5 → j ≠ 6 → M1 32 j = M 32 j) → M1 32 6 = bI false → CbM M1 (clI ng (fun m r => cst w h ht G r m rk T U nz) m 0 (clO ng (fun m r => cst w h ht G r m rk T U nz) m)) → PM E l mX6_renew 34 [.ref 32, .int (nI (ng ^ m)), .int (nI m), .int (nI 0)] [] (S0 L) M1 0 0 Q := by
        refine lp_up (P := fun i => ∀ M1 : vM, Fr [32, 33, 34, 35, 36] M M1 → (∀ j, j ≠ 4 → j ≠ 5 → j ≠ 6 → M1 32 j = M 32 j) → M1 32 6 = bI false → CbM M1 (clI ng (fun m r => cst w h ht G r m rk T U nz) m i (clO ng (fun m r => cst w h ht G r m rk T U nz) m)) → PM E l mX6_renew 34 [.ref 32, .int (nI (ng ^ m)), .int (nI m), .int (nI i)] [] (S0 L) M1 0 0 Q) (ng ^ m) ?_ ?_ 0 (Nat.zero_le _)
        · intro M1 g1 g2 g3 g4
          refine x_iload_n dX6_renew_34 rfl ?_
          refine x_iload_n dX6_renew_35 rfl ?_
          refine n_icmp_ge 79 dX6_renew_36 rfl (by omega) (by omega) (fun h1 => ?_) (fun h1 => by omega)
          refine x_iload_n dX6_renew_79 rfl ?_
          refine x_aload_n dX6_renew_80 rfl ?_
          refine g_R (s0_32 L) fkX6_25 rfl rfl rfl dX6_renew_81 ?_
          refine g_I (s0_12 L) fkX6_40 rfl rfl dX6_renew_84 ?_
          refine x_as ((congrFun (g1 12 (by decide)) 10).trans K.2.2.1) ?_
          refine n_imul dX6_renew_87 ?_
          refine x_istore_n dX6_renew_88 (by decide) rfl ?_
          refine n_inc dX6_renew_89 rfl rfl ?_
          refine x_goto 27 dX6_renew_92 rfl ?_
          refine x_mask [true, true, true, false] ?_
          exact ih M1 g1 g2 g3 g4
        · intro i hi ihi M1 g1 g2 g3 g4
          refine x_iload_n dX6_renew_34 rfl ?_
          refine x_iload_n dX6_renew_35 rfl ?_
          refine n_icmp_ge 79 dX6_renew_36 rfl (by omega) (by omega) (fun h1 => by omega) (fun h1 => ?_)
          refine x_aload_n dX6_renew_39 rfl ?_
          refine g_R (s0_32 L) fkX6_12 rfl rfl rfl dX6_renew_40 ?_
          refine x_iload_n dX6_renew_43 rfl ?_
          refine x_iload_n dX6_renew_44 rfl ?_
          refine x_aload_n dX6_renew_45 rfl ?_
          refine g_R (s0_32 L) fkX6_25 rfl rfl rfl dX6_renew_46 ?_
          refine g_I (s0_12 L) fkX6_40 rfl rfl dX6_renew_49 ?_
          refine x_as ((congrFun (g1 12 (by decide)) 10).trans K.2.2.1) ?_
          refine cV3 (mj := mX3_spell) lkX6_45 okX3_spell imX3_spell seX3_spell (s0_33 L) rfl rfl rfl rfl rfl dX6_renew_52 rfl (k_spell (b := ng) (code := i) (m := m) (by omega) hng (by omega) (fun z => by rcases Nat.eq_zero_or_pos m with e | e; exact e; rw [z, Nat.zero_pow e] at hi; omega) (fun M2 k1 k2 => ?_))
          refine b_if_eq 73 dX6_renew_55 rfl (fun y1 => ?_) (fun y1 => ?_)
          · refine n_inc dX6_renew_73 rfl rfl ?_
            refine x_goto 34 dX6_renew_76 rfl ?_
            have ih2 := ihi M2 (g1.trans (k1.sub (by decide))) (fun j h4 h5 h6 => (congrFun (k1 32 (by decide)) j).trans (g2 j h4 h5 h6)) ((congrFun (k1 32 (by decide)) 6).trans g3)
            refine ih2 ?_
            show CbM M2 (clT (dsB ng m i) _ m _ (clI ng (fun m r => cst w h ht G r m rk T U nz) m i (clO ng (fun m r => cst w h ht G r m rk T U nz) m)))
            rw [y1]
            exact (show CbM M2 (clI ng (fun m r => cst w h ht G r m rk T U nz) m i (clO ng (fun m r => cst w h ht G r m rk T U nz) m)) from by unfold CbM at g4 ⊢; rw [k1 32 (by decide), k1 35 (by decide), k1 36 (by decide)]; exact g4)
          · have g9 : Fr [32, 33, 34, 35, 36] M M2 := g1.trans (k1.sub (by decide))
            have k2y := k2 y1
            have RV : RwV ng m (dC ng m i) := ⟨by omega, fun k hk => Nat.mod_lt _ (by rcases Nat.eq_zero_or_pos ng with e | e; rw [e, Nat.zero_pow (by omega)] at hi; omega; exact e)⟩
            refine x_aload_n dX6_renew_58 rfl ?_
            refine x_aload_n dX6_renew_59 rfl ?_
            refine g_R (s0_32 L) fkX6_29 rfl rfl rfl dX6_renew_60 ?_
            refine x_aload_n dX6_renew_63 rfl ?_
            refine g_R (s0_32 L) fkX6_12 rfl rfl rfl dX6_renew_64 ?_
            refine cV1 (mj := mX4_costOf) lkX6_49 okX4_costOf imX4_costOf seX4_costOf (s0_27 L) rfl rfl rfl rfl rfl dX6_renew_67 rfl (k_costOf V (K.kept (fun z hz => g9 z (by simp only [List.mem_cons, List.not_mem_nil, or_false] at hz ⊢; omega)) (congrFun (g9 12 (by decide)) 10)) (D.kept (g9 18 (by decide)) (g9 19 (by decide))) (s0_33 L) (s0_34 L) RV k2y.1 k2y.2 SV (SC.kept (fun z hz => g9 z (by simp only [List.mem_cons, List.not_mem_nil, or_false] at hz ⊢; omega))) ZV (ZC.kept (fun z hz => g9 z (by simp only [List.mem_cons, List.not_mem_nil, or_false] at hz ⊢; omega))) ?_)
            refine cV1 (mj := mX6_weigh) lkX6_55 okX6_weigh imX6_weigh seX6_weigh (s0_32 L) rfl rfl rfl rfl rfl dX6_renew_70 rfl (k_weigh (m := m) (r := dC ng m i) (cst_le ZV (Nat.le_refl _)) (by omega) k2y.1 k2y.2 (show CbM M2 (clI ng (fun m r => cst w h ht G r m rk T U nz) m i (clO ng (fun m r => cst w h ht G r m rk T U nz) m)) from by unfold CbM at g4 ⊢; rw [k1 32 (by decide), k1 35 (by decide), k1 36 (by decide)]; exact g4) (fun M3 k3 k4 k5 => ?_))
            refine n_inc dX6_renew_73 rfl rfl ?_
            refine x_goto 34 dX6_renew_76 rfl ?_
            refine ihi M3 ((g1.trans (k1.sub (by decide))).trans (k3.sub (by decide))) (fun j h4 h5 h6 => (k4 j h4 h5).trans ((congrFun (k1 32 (by decide)) j).trans (g2 j h4 h5 h6))) ((k4 6 (by decide) (by decide)).trans ((congrFun (k1 32 (by decide)) 6).trans g3)) ?_
            show CbM M3 (clT (dsB ng m i) _ m _ (clI ng (fun m r => cst w h ht G r m rk T U nz) m i (clO ng (fun m r => cst w h ht G r m rk T U nz) m)))
            rw [y1]
            exact k5
      refine x_iload_n dX6_renew_27 rfl ?_
      refine x_iconst dX6_renew_28 iconst_3 ?_
      refine n_icmp_gt 95 dX6_renew_29 rfl (by omega) (by omega) (fun h1 => by omega) (fun h1 => ?_)
      refine x_iconst dX6_renew_32 iconst_0 ?_
      refine x_istore_n dX6_renew_33 (by decide) rfl ?_
      exact li M1 g1 g2 g3 g4
  refine x_aload_n dX6_renew_0 rfl ?_
  refine g_I (s0_32 L) fkX6_21 rfl rfl dX6_renew_1 ?_
  refine x_as hst ?_
  refine b_if_ne 8 dX6_renew_4 rfl (fun y0 => ?_) (fun y0 => ?_)
  · refine x_aload_n dX6_renew_8 rfl ?_
    refine x_iconst dX6_renew_9 iconst_0 ?_
    refine x_as (show nI 0 = bI false from rfl) ?_
    refine g_Pz (s0_32 L) fkX6_21 rfl rfl rfl rfl dX6_renew_10 ?_
    refine x_aload_n dX6_renew_13 rfl ?_
    refine x_iconst dX6_renew_14 iconst_0 ?_
    refine g_P (s0_32 L) fkX6_33 rfl rfl rfl rfl dX6_renew_15 ?_
    refine x_aload_n dX6_renew_18 rfl ?_
    refine x_iconst dX6_renew_19 iconst_m1 ?_
    refine g_P (s0_32 L) fkX6_37 rfl rfl rfl rfl dX6_renew_20 ?_
    refine x_iconst dX6_renew_23 iconst_1 ?_
    refine x_istore_n dX6_renew_24 (by decide) rfl ?_
    refine x_iconst dX6_renew_25 iconst_0 ?_
    refine x_istore_n dX6_renew_26 (by decide) rfl ?_
    refine lo _ (((Fr.rf.set _ (by decide)).set _ (by decide)).set _ (by decide)) (fun j h4 h5 h6 => ?_) ?_ ⟨?_, Or.inl ⟨rfl, ?_⟩⟩
    · exact ((upd_ne _ _ h4).trans (upd_ne _ _ h5)).trans (upd_ne _ _ h6)
    · simp [sM, upd]
    · simp [sM, upd, clO]
    · simp [sM, upd]
  · refine x_vret dX6_renew_7 rfl ?_
    subst y0
    exact hO rfl hst

set_option maxRecDepth 100000 in
set_option maxHeartbeats 4000000 in
theorem p_sign {E : vE} {l : Launch} {L : Nat} {M : vM} (I : Inv M) {x y v u : Int32} : PM E l mX8_sign 0 [.ref 3, .int x, .int y, .int v, .int u] [] (S0 L) M 0 0 (Pst E l L mX9_sign [.ref 42, .int x, .int y, .int v, .int u, .null] M) := by
  obtain ⟨w, h, ht, rk, ns, T, ng, G, Rw, nz, U, O, VV, RC, RM⟩ := I
  have e4 := VV.1.1.le
  have hng := VV.1.2.2.1
  have hns := VV.2.1.1
  have hnz := VV.2.2.1.1
  refine k_sign VV RC (fun hn => ?_) (fun k hk ex hat => ?_) (fun k hk ex hat hno => ?_) (fun k wo hk hwo ex eu hat hex en M1 h1 h2 => ?_) (fun k ee wo hk hwo ex eu ev hee15 hat hex en M1 h1 h2 => ?_)
  · refine ⟨rfl, rfl, _, rfl, fun Q2 hQ2 => m_sign VV RM (fun _ => hQ2 _ (iv VV RC RM) rfl) (fun k hk ex _ => absurd ⟨k, hk, ex⟩ hn) (fun k hk ex _ _ => absurd ⟨k, hk, ex⟩ hn) (fun k wo hk hwo ex _ _ _ _ => absurd ⟨k, hk, ex⟩ hn) (fun k cc ee wo hk hwo ex _ _ _ _ _ _ _ M2 _ _ => absurd ⟨k, hk, ex⟩ hn)⟩
  · subst ex
    refine ⟨rfl, rfl, _, rfl, fun Q2 hQ2 => m_sign VV RM (fun hn => absurd ⟨k, hk, rfl⟩ hn) (fun k2 hk2 ex2 hat2 => hQ2 _ (iv VV RC RM) rfl) (fun k2 hk2 ex2 hat2 _ => ?_) (fun k2 wo2 hk2 hwo2 ex2 eu2 hat2 hex2 en2 => ?_) (fun k2 cc ee2 wo2 hk2 hwo2 ex2 eu2 ev2 hcc hee hat2 hex2 en2 M2 g1 g2 => ?_)⟩
    · have i0 := nI_i ex2 (by omega) (by omega)
      subst i0
      exact absurd hat2 hat
    · have i0 := nI_i ex2 (by omega) (by omega)
      subst i0
      exact absurd hat2 hat
    · have i0 := nI_i ex2 (by omega) (by omega)
      subst i0
      exact absurd hat2 hat
  · subst ex
    refine ⟨rfl, rfl, _, rfl, fun Q2 hQ2 => m_sign VV RM (fun hn => absurd ⟨k, hk, rfl⟩ hn) (fun k2 hk2 ex2 hat2 => ?_) (fun k2 hk2 ex2 hat2 hno2 => hQ2 _ (iv VV RC RM) rfl) (fun k2 wo2 hk2 hwo2 ex2 eu2 hat2 hex2 en2 => ?_) (fun k2 cc ee2 wo2 hk2 hwo2 ex2 eu2 ev2 hcc hee hat2 hex2 en2 M2 g1 g2 => ?_)⟩
    · have i0 := nI_i ex2 (by omega) (by omega)
      subst i0
      exact absurd hat hat2
    · have i0 := nI_i ex2 (by omega) (by omega)
      subst i0
      exact absurd ⟨hex2, wo2, hwo2, eu2⟩ hno
    · have i0 := nI_i ex2 (by omega) (by omega)
      subst i0
      exact absurd ⟨hex2, wo2, hwo2, eu2⟩ hno
  · subst ex eu
    refine ⟨rfl, (h1 2 (Or.inl (by decide))), _, rfl, fun Q2 hQ2 => m_sign VV (RM.high h1) (fun hn => absurd ⟨k, hk, rfl⟩ hn) (fun k2 hk2 ex2 hat2 => ?_) (fun k2 hk2 ex2 hat2 hno2 => ?_) (fun k2 wo2 hk2 hwo2 ex2 eu2 hat2 hex2 en2 => hQ2 _ (iv VV h2 (RM.high h1)) (h1 2 (Or.inl (by decide)))) (fun k2 cc ee2 wo2 hk2 hwo2 ex2 eu2 ev2 hcc hee hat2 hex2 en2 M2 g1 g2 => absurd en2 (by omega))⟩
    · have i0 := nI_i ex2 (by omega) (by omega)
      subst i0
      exact absurd hat hat2
    · have i0 := nI_i ex2 (by omega) (by omega)
      subst i0
      exact absurd ⟨hex, wo, hwo, rfl⟩ hno2
  · subst ex eu
    refine ⟨rfl, (h1 2 (Or.inl (by decide))), _, rfl, fun Q2 hQ2 => m_sign VV (RM.high h1) (fun hn => absurd ⟨k, hk, rfl⟩ hn) (fun k2 hk2 ex2 hat2 => ?_) (fun k2 hk2 ex2 hat2 hno2 => ?_) (fun k2 wo2 hk2 hwo2 ex2 eu2 hat2 hex2 en2 => absurd en2 (by omega)) (fun k2 cc ee2 wo2 hk2 hwo2 ex2 eu2 ev2 hcc hee hat2 hex2 en2 M2 g1 g2 => ?_)⟩
    · have i0 := nI_i ex2 (by omega) (by omega)
      subst i0
      exact absurd hat hat2
    · have i0 := nI_i ex2 (by omega) (by omega)
      subst i0
      exact absurd ⟨hex, wo, hwo, rfl⟩ hno2
    · have i0 := nI_i ex2 (by omega) (by omega)
      subst i0
      have i1 := nI_i eu2 (by omega) (by omega)
      subst i1
      have hb : ee < 2 ^ 31 ∧ ee2 < 2 ^ 31 := by
        refine ⟨by omega, ?_⟩
        rcases (show k = 0 ∨ k = 1 ∨ k = 2 ∨ k = 3 ∨ k = 4 ∨ k = 5 by omega) with e | e | e | e | e | e
        · have := hee.1 e; omega
        · have := hee.2.2.2 (Or.inl e); omega
        · have := hee.2.2.2 (Or.inr (Or.inl e)); omega
        · have := hee.2.2.2 (Or.inr (Or.inr e)); omega
        · have := hee.2.1 e; omega
        · have := hee.2.2.1 e; omega
      have i9 := nI_i (ev.symm.trans ev2) hb.1 hb.2
      subst i9
      exact hQ2 _ (iv (v_sign VV hk hwo en (fun z => (hcc z).2) hee) ((h2 cc (fun z => (hcc z).1)).low g1) g2) ((g1 2 (by decide)).trans (h1 2 (Or.inl (by decide))))
set_option maxRecDepth 100000 in
set_option maxHeartbeats 4000000 in
theorem p_forget {E : vE} {l : Launch} {L : Nat} {M : vM} (I : Inv M) {x : Int32} : PM E l mX8_forget 0 [.ref 3, .int x] [] (S0 L) M 0 0 (Pst E l L mX9_forget [.ref 42, .int x, .null, .null] M) := by
  obtain ⟨w, h, ht, rk, ns, T, ng, G, Rw, nz, U, O, VV, RC, RM⟩ := I
  have e4 := VV.1.1.le
  have hng := VV.1.2.2.1
  have hns := VV.2.1.1
  have hnz := VV.2.2.1.1
  refine k_forget VV RC (fun hn => ?_) (fun t htt ex M1 h1 h2 => ?_)
  · refine ⟨rfl, rfl, _, rfl, fun Q2 hQ2 => m_forget VV RM (fun _ => hQ2 _ (iv VV RC RM) rfl) (fun t htt ex M2 _ _ => absurd ⟨t, htt, ex⟩ hn)⟩
  · subst ex
    refine ⟨rfl, (h1 2 (Or.inl (by decide))), _, rfl, fun Q2 hQ2 => m_forget VV (RM.high h1) (fun hn => absurd ⟨t, htt, rfl⟩ hn) (fun t2 htt2 ex2 M2 g1 g2 => ?_)⟩
    have i0 := nI_i ex2 (by omega) (by omega)
    subst i0
    exact hQ2 _ (iv (v_forget VV htt) (h2.low g1) g2) ((g1 2 (by decide)).trans (h1 2 (Or.inl (by decide))))
set_option maxRecDepth 100000 in
set_option maxHeartbeats 4000000 in
theorem p_explains {E : vE} {l : Launch} {L : Nat} {M : vM} (I : Inv M) {x y : Int32} : PM E l mX8_explains 0 [.ref 3, .int x, .int y] [] (S0 L) M 0 0 (Pst E l L mX9_explains [.ref 42, .int x, .int y] M) := by
  obtain ⟨w, h, ht, rk, ns, T, ng, G, Rw, nz, U, O, VV, RC, RM⟩ := I
  have e4 := VV.1.1.le
  have hng := VV.1.2.2.1
  have hns := VV.2.1.1
  have hnz := VV.2.2.1.1
  refine k_explains VV RC (fun hn => ?_) (fun s i hs hi ex ey => ?_)
  · refine ⟨rfl, rfl, _, rfl, fun Q2 hQ2 => m_explains VV RM (fun _ => hQ2 _ (iv VV RC RM) rfl) (fun s i hs hi ex ey M2 _ _ => absurd ⟨⟨s, hs, ex⟩, ⟨i, hi, ey⟩⟩ hn)⟩
  · subst ex ey
    refine ⟨rfl, rfl, _, rfl, fun Q2 hQ2 => m_explains VV RM (fun hn => absurd ⟨⟨s, hs, rfl⟩, ⟨i, hi, rfl⟩⟩ hn) (fun s2 i2 hs2 hi2 ex2 ey2 M2 g1 g2 => ?_)⟩
    have i0 := nI_i ex2 (by omega) (by omega)
    subst i0
    have i1 := nI_i ey2 (by omega) (by omega)
    subst i1
    exact hQ2 _ (iv VV (RC.low g1) g2) (g1 2 (by decide))
set_option maxRecDepth 100000 in
set_option maxHeartbeats 4000000 in
theorem p_costs {E : vE} {l : Launch} {L : Nat} {M : vM} (I : Inv M) {x : Int32} : PM E l mX8_costs 0 [.ref 3, .int x] [] (S0 L) M 0 0 (Pst E l L mX9_costs [.ref 42, .int x] M) := by
  obtain ⟨w, h, ht, rk, ns, T, ng, G, Rw, nz, U, O, VV, RC, RM⟩ := I
  have e4 := VV.1.1.le
  have hng := VV.1.2.2.1
  have hns := VV.2.1.1
  have hnz := VV.2.2.1.1
  refine k_costs VV RC (fun hn => ?_) (fun s hs ex => ?_)
  · refine ⟨rfl, rfl, _, rfl, fun Q2 hQ2 => m_costs VV RM (fun _ => hQ2 _ (iv VV RC RM) rfl) (fun s hs ex M2 _ _ => absurd ⟨s, hs, ex⟩ hn)⟩
  · subst ex
    refine ⟨rfl, rfl, _, rfl, fun Q2 hQ2 => m_costs VV RM (fun hn => absurd ⟨s, hs, rfl⟩ hn) (fun s2 hs2 ex2 M2 g1 g2 => ?_)⟩
    have i0 := nI_i ex2 (by omega) (by omega)
    subst i0
    exact hQ2 _ (iv VV (RC.low g1) g2) (g1 2 (by decide))
set_option maxRecDepth 100000 in
set_option maxHeartbeats 4000000 in
theorem p_fits {E : vE} {l : Launch} {L : Nat} {M : vM} (I : Inv M) : PM E l mX8_fits 0 [.ref 3] [] (S0 L) M 0 0 (Pst E l L mX9_fits [.ref 42] M) := by
  obtain ⟨w, h, ht, rk, ns, T, ng, G, Rw, nz, U, O, VV, RC, RM⟩ := I
  have e4 := VV.1.1.le
  have hng := VV.1.2.2.1
  have hns := VV.2.1.1
  have hnz := VV.2.2.1.1
  refine k_fits VV RC (fun M1 h1 h2 => ?_)
  · refine ⟨rfl, (h1 2 (Or.inl (by decide))), _, rfl, fun Q2 hQ2 => m_fits VV (RM.high h1) (fun M2 g1 g2 => ?_)⟩
    exact hQ2 _ (iv VV (h2.low g1) g2) ((g1 2 (by decide)).trans (h1 2 (Or.inl (by decide))))
set_option maxRecDepth 100000 in
set_option maxHeartbeats 4000000 in
theorem p_best {E : vE} {l : Launch} {L : Nat} {M : vM} (I : Inv M) : PM E l mX8_best 0 [.ref 3] [] (S0 L) M 0 0 (Pst E l L mX9_best [.ref 42] M) := by
  obtain ⟨w, h, ht, rk, ns, T, ng, G, Rw, nz, U, O, VV, RC, RM⟩ := I
  have e4 := VV.1.1.le
  have hng := VV.1.2.2.1
  have hns := VV.2.1.1
  have hnz := VV.2.2.1.1
  refine k_best VV RC (fun b hb M1 h1 h2 => ?_)
  · refine ⟨rfl, (h1 2 (Or.inl (by decide))), _, rfl, fun Q2 hQ2 => m_best VV (RM.high h1) (fun b2 hb2 M2 g1 g2 => ?_)⟩
    rw [hb] at hb2
    cases hb2
    exact hQ2 _ (iv VV (h2.low g1) g2) ((g1 2 (by decide)).trans (h1 2 (Or.inl (by decide))))
set_option maxRecDepth 100000 in
set_option maxHeartbeats 4000000 in
theorem p_bestGo {E : vE} {l : Launch} {L : Nat} {M : vM} (I : Inv M) {x : Int32} : PM E l mX8_bestGo 0 [.ref 3, .int x] [] (S0 L) M 0 0 (Pst E l L mX9_bestGo [.ref 42, .int x] M) := by
  obtain ⟨w, h, ht, rk, ns, T, ng, G, Rw, nz, U, O, VV, RC, RM⟩ := I
  have e4 := VV.1.1.le
  have hng := VV.1.2.2.1
  have hns := VV.2.1.1
  have hnz := VV.2.2.1.1
  refine k_bestGo VV RC (fun b hb hno M1 h1 h2 => ?_) (fun b hb j hj ex M1 h1 h2 => ?_)
  · refine ⟨rfl, (h1 2 (Or.inl (by decide))), _, rfl, fun Q2 hQ2 => m_bestGo VV (RM.high h1) (fun b2 hb2 hno2 M2 g1 g2 => ?_) (fun b2 hb2 j2 hj2 ex2 M2 g1 g2 => ?_)⟩
    · rw [hb] at hb2
      cases hb2
      exact hQ2 _ (iv VV (h2.low g1) g2) ((g1 2 (by decide)).trans (h1 2 (Or.inl (by decide))))
    · rw [hb] at hb2
      cases hb2
      exact absurd ⟨j2, hj2, ex2⟩ hno
  · subst ex
    have hb3 := bsS_many _ b hb
    refine ⟨rfl, (h1 2 (Or.inl (by decide))), _, rfl, fun Q2 hQ2 => m_bestGo VV (RM.high h1) (fun b2 hb2 hno2 M2 g1 g2 => ?_) (fun b2 hb2 j2 hj2 ex2 M2 g1 g2 => ?_)⟩
    · rw [hb] at hb2
      cases hb2
      exact absurd ⟨j, hj, rfl⟩ hno2
    · rw [hb] at hb2
      cases hb2
      have i0 := nI_i ex2 (by omega) (by omega)
      subst i0
      exact hQ2 _ (iv VV (h2.low g1) g2) ((g1 2 (by decide)).trans (h1 2 (Or.inl (by decide))))
set_option maxRecDepth 100000 in
set_option maxHeartbeats 4000000 in
theorem p_take {E : vE} {l : Launch} {L : Nat} {M : vM} (I : Inv M) {x : Int32} : PM E l mX8_take 0 [.ref 3, .int x, .null] [] (S0 L) M 0 0 (Pst E l L mX9_take [.ref 42, .int x, .null] M) := by
  obtain ⟨w, h, ht, rk, ns, T, ng, G, Rw, nz, U, O, VV, RC, RM⟩ := I
  have e4 := VV.1.1.le
  have hng := VV.1.2.2.1
  have hns := VV.2.1.1
  have hnz := VV.2.2.1.1
  refine k_take VV RC (fun hn => ?_) (fun s hs ex b hb M1 h1 h2 => ?_)
  · refine ⟨rfl, rfl, _, rfl, fun Q2 hQ2 => m_take VV RM (fun _ => hQ2 _ (iv VV RC RM) rfl) (fun s hs ex b hb M2 _ _ => absurd ⟨s, hs, ex⟩ hn)⟩
  · subst ex
    have hv := bs_row hng 343 (Nat.le_refl _) b hb
    refine ⟨rfl, (h1 2 (Or.inl (by decide))), _, rfl, fun Q2 hQ2 => m_take VV (RM.high h1) (fun hn => absurd ⟨s, hs, rfl⟩ hn) (fun s2 hs2 ex2 b2 hb2 M2 g1 g2 => ?_)⟩
    have i0 := nI_i ex2 (by omega) (by omega)
    subst i0
    rw [hb] at hb2
    cases hb2
    exact hQ2 _ (iv (v_row VV hv.1 hv.2.1 hv.2.2) (h2.low g1) g2) ((g1 2 (by decide)).trans (h1 2 (Or.inl (by decide))))
set_option maxRecDepth 100000 in
set_option maxHeartbeats 4000000 in
theorem p_unlike {E : vE} {l : Launch} {L : Nat} {M : vM} (I : Inv M) {x y : Int32} : PM E l mX8_unlike 0 [.ref 3, .int x, .int y, .null, .null, .null, .null] [] (S0 L) M 0 0 (Pst E l L mX9_unlike [.ref 42, .int x, .int y, .null, .null] M) := by
  obtain ⟨w, h, ht, rk, ns, T, ng, G, Rw, nz, U, O, VV, RC, RM⟩ := I
  have e4 := VV.1.1.le
  have hng := VV.1.2.2.1
  have hns := VV.2.1.1
  have hnz := VV.2.2.1.1
  refine k_unlike VV RC (fun hn => ?_) (fun s t hs htt ex ey => ?_)
  · refine ⟨rfl, rfl, _, rfl, fun Q2 hQ2 => m_unlike VV RM (fun _ => hQ2 _ (iv VV RC RM) rfl) (fun s t hs htt ex ey M2 _ _ => absurd ⟨⟨s, hs, ex⟩, ⟨t, htt, ey⟩⟩ hn)⟩
  · subst ex ey
    refine ⟨rfl, rfl, _, rfl, fun Q2 hQ2 => m_unlike VV RM (fun hn => absurd ⟨⟨s, hs, rfl⟩, ⟨t, htt, rfl⟩⟩ hn) (fun s2 t2 hs2 htt2 ex2 ey2 M2 g1 g2 => ?_)⟩
    have i0 := nI_i ex2 (by omega) (by omega)
    subst i0
    have i1 := nI_i ey2 (by omega) (by omega)
    subst i1
    exact hQ2 _ (iv VV (RC.low g1) g2) (g1 2 (by decide))
set_option maxRecDepth 100000 in
set_option maxHeartbeats 4000000 in
theorem p_look {E : vE} {l : Launch} {L : Nat} {M : vM} (I : Inv M) {x y v : Int32} : PM E l mX8_look 0 [.ref 3, .int x, .int y, .int v, .null, .null, .null, .null] [] (S0 L) M 0 0 (Pst E l L mX9_look [.ref 42, .int x, .int y, .int v, .null, .null] M) := by
  obtain ⟨w, h, ht, rk, ns, T, ng, G, Rw, nz, U, O, VV, RC, RM⟩ := I
  have e4 := VV.1.1.le
  have hng := VV.1.2.2.1
  have hns := VV.2.1.1
  have hnz := VV.2.2.1.1
  refine k_look VV RC (fun hn => ?_) (fun s t hs htt ex ey => ?_)
  · refine ⟨rfl, rfl, _, rfl, fun Q2 hQ2 => m_look VV RM (fun _ => hQ2 _ (iv VV RC RM) rfl) (fun s t hs htt ex ey M2 _ _ => absurd ⟨⟨s, hs, ex⟩, ⟨t, htt, ey⟩⟩ hn)⟩
  · subst ex ey
    refine ⟨rfl, rfl, _, rfl, fun Q2 hQ2 => m_look VV RM (fun hn => absurd ⟨⟨s, hs, rfl⟩, ⟨t, htt, rfl⟩⟩ hn) (fun s2 t2 hs2 htt2 ex2 ey2 M2 g1 g2 => ?_)⟩
    have i0 := nI_i ex2 (by omega) (by omega)
    subst i0
    have i1 := nI_i ey2 (by omega) (by omega)
    subst i1
    exact hQ2 _ (iv VV (RC.low g1) g2) (g1 2 (by decide))
set_option maxRecDepth 100000 in
set_option maxHeartbeats 4000000 in
theorem p_level {E : vE} {l : Launch} {L : Nat} {M : vM} (I : Inv M) {x y : Int32} : PM E l mX8_level 0 [.ref 3, .int x, .int y] [] (S0 L) M 0 0 (Pst E l L mX9_level [.ref 42, .int x, .int y] M) := by
  obtain ⟨w, h, ht, rk, ns, T, ng, G, Rw, nz, U, O, VV, RC, RM⟩ := I
  have e4 := VV.1.1.le
  have hng := VV.1.2.2.1
  have hns := VV.2.1.1
  have hnz := VV.2.2.1.1
  refine k_level VV RC (fun hn => ?_) (fun g c hg hc ex ey hst => ?_) (fun g c hg hc ex ey hq hv lv hlv M1 h1 h2 => ?_)
  · refine ⟨rfl, rfl, _, rfl, fun Q2 hQ2 => m_level VV RM (fun _ => hQ2 _ (iv VV RC RM) rfl) (fun g c hg hc ex ey _ M2 _ _ => absurd ⟨⟨g, hg, ex⟩, ⟨c, hc, ey⟩⟩ hn) (fun g c hg hc ex ey _ _ lv _ _ M2 _ _ => absurd ⟨⟨g, hg, ex⟩, ⟨c, hc, ey⟩⟩ hn)⟩
  · subst ex ey
    refine ⟨rfl, rfl, _, rfl, fun Q2 hQ2 => m_level VV RM (fun hn => absurd ⟨⟨g, hg, rfl⟩, ⟨c, hc, rfl⟩⟩ hn) (fun g2_ c2 hg2 hc2 ex2 ey2 hst2 M2 g1 g2 => hQ2 _ (iv VV (RC.low g1) g2) (g1 2 (by decide))) (fun g2_ c2 hg2 hc2 ex2 ey2 hq hv lv _ _ M2 _ _ => ?_)⟩
    have i0 := nI_i ex2 (by omega) (by omega)
    subst i0
    have i1 := nI_i ey2 (by omega) (by omega)
    subst i1
    rcases hst with z | z
    · rw [hq] at z; cases z
    · rw [hv] at z; cases z
  · subst ex ey
    refine ⟨rfl, (h1 2 (Or.inl (by decide))), _, rfl, fun Q2 hQ2 => m_level VV (RM.high h1) (fun hn => absurd ⟨⟨g, hg, rfl⟩, ⟨c, hc, rfl⟩⟩ hn) (fun g2_ c2 hg2 hc2 ex2 ey2 hst2 M2 g1 g2 => ?_) (fun g2_ c2 hg2 hc2 ex2 ey2 hq2 hv2 lv2 _ hlv2 M2 g1 g2 => ?_)⟩
    · have i0 := nI_i ex2 (by omega) (by omega)
      subst i0
      have i1 := nI_i ey2 (by omega) (by omega)
      subst i1
      rcases hst2 with z | z
      · rw [hq] at z; cases z
      · rw [hv] at z; cases z
    · have i0 := nI_i ex2 (by omega) (by omega)
      subst i0
      have i1 := nI_i ey2 (by omega) (by omega)
      subst i1
      rw [← hlv.one hlv2 hc]
      exact hQ2 _ (iv VV (h2.low g1) g2) ((g1 2 (by decide)).trans (h1 2 (Or.inl (by decide))))
set_option maxRecDepth 100000 in
set_option maxHeartbeats 4000000 in
theorem p_lake {E : vE} {l : Launch} {L : Nat} {M : vM} (I : Inv M) {x : Int32} : PM E l mX8_lake 0 [.ref 3, .int x] [] (S0 L) M 0 0 (Pst E l L mX9_lake [.ref 42, .int x, .null, .null] M) := by
  obtain ⟨w, h, ht, rk, ns, T, ng, G, Rw, nz, U, O, VV, RC, RM⟩ := I
  have e4 := VV.1.1.le
  have hng := VV.1.2.2.1
  have hns := VV.2.1.1
  have hnz := VV.2.2.1.1
  refine k_lake VV RC (fun hn => ?_) (fun g hg ex hq => ?_) (fun g hg ex hq lv hlv M1 h1 h2 => ?_)
  · refine ⟨rfl, rfl, _, rfl, fun Q2 hQ2 => m_lake VV RM (fun _ => hQ2 _ (iv VV RC RM) rfl) (fun g hg ex _ => absurd ⟨g, hg, ex⟩ hn) (fun g hg ex _ lv _ _ M2 _ _ => absurd ⟨g, hg, ex⟩ hn)⟩
  · subst ex
    refine ⟨rfl, rfl, _, rfl, fun Q2 hQ2 => m_lake VV RM (fun hn => absurd ⟨g, hg, rfl⟩ hn) (fun g2_ hg2 ex2 hq2 => hQ2 _ (iv VV RC RM) rfl) (fun g2_ hg2 ex2 hq2 lv _ _ M2 _ _ => ?_)⟩
    have i0 := nI_i ex2 (by omega) (by omega)
    subst i0
    rw [hq] at hq2; cases hq2
  · subst ex
    refine ⟨rfl, (h1 2 (Or.inl (by decide))), _, rfl, fun Q2 hQ2 => m_lake VV (RM.high h1) (fun hn => absurd ⟨g, hg, rfl⟩ hn) (fun g2_ hg2 ex2 hq2 => ?_) (fun g2_ hg2 ex2 hq2 lv2 _ hlv2 M2 g1 g2 => ?_)⟩
    · have i0 := nI_i ex2 (by omega) (by omega)
      subst i0
      rw [hq] at hq2; cases hq2
    · have i0 := nI_i ex2 (by omega) (by omega)
      subst i0
      rw [← smK_cong (f := dpt ht lv) (g := dpt ht lv2) (fun c hc => by unfold dpt; rw [hlv.one hlv2 hc])]
      exact hQ2 _ (iv VV (h2.low g1) g2) ((g1 2 (by decide)).trans (h1 2 (Or.inl (by decide))))
set_option maxRecDepth 100000 in
set_option maxHeartbeats 4000000 in
theorem p_sunk {E : vE} {l : Launch} {L : Nat} {M : vM} (I : Inv M) {x y v : Int32} : PM E l mX8_sunk 0 [.ref 3, .int x, .int y, .int v, .null, .null, .null, .null] [] (S0 L) M 0 0 (Pst E l L mX9_sunk [.ref 42, .int x, .int y, .int v, .null, .null] M) := by
  obtain ⟨w, h, ht, rk, ns, T, ng, G, Rw, nz, U, O, VV, RC, RM⟩ := I
  have e4 := VV.1.1.le
  have hng := VV.1.2.2.1
  have hns := VV.2.1.1
  have hnz := VV.2.2.1.1
  refine k_sunk VV RC (fun hn => ?_) (fun s c hs hc ex ey hno => ?_) (fun s c n hs hc hn9 ex ey ev => ?_)
  · refine ⟨rfl, rfl, _, rfl, fun Q2 hQ2 => m_sunk VV RM (fun _ => hQ2 _ (iv VV RC RM) rfl) (fun s c hs hc ex ey _ => absurd ⟨⟨s, hs, ex⟩, ⟨c, hc, ey⟩⟩ hn) (fun s c n hs hc hn9 ex ey ev M2 _ _ => absurd ⟨⟨s, hs, ex⟩, ⟨c, hc, ey⟩⟩ hn)⟩
  · subst ex ey
    refine ⟨rfl, rfl, _, rfl, fun Q2 hQ2 => m_sunk VV RM (fun hn => absurd ⟨⟨s, hs, rfl⟩, ⟨c, hc, rfl⟩⟩ hn) (fun s2 c2 hs2 hc2 ex2 ey2 hno2 => hQ2 _ (iv VV RC RM) rfl) (fun s2 c2 n2 hs2 hc2 hn2 ex2 ey2 ev2 M2 _ _ => ?_)⟩
    have i0 := nI_i ex2 (by omega) (by omega)
    subst i0
    have i1 := nI_i ey2 (by omega) (by omega)
    subst i1
    exact absurd ⟨n2, hn2, ev2⟩ hno
  · subst ex ey ev
    have rl := (VV.2.2.2.1 s (by omega)).1.1
    refine ⟨rfl, rfl, _, rfl, fun Q2 hQ2 => m_sunk VV RM (fun hn => absurd ⟨⟨s, hs, rfl⟩, ⟨c, hc, rfl⟩⟩ hn) (fun s2 c2 hs2 hc2 ex2 ey2 hno2 => ?_) (fun s2 c2 n2 hs2 hc2 hn2 ex2 ey2 ev2 M2 g1 g2 => ?_)⟩
    · have i0 := nI_i ex2 (by omega) (by omega)
      subst i0
      have i1 := nI_i ey2 (by omega) (by omega)
      subst i1
      exact absurd ⟨n, hn9, rfl⟩ hno2
    · have i0 := nI_i ex2 (by omega) (by omega)
      subst i0
      have i1 := nI_i ey2 (by omega) (by omega)
      subst i1
      have i2 := nI_i ev2 (by omega) (by omega)
      subst i2
      exact hQ2 _ (iv VV (RC.low g1) g2) (g1 2 (by decide))
set_option maxRecDepth 100000 in
set_option maxHeartbeats 4000000 in
theorem p_over {E : vE} {l : Launch} {L : Nat} {M : vM} (I : Inv M) {x y : Int32} {b : Bool} : PM E l mX8_over 0 [.ref 3, .int x, .int y, .int (bI b), .null] [] (S0 L) M 0 0 (Pst E l L mX9_over [.ref 42, .int x, .int y, .int (bI b), .null] M) := by
  obtain ⟨w, h, ht, rk, ns, T, ng, G, Rw, nz, U, O, VV, RC, RM⟩ := I
  have e4 := VV.1.1.le
  have hng := VV.1.2.2.1
  have hns := VV.2.1.1
  have hnz := VV.2.2.1.1
  refine k_over VV RC (fun hn => ?_) (fun s t hs htt ex ey he => ?_) (fun s t hs htt ex ey he M1 h1 h2 => ?_)
  · refine ⟨rfl, rfl, _, rfl, fun Q2 hQ2 => m_over VV RM (fun _ => hQ2 _ (iv VV RC RM) rfl) (fun s t hs htt ex ey _ => absurd ⟨⟨s, hs, ex⟩, ⟨t, htt, ey⟩⟩ hn) (fun s t hs htt ex ey _ M2 _ _ => absurd ⟨⟨s, hs, ex⟩, ⟨t, htt, ey⟩⟩ hn)⟩
  · subst ex ey
    refine ⟨rfl, rfl, _, rfl, fun Q2 hQ2 => m_over VV RM (fun hn => absurd ⟨⟨s, hs, rfl⟩, ⟨t, htt, rfl⟩⟩ hn) (fun s2 t2 hs2 htt2 ex2 ey2 he2 => hQ2 _ (iv VV RC RM) rfl) (fun s2 t2 hs2 htt2 ex2 ey2 he2 M2 _ _ => ?_)⟩
    have i0 := nI_i ex2 (by omega) (by omega)
    subst i0
    have i1 := nI_i ey2 (by omega) (by omega)
    subst i1
    exact absurd he he2
  · subst ex ey
    refine ⟨rfl, (h1 2 (Or.inl (by decide))), _, rfl, fun Q2 hQ2 => m_over VV (RM.high h1) (fun hn => absurd ⟨⟨s, hs, rfl⟩, ⟨t, htt, rfl⟩⟩ hn) (fun s2 t2 hs2 htt2 ex2 ey2 he2 => ?_) (fun s2 t2 hs2 htt2 ex2 ey2 he2 M2 g1 g2 => ?_)⟩
    · have i0 := nI_i ex2 (by omega) (by omega)
      subst i0
      have i1 := nI_i ey2 (by omega) (by omega)
      subst i1
      exact absurd he2 he
    · have i0 := nI_i ex2 (by omega) (by omega)
      subst i0
      have i1 := nI_i ey2 (by omega) (by omega)
      subst i1
      exact hQ2 _ (iv (v_over VV (by omega) he b) (h2.low g1) g2) ((g1 2 (by decide)).trans (h1 2 (Or.inl (by decide))))
set_option maxRecDepth 100000 in
set_option maxHeartbeats 4000000 in
theorem p_above {E : vE} {l : Launch} {L : Nat} {M : vM} (I : Inv M) {x y : Int32} : PM E l mX8_above 0 [.ref 3, .int x, .int y] [] (S0 L) M 0 0 (Pst E l L mX9_above [.ref 42, .int x, .int y, .null] M) := by
  obtain ⟨w, h, ht, rk, ns, T, ng, G, Rw, nz, U, O, VV, RC, RM⟩ := I
  have e4 := VV.1.1.le
  have hng := VV.1.2.2.1
  have hns := VV.2.1.1
  have hnz := VV.2.2.1.1
  refine k_above VV RC (fun hn => ?_) (fun s t hs htt ex ey => ?_)
  · refine ⟨rfl, rfl, _, rfl, fun Q2 hQ2 => m_above VV RM (fun _ => hQ2 _ (iv VV RC RM) rfl) (fun s t hs htt ex ey M2 _ _ => absurd ⟨⟨s, hs, ex⟩, ⟨t, htt, ey⟩⟩ hn)⟩
  · subst ex ey
    refine ⟨rfl, rfl, _, rfl, fun Q2 hQ2 => m_above VV RM (fun hn => absurd ⟨⟨s, hs, rfl⟩, ⟨t, htt, rfl⟩⟩ hn) (fun s2 t2 hs2 htt2 ex2 ey2 M2 g1 g2 => ?_)⟩
    have i0 := nI_i ex2 (by omega) (by omega)
    subst i0
    have i1 := nI_i ey2 (by omega) (by omega)
    subst i1
    exact hQ2 _ (iv VV (RC.low g1) g2) (g1 2 (by decide))
set_option maxRecDepth 100000 in
set_option maxHeartbeats 4000000 in
theorem p_ring {E : vE} {l : Launch} {L : Nat} {M : vM} (I : Inv M) : PM E l mX8_ring 0 [.ref 3, .null, .null] [] (S0 L) M 0 0 (Pst E l L mX9_ring [.ref 42] M) := by
  obtain ⟨w, h, ht, rk, ns, T, ng, G, Rw, nz, U, O, VV, RC, RM⟩ := I
  have e4 := VV.1.1.le
  have hng := VV.1.2.2.1
  have hns := VV.2.1.1
  have hnz := VV.2.2.1.1
  refine k_ring VV RC ?_
  · refine ⟨rfl, rfl, _, rfl, fun Q2 hQ2 => m_ring VV RM (fun M2 g1 g2 => ?_)⟩
    exact hQ2 _ (iv VV (RC.low g1) g2) (g1 2 (by decide))
set_option maxRecDepth 100000 in
set_option maxHeartbeats 4000000 in
theorem p_drops {E : vE} {l : Launch} {L : Nat} {M : vM} (I : Inv M) : PM E l mX8_drops 0 [.ref 3] [] (S0 L) M 0 0 (Pst E l L mX9_drops [.ref 42] M) := by
  obtain ⟨w, h, ht, rk, ns, T, ng, G, Rw, nz, U, O, VV, RC, RM⟩ := I
  have e4 := VV.1.1.le
  have hng := VV.1.2.2.1
  have hns := VV.2.1.1
  have hnz := VV.2.2.1.1
  refine k_drops VV RC (fun M1 h1 h2 => ?_)
  · refine ⟨rfl, (h1 2 (Or.inl (by decide))), _, rfl, fun Q2 hQ2 => m_drops VV (RM.high h1) (fun M2 g1 g2 => ?_)⟩
    exact hQ2 _ (iv VV (h2.low g1) g2) ((g1 2 (by decide)).trans (h1 2 (Or.inl (by decide))))
set_option maxRecDepth 100000 in
set_option maxHeartbeats 4000000 in
theorem p_drop {E : vE} {l : Launch} {L : Nat} {M : vM} (I : Inv M) {x : Int32} : PM E l mX8_drop 0 [.ref 3, .int x, .null, .null, .null] [] (S0 L) M 0 0 (Pst E l L mX9_drop [.ref 42, .int x, .null, .null, .null] M) := by
  obtain ⟨w, h, ht, rk, ns, T, ng, G, Rw, nz, U, O, VV, RC, RM⟩ := I
  have e4 := VV.1.1.le
  have hng := VV.1.2.2.1
  have hns := VV.2.1.1
  have hnz := VV.2.2.1.1
  refine k_drop VV RC (fun M1 h1 h2 => ?_)
  · refine ⟨rfl, (h1 2 (Or.inl (by decide))), _, rfl, fun Q2 hQ2 => m_drop VV (RM.high h1) (fun M2 g1 g2 => ?_)⟩
    exact hQ2 _ (iv VV (h2.low g1) g2) ((g1 2 (by decide)).trans (h1 2 (Or.inl (by decide))))
set_option maxRecDepth 100000 in
set_option maxHeartbeats 4000000 in
theorem p_count {E : vE} {l : Launch} {L : Nat} {M : vM} (I : Inv M) {x : Int32} : PM E l mX8_count 0 [.ref 3, .int x] [] (S0 L) M 0 0 (Pst E l L mX9_count [.ref 42, .int x, .null, .null] M) := by
  obtain ⟨w, h, ht, rk, ns, T, ng, G, Rw, nz, U, O, VV, RC, RM⟩ := I
  have e4 := VV.1.1.le
  have hng := VV.1.2.2.1
  have hns := VV.2.1.1
  have hnz := VV.2.2.1.1
  refine k_count VV RC (fun hno => ?_) (fun k hk ex => ?_)
  · refine ⟨rfl, rfl, _, rfl, fun Q2 hQ2 => m_count VV RM (fun _ => hQ2 _ (iv VV RC RM) rfl) (fun k hk ex => absurd ⟨k, ⟨Nat.zero_le _, hk⟩, ex⟩ hno)⟩
  · subst ex
    refine ⟨rfl, rfl, _, rfl, fun Q2 hQ2 => m_count VV RM (fun hno => absurd ⟨k, ⟨Nat.zero_le _, hk⟩, rfl⟩ hno) (fun k2 hk2 ex2 => ?_)⟩
    have i0 := nI_i ex2 (by omega) (by omega)
    subst i0
    exact hQ2 _ (iv VV RC RM) rfl

set_option maxRecDepth 100000 in
set_option maxHeartbeats 4000000 in
theorem p_land {E : vE} {l : Launch} {L : Nat} {M : vM} (I : Inv M) {x y : Int32} : PM E l mX8_land 0 [.ref 3, .int x, .int y] [] (S0 L) M 0 0 (Pst E l L mX9_land [.ref 42, .int x, .int y] M) := by
  obtain ⟨w, h, ht, rk, ns, T, ng, G, Rw, nz, U, O, VV, RC, RM⟩ := I
  have e4 := VV.1.1.le
  have hng := VV.1.2.2.1
  have hns := VV.2.1.1
  have hnz := VV.2.2.1.1
  refine k_land VV RC (fun hn => ?_) (fun j k hj hk ex ey M1 h1 h2 => ?_)
  · refine ⟨rfl, rfl, _, rfl, fun Q2 hQ2 => m_land VV RM (fun _ => hQ2 _ (iv VV RC RM) rfl) (fun j k hj hk ex ey M2 _ _ => absurd ⟨⟨j, hj, ex⟩, ⟨k, hk, ey⟩⟩ hn)⟩
  · subst ex ey
    refine ⟨rfl, (h1 2 (Or.inl (by decide))), _, rfl, fun Q2 hQ2 => m_land VV (RM.high h1) (fun hn => absurd ⟨⟨j, hj, rfl⟩, ⟨k, hk, rfl⟩⟩ hn) (fun j2 k2 hj2 hk2 ex2 ey2 M2 g1 g2 => ?_)⟩
    have i0 := nI_i ex2 (by omega) (by omega)
    subst i0
    have i1 := nI_i ey2 (by omega) (by omega)
    subst i1
    exact hQ2 _ (iv (v_land VV hj hk) (h2.low g1) g2) ((g1 2 (by decide)).trans (h1 2 (Or.inl (by decide))))
set_option maxRecDepth 100000 in
set_option maxHeartbeats 4000000 in
theorem p_cell {E : vE} {l : Launch} {L : Nat} {M : vM} (I : Inv M) {x y v : Int32} : PM E l mX8_cell 0 [.ref 3, .int x, .int y, .int v, .null, .null] [] (S0 L) M 0 0 (Pst E l L mX9_cell [.ref 42, .int x, .int y, .int v, .null] M) := by
  obtain ⟨w, h, ht, rk, ns, T, ng, G, Rw, nz, U, O, VV, RC, RM⟩ := I
  have e4 := VV.1.1.le
  have hng := VV.1.2.2.1
  have hns := VV.2.1.1
  have hnz := VV.2.2.1.1
  refine k_cell VV RC (fun hn => ?_) (fun hi hno => ?_) (fun j k hj hk ex ey ev M1 h1 h2 => ?_) (fun j k hj hk ex ey ev M1 h1 h2 => ?_)
  · refine ⟨rfl, rfl, _, rfl, fun Q2 hQ2 => m_cell VV RM (fun _ => hQ2 _ (iv VV RC RM) rfl) (fun hi _ => absurd hi hn) (fun j k hj hk ex ey ev M2 _ _ => absurd ⟨j, hj, ex⟩ hn) (fun j k hj hk ex ey ev M2 _ _ => absurd ⟨j, hj, ex⟩ hn)⟩
  · refine ⟨rfl, rfl, _, rfl, fun Q2 hQ2 => m_cell VV RM (fun hn => absurd hi hn) (fun _ _ => hQ2 _ (iv VV RC RM) rfl) (fun j k hj hk ex ey ev M2 _ _ => absurd (Or.inl ⟨ey, k, ⟨Nat.zero_le _, hk⟩, ev⟩) hno) (fun j k hj hk ex ey ev M2 _ _ => absurd (Or.inr ⟨ey, k, ⟨Nat.zero_le _, hk⟩, ev⟩) hno)⟩
  · subst ex ey ev
    refine ⟨rfl, (h1 2 (Or.inl (by decide))), _, rfl, fun Q2 hQ2 => m_cell VV (RM.high h1) (fun hn => absurd ⟨j, hj, rfl⟩ hn) (fun _ hno => absurd (Or.inl ⟨rfl, k, ⟨Nat.zero_le _, hk⟩, rfl⟩) hno) (fun j2 k2 hj2 hk2 ex2 ey2 ev2 M2 g1 g2 => ?_) (fun j2 k2 hj2 hk2 ex2 ey2 ev2 M2 g1 g2 => absurd ey2 (by decide))⟩
    have i0 := nI_i ex2 (by omega) (by omega)
    subst i0
    have i1 := nI_i ev2 (by omega) (by omega)
    subst i1
    exact hQ2 _ (iv (v_ht VV hk) (h2.low g1) g2) ((g1 2 (by decide)).trans (h1 2 (Or.inl (by decide))))
  · subst ex ey ev
    refine ⟨rfl, (h1 2 (Or.inl (by decide))), _, rfl, fun Q2 hQ2 => m_cell VV (RM.high h1) (fun hn => absurd ⟨j, hj, rfl⟩ hn) (fun _ hno => absurd (Or.inr ⟨rfl, k, ⟨Nat.zero_le _, hk⟩, rfl⟩) hno) (fun j2 k2 hj2 hk2 ex2 ey2 ev2 M2 g1 g2 => absurd ey2 (by decide)) (fun j2 k2 hj2 hk2 ex2 ey2 ev2 M2 g1 g2 => ?_)⟩
    have i0 := nI_i ex2 (by omega) (by omega)
    subst i0
    have i1 := nI_i ev2 (by omega) (by omega)
    subst i1
    exact hQ2 _ (iv (v_rk VV hk) (h2.low g1) g2) ((g1 2 (by decide)).trans (h1 2 (Or.inl (by decide))))
set_option maxRecDepth 100000 in
set_option maxHeartbeats 4000000 in
theorem p_stone {E : vE} {l : Launch} {L : Nat} {M : vM} (I : Inv M) {x y v : Int32} : PM E l mX8_stone 0 [.ref 3, .int x, .int y, .int v] [] (S0 L) M 0 0 (Pst E l L mX9_stone [.ref 42, .int x, .int y, .int v] M) := by
  obtain ⟨w, h, ht, rk, ns, T, ng, G, Rw, nz, U, O, VV, RC, RM⟩ := I
  have e4 := VV.1.1.le
  have hng := VV.1.2.2.1
  have hns := VV.2.1.1
  have hnz := VV.2.2.1.1
  refine k_stone VV RC (fun hn => ?_) (fun hi hno => ?_) (fun j k t hj hk htt ex ey ev en => ?_) (fun j k t hj hk htt ex ey ev en M1 h1 h2 => ?_)
  · refine ⟨rfl, rfl, _, rfl, fun Q2 hQ2 => m_stone VV RM (fun _ => hQ2 _ (iv VV RC RM) rfl) (fun hi _ => absurd hi hn) (fun j k t hj hk htt ex ey ev en => absurd ⟨j, hj, ex⟩ hn) (fun j k t hj hk htt ex ey ev en M2 _ _ => absurd ⟨j, hj, ex⟩ hn)⟩
  · refine ⟨rfl, rfl, _, rfl, fun Q2 hQ2 => m_stone VV RM (fun hn => absurd hi hn) (fun _ _ => hQ2 _ (iv VV RC RM) rfl) (fun j k t hj hk htt ex ey ev en => absurd ⟨⟨k, ⟨Nat.zero_le _, hk⟩, ey⟩, ⟨t, htt, ev⟩⟩ hno) (fun j k t hj hk htt ex ey ev en M2 _ _ => absurd ⟨⟨k, ⟨Nat.zero_le _, hk⟩, ey⟩, ⟨t, htt, ev⟩⟩ hno)⟩
  · subst ex ey ev
    refine ⟨rfl, rfl, _, rfl, fun Q2 hQ2 => m_stone VV RM (fun hn => absurd ⟨j, hj, rfl⟩ hn) (fun _ hno => absurd ⟨⟨k, ⟨Nat.zero_le _, hk⟩, rfl⟩, ⟨t, htt, rfl⟩⟩ hno) (fun j2 k2 t2 hj2 hk2 htt2 ex2 ey2 ev2 en2 => hQ2 _ (iv VV RC RM) rfl) (fun j2 k2 t2 hj2 hk2 htt2 ex2 ey2 ev2 en2 M2 _ _ => absurd en2 (by omega))⟩
  · subst ex ey ev
    refine ⟨rfl, (h1 2 (Or.inl (by decide))), _, rfl, fun Q2 hQ2 => m_stone VV (RM.high h1) (fun hn => absurd ⟨j, hj, rfl⟩ hn) (fun _ hno => absurd ⟨⟨k, ⟨Nat.zero_le _, hk⟩, rfl⟩, ⟨t, htt, rfl⟩⟩ hno) (fun j2 k2 t2 hj2 hk2 htt2 ex2 ey2 ev2 en2 => absurd en2 (by omega)) (fun j2 k2 t2 hj2 hk2 htt2 ex2 ey2 ev2 en2 M2 g1 g2 => ?_)⟩
    have i0 := nI_i ex2 (by omega) (by omega)
    subst i0
    have i1 := nI_i ey2 (by omega) (by omega)
    subst i1
    have i2 := nI_i ev2 (by omega) (by omega)
    subst i2
    exact hQ2 _ (iv (v_stone VV hj hk htt en) (h2.low g1) g2) ((g1 2 (by decide)).trans (h1 2 (Or.inl (by decide))))
set_option maxRecDepth 100000 in
set_option maxHeartbeats 4000000 in
theorem p_dug {E : vE} {l : Launch} {L : Nat} {M : vM} (I : Inv M) {x y : Int32} : PM E l mX8_dug 0 [.ref 3, .int x, .int y, .null] [] (S0 L) M 0 0 (Pst E l L mX9_dug [.ref 42, .int x, .int y, .null] M) := by
  obtain ⟨w, h, ht, rk, ns, T, ng, G, Rw, nz, U, O, VV, RC, RM⟩ := I
  have e4 := VV.1.1.le
  have hng := VV.1.2.2.1
  have hns := VV.2.1.1
  have hnz := VV.2.2.1.1
  refine k_dug VV RC (fun hn => ?_) (fun t j htt hj ex ey M1 h1 h2 => ?_)
  · refine ⟨rfl, rfl, _, rfl, fun Q2 hQ2 => m_dug VV RM (fun _ => hQ2 _ (iv VV RC RM) rfl) (fun t j htt hj ex ey M2 _ _ => absurd ⟨⟨t, htt, ex⟩, ⟨j, hj, ey⟩⟩ hn)⟩
  · subst ex ey
    refine ⟨rfl, (h1 2 (Or.inl (by decide))), _, rfl, fun Q2 hQ2 => m_dug VV (RM.high h1) (fun hn => absurd ⟨⟨t, htt, rfl⟩, ⟨j, hj, rfl⟩⟩ hn) (fun t2 j2 htt2 hj2 ex2 ey2 M2 g1 g2 => ?_)⟩
    have i0 := nI_i ex2 (by omega) (by omega)
    subst i0
    have i1 := nI_i ey2 (by omega) (by omega)
    subst i1
    exact hQ2 _ (iv (v_dug VV htt hj) (h2.low g1) g2) ((g1 2 (by decide)).trans (h1 2 (Or.inl (by decide))))
set_option maxRecDepth 100000 in
set_option maxHeartbeats 4000000 in
theorem p_ice {E : vE} {l : Launch} {L : Nat} {M : vM} (I : Inv M) {x y v u : Int32} : PM E l mX8_ice 0 [.ref 3, .int x, .int y, .int v, .int u] [] (S0 L) M 0 0 (Pst E l L mX9_ice [.ref 42, .int x, .int y, .int v, .int u] M) := by
  obtain ⟨w, h, ht, rk, ns, T, ng, G, Rw, nz, U, O, VV, RC, RM⟩ := I
  have e4 := VV.1.1.le
  have hng := VV.1.2.2.1
  have hns := VV.2.1.1
  have hnz := VV.2.2.1.1
  refine k_ice VV RC (fun hn => ?_) (fun hi hno => ?_) (fun j t f n hj htt hff hn9 ex ey ev eu en M1 h1 h2 => ?_) (fun j t f n hj htt hff hn9 ex ey ev eu en M1 h1 h2 => ?_)
  · refine ⟨rfl, rfl, _, rfl, fun Q2 hQ2 => m_ice VV RM (fun _ => hQ2 _ (iv VV RC RM) rfl) (fun hi _ => absurd hi hn) (fun j t f n hj htt hff hn9 ex ey ev eu en => absurd ⟨j, hj, ex⟩ hn) (fun j t f n hj htt hff hn9 ex ey ev eu en M2 _ _ => absurd ⟨j, hj, ex⟩ hn)⟩
  · refine ⟨rfl, rfl, _, rfl, fun Q2 hQ2 => m_ice VV RM (fun hn => absurd hi hn) (fun _ _ => hQ2 _ (iv VV RC RM) rfl) (fun j t f n hj htt hff hn9 ex ey ev eu en => absurd ⟨⟨t, htt, ey⟩, ⟨f, hff, ev⟩, ⟨n, hn9, eu⟩⟩ hno) (fun j t f n hj htt hff hn9 ex ey ev eu en M2 _ _ => absurd ⟨⟨t, htt, ey⟩, ⟨f, hff, ev⟩, ⟨n, hn9, eu⟩⟩ hno)⟩
  · subst ex ey ev eu
    refine ⟨rfl, (h1 2 (Or.inl (by decide))), _, rfl, fun Q2 hQ2 => m_ice VV (RM.high h1) (fun hn => absurd ⟨j, hj, rfl⟩ hn) (fun _ hno => absurd ⟨⟨t, htt, rfl⟩, ⟨f, hff, rfl⟩, ⟨n, hn9, rfl⟩⟩ hno) (fun j2 t2 f2 n2 hj2 htt2 hff2 hn92 ex2 ey2 ev2 eu2 en2 => hQ2 _ (iv VV h2 (RM.high h1)) (h1 2 (Or.inl (by decide)))) (fun j2 t2 f2 n2 hj2 htt2 hff2 hn92 ex2 ey2 ev2 eu2 en2 M2 _ _ => absurd en2 (by omega))⟩
  · subst ex ey ev eu
    refine ⟨rfl, (h1 2 (Or.inl (by decide))), _, rfl, fun Q2 hQ2 => m_ice VV (RM.high h1) (fun hn => absurd ⟨j, hj, rfl⟩ hn) (fun _ hno => absurd ⟨⟨t, htt, rfl⟩, ⟨f, hff, rfl⟩, ⟨n, hn9, rfl⟩⟩ hno) (fun j2 t2 f2 n2 hj2 htt2 hff2 hn92 ex2 ey2 ev2 eu2 en2 => absurd en2 (by omega)) (fun j2 t2 f2 n2 hj2 htt2 hff2 hn92 ex2 ey2 ev2 eu2 en2 M2 g1 g2 => ?_)⟩
    have i0 := nI_i ex2 (by omega) (by omega)
    subst i0
    have i1 := nI_i ey2 (by omega) (by omega)
    subst i1
    have i2 := nI_i ev2 (by omega) (by omega)
    subst i2
    have i3 := nI_i eu2 (by omega) (by omega)
    subst i3
    exact hQ2 _ (iv (v_go (q := (true, j, t, f, n)) VV en ⟨htt, fun _ => ⟨hj, hff.2, hn9.2⟩⟩) (h2.low g1) g2) ((g1 2 (by decide)).trans (h1 2 (Or.inl (by decide))))
set_option maxRecDepth 100000 in
set_option maxHeartbeats 4000000 in
theorem p_flood {E : vE} {l : Launch} {L : Nat} {M : vM} (I : Inv M) {x : Int32} : PM E l mX8_flood 0 [.ref 3, .int x] [] (S0 L) M 0 0 (Pst E l L mX9_flood [.ref 42, .int x] M) := by
  obtain ⟨w, h, ht, rk, ns, T, ng, G, Rw, nz, U, O, VV, RC, RM⟩ := I
  have e4 := VV.1.1.le
  have hng := VV.1.2.2.1
  have hns := VV.2.1.1
  have hnz := VV.2.2.1.1
  refine k_flood VV RC (fun hno => ?_) (fun t htt ex en M1 h1 h2 => ?_) (fun t htt ex en M1 h1 h2 => ?_)
  · refine ⟨rfl, rfl, _, rfl, fun Q2 hQ2 => m_flood VV RM (fun _ => hQ2 _ (iv VV RC RM) rfl) (fun t htt ex _ => absurd ⟨t, htt, ex⟩ hno) (fun t htt ex _ M2 _ _ => absurd ⟨t, htt, ex⟩ hno)⟩
  · subst ex
    refine ⟨rfl, (h1 2 (Or.inl (by decide))), _, rfl, fun Q2 hQ2 => m_flood VV (RM.high h1) (fun hno => absurd ⟨t, htt, rfl⟩ hno) (fun t2 htt2 ex2 en2 => hQ2 _ (iv VV h2 (RM.high h1)) (h1 2 (Or.inl (by decide)))) (fun t2 htt2 ex2 en2 M2 _ _ => absurd en2 (by omega))⟩
  · subst ex
    refine ⟨rfl, (h1 2 (Or.inl (by decide))), _, rfl, fun Q2 hQ2 => m_flood VV (RM.high h1) (fun hno => absurd ⟨t, htt, rfl⟩ hno) (fun t2 htt2 ex2 en2 => absurd en2 (by omega)) (fun t2 htt2 ex2 en2 M2 g1 g2 => ?_)⟩
    have i0 := nI_i ex2 (by omega) (by omega)
    subst i0
    exact hQ2 _ (iv (v_go (q := (false, 0, t, 0, 0)) VV en ⟨⟨htt.1, Nat.le_trans htt.2 (by decide)⟩, fun z => by cases z⟩) (h2.low g1) g2) ((g1 2 (by decide)).trans (h1 2 (Or.inl (by decide))))
set_option maxRecDepth 100000 in
set_option maxHeartbeats 4000000 in
theorem p_covers {E : vE} {l : Launch} {L : Nat} {M : vM} (I : Inv M) {x : Int32} : PM E l mX8_covers 0 [.ref 3, .int x] [] (S0 L) M 0 0 (Pst E l L mX9_covers [.ref 42, .int x, .null, .null] M) := by
  obtain ⟨w, h, ht, rk, ns, T, ng, G, Rw, nz, U, O, VV, RC, RM⟩ := I
  have e4 := VV.1.1.le
  have hng := VV.1.2.2.1
  have hns := VV.2.1.1
  have hnz := VV.2.2.1.1
  refine k_covers VV RC (fun hn => ?_) (fun g hg ex => ?_)
  · refine ⟨rfl, rfl, _, rfl, fun Q2 hQ2 => m_covers VV RM (fun _ => hQ2 _ (iv VV RC RM) rfl) (fun g hg ex M2 _ _ => absurd ⟨g, hg, ex⟩ hn)⟩
  · subst ex
    refine ⟨rfl, rfl, _, rfl, fun Q2 hQ2 => m_covers VV RM (fun hn => absurd ⟨g, hg, rfl⟩ hn) (fun g2_ hg2 ex2 M2 g1 g2 => ?_)⟩
    have i0 := nI_i ex2 (by omega) (by omega)
    subst i0
    exact hQ2 _ (iv VV (RC.low g1) g2) (g1 2 (by decide))
set_option maxRecDepth 100000 in
set_option maxHeartbeats 4000000 in
theorem p_by {E : vE} {l : Launch} {L : Nat} {M : vM} (I : Inv M) {x y v : Int32} : PM E l mX8_by 0 [.ref 3, .int x, .int y, .int v] [] (S0 L) M 0 0 (Pst E l L mX9_by [.ref 42, .int x, .int y, .int v, .null] M) := by
  obtain ⟨w, h, ht, rk, ns, T, ng, G, Rw, nz, U, O, VV, RC, RM⟩ := I
  have e4 := VV.1.1.le
  have hng := VV.1.2.2.1
  have hns := VV.2.1.1
  have hnz := VV.2.2.1.1
  refine k_by VV RC (fun hn => ?_) (fun g c hg hc ex ey hv => ?_) (fun g c hg hc ex ey k hk ev => ?_)
  · refine ⟨rfl, rfl, _, rfl, fun Q2 hQ2 => m_by VV RM (fun _ => hQ2 _ (iv VV RC RM) rfl) (fun g c hg hc ex ey _ M2 _ _ => absurd ⟨⟨g, hg, ex⟩, ⟨c, hc, ey⟩⟩ hn) (fun g c hg hc ex ey k hk ev M2 _ _ => absurd ⟨⟨g, hg, ex⟩, ⟨c, hc, ey⟩⟩ hn)⟩
  · subst ex ey
    refine ⟨rfl, rfl, _, rfl, fun Q2 hQ2 => m_by VV RM (fun hn => absurd ⟨⟨g, hg, rfl⟩, ⟨c, hc, rfl⟩⟩ hn) (fun g2_ c2 hg2 hc2 ex2 ey2 hv2 M2 g1 g2 => hQ2 _ (iv VV (RC.low g1) g2) (g1 2 (by decide))) (fun g2_ c2 hg2 hc2 ex2 ey2 k hk ev M2 _ _ => absurd ⟨k, ⟨Nat.zero_le _, hk⟩, ev⟩ hv)⟩
  · subst ex ey ev
    refine ⟨rfl, rfl, _, rfl, fun Q2 hQ2 => m_by VV RM (fun hn => absurd ⟨⟨g, hg, rfl⟩, ⟨c, hc, rfl⟩⟩ hn) (fun g2_ c2 hg2 hc2 ex2 ey2 hv2 M2 _ _ => absurd ⟨k, ⟨Nat.zero_le _, hk⟩, rfl⟩ hv2) (fun g2_ c2 hg2 hc2 ex2 ey2 k2 hk2 ev2 M2 g1 g2 => ?_)⟩
    have i0 := nI_i ex2 (by omega) (by omega)
    subst i0
    have i1 := nI_i ey2 (by omega) (by omega)
    subst i1
    have i2 := nI_i ev2 (by omega) (by omega)
    subst i2
    exact hQ2 _ (iv VV (RC.low g1) g2) (g1 2 (by decide))
set_option maxRecDepth 100000 in
set_option maxHeartbeats 4000000 in
theorem p_brings {E : vE} {l : Launch} {L : Nat} {M : vM} (I : Inv M) {x y v : Int32} : PM E l mX8_brings 0 [.ref 3, .int x, .int y, .int v] [] (S0 L) M 0 0 (Pst E l L mX9_brings [.ref 42, .int x, .int y, .int v] M) := by
  obtain ⟨w, h, ht, rk, ns, T, ng, G, Rw, nz, U, O, VV, RC, RM⟩ := I
  have e4 := VV.1.1.le
  have hng := VV.1.2.2.1
  have hns := VV.2.1.1
  have hnz := VV.2.2.1.1
  refine k_brings VV RC (fun hn => ?_) (fun hx hy hno => ?_) (fun g c t hg hc htt ex ey ev => ?_)
  · refine ⟨rfl, rfl, _, rfl, fun Q2 hQ2 => m_brings VV RM (fun _ => hQ2 _ (iv VV RC RM) rfl) (fun hx hy _ => absurd ⟨hx, hy⟩ hn) (fun g c t hg hc htt ex ey ev M2 _ _ => absurd ⟨⟨g, hg, ex⟩, ⟨c, hc, ey⟩⟩ hn)⟩
  · refine ⟨rfl, rfl, _, rfl, fun Q2 hQ2 => m_brings VV RM (fun hn => absurd ⟨hx, hy⟩ hn) (fun _ _ _ => hQ2 _ (iv VV RC RM) rfl) (fun g c t hg hc htt ex ey ev M2 _ _ => absurd ⟨t, htt, ev⟩ hno)⟩
  · subst ex ey ev
    refine ⟨rfl, rfl, _, rfl, fun Q2 hQ2 => m_brings VV RM (fun hn => absurd ⟨⟨g, hg, rfl⟩, ⟨c, hc, rfl⟩⟩ hn) (fun _ _ hno => absurd ⟨t, htt, rfl⟩ hno) (fun g2_ c2 t2 hg2 hc2 htt2 ex2 ey2 ev2 M2 g1 g2 => ?_)⟩
    have i0 := nI_i ex2 (by omega) (by omega)
    subst i0
    have i1 := nI_i ey2 (by omega) (by omega)
    subst i1
    have i2 := nI_i ev2 (by omega) (by omega)
    subst i2
    exact hQ2 _ (iv VV (RC.low g1) g2) (g1 2 (by decide))
set_option maxRecDepth 100000 in
set_option maxHeartbeats 4000000 in
theorem p_then {E : vE} {l : Launch} {L : Nat} {M : vM} (I : Inv M) {x y : Int32} : PM E l mX8_then 0 [.ref 3, .int x, .int y, .null] [] (S0 L) M 0 0 (Pst E l L mX9_then [.ref 42, .int x, .int y, .null] M) := by
  obtain ⟨w, h, ht, rk, ns, T, ng, G, Rw, nz, U, O, VV, RC, RM⟩ := I
  have e4 := VV.1.1.le
  have hng := VV.1.2.2.1
  have hns := VV.2.1.1
  have hnz := VV.2.2.1.1
  refine k_then VV RC (fun hn => ?_) (fun s g hs hg ex ey hi => ?_) (fun s g hs hg ex ey hi hl M1 h1 h2 => ?_)
  · refine ⟨rfl, rfl, _, rfl, fun Q2 hQ2 => m_then VV RM (fun _ => hQ2 _ (iv VV RC RM) rfl) (fun s g hs hg ex ey _ => absurd ⟨⟨s, hs, ex⟩, ⟨g, hg, ey⟩⟩ hn) (fun s g hs hg ex ey _ _ M2 _ _ => absurd ⟨⟨s, hs, ex⟩, ⟨g, hg, ey⟩⟩ hn)⟩
  · subst ex ey
    refine ⟨rfl, rfl, _, rfl, fun Q2 hQ2 => m_then VV RM (fun hn => absurd ⟨⟨s, hs, rfl⟩, ⟨g, hg, rfl⟩⟩ hn) (fun s2 g2_ hs2 hg2 ex2 ey2 hi2 => hQ2 _ (iv VV RC RM) rfl) (fun s2 g2_ hs2 hg2 ex2 ey2 hi2 _ M2 _ _ => ?_)⟩
    have i0 := nI_i ex2 (by omega) (by omega)
    subst i0
    have i1 := nI_i ey2 (by omega) (by omega)
    subst i1
    exact absurd hi hi2
  · subst ex ey
    refine ⟨rfl, (h1 2 (Or.inl (by decide))), _, rfl, fun Q2 hQ2 => m_then VV (RM.high h1) (fun hn => absurd ⟨⟨s, hs, rfl⟩, ⟨g, hg, rfl⟩⟩ hn) (fun s2 g2_ hs2 hg2 ex2 ey2 hi2 => ?_) (fun s2 g2_ hs2 hg2 ex2 ey2 hi2 _ M2 g1 g2 => ?_)⟩
    · have i0 := nI_i ex2 (by omega) (by omega)
      subst i0
      have i1 := nI_i ey2 (by omega) (by omega)
      subst i1
      exact absurd hi2 hi
    · have i0 := nI_i ex2 (by omega) (by omega)
      subst i0
      have i1 := nI_i ey2 (by omega) (by omega)
      subst i1
      exact hQ2 _ (iv (v_add VV (by omega) hg hi hl) (h2.low g1) g2) ((g1 2 (by decide)).trans (h1 2 (Or.inl (by decide))))
set_option maxRecDepth 100000 in
set_option maxHeartbeats 4000000 in
theorem p_clear {E : vE} {l : Launch} {L : Nat} {M : vM} (I : Inv M) {x : Int32} : PM E l mX8_clear 0 [.ref 3, .int x, .null, .null] [] (S0 L) M 0 0 (Pst E l L mX9_clear [.ref 42, .int x, .null] M) := by
  obtain ⟨w, h, ht, rk, ns, T, ng, G, Rw, nz, U, O, VV, RC, RM⟩ := I
  have e4 := VV.1.1.le
  have hng := VV.1.2.2.1
  have hns := VV.2.1.1
  have hnz := VV.2.2.1.1
  refine k_clear VV RC (fun hn => ?_) (fun s hs ex M1 h1 h2 => ?_)
  · refine ⟨rfl, rfl, _, rfl, fun Q2 hQ2 => m_clear VV RM (fun _ => hQ2 _ (iv VV RC RM) rfl) (fun s hs ex M2 _ _ => absurd ⟨s, hs, ex⟩ hn)⟩
  · subst ex
    refine ⟨rfl, (h1 2 (Or.inl (by decide))), _, rfl, fun Q2 hQ2 => m_clear VV (RM.high h1) (fun hn => absurd ⟨s, hs, rfl⟩ hn) (fun s2 hs2 ex2 M2 g1 g2 => ?_)⟩
    have i0 := nI_i ex2 (by omega) (by omega)
    subst i0
    exact hQ2 _ (iv (v_clear VV) (h2.low g1) g2) ((g1 2 (by decide)).trans (h1 2 (Or.inl (by decide))))
set_option maxRecDepth 100000 in
set_option maxHeartbeats 4000000 in
theorem p_told {E : vE} {l : Launch} {L : Nat} {M : vM} (I : Inv M) {x y : Int32} : PM E l mX8_told 0 [.ref 3, .int x, .int y] [] (S0 L) M 0 0 (Pst E l L mX9_told [.ref 42, .int x, .int y] M) := by
  obtain ⟨w, h, ht, rk, ns, T, ng, G, Rw, nz, U, O, VV, RC, RM⟩ := I
  have e4 := VV.1.1.le
  have hng := VV.1.2.2.1
  have hns := VV.2.1.1
  have hnz := VV.2.2.1.1
  refine k_told VV RC (fun hn => ?_) (fun s hs ex hno => ?_) (fun s j hs hj ex ey => ?_)
  · refine ⟨rfl, rfl, _, rfl, fun Q2 hQ2 => m_told VV RM (fun _ => hQ2 _ (iv VV RC RM) rfl) (fun s hs ex _ => absurd ⟨s, hs, ex⟩ hn) (fun s j hs hj ex ey => absurd ⟨s, hs, ex⟩ hn)⟩
  · subst ex
    refine ⟨rfl, rfl, _, rfl, fun Q2 hQ2 => m_told VV RM (fun hn => absurd ⟨s, hs, rfl⟩ hn) (fun s2 hs2 ex2 hno2 => hQ2 _ (iv VV RC RM) rfl) (fun s2 j hs2 hj ex2 ey => ?_)⟩
    have i0 := nI_i ex2 (by omega) (by omega)
    subst i0
    exact absurd ⟨j, hj, ey⟩ hno
  · subst ex ey
    have rl := (VV.2.2.2.1 s (by omega)).1.1
    refine ⟨rfl, rfl, _, rfl, fun Q2 hQ2 => m_told VV RM (fun hn => absurd ⟨s, hs, rfl⟩ hn) (fun s2 hs2 ex2 hno2 => ?_) (fun s2 j2 hs2 hj2 ex2 ey2 => ?_)⟩
    · have i0 := nI_i ex2 (by omega) (by omega)
      subst i0
      exact absurd ⟨j, hj, rfl⟩ hno2
    · have i0 := nI_i ex2 (by omega) (by omega)
      subst i0
      have i1 := nI_i ey2 (by omega) (by omega)
      subst i1
      exact hQ2 _ (iv VV RC RM) rfl
set_option maxRecDepth 100000 in
set_option maxHeartbeats 4000000 in
theorem p_ends {E : vE} {l : Launch} {L : Nat} {M : vM} (I : Inv M) {x y v : Int32} : PM E l mX8_ends 0 [.ref 3, .int x, .int y, .int v] [] (S0 L) M 0 0 (Pst E l L mX9_ends [.ref 42, .int x, .int y, .int v] M) := by
  obtain ⟨w, h, ht, rk, ns, T, ng, G, Rw, nz, U, O, VV, RC, RM⟩ := I
  have e4 := VV.1.1.le
  have hng := VV.1.2.2.1
  have hns := VV.2.1.1
  have hnz := VV.2.2.1.1
  refine k_ends VV RC (fun hn => ?_) (fun hx hy hno => ?_) (fun s c t hs hc htt ex ey ev => ?_)
  · refine ⟨rfl, rfl, _, rfl, fun Q2 hQ2 => m_ends VV RM (fun _ => hQ2 _ (iv VV RC RM) rfl) (fun hx hy _ => absurd ⟨hx, hy⟩ hn) (fun s c t hs hc htt ex ey ev M2 _ _ => absurd ⟨⟨s, hs, ex⟩, ⟨c, hc, ey⟩⟩ hn)⟩
  · refine ⟨rfl, rfl, _, rfl, fun Q2 hQ2 => m_ends VV RM (fun hn => absurd ⟨hx, hy⟩ hn) (fun _ _ _ => hQ2 _ (iv VV RC RM) rfl) (fun s c t hs hc htt ex ey ev M2 _ _ => absurd ⟨t, htt, ev⟩ hno)⟩
  · subst ex ey ev
    refine ⟨rfl, rfl, _, rfl, fun Q2 hQ2 => m_ends VV RM (fun hn => absurd ⟨⟨s, hs, rfl⟩, ⟨c, hc, rfl⟩⟩ hn) (fun _ _ hno => absurd ⟨t, htt, rfl⟩ hno) (fun s2 c2 t2 hs2 hc2 htt2 ex2 ey2 ev2 M2 g1 g2 => ?_)⟩
    have i0 := nI_i ex2 (by omega) (by omega)
    subst i0
    have i1 := nI_i ey2 (by omega) (by omega)
    subst i1
    have i2 := nI_i ev2 (by omega) (by omega)
    subst i2
    exact hQ2 _ (iv VV (RC.low g1) g2) (g1 2 (by decide))
set_option maxRecDepth 100000 in
set_option maxHeartbeats 4000000 in
theorem p_whence {E : vE} {l : Launch} {L : Nat} {M : vM} (I : Inv M) {x y : Int32} : PM E l mX8_whence 0 [.ref 3, .int x, .int y, .null, .null, .null] [] (S0 L) M 0 0 (Pst E l L mX9_whence [.ref 42, .int x, .int y] M) := by
  obtain ⟨w, h, ht, rk, ns, T, ng, G, Rw, nz, U, O, VV, RC, RM⟩ := I
  have e4 := VV.1.1.le
  have hng := VV.1.2.2.1
  have hns := VV.2.1.1
  have hnz := VV.2.2.1.1
  refine k_whence VV RC (fun hn => ?_) (fun s t hs htt ex ey => ?_)
  · refine ⟨rfl, rfl, _, rfl, fun Q2 hQ2 => m_whence VV RM (fun _ => hQ2 _ (iv VV RC RM) rfl) (fun s t hs htt ex ey M2 _ _ => absurd ⟨⟨s, hs, ex⟩, ⟨t, htt, ey⟩⟩ hn)⟩
  · subst ex ey
    refine ⟨rfl, rfl, _, rfl, fun Q2 hQ2 => m_whence VV RM (fun hn => absurd ⟨⟨s, hs, rfl⟩, ⟨t, htt, rfl⟩⟩ hn) (fun s2 t2 hs2 htt2 ex2 ey2 M2 g1 g2 => ?_)⟩
    have i0 := nI_i ex2 (by omega) (by omega)
    subst i0
    have i1 := nI_i ey2 (by omega) (by omega)
    subst i1
    exact hQ2 _ (iv VV (RC.low g1) g2) (g1 2 (by decide))
set_option maxRecDepth 100000 in
set_option maxHeartbeats 4000000 in
theorem p_from {E : vE} {l : Launch} {L : Nat} {M : vM} (I : Inv M) {x y v : Int32} : PM E l mX8_from 0 [.ref 3, .int x, .int y, .int v, .null, .null, .null] [] (S0 L) M 0 0 (Pst E l L mX9_from [.ref 42, .int x, .int y, .int v, .null, .null] M) := by
  obtain ⟨w, h, ht, rk, ns, T, ng, G, Rw, nz, U, O, VV, RC, RM⟩ := I
  have e4 := VV.1.1.le
  have hng := VV.1.2.2.1
  have hns := VV.2.1.1
  have hnz := VV.2.2.1.1
  refine k_from VV RC (fun hn => ?_) (fun s t hs htt ex ey => ?_)
  · refine ⟨rfl, rfl, _, rfl, fun Q2 hQ2 => m_from VV RM (fun _ => hQ2 _ (iv VV RC RM) rfl) (fun s t hs htt ex ey M2 _ _ => absurd ⟨⟨s, hs, ex⟩, ⟨t, htt, ey⟩⟩ hn)⟩
  · subst ex ey
    refine ⟨rfl, rfl, _, rfl, fun Q2 hQ2 => m_from VV RM (fun hn => absurd ⟨⟨s, hs, rfl⟩, ⟨t, htt, rfl⟩⟩ hn) (fun s2 t2 hs2 htt2 ex2 ey2 M2 g1 g2 => ?_)⟩
    have i0 := nI_i ex2 (by omega) (by omega)
    subst i0
    have i1 := nI_i ey2 (by omega) (by omega)
    subst i1
    exact hQ2 _ (iv VV (RC.low g1) g2) (g1 2 (by decide))

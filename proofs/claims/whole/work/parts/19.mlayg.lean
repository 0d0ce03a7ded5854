/-- a go: ice?, source, top (level), fall, steps -/
abbrev vQ : Type := Bool × Nat × Nat × Nat × Nat
def qI (q : vQ) : Bool := q.1
def qS (q : vQ) : Nat := q.2.1
def qT (q : vQ) : Nat := q.2.2.1
def qF (q : vQ) : Nat := q.2.2.2.1
def qN (q : vQ) : Nat := q.2.2.2.2
/-- where it covers, how far from its start -/
noncomputable def cov (w h : Nat) (ht : Nat → Nat) (q : vQ) (c : Nat) : Option Nat := if qI q then iceD w h ht (qS q) (qT q) (qF q) c else if floodC w h ht (qT q) c then some 0 else none
noncomputable def flw (w h : Nat) (ht : Nat → Nat) (q : vQ) (c : Nat) : Option Nat := if qI q then crs w h (iceD w h ht (qS q) (qT q) (qF q)) c else none
theorem cov_lt {w h : Nat} {ht : Nat → Nat} {q : vQ} {c x : Nat} (e : cov w h ht q c = some x) : x ≤ w * h := by
  unfold cov at e
  split at e
  · exact iceR_le (w * h) c x e
  · split at e
    · cases e; omega
    · cases e
theorem flw_lt {w h : Nat} {ht : Nat → Nat} {q : vQ} {c x : Nat} (e : flw w h ht q c = some x) : x < 4 := by
  unfold flw at e
  split at e
  · exact crsK_lt 4 x e
  · cases e
theorem mkI_oI (b : Bool) : mkI b = oI (-900009) (if b then some 0 else none) := by cases b <;> rfl
def GoV (w h ng : Nat) (ht : Nat → Nat) (G : Nat → vQ) : Prop := WH w h ∧ (∀ c, c < w * h → ht c ≤ 99) ∧ ng ≤ 6 ∧ ∀ g, g < ng → (1 ≤ qT (G g) ∧ qT (G g) ≤ 199) ∧ (qI (G g) = true → qS (G g) < w * h ∧ qF (G g) ≤ 20 ∧ qN (G g) ≤ 20)
/-- the model's land and goes -/
def GoM (M : vM) (w h ng : Nat) (ht : Nat → Nat) (G : Nat → vQ) : Prop := M 42 0 = nI w ∧ M 42 1 = nI h ∧ (∀ c, c < w * h → M 43 c = nI (ht c)) ∧ M 42 8 = nI ng ∧ ∀ g, g < ng → M 48 g = bI (qI (G g)) ∧ M 50 g = nI (qT (G g)) ∧ (qI (G g) = true → M 49 g = nI (qS (G g)) ∧ M 51 g = nI (qF (G g)) ∧ M 52 g = nI (qN (G g)))
/-- laid: where each go covers, and its ways -/
def LdM (M : vM) (w h ng : Nat) (ht : Nat → Nat) (G : Nat → vQ) : Prop := ∀ g, g < ng → ∀ c, c < w * h → M 53 (36 * g + c) = oI (-900009) (cov w h ht (G g) c) ∧ M 54 (36 * g + c) = oI (-900009) (flw w h ht (G g) c)
theorem GoM.kept {M M1 : vM} {w h ng : Nat} {ht : Nat → Nat} {G : Nat → vQ} {ks : List Nat} (k : GoM M w h ng ht G) (hf : Fr ks M M1) (h1 : ∀ q ∈ [42, 43, 48, 49, 50, 51, 52], q ∉ ks) : GoM M1 w h ng ht G := by
  obtain ⟨a1, a2, a3, a4, a5⟩ := k
  have e : ∀ q ∈ [42, 43, 48, 49, 50, 51, 52], M1 q = M q := fun q hq => hf q (h1 q hq)
  refine ⟨by rw [e 42 (by decide)]; exact a1, by rw [e 42 (by decide)]; exact a2, fun c hc => by rw [e 43 (by decide)]; exact a3 c hc, by rw [e 42 (by decide)]; exact a4, fun g hg => ?_⟩
  obtain ⟨b1, b2, b3⟩ := a5 g hg
  exact ⟨by rw [e 48 (by decide)]; exact b1, by rw [e 50 (by decide)]; exact b2, fun z => ⟨by rw [e 49 (by decide)]; exact (b3 z).1, by rw [e 51 (by decide)]; exact (b3 z).2.1, by rw [e 52 (by decide)]; exact (b3 z).2.2⟩⟩
set_option maxRecDepth 100000 in
set_option maxHeartbeats 4000000 in
theorem m_layGoes {E : vE} {l : Launch} {Q : Option Value → vS → vM → Prop} {L : Nat} {M : vM} {w h ng : Nat} {ht : Nat → Nat} {G : Nat → vQ} (V : GoV w h ng ht G) (K : GoM M w h ng ht G) (hQ : ∀ M1 : vM, Fr [53, 54] M M1 → LdM M1 w h ng ht G → Q none (S0 L) M1) : PM E l mX9_layGoes 0 [.ref 42, .null] [] (S0 L) M 0 0 Q := by
  have V0 := V
  have K0 := K
  obtain ⟨H, hht, hng, hV⟩ := V
  obtain ⟨hw, hh, hH, h8, hG⟩ := K
  have e4 := H.le
  have l2 : ∀ M1 : vM, Fr [53, 54] M M1 → (∀ g, g < 0 → ∀ c, c < w * h → M1 53 (36 * g + c) = oI (-900009) (cov w h ht (G g) c) ∧ M1 54 (36 * g + c) = oI (-900009) (flw w h ht (G g) c)) → (∀ j, 36 * 0 ≤ j → j < 216 → M1 53 j = -900009 ∧ M1 54 j = -900009) → PM E l mX9_layGoes 33 [.ref 42, .int (nI 0)] [] (S0 L) M1 0 0 Q := by
    refine lp_up (P := fun i => ∀ M1 : vM, Fr [53, 54] M M1 → (∀ g, g < i → ∀ c, c < w * h → M1 53 (36 * g + c) = oI (-900009) (cov w h ht (G g) c) ∧ M1 54 (36 * g + c) = oI (-900009) (flw w h ht (G g) c)) → (∀ j, 36 * i ≤ j → j < 216 → M1 53 j = -900009 ∧ M1 54 j = -900009) → PM E l mX9_layGoes 33 [.ref 42, .int (nI i)] [] (S0 L) M1 0 0 Q) (ng) ?_ ?_ (0) (by omega)
    · intro M1 g1 g2 g3
      refine x_iload_n dX9_layGoes_33 rfl ?_
      refine x_aload_n dX9_layGoes_34 rfl ?_
      refine g_I (s0_42 L) fkX9_97 rfl rfl dX9_layGoes_35 ?_
      refine x_as ((congrFun (g1 42 (by decide)) _).trans (h8)) ?_
      refine n_icmp_ge 69 dX9_layGoes_38 rfl (by omega) (by omega) (fun h1 => ?_) (fun h1 => by omega)
      refine x_vret dX9_layGoes_69 rfl ?_
      exact hQ M1 g1 g2
    · intro i hi ih M1 g1 g2 g3
      refine x_iload_n dX9_layGoes_33 rfl ?_
      refine x_aload_n dX9_layGoes_34 rfl ?_
      refine g_I (s0_42 L) fkX9_97 rfl rfl dX9_layGoes_35 ?_
      refine x_as ((congrFun (g1 42 (by decide)) _).trans (h8)) ?_
      refine n_icmp_ge 69 dX9_layGoes_38 rfl (by omega) (by omega) (fun h1 => by omega) (fun h1 => ?_)
      have hv := hV i hi
      have hgm := hG i hi
      have K1 := K0.kept g1 (by decide)
      refine x_aload_n dX9_layGoes_41 rfl ?_
      refine g_R (s0_42 L) fkX9_25 rfl rfl rfl dX9_layGoes_42 ?_
      refine x_iload_n dX9_layGoes_45 rfl ?_
      refine n_bald (s0_48 L) (by omega) rfl dX9_layGoes_46 ?_
      refine x_as ((congrFun (g1 48 (by decide)) _).trans (hgm.1)) ?_
      refine b_if_eq 58 dX9_layGoes_47 rfl (fun z1 => ?_) (fun z1 => ?_)
      · refine x_aload_n dX9_layGoes_58 rfl ?_
        refine x_iload_n dX9_layGoes_59 rfl ?_
        refine cV1 (mj := mX9_layFlood) lkX9_150 okX9_layFlood imX9_layFlood seX9_layFlood (s0_42 L) rfl rfl rfl rfl rfl dX9_layGoes_60 rfl (m_layFlood H K1.1 K1.2.1 K1.2.2.1 hht (by omega) (K1.2.2.2.2 i hi).2.1 hv.1.2 (fun M2 k1 k2 k3 => ?_))
        refine n_inc dX9_layGoes_63 rfl rfl ?_
        refine x_goto 33 dX9_layGoes_66 rfl ?_
        refine ih _ (g1.trans (k1.sub (by decide))) (fun g hg c hc => ?_) (fun j hj hj2 => ?_)
        · by_cases e : g = i
          · subst e
            rw [k3 c hc, k1 54 (by decide), (g3 (36 * g + c) (by omega) (by omega)).2]
            simp only [cov, flw, z1, Bool.false_eq_true, if_false]
            exact ⟨mkI_oI _, rfl⟩
          · have h5 : g < i := by omega
            rw [k2 (36 * g + c) (by omega), k1 54 (by decide)]
            exact g2 g h5 c hc
        · rw [k2 j (by omega), k1 54 (by decide)]
          exact g3 j (by omega) hj2
      · refine x_aload_n dX9_layGoes_50 rfl ?_
        refine x_iload_n dX9_layGoes_51 rfl ?_
        refine cV1 (mj := mX9_layIce) lkX9_146 okX9_layIce imX9_layIce seX9_layIce (s0_42 L) rfl rfl rfl rfl rfl dX9_layGoes_52 rfl (m_layIce H K1.1 K1.2.1 K1.2.2.1 hht (by omega) (K1.2.2.2.2 i hi |>.2.2 z1).1 (hv.2 z1).1 (K1.2.2.2.2 i hi).2.1 hv.1.2 (K1.2.2.2.2 i hi |>.2.2 z1).2.1 (hv.2 z1).2.1 (fun c hc => (g3 _ (by omega) (by omega)).1) (fun M2 k1 k2 k3 k4 => ?_))
        refine x_goto 63 dX9_layGoes_55 rfl ?_
        refine n_inc dX9_layGoes_63 rfl rfl ?_
        refine x_goto 33 dX9_layGoes_66 rfl ?_
        refine ih _ (g1.trans (k1.sub (by decide))) (fun g hg c hc => ?_) (fun j hj hj2 => ?_)
        · by_cases e : g = i
          · subst e
            rw [k3 c hc, k4 c hc]
            exact ⟨by simp only [cov, z1, if_true], by simp only [flw, z1, if_true]⟩
          · have h5 : g < i := by omega
            rw [(k2 (36 * g + c) (by omega)).1, (k2 (36 * g + c) (by omega)).2]
            exact g2 g h5 c hc
        · rw [(k2 j (by omega)).1, (k2 j (by omega)).2]
          exact g3 j (by omega) hj2
  have l1 : ∀ M1 : vM, Fr [53, 54] M M1 → (∀ j, j < 0 → M1 53 j = -900009 ∧ M1 54 j = -900009) → PM E l mX9_layGoes 2 [.ref 42, .int (nI 0)] [] (S0 L) M1 0 0 Q := by
    refine lp_up (P := fun i => ∀ M1 : vM, Fr [53, 54] M M1 → (∀ j, j < i → M1 53 j = -900009 ∧ M1 54 j = -900009) → PM E l mX9_layGoes 2 [.ref 42, .int (nI i)] [] (S0 L) M1 0 0 Q) (216) ?_ ?_ (0) (by omega)
    · intro M1 g1 g2
      refine x_iload_n dX9_layGoes_2 rfl ?_
      refine x_sipush dX9_layGoes_3 sipush_216 ?_
      refine n_icmp_ge 31 dX9_layGoes_6 rfl (by omega) (by omega) (fun h1 => ?_) (fun h1 => by omega)
      refine x_iconst dX9_layGoes_31 iconst_0 ?_
      refine x_istore_n dX9_layGoes_32 (by decide) rfl ?_
      exact l2 M1 g1 (fun g hg => absurd hg (by omega)) (fun j _ hj => g2 j hj)
    · intro i hi ih M1 g1 g2
      refine x_iload_n dX9_layGoes_2 rfl ?_
      refine x_sipush dX9_layGoes_3 sipush_216 ?_
      refine n_icmp_ge 31 dX9_layGoes_6 rfl (by omega) (by omega) (fun h1 => by omega) (fun h1 => ?_)
      refine x_aload_n dX9_layGoes_9 rfl ?_
      refine g_R (s0_42 L) fkX9_41 rfl rfl rfl dX9_layGoes_10 ?_
      refine x_iload_n dX9_layGoes_13 rfl ?_
      refine x_ldc kcX9_134 dX9_layGoes_14 ?_
      refine n_iast rfl (s0_53 L) (by first | assumption | omega) rfl dX9_layGoes_16 ?_
      refine x_aload_n dX9_layGoes_17 rfl ?_
      refine g_R (s0_42 L) fkX9_44 rfl rfl rfl dX9_layGoes_18 ?_
      refine x_iload_n dX9_layGoes_21 rfl ?_
      refine x_ldc kcX9_134 dX9_layGoes_22 ?_
      refine n_iast rfl (s0_54 L) (by first | assumption | omega) rfl dX9_layGoes_24 ?_
      refine n_inc dX9_layGoes_25 rfl rfl ?_
      refine x_goto 2 dX9_layGoes_28 rfl ?_
      refine ih _ ((g1.set _ (by decide)).set _ (by decide)) (fun j hj => ?_)
      by_cases e : j = i
      · subst e; exact ⟨upd_at _ _ _, upd_at _ _ _⟩
      · exact ⟨(upd_ne _ _ e).trans (g2 j (by omega)).1, (upd_ne _ _ e).trans (g2 j (by omega)).2⟩
  refine x_iconst dX9_layGoes_0 iconst_0 ?_
  refine x_istore_n dX9_layGoes_1 (by decide) rfl ?_
  exact l1 M Fr.rf (fun j hj => absurd hj (by omega))

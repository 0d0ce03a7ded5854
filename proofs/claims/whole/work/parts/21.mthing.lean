theorem GoM.kept2 {M M1 : vM} {w h ng : Nat} {ht : Nat → Nat} {G : Nat → vQ} (k : GoM M w h ng ht G) (e : ∀ q ∈ [43, 48, 49, 50, 51, 52], M1 q = M q) (e2 : ∀ j ∈ [0, 1, 8], M1 42 j = M 42 j) : GoM M1 w h ng ht G := by
  obtain ⟨a1, a2, a3, a4, a5⟩ := k
  refine ⟨by rw [e2 0 (by decide)]; exact a1, by rw [e2 1 (by decide)]; exact a2, fun c hc => by rw [e 43 (by decide)]; exact a3 c hc, by rw [e2 8 (by decide)]; exact a4, fun g hg => ?_⟩
  obtain ⟨b1, b2, b3⟩ := a5 g hg
  exact ⟨by rw [e 48 (by decide)]; exact b1, by rw [e 50 (by decide)]; exact b2, fun z => ⟨by rw [e 49 (by decide)]; exact (b3 z).1, by rw [e 51 (by decide)]; exact (b3 z).2.1, by rw [e 52 (by decide)]; exact (b3 z).2.2⟩⟩
theorem LdM.kept {M M1 : vM} {w h ng : Nat} {ht : Nat → Nat} {G : Nat → vQ} (D : LdM M w h ng ht G) (e3 : M1 53 = M 53) (e4 : M1 54 = M 54) : LdM M1 w h ng ht G := by
  intro g hg c hc
  rw [e3, e4]
  exact D g hg c hc
/-- the row that is looked at: m goes -/
def RwM (M : vM) (m : Nat) (r : Nat → Nat) : Prop := M 42 18 = nI m ∧ ∀ k, k < m → M 57 k = nI (r k)
def RwV (ng m : Nat) (r : Nat → Nat) : Prop := m ≤ 6 ∧ ∀ k, k < m → r k < ng
theorem brb_lt {w h : Nat} {ht : Nat → Nat} {q : vQ} (H : WH w h) {c wt : Nat} (hc : c < w * h) : brb w h ht q c wt < w * h := by
  unfold brb
  split
  · exact itr_hop_lt H hc _
  · split
    · unfold sft
      split
      · have : ∀ n, n ≤ w * h → itr (fun k b => if near w c k = true ∧ (cov w h ht q k).isSome = true ∧ ht k < ht b then k else b) n c < w * h := by
          intro n
          induction n with
          | zero => intro _; exact hc
          | succ n ihn => intro hn; show (if _ then n else _) < _; split; omega; exact ihn (by omega)
        exact this _ (Nat.le_refl _)
      · exact hc
    · exact hc
noncomputable def endS (w h : Nat) (ht : Nat → Nat) (G : Nat → vQ) (r : Nat → Nat) (wt m c : Nat) : Nat := itr (fun k c => brb w h ht (G (r k)) c wt) m c
theorem endS_lt {w h : Nat} {ht : Nat → Nat} {G : Nat → vQ} {r : Nat → Nat} (H : WH w h) {wt c : Nat} (hc : c < w * h) : ∀ m, endS w h ht G r wt m c < w * h
  | 0 => hc
  | m + 1 => brb_lt H (endS_lt H hc m)
set_option maxRecDepth 100000 in
set_option maxHeartbeats 4000000 in
theorem m_layRow {E : vE} {l : Launch} {Q : Option Value → vS → vM → Prop} {L : Nat} {M : vM} {w h ng : Nat} {ht : Nat → Nat} {G : Nat → vQ} (V : GoV w h ng ht G) (K : GoM M w h ng ht G) {s sl : Nat} {st : Nat → Nat} (hs : s < 3) (hl6 : sl ≤ 6) (hsl : M 55 s = nI sl) (hst : ∀ k, k < sl → M 56 (6 * s + k) = nI (st k)) (hQ : ∀ M1 : vM, Fr [42, 53, 54, 57] M M1 → (∀ j, j ≠ 18 → M1 42 j = M 42 j) → M1 42 18 = nI sl → LdM M1 w h ng ht G → (∀ k, k < sl → M1 57 k = nI (st k)) → Q none (S0 L) M1) : PM E l mX9_layRow 0 [.ref 42, .int (nI s), .null] [] (S0 L) M 0 0 Q := by
  have H := V.1
  have e4 := H.le
  have hng := V.2.2.1
  have l1 : ∀ M1 : vM, Fr [42, 53, 54, 57] M M1 → (∀ j, j ≠ 18 → M1 42 j = M 42 j) → M1 42 18 = nI sl → LdM M1 w h ng ht G → (∀ k, k < 0 → M1 57 k = nI (st k)) → PM E l mX9_layRow 16 [.ref 42, .int (nI s), .int (nI 0)] [] (S0 L) M1 0 0 Q := by
    refine lp_up (P := fun i => ∀ M1 : vM, Fr [42, 53, 54, 57] M M1 → (∀ j, j ≠ 18 → M1 42 j = M 42 j) → M1 42 18 = nI sl → LdM M1 w h ng ht G → (∀ k, k < i → M1 57 k = nI (st k)) → PM E l mX9_layRow 16 [.ref 42, .int (nI s), .int (nI i)] [] (S0 L) M1 0 0 Q) (sl) ?_ ?_ (0) (by omega)
    · intro M1 g1 g2 g3 g4 g5
      refine x_iload_n dX9_layRow_16 rfl ?_
      refine x_aload_n dX9_layRow_17 rfl ?_
      refine g_I (s0_42 L) fkX9_177 rfl rfl dX9_layRow_18 ?_
      refine x_as g3 ?_
      refine n_icmp_ge 47 dX9_layRow_21 rfl (by omega) (by omega) (fun h1 => ?_) (fun h1 => by omega)
      refine x_vret dX9_layRow_47 rfl ?_
      exact hQ M1 g1 g2 g3 g4 g5
    · intro i hi ih M1 g1 g2 g3 g4 g5
      refine x_iload_n dX9_layRow_16 rfl ?_
      refine x_aload_n dX9_layRow_17 rfl ?_
      refine g_I (s0_42 L) fkX9_177 rfl rfl dX9_layRow_18 ?_
      refine x_as g3 ?_
      refine n_icmp_ge 47 dX9_layRow_21 rfl (by omega) (by omega) (fun h1 => by omega) (fun h1 => ?_)
      refine x_aload_n dX9_layRow_24 rfl ?_
      refine g_R (s0_42 L) fkX9_53 rfl rfl rfl dX9_layRow_25 ?_
      refine x_iload_n dX9_layRow_28 rfl ?_
      refine x_aload_n dX9_layRow_29 rfl ?_
      refine g_R (s0_42 L) fkX9_50 rfl rfl rfl dX9_layRow_30 ?_
      refine x_bipush dX9_layRow_33 bipush_6 ?_
      refine x_iload_n dX9_layRow_35 rfl ?_
      refine n_imul dX9_layRow_36 ?_
      refine x_iload_n dX9_layRow_37 rfl ?_
      refine n_iadd dX9_layRow_38 ?_
      refine n_iald (s0_56 L) (by omega) rfl dX9_layRow_39 ?_
      refine x_as ((congrFun (g1 56 (by decide)) _).trans (hst i hi)) ?_
      refine n_iast rfl (s0_57 L) (by omega) rfl dX9_layRow_40 ?_
      refine n_inc dX9_layRow_41 rfl rfl ?_
      refine x_goto 16 dX9_layRow_44 rfl ?_
      refine ih _ (g1.set _ (by decide)) g2 g3 (g4.kept rfl rfl) (fun k hk => ?_)
      by_cases e : k = i
      · subst e; exact upd_at _ _ _
      · exact (upd_ne _ _ e).trans (g5 k (by omega))
  refine x_aload_n dX9_layRow_0 rfl ?_
  refine cV0 (mj := mX9_layGoes) lkX9_160 okX9_layGoes imX9_layGoes seX9_layGoes (s0_42 L) rfl rfl rfl rfl rfl dX9_layRow_1 rfl (m_layGoes V K (fun M1 g1 g2 => ?_))
  refine x_aload_n dX9_layRow_4 rfl ?_
  refine x_aload_n dX9_layRow_5 rfl ?_
  refine g_R (s0_42 L) fkX9_47 rfl rfl rfl dX9_layRow_6 ?_
  refine x_iload_n dX9_layRow_9 rfl ?_
  refine n_iald (s0_55 L) (by omega) rfl dX9_layRow_10 ?_
  refine x_as ((congrFun (g1 55 (by decide)) _).trans hsl) ?_
  refine g_P (s0_42 L) fkX9_177 rfl rfl rfl rfl dX9_layRow_11 ?_
  refine x_iconst dX9_layRow_14 iconst_0 ?_
  refine x_istore_n dX9_layRow_15 (by decide) rfl ?_
  refine l1 _ ((g1.sub (by decide)).set _ (by decide)) (fun j hj => ?_) rfl (g2.kept rfl rfl) (fun k hk => absurd hk (by omega))
  show upd (M1 42) 18 (nI sl) j = _
  rw [upd_ne _ _ hj, g1 42 (by decide)]
set_option maxRecDepth 100000 in
set_option maxHeartbeats 4000000 in
theorem m_endOf {E : vE} {l : Launch} {Q : Option Value → vS → vM → Prop} {L : Nat} {M : vM} {w h ng : Nat} {ht : Nat → Nat} {G : Nat → vQ} (V : GoV w h ng ht G) (K : GoM M w h ng ht G) (D : LdM M w h ng ht G) {m : Nat} {r : Nat → Nat} (RV : RwV ng m r) (RM : RwM M m r) {c wt : Nat} (hc : c < w * h) (hw1 : 1 ≤ wt) (hw9 : wt ≤ 9) (hQ : Q (some (.int (nI (endS w h ht G r wt m c)))) (S0 L) M) : PM E l mX9_endOf 0 [.ref 42, .int (nI c), .int (nI wt), .null, .null] [] (S0 L) M 0 0 Q := by
  have H := V.1
  have e4 := H.le
  have hng := V.2.2.1
  have hm6 := RV.1
  have l1 : PM E l mX9_endOf 5 [.ref 42, .int (nI c), .int (nI wt), .int (nI (endS w h ht G r wt 0 c)), .int (nI 0)] [] (S0 L) M 0 0 Q := by
    refine lp_up (P := fun i => PM E l mX9_endOf 5 [.ref 42, .int (nI c), .int (nI wt), .int (nI (endS w h ht G r wt i c)), .int (nI i)] [] (S0 L) M 0 0 Q) (m) ?_ ?_ (0) (by omega)
    · skip
      refine x_iload dX9_endOf_5 rfl ?_
      refine x_aload_n dX9_endOf_7 rfl ?_
      refine g_I (s0_42 L) fkX9_177 rfl rfl dX9_endOf_8 ?_
      refine x_as RM.1 ?_
      refine n_icmp_ge 34 dX9_endOf_11 rfl (by omega) (by omega) (fun h1 => ?_) (fun h1 => by omega)
      refine x_iload_n dX9_endOf_34 rfl ?_
      refine x_iret dX9_endOf_35 rfl rfl ?_
      exact hQ
    · intro i hi ih 
      refine x_iload dX9_endOf_5 rfl ?_
      refine x_aload_n dX9_endOf_7 rfl ?_
      refine g_I (s0_42 L) fkX9_177 rfl rfl dX9_endOf_8 ?_
      refine x_as RM.1 ?_
      refine n_icmp_ge 34 dX9_endOf_11 rfl (by omega) (by omega) (fun h1 => by omega) (fun h1 => ?_)
      refine x_aload_n dX9_endOf_14 rfl ?_
      refine x_aload_n dX9_endOf_15 rfl ?_
      refine g_R (s0_42 L) fkX9_53 rfl rfl rfl dX9_endOf_16 ?_
      refine x_iload dX9_endOf_19 rfl ?_
      refine n_iald (s0_57 L) (by omega) rfl dX9_endOf_21 ?_
      refine x_as (RM.2 i hi) ?_
      refine x_iload_n dX9_endOf_22 rfl ?_
      refine x_iload_n dX9_endOf_23 rfl ?_
      refine cV3 (mj := mX9_broughtBy) lkX9_169 okX9_broughtBy imX9_broughtBy seX9_broughtBy (s0_42 L) rfl rfl rfl rfl rfl dX9_endOf_24 rfl (m_broughtBy V K D (RV.2 i hi) (endS_lt H hc i) hw1 hw9 ?_)
      refine x_istore_n dX9_endOf_27 (by decide) rfl ?_
      refine n_inc dX9_endOf_28 rfl rfl ?_
      refine x_goto 5 dX9_endOf_31 rfl ?_
      exact ih
  refine x_iload_n dX9_endOf_0 rfl ?_
  refine x_istore_n dX9_endOf_1 (by decide) rfl ?_
  refine x_iconst dX9_endOf_2 iconst_0 ?_
  refine x_istore dX9_endOf_3 (by decide) rfl ?_
  exact l1
abbrev vT : Type := Nat × Nat × Nat
def StV (w h ns : Nat) (rk : Nat → Nat) (T : Nat → vT) : Prop := ns ≤ 12 ∧ (∀ c, c < w * h → rk c ≤ 5) ∧ ∀ i, i < ns → (T i).1 < w * h ∧ (T i).2.1 ≤ 5 ∧ 1 ≤ (T i).2.2 ∧ (T i).2.2 ≤ 9
def StM (M : vM) (w h ns : Nat) (rk : Nat → Nat) (T : Nat → vT) : Prop := M 42 4 = nI ns ∧ (∀ c, c < w * h → M 44 c = nI (rk c)) ∧ ∀ i, i < ns → M 45 i = nI (T i).1 ∧ M 46 i = nI (T i).2.1 ∧ M 47 i = nI (T i).2.2
noncomputable def whn (w h : Nat) (ht : Nat → Nat) (G : Nat → vQ) (r : Nat → Nat) (m : Nat) (rk : Nat → Nat) (t : vT) (c : Nat) : Bool := decide (rk c = t.2.1) && decide (endS w h ht G r t.2.2 m c = t.1)
/-- how many of the first n -/
def ctt (p : Nat → Bool) : Nat → Nat
  | 0 => 0
  | n + 1 => ctt p n + if p n then 1 else 0
theorem ctt_le (p : Nat → Bool) : ∀ n, ctt p n ≤ n
  | 0 => Nat.le_refl _
  | n + 1 => by have := ctt_le p n; simp only [ctt]; split <;> omega
set_option maxRecDepth 100000 in
set_option maxHeartbeats 4000000 in
theorem m_isWhence {E : vE} {l : Launch} {Q : Option Value → vS → vM → Prop} {L : Nat} {M : vM} {w h ng : Nat} {ht : Nat → Nat} {G : Nat → vQ} (V : GoV w h ng ht G) (K : GoM M w h ng ht G) (D : LdM M w h ng ht G) {m : Nat} {r : Nat → Nat} (RV : RwV ng m r) (RM : RwM M m r) {ns : Nat} {rk : Nat → Nat} {T : Nat → vT} (SV : StV w h ns rk T) (SM : StM M w h ns rk T) {t c : Nat} (htn : t < ns) (hc : c < w * h) (hQ : Q (some (.int (bI (whn w h ht G r m rk (T t) c)))) (S0 L) M) : PM E l mX9_isWhence 0 [.ref 42, .int (nI t), .int (nI c)] [] (S0 L) M 0 0 Q := by
  have H := V.1
  have e4 := H.le
  have hng := V.2.2.1
  have hns := SV.1
  obtain ⟨b1, b2, b3, b4⟩ := SV.2.2 t htn
  have hk5 := SV.2.1 c hc
  have hen := endS_lt (ht := ht) (G := G) (r := r) (wt := (T t).2.2) H hc m
  refine x_aload_n dX9_isWhence_0 rfl ?_
  refine g_R (s0_42 L) fkX9_13 rfl rfl rfl dX9_isWhence_1 ?_
  refine x_iload_n dX9_isWhence_4 rfl ?_
  refine n_iald (s0_44 L) (by omega) rfl dX9_isWhence_5 ?_
  refine x_as (SM.2.1 c hc) ?_
  refine x_aload_n dX9_isWhence_6 rfl ?_
  refine g_R (s0_42 L) fkX9_19 rfl rfl rfl dX9_isWhence_7 ?_
  refine x_iload_n dX9_isWhence_10 rfl ?_
  refine n_iald (s0_46 L) (by omega) rfl dX9_isWhence_11 ?_
  refine x_as (SM.2.2 t htn).2.1 ?_
  refine n_icmp_ne 39 dX9_isWhence_12 rfl (by omega) (by omega) (fun z1 => ?_) (fun z1 => ?_)
  · refine x_iconst dX9_isWhence_39 iconst_0 ?_
    refine x_iret dX9_isWhence_40 rfl (by first | exact bI_nar _ | exact n1_nar | exact n0_nar) ?_
    first | (simp only [whn, decide_eq_false z1, Bool.false_and] at hQ; exact hQ) | (simp only [whn, decide_eq_true z1, decide_eq_false z2, Bool.true_and] at hQ; exact hQ) | (simp only [whn, decide_eq_true z1, decide_eq_true z2, Bool.true_and] at hQ; exact hQ)
  · refine x_aload_n dX9_isWhence_15 rfl ?_
    refine x_iload_n dX9_isWhence_16 rfl ?_
    refine x_aload_n dX9_isWhence_17 rfl ?_
    refine g_R (s0_42 L) fkX9_22 rfl rfl rfl dX9_isWhence_18 ?_
    refine x_iload_n dX9_isWhence_21 rfl ?_
    refine n_iald (s0_47 L) (by omega) rfl dX9_isWhence_22 ?_
    refine x_as (SM.2.2 t htn).2.2 ?_
    refine cV2 (mj := mX9_endOf) lkX9_183 okX9_endOf imX9_endOf seX9_endOf (s0_42 L) rfl rfl rfl rfl rfl dX9_isWhence_23 rfl (m_endOf V K D RV RM hc b3 b4 ?_)
    refine x_aload_n dX9_isWhence_26 rfl ?_
    refine g_R (s0_42 L) fkX9_16 rfl rfl rfl dX9_isWhence_27 ?_
    refine x_iload_n dX9_isWhence_30 rfl ?_
    refine n_iald (s0_45 L) (by omega) rfl dX9_isWhence_31 ?_
    refine x_as (SM.2.2 t htn).1 ?_
    refine n_icmp_ne 39 dX9_isWhence_32 rfl (by omega) (by omega) (fun z2 => ?_) (fun z2 => ?_)
    · refine x_iconst dX9_isWhence_39 iconst_0 ?_
      refine x_iret dX9_isWhence_40 rfl (by first | exact bI_nar _ | exact n1_nar | exact n0_nar) ?_
      first | (simp only [whn, decide_eq_false z1, Bool.false_and] at hQ; exact hQ) | (simp only [whn, decide_eq_true z1, decide_eq_false z2, Bool.true_and] at hQ; exact hQ) | (simp only [whn, decide_eq_true z1, decide_eq_true z2, Bool.true_and] at hQ; exact hQ)
    · refine x_iconst dX9_isWhence_35 iconst_1 ?_
      refine x_goto 40 dX9_isWhence_36 rfl ?_
      refine x_iret dX9_isWhence_40 rfl (by first | exact bI_nar _ | exact n1_nar | exact n0_nar) ?_
      first | (simp only [whn, decide_eq_false z1, Bool.false_and] at hQ; exact hQ) | (simp only [whn, decide_eq_true z1, decide_eq_false z2, Bool.true_and] at hQ; exact hQ) | (simp only [whn, decide_eq_true z1, decide_eq_true z2, Bool.true_and] at hQ; exact hQ)
set_option maxRecDepth 100000 in
set_option maxHeartbeats 4000000 in
theorem m_whenceOf {E : vE} {l : Launch} {Q : Option Value → vS → vM → Prop} {L : Nat} {M : vM} {w h ng : Nat} {ht : Nat → Nat} {G : Nat → vQ} (V : GoV w h ng ht G) (K : GoM M w h ng ht G) (D : LdM M w h ng ht G) {m : Nat} {r : Nat → Nat} (RV : RwV ng m r) (RM : RwM M m r) {ns : Nat} {rk : Nat → Nat} {T : Nat → vT} (SV : StV w h ns rk T) (SM : StM M w h ns rk T) {t : Nat} (htn : t < ns) (hQ : Q (some (.int (nI (ctt (whn w h ht G r m rk (T t)) (w * h))))) (S0 L) M) : PM E l mX9_whenceOf 0 [.ref 42, .int (nI t), .null, .null] [] (S0 L) M 0 0 Q := by
  have H := V.1
  have e4 := H.le
  have hng := V.2.2.1
  have l1 : PM E l mX9_whenceOf 4 [.ref 42, .int (nI t), .int (nI (ctt (whn w h ht G r m rk (T t)) 0)), .int (nI 0)] [] (S0 L) M 0 0 Q := by
    refine lp_up (P := fun i => PM E l mX9_whenceOf 4 [.ref 42, .int (nI t), .int (nI (ctt (whn w h ht G r m rk (T t)) i)), .int (nI i)] [] (S0 L) M 0 0 Q) (w * h) ?_ ?_ (0) (by omega)
    · skip
      refine x_iload_n dX9_whenceOf_4 rfl ?_
      refine x_aload_n dX9_whenceOf_5 rfl ?_
      refine cV0 (mj := mX9_cells) lkX9_103 okX9_cells imX9_cells seX9_cells (s0_42 L) rfl rfl rfl rfl rfl dX9_whenceOf_6 rfl (m_cells K.1 K.2.1 ?_)
      refine n_icmp_ge 35 dX9_whenceOf_9 rfl (by omega) (by omega) (fun h1 => ?_) (fun h1 => by omega)
      refine x_iload_n dX9_whenceOf_35 rfl ?_
      refine x_iret dX9_whenceOf_36 rfl rfl ?_
      exact hQ
    · intro i hi ih 
      refine x_iload_n dX9_whenceOf_4 rfl ?_
      refine x_aload_n dX9_whenceOf_5 rfl ?_
      refine cV0 (mj := mX9_cells) lkX9_103 okX9_cells imX9_cells seX9_cells (s0_42 L) rfl rfl rfl rfl rfl dX9_whenceOf_6 rfl (m_cells K.1 K.2.1 ?_)
      refine n_icmp_ge 35 dX9_whenceOf_9 rfl (by omega) (by omega) (fun h1 => by omega) (fun h1 => ?_)
      refine x_iload_n dX9_whenceOf_12 rfl ?_
      refine x_aload_n dX9_whenceOf_13 rfl ?_
      refine x_iload_n dX9_whenceOf_14 rfl ?_
      refine x_iload_n dX9_whenceOf_15 rfl ?_
      refine cV2 (mj := mX9_isWhence) lkX9_186 okX9_isWhence imX9_isWhence seX9_isWhence (s0_42 L) rfl rfl rfl rfl rfl dX9_whenceOf_16 rfl (m_isWhence V K D RV RM SV SM htn hi ?_)
      refine b_if_eq 26 dX9_whenceOf_19 rfl (fun z1 => ?_) (fun z1 => ?_)
      · refine x_iconst dX9_whenceOf_26 iconst_0 ?_
        refine n_iadd dX9_whenceOf_27 ?_
        refine x_istore_n dX9_whenceOf_28 (by decide) rfl ?_
        refine n_inc dX9_whenceOf_29 rfl rfl ?_
        refine x_goto 4 dX9_whenceOf_32 rfl ?_
        have ih2 := ih
        rw [show ctt (whn w h ht G r m rk (T t)) (i + 1) = ctt (whn w h ht G r m rk (T t)) i + 0 from by simp only [ctt, z1, Bool.false_eq_true, if_false, if_true]] at ih2
        exact ih2
      · refine x_iconst dX9_whenceOf_22 iconst_1 ?_
        refine x_goto 27 dX9_whenceOf_23 rfl ?_
        refine n_iadd dX9_whenceOf_27 ?_
        refine x_istore_n dX9_whenceOf_28 (by decide) rfl ?_
        refine n_inc dX9_whenceOf_29 rfl rfl ?_
        refine x_goto 4 dX9_whenceOf_32 rfl ?_
        have ih2 := ih
        rw [show ctt (whn w h ht G r m rk (T t)) (i + 1) = ctt (whn w h ht G r m rk (T t)) i + 1 from by simp only [ctt, z1, Bool.false_eq_true, if_false, if_true]] at ih2
        exact ih2
  refine x_iconst dX9_whenceOf_0 iconst_0 ?_
  refine x_istore_n dX9_whenceOf_1 (by decide) rfl ?_
  refine x_iconst dX9_whenceOf_2 iconst_0 ?_
  refine x_istore_n dX9_whenceOf_3 (by decide) rfl ?_
  exact l1
/-- what a go does at a cell: scratches 0 .. 3, heap 4, shell 5 -/
noncomputable def tP (w h : Nat) (ht : Nat → Nat) (t : Nat) (q : vQ) (c : Nat) : Bool :=
  if t < 4 then qI q && decide (flw w h ht q c = some t) else if t = 4 then qI q && (cov w h ht q c).isSome && (flw w h ht q c).isNone else if t = 5 then !qI q && (cov w h ht q c).isSome else false
noncomputable def icP (w h : Nat) (ht : Nat → Nat) (q : vQ) (c : Nat) : Bool := qI q && (cov w h ht q c).isSome
def anyK (p : Nat → Bool) (m : Nat) : Bool := itr (fun k b => b || p k) m false
theorem anyK_t {p : Nat → Bool} {m : Nat} (h : anyK p m = true) : anyK p (m + 1) = true := by
  show (anyK p m || p m) = true
  rw [h]; rfl
theorem anyK_f {p : Nat → Bool} {m : Nat} (h : anyK p m = false) : anyK p (m + 1) = p m := by
  show (anyK p m || p m) = p m
  rw [h]; rfl
noncomputable def thg (w h : Nat) (ht : Nat → Nat) (G : Nat → vQ) (r : Nat → Nat) (m c t : Nat) : Bool := if t = 6 then !anyK (fun k => icP w h ht (G (r k)) c) m else anyK (fun k => tP w h ht t (G (r k)) c) m
set_option maxRecDepth 100000 in
set_option maxHeartbeats 4000000 in
theorem m_hasThing {E : vE} {l : Launch} {Q : Option Value → vS → vM → Prop} {L : Nat} {M : vM} {w h ng : Nat} {ht : Nat → Nat} {G : Nat → vQ} (V : GoV w h ng ht G) (K : GoM M w h ng ht G) (D : LdM M w h ng ht G) {m : Nat} {r : Nat → Nat} (RV : RwV ng m r) (RM : RwM M m r) {c t : Nat} (hc : c < w * h) (ht7 : t < 7) (hQ : Q (some (.int (bI (thg w h ht G r m c t)))) (S0 L) M) : PM E l mX9_hasThing 0 [.ref 42, .int (nI c), .int (nI t), .null, .null, .null, .null] [] (S0 L) M 0 0 Q := by
  have H := V.1
  have e4 := H.le
  have hng := V.2.2.1
  have hm6 := RV.1
  have l1 : PM E l mX9_hasThing 8 [.ref 42, .int (nI c), .int (nI t), .int (bI (anyK (fun k => tP w h ht t (G (r k)) c) 0)), .int (bI (anyK (fun k => icP w h ht (G (r k)) c) 0)), .int (nI 0), .null] [] (S0 L) M 0 0 Q := by
    refine lp_up (P := fun i => PM E l mX9_hasThing 8 [.ref 42, .int (nI c), .int (nI t), .int (bI (anyK (fun k => tP w h ht t (G (r k)) c) i)), .int (bI (anyK (fun k => icP w h ht (G (r k)) c) i)), .int (nI i), .null] [] (S0 L) M 0 0 Q) m ?_ ?_ 0 (Nat.zero_le _)
    · skip
      refine x_iload dX9_hasThing_8 rfl ?_
      refine x_aload_n dX9_hasThing_10 rfl ?_
      refine g_I (s0_42 L) fkX9_177 rfl rfl dX9_hasThing_11 ?_
      refine x_as RM.1 ?_
      refine n_icmp_ge 136 dX9_hasThing_14 rfl (by omega) (by omega) (fun h1 => ?_) (fun h1 => by omega)
      refine x_iload_n dX9_hasThing_136 rfl ?_
      refine x_bipush dX9_hasThing_137 bipush_6 ?_
      refine n_icmp_ne 155 dX9_hasThing_139 rfl (by omega) (by omega) (fun y1 => ?_) (fun y1 => ?_)
      · refine x_iload_n dX9_hasThing_155 rfl ?_
        refine x_iret dX9_hasThing_156 rfl (bI_nar _) ?_
        first | (simp only [thg, if_pos y1, y2, Bool.not_false] at hQ; exact hQ) | (simp only [thg, if_pos y1, y2, Bool.not_true] at hQ; exact hQ) | (simp only [thg, if_neg y1] at hQ; exact hQ)
      · refine x_iload dX9_hasThing_142 rfl ?_
        refine b_if_ne 151 dX9_hasThing_144 rfl (fun y2 => ?_) (fun y2 => ?_)
        · refine x_iconst dX9_hasThing_151 iconst_0 ?_
          refine x_goto 156 dX9_hasThing_152 rfl ?_
          refine x_iret dX9_hasThing_156 rfl (by first | exact bI_nar _ | exact n1_nar | exact n0_nar) ?_
          first | (simp only [thg, if_pos y1, y2, Bool.not_false] at hQ; exact hQ) | (simp only [thg, if_pos y1, y2, Bool.not_true] at hQ; exact hQ) | (simp only [thg, if_neg y1] at hQ; exact hQ)
        · refine x_iconst dX9_hasThing_147 iconst_1 ?_
          refine x_goto 156 dX9_hasThing_148 rfl ?_
          refine x_iret dX9_hasThing_156 rfl (by first | exact bI_nar _ | exact n1_nar | exact n0_nar) ?_
          first | (simp only [thg, if_pos y1, y2, Bool.not_false] at hQ; exact hQ) | (simp only [thg, if_pos y1, y2, Bool.not_true] at hQ; exact hQ) | (simp only [thg, if_neg y1] at hQ; exact hQ)
    · intro i hi ih
      have seg : PM E l mX9_hasThing 58 [.ref 42, .int (nI c), .int (nI t), .int (bI (anyK (fun k => tP w h ht t (G (r k)) c) i)), .int (bI (anyK (fun k => icP w h ht (G (r k)) c) (i + 1))), .int (nI i), .int (nI (r i))] [] (S0 L) M 0 0 Q := by
        have hr := RV.2 i hi
        have hr6 : r i < 6 := by omega
        refine x_iload_n dX9_hasThing_58 rfl ?_
        refine b_if_ne 124 dX9_hasThing_59 rfl (fun z5 => ?_) (fun z5 => ?_)
        · refine x_iconst dX9_hasThing_124 iconst_1 ?_
          refine x_goto 129 dX9_hasThing_125 rfl ?_
          refine x_istore_n dX9_hasThing_129 (by decide) rfl ?_
          refine n_inc dX9_hasThing_130 rfl rfl ?_
          refine x_goto 8 dX9_hasThing_133 rfl ?_
          refine x_mask [true, true, true, true, true, true, false] ?_
          have ih2 := ih
          rw [anyK_t z5] at ih2
          exact ih2
        · refine x_iload_n dX9_hasThing_62 rfl ?_
          refine x_iconst dX9_hasThing_63 iconst_4 ?_
          refine n_icmp_ge 81 dX9_hasThing_64 rfl (by omega) (by omega) (fun z6 => ?_) (fun z6 => ?_)
          · refine x_iload_n dX9_hasThing_81 rfl ?_
            refine x_iconst dX9_hasThing_82 iconst_4 ?_
            refine n_icmp_ne 99 dX9_hasThing_83 rfl (by omega) (by omega) (fun z8 => ?_) (fun z8 => ?_)
            · refine x_iload_n dX9_hasThing_99 rfl ?_
              refine x_iconst dX9_hasThing_100 iconst_5 ?_
              refine n_icmp_ne 128 dX9_hasThing_101 rfl (by omega) (by omega) (fun z10 => ?_) (fun z10 => ?_)
              · refine x_iconst dX9_hasThing_128 iconst_0 ?_
                refine x_istore_n dX9_hasThing_129 (by decide) rfl ?_
                refine n_inc dX9_hasThing_130 rfl rfl ?_
                refine x_goto 8 dX9_hasThing_133 rfl ?_
                refine x_mask [true, true, true, true, true, true, false] ?_
                have ih2 := ih
                rw [show (anyK (fun k => tP w h ht t (G (r k)) c) (i + 1)) = false from (anyK_f z5).trans (by unfold tP; rw [if_neg (by omega), if_neg z8, if_neg z10])] at ih2
                exact ih2
              · refine x_aload_n dX9_hasThing_104 rfl ?_
                refine g_R (s0_42 L) fkX9_25 rfl rfl rfl dX9_hasThing_105 ?_
                refine x_iload dX9_hasThing_108 rfl ?_
                refine n_bald (s0_48 L) (by omega) rfl dX9_hasThing_110 ?_
                refine x_as (K.2.2.2.2 _ hr).1 ?_
                refine b_if_ne 128 dX9_hasThing_111 rfl (fun z11 => ?_) (fun z11 => ?_)
                · refine x_iconst dX9_hasThing_128 iconst_0 ?_
                  refine x_istore_n dX9_hasThing_129 (by decide) rfl ?_
                  refine n_inc dX9_hasThing_130 rfl rfl ?_
                  refine x_goto 8 dX9_hasThing_133 rfl ?_
                  refine x_mask [true, true, true, true, true, true, false] ?_
                  have ih2 := ih
                  rw [show (anyK (fun k => tP w h ht t (G (r k)) c) (i + 1)) = false from (anyK_f z5).trans (by unfold tP; rw [if_neg (by omega), if_neg z8, if_pos z10, z11]; rfl)] at ih2
                  exact ih2
                · refine x_aload_n dX9_hasThing_114 rfl ?_
                  refine x_iload dX9_hasThing_115 rfl ?_
                  refine x_iload_n dX9_hasThing_117 rfl ?_
                  refine cV2 (mj := mX9_isCovered) lkX9_153 okX9_isCovered imX9_isCovered seX9_isCovered (s0_42 L) rfl rfl rfl rfl rfl dX9_hasThing_118 rfl (m_isCovered (by omega) (by omega) (lt31 (by omega) (fun x e => cov_lt e)) (D _ hr c hc).1 ?_)
                  refine b_if_eq 128 dX9_hasThing_121 rfl (fun z12 => ?_) (fun z12 => ?_)
                  · refine x_iconst dX9_hasThing_128 iconst_0 ?_
                    refine x_istore_n dX9_hasThing_129 (by decide) rfl ?_
                    refine n_inc dX9_hasThing_130 rfl rfl ?_
                    refine x_goto 8 dX9_hasThing_133 rfl ?_
                    refine x_mask [true, true, true, true, true, true, false] ?_
                    have ih2 := ih
                    rw [show (anyK (fun k => tP w h ht t (G (r k)) c) (i + 1)) = false from (anyK_f z5).trans (by unfold tP; rw [if_neg (by omega), if_neg z8, if_pos z10, z11, z12]; rfl)] at ih2
                    exact ih2
                  · refine x_iconst dX9_hasThing_124 iconst_1 ?_
                    refine x_goto 129 dX9_hasThing_125 rfl ?_
                    refine x_istore_n dX9_hasThing_129 (by decide) rfl ?_
                    refine n_inc dX9_hasThing_130 rfl rfl ?_
                    refine x_goto 8 dX9_hasThing_133 rfl ?_
                    refine x_mask [true, true, true, true, true, true, false] ?_
                    have ih2 := ih
                    rw [show (anyK (fun k => tP w h ht t (G (r k)) c) (i + 1)) = true from (anyK_f z5).trans (by unfold tP; rw [if_neg (by omega), if_neg z8, if_pos z10, z11, z12]; rfl)] at ih2
                    exact ih2
            · refine x_aload_n dX9_hasThing_86 rfl ?_
              refine x_iload dX9_hasThing_87 rfl ?_
              refine x_iload_n dX9_hasThing_89 rfl ?_
              refine cV2 (mj := mX9_isHeap) lkX9_166 okX9_isHeap imX9_isHeap seX9_isHeap (s0_42 L) rfl rfl rfl rfl rfl dX9_hasThing_90 rfl (m_isHeap (by omega) (by omega) (lt31 (by omega) (fun x e => cov_lt e)) (lt31 (n := 4) (by omega) (fun x e => Nat.le_of_lt (flw_lt e))) (K.2.2.2.2 _ hr).1 (D _ hr c hc).1 (D _ hr c hc).2 ?_)
              refine b_if_eq 128 dX9_hasThing_93 rfl (fun z9 => ?_) (fun z9 => ?_)
              · refine x_iconst dX9_hasThing_128 iconst_0 ?_
                refine x_istore_n dX9_hasThing_129 (by decide) rfl ?_
                refine n_inc dX9_hasThing_130 rfl rfl ?_
                refine x_goto 8 dX9_hasThing_133 rfl ?_
                refine x_mask [true, true, true, true, true, true, false] ?_
                have ih2 := ih
                rw [show (anyK (fun k => tP w h ht t (G (r k)) c) (i + 1)) = false from (anyK_f z5).trans (by unfold tP; rw [if_neg (by omega), if_pos z8]; exact z9)] at ih2
                exact ih2
              · refine x_goto 124 dX9_hasThing_96 rfl ?_
                refine x_iconst dX9_hasThing_124 iconst_1 ?_
                refine x_goto 129 dX9_hasThing_125 rfl ?_
                refine x_istore_n dX9_hasThing_129 (by decide) rfl ?_
                refine n_inc dX9_hasThing_130 rfl rfl ?_
                refine x_goto 8 dX9_hasThing_133 rfl ?_
                refine x_mask [true, true, true, true, true, true, false] ?_
                have ih2 := ih
                rw [show (anyK (fun k => tP w h ht t (G (r k)) c) (i + 1)) = true from (anyK_f z5).trans (by unfold tP; rw [if_neg (by omega), if_pos z8]; exact z9)] at ih2
                exact ih2
          · refine x_aload_n dX9_hasThing_67 rfl ?_
            refine x_iload dX9_hasThing_68 rfl ?_
            refine x_iload_n dX9_hasThing_70 rfl ?_
            refine x_iload_n dX9_hasThing_71 rfl ?_
            refine cV3 (mj := mX9_flowsIn) lkX9_200 okX9_flowsIn imX9_flowsIn seX9_flowsIn (s0_42 L) rfl rfl rfl rfl rfl dX9_hasThing_72 rfl (m_flowsIn (by omega) (by omega) (by omega) (lt31 (n := 4) (by omega) (fun x e => Nat.le_of_lt (flw_lt e))) (K.2.2.2.2 _ hr).1 (D _ hr c hc).2 ?_)
            refine b_if_eq 128 dX9_hasThing_75 rfl (fun z7 => ?_) (fun z7 => ?_)
            · refine x_iconst dX9_hasThing_128 iconst_0 ?_
              refine x_istore_n dX9_hasThing_129 (by decide) rfl ?_
              refine n_inc dX9_hasThing_130 rfl rfl ?_
              refine x_goto 8 dX9_hasThing_133 rfl ?_
              refine x_mask [true, true, true, true, true, true, false] ?_
              have ih2 := ih
              rw [show (anyK (fun k => tP w h ht t (G (r k)) c) (i + 1)) = false from (anyK_f z5).trans (by unfold tP; rw [if_pos z6]; exact z7)] at ih2
              exact ih2
            · refine x_goto 124 dX9_hasThing_78 rfl ?_
              refine x_iconst dX9_hasThing_124 iconst_1 ?_
              refine x_goto 129 dX9_hasThing_125 rfl ?_
              refine x_istore_n dX9_hasThing_129 (by decide) rfl ?_
              refine n_inc dX9_hasThing_130 rfl rfl ?_
              refine x_goto 8 dX9_hasThing_133 rfl ?_
              refine x_mask [true, true, true, true, true, true, false] ?_
              have ih2 := ih
              rw [show (anyK (fun k => tP w h ht t (G (r k)) c) (i + 1)) = true from (anyK_f z5).trans (by unfold tP; rw [if_pos z6]; exact z7)] at ih2
              exact ih2
      refine x_iload dX9_hasThing_8 rfl ?_
      refine x_aload_n dX9_hasThing_10 rfl ?_
      refine g_I (s0_42 L) fkX9_177 rfl rfl dX9_hasThing_11 ?_
      refine x_as RM.1 ?_
      refine n_icmp_ge 136 dX9_hasThing_14 rfl (by omega) (by omega) (fun h1 => by omega) (fun h1 => ?_)
      have hr := RV.2 i hi
      have hr6 : r i < 6 := by omega
      refine x_aload_n dX9_hasThing_17 rfl ?_
      refine g_R (s0_42 L) fkX9_53 rfl rfl rfl dX9_hasThing_18 ?_
      refine x_iload dX9_hasThing_21 rfl ?_
      refine n_iald (s0_57 L) (by omega) rfl dX9_hasThing_23 ?_
      refine x_as (RM.2 i hi) ?_
      refine x_istore dX9_hasThing_24 (by decide) rfl ?_
      refine x_iload dX9_hasThing_26 rfl ?_
      refine b_if_ne 51 dX9_hasThing_28 rfl (fun z1 => ?_) (fun z1 => ?_)
      · refine x_iconst dX9_hasThing_51 iconst_1 ?_
        refine x_goto 56 dX9_hasThing_52 rfl ?_
        refine x_istore dX9_hasThing_56 (by decide) rfl ?_
        have sg := seg
        rw [anyK_t z1] at sg
        exact sg
      · refine x_aload_n dX9_hasThing_31 rfl ?_
        refine g_R (s0_42 L) fkX9_25 rfl rfl rfl dX9_hasThing_32 ?_
        refine x_iload dX9_hasThing_35 rfl ?_
        refine n_bald (s0_48 L) (by omega) rfl dX9_hasThing_37 ?_
        refine x_as (K.2.2.2.2 _ hr).1 ?_
        refine b_if_eq 55 dX9_hasThing_38 rfl (fun z2 => ?_) (fun z2 => ?_)
        · refine x_iconst dX9_hasThing_55 iconst_0 ?_
          refine x_istore dX9_hasThing_56 (by decide) rfl ?_
          have sg := seg
          rw [show (anyK (fun k => icP w h ht (G (r k)) c) (i + 1)) = false from (anyK_f z1).trans (by simp only [icP, z2, Bool.false_and])] at sg
          exact sg
        · refine x_aload_n dX9_hasThing_41 rfl ?_
          refine x_iload dX9_hasThing_42 rfl ?_
          refine x_iload_n dX9_hasThing_44 rfl ?_
          refine cV2 (mj := mX9_isCovered) lkX9_153 okX9_isCovered imX9_isCovered seX9_isCovered (s0_42 L) rfl rfl rfl rfl rfl dX9_hasThing_45 rfl (m_isCovered (by omega) (by omega) (lt31 (by omega) (fun x e => cov_lt e)) (D _ hr c hc).1 ?_)
          refine b_if_eq 55 dX9_hasThing_48 rfl (fun z3 => ?_) (fun z3 => ?_)
          · refine x_iconst dX9_hasThing_55 iconst_0 ?_
            refine x_istore dX9_hasThing_56 (by decide) rfl ?_
            have sg := seg
            rw [show (anyK (fun k => icP w h ht (G (r k)) c) (i + 1)) = false from (anyK_f z1).trans (by simp only [icP, z2, z3, Bool.and_false])] at sg
            exact sg
          · refine x_iconst dX9_hasThing_51 iconst_1 ?_
            refine x_goto 56 dX9_hasThing_52 rfl ?_
            refine x_istore dX9_hasThing_56 (by decide) rfl ?_
            have sg := seg
            rw [show (anyK (fun k => icP w h ht (G (r k)) c) (i + 1)) = true from (anyK_f z1).trans (by simp only [icP, z2, z3, Bool.and_true])] at sg
            exact sg
  refine x_iconst dX9_hasThing_0 iconst_0 ?_
  refine x_istore_n dX9_hasThing_1 (by decide) rfl ?_
  refine x_iconst dX9_hasThing_2 iconst_0 ?_
  refine x_istore dX9_hasThing_3 (by decide) rfl ?_
  refine x_iconst dX9_hasThing_5 iconst_0 ?_
  refine x_istore dX9_hasThing_6 (by decide) rfl ?_
  exact l1

theorem mx_n {x y : Nat} (hx : x < 2 ^ 31) (hy : y < 2 ^ 31) : (if nI x < nI y then nI y else nI x) = nI (max x y) := by
  by_cases h : x < y
  · rw [if_pos ((nI_ltI hx hy).mpr h), Nat.max_eq_right (by omega)]
  · rw [if_neg (fun z => h ((nI_ltI hx hy).mp z)), Nat.max_eq_left (by omega)]
theorem mn_n {x y : Nat} (hx : x < 2 ^ 31) (hy : y < 2 ^ 31) : (if nI y < nI x then nI y else nI x) = nI (min x y) := by
  by_cases h : y < x
  · rw [if_pos ((nI_ltI hy hx).mpr h), Nat.min_eq_right (by omega)]
  · rw [if_neg (fun z => h ((nI_ltI hy hx).mp z)), Nat.min_eq_left (by omega)]
/-- a chain of sets stands still behind as many steps as there are cells -/
theorem ctf_le {D : Nat → Bool} : ∀ n, ctf D n ≤ n
  | 0 => Nat.le_refl _
  | n + 1 => by simp only [ctf]; have := ctf_le (D := D) n; split <;> omega
theorem ctf_one {D : Nat → Bool} {o : Nat} (hD : D o = true) : ∀ n, o < n → ctf D n + 1 ≤ n
  | 0, h => absurd h (by omega)
  | n + 1, h => by
    simp only [ctf]
    by_cases e : o = n
    · subst e; rw [hD]; have := ctf_le (D := D) o; simp; omega
    · have := ctf_one hD n (by omega); split <;> omega
theorem ctf_sub {D D2 : Nat → Bool} (hs : ∀ c, D c = true → D2 c = true) : ∀ n, ctf D2 n ≤ ctf D n
  | 0 => Nat.le_refl _
  | n + 1 => by
    simp only [ctf]
    have := ctf_sub hs n
    cases h1 : D n with
    | true => rw [hs n h1]; simp; omega
    | false => cases D2 n <;> simp <;> omega
theorem ctf_less {D D2 : Nat → Bool} (hs : ∀ c, D c = true → D2 c = true) {o : Nat} (h1 : D o = false) (h2 : D2 o = true) : ∀ n, o < n → ctf D2 n < ctf D n
  | 0, h => absurd h (by omega)
  | n + 1, h => by
    simp only [ctf]
    by_cases e : o = n
    · subst e; rw [h1, h2]; have := ctf_sub hs o; simp; omega
    · have := ctf_less hs h1 h2 n (by omega)
      cases h3 : D n with
      | true => rw [hs n h3]; simp; omega
      | false => cases D2 n <;> simp <;> omega
noncomputable def lkB (w h : Nat) (ht : Nat → Nat) (cv : Nat → Bool) (v k c : Nat) : Bool := @decide (lkN w h ht cv v k c) (Classical.propDecidable _)
theorem lkB_iff {w h : Nat} {ht : Nat → Nat} {cv : Nat → Bool} {v k c : Nat} : lkB w h ht cv v k c = true ↔ lkN w h ht cv v k c := by
  unfold lkB
  exact @decide_eq_true_iff _ (Classical.propDecidable _)
theorem lkB_no {w h : Nat} {ht : Nat → Nat} {cv : Nat → Bool} {v k c : Nat} (hn : ¬ lkN w h ht cv v k c) : lkB w h ht cv v k c = false := by
  cases e : lkB w h ht cv v k c with
  | false => rfl
  | true => exact absurd (lkB_iff.mp e) hn
theorem lk_next {w h : Nat} (H : WH w h) {ht : Nat → Nat} {cv : Nat → Bool} {v k : Nat} (hk : ∀ c, c < w * h → lkN w h ht cv v (k + 1) c → lkN w h ht cv v k c) : ∀ c, c < w * h → lkN w h ht cv v (k + 2) c → lkN w h ht cv v (k + 1) c := by
  intro c hc e
  rcases e with e | ⟨e1, e2, d, p, hd, hn, e3⟩
  · exact e
  · exact Or.inr ⟨e1, e2, d, p, hd, hn, hk p (nb_lt H hc hn) e3⟩
theorem lk_grow {w h : Nat} (H : WH w h) {ht : Nat → Nat} {cv : Nat → Bool} {v : Nat} : ∀ k, (∀ c, c < w * h → lkN w h ht cv v (k + 1) c → lkN w h ht cv v k c) ∨ ctf (lkB w h ht cv v k) (w * h) + (k + 1) ≤ w * h
  | 0 => by
    by_cases hx : ∃ c, c < w * h ∧ lkN w h ht cv v 0 c
    · obtain ⟨c, hc, h1⟩ := hx
      exact Or.inr (ctf_one (lkB_iff.mpr h1) (w * h) hc)
    · refine Or.inl (fun c hc e => ?_)
      rcases e with e | ⟨e1, e2, d, p, hd, hn, e3⟩
      · exact e
      · exact absurd ⟨p, nb_lt H hc hn, e3⟩ hx
  | k + 1 => by
    by_cases hs : ∀ c, c < w * h → lkN w h ht cv v (k + 1) c → lkN w h ht cv v k c
    · exact Or.inl (lk_next H hs)
    · rcases lk_grow H (ht := ht) (cv := cv) (v := v) k with h1 | h1
      · exact absurd h1 hs
      · have hx : ∃ c, c < w * h ∧ lkN w h ht cv v (k + 1) c ∧ ¬ lkN w h ht cv v k c := by
          apply Classical.byContradiction
          intro hz
          exact hs (fun c hc e => Classical.byContradiction (fun z => hz ⟨c, hc, e, z⟩))
        obtain ⟨c, hc, h2, h3⟩ := hx
        have := ctf_less (D := lkB w h ht cv v k) (D2 := lkB w h ht cv v (k + 1)) (fun c e => lkB_iff.mpr (Or.inl (lkB_iff.mp e))) (lkB_no h3) (lkB_iff.mpr h2) (w * h) hc
        exact Or.inr (by omega)
theorem lk_up {w h : Nat} {ht : Nat → Nat} {cv : Nat → Bool} {v k c : Nat} (e : lkN w h ht cv v k c) : ∀ n, lkN w h ht cv v (k + n) c
  | 0 => e
  | n + 1 => Or.inl (lk_up e n)
theorem lk_35 {w h : Nat} (H : WH w h) {ht : Nat → Nat} {cv : Nat → Bool} {v : Nat} : ∀ k c, c < w * h → lkN w h ht cv v k c → lkN w h ht cv v 35 c := by
  have st : ∀ c, c < w * h → lkN w h ht cv v 36 c → lkN w h ht cv v 35 c := by
    rcases lk_grow H (ht := ht) (cv := cv) (v := v) 35 with h1 | h1
    · exact h1
    · intro c hc _
      have e4 := H.le
      apply Classical.byContradiction
      intro hz
      have := ctf_pos (lkB_no hz) (w * h) hc
      omega
  have st2 : ∀ n c, c < w * h → lkN w h ht cv v (35 + n + 1) c → lkN w h ht cv v (35 + n) c := by
    intro n
    induction n with
    | zero => exact st
    | succ n ih => exact lk_next H ih
  have st3 : ∀ n c, c < w * h → lkN w h ht cv v (35 + n) c → lkN w h ht cv v 35 c := by
    intro n
    induction n with
    | zero => intro c hc e; exact e
    | succ n ih => intro c hc e; exact ih c hc (st2 n c hc e)
  intro k c hc e
  by_cases hk : k ≤ 35
  · have := lk_up e (35 - k)
    rwa [show k + (35 - k) = 35 by omega] at this
  · exact st3 (k - 35) c hc (by rw [show 35 + (k - 35) = k by omega]; exact e)
/-- one cell runs out -/
def rnK (w h : Nat) (ht sf : Nat → Nat) (c : Nat) : Nat → Nat
  | 0 => sf c
  | d + 1 => match nb w h c d with
    | none => rnK w h ht sf c d
    | some o => min (rnK w h ht sf c d) (max (sf o) (ht c))
theorem rnK_no {w h : Nat} {ht sf : Nat → Nat} {c d : Nat} (e : nb w h c d = none) : rnK w h ht sf c (d + 1) = rnK w h ht sf c d := by simp only [rnK, e]
theorem rnK_yes {w h : Nat} {ht sf : Nat → Nat} {c d o : Nat} (e : nb w h c d = some o) : rnK w h ht sf c (d + 1) = min (rnK w h ht sf c d) (max (sf o) (ht c)) := by simp only [rnK, e]
theorem rnK_le {w h : Nat} {ht sf : Nat → Nat} {c : Nat} : ∀ d, rnK w h ht sf c d ≤ sf c
  | 0 => Nat.le_refl _
  | d + 1 => by
    have ih := rnK_le (w := w) (h := h) (ht := ht) (sf := sf) (c := c) d
    cases hn : nb w h c d with
    | none => rw [rnK_no hn]; exact ih
    | some o => rw [rnK_yes hn]; omega
theorem rnK_to {w h : Nat} {ht sf : Nat → Nat} {c : Nat} : ∀ d d' o, d' < d → nb w h c d' = some o → rnK w h ht sf c d ≤ max (sf o) (ht c)
  | 0, d', o, h1, _ => absurd h1 (by omega)
  | d + 1, d', o, h1, h2 => by
    have ih := rnK_to (w := w) (h := h) (ht := ht) (sf := sf) (c := c) d d' o
    by_cases e : d' = d
    · subst e; rw [rnK_yes h2]; omega
    · have := ih (by omega) h2
      cases hn : nb w h c d with
      | none => rw [rnK_no hn]; exact this
      | some o2 => rw [rnK_yes hn]; omega
theorem rnK_is {w h : Nat} {ht sf : Nat → Nat} {c : Nat} : ∀ d, d ≤ 4 → rnK w h ht sf c d = sf c ∨ ∃ d' o, d' < 4 ∧ nb w h c d' = some o ∧ rnK w h ht sf c d = max (sf o) (ht c)
  | 0, _ => Or.inl rfl
  | d + 1, hd => by
    have ih := rnK_is (w := w) (h := h) (ht := ht) (sf := sf) (c := c) d (by omega)
    cases hn : nb w h c d with
    | none => rw [rnK_no hn]; exact ih
    | some o =>
      rw [rnK_yes hn]
      by_cases hm : rnK w h ht sf c d ≤ max (sf o) (ht c)
      · rw [Nat.min_eq_left hm]; exact ih
      · rw [Nat.min_eq_right (by omega)]; exact Or.inr ⟨d, o, by omega, hn, rfl⟩
theorem nb_ne {w h c d o : Nat} (H : WH w h) (e : nb w h c d = some o) (hd : d < 4) : o ≠ c := by
  have hw := H.1
  rcases (show d = 0 ∨ d = 1 ∨ d = 2 ∨ d = 3 by omega) with rfl | rfl | rfl | rfl
  · have := nb_0 e; omega
  · have := nb_1 e; omega
  · have := nb_2 e; omega
  · have := nb_3 e; omega
def setN (f : Nat → Nat) (c v : Nat) : Nat → Nat := fun q => if q = c then v else f q
theorem setN_at (f : Nat → Nat) (c v : Nat) : setN f c v c = v := if_pos rfl
theorem setN_ne (f : Nat → Nat) {c q : Nat} (v : Nat) (h : q ≠ c) : setN f c v q = f q := if_neg h
/-- the surface: sound; no higher than what r steps drain -/
def WS (w h : Nat) (ht : Nat → Nat) (cv : Nat → Bool) (sf : Nat → Nat) : Prop := ∀ c, c < w * h → sf c ≤ 100 ∧ (sf c < 100 → ∃ k, lkN w h ht cv (sf c) k c)
def WR (w h : Nat) (ht : Nat → Nat) (cv : Nat → Bool) (sf : Nat → Nat) (r : Nat) (c : Nat) : Prop := ∀ v, v < 100 → lkN w h ht cv v r c → sf c ≤ v
def WC (w h : Nat) (ht sf : Nat → Nat) (c : Nat) : Prop := ∀ d o, d < 4 → nb w h c d = some o → sf c ≤ max (sf o) (ht c)
section WW
variable {w h : Nat} {ht sf : Nat → Nat} {cv : Nat → Bool} {c : Nat}
theorem WS.run (H : WH w h) (hht : ∀ c, c < w * h → ht c ≤ 99) (S : WS w h ht cv sf) (hc : c < w * h) (hv : cv c = false) : WS w h ht cv (setN sf c (rnK w h ht sf c 4)) := by
  intro q hq
  by_cases e : q = c
  · subst e
    rw [setN_at]
    have h1 := rnK_le (w := w) (h := h) (ht := ht) (sf := sf) (c := q) 4
    refine ⟨Nat.le_trans h1 (S q hq).1, fun hl => ?_⟩
    rcases rnK_is (w := w) (h := h) (ht := ht) (sf := sf) (c := q) 4 (by omega) with h2 | ⟨d, o, hd, hn, h2⟩
    · rw [h2] at hl ⊢; exact (S q hq).2 hl
    · rw [h2] at hl ⊢
      obtain ⟨k, hk⟩ := (S o (nb_lt H hq hn)).2 (by omega)
      exact ⟨k + 1, Or.inr ⟨hv, by omega, d, o, hd, hn, lkN_mono (by omega) k o hk⟩⟩
  · rw [setN_ne _ _ e]; exact S q hq
theorem WR.low {sf2 : Nat → Nat} {r : Nat} (hl : sf2 c ≤ sf c) (R : WR w h ht cv sf r c) : WR w h ht cv sf2 r c := fun v hv e => Nat.le_trans hl (R v hv e)
theorem WR.run {r : Nat} (H : WH w h) (hc : c < w * h) (R : ∀ q, q < w * h → WR w h ht cv sf r q) : WR w h ht cv (setN sf c (rnK w h ht sf c 4)) (r + 1) c := by
  intro v hv e
  rw [setN_at]
  rcases e with e | ⟨e1, e2, d, p, hd, hn, e3⟩
  · exact Nat.le_trans (rnK_le 4) (R c hc v hv e)
  · have h1 := rnK_to (w := w) (h := h) (ht := ht) (sf := sf) (c := c) 4 d p hd hn
    have h2 := R p (nb_lt H hc hn) v hv e3
    omega
theorem WR.cov {r : Nat} (hv : cv c = true) : WR w h ht cv sf r c := by
  intro v _ e
  have : ∀ k, ¬ lkN w h ht cv v k c := by
    intro k
    induction k with
    | zero => intro e; rw [e.1] at hv; cases hv
    | succ k ih =>
      intro e
      rcases e with e | ⟨e1, _⟩
      · exact ih e
      · rw [e1] at hv; cases hv
  exact absurd e (this r)
def lvO (sf : Nat → Nat) (c : Nat) : Option Nat := if sf c < 100 then some (sf c) else none
theorem lvO_of {x : Nat} (e : lvO sf c = some x) : sf c = x ∧ x < 100 := by
  unfold lvO at e
  split at e
  · cases e; rename_i h1; exact ⟨rfl, h1⟩
  · cases e
theorem WS.lake (H : WH w h) (hht : ∀ c, c < w * h → ht c ≤ 99) (S : WS w h ht cv sf) {r : Nat} (R : ∀ c, c < w * h → WR w h ht cv sf r c) (C : ∀ c, c < w * h → cv c = false → WC w h ht sf c) : IsLk w h ht cv (lvO sf) := by
  refine lake_is H (fun c hc x e => ?_) (fun c hc e1 e2 => ?_) (fun c d o x hc hd hn e1 e2 => ?_)
  · obtain ⟨rfl, h1⟩ := lvO_of e
    exact (S c hc).2 h1
  · have h9 := hht c hc
    have h1 := R c hc (ht c) (by omega) (by have := lk_up (k := 0) (show lkN w h ht cv (ht c) 0 c from ⟨e1, e2, Nat.le_refl _⟩) r; rwa [Nat.zero_add] at this)
    exact ⟨sf c, if_pos (by omega), h1⟩
  · obtain ⟨rfl, h1⟩ := lvO_of e2
    have h9 := hht c hc
    have h2 := C c hc e1 d o hd hn
    exact ⟨sf c, if_pos (by omega), by omega⟩
theorem WS.closed (H : WH w h) (hht : ∀ c, c < w * h → ht c ≤ 99) (S : WS w h ht cv sf) (R : ∀ c, c < w * h → WR w h ht cv sf 36 c) : ∀ c, c < w * h → cv c = false → WC w h ht sf c := by
  intro c hc hv d o hd hn
  have h9 := hht c hc
  have ho := nb_lt H hc hn
  by_cases h1 : sf o < 100
  · obtain ⟨k, hk⟩ := (S o ho).2 h1
    exact R c hc (max (sf o) (ht c)) (by omega) (Or.inr ⟨hv, by omega, d, o, hd, hn, lkN_mono (by omega) 35 o (lk_35 H k o ho hk)⟩)
  · have := (S c hc).1
    omega
end WW
set_option maxRecDepth 100000 in
set_option maxHeartbeats 4000000 in
theorem k_isClosed {E : vE} {l : Launch} {Q : Option Value → vS → vM → Prop} {L : Nat} {M : vM} {w h : Nat} (H : WH w h) {sf : Nat → Nat} (hS : ∀ c, c < w * h → M 38 c = nI (sf c)) (h100 : ∀ c, c < w * h → sf c ≤ 100) {c : Nat} (hc : c < w * h) (hQ : Q (some (.int (bI (lvO sf c).isNone))) (S0 L) M) : PM E l mX7_isClosed 0 [.ref 37, .int (nI c)] [] (S0 L) M 0 0 Q := by
  have e4 := H.le
  have h1 := h100 c hc
  refine x_aload_n dX7_isClosed_0 rfl ?_
  refine g_R (s0_37 L) fkX7_9 rfl rfl rfl dX7_isClosed_1 ?_
  refine x_iload_n dX7_isClosed_4 rfl ?_
  refine n_iald (s0_38 L) (by omega) rfl dX7_isClosed_5 ?_
  refine x_as (hS c hc) ?_
  refine x_bipush dX7_isClosed_6 bipush_100 ?_
  refine n_icmp_ne 15 dX7_isClosed_8 rfl (by omega) (by omega) (fun y1 => ?_) (fun y1 => ?_)
  · refine x_iconst dX7_isClosed_15 iconst_0 ?_
    refine x_iret dX7_isClosed_16 rfl (by first | exact bI_nar _ | exact n1_nar | exact n0_nar) ?_
    rw [show (lvO sf c).isNone = false from by unfold lvO; rw [if_pos (by omega)]; rfl] at hQ
    exact hQ
  · refine x_iconst dX7_isClosed_11 iconst_1 ?_
    refine x_goto 16 dX7_isClosed_12 rfl ?_
    refine x_iret dX7_isClosed_16 rfl (by first | exact bI_nar _ | exact n1_nar | exact n0_nar) ?_
    rw [show (lvO sf c).isNone = true from by unfold lvO; rw [if_neg (by omega)]; rfl] at hQ
    exact hQ
set_option maxRecDepth 100000 in
set_option maxHeartbeats 4000000 in
theorem k_runOut {E : vE} {l : Launch} {Q : Option Value → vS → vM → Prop} {L : Nat} {M : vM} {w h : Nat} {ht : Nat → Nat} (H : WH w h) (K : GrC M w h) (hH : ∀ c, c < w * h → M 5 c = nI (ht c)) (hht : ∀ c, c < w * h → ht c ≤ 99) {sf : Nat → Nat} (hS : ∀ c, c < w * h → M 38 c = nI (sf c)) (h100 : ∀ c, c < w * h → sf c ≤ 100) {c : Nat} (hc : c < w * h) (hQ : ∀ M1 : vM, Fr [38] M M1 → (∀ q, q < w * h → M1 38 q = nI (setN sf c (rnK w h ht sf c 4) q)) → Q (some (.int (bI (decide ((rnK w h ht sf c 4) < sf c))))) (S0 L) M1) : PM E l mX7_runOut 0 [.ref 37, .int (nI c), .null, .null, .null] [] (S0 L) M 0 0 Q := by
  have e4 := H.le
  have l1 : ∀ M1 : vM, Fr [38] M M1 → (∀ q, q < w * h → M1 38 q = nI (setN sf c (rnK w h ht sf c 0) q)) → PM E l mX7_runOut 9 [.ref 37, .int (nI c), .int (nI (sf c)), .int (nI 0), .null] [] (S0 L) M1 0 0 Q := by
    refine lp_up (P := fun i => ∀ M1 : vM, Fr [38] M M1 → (∀ q, q < w * h → M1 38 q = nI (setN sf c (rnK w h ht sf c i) q)) → PM E l mX7_runOut 9 [.ref 37, .int (nI c), .int (nI (sf c)), .int (nI i), .null] [] (S0 L) M1 0 0 Q) 4 ?_ ?_ 0 (by omega)
    · intro M1 g1 g2
      have r1 := rnK_le (w := w) (h := h) (ht := ht) (sf := sf) (c := c) 4
      have r2 := h100 c hc
      refine x_iload_n dX7_runOut_9 rfl ?_
      refine x_iconst dX7_runOut_10 iconst_4 ?_
      refine n_icmp_ge 74 dX7_runOut_11 rfl (by omega) (by omega) (fun h1 => ?_) (fun h1 => by omega)
      refine x_aload_n dX7_runOut_74 rfl ?_
      refine g_R (s0_37 L) fkX7_9 rfl rfl rfl dX7_runOut_75 ?_
      refine x_iload_n dX7_runOut_78 rfl ?_
      refine n_iald (s0_38 L) (by omega) rfl dX7_runOut_79 ?_
      refine x_as ((g2 c hc).trans (by rw [setN_at])) ?_
      refine x_iload_n dX7_runOut_80 rfl ?_
      refine n_icmp_ge 88 dX7_runOut_81 rfl (by omega) (by omega) (fun y1 => ?_) (fun y1 => ?_)
      · refine x_iconst dX7_runOut_88 iconst_0 ?_
        refine x_iret dX7_runOut_89 rfl (by first | exact bI_nar _ | exact n1_nar | exact n0_nar) ?_
        have q1 := hQ M1 g1 g2
        rw [show decide (rnK w h ht sf c 4 < sf c) = false from decide_eq_false (by omega)] at q1
        exact q1
      · refine x_iconst dX7_runOut_84 iconst_1 ?_
        refine x_goto 89 dX7_runOut_85 rfl ?_
        refine x_iret dX7_runOut_89 rfl (by first | exact bI_nar _ | exact n1_nar | exact n0_nar) ?_
        have q1 := hQ M1 g1 g2
        rw [show decide (rnK w h ht sf c 4 < sf c) = true from decide_eq_true y1] at q1
        exact q1
    · intro i hi ih M1 g1 g2
      have r1 := rnK_le (w := w) (h := h) (ht := ht) (sf := sf) (c := c) i
      have r2 := h100 c hc
      have r3 := hht c hc
      refine x_iload_n dX7_runOut_9 rfl ?_
      refine x_iconst dX7_runOut_10 iconst_4 ?_
      refine n_icmp_ge 74 dX7_runOut_11 rfl (by omega) (by omega) (fun h1 => by omega) (fun h1 => ?_)
      refine x_aload_n dX7_runOut_14 rfl ?_
      refine g_R (s0_37 L) fkX7_15 rfl rfl rfl dX7_runOut_15 ?_
      refine g_R (s0_4 L) fkX7_45 rfl rfl rfl dX7_runOut_18 ?_
      refine x_iconst dX7_runOut_21 iconst_4 ?_
      refine x_iload_n dX7_runOut_22 rfl ?_
      refine n_imul dX7_runOut_23 ?_
      refine x_iload_n dX7_runOut_24 rfl ?_
      refine n_iadd dX7_runOut_25 ?_
      refine n_iald (s0_7 L) (by omega) rfl dX7_runOut_26 ?_
      refine x_as ((congrFun (g1 7 (by decide)) _).trans (K.2 c i hc hi)) ?_
      rcases hnb : nb w h c i with _ | o
      · rw [oI_none]
        refine x_istore dX7_runOut_27 (by decide) rfl ?_
        refine x_iload dX7_runOut_29 rfl ?_
        refine x_if_lt 68 dX7_runOut_31 rfl (fun y1 => ?_) (fun y1 => by exact absurd (show (-1 : Int32) < 0 by decide) y1)
        refine n_inc dX7_runOut_68 rfl rfl ?_
        refine x_goto 9 dX7_runOut_71 rfl ?_
        refine x_mask [true, true, true, true, false] ?_
        refine ih M1 g1 ?_
        rw [rnK_no hnb]
        exact g2
      · rw [oI_some]
        have ho := nb_lt H hc hnb
        have hne := nb_ne H hnb hi
        have r4 := h100 o ho
        refine x_istore dX7_runOut_27 (by decide) rfl ?_
        refine x_iload dX7_runOut_29 rfl ?_
        refine x_if_lt 68 dX7_runOut_31 rfl (fun y1 => by exact absurd y1 (nI_pos (by omega))) (fun y1 => ?_)
        refine x_aload_n dX7_runOut_34 rfl ?_
        refine g_R (s0_37 L) fkX7_9 rfl rfl rfl dX7_runOut_35 ?_
        refine x_iload_n dX7_runOut_38 rfl ?_
        refine x_aload_n dX7_runOut_39 rfl ?_
        refine g_R (s0_37 L) fkX7_9 rfl rfl rfl dX7_runOut_40 ?_
        refine x_iload_n dX7_runOut_43 rfl ?_
        refine n_iald (s0_38 L) (by omega) rfl dX7_runOut_44 ?_
        refine x_as ((g2 c hc).trans (by rw [setN_at])) ?_
        refine x_aload_n dX7_runOut_45 rfl ?_
        refine g_R (s0_37 L) fkX7_9 rfl rfl rfl dX7_runOut_46 ?_
        refine x_iload dX7_runOut_49 rfl ?_
        refine n_iald (s0_38 L) (by omega) rfl dX7_runOut_51 ?_
        refine x_as ((g2 o ho).trans (by rw [setN_ne _ _ hne])) ?_
        refine x_aload_n dX7_runOut_52 rfl ?_
        refine g_R (s0_37 L) fkX7_15 rfl rfl rfl dX7_runOut_53 ?_
        refine g_R (s0_4 L) fkX7_39 rfl rfl rfl dX7_runOut_56 ?_
        refine x_iload_n dX7_runOut_59 rfl ?_
        refine n_iald (s0_5 L) (by omega) rfl dX7_runOut_60 ?_
        refine x_as ((congrFun (g1 5 (by decide)) _).trans (hH c hc)) ?_
        refine x_mmax mkX7_48 (Nat.le_of_ble_eq_true rfl) (Nat.le_of_ble_eq_true rfl) dX7_runOut_61 ?_
        refine x_as (mx_n (by omega) (by omega)) ?_
        refine x_mmin mkX7_54 (Nat.le_of_ble_eq_true rfl) (Nat.le_of_ble_eq_true rfl) dX7_runOut_64 ?_
        refine x_as (mn_n (by omega) (by omega)) ?_
        refine n_iast rfl (s0_38 L) (by omega) rfl dX7_runOut_67 ?_
        refine n_inc dX7_runOut_68 rfl rfl ?_
        refine x_goto 9 dX7_runOut_71 rfl ?_
        refine x_mask [true, true, true, true, false] ?_
        refine ih _ (g1.set _ (by decide)) (fun q hq => ?_)
        rw [rnK_yes hnb]
        show upd (M1 38) c _ q = _
        by_cases e : q = c
        · subst e; rw [setN_at]; exact upd_at _ _ _
        · rw [setN_ne _ _ e, upd_ne _ _ e, g2 q hq, setN_ne _ _ e]
  refine x_aload_n dX7_runOut_0 rfl ?_
  refine g_R (s0_37 L) fkX7_9 rfl rfl rfl dX7_runOut_1 ?_
  refine x_iload_n dX7_runOut_4 rfl ?_
  refine n_iald (s0_38 L) (by omega) rfl dX7_runOut_5 ?_
  refine x_as (hS c hc) ?_
  refine x_istore_n dX7_runOut_6 (by decide) rfl ?_
  refine x_iconst dX7_runOut_7 iconst_0 ?_
  refine x_istore_n dX7_runOut_8 (by decide) rfl ?_
  refine l1 M Fr.rf (fun q hq => ?_)
  show M 38 q = nI (setN sf c (sf c) q)
  rw [hS q hq]
  by_cases e : q = c
  · subst e; rw [setN_at]
  · rw [setN_ne _ _ e]
set_option maxRecDepth 100000 in
set_option maxHeartbeats 4000000 in
theorem k_standR {E : vE} {l : Launch} {Q : Option Value → vS → vM → Prop} {L : Nat} {M : vM} {w h ng : Nat} {ht : Nat → Nat} {G : Nat → vQ} (V : GoV w h ng ht G) (K : GoC M w h ng ht G) (D : LdC M w h ng ht G) {g : Nat} (hg : g < ng) (hQ : ∀ (M1 : vM) (sf : Nat → Nat), Fr [38] M M1 → (∀ c, c < w * h → M1 38 c = nI (sf c)) → (∀ c, c < w * h → sf c ≤ 100) → IsLk w h ht (cvB w h ht (G g)) (lvO sf) → Q none (S0 L) M1) : ∀ (M1 : vM) (sf : Nat → Nat) (s : Bool), Fr [38] M M1 → (∀ c, c < w * h → M1 38 c = nI (sf c)) → WS w h ht (cvB w h ht (G g)) sf → (∀ c, c < w * h → WR w h ht (cvB w h ht (G g)) sf 0 c) → (s = false → ∀ c, c < w * h → (cvB w h ht (G g)) c = false → WC w h ht sf c) → PM E l mX7_stand 76 [.ref 37, .int (nI g), .int (bI s), .int (nI 0), .null] [] (S0 L) M1 0 0 Q := by
  have H := V.1
  have e4 := H.le
  have hng := V.2.2.1
  have hht := V.2.1
  refine lp_up (P := fun r => ∀ (M1 : vM) (sf : Nat → Nat) (s : Bool), Fr [38] M M1 → (∀ c, c < w * h → M1 38 c = nI (sf c)) → WS w h ht (cvB w h ht (G g)) sf → (∀ c, c < w * h → WR w h ht (cvB w h ht (G g)) sf r c) → (s = false → ∀ c, c < w * h → (cvB w h ht (G g)) c = false → WC w h ht sf c) → PM E l mX7_stand 76 [.ref 37, .int (nI g), .int (bI s), .int (nI r), .null] [] (S0 L) M1 0 0 Q) 36 ?_ ?_ 0 (by omega)
  · intro M1 sf s g1 g2 g3 g4 g5
    refine x_iload_n dX7_stand_76 rfl ?_
    refine x_bipush dX7_stand_77 bipush_36 ?_
    refine n_icmp_ge 147 dX7_stand_79 rfl (by omega) (by omega) (fun h1 => ?_) (fun h1 => by omega)
    refine x_vret dX7_stand_147 rfl ?_
    exact hQ M1 sf g1 g2 (fun c hc => (g3 c hc).1) (g3.lake H hht g4 (g3.closed H hht g4))
  · intro r hr ih M1 sf s g1 g2 g3 g4 g5
    have li : ∀ (M1 : vM) (sf : Nat → Nat) (s : Bool), Fr [38] M M1 → (∀ c, c < w * h → M1 38 c = nI (sf c)) → WS w h ht (cvB w h ht (G g)) sf → (∀ c, c < w * h → WR w h ht (cvB w h ht (G g)) sf r c) → (∀ c, c < 0 → WR w h ht (cvB w h ht (G g)) sf (r + 1) c) → (s = false → ∀ c, c < 0 → (cvB w h ht (G g)) c = false → WC w h ht sf c) → PM E l mX7_stand 91 [.ref 37, .int (nI g), .int (bI s), .int (nI r), .int (nI 0)] [] (S0 L) M1 0 0 Q := by
      refine lp_up (P := fun i => ∀ (M1 : vM) (sf : Nat → Nat) (s : Bool), Fr [38] M M1 → (∀ c, c < w * h → M1 38 c = nI (sf c)) → WS w h ht (cvB w h ht (G g)) sf → (∀ c, c < w * h → WR w h ht (cvB w h ht (G g)) sf r c) → (∀ c, c < i → WR w h ht (cvB w h ht (G g)) sf (r + 1) c) → (s = false → ∀ c, c < i → (cvB w h ht (G g)) c = false → WC w h ht sf c) → PM E l mX7_stand 91 [.ref 37, .int (nI g), .int (bI s), .int (nI r), .int (nI i)] [] (S0 L) M1 0 0 Q) (w * h) ?_ ?_ 0 (Nat.zero_le _)
      · intro M1 sf s g1 g2 g3 g4 g5 g6
        refine x_iload dX7_stand_91 rfl ?_
        refine x_aload_n dX7_stand_93 rfl ?_
        refine g_R (s0_37 L) fkX7_15 rfl rfl rfl dX7_stand_94 ?_
        refine g_I (s0_4 L) fkX7_23 rfl rfl dX7_stand_97 ?_
        refine x_as ((congrFun (g1 4 (by decide)) _).trans (K.1.1)) ?_
        refine n_icmp_ge 141 dX7_stand_100 rfl (by omega) (by omega) (fun h1 => ?_) (fun h1 => by omega)
        refine n_inc dX7_stand_141 rfl rfl ?_
        refine x_goto 76 dX7_stand_144 rfl ?_
        refine x_mask [true, true, true, true, false] ?_
        exact ih M1 sf s g1 g2 g3 g5 g6
      · intro i hi ihi M1 sf s g1 g2 g3 g4 g5 g6
        obtain ⟨⟨od, hod, hd1, hd2, hd3⟩, -⟩ := D g hg i hi
        refine x_iload dX7_stand_91 rfl ?_
        refine x_aload_n dX7_stand_93 rfl ?_
        refine g_R (s0_37 L) fkX7_15 rfl rfl rfl dX7_stand_94 ?_
        refine g_I (s0_4 L) fkX7_23 rfl rfl dX7_stand_97 ?_
        refine x_as ((congrFun (g1 4 (by decide)) _).trans (K.1.1)) ?_
        refine n_icmp_ge 141 dX7_stand_100 rfl (by omega) (by omega) (fun h1 => by omega) (fun h1 => ?_)
        refine x_aload_n dX7_stand_103 rfl ?_
        refine g_R (s0_37 L) fkX7_19 rfl rfl rfl dX7_stand_104 ?_
        refine x_iload_n dX7_stand_107 rfl ?_
        refine x_iload dX7_stand_108 rfl ?_
        refine cV2 (mj := mX0_isCovered) lkX7_33 okX0_isCovered imX0_isCovered seX0_isCovered (s0_12 L) rfl rfl rfl rfl rfl dX7_stand_110 rfl (k_isCovered (by omega) (by omega) (lt31 (n := 36) (by omega) hd3) ((congrFun (g1 18 (by decide)) _).trans (hod)) ?_)
        rw [hd1]
        refine b_if_ne 125 dX7_stand_113 rfl (fun y1 => ?_) (fun y1 => ?_)
        · refine x_iload_n dX7_stand_125 rfl ?_
          refine b_if_eq 133 dX7_stand_126 rfl (fun y3 => ?_) (fun y3 => ?_)
          · refine x_iconst dX7_stand_133 iconst_0 ?_
            refine x_istore_n dX7_stand_134 (by decide) rfl ?_
            refine n_inc dX7_stand_135 rfl rfl ?_
            refine x_goto 91 dX7_stand_138 rfl ?_
            have ih2 := ihi M1 sf false g1 g2 g3 g4
            refine ih2 (fun c hc => ?_) (fun hs c hc hv => ?_)
            · by_cases e : c = i
              · subst e; exact WR.cov y1
              · exact g5 c (by omega)
            · by_cases e : c = i
              · subst e; rw [show (cvB w h ht (G g)) c = true from y1] at hv; cases hv
              · exact g6 y3 c (by omega) hv
          · refine x_iconst dX7_stand_129 iconst_1 ?_
            refine x_goto 134 dX7_stand_130 rfl ?_
            refine x_istore_n dX7_stand_134 (by decide) rfl ?_
            refine n_inc dX7_stand_135 rfl rfl ?_
            refine x_goto 91 dX7_stand_138 rfl ?_
            have ih2 := ihi M1 sf true g1 g2 g3 g4
            refine ih2 (fun c hc => ?_) (fun hs => by cases hs)
            by_cases e : c = i
            · subst e; exact WR.cov y1
            · exact g5 c (by omega)
        · refine x_aload_n dX7_stand_116 rfl ?_
          refine x_iload dX7_stand_117 rfl ?_
          refine cV1 (mj := mX7_runOut) lkX7_42 okX7_runOut imX7_runOut seX7_runOut (s0_37 L) rfl rfl rfl rfl rfl dX7_stand_119 rfl (k_runOut H (show GrC M1 w h from ⟨((congrFun (g1 4 (by decide)) _).trans (K.1.1)), fun c d hc hd => ((congrFun (g1 7 (by decide)) _).trans (K.1.2 c d hc hd))⟩) (fun c hc => ((congrFun (g1 5 (by decide)) _).trans (K.2.1 c hc))) hht g2 (fun c hc => (g3 c hc).1) hi (fun M2 k1 k2 => ?_))
          refine b_if_ne 129 dX7_stand_122 rfl (fun y2 => ?_) (fun y2 => ?_)
          · refine x_iconst dX7_stand_129 iconst_1 ?_
            refine x_goto 134 dX7_stand_130 rfl ?_
            refine x_istore_n dX7_stand_134 (by decide) rfl ?_
            refine n_inc dX7_stand_135 rfl rfl ?_
            refine x_goto 91 dX7_stand_138 rfl ?_
            have q1 : ∀ c, c < w * h → WR w h ht (cvB w h ht (G g)) (setN sf i (rnK w h ht sf i 4)) r c := fun c hc => (g4 c hc).low (by by_cases e : c = i; subst e; rw [setN_at]; exact rnK_le 4; rw [setN_ne _ _ e]; exact Nat.le_refl _)
            have q2 : ∀ c, c < i + 1 → WR w h ht (cvB w h ht (G g)) (setN sf i (rnK w h ht sf i 4)) (r + 1) c := by
              intro c hc
              by_cases e : c = i
              · subst e; exact WR.run H hi g4
              · exact (g5 c (by omega)).low (by rw [setN_ne _ _ e]; exact Nat.le_refl _)
            have q3 := WS.run H hht g3 hi (show (cvB w h ht (G g)) i = false from y1)
            exact ihi M2 _ true (g1.trans k1) k2 q3 q1 q2 (fun hs => by cases hs)
          · refine x_iload_n dX7_stand_125 rfl ?_
            refine b_if_eq 133 dX7_stand_126 rfl (fun y3 => ?_) (fun y3 => ?_)
            · refine x_iconst dX7_stand_133 iconst_0 ?_
              refine x_istore_n dX7_stand_134 (by decide) rfl ?_
              refine n_inc dX7_stand_135 rfl rfl ?_
              refine x_goto 91 dX7_stand_138 rfl ?_
              have q1 : ∀ c, c < w * h → WR w h ht (cvB w h ht (G g)) (setN sf i (rnK w h ht sf i 4)) r c := fun c hc => (g4 c hc).low (by by_cases e : c = i; subst e; rw [setN_at]; exact rnK_le 4; rw [setN_ne _ _ e]; exact Nat.le_refl _)
              have q2 : ∀ c, c < i + 1 → WR w h ht (cvB w h ht (G g)) (setN sf i (rnK w h ht sf i 4)) (r + 1) c := by
                intro c hc
                by_cases e : c = i
                · subst e; exact WR.run H hi g4
                · exact (g5 c (by omega)).low (by rw [setN_ne _ _ e]; exact Nat.le_refl _)
              have q3 := WS.run H hht g3 hi (show (cvB w h ht (G g)) i = false from y1)
              have q4 : rnK w h ht sf i 4 = sf i := by have := of_decide_eq_false y2; have := rnK_le (w := w) (h := h) (ht := ht) (sf := sf) (c := i) 4; omega
              have q5 : setN sf i (rnK w h ht sf i 4) = sf := by funext c; by_cases e : c = i; subst e; rw [setN_at, q4]; rw [setN_ne _ _ e]
              rw [q5] at q1 q2 q3 k2
              refine ihi M2 sf false (g1.trans k1) k2 q3 q1 q2 (fun hs c hc hv => ?_)
              by_cases e : c = i
              · subst e; intro d o hd hn; rw [← q4]; exact rnK_to 4 d o hd hn
              · exact g6 y3 c (by omega) hv
            · refine x_iconst dX7_stand_129 iconst_1 ?_
              refine x_goto 134 dX7_stand_130 rfl ?_
              refine x_istore_n dX7_stand_134 (by decide) rfl ?_
              refine n_inc dX7_stand_135 rfl rfl ?_
              refine x_goto 91 dX7_stand_138 rfl ?_
              have q1 : ∀ c, c < w * h → WR w h ht (cvB w h ht (G g)) (setN sf i (rnK w h ht sf i 4)) r c := fun c hc => (g4 c hc).low (by by_cases e : c = i; subst e; rw [setN_at]; exact rnK_le 4; rw [setN_ne _ _ e]; exact Nat.le_refl _)
              have q2 : ∀ c, c < i + 1 → WR w h ht (cvB w h ht (G g)) (setN sf i (rnK w h ht sf i 4)) (r + 1) c := by
                intro c hc
                by_cases e : c = i
                · subst e; exact WR.run H hi g4
                · exact (g5 c (by omega)).low (by rw [setN_ne _ _ e]; exact Nat.le_refl _)
              have q3 := WS.run H hht g3 hi (show (cvB w h ht (G g)) i = false from y1)
              exact ihi M2 _ true (g1.trans k1) k2 q3 q1 q2 (fun hs => by cases hs)
    refine x_iload_n dX7_stand_76 rfl ?_
    refine x_bipush dX7_stand_77 bipush_36 ?_
    refine n_icmp_ge 147 dX7_stand_79 rfl (by omega) (by omega) (fun h1 => by omega) (fun h1 => ?_)
    refine x_iload_n dX7_stand_82 rfl ?_
    refine b_if_eq 147 dX7_stand_83 rfl (fun y0 => ?_) (fun y0 => ?_)
    · refine x_vret dX7_stand_147 rfl ?_
      exact hQ M1 sf g1 g2 (fun c hc => (g3 c hc).1) (g3.lake H hht g4 (g5 y0))
    · refine x_iconst dX7_stand_86 iconst_0 ?_
      refine x_istore_n dX7_stand_87 (by decide) rfl ?_
      refine x_iconst dX7_stand_88 iconst_0 ?_
      refine x_istore dX7_stand_89 (by decide) rfl ?_
      exact li M1 sf false g1 g2 g3 g4 (fun c hc => absurd hc (by omega)) (fun _ c hc => absurd hc (by omega))
noncomputable def sf0 (w h : Nat) (ht : Nat → Nat) (cv : Nat → Bool) (c : Nat) : Nat := if edg w h c = true ∧ cv c = false then ht c else 100
set_option maxRecDepth 100000 in
set_option maxHeartbeats 4000000 in
theorem k_stand {E : vE} {l : Launch} {Q : Option Value → vS → vM → Prop} {L : Nat} {M : vM} {w h ng : Nat} {ht : Nat → Nat} {G : Nat → vQ} (V : GoV w h ng ht G) (K : GoC M w h ng ht G) (D : LdC M w h ng ht G) {g : Nat} (hg : g < ng) (hQ : ∀ (M1 : vM) (sf : Nat → Nat), Fr [38] M M1 → (∀ c, c < w * h → M1 38 c = nI (sf c)) → (∀ c, c < w * h → sf c ≤ 100) → IsLk w h ht (cvB w h ht (G g)) (lvO sf) → Q none (S0 L) M1) : PM E l mX7_stand 0 [.ref 37, .int (nI g), .null, .null, .null] [] (S0 L) M 0 0 Q := by
  have H := V.1
  have e4 := H.le
  have hng := V.2.2.1
  have hht := V.2.1
  have l1 : ∀ M1 : vM, Fr [38] M M1 → (∀ c, c < 0 → M1 38 c = nI (sf0 w h ht (cvB w h ht (G g)) c)) → PM E l mX7_stand 2 [.ref 37, .int (nI g), .int (nI 0), .null, .null] [] (S0 L) M1 0 0 Q := by
    refine lp_up (P := fun i => ∀ M1 : vM, Fr [38] M M1 → (∀ c, c < i → M1 38 c = nI (sf0 w h ht (cvB w h ht (G g)) c)) → PM E l mX7_stand 2 [.ref 37, .int (nI g), .int (nI i), .null, .null] [] (S0 L) M1 0 0 Q) (w * h) ?_ ?_ 0 (Nat.zero_le _)
    · intro M1 g1 g2
      refine x_iload_n dX7_stand_2 rfl ?_
      refine x_aload_n dX7_stand_3 rfl ?_
      refine g_R (s0_37 L) fkX7_15 rfl rfl rfl dX7_stand_4 ?_
      refine g_I (s0_4 L) fkX7_23 rfl rfl dX7_stand_7 ?_
      refine x_as ((congrFun (g1 4 (by decide)) _).trans (K.1.1)) ?_
      refine n_icmp_ge 72 dX7_stand_10 rfl (by omega) (by omega) (fun h1 => ?_) (fun h1 => by omega)
      refine x_iconst dX7_stand_72 iconst_1 ?_
      refine x_istore_n dX7_stand_73 (by decide) rfl ?_
      refine x_iconst dX7_stand_74 iconst_0 ?_
      refine x_istore_n dX7_stand_75 (by decide) rfl ?_
      refine k_standR V K D hg hQ M1 (sf0 w h ht (cvB w h ht (G g))) true g1 g2 ?_ ?_ (fun z => by cases z)
      · intro c hc
        have h9 := hht c hc
        unfold sf0
        split
        · rename_i z; exact ⟨by omega, fun _ => ⟨0, z.2, z.1, Nat.le_refl _⟩⟩
        · exact ⟨Nat.le_refl _, fun z => absurd z (by omega)⟩
      · intro c hc v hv e
        unfold sf0
        rw [if_pos ⟨e.2.1, e.1⟩]
        exact e.2.2
    · intro i hi ih M1 g1 g2
      obtain ⟨⟨od, hod, hd1, hd2, hd3⟩, -⟩ := D g hg i hi
      refine x_iload_n dX7_stand_2 rfl ?_
      refine x_aload_n dX7_stand_3 rfl ?_
      refine g_R (s0_37 L) fkX7_15 rfl rfl rfl dX7_stand_4 ?_
      refine g_I (s0_4 L) fkX7_23 rfl rfl dX7_stand_7 ?_
      refine x_as ((congrFun (g1 4 (by decide)) _).trans (K.1.1)) ?_
      refine n_icmp_ge 72 dX7_stand_10 rfl (by omega) (by omega) (fun h1 => by omega) (fun h1 => ?_)
      refine x_aload_n dX7_stand_13 rfl ?_
      refine g_R (s0_37 L) fkX7_15 rfl rfl rfl dX7_stand_14 ?_
      refine x_iload_n dX7_stand_17 rfl ?_
      refine cV1 (mj := mX1_isEdge) lkX7_29 okX1_isEdge imX1_isEdge seX1_isEdge (s0_4 L) rfl rfl rfl rfl rfl dX7_stand_18 rfl (k_isEdge H (show GrC M1 w h from ⟨((congrFun (g1 4 (by decide)) _).trans (K.1.1)), fun c d hc hd => ((congrFun (g1 7 (by decide)) _).trans (K.1.2 c d hc hd))⟩) hi ?_)
      refine b_if_eq 40 dX7_stand_21 rfl (fun y1 => ?_) (fun y1 => ?_)
      · refine x_iconst dX7_stand_40 iconst_0 ?_
        refine x_istore_n dX7_stand_41 (by decide) rfl ?_
        refine x_aload_n dX7_stand_42 rfl ?_
        refine g_R (s0_37 L) fkX7_9 rfl rfl rfl dX7_stand_43 ?_
        refine x_iload_n dX7_stand_46 rfl ?_
        refine x_iload_n dX7_stand_47 rfl ?_
        refine n_if_eq 63 dX7_stand_48 rfl (by omega) (fun h3 => ?_) (fun h3 => by omega)
        refine x_bipush dX7_stand_63 bipush_100 ?_
        refine n_iast rfl (s0_38 L) (by omega) rfl dX7_stand_65 ?_
        refine n_inc dX7_stand_66 rfl rfl ?_
        refine x_goto 2 dX7_stand_69 rfl ?_
        refine x_mask [true, true, true, false, false] ?_
        refine ih _ (g1.set _ (by decide)) (fun c hc => ?_)
        by_cases e : c = i
        · subst e; unfold sf0; rw [if_neg (fun z => by rw [y1] at z; cases z.1)]; exact upd_at _ _ _
        · exact (upd_ne _ _ e).trans (g2 c (by omega))
      · refine x_aload_n dX7_stand_24 rfl ?_
        refine g_R (s0_37 L) fkX7_19 rfl rfl rfl dX7_stand_25 ?_
        refine x_iload_n dX7_stand_28 rfl ?_
        refine x_iload_n dX7_stand_29 rfl ?_
        refine cV2 (mj := mX0_isCovered) lkX7_33 okX0_isCovered imX0_isCovered seX0_isCovered (s0_12 L) rfl rfl rfl rfl rfl dX7_stand_30 rfl (k_isCovered (by omega) (by omega) (lt31 (n := 36) (by omega) hd3) ((congrFun (g1 18 (by decide)) _).trans (hod)) ?_)
        rw [hd1]
        refine b_if_ne 40 dX7_stand_33 rfl (fun y2 => ?_) (fun y2 => ?_)
        · refine x_iconst dX7_stand_40 iconst_0 ?_
          refine x_istore_n dX7_stand_41 (by decide) rfl ?_
          refine x_aload_n dX7_stand_42 rfl ?_
          refine g_R (s0_37 L) fkX7_9 rfl rfl rfl dX7_stand_43 ?_
          refine x_iload_n dX7_stand_46 rfl ?_
          refine x_iload_n dX7_stand_47 rfl ?_
          refine n_if_eq 63 dX7_stand_48 rfl (by omega) (fun h5 => ?_) (fun h5 => by omega)
          refine x_bipush dX7_stand_63 bipush_100 ?_
          refine n_iast rfl (s0_38 L) (by omega) rfl dX7_stand_65 ?_
          refine n_inc dX7_stand_66 rfl rfl ?_
          refine x_goto 2 dX7_stand_69 rfl ?_
          refine x_mask [true, true, true, false, false] ?_
          refine ih _ (g1.set _ (by decide)) (fun c hc => ?_)
          by_cases e : c = i
          · subst e; unfold sf0; rw [if_neg (fun z => by rw [show cvB w h ht (G g) c = true from y2] at z; cases z.2)]; exact upd_at _ _ _
          · exact (upd_ne _ _ e).trans (g2 c (by omega))
        · refine x_iconst dX7_stand_36 iconst_1 ?_
          refine x_goto 41 dX7_stand_37 rfl ?_
          refine x_istore_n dX7_stand_41 (by decide) rfl ?_
          refine x_aload_n dX7_stand_42 rfl ?_
          refine g_R (s0_37 L) fkX7_9 rfl rfl rfl dX7_stand_43 ?_
          refine x_iload_n dX7_stand_46 rfl ?_
          refine x_iload_n dX7_stand_47 rfl ?_
          refine n_if_eq 63 dX7_stand_48 rfl (by omega) (fun h6 => by omega) (fun h6 => ?_)
          refine x_aload_n dX7_stand_51 rfl ?_
          refine g_R (s0_37 L) fkX7_15 rfl rfl rfl dX7_stand_52 ?_
          refine g_R (s0_4 L) fkX7_39 rfl rfl rfl dX7_stand_55 ?_
          refine x_iload_n dX7_stand_58 rfl ?_
          refine n_iald (s0_5 L) (by omega) rfl dX7_stand_59 ?_
          refine x_as ((congrFun (g1 5 (by decide)) _).trans (K.2.1 i hi)) ?_
          refine x_goto 65 dX7_stand_60 rfl ?_
          refine n_iast rfl (s0_38 L) (by omega) rfl dX7_stand_65 ?_
          refine n_inc dX7_stand_66 rfl rfl ?_
          refine x_goto 2 dX7_stand_69 rfl ?_
          refine x_mask [true, true, true, false, false] ?_
          refine ih _ (g1.set _ (by decide)) (fun c hc => ?_)
          by_cases e : c = i
          · subst e; unfold sf0; rw [if_pos ⟨y1, y2⟩]; exact upd_at _ _ _
          · exact (upd_ne _ _ e).trans (g2 c (by omega))
  refine x_iconst dX7_stand_0 iconst_0 ?_
  refine x_istore_n dX7_stand_1 (by decide) rfl ?_
  exact l1 M Fr.rf (fun c hc => absurd hc (by omega))
set_option maxRecDepth 100000 in
set_option maxHeartbeats 4000000 in
theorem k_sumDeep {E : vE} {l : Launch} {Q : Option Value → vS → vM → Prop} {L : Nat} {M : vM} {w h : Nat} {ht : Nat → Nat} (H : WH w h) (K : GrC M w h) (hH : ∀ c, c < w * h → M 5 c = nI (ht c)) (hht : ∀ c, c < w * h → ht c ≤ 99) {sf : Nat → Nat} (hS : ∀ c, c < w * h → M 38 c = nI (sf c)) (h100 : ∀ c, c < w * h → sf c ≤ 100) (hlo : ∀ c, c < w * h → ∀ x, lvO sf c = some x → ht c ≤ x) (hQ : Q (some (.int (nI (smK (dpt ht (lvO sf)) (w * h))))) (S0 L) M) : PM E l mX7_sumDeep 0 [.ref 37, .null, .null] [] (S0 L) M 0 0 Q := by
  have e4 := H.le
  have l1 : PM E l mX7_sumDeep 4 [.ref 37, .int (nI (smK (dpt ht (lvO sf)) 0)), .int (nI 0)] [] (S0 L) M 0 0 Q := by
    refine lp_up (P := fun i => PM E l mX7_sumDeep 4 [.ref 37, .int (nI (smK (dpt ht (lvO sf)) i)), .int (nI i)] [] (S0 L) M 0 0 Q) (w * h) ?_ ?_ 0 (Nat.zero_le _)
    · skip
      refine x_iload_n dX7_sumDeep_4 rfl ?_
      refine x_aload_n dX7_sumDeep_5 rfl ?_
      refine g_R (s0_37 L) fkX7_15 rfl rfl rfl dX7_sumDeep_6 ?_
      refine g_I (s0_4 L) fkX7_23 rfl rfl dX7_sumDeep_9 ?_
      refine x_as K.1 ?_
      refine n_icmp_ge 52 dX7_sumDeep_12 rfl (by omega) (by omega) (fun h1 => ?_) (fun h1 => by omega)
      refine x_iload_n dX7_sumDeep_52 rfl ?_
      refine x_iret dX7_sumDeep_53 rfl rfl ?_
      exact hQ
    · intro i hi ih
      refine x_iload_n dX7_sumDeep_4 rfl ?_
      refine x_aload_n dX7_sumDeep_5 rfl ?_
      refine g_R (s0_37 L) fkX7_15 rfl rfl rfl dX7_sumDeep_6 ?_
      refine g_I (s0_4 L) fkX7_23 rfl rfl dX7_sumDeep_9 ?_
      refine x_as K.1 ?_
      refine n_icmp_ge 52 dX7_sumDeep_12 rfl (by omega) (by omega) (fun h1 => by omega) (fun h1 => ?_)
      refine x_iload_n dX7_sumDeep_15 rfl ?_
      refine x_aload_n dX7_sumDeep_16 rfl ?_
      refine x_iload_n dX7_sumDeep_17 rfl ?_
      refine cV1 (mj := mX7_isClosed) lkX7_57 okX7_isClosed imX7_isClosed seX7_isClosed (s0_37 L) rfl rfl rfl rfl rfl dX7_sumDeep_18 rfl (k_isClosed H hS h100 hi ?_)
      refine b_if_eq 28 dX7_sumDeep_21 rfl (fun y1 => ?_) (fun y1 => ?_)
      · have hx : lvO sf i = some (sf i) := by unfold lvO at y1 ⊢; split <;> simp_all
        have hge := hlo i hi (sf i) hx
        refine x_aload_n dX7_sumDeep_28 rfl ?_
        refine g_R (s0_37 L) fkX7_9 rfl rfl rfl dX7_sumDeep_29 ?_
        refine x_iload_n dX7_sumDeep_32 rfl ?_
        refine n_iald (s0_38 L) (by omega) rfl dX7_sumDeep_33 ?_
        refine x_as (hS i hi) ?_
        refine x_aload_n dX7_sumDeep_34 rfl ?_
        refine g_R (s0_37 L) fkX7_15 rfl rfl rfl dX7_sumDeep_35 ?_
        refine g_R (s0_4 L) fkX7_39 rfl rfl rfl dX7_sumDeep_38 ?_
        refine x_iload_n dX7_sumDeep_41 rfl ?_
        refine n_iald (s0_5 L) (by omega) rfl dX7_sumDeep_42 ?_
        refine x_as (hH i hi) ?_
        refine n_isub dX7_sumDeep_43 hge ?_
        refine n_iadd dX7_sumDeep_44 ?_
        refine x_istore_n dX7_sumDeep_45 (by decide) rfl ?_
        refine n_inc dX7_sumDeep_46 rfl rfl ?_
        refine x_goto 4 dX7_sumDeep_49 rfl ?_
        have ih2 := ih
        rw [show (smK (dpt ht (lvO sf)) (i + 1)) = (smK (dpt ht (lvO sf)) i) + (sf i - ht i) from by simp only [smK]; congr 1; unfold dpt; rw [hx]] at ih2
        exact ih2
      · refine x_iconst dX7_sumDeep_24 iconst_0 ?_
        refine x_goto 44 dX7_sumDeep_25 rfl ?_
        refine n_iadd dX7_sumDeep_44 ?_
        refine x_istore_n dX7_sumDeep_45 (by decide) rfl ?_
        refine n_inc dX7_sumDeep_46 rfl rfl ?_
        refine x_goto 4 dX7_sumDeep_49 rfl ?_
        have ih2 := ih
        rw [show (smK (dpt ht (lvO sf)) (i + 1)) = (smK (dpt ht (lvO sf)) i) + 0 from by simp only [smK]; congr 1; unfold dpt; rw [Option.isNone_iff_eq_none.mp y1]] at ih2
        exact ih2
  refine x_iconst dX7_sumDeep_0 iconst_0 ?_
  refine x_istore_n dX7_sumDeep_1 (by decide) rfl ?_
  refine x_iconst dX7_sumDeep_2 iconst_0 ?_
  refine x_istore_n dX7_sumDeep_3 (by decide) rfl ?_
  exact l1

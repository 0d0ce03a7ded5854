/-- the laws of a distance -/
def DL (w h : Nat) (ht : Nat → Nat) (src : Nat → Bool) (tp fl N : Nat) (D : Nat → Option Nat) : Prop :=
  (∀ c, c < w * h → (D c = some 0 ↔ src c = true ∧ ht c < tp)) ∧
  (∀ o e, o < w * h → D o = some (e + 1) → ∃ c d, c < w * h ∧ d < 4 ∧ nb w h c d = some o ∧ D c = some e ∧ fl * (e + 1) + ht o < tp) ∧
  (∀ c d o e, c < w * h → d < 4 → nb w h c d = some o → D c = some e → e < N → fl * (e + 1) + ht o < tp → ∃ e', e' ≤ e + 1 ∧ D o = some e')
theorem DL.one {w h : Nat} {ht : Nat → Nat} {src : Nat → Bool} {tp fl : Nat} {D1 D2 : Nat → Option Nat} (A : DL w h ht src tp fl (w * h) D1) (B : DL w h ht src tp fl (w * h) D2) (B4 : ∀ c e, c < w * h → D2 c = some e → e < w * h) : ∀ e c, c < w * h → (D1 c = some e ↔ D2 c = some e) := by
  intro e
  induction e using Nat.strongRecOn with
  | ind e ih =>
    intro c hc
    cases e with
    | zero => rw [A.1 c hc, B.1 c hc]
    | succ e =>
      constructor
      · intro h1
        obtain ⟨c', d, hc', hd, hn, h2, h3⟩ := A.2.1 c e hc h1
        have h4 := (ih e (by omega) c' hc').mp h2
        obtain ⟨e', he, h5⟩ := B.2.2 c' d c e hc' hd hn h4 (B4 c' e hc' h4) h3
        by_cases e2 : e' = e + 1
        · subst e2; exact h5
        · have h6 := (ih e' (by omega) c hc).mpr h5
          rw [h1] at h6; cases h6; omega
      · intro h1
        obtain ⟨c', d, hc', hd, hn, h2, h3⟩ := B.2.1 c e hc h1
        have h4 := (ih e (by omega) c' hc').mpr h2
        obtain ⟨e', he, h5⟩ := A.2.2 c' d c e hc' hd hn h4 (B4 c' e hc' h2) h3
        by_cases e2 : e' = e + 1
        · subst e2; exact h5
        · have h6 := (ih e' (by omega) c hc).mp h5
          rw [h1] at h6; cases h6; omega
theorem DL.same {w h : Nat} {ht : Nat → Nat} {src : Nat → Bool} {tp fl : Nat} {D1 D2 : Nat → Option Nat} (A : DL w h ht src tp fl (w * h) D1) (B : DL w h ht src tp fl (w * h) D2) (B4 : ∀ c e, c < w * h → D2 c = some e → e < w * h) {c : Nat} (hc : c < w * h) : D2 c = D1 c := by
  have k := DL.one A B B4
  cases h1 : D1 c with
  | none =>
    cases h2 : D2 c with
    | none => rfl
    | some y => rw [(k y c hc).mpr h2] at h1; cases h1
  | some x => exact (k x c hc).mp h1
section IDL
variable {w h : Nat} {ht : Nat → Nat} {tp fl d : Nat}
theorem ist_mono {k : Nat} {D : Nat → Option Nat} {c x : Nat} (e : D c = some x) : iceStep w h ht tp fl d k D c = some x := by
  unfold iceStep
  cases hn : nb w h (k / 4) (k % 4) with
  | none => exact e
  | some o =>
    simp only
    by_cases hc : D (k / 4) = some d ∧ D o = none ∧ fl * (d + 1) + ht o < tp
    · rw [if_pos hc]
      by_cases e1 : c = o
      · subst e1; rw [hc.2.1] at e; cases e
      · simp only [e1, if_false]; exact e
    · rw [if_neg hc]; exact e
theorem ist_new {k : Nat} {D : Nat → Option Nat} {c x : Nat} (e : iceStep w h ht tp fl d k D c = some x) : D c = some x ∨ (x = d + 1 ∧ D c = none ∧ nb w h (k / 4) (k % 4) = some c ∧ D (k / 4) = some d ∧ fl * (d + 1) + ht c < tp) := by
  unfold iceStep at e
  cases hn : nb w h (k / 4) (k % 4) with
  | none => rw [hn] at e; exact Or.inl e
  | some o =>
    rw [hn] at e
    simp only at e
    by_cases hc : D (k / 4) = some d ∧ D o = none ∧ fl * (d + 1) + ht o < tp
    · rw [if_pos hc] at e
      by_cases e1 : c = o
      · subst e1
        simp only [if_true] at e
        cases e
        exact Or.inr ⟨rfl, hc.2.1, rfl, hc.1, hc.2.2⟩
      · simp only [e1, if_false] at e; exact Or.inl e
    · rw [if_neg hc] at e; exact Or.inl e
abbrev iK (w h : Nat) (ht : Nat → Nat) (tp fl d k : Nat) (D : Nat → Option Nat) : Nat → Option Nat := itr (fun k D => iceStep w h ht tp fl d k D) k D
theorem iK_mono {D : Nat → Option Nat} {c x : Nat} (e : D c = some x) : ∀ k, iK w h ht tp fl d k D c = some x
  | 0 => e
  | k + 1 => ist_mono (iK_mono e k)
theorem iK_new {D : Nat → Option Nat} : ∀ (k c x : Nat), iK w h ht tp fl d k D c = some x → D c = some x ∨ (x = d + 1 ∧ D c = none ∧ ∃ j, j < k ∧ nb w h (j / 4) (j % 4) = some c ∧ D (j / 4) = some d ∧ fl * (d + 1) + ht c < tp)
  | 0, c, x, e => Or.inl e
  | k + 1, c, x, e => by
    rcases ist_new e with e1 | ⟨e1, e2, e3, e4, e5⟩
    · rcases iK_new k c x e1 with h1 | ⟨h1, h2, j, hj, h3⟩
      · exact Or.inl h1
      · exact Or.inr ⟨h1, h2, j, by omega, h3⟩
    · refine Or.inr ⟨e1, ?_, k, by omega, e3, ?_, e5⟩
      · cases hD : D c with
        | none => rfl
        | some y => have := iK_mono (w := w) (h := h) (ht := ht) (tp := tp) (fl := fl) (d := d) hD k; exact absurd (e2.symm.trans this) (by simp)
      · rcases iK_new k _ d e4 with h1 | ⟨h1, -⟩
        · exact h1
        · omega
theorem iK_do {D : Nat → Option Nat} (hD : ∀ c x, D c = some x → x ≤ d + 1) {j o : Nat} (hn : nb w h (j / 4) (j % 4) = some o) (hj : D (j / 4) = some d) (hb : fl * (d + 1) + ht o < tp) : ∀ k, j < k → ∃ x, x ≤ d + 1 ∧ iK w h ht tp fl d k D o = some x
  | 0, h9 => absurd h9 (by omega)
  | k + 1, h9 => by
    by_cases e : j < k
    · obtain ⟨x, hx, h1⟩ := iK_do hD hn hj hb k e
      exact ⟨x, hx, ist_mono h1⟩
    · have e2 : j = k := by omega
      subst e2
      have h1 := iK_mono (w := w) (h := h) (ht := ht) (tp := tp) (fl := fl) (d := d) hj j
      cases h2 : iK w h ht tp fl d j D o with
      | none => exact ⟨d + 1, Nat.le_refl _, (ice_do hn ⟨h1, h2, hb⟩ o).trans (if_pos rfl)⟩
      | some x => exact ⟨x, iceK_le hD j o x h2, ist_mono h2⟩
end IDL
theorem DL_row {w h : Nat} {ht : Nat → Nat} {src : Nat → Bool} {tp fl d : Nat} {D : Nat → Option Nat} (A : DL w h ht src tp fl d D) (hle : ∀ c x, D c = some x → x ≤ d) : DL w h ht src tp fl (d + 1) (iceRow w h ht tp fl d D) := by
  obtain ⟨A1, A2, A3⟩ := A
  refine ⟨fun c hc => ?_, fun o e ho h1 => ?_, fun c dd o e hc hd hn h1 he hb => ?_⟩
  · rw [← A1 c hc]
    constructor
    · intro e
      rcases iK_new _ c 0 e with h1 | ⟨h1, -⟩
      · exact h1
      · omega
    · intro e; exact iK_mono e _
  · rcases iK_new _ o (e + 1) h1 with h2 | ⟨h2, h3, j, hj, h4, h5, h6⟩
    · obtain ⟨c, dd, hc, hd, hn, h3, h4⟩ := A2 o e ho h2
      exact ⟨c, dd, hc, hd, hn, iK_mono h3 _, h4⟩
    · have e2 : e = d := by omega
      subst e2
      exact ⟨j / 4, j % 4, by omega, by omega, h4, iK_mono h5 _, h6⟩
  · have h2 : D c = some e := by
      rcases iK_new _ c e h1 with h2 | ⟨h2, -⟩
      · exact h2
      · omega
    by_cases e2 : e < d
    · obtain ⟨e', he', h3⟩ := A3 c dd o e hc hd hn h2 e2 hb
      exact ⟨e', he', iK_mono h3 _⟩
    · have e3 : e = d := by omega
      subst e3
      have q1 : (4 * c + dd) / 4 = c := by omega
      have q2 : (4 * c + dd) % 4 = dd := by omega
      exact iK_do (j := 4 * c + dd) (fun c x z => Nat.le_succ_of_le (hle c x z)) (by rw [q1, q2]; exact hn) (by rw [q1]; exact h2) hb (4 * (w * h)) (by omega)
theorem iceD_DLr {w h : Nat} {ht : Nat → Nat} {so tp fl : Nat} : ∀ d, DL w h ht (fun c => decide (c = so)) tp fl d (itr (fun d D => iceRow w h ht tp fl d D) d (iceD0 ht so tp))
  | 0 => by
    refine ⟨fun c hc => ?_, fun o e ho h1 => ?_, fun c d o e _ _ _ _ he => absurd he (by omega)⟩
    · simp only [itr, iceD0, decide_eq_true_eq]
      constructor
      · intro e; split at e
        · rename_i h1; exact ⟨h1.1, by rw [h1.1]; exact h1.2⟩
        · cases e
      · rintro ⟨e1, e2⟩; rw [if_pos ⟨e1, by rw [← e1]; exact e2⟩]
    · simp only [itr, iceD0] at h1; split at h1 <;> cases h1
  | d + 1 => DL_row (iceD_DLr d) (iceR_le d)
theorem iceD_DL (w h : Nat) (ht : Nat → Nat) (so tp fl : Nat) : DL w h ht (fun c => decide (c = so)) tp fl (w * h) (iceD w h ht so tp fl) := iceD_DLr (w * h)
theorem flood_DL {w h : Nat} {ht : Nat → Nat} {tp : Nat} {D : Nat → Option Nat} (B : DL w h ht (edg w h) tp 0 (w * h) D) (B4 : ∀ c e, c < w * h → D c = some e → e < w * h) : ∀ c, c < w * h → (D c).isSome = floodC w h ht tp c := by
  have hs : ∀ e c, c < w * h → D c = some e → flN w h ht tp e c := by
    intro e
    induction e with
    | zero => intro c hc h1; exact (B.1 c hc).mp h1
    | succ e ih =>
      intro c hc h1
      obtain ⟨c', d, hc', hd, hn, h2, h3⟩ := B.2.1 c e hc h1
      exact Or.inr ⟨by omega, c', d, hc', hd, hn, ih c' hc' h2⟩
  refine flood_eq (D := fun c => (D c).isSome) (fun c hc h1 => ?_) (fun c hc h1 h2 => ?_) (fun c d o hc hd hn h1 h2 => ?_)
  · obtain ⟨e, he⟩ := Option.isSome_iff_exists.mp h1
    exact floodC_iff.mpr ⟨e, hs e c hc he⟩
  · show (D c).isSome = true
    rw [(B.1 c hc).mpr ⟨h1, h2⟩]; rfl
  · obtain ⟨e, he⟩ := Option.isSome_iff_exists.mp h1
    obtain ⟨e', -, h3⟩ := B.2.2 c d o e hc hd hn he (B4 c e hc he) (by omega)
    show (D o).isSome = true
    rw [h3]; rfl
/-- edges, neighbours -/
theorem edg_nb {w h c : Nat} (H : WH w h) (hc : c < w * h) : edg w h c = true ↔ ∃ d, d < 4 ∧ nb w h c d = none := by
  have e2 := c_row H hc
  have e3 := c_col (c := c) H
  have z1 := Nat.zero_le (c / w)
  have z2 := Nat.zero_le (c % w)
  simp only [edg, decide_eq_true_eq]
  constructor
  · rintro (h1 | h1 | h1 | h1)
    · exact ⟨2, by omega, by simp only [nb]; exact if_neg (by omega)⟩
    · exact ⟨0, by omega, by simp only [nb]; exact if_neg (by omega)⟩
    · exact ⟨3, by omega, by simp only [nb]; exact if_neg (by omega)⟩
    · exact ⟨1, by omega, by simp only [nb]; exact if_neg (by omega)⟩
  · rintro ⟨d, hd, h1⟩
    rcases (show d = 0 ∨ d = 1 ∨ d = 2 ∨ d = 3 by omega) with rfl | rfl | rfl | rfl
    all_goals (simp only [nb] at h1; split at h1; cases h1; omega)
theorem near_nb {w h c k : Nat} (H : WH w h) (hc : c < w * h) (hk : k < w * h) : near w c k = true ↔ ∃ d, d < 4 ∧ nb w h c d = some k := by
  have e2 := c_row H hc
  have e3 := c_row H hk
  have z1 := Nat.zero_le (c / w)
  have z2 := Nat.zero_le (c % w)
  have z3 := Nat.zero_le (k / w)
  have z4 := Nat.zero_le (k % w)
  have hw := H
  obtain ⟨w1, w2, -, -⟩ := hw
  simp only [near, decide_eq_true_eq]
  constructor
  · rintro (⟨h1, h2 | h2⟩ | ⟨h1, h2 | h2⟩)
    · refine ⟨1, by omega, ?_⟩
      simp only [nb]
      rw [if_pos (by omega)]
      rcases (show w = 2 ∨ w = 3 ∨ w = 4 ∨ w = 5 ∨ w = 6 by omega) with rfl | rfl | rfl | rfl | rfl <;> (congr 1; omega)
    · refine ⟨3, by omega, ?_⟩
      simp only [nb]
      rw [if_pos (by omega)]
      rcases (show w = 2 ∨ w = 3 ∨ w = 4 ∨ w = 5 ∨ w = 6 by omega) with rfl | rfl | rfl | rfl | rfl <;> (congr 1; omega)
    · refine ⟨0, by omega, ?_⟩
      have e5 := c_col (c := k) H
      simp only [nb]
      rw [if_pos (by omega)]
      rcases (show w = 2 ∨ w = 3 ∨ w = 4 ∨ w = 5 ∨ w = 6 by omega) with rfl | rfl | rfl | rfl | rfl <;> (congr 1; omega)
    · refine ⟨2, by omega, ?_⟩
      simp only [nb]
      rw [if_pos (by omega)]
      rcases (show w = 2 ∨ w = 3 ∨ w = 4 ∨ w = 5 ∨ w = 6 by omega) with rfl | rfl | rfl | rfl | rfl <;> (congr 1; omega)
  · rintro ⟨d, hd, h1⟩
    rcases (show d = 0 ∨ d = 1 ∨ d = 2 ∨ d = 3 by omega) with rfl | rfl | rfl | rfl
    all_goals
      simp only [nb] at h1
      split at h1
      · cases h1
        rcases (show w = 2 ∨ w = 3 ∨ w = 4 ∨ w = 5 ∨ w = 6 by omega) with rfl | rfl | rfl | rfl | rfl <;> omega
      · cases h1
/-- the best of the four neighbours that are led to -/
def fcS (w h : Nat) (ld : Nat → Bool) (key : Nat → Nat) (c : Nat) : Nat → Option (Nat × Nat)
  | 0 => none
  | d + 1 => match nb w h c d with
    | none => fcS w h ld key c d
    | some o => if ld o then (match fcS w h ld key c d with
      | none => some (d, o)
      | some p => if key o < key p.2 then some (d, o) else some p) else fcS w h ld key c d
section FC
variable {w h : Nat} {ld : Nat → Bool} {key : Nat → Nat} {c : Nat}
theorem fc_no {d : Nat} (e : nb w h c d = none) : fcS w h ld key c (d + 1) = fcS w h ld key c d := by simp only [fcS, e]
theorem fc_off {d o : Nat} (e : nb w h c d = some o) (e2 : ld o = false) : fcS w h ld key c (d + 1) = fcS w h ld key c d := by simp only [fcS, e, e2, Bool.false_eq_true, if_false]
theorem fc_new {d o : Nat} (e : nb w h c d = some o) (e2 : ld o = true) (e3 : fcS w h ld key c d = none) : fcS w h ld key c (d + 1) = some (d, o) := by simp only [fcS, e, e2, e3, if_true]
theorem fc_lt {d o : Nat} {p : Nat × Nat} (e : nb w h c d = some o) (e2 : ld o = true) (e3 : fcS w h ld key c d = some p) (e4 : key o < key p.2) : fcS w h ld key c (d + 1) = some (d, o) := by simp only [fcS, e, e2, e3, if_true, if_pos e4]
theorem fc_ge {d o : Nat} {p : Nat × Nat} (e : nb w h c d = some o) (e2 : ld o = true) (e3 : fcS w h ld key c d = some p) (e4 : ¬ key o < key p.2) : fcS w h ld key c (d + 1) = some p := by simp only [fcS, e, e2, e3, if_true, if_neg e4]
theorem fc_none : ∀ d, fcS w h ld key c d = none → ∀ d', d' < d → ∀ o, nb w h c d' = some o → ld o = false
  | 0, _, d', h, _, _ => absurd h (by omega)
  | d + 1, e, d', hd, o, ho => by
    have key1 : fcS w h ld key c d = none ∧ (d' = d → ld o = false) := by
      cases hn : nb w h c d with
      | none => rw [fc_no hn] at e; exact ⟨e, fun z => by rw [z, hn] at ho; cases ho⟩
      | some o2 =>
        cases hl : ld o2 with
        | false => rw [fc_off hn hl] at e; exact ⟨e, fun z => by rw [z, hn] at ho; cases ho; exact hl⟩
        | true =>
          cases hp : fcS w h ld key c d with
          | none => rw [fc_new hn hl hp] at e; cases e
          | some p =>
            by_cases hk : key o2 < key p.2
            · rw [fc_lt hn hl hp hk] at e; cases e
            · rw [fc_ge hn hl hp hk] at e; cases e
    by_cases e2 : d' = d
    · exact key1.2 e2
    · exact fc_none d key1.1 d' (by omega) o ho
theorem fc_some : ∀ d p, fcS w h ld key c d = some p → p.1 < d ∧ nb w h c p.1 = some p.2 ∧ ld p.2 = true ∧ ∀ d', d' < d → ∀ o, nb w h c d' = some o → ld o = true → key p.2 ≤ key o
  | 0, p, e => by cases e
  | d + 1, p, e => by
    have old : fcS w h ld key c d = some p → (∀ o, nb w h c d = some o → ld o = true → key p.2 ≤ key o) → p.1 < d + 1 ∧ nb w h c p.1 = some p.2 ∧ ld p.2 = true ∧ ∀ d', d' < d + 1 → ∀ o, nb w h c d' = some o → ld o = true → key p.2 ≤ key o := by
      intro h1 h2
      obtain ⟨k1, k2, k3, k4⟩ := fc_some d p h1
      refine ⟨by omega, k2, k3, fun d' hd' o ho hl => ?_⟩
      by_cases e2 : d' = d
      · rw [e2] at ho; exact h2 o ho hl
      · exact k4 d' (by omega) o ho hl
    cases hn : nb w h c d with
    | none => rw [fc_no hn] at e; exact old e (fun o ho => by rw [hn] at ho; cases ho)
    | some o2 =>
      cases hl : ld o2 with
      | false => rw [fc_off hn hl] at e; exact old e (fun o ho h2 => by rw [hn] at ho; cases ho; rw [hl] at h2; cases h2)
      | true =>
        cases hp : fcS w h ld key c d with
        | none =>
          rw [fc_new hn hl hp] at e
          cases e
          refine ⟨by show d < d + 1; omega, hn, hl, fun d' hd' o ho h2 => ?_⟩
          by_cases e2 : d' = d
          · rw [e2, hn] at ho; cases ho; exact Nat.le_refl _
          · rw [fc_none d hp d' (by omega) o ho] at h2; cases h2
        | some p2 =>
          by_cases hk : key o2 < key p2.2
          · rw [fc_lt hn hl hp hk] at e
            cases e
            obtain ⟨k1, k2, k3, k4⟩ := fc_some d p2 hp
            refine ⟨by show d < d + 1; omega, hn, hl, fun d' hd' o ho h2 => ?_⟩
            by_cases e2 : d' = d
            · rw [e2, hn] at ho; cases ho; exact Nat.le_refl _
            · exact Nat.le_trans (Nat.le_of_lt hk) (k4 d' (by omega) o ho h2)
          · rw [fc_ge hn hl hp hk] at e
            cases e
            exact old hp (fun o ho h2 => by rw [hn] at ho; cases ho; omega)
end FC
theorem nb_0 {w h c o : Nat} (e : nb w h c 0 = some o) : o = c + 1 := by simp only [nb] at e; split at e; cases e; rfl; cases e
theorem nb_1 {w h c o : Nat} (e : nb w h c 1 = some o) : o = c + w := by simp only [nb] at e; split at e; cases e; rfl; cases e
theorem nb_2 {w h c o : Nat} (e : nb w h c 2 = some o) : o + 1 = c := by
  simp only [nb] at e
  split at e
  · rename_i h1
    cases e
    have := Nat.mod_le c w
    omega
  · cases e
theorem nb_3 {w h c o : Nat} (e : nb w h c 3 = some o) : o + w = c := by
  simp only [nb] at e
  split at e
  · rename_i h1
    cases e
    have : w ≤ c := (Nat.div_pos_iff.mp h1).2
    omega
  · cases e
/-- on ice: what leads -/
def ldI (D : Nat → Option Nat) (c o : Nat) : Bool := match D c with
  | none => false
  | some e => decide (D o = some (e + 1))
theorem onw_ld {w h : Nat} {D : Nat → Option Nat} {c d o : Nat} (e : nb w h c d = some o) : onw w h D c d = ldI D c o := by
  unfold onw ldI
  simp only [e]
  cases D c <;> rfl
theorem crs_fc {w h : Nat} (H : WH w h) {D : Nat → Option Nat} {c : Nat} : (fcS w h (ldI D c) (fun o => o) c 4).map Prod.fst = crs w h D c := by
  have hw := H.1
  have ex : crs w h D c = if onw w h D c 3 then some 3 else if onw w h D c 2 then some 2 else if onw w h D c 0 then some 0 else if onw w h D c 1 then some 1 else none := by
    show (match (match (match (if onw w h D c 3 then some 3 else none) with | some x => some x | none => if onw w h D c 2 then some 2 else none) with | some x => some x | none => if onw w h D c 0 then some 0 else none) with | some x => some x | none => if onw w h D c 1 then some 1 else none : Option Nat) = _
    cases onw w h D c 3 <;> cases onw w h D c 2 <;> cases onw w h D c 0 <;> cases onw w h D c 1 <;> rfl
  rw [ex]
  have off : ∀ d, d < 4 → (∀ o, nb w h c d = some o → ldI D c o = false) → onw w h D c d = false := by
    intro d hd hz
    cases hn : nb w h c d with
    | none => exact onw_none hn
    | some o => rw [onw_ld hn]; exact hz o hn
  cases hf : fcS w h (ldI D c) (fun o => o) c 4 with
  | none =>
    have k := fc_none 4 hf
    rw [off 3 (by omega) (k 3 (by omega)), off 2 (by omega) (k 2 (by omega)), off 0 (by omega) (k 0 (by omega)), off 1 (by omega) (k 1 (by omega))]
    rfl
  | some p =>
    obtain ⟨d, o⟩ := p
    obtain ⟨k1, k2, k3, k4⟩ := fc_some 4 _ hf
    simp only at k1 k2 k3 k4
    have no : ∀ d', d' < 4 → (∀ o', nb w h c d' = some o' → o' < o) → onw w h D c d' = false := by
      intro d' hd' hz
      refine off d' hd' (fun o' ho' => ?_)
      cases hl : ldI D c o' with
      | false => rfl
      | true => have := k4 d' hd' o' ho' hl; have := hz o' ho'; omega
    have yes : onw w h D c d = true := by rw [onw_ld k2]; exact k3
    rcases (show d = 0 ∨ d = 1 ∨ d = 2 ∨ d = 3 by omega) with rfl | rfl | rfl | rfl
    · have := nb_0 k2
      rw [no 3 (by omega) (fun o' ho' => by have := nb_3 ho'; omega), no 2 (by omega) (fun o' ho' => by have := nb_2 ho'; omega), yes]
      rfl
    · have := nb_1 k2
      rw [no 3 (by omega) (fun o' ho' => by have := nb_3 ho'; omega), no 2 (by omega) (fun o' ho' => by have := nb_2 ho'; omega), no 0 (by omega) (fun o' ho' => by have := nb_0 ho'; omega), yes]
      rfl
    · have := nb_2 k2
      rw [no 3 (by omega) (fun o' ho' => by have := nb_3 ho'; omega), yes]
      rfl
    · rw [yes]
      rfl
theorem crs_cong {w h : Nat} (H : WH w h) {D1 D2 : Nat → Option Nat} (hD : ∀ c, c < w * h → D1 c = D2 c) {c : Nat} (hc : c < w * h) : crs w h D1 c = crs w h D2 c := by
  have k : ∀ d, onw w h D1 c d = onw w h D2 c d := by
    intro d
    unfold onw
    cases hn : nb w h c d with
    | none => rfl
    | some o => simp only [hD c hc, hD o (nb_lt H hc hn)]
  unfold crs
  simp only [crsK, k]
/-- the flood's shift -/
noncomputable def ldF (w h : Nat) (ht : Nat → Nat) (q : vQ) (c o : Nat) : Bool := (cov w h ht q c).isSome && (cov w h ht q o).isSome && decide (ht o < ht c)
theorem sft_run {w h : Nat} {ht : Nat → Nat} {q : vQ} {c : Nat} : ∀ n, let b := itr (fun k b => if near w c k = true ∧ (cov w h ht q k).isSome = true ∧ ht k < ht b then k else b) n c
    ((b = c ∧ ∀ k, k < n → near w c k = true → (cov w h ht q k).isSome = true → ¬ ht k < ht c) ∨ (b < n ∧ near w c b = true ∧ (cov w h ht q b).isSome = true ∧ ht b < ht c ∧ ∀ k, k < n → near w c k = true → (cov w h ht q k).isSome = true → ht b < ht k ∨ (ht b = ht k ∧ b ≤ k)))
  | 0 => Or.inl ⟨rfl, fun k hk => absurd hk (by omega)⟩
  | n + 1 => by
    have ih := sft_run (w := w) (h := h) (ht := ht) (q := q) (c := c) n
    simp only [itr]
    generalize itr (fun k b => if near w c k = true ∧ (cov w h ht q k).isSome = true ∧ ht k < ht b then k else b) n c = b at ih
    simp only at ih
    by_cases hy : near w c n = true ∧ (cov w h ht q n).isSome = true ∧ ht n < ht b
    · rw [if_pos hy]
      right
      rcases ih with ⟨e1, e2⟩ | ⟨e1, e2, e3, e4, e5⟩
      · refine ⟨by omega, hy.1, hy.2.1, by rw [← e1]; exact hy.2.2, fun k hk h1 h2 => ?_⟩
        by_cases e : k = n
        · subst e; right; exact ⟨rfl, Nat.le_refl _⟩
        · left; have := e2 k (by omega) h1 h2; rw [e1] at hy; omega
      · refine ⟨by omega, hy.1, hy.2.1, by omega, fun k hk h1 h2 => ?_⟩
        by_cases e : k = n
        · subst e; right; exact ⟨rfl, Nat.le_refl _⟩
        · left; have := e5 k (by omega) h1 h2; omega
    · rw [if_neg hy]
      rcases ih with ⟨e1, e2⟩ | ⟨e1, e2, e3, e4, e5⟩
      · left
        refine ⟨e1, fun k hk h1 h2 h3 => ?_⟩
        by_cases e : k = n
        · subst e; exact hy ⟨h1, h2, by rw [e1]; exact h3⟩
        · exact e2 k (by omega) h1 h2 h3
      · right
        refine ⟨by omega, e2, e3, e4, fun k hk h1 h2 => ?_⟩
        by_cases e : k = n
        · subst e
          have : ¬ ht k < ht b := fun z => hy ⟨h1, h2, z⟩
          omega
        · exact e5 k (by omega) h1 h2
theorem sft_fc {w h : Nat} (H : WH w h) {ht : Nat → Nat} {q : vQ} {c : Nat} (hc : c < w * h) : (fcS w h (ldF w h ht q c) (fun o => ht o * 64 + o) c 4 = none → sft w h ht q c = c) ∧ ∀ p, fcS w h (ldF w h ht q c) (fun o => ht o * 64 + o) c 4 = some p → nb w h c p.1 = some (sft w h ht q c) := by
  have hle := H.le
  have hr := sft_run (w := w) (h := h) (ht := ht) (q := q) (c := c) (w * h)
  unfold sft
  generalize itr (fun k b => if near w c k = true ∧ (cov w h ht q k).isSome = true ∧ ht k < ht b then k else b) (w * h) c = b at hr ⊢
  simp only at hr
  constructor
  · intro e
    have k := fc_none 4 e
    cases hcv : (cov w h ht q c).isSome with
    | false => rw [if_neg (by simp)]
    | true =>
      rw [if_pos rfl]
      rcases hr with ⟨e1, -⟩ | ⟨e1, e2, e3, e4, -⟩
      · exact e1
      · obtain ⟨d, hd, hn⟩ := (near_nb H hc e1).mp e2
        have := k d hd b hn
        simp only [ldF, hcv, e3, decide_eq_true e4, Bool.and_self] at this
        cases this
  · intro p e
    obtain ⟨k1, k2, k3, k4⟩ := fc_some 4 p e
    simp only [ldF, Bool.and_eq_true, decide_eq_true_eq] at k3
    obtain ⟨⟨c1, c2⟩, c3⟩ := k3
    rw [if_pos c1, k2]
    have hp := nb_lt H hc k2
    have hn := (near_nb H hc hp).mpr ⟨p.1, k1, k2⟩
    rcases hr with ⟨e1, e2⟩ | ⟨e1, e2, e3, e4, e5⟩
    · exact absurd c3 (e2 p.2 hp hn c2)
    · have h1 := e5 p.2 hp hn c2
      obtain ⟨d, hd, hn2⟩ := (near_nb H hc e1).mp e2
      have h2 := k4 d hd b hn2 (by simp only [ldF, c1, e3, decide_eq_true e4, Bool.and_self])
      congr 1
      omega


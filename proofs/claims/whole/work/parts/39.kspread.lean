/-- the row of reached cells -/
def BQ (w h : Nat) (D : Nat → Option Nat) (qs : Nat → Nat) (n : Nat) : Prop :=
  n + ctf (fun c => (D c).isSome) (w * h) = w * h ∧ (∀ k, k < n → qs k < w * h ∧ ∃ e, D (qs k) = some e ∧ e ≤ k) ∧ (∀ c e, c < w * h → D c = some e → ∃ k, k < n ∧ qs k = c) ∧
  (∀ k k' e e', k ≤ k' → k' < n → D (qs k) = some e → D (qs k') = some e' → e ≤ e')
theorem ctf_pos {D : Nat → Bool} {o : Nat} (hD : D o = false) : ∀ n, o < n → 1 ≤ ctf D n
  | 0, h => absurd h (by omega)
  | n + 1, h => by
    simp only [ctf]
    by_cases e : o = n
    · subst e; rw [hD]; simp
    · have := ctf_pos hD n (by omega); omega
theorem BQ.room {w h : Nat} {D : Nat → Option Nat} {qs : Nat → Nat} {n o : Nat} (B : BQ w h D qs n) (ho : o < w * h) (hD : D o = none) : n < w * h := by
  have := ctf_pos (D := fun c => (D c).isSome) (o := o) (by rw [hD]; rfl) (w * h) ho
  have := B.1
  omega
theorem BQ.add {w h : Nat} {D : Nat → Option Nat} {qs : Nat → Nat} {n o x : Nat} (B : BQ w h D qs n) (ho : o < w * h) (hD : D o = none) (hx : x ≤ n) (hm : ∀ k e, k < n → D (qs k) = some e → e ≤ x) : BQ w h (setO D o x) (addQ qs n o) (n + 1) := by
  obtain ⟨B1, B2, B3, B4⟩ := B
  have q1 : ∀ k, k < n → addQ qs n o k = qs k := fun k hk => if_neg (by omega)
  have q2 : addQ qs n o n = o := if_pos rfl
  have ne : ∀ k, k < n → qs k ≠ o := fun k hk z => by obtain ⟨-, e, he, -⟩ := B2 k hk; rw [z, hD] at he; cases he
  have d1 : ∀ k, k < n → setO D o x (addQ qs n o k) = D (qs k) := fun k hk => by rw [q1 k hk, setO_ne _ _ (ne k hk)]
  have d2 : setO D o x (addQ qs n o n) = some x := by rw [q2, setO_at]
  refine ⟨?_, fun k hk => ?_, fun c e hc he => ?_, fun k k' e e' h1 h2 h3 h4 => ?_⟩
  · have e1 : (fun c => (setO D o x c).isSome) = setB (fun c => (D c).isSome) o := by
      funext c
      unfold setO setB
      by_cases e : c = o
      · simp [e]
      · simp [e]
    rw [e1]
    have := ctf_set (D := fun c => (D c).isSome) (o := o) (by rw [hD]; rfl) (w * h) ho
    omega
  · by_cases e : k = n
    · subst e; rw [d2, q2]; exact ⟨ho, x, rfl, hx⟩
    · rw [d1 k (by omega), q1 k (by omega)]; exact B2 k (by omega)
  · by_cases e1 : c = o
    · exact ⟨n, by omega, by rw [q2, e1]⟩
    · rw [setO_ne _ _ e1] at he
      obtain ⟨k, hk, h1⟩ := B3 c e hc he
      exact ⟨k, by omega, by rw [q1 k hk]; exact h1⟩
  · by_cases e1 : k' = n
    · subst e1
      rw [d2] at h4; cases h4
      by_cases e2 : k = k'
      · subst e2; rw [d2] at h3; cases h3; exact Nat.le_refl _
      · rw [d1 k (by omega)] at h3; exact hm k e (by omega) h3
    · rw [d1 k (by omega)] at h3
      rw [d1 k' (by omega)] at h4
      exact B4 k k' e e' h1 (by omega) h3 h4
/-- the laws so far -/
def BL (w h : Nat) (ht : Nat → Nat) (src : Nat → Bool) (tp fl : Nat) (D : Nat → Option Nat) : Prop :=
  (∀ c, c < w * h → (D c = some 0 ↔ src c = true ∧ ht c < tp)) ∧
  (∀ o e, o < w * h → D o = some (e + 1) → ∃ c d, c < w * h ∧ d < 4 ∧ nb w h c d = some o ∧ D c = some e ∧ fl * (e + 1) + ht o < tp)
theorem BL.add {w h : Nat} {ht : Nat → Nat} {src : Nat → Bool} {tp fl : Nat} {D : Nat → Option Nat} (B : BL w h ht src tp fl D) {c d o e : Nat} (hc : c < w * h) (hd : d < 4) (hn : nb w h c d = some o) (ho : o < w * h) (hD : D o = none) (he : D c = some e) (hb : fl * (e + 1) + ht o < tp) : BL w h ht src tp fl (setO D o (e + 1)) := by
  have old : ∀ x y, D x = some y → setO D o (e + 1) x = some y := fun x y hx => by rw [setO_ne _ _ (fun z => by rw [z, hD] at hx; cases hx)]; exact hx
  refine ⟨fun x hx => ?_, fun x y hx hy => ?_⟩
  · rw [← B.1 x hx]
    by_cases e1 : x = o
    · subst e1; rw [setO_at, hD]; simp
    · rw [setO_ne _ _ e1]
  · by_cases e1 : x = o
    · subst e1; rw [setO_at] at hy; cases hy
      exact ⟨c, d, hc, hd, hn, old c _ he, hb⟩
    · rw [setO_ne _ _ e1] at hy
      obtain ⟨c2, d2, h1, h2, h3, h4, h5⟩ := B.2 x y hx hy
      exact ⟨c2, d2, h1, h2, h3, old c2 y h4, h5⟩
/-- nothing lies farther than one beyond place i; what places before (i, j) lead to is reached -/
def BP (w h : Nat) (ht : Nat → Nat) (tp fl : Nat) (D : Nat → Option Nat) (qs : Nat → Nat) (n i j : Nat) : Prop :=
  (∀ k e e', i < n → k < n → D (qs i) = some e → D (qs k) = some e' → e' ≤ e + 1) ∧
  (∀ k d o e, (k < i ∨ (k = i ∧ d < j)) → k < n → d < 4 → nb w h (qs k) d = some o → D (qs k) = some e → fl * (e + 1) + ht o < tp → ∃ e', e' ≤ e + 1 ∧ D o = some e')
def BI (w h : Nat) (ht : Nat → Nat) (src : Nat → Bool) (tp fl : Nat) (D : Nat → Option Nat) (qs : Nat → Nat) (n i j : Nat) : Prop := BQ w h D qs n ∧ BL w h ht src tp fl D ∧ BP w h ht tp fl D qs n i j
section BIs
variable {w h : Nat} {ht : Nat → Nat} {src : Nat → Bool} {tp fl : Nat} {D : Nat → Option Nat} {qs : Nat → Nat} {n i j : Nat}
theorem BI.val (B : BI w h ht src tp fl D qs n i j) : ∀ c x, c < w * h → D c = some x → x < w * h := by
  intro c x hc hx
  obtain ⟨k, hk, rfl⟩ := B.1.2.2.1 c x hc hx
  obtain ⟨-, e, he, h1⟩ := B.1.2.1 k hk
  rw [hx] at he; cases he
  have := B.1.1
  omega
theorem BI.le (B : BI w h ht src tp fl D qs n i j) : n ≤ w * h := by have := B.1.1; omega
/-- reach found nothing new -/
theorem BI.no (B : BI w h ht src tp fl D qs n i j) (hi : i < n) {e : Nat} (he : D (qs i) = some e) (hr : ∀ o, nb w h (qs i) j = some o → D o = none → ¬ fl * (e + 1) + ht o < tp) (H : WH w h) : BI w h ht src tp fl D qs n i (j + 1) := by
  refine ⟨B.1, B.2.1, B.2.2.1, fun k d o e2 h1 h2 h3 h4 h5 h6 => ?_⟩
  by_cases e1 : k = i ∧ d = j
  · obtain ⟨rfl, rfl⟩ := e1
    rw [he] at h5; cases h5
    cases hD : D o with
    | none => exact absurd h6 (hr o h4 hD)
    | some x =>
      obtain ⟨k2, hk2, rfl⟩ := B.1.2.2.1 o x (nb_lt H (B.1.2.1 k hi).1 h4) hD
      exact ⟨x, B.2.2.1 k2 _ _ hi hk2 he hD, rfl⟩
  · exact B.2.2.2 k d o e2 (by omega) h2 h3 h4 h5 h6
/-- reach found a new cell -/
theorem BI.yes (B : BI w h ht src tp fl D qs n i j) (hi : i < n) (hj : j < 4) {e o : Nat} (he : D (qs i) = some e) (hn : nb w h (qs i) j = some o) (hD : D o = none) (hb : fl * (e + 1) + ht o < tp) (H : WH w h) : BI w h ht src tp fl (setO D o (e + 1)) (addQ qs n o) (n + 1) i (j + 1) := by
  have hqi := (B.1.2.1 i hi).1
  have ho := nb_lt H hqi hn
  have hei : e ≤ i := by obtain ⟨-, e2, h1, h2⟩ := B.1.2.1 i hi; rw [he] at h1; cases h1; exact h2
  have q1 : ∀ k, k < n → addQ qs n o k = qs k := fun k hk => if_neg (by omega)
  have q2 : addQ qs n o n = o := if_pos rfl
  have old : ∀ x y, D x = some y → setO D o (e + 1) x = some y := fun x y hx => by rw [setO_ne _ _ (fun z => by rw [z, hD] at hx; cases hx)]; exact hx
  have ne : ∀ k, k < n → qs k ≠ o := fun k hk z => by obtain ⟨-, e, he, -⟩ := B.1.2.1 k hk; rw [z, hD] at he; cases he
  have d1 : ∀ k, k < n → setO D o (e + 1) (addQ qs n o k) = D (qs k) := fun k hk => by rw [q1 k hk, setO_ne _ _ (ne k hk)]
  have d2 : setO D o (e + 1) (addQ qs n o n) = some (e + 1) := by rw [q2, setO_at]
  refine ⟨B.1.add ho hD (by omega) (fun k e2 hk h1 => B.2.2.1 k e e2 hi hk he h1), B.2.1.add hqi hj hn ho hD he hb, fun k e1 e2 h1 h2 h3 h4 => ?_, fun k d o2 e2 h1 h2 h3 h4 h5 h6 => ?_⟩
  · rw [d1 i hi, he] at h3; cases h3
    by_cases ek : k = n
    · subst ek; rw [d2] at h4; cases h4; exact Nat.le_refl _
    · rw [d1 k (by omega)] at h4
      exact B.2.2.1 k e e2 hi (by omega) he h4
  · have hk : k < n := by omega
    rw [d1 k hk] at h5
    rw [q1 k hk] at h4
    by_cases e1 : k = i ∧ d = j
    · obtain ⟨rfl, rfl⟩ := e1
      rw [hn] at h4; cases h4
      rw [he] at h5; cases h5
      exact ⟨e + 1, Nat.le_refl _, setO_at _ _ _⟩
    · obtain ⟨e3, h7, h8⟩ := B.2.2.2 k d o2 e2 (by omega) hk h3 h4 h5 h6
      exact ⟨e3, h7, old _ _ h8⟩
theorem BI.next (B : BI w h ht src tp fl D qs n i 4) (hi : i < n) : BI w h ht src tp fl D qs n (i + 1) 0 := by
  refine ⟨B.1, B.2.1, fun k e e' h1 h2 h3 h4 => ?_, fun k d o e h1 h2 h3 h4 h5 h6 => ?_⟩
  · obtain ⟨-, e0, he0, -⟩ := B.1.2.1 i hi
    have h5 := B.1.2.2.2 i (i + 1) e0 e (by omega) h1 he0 h3
    have h6 := B.2.2.1 k e0 e' hi h2 he0 h4
    omega
  · exact B.2.2.2 k d o e (by omega) h2 h3 h4 h5 h6
theorem BI.done (B : BI w h ht src tp fl D qs n i j) (hi : n ≤ i) : DL w h ht src tp fl (w * h) D := by
  refine ⟨B.2.1.1, B.2.1.2, fun c d o e hc hd hn he _ hb => ?_⟩
  obtain ⟨k, hk, rfl⟩ := B.1.2.2.1 c e hc he
  exact B.2.2.2 k d o e (by omega) hk hd hn he hb
end BIs
/-- the starts up to cell i -/
def BS (w h : Nat) (ht : Nat → Nat) (src : Nat → Bool) (tp : Nat) (D : Nat → Option Nat) (qs : Nat → Nat) (n i : Nat) : Prop := BQ w h D qs n ∧ (∀ c x, D c = some x → x = 0) ∧ ∀ c, c < w * h → (D c = some 0 ↔ c < i ∧ src c = true ∧ ht c < tp)
section BSs
variable {w h : Nat} {ht : Nat → Nat} {src : Nat → Bool} {tp fl : Nat} {D : Nat → Option Nat} {qs : Nat → Nat} {n i : Nat}
theorem BS.first : BS w h ht src tp (fun _ => none) qs 0 0 := by
  refine ⟨⟨?_, fun k hk => absurd hk (by omega), fun c e hc he => (by cases he), fun k k' e e' h1 h2 => absurd h2 (by omega)⟩, fun c x he => (by cases he), fun c hc => ⟨fun he => (by cases he), fun z => absurd z.1 (by omega)⟩⟩
  have : ∀ n, ctf (fun _ => false) n = n := fun n => by induction n with
    | zero => rfl
    | succ n ih => simp only [ctf, ih]; rfl
  show 0 + ctf (fun _ => false) (w * h) = w * h
  rw [this]; omega
theorem BS.none (B : BS w h ht src tp D qs n i) (hi : i < w * h) : D i = none := by
  cases hD : D i with
  | none => rfl
  | some x =>
    have := B.2.1 i x hD
    subst this
    have := ((B.2.2 i hi).mp hD).1
    omega
theorem BS.no (B : BS w h ht src tp D qs n i) (hr : src i = false ∨ ¬ ht i < tp) : BS w h ht src tp D qs n (i + 1) := by
  refine ⟨B.1, B.2.1, fun c hc => ?_⟩
  rw [B.2.2 c hc]
  constructor
  · rintro ⟨h1, h2⟩; exact ⟨by omega, h2⟩
  · rintro ⟨h1, h2, h3⟩
    refine ⟨?_, h2, h3⟩
    by_cases e : c = i
    · subst e; rcases hr with hr | hr
      · rw [hr] at h2; cases h2
      · exact absurd h3 hr
    · omega
theorem BS.yes (B : BS w h ht src tp D qs n i) (hi : i < w * h) (h1 : src i = true) (h2 : ht i < tp) : BS w h ht src tp (setO D i 0) (addQ qs n i) (n + 1) (i + 1) := by
  refine ⟨B.1.add hi (B.none hi) (by omega) (fun k e hk he => by rw [B.2.1 _ _ he]; omega), fun c x hx => ?_, fun c hc => ?_⟩
  · by_cases e : c = i
    · subst e; rw [setO_at] at hx; cases hx; rfl
    · rw [setO_ne _ _ e] at hx; exact B.2.1 c x hx
  · by_cases e : c = i
    · subst e; rw [setO_at]; exact ⟨fun _ => ⟨by omega, h1, h2⟩, fun _ => rfl⟩
    · rw [setO_ne _ _ e, B.2.2 c hc]
      constructor
      · rintro ⟨h1, h2⟩; exact ⟨by omega, h2⟩
      · rintro ⟨h1, h2⟩; exact ⟨by omega, h2⟩
theorem BS.start (B : BS w h ht src tp D qs n (w * h)) : BI w h ht src tp fl D qs n 0 0 := by
  refine ⟨B.1, ⟨fun c hc => ?_, fun o e ho he => absurd (B.2.1 o _ he) (by omega)⟩, fun k e e' h1 h2 h3 h4 => by rw [B.2.1 _ _ h4]; omega, fun k d o e h1 => absurd h1 (by omega)⟩
  rw [B.2.2 c hc]
  exact ⟨fun z => z.2, fun z => ⟨hc, z⟩⟩
end BSs
theorem fcS_cong {w h c : Nat} {ld ld2 : Nat → Bool} {key : Nat → Nat} : ∀ d, (∀ d' o, d' < d → nb w h c d' = some o → ld o = ld2 o) → fcS w h ld key c d = fcS w h ld2 key c d
  | 0, _ => rfl
  | d + 1, hl => by
    simp only [fcS]
    rw [fcS_cong d (fun d' o hd ho => hl d' o (by omega) ho)]
    cases hn : nb w h c d with
    | none => rfl
    | some o => simp only [hl d o (by omega) hn]
/-- what spread found is what the go covers, and its ways -/
theorem spr_ok {w h : Nat} {ht : Nat → Nat} {q : vQ} (V : SpV w h ht q) {D : Nat → Option Nat} (B : DL w h ht (srcB w h q) (qT q) (qFa q) (w * h) D) (B4 : ∀ c x, c < w * h → D c = some x → x < w * h) {c : Nat} (hc : c < w * h) :
    DsC w h ht q c (D c) ∧ CrC w h ht q c ((fcS w h (ldC q ht D c) (bfK q ht) c 4).map Prod.fst) := by
  have H := V.1
  have hle := H.le
  have b4 : ∀ x, D c = some x → x ≤ 36 := fun x hx => by have := B4 c x hc hx; omega
  have c4 : ∀ d, (fcS w h (ldC q ht D c) (bfK q ht) c 4).map Prod.fst = some d → d < 4 := by
    intro d hd
    cases hf : fcS w h (ldC q ht D c) (bfK q ht) c 4 with
    | none => rw [hf] at hd; cases hd
    | some p => rw [hf] at hd; cases hd; exact (fc_some 4 p hf).1
  cases hq : qI q with
  | true =>
    have e1 : srcB w h q = fun c => decide (c = qS q) := by funext c; unfold srcB; rw [if_pos hq]
    have e2 : qFa q = qF q := by unfold qFa; rw [if_pos hq]
    rw [e1, e2] at B
    have same : ∀ c, c < w * h → D c = iceD w h ht (qS q) (qT q) (qF q) c := fun c hc => DL.same (iceD_DL w h ht _ _ _) B B4 hc
    have ec : cov w h ht q c = D c := by unfold cov; rw [if_pos hq, same c hc]
    refine ⟨⟨by rw [ec], fun _ => ec.symm, b4⟩, ⟨fun _ => ?_, fun z => (by rw [z] at hq; cases hq), c4⟩⟩
    have e3 : ldC q ht D c = ldI D c := by funext o; unfold ldC; rw [if_pos hq]
    have e4 : bfK q ht = fun o => o := by funext o; unfold bfK; rw [if_pos hq]
    rw [e3, e4, crs_fc H]
    unfold flw
    rw [if_pos hq]
    exact crs_cong H same hc
  | false =>
    have hq2 : ¬ qI q = true := by rw [hq]; decide
    have e1 : srcB w h q = edg w h := by funext c; unfold srcB; rw [if_neg hq2]
    have e2 : qFa q = 0 := by unfold qFa; rw [if_neg hq2]
    rw [e1, e2] at B
    have same := flood_DL B B4
    have ec : ∀ c, c < w * h → (cov w h ht q c).isSome = (D c).isSome := by
      intro c hc
      unfold cov
      rw [if_neg hq2, same c hc]
      cases floodC w h ht (qT q) c <;> rfl
    refine ⟨⟨(ec c hc).symm, fun z => (by rw [z] at hq; cases hq), b4⟩, ⟨fun z => (by rw [z] at hq; cases hq), fun _ => ?_, c4⟩⟩
    have e4 : bfK q ht = fun o => ht o * 64 + o := by funext o; unfold bfK; rw [if_neg hq2]
    have e5 : fcS w h (ldC q ht D c) (bfK q ht) c 4 = fcS w h (ldF w h ht q c) (fun o => ht o * 64 + o) c 4 := by
      rw [e4]
      refine fcS_cong 4 (fun d o hd ho => ?_)
      unfold ldC ldF
      rw [if_neg hq2, ec c hc, ec o (nb_lt H hc ho)]
    rw [e5]
    have k := sft_fc H (ht := ht) (q := q) hc
    refine ⟨fun z => k.1 ?_, fun d hd => ?_⟩
    · cases hf : fcS w h (ldF w h ht q c) (fun o => ht o * 64 + o) c 4 with
      | none => rfl
      | some p => rw [hf] at z; cases z
    · cases hf : fcS w h (ldF w h ht q c) (fun o => ht o * 64 + o) c 4 with
      | none => rw [hf] at hd; cases hd
      | some p => rw [hf] at hd; cases hd; exact k.2 p hf
set_option maxRecDepth 100000 in
set_option maxHeartbeats 4000000 in
theorem k_spr4 {E : vE} {l : Launch} {Q : Option Value → vS → vM → Prop} {L : Nat} {M : vM} {w h : Nat} {ht : Nat → Nat} {g : Nat} {q : vQ} (V : SpV w h ht q) (K : SpC M w h ht g q) (hg : g < 6) {D : Nat → Option Nat} (hv : ∀ c x, c < w * h → D c = some x → x ≤ 36) (hQ : ∀ M1 : vM, Fr [12, 18, 19, 20] M M1 → OutG g M M1 → (∀ c, c < w * h → M1 18 (36 * g + c) = oI (-1) (D c)) → (∀ c, c < w * h → M1 19 (36 * g + c) = oI (-1) ((fcS w h (ldC q ht D c) (bfK q ht) c 4).map Prod.fst)) → Q none (S0 L) M1) : ∀ M1 : vM, Fr [12, 18, 19, 20] M M1 → OutG g M M1 → (∀ c, c < w * h → M1 18 (36 * g + c) = oI (-1) (D c)) → (∀ c, c < 0 → M1 19 (36 * g + c) = oI (-1) ((fcS w h (ldC q ht D c) (bfK q ht) c 4).map Prod.fst)) → PM E l mX0_spread 168 [.ref 12, .int (nI g), .int (nI 0), .null, .null] [] (S0 L) M1 0 0 Q := by
  have H := V.1
  have e4 := H.le
  have hT := V.2.2.1
  have hF := V.fa
  refine lp_up (P := fun i => ∀ M1 : vM, Fr [12, 18, 19, 20] M M1 → OutG g M M1 → (∀ c, c < w * h → M1 18 (36 * g + c) = oI (-1) (D c)) → (∀ c, c < i → M1 19 (36 * g + c) = oI (-1) ((fcS w h (ldC q ht D c) (bfK q ht) c 4).map Prod.fst)) → PM E l mX0_spread 168 [.ref 12, .int (nI g), .int (nI i), .null, .null] [] (S0 L) M1 0 0 Q) (w * h) ?_ ?_ 0 (Nat.zero_le _)
  · intro M1 g1 g2 g3 g4
    refine x_iload_n dX0_spread_168 rfl ?_
    refine x_aload_n dX0_spread_169 rfl ?_
    refine g_R (s0_12 L) fkX0_37 rfl rfl rfl dX0_spread_170 ?_
    refine g_I (s0_4 L) fkX0_57 rfl rfl dX0_spread_173 ?_
    refine x_as ((congrFun (g1 4 (by decide)) _).trans (K.1.1)) ?_
    refine n_icmp_ge 202 dX0_spread_176 rfl (by omega) (by omega) (fun h1 => ?_) (fun h1 => by omega)
    refine x_vret dX0_spread_202 rfl ?_
    exact hQ M1 g1 g2 g3 g4
  · intro i hi ih M1 g1 g2 g3 g4
    refine x_iload_n dX0_spread_168 rfl ?_
    refine x_aload_n dX0_spread_169 rfl ?_
    refine g_R (s0_12 L) fkX0_37 rfl rfl rfl dX0_spread_170 ?_
    refine g_I (s0_4 L) fkX0_57 rfl rfl dX0_spread_173 ?_
    refine x_as ((congrFun (g1 4 (by decide)) _).trans (K.1.1)) ?_
    refine n_icmp_ge 202 dX0_spread_176 rfl (by omega) (by omega) (fun h1 => by omega) (fun h1 => ?_)
    refine x_aload_n dX0_spread_179 rfl ?_
    refine g_R (s0_12 L) fkX0_31 rfl rfl rfl dX0_spread_180 ?_
    refine x_bipush dX0_spread_183 bipush_36 ?_
    refine x_iload_n dX0_spread_185 rfl ?_
    refine n_imul dX0_spread_186 ?_
    refine x_iload_n dX0_spread_187 rfl ?_
    refine n_iadd dX0_spread_188 ?_
    refine x_aload_n dX0_spread_189 rfl ?_
    refine x_iload_n dX0_spread_190 rfl ?_
    refine x_iload_n dX0_spread_191 rfl ?_
    refine cV2 (mj := mX0_findCourse) lkX0_75 okX0_findCourse imX0_findCourse seX0_findCourse (s0_12 L) rfl rfl rfl rfl rfl dX0_spread_192 rfl (k_findCourse V (K.kept g1 (by decide)) hg hv g3 hi ?_)
    refine n_iast rfl (s0_19 L) (by omega) rfl dX0_spread_195 ?_
    refine n_inc dX0_spread_196 rfl rfl ?_
    refine x_goto 168 dX0_spread_199 rfl ?_
    refine ih _ (g1.set _ (by decide)) (g2.trans ⟨fun j hj => rfl, fun j hj => ⟨rfl, ?_⟩⟩) g3 (fun c hc => ?_)
    · exact upd_ne _ _ (by omega)
    · by_cases e : c = i
      · subst e; exact upd_at _ _ _
      · exact (upd_ne _ _ (by omega)).trans (g4 c (by omega))
set_option maxRecDepth 100000 in
set_option maxHeartbeats 4000000 in
theorem k_spr3 {E : vE} {l : Launch} {Q : Option Value → vS → vM → Prop} {L : Nat} {M : vM} {w h : Nat} {ht : Nat → Nat} {g : Nat} {q : vQ} (V : SpV w h ht q) (K : SpC M w h ht g q) (hg : g < 6) (hQ : ∀ (M1 : vM) (D : Nat → Option Nat), Fr [12, 18, 19, 20] M M1 → OutG g M M1 → (∀ c, c < w * h → M1 18 (36 * g + c) = oI (-1) (D c)) → DL w h ht (srcB w h q) (qT q) (qFa q) (w * h) D → (∀ c x, c < w * h → D c = some x → x < w * h) → (∀ c, c < w * h → M1 19 (36 * g + c) = oI (-1) ((fcS w h (ldC q ht D c) (bfK q ht) c 4).map Prod.fst)) → Q none (S0 L) M1) : ∀ (M1 : vM) (D : Nat → Option Nat) (qs : Nat → Nat) (n : Nat), Fr [12, 18, 19, 20] M M1 → OutG g M M1 → BfM M1 w h g D qs n → BI w h ht (srcB w h q) (qT q) (qFa q) D qs n 0 0 → PM E l mX0_spread 97 [.ref 12, .int (nI g), .int (nI 0), .null, .null] [] (S0 L) M1 0 0 Q := by
  have H := V.1
  have e4 := H.le
  have hT := V.2.2.1
  have hF := V.fa
  refine lp_up (P := fun i => ∀ (M1 : vM) (D : Nat → Option Nat) (qs : Nat → Nat) (n : Nat), Fr [12, 18, 19, 20] M M1 → OutG g M M1 → BfM M1 w h g D qs n → BI w h ht (srcB w h q) (qT q) (qFa q) D qs n i 0 → PM E l mX0_spread 97 [.ref 12, .int (nI g), .int (nI i), .null, .null] [] (S0 L) M1 0 0 Q) 36 ?_ ?_ 0 (by omega)
  · intro M1 D qs n g1 g2 g3 g4
    have hle := g4.le
    refine x_iload_n dX0_spread_97 rfl ?_
    refine x_aload_n dX0_spread_98 rfl ?_
    refine g_I (s0_12 L) fkX0_54 rfl rfl dX0_spread_99 ?_
    refine x_as g3.1 ?_
    refine n_icmp_ge 166 dX0_spread_102 rfl (by omega) (by omega) (fun h1 => ?_) (fun h1 => by omega)
    refine x_iconst dX0_spread_166 iconst_0 ?_
    refine x_istore_n dX0_spread_167 (by decide) rfl ?_
    refine k_spr4 V (K.kept g1 (by decide)) hg (D := D) (fun c x hc hx => by have := g4.val c x hc hx; omega) (fun M2 k1 k2 k3 k4 => ?_) M1 Fr.rf OutG.rf g3.2.1 (fun c hc => absurd hc (by omega))
    exact hQ M2 D (g1.trans k1) (g2.trans k2) k3 (g4.done (by omega)) g4.val k4
  · intro i hi ih M1 D qs n g1 g2 g3 g4
    have hle := g4.le
    have lj : ∀ (M1 : vM) (D : Nat → Option Nat) (qs : Nat → Nat) (n : Nat), i < n → Fr [12, 18, 19, 20] M M1 → OutG g M M1 → BfM M1 w h g D qs n → BI w h ht (srcB w h q) (qT q) (qFa q) D qs n i 0 → PM E l mX0_spread 121 [.ref 12, .int (nI g), .int (nI i), .int (nI (qs i)), .int (nI 0)] [] (S0 L) M1 0 0 Q := by
      refine lp_up (P := fun j => ∀ (M1 : vM) (D : Nat → Option Nat) (qs : Nat → Nat) (n : Nat), i < n → Fr [12, 18, 19, 20] M M1 → OutG g M M1 → BfM M1 w h g D qs n → BI w h ht (srcB w h q) (qT q) (qFa q) D qs n i j → PM E l mX0_spread 121 [.ref 12, .int (nI g), .int (nI i), .int (nI (qs i)), .int (nI j)] [] (S0 L) M1 0 0 Q) 4 ?_ ?_ 0 (by omega)
      · intro M1 D qs n hin g1 g2 g3 g4
        refine x_iload dX0_spread_121 rfl ?_
        refine x_iconst dX0_spread_123 iconst_4 ?_
        refine n_icmp_ge 160 dX0_spread_124 rfl (by omega) (by omega) (fun h1 => ?_) (fun h1 => by omega)
        refine n_inc dX0_spread_160 rfl rfl ?_
        refine x_goto 97 dX0_spread_163 rfl ?_
        refine x_mask [true, true, true, false, false] ?_
        exact ih M1 D qs n g1 g2 g3 (g4.next hin)
      · intro j hj ihj M1 D qs n hin g1 g2 g3 g4
        have hle2 := g4.le
        obtain ⟨hqi, e, he, hei⟩ := g4.1.2.1 i hin
        refine x_iload dX0_spread_121 rfl ?_
        refine x_iconst dX0_spread_123 iconst_4 ?_
        refine n_icmp_ge 160 dX0_spread_124 rfl (by omega) (by omega) (fun h1 => by omega) (fun h1 => ?_)
        refine x_aload_n dX0_spread_127 rfl ?_
        refine x_iload_n dX0_spread_128 rfl ?_
        refine x_aload_n dX0_spread_129 rfl ?_
        refine g_R (s0_12 L) fkX0_37 rfl rfl rfl dX0_spread_130 ?_
        refine g_R (s0_4 L) fkX0_68 rfl rfl rfl dX0_spread_133 ?_
        refine x_iconst dX0_spread_136 iconst_4 ?_
        refine x_iload_n dX0_spread_137 rfl ?_
        refine n_imul dX0_spread_138 ?_
        refine x_iload dX0_spread_139 rfl ?_
        refine n_iadd dX0_spread_141 ?_
        refine n_iald (s0_7 L) (by omega) rfl dX0_spread_142 ?_
        refine x_as ((congrFun (g1 7 (by decide)) _).trans (K.1.2 (qs i) j hqi hj)) ?_
        refine x_aload_n dX0_spread_143 rfl ?_
        refine x_iload_n dX0_spread_144 rfl ?_
        refine x_iload_n dX0_spread_145 rfl ?_
        refine cV2 (mj := mX0_distAt) lkX0_71 okX0_distAt imX0_distAt seX0_distAt (s0_12 L) rfl rfl rfl rfl rfl dX0_spread_146 rfl (k_distAt hg (by omega) ?_)
        rw [g3.2.1 _ hqi, he, oI_some]
        refine x_iconst dX0_spread_149 iconst_1 ?_
        refine n_iadd dX0_spread_150 ?_
        refine cV3 (mj := mX0_reach) lkX0_64 okX0_reach imX0_reach seX0_reach (s0_12 L) rfl rfl rfl rfl rfl dX0_spread_151 rfl (k_reach V (K.kept g1 (by decide)) hg g3 (fun c x hc hx => by have := g4.val c x hc hx; omega) (by omega) (by omega) (fun o ho => nb_lt H hqi ho) (fun o ho hD => by have := g4.1.room (nb_lt H hqi ho) hD; omega) (fun hr => ?_) (fun o M2 ho hD hb k1 k2 k3 => ?_))
        · refine n_inc dX0_spread_154 rfl rfl ?_
          refine x_goto 121 dX0_spread_157 rfl ?_
          exact ihj M1 D qs n hin g1 g2 g3 (g4.no hin he hr H)
        · refine n_inc dX0_spread_154 rfl rfl ?_
          refine x_goto 121 dX0_spread_157 rfl ?_
          have q3 : addQ qs n o i = qs i := if_neg (by omega)
          have ih3 := ihj M2 (setO D o (e + 1)) (addQ qs n o) (n + 1) (by omega) (g1.trans (k1.sub (by decide))) (g2.trans k2) k3 (g4.yes hin hj he ho hD hb H)
          rw [q3] at ih3
          exact ih3
    refine x_iload_n dX0_spread_97 rfl ?_
    refine x_aload_n dX0_spread_98 rfl ?_
    refine g_I (s0_12 L) fkX0_54 rfl rfl dX0_spread_99 ?_
    refine x_as g3.1 ?_
    refine n_icmp_ge 166 dX0_spread_102 rfl (by omega) (by omega) (fun y0 => ?_) (fun y0 => ?_)
    · refine x_iconst dX0_spread_166 iconst_0 ?_
      refine x_istore_n dX0_spread_167 (by decide) rfl ?_
      refine k_spr4 V (K.kept g1 (by decide)) hg (D := D) (fun c x hc hx => by have := g4.val c x hc hx; omega) (fun M2 k1 k2 k3 k4 => ?_) M1 Fr.rf OutG.rf g3.2.1 (fun c hc => absurd hc (by omega))
      exact hQ M2 D (g1.trans k1) (g2.trans k2) k3 (g4.done (by omega)) g4.val k4
    · refine x_iload_n dX0_spread_105 rfl ?_
      refine x_bipush dX0_spread_106 bipush_36 ?_
      refine n_icmp_ge 166 dX0_spread_108 rfl (by omega) (by omega) (fun h2 => by omega) (fun h2 => ?_)
      refine x_aload_n dX0_spread_111 rfl ?_
      refine g_R (s0_12 L) fkX0_34 rfl rfl rfl dX0_spread_112 ?_
      refine x_iload_n dX0_spread_115 rfl ?_
      refine n_iald (s0_20 L) hi rfl dX0_spread_116 ?_
      refine x_as (g3.2.2 i (by omega)) ?_
      refine x_istore_n dX0_spread_117 (by decide) rfl ?_
      refine x_iconst dX0_spread_118 iconst_0 ?_
      refine x_istore dX0_spread_119 (by decide) rfl ?_
      exact lj M1 D qs n (by omega) g1 g2 g3 g4
set_option maxRecDepth 100000 in
set_option maxHeartbeats 4000000 in
theorem k_spr2 {E : vE} {l : Launch} {Q : Option Value → vS → vM → Prop} {L : Nat} {M : vM} {w h : Nat} {ht : Nat → Nat} {g : Nat} {q : vQ} (V : SpV w h ht q) (K : SpC M w h ht g q) (hg : g < 6) (hQ : ∀ (M1 : vM) (D : Nat → Option Nat), Fr [12, 18, 19, 20] M M1 → OutG g M M1 → (∀ c, c < w * h → M1 18 (36 * g + c) = oI (-1) (D c)) → DL w h ht (srcB w h q) (qT q) (qFa q) (w * h) D → (∀ c x, c < w * h → D c = some x → x < w * h) → (∀ c, c < w * h → M1 19 (36 * g + c) = oI (-1) ((fcS w h (ldC q ht D c) (bfK q ht) c 4).map Prod.fst)) → Q none (S0 L) M1) : ∀ (M1 : vM) (D : Nat → Option Nat) (qs : Nat → Nat) (n : Nat), Fr [12, 18, 19, 20] M M1 → OutG g M M1 → BfM M1 w h g D qs n → BS w h ht (srcB w h q) (qT q) D qs n 0 → PM E l mX0_spread 38 [.ref 12, .int (nI g), .int (nI 0), .null, .null] [] (S0 L) M1 0 0 Q := by
  have H := V.1
  have e4 := H.le
  have hT := V.2.2.1
  have hF := V.fa
  refine lp_up (P := fun i => ∀ (M1 : vM) (D : Nat → Option Nat) (qs : Nat → Nat) (n : Nat), Fr [12, 18, 19, 20] M M1 → OutG g M M1 → BfM M1 w h g D qs n → BS w h ht (srcB w h q) (qT q) D qs n i → PM E l mX0_spread 38 [.ref 12, .int (nI g), .int (nI i), .null, .null] [] (S0 L) M1 0 0 Q) (w * h) ?_ ?_ 0 (Nat.zero_le _)
  · intro M1 D qs n g1 g2 g3 g4
    refine x_iload_n dX0_spread_38 rfl ?_
    refine x_aload_n dX0_spread_39 rfl ?_
    refine g_R (s0_12 L) fkX0_37 rfl rfl rfl dX0_spread_40 ?_
    refine g_I (s0_4 L) fkX0_57 rfl rfl dX0_spread_43 ?_
    refine x_as ((congrFun (g1 4 (by decide)) _).trans (K.1.1)) ?_
    refine n_icmp_ge 95 dX0_spread_46 rfl (by omega) (by omega) (fun h1 => ?_) (fun h1 => by omega)
    refine x_iconst dX0_spread_95 iconst_0 ?_
    refine x_istore_n dX0_spread_96 (by decide) rfl ?_
    refine k_spr3 V (K.kept g1 (by decide)) hg (fun M2 D2 k1 k2 k3 k4 k5 k6 => hQ M2 D2 (g1.trans k1) (g2.trans k2) k3 k4 k5 k6) M1 D qs n Fr.rf OutG.rf g3 g4.start
  · intro i hi ih M1 D qs n g1 g2 g3 g4
    have hDi := g4.none hi
    have hrm := g4.1.room hi hDi
    have nx : (srcB w h q i = false) → PM E l mX0_spread 89 [.ref 12, .int (nI g), .int (nI i), .null, .null] [] (S0 L) M1 0 0 Q := by
      intro y9
      refine n_inc dX0_spread_89 rfl rfl ?_
      refine x_goto 38 dX0_spread_92 rfl ?_
      exact ih M1 D qs n g1 g2 g3 (g4.no (Or.inl y9))
    have ry : srcB w h q i = true → PM E l mX0_spread 82 [.ref 12, .int (nI g), .int (nI i), .null, .null] [] (S0 L) M1 0 0 Q := by
      intro y9
      refine x_aload_n dX0_spread_82 rfl ?_
      refine x_iload_n dX0_spread_83 rfl ?_
      refine x_iload_n dX0_spread_84 rfl ?_
      refine x_iconst dX0_spread_85 iconst_0 ?_
      refine cV3 (mj := mX0_reach) lkX0_64 okX0_reach imX0_reach seX0_reach (s0_12 L) rfl rfl rfl rfl rfl dX0_spread_86 rfl (k_reach (oc := some i) (e := 0) V (K.kept g1 (by decide)) hg g3 (fun c x hc hx => by rw [g4.2.1 c x hx]; omega) (by omega) (by omega) (fun o ho => by cases ho; exact hi) (fun o ho hD => by omega) (fun hr => ?_) (fun o M2 ho hD hb k1 k2 k3 => ?_))
      · refine n_inc dX0_spread_89 rfl rfl ?_
        refine x_goto 38 dX0_spread_92 rfl ?_
        exact ih M1 D qs n g1 g2 g3 (g4.no (Or.inr (by have := hr i rfl hDi; omega)))
      · cases ho
        refine n_inc dX0_spread_89 rfl rfl ?_
        refine x_goto 38 dX0_spread_92 rfl ?_
        exact ih M2 _ _ _ (g1.trans (k1.sub (by decide))) (g2.trans k2) k3 (g4.yes hi y9 (by omega))
    refine x_iload_n dX0_spread_38 rfl ?_
    refine x_aload_n dX0_spread_39 rfl ?_
    refine g_R (s0_12 L) fkX0_37 rfl rfl rfl dX0_spread_40 ?_
    refine g_I (s0_4 L) fkX0_57 rfl rfl dX0_spread_43 ?_
    refine x_as ((congrFun (g1 4 (by decide)) _).trans (K.1.1)) ?_
    refine n_icmp_ge 95 dX0_spread_46 rfl (by omega) (by omega) (fun h1 => by omega) (fun h1 => ?_)
    refine x_aload_n dX0_spread_49 rfl ?_
    refine g_R (s0_12 L) fkX0_9 rfl rfl rfl dX0_spread_50 ?_
    refine x_iload_n dX0_spread_53 rfl ?_
    refine n_bald (s0_13 L) hg rfl dX0_spread_54 ?_
    refine x_as ((congrFun (g1 13 (by decide)) _).trans (K.2.2.1)) ?_
    refine b_if_eq 71 dX0_spread_55 rfl (fun y1 => ?_) (fun y1 => ?_)
    · refine x_aload_n dX0_spread_71 rfl ?_
      refine g_R (s0_12 L) fkX0_37 rfl rfl rfl dX0_spread_72 ?_
      refine x_iload_n dX0_spread_75 rfl ?_
      refine cV1 (mj := mX1_isEdge) lkX0_60 okX1_isEdge imX1_isEdge seX1_isEdge (s0_4 L) rfl rfl rfl rfl rfl dX0_spread_76 rfl (k_isEdge H (K.kept g1 (by decide)).1 hi ?_)
      refine b_if_eq 89 dX0_spread_79 rfl (fun y3 => ?_) (fun y3 => ?_)
      · exact nx (by unfold srcB; rw [if_neg (by rw [y1]; decide)]; exact y3)
      · exact ry (by unfold srcB; rw [if_neg (by rw [y1]; decide)]; exact y3)
    · refine x_aload_n dX0_spread_58 rfl ?_
      refine g_R (s0_12 L) fkX0_15 rfl rfl rfl dX0_spread_59 ?_
      refine x_iload_n dX0_spread_62 rfl ?_
      refine n_iald (s0_14 L) hg rfl dX0_spread_63 ?_
      refine x_as ((congrFun (g1 14 (by decide)) _).trans (K.2.2.2.2.2 y1)) ?_
      refine x_iload_n dX0_spread_64 rfl ?_
      refine n_icmp_ne 89 dX0_spread_65 rfl (by have := (V.2.2.2 y1).1; omega) (by omega) (fun y2 => ?_) (fun y2 => ?_)
      · exact nx (by unfold srcB; rw [if_pos y1]; simp only [decide_eq_false_iff_not]; omega)
      · refine x_goto 82 dX0_spread_68 rfl ?_
        exact ry (by unfold srcB; rw [if_pos y1]; simp only [decide_eq_true_eq]; omega)
set_option maxRecDepth 100000 in
set_option maxHeartbeats 4000000 in
theorem k_spread {E : vE} {l : Launch} {Q : Option Value → vS → vM → Prop} {L : Nat} {M : vM} {w h : Nat} {ht : Nat → Nat} {g : Nat} {q : vQ} (V : SpV w h ht q) (K : SpC M w h ht g q) (hg : g < 6) (hQ : ∀ M1 : vM, Fr [12, 18, 19, 20] M M1 → OutG g M M1 → (∀ c, c < w * h → (∃ o, M1 18 (36 * g + c) = oI (-1) o ∧ DsC w h ht q c o) ∧ ∃ o, M1 19 (36 * g + c) = oI (-1) o ∧ CrC w h ht q c o) → Q none (S0 L) M1) : PM E l mX0_spread 0 [.ref 12, .int (nI g), .null, .null, .null] [] (S0 L) M 0 0 Q := by
  have H := V.1
  have e4 := H.le
  have hT := V.2.2.1
  have hF := V.fa
  have l1 : ∀ M1 : vM, Fr [12, 18, 19, 20] M M1 → OutG g M M1 → M1 12 9 = nI 0 → (∀ c, c < 0 → M1 18 (36 * g + c) = -1) → PM E l mX0_spread 7 [.ref 12, .int (nI g), .int (nI 0), .null, .null] [] (S0 L) M1 0 0 Q := by
    refine lp_up (P := fun i => ∀ M1 : vM, Fr [12, 18, 19, 20] M M1 → OutG g M M1 → M1 12 9 = nI 0 → (∀ c, c < i → M1 18 (36 * g + c) = -1) → PM E l mX0_spread 7 [.ref 12, .int (nI g), .int (nI i), .null, .null] [] (S0 L) M1 0 0 Q) (w * h) ?_ ?_ 0 (Nat.zero_le _)
    · intro M1 g1 g2 g3 g4
      refine x_iload_n dX0_spread_7 rfl ?_
      refine x_aload_n dX0_spread_8 rfl ?_
      refine g_R (s0_12 L) fkX0_37 rfl rfl rfl dX0_spread_9 ?_
      refine g_I (s0_4 L) fkX0_57 rfl rfl dX0_spread_12 ?_
      refine x_as ((congrFun (g1 4 (by decide)) _).trans (K.1.1)) ?_
      refine n_icmp_ge 36 dX0_spread_15 rfl (by omega) (by omega) (fun h1 => ?_) (fun h1 => by omega)
      refine x_iconst dX0_spread_36 iconst_0 ?_
      refine x_istore_n dX0_spread_37 (by decide) rfl ?_
      refine k_spr2 V (K.kept g1 (by decide)) hg (fun M2 D k1 k2 k3 k4 k5 k6 => hQ M2 (g1.trans k1) (g2.trans k2) (fun c hc => ?_)) M1 (fun _ => none) (fun _ => 0) 0 Fr.rf OutG.rf ⟨g3, fun c hc => g4 c hc, fun k hk => absurd hk (by omega)⟩ BS.first
      have r := spr_ok V k4 k5 hc
      exact ⟨⟨_, k3 c hc, r.1⟩, _, k6 c hc, r.2⟩
    · intro i hi ih M1 g1 g2 g3 g4
      refine x_iload_n dX0_spread_7 rfl ?_
      refine x_aload_n dX0_spread_8 rfl ?_
      refine g_R (s0_12 L) fkX0_37 rfl rfl rfl dX0_spread_9 ?_
      refine g_I (s0_4 L) fkX0_57 rfl rfl dX0_spread_12 ?_
      refine x_as ((congrFun (g1 4 (by decide)) _).trans (K.1.1)) ?_
      refine n_icmp_ge 36 dX0_spread_15 rfl (by omega) (by omega) (fun h1 => by omega) (fun h1 => ?_)
      refine x_aload_n dX0_spread_18 rfl ?_
      refine g_R (s0_12 L) fkX0_28 rfl rfl rfl dX0_spread_19 ?_
      refine x_bipush dX0_spread_22 bipush_36 ?_
      refine x_iload_n dX0_spread_24 rfl ?_
      refine n_imul dX0_spread_25 ?_
      refine x_iload_n dX0_spread_26 rfl ?_
      refine n_iadd dX0_spread_27 ?_
      refine x_iconst dX0_spread_28 iconst_m1 ?_
      refine n_iast rfl (s0_18 L) (by omega) rfl dX0_spread_29 ?_
      refine n_inc dX0_spread_30 rfl rfl ?_
      refine x_goto 7 dX0_spread_33 rfl ?_
      refine ih _ (g1.set _ (by decide)) (g2.trans ⟨fun j hj => rfl, fun j hj => ⟨?_, rfl⟩⟩) g3 (fun c hc => ?_)
      · exact upd_ne _ _ (by omega)
      · by_cases e : c = i
        · subst e; exact upd_at _ _ _
        · exact (upd_ne _ _ (by omega)).trans (g4 c (by omega))
  refine x_aload_n dX0_spread_0 rfl ?_
  refine x_iconst dX0_spread_1 iconst_0 ?_
  refine g_P (s0_12 L) fkX0_54 rfl rfl rfl rfl dX0_spread_2 ?_
  refine x_iconst dX0_spread_5 iconst_0 ?_
  refine x_istore_n dX0_spread_6 (by decide) rfl ?_
  refine l1 _ (Fr.rf.set _ (by decide)) ⟨fun j hj => ?_, fun j hj => ⟨rfl, rfl⟩⟩ ?_ (fun c hc => absurd hc (by omega))
  · exact upd_ne _ _ hj
  · show upd (M 12) 9 (nI 0) 9 = nI 0
    exact upd_at _ _ _

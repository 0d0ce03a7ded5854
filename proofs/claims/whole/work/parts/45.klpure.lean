/-- the ten bits turned round -/
def rv (s : Nat) : Nat := itr (fun b x => 2 * x + b1 (s.testBit b)) 10 0
def ckR (s : Nat) : Bool := Nat.blt (rv s) 1024 && Nat.beq (rv (rv s)) s && Nat.beq (on10 (rv s)) (on10 s) && (List.range 10).all (fun b => ((rv s).testBit (9 - b)) == s.testBit b)
set_option maxRecDepth 100000 in
set_option maxHeartbeats 4000000 in
theorem ckR_all : ∀ s : Fin 1024, ckR s.val = true := by decide +kernel
theorem rv_all {s : Nat} (hs : s < 1024) : rv s < 1024 ∧ rv (rv s) = s ∧ on10 (rv s) = on10 s ∧ ∀ b, b < 10 → (rv s).testBit (9 - b) = s.testBit b := by
  have h := ckR_all ⟨s, hs⟩
  simp only [ckR, Bool.and_eq_true, List.all_eq_true, List.mem_range] at h
  obtain ⟨⟨⟨h1, h2⟩, h3⟩, h4⟩ := h
  exact ⟨Nat.le_of_ble_eq_true h1, Nat.eq_of_beq_eq_true h2, Nat.eq_of_beq_eq_true h3, fun b hb => eq_of_beq (h4 b hb)⟩
def ckT (x b : Nat) : Bool := Nat.beq (rv x ^^^ 2 ^ (9 - b)) (rv (if x.testBit b then x &&& (2 ^ b ^^^ 1023) else x ||| 2 ^ b)) && (if x.testBit b then Nat.beq (on10 (x &&& (2 ^ b ^^^ 1023)) + 1) (on10 x) else Nat.beq (on10 (x ||| 2 ^ b)) (on10 x + 1))
set_option maxRecDepth 100000 in
set_option maxHeartbeats 4000000 in
theorem ckT_all : ∀ x : Fin 1024, ∀ b : Fin 10, ckT x.val b.val = true := by decide +kernel
theorem lb_all : ∀ x : Fin 1024, (Nat.beq x.val 0 || (List.range 10).any (fun p => decide (nI x.val &&& -nI x.val = nI (2 ^ p)) && x.val.testBit p && (List.range p).all (fun q => !x.val.testBit q))) = true := by decide +kernel
theorem and_2 {s p : Nat} : s &&& 2 ^ p = if s.testBit p then 2 ^ p else 0 := by
  apply Nat.eq_of_testBit_eq
  intro i
  rw [Nat.testBit_and, Nat.testBit_two_pow]
  by_cases h : p = i
  · subst h
    cases hs : s.testBit p
    · simp
    · simp [Nat.testBit_two_pow]
  · simp only [decide_eq_false h, Bool.and_false]
    cases hs : s.testBit p
    · simp
    · simp [Nat.testBit_two_pow, h]
theorem xor_0 {s t : Nat} (h : s ^^^ t = 0) : s = t := by
  apply Nat.eq_of_testBit_eq
  intro i
  have h2 : (s ^^^ t).testBit i = false := by rw [h, Nat.zero_testBit]
  rw [Nat.testBit_xor] at h2
  cases h5 : s.testBit i <;> cases h6 : t.testBit i <;> rw [h5, h6] at h2 <;> first | rfl | cases h2
theorem tb_lt {a b i : Nat} (h1 : a.testBit i = false) (h2 : b.testBit i = true) (h3 : ∀ j, i < j → a.testBit j = b.testBit j) : a < b := by
  have e : a / 2 ^ i / 2 = b / 2 ^ i / 2 := by
    rw [Nat.div_div_eq_div_mul, Nat.div_div_eq_div_mul, ← Nat.pow_succ]
    apply Nat.eq_of_testBit_eq
    intro j
    rw [Nat.testBit_div_two_pow, Nat.testBit_div_two_pow]
    exact h3 _ (by omega)
  rw [Nat.testBit_eq_decide_div_mod_eq] at h1 h2
  have h4 := of_decide_eq_false h1
  have h5 := of_decide_eq_true h2
  have h6 : a / 2 ^ i < b / 2 ^ i := by omega
  exact Nat.lt_of_div_lt_div h6
theorem nI_2p : ∀ p : Fin 10, ¬ nI (2 ^ p.val) = 0 := by decide
/-- the first by numbers has the greatest turned bits -/
theorem frI_rv {s t : Nat} (hs : s < 1024) (ht : t < 1024) (hne : s ≠ t) : frI s t = decide (rv t < rv s) := by
  have hx : s ^^^ t < 1024 := Nat.xor_lt_two_pow (n := 10) hs ht
  have h := lb_all ⟨s ^^^ t, hx⟩
  simp only [Bool.or_eq_true, List.any_eq_true, List.mem_range, Bool.and_eq_true, decide_eq_true_eq, List.all_eq_true] at h
  rcases h with h | ⟨p, hp, ⟨h1, h2⟩, h3⟩
  · have h0 := Nat.eq_of_beq_eq_true h
    exact absurd (xor_0 h0) hne
  · have e1 : (nI s &&& nI (s ^^^ t)) &&& -nI (s ^^^ t) = nI (s &&& 2 ^ p) := by
      rw [Int32.and_assoc, h1, fa_and]
    have low : ∀ q, q < p → s.testBit q = t.testBit q := by
      intro q hq
      have := h3 q hq
      rw [Nat.testBit_xor] at this
      cases h5 : s.testBit q <;> cases h6 : t.testBit q <;> simp_all
    have cmp : ∀ {x y : Nat}, x < 1024 → y < 1024 → x.testBit p = false → y.testBit p = true → (∀ q, q < p → x.testBit q = y.testBit q) → rv x < rv y := by
      intro x y hx hy h5 h6 h7
      have rx := rv_all hx
      have ry := rv_all hy
      refine tb_lt (i := 9 - p) (by rw [rx.2.2.2 p hp]; exact h5) (by rw [ry.2.2.2 p hp]; exact h6) (fun j hj => ?_)
      by_cases hj9 : j < 10
      · have k1 := rx.2.2.2 (9 - j) (by omega)
        have k2 := ry.2.2.2 (9 - j) (by omega)
        rw [show 9 - (9 - j) = j by omega] at k1 k2
        rw [k1, k2]
        exact h7 (9 - j) (by omega)
      · rw [tb_hi rx.1 (by omega), tb_hi ry.1 (by omega)]
    unfold frI
    rw [e1, and_2]
    rw [Nat.testBit_xor] at h2
    cases h5 : s.testBit p with
    | true =>
      have h6 : t.testBit p = false := by rw [h5] at h2; simpa using h2
      rw [if_pos rfl, decide_eq_false (nI_2p ⟨p, hp⟩), decide_eq_true (cmp ht hs h6 h5 (fun q hq => (low q hq).symm))]
      rfl
    | false =>
      have h6 : t.testBit p = true := by rw [h5] at h2; simpa using h2
      have := cmp hs ht h5 h6 low
      rw [if_neg (by decide), decide_eq_false (show ¬ rv t < rv s by omega)]
      rfl
/-- the best set to drop -/
def BstD (O : Nat → Nat) (b : Nat) : Prop := b < 1024 ∧ acy O b = true ∧ ∀ s, s < 1024 → acy O s = true → on10 b < on10 s ∨ (on10 b = on10 s ∧ rv s ≤ rv b)
theorem tcB_none {e : Nat → Nat → Bool} {x : Nat} (h : ∀ y, e x y = false) (y : Nat) : tcB e x y = false := by
  cases ht : tcB e x y with
  | false => rfl
  | true =>
    obtain ⟨k, hk⟩ := tcB_iff.mp ht
    cases k with
    | zero => have hk : e x y = true := hk; rw [h y] at hk; cases hk
    | succ k => obtain ⟨c, -, h1, -⟩ := hk; rw [h c] at h1; cases h1
theorem ctt_0 {p : Nat → Bool} : ∀ n, ctt p n = 0 ↔ ∀ k, k < n → p k = false
  | 0 => ⟨fun _ k hk => absurd hk (by omega), fun _ => rfl⟩
  | n + 1 => by
    simp only [ctt]
    have ih := ctt_0 (p := p) n
    constructor
    · intro h k hk
      by_cases e : k = n
      · subst e; cases hp : p k with
        | false => rfl
        | true => rw [hp] at h; simp at h
      · exact ih.mp (by omega) k (by omega)
    · intro h
      rw [ih.mpr (fun k hk => h k (by omega)), h n (by omega)]; rfl
theorem acy_iff {O : Nat → Nat} {s : Nat} : acy O s = true ↔ ∀ k, k < 10 → tcB (eOv O s) k k = false := by
  unfold acy
  rw [decide_eq_true_eq, ctt_0]
theorem acy_1023 (O : Nat → Nat) : acy O 1023 = true := by
  refine acy_iff.mpr (fun k hk => tcB_none (fun y => ?_) k)
  unfold eOv
  rw [show (1023 : Nat) = 2 ^ 10 - 1 from rfl, tb_all hk]
  rfl
theorem fwS_best {O : Nat → Nat} : ∀ n, n ≤ 1023 → let b := fwS O n; b < 1024 ∧ (b < n ∨ b = 1023) ∧ acy O b = true ∧ ∀ s, (s < n ∨ s = 1023) → acy O s = true → on10 b < on10 s ∨ (on10 b = on10 s ∧ rv s ≤ rv b)
  | 0, _ => ⟨by show 1023 < 1024; omega, Or.inr rfl, acy_1023 O, fun s hs _ => by rcases hs with hs | hs; omega; subst hs; exact Or.inr ⟨rfl, Nat.le_refl _⟩⟩
  | n + 1, hn => by
    have ih := fwS_best (O := O) n (by omega)
    simp only at ih
    have h9 := fwS_lt (O := O) n (by omega)
    simp only
    obtain ⟨h1, h2, h3, h4⟩ := ih
    have hbet : bet n (fwS O n) = true ↔ (on10 n < on10 (fwS O n) ∨ (on10 n = on10 (fwS O n) ∧ rv (fwS O n) < rv n)) := by
      unfold bet
      rw [frI_rv (by omega) h9 (by omega)]
      simp only [Bool.or_eq_true, Bool.and_eq_true, decide_eq_true_eq]
    cases hy : bet n (fwS O n) && acy O n with
    | true =>
      rw [fwS_yes hy]
      rw [Bool.and_eq_true] at hy
      have h5 := hbet.mp hy.1
      refine ⟨by omega, Or.inl (by omega), hy.2, fun s hs hs2 => ?_⟩
      by_cases e : s = n
      · subst e; exact Or.inr ⟨rfl, Nat.le_refl _⟩
      · have := h4 s (by omega) hs2; omega
    | false =>
      rw [fwS_no hy]
      refine ⟨h1, by omega, h3, fun s hs hs2 => ?_⟩
      by_cases e : s = n
      · subst e
        rw [hs2, Bool.and_true] at hy
        have h5 : ¬ (on10 s < on10 (fwS O s) ∨ (on10 s = on10 (fwS O s) ∧ rv (fwS O s) < rv s)) := fun z => by rw [hbet.mpr z] at hy; cases hy
        omega
      · exact h4 s (by omega) hs2
theorem fwS_Bst (O : Nat → Nat) : BstD O (fwS O 1023) := by
  obtain ⟨h1, -, h3, h4⟩ := fwS_best (O := O) 1023 (Nat.le_refl _)
  exact ⟨h1, h3, fun s hs => h4 s (by omega)⟩
/-- the class's search, from above -/
def FD (O : Nat → Nat) (n d : Nat) : Prop := d < 1024 ∧ (n ≤ d ∨ d = 1023) ∧ acy O (rv d) = true ∧ ∀ t, n ≤ t → t < 1024 → acy O (rv t) = true → on10 d < on10 t ∨ (on10 d = on10 t ∧ t ≤ d)
theorem rv_1023 : rv 1023 = 1023 := by decide +kernel
theorem FD.first (O : Nat → Nat) : FD O 1024 1023 := ⟨by omega, Or.inr rfl, by rw [rv_1023]; exact acy_1023 O, fun t h1 h2 => absurd h2 (by omega)⟩
theorem FD.yes {O : Nat → Nat} {n d : Nat} (F : FD O (n + 1) d) (hn : n < 1024) (h1 : on10 n < on10 d) (h2 : acy O (rv n) = true) : FD O n n := by
  refine ⟨hn, Or.inl (Nat.le_refl _), h2, fun t ht h3 h4 => ?_⟩
  by_cases e : t = n
  · subst e; exact Or.inr ⟨rfl, Nat.le_refl _⟩
  · have := F.2.2.2 t (by omega) h3 h4; omega
theorem FD.no {O : Nat → Nat} {n d : Nat} (F : FD O (n + 1) d) (hn : n < 1024) (h1 : on10 n < on10 d → acy O (rv n) = false) : FD O n d := by
  refine ⟨F.1, by have := F.2.1; omega, F.2.2.1, fun t ht h3 h4 => ?_⟩
  by_cases e : t = n
  · subst e
    have h5 : ¬ on10 t < on10 d := fun z => by rw [h1 z] at h4; cases h4
    have := F.2.1
    omega
  · exact F.2.2.2 t (by omega) h3 h4
theorem FD.done {O : Nat → Nat} {d : Nat} (F : FD O 0 d) : d = rv (fwS O 1023) := by
  have B := fwS_Bst O
  have r1 := rv_all B.1
  have r2 := rv_all F.1
  have h1 := F.2.2.2 (rv (fwS O 1023)) (by omega) r1.1 (by rw [r1.2.1]; exact B.2.1)
  have h2 := B.2.2 (rv d) r2.1 F.2.2.1
  rw [r1.2.2.1] at h1
  rw [r2.2.2.1, r2.2.1] at h2
  omega
/-- taking away layers that lie over none of those left -/
def ksT (O : Nat → Nat) (i L : Nat) : Nat := if rv (O i) &&& L = 0 then L &&& (2 ^ (9 - i) ^^^ 1023) else L
def ksR (O : Nat → Nat) (L : Nat) : Nat := itr (ksT O) 10 L
def hs (L b : Nat) : Bool := L.testBit (9 - b)
def KI (O : Nat → Nat) (s L : Nat) : Prop := L < 1024 ∧ (∀ b, b < 10 → hs L b = true → s.testBit b = false) ∧ ∀ a, a < 10 → s.testBit a = false → hs L a = false → (∀ b, b < 10 → eOv O s a b = true → hs L b = false) ∧ tcB (eOv O s) a a = false
theorem and_0 {x y : Nat} (hx : x < 1024) (hy : y < 1024) : x &&& y = 0 ↔ ∀ b, b < 10 → (hs x b && hs y b) = false := by
  constructor
  · intro h b hb
    have := congrArg (fun z => z.testBit (9 - b)) h
    simpa [hs, Nat.testBit_and] using this
  · intro h
    apply Nat.eq_of_testBit_eq
    intro i
    rw [Nat.testBit_and, Nat.zero_testBit]
    by_cases hi : i < 10
    · have := h (9 - i) (by omega)
      unfold hs at this
      rwa [show 9 - (9 - i) = i by omega] at this
    · rw [tb_hi hx (by omega)]; rfl
theorem hs_rm {L i b : Nat} (hb : b < 10) (hi : i < 10) : hs (L &&& (2 ^ (9 - i) ^^^ 1023)) b = (hs L b && !decide (b = i)) := by
  unfold hs
  rw [wo_bit (by omega), Nat.testBit_two_pow]
  by_cases e : b = i
  · subst e; simp
  · rw [decide_eq_false (show ¬ 9 - i = 9 - b by omega), decide_eq_false e]
theorem ext10 {x y : Nat} (hx : x < 1024) (hy : y < 1024) (h : ∀ b, b < 10 → hs x b = hs y b) : x = y := by
  apply Nat.eq_of_testBit_eq
  intro i
  by_cases hi : i < 10
  · have := h (9 - i) (by omega)
    unfold hs at this
    rwa [show 9 - (9 - i) = i by omega] at this
  · rw [tb_hi hx (by omega), tb_hi hy (by omega)]
theorem rvO {O : Nat → Nat} {i b : Nat} (hO : O i < 1024) (hb : b < 10) : hs (rv (O i)) b = (O i).testBit b := (rv_all hO).2.2.2 b hb
section KK
variable {O : Nat → Nat} {s L : Nat}
theorem reach_out {e : Nat → Nat → Bool} {L : Nat} (hc : ∀ a, a < 10 → hs L a = false → ∀ b, b < 10 → e a b = true → hs L b = false) : ∀ k a b, a < 10 → b < 10 → hs L a = false → pth e k a b → hs L b = false
  | 0, a, b, ha, hb, h1, h2 => hc a ha h1 b hb h2
  | k + 1, a, b, ha, hb, h1, ⟨c, hcc, h2, h3⟩ => reach_out hc k c b hcc hb (hc a ha h1 c hcc h2) h3
theorem KI.step (hO : ∀ a, a < 10 → O a < 1024) (I : KI O s L) {i : Nat} (hi : i < 10) : KI O s (ksT O i L) := by
  unfold ksT
  by_cases hz : rv (O i) &&& L = 0
  · rw [if_pos hz]
    have hz2 := (and_0 (rv_all (hO i hi)).1 I.1).mp hz
    have sub : ∀ b, b < 10 → hs L b = false → hs (L &&& (2 ^ (9 - i) ^^^ 1023)) b = false := fun b hb h => by rw [hs_rm hb hi, h]; rfl
    have eo : ∀ b, b < 10 → eOv O s i b = true → hs L b = false := by
      intro b hb h
      have h1 := hz2 b hb
      rw [rvO (hO i hi) hb] at h1
      unfold eOv at h
      simp only [Bool.and_eq_true] at h
      rw [h.2] at h1
      simpa using h1
    have clo : ∀ a, a < 10 → hs L a = false → ∀ b, b < 10 → eOv O s a b = true → hs L b = false := by
      intro a ha h1 b hb h2
      have h3 : s.testBit a = false := by
        unfold eOv at h2
        simp only [Bool.and_eq_true, Bool.not_eq_true'] at h2
        exact h2.1.1
      exact (I.2.2 a ha h3 h1).1 b hb h2
    refine ⟨and_lt I.1, fun b hb h => I.2.1 b hb (by rw [hs_rm hb hi] at h; exact (Bool.and_eq_true _ _ ▸ h).1), fun a ha h1 h2 => ?_⟩
    by_cases ea : hs L a = false
    · obtain ⟨k1, k2⟩ := I.2.2 a ha h1 ea
      exact ⟨fun b hb h => sub b hb (k1 b hb h), k2⟩
    · have ea2 : hs L a = true := by cases h9 : hs L a with | true => rfl | false => exact absurd h9 ea
      have e : a = i := by
        rw [hs_rm ha hi, ea2] at h2
        simpa using h2
      subst e
      refine ⟨fun b hb h => sub b hb (eo b hb h), ?_⟩
      cases ht : tcB (eOv O s) a a with
      | false => rfl
      | true =>
        obtain ⟨k, hk⟩ := tcB_iff.mp ht
        cases k with
        | zero => exact absurd (eo a ha hk) ea
        | succ k =>
          obtain ⟨c, hc, h4, h5⟩ := hk
          exact absurd (reach_out clo k c a hc ha (eo c hc h4) h5) ea
  · rw [if_neg hz]; exact I
theorem KI.zero (I : KI O s 0) : acy O s = true := by
  refine acy_iff.mpr (fun k hk => ?_)
  cases h : s.testBit k with
  | true => exact tcB_none (fun y => by unfold eOv; rw [h]; rfl) k
  | false => exact (I.2.2 k hk h (by unfold hs; exact Nat.zero_testBit _)).2
theorem ksT_le {i : Nat} : ksT O i L ≤ L := by
  unfold ksT
  split
  · exact Nat.and_le_left
  · exact Nat.le_refl _
theorem ks_le : ∀ n, itr (ksT O) n L ≤ L
  | 0 => Nat.le_refl _
  | n + 1 => Nat.le_trans ksT_le (ks_le n)
theorem ks_mono : ∀ n m, itr (ksT O) (n + m) L ≤ itr (ksT O) n L
  | n, 0 => Nat.le_refl _
  | n, m + 1 => Nat.le_trans ksT_le (ks_mono n m)
theorem ks_same (h : ksR O L = L) : ∀ i, i < 10 → ksT O i L = L := by
  intro i hi
  have h1 : ∀ n, n ≤ 10 → itr (ksT O) n L = L := by
    intro n hn
    have k1 := ks_le (O := O) (L := L) n
    have k2 := ks_mono (O := O) (L := L) n (10 - n)
    rw [show n + (10 - n) = 10 by omega] at k2
    have k3 : itr (ksT O) 10 L = L := h
    omega
  have k4 : ksT O i (itr (ksT O) i L) = L := h1 (i + 1) (by omega)
  rwa [h1 i (by omega)] at k4
/-- some two of eleven are one -/
theorem pigeon : ∀ (n : Nat) (f : Nat → Nat), (∀ i, i < n + 1 → f i < n) → ∃ i j, i < j ∧ j < n + 1 ∧ f i = f j
  | 0, f, h => absurd (h 0 (by omega)) (by omega)
  | n + 1, f, h => by
    by_cases hx : ∃ i, i < n + 1 ∧ f i = f (n + 1)
    · obtain ⟨i, hi, e⟩ := hx
      exact ⟨i, n + 1, hi, by omega, e⟩
    · have hne : ∀ i, i < n + 1 → f i ≠ f (n + 1) := fun i hi e => hx ⟨i, hi, e⟩
      have hl := h (n + 1) (by omega)
      obtain ⟨i, j, h1, h2, h3⟩ := pigeon n (fun i => if f i = n then f (n + 1) else f i) (fun i hi => by
        have k1 := h i (by omega)
        have k2 := hne i hi
        by_cases e : f i = n
        · simp only [e, if_true]; omega
        · simp only [e, if_false]; omega)
      refine ⟨i, j, h1, by omega, ?_⟩
      have k1 := hne i (by omega)
      have k2 := hne j (by omega)
      try dsimp only at h3
      by_cases e1 : f i = n <;> by_cases e2 : f j = n <;> simp only [e1, e2, if_true, if_false] at h3 <;> omega
/-- a set in which each has one under it holds a ring -/
theorem ring_of {e : Nat → Nat → Bool} {L : Nat} {a : Nat} (ha : a < 10) (h1 : hs L a = true) (hn : ∀ a, a < 10 → hs L a = true → ∃ b, b < 10 ∧ hs L b = true ∧ e a b = true) : ∃ k, k < 10 ∧ tcB e k k = true := by
  have hg : ∃ g : Nat → Nat, ∀ a, a < 10 → hs L a = true → g a < 10 ∧ hs L (g a) = true ∧ e a (g a) = true := by
    refine ⟨fun a => if h : a < 10 ∧ hs L a = true then Classical.choose (hn a h.1 h.2) else 0, fun a h2 h3 => ?_⟩
    simp only [dif_pos (And.intro h2 h3)]
    exact Classical.choose_spec (hn a h2 h3)
  obtain ⟨g, hg⟩ := hg
  have hw : ∀ n, itr (fun _ x => g x) n a < 10 ∧ hs L (itr (fun _ x => g x) n a) = true := by
    intro n
    induction n with
    | zero => exact ⟨ha, h1⟩
    | succ n ih => exact ⟨(hg _ ih.1 ih.2).1, (hg _ ih.1 ih.2).2.1⟩
  have hp : ∀ n m, pth e m (itr (fun _ x => g x) n a) (itr (fun _ x => g x) (n + m + 1) a) := by
    intro n m
    induction m generalizing n with
    | zero => exact (hg _ (hw n).1 (hw n).2).2.2
    | succ m ih =>
      have := ih (n + 1)
      rw [show n + 1 + m + 1 = n + (m + 1) + 1 by omega] at this
      exact ⟨_, (hw (n + 1)).1, (hg _ (hw n).1 (hw n).2).2.2, this⟩
  obtain ⟨i, j, h2, h3, h4⟩ := pigeon 10 (fun n => itr (fun _ x => g x) n a) (fun n _ => (hw n).1)
  try dsimp only at h4
  have := hp i (j - i - 1)
  rw [show i + (j - i - 1) + 1 = j by omega, ← h4] at this
  exact ⟨_, (hw i).1, tcB_iff.mpr ⟨_, this⟩⟩
theorem KI.stuck (hO : ∀ a, a < 10 → O a < 1024) (I : KI O s L) (h0 : L ≠ 0) (h : ksR O L = L) : acy O s = false := by
  have hx : ∃ a, a < 10 ∧ hs L a = true := by
    apply Classical.byContradiction
    intro hz
    exact h0 (ext10 I.1 (by omega) (fun b hb => by
      cases h9 : hs L b with
      | false => unfold hs; rw [Nat.zero_testBit]
      | true => exact absurd ⟨b, hb, h9⟩ hz))
  obtain ⟨a, ha, h1⟩ := hx
  have hn : ∀ a, a < 10 → hs L a = true → ∃ b, b < 10 ∧ hs L b = true ∧ eOv O s a b = true := by
    intro a ha h1
    have h2 := ks_same h a ha
    unfold ksT at h2
    by_cases hz : rv (O a) &&& L = 0
    · rw [if_pos hz] at h2
      have h3 := hs_rm (L := L) ha ha
      rw [h2, h1] at h3
      simp at h3
    · apply Classical.byContradiction
      intro hno
      refine hz ((and_0 (rv_all (hO a ha)).1 I.1).mpr (fun b hb => ?_))
      rw [rvO (hO a ha) hb]
      cases h4 : (O a).testBit b with
      | false => rfl
      | true =>
        cases h5 : hs L b with
        | false => rfl
        | true =>
          refine absurd ⟨b, hb, h5, ?_⟩ hno
          unfold eOv
          rw [I.2.1 a ha h1, I.2.1 b hb h5, h4]
          rfl
  obtain ⟨k, hk, h2⟩ := ring_of ha h1 hn
  cases h9 : acy O s with
  | false => rfl
  | true => rw [acy_iff.mp h9 k hk] at h2; cases h2
theorem KI.round (hO : ∀ a, a < 10 → O a < 1024) (I : KI O s L) : ∀ n, n ≤ 10 → KI O s (itr (ksT O) n L)
  | 0, _ => I
  | n + 1, h => (KI.round hO I n (by omega)).step hO (by omega)
theorem ksT_sub {i b : Nat} (hi : i < 10) (hb : b < 10) (h : hs (ksT O i L) b = true) : hs L b = true := by
  unfold ksT at h
  split at h
  · rw [hs_rm hb hi] at h; exact (Bool.and_eq_true _ _ ▸ h).1
  · exact h
theorem ks_sub : ∀ n, n ≤ 10 → ∀ b, b < 10 → hs (itr (ksT O) n L) b = true → hs L b = true
  | 0, _, b, _, h => h
  | n + 1, hn, b, hb, h => ks_sub n (by omega) b hb (ksT_sub (by omega) hb h)
end KK
theorem ctt_sub {p q : Nat → Bool} : ∀ n, (∀ k, k < n → p k = true → q k = true) → ctt p n ≤ ctt q n
  | 0, _ => Nat.le_refl _
  | n + 1, h => by
    have ih := ctt_sub n (fun k hk => h k (by omega))
    simp only [ctt]
    cases h1 : p n with
    | false => simp; omega
    | true => rw [h n (by omega) h1]; simp; omega
theorem ctt_less {p q : Nat → Bool} {o : Nat} (h1 : p o = false) (h2 : q o = true) : ∀ n, o < n → (∀ k, k < n → p k = true → q k = true) → ctt p n < ctt q n
  | 0, h, _ => absurd h (by omega)
  | n + 1, h, hs => by
    simp only [ctt]
    by_cases e : o = n
    · subst e
      have := ctt_sub o (fun k hk => hs k (by omega))
      rw [h1, h2]; simp; omega
    · have := ctt_less h1 h2 n (by omega) (fun k hk => hs k (by omega))
      cases h3 : p n with
      | false => simp; omega
      | true => rw [hs n (by omega) h3]; simp; omega
/-- how many are left -/
def lft (L : Nat) : Nat := ctt (hs L) 10
theorem lft_less {O : Nat → Nat} {L : Nat} (hL : L < 1024) (h2 : ksR O L < 1024) (hne : ksR O L ≠ L) : lft (ksR O L) < lft L := by
  have hx : ∃ b, b < 10 ∧ hs (ksR O L) b ≠ hs L b := by
    apply Classical.byContradiction
    intro hz
    exact hne (ext10 h2 hL (fun b hb => Classical.byContradiction (fun z => hz ⟨b, hb, z⟩)))
  obtain ⟨b, hb, h3⟩ := hx
  have hsub : ∀ k, k < 10 → hs (ksR O L) k = true → hs L k = true := fun k hk h => ks_sub 10 (Nat.le_refl _) k hk h
  refine ctt_less (o := b) ?_ ?_ 10 hb hsub
  · cases h4 : hs (ksR O L) b with
    | false => rfl
    | true => rw [h4, hsub b hb h4] at h3; exact absurd rfl h3
  · cases h4 : hs L b with
    | true => rfl
    | false =>
      cases h5 : hs (ksR O L) b with
      | false => rw [h4, h5] at h3; exact absurd rfl h3
      | true => rw [hsub b hb h5] at h4; cases h4
theorem lft_0 {L : Nat} (hL : L < 1024) (h : lft L = 0) : L = 0 := by
  unfold lft at h
  have := (ctt_0 10).mp h
  exact ext10 hL (by omega) (fun b hb => by rw [this b hb]; unfold hs; rw [Nat.zero_testBit])

/-- the digit at place i of a code of length m to the base b -/
def dC (b m code i : Nat) : Nat := itr (fun _ x => x / b) (m - 1 - i) code % b
def dsB (b m code : Nat) : Bool := decide (∀ i, i < m → ∀ j, j < i → dC b m code j ≠ dC b m code i)
def clT (v : Bool) (c m : Nat) (r : Nat → Nat) (s : vB) : vB :=
  if v then (s.1 + (if c = 0 then 1 else 0), match s.2 with
    | none => some (c, m, r)
    | some b => if c < b.1 then some (c, m, r) else some b) else s
def clI (ng : Nat) (cf : Nat → (Nat → Nat) → Nat) (m n : Nat) (s : vB) : vB := itr (fun code s => clT (dsB ng m code) (cf m (dC ng m code)) m (dC ng m code) s) n s
def clO (ng : Nat) (cf : Nat → (Nat → Nat) → Nat) : Nat → vB
  | 0 => (0, none)
  | m + 1 => clI ng cf m (ng ^ m) (clO ng cf m)
/-- rows as numbers: a thousand times the length, and the code -/
def kyR (ng : Nat) (m : Nat) (r : Nat → Nat) : Nat := 1000 * m + itr (fun k x => x * ng + r k) m 0
def kLen (x : Nat) : Nat := x / 1000
def kCode (x : Nat) : Nat := x % 1000
def LRk (ng n : Nat) : List Nat := (List.range n).filterMap (fun i => if (lcS ng i 3).1 then some (kyR ng (lcS ng i 3).2.2.1 (lcS ng i 3).2.2.2) else none)
def LIk (ng m n : Nat) : List Nat := (List.range n).filterMap (fun code => if dsB ng m code then some (1000 * m + code) else none)
def LCk (ng : Nat) : Nat → List Nat
  | 0 => []
  | m + 1 => LCk ng m ++ LIk ng m (ng ^ m)
abbrev vK : Type := Nat × Option Nat
def kR (c : Nat → Nat) (s : vK) (x : Nat) : vK := (s.1 + (if c x = 0 then 1 else 0), match s.2 with
  | none => some x
  | some b => if c x < c b ∨ (c x = c b ∧ kLen x < kLen b) then some x else some b)
def kC (c : Nat → Nat) (s : vK) (x : Nat) : vK := (s.1 + (if c x = 0 then 1 else 0), match s.2 with
  | none => some x
  | some b => if c x < c b then some x else some b)
def MinK (c : Nat → Nat) (p : List Nat) (b : Nat) : Prop := b ∈ p ∧ ∀ x, x ∈ p → c b < c x ∨ (c b = c x ∧ b ≤ x)
def StK (c : Nat → Nat) (p : List Nat) (s : vK) : Prop := s.1 = p.countP (fun x => decide (c x = 0)) ∧ ((s.2 = none ∧ p = []) ∨ ∃ b, s.2 = some b ∧ MinK c p b)
theorem StK.add {c : Nat → Nat} {p : List Nat} {s t : vK} {x : Nat} (h : StK c p s) (h1 : t.1 = s.1 + (if c x = 0 then 1 else 0)) (h0 : s.2 = none → t.2 = some x) (h2 : ∀ b, s.2 = some b → MinK c p b → (t.2 = some x ∧ (c x < c b ∨ (c x = c b ∧ x ≤ b))) ∨ (t.2 = some b ∧ (c b < c x ∨ (c b = c x ∧ b ≤ x)))) : StK c (x :: p) t := by
  refine ⟨?_, ?_⟩
  · rw [h1, h.1, List.countP_cons]
    by_cases e : c x = 0
    · simp [e]
    · simp [e]
  · rcases h.2 with ⟨e1, e2⟩ | ⟨b, e1, e2⟩
    · subst e2
      refine Or.inr ⟨x, h0 e1, List.mem_cons_self, fun y hy => ?_⟩
      rcases List.mem_cons.mp hy with rfl | hy
      · exact Or.inr ⟨rfl, Nat.le_refl _⟩
      · cases hy
    · rcases h2 b e1 e2 with ⟨t1, t2⟩ | ⟨t1, t2⟩
      · refine Or.inr ⟨x, t1, List.mem_cons_self, fun y hy => ?_⟩
        rcases List.mem_cons.mp hy with rfl | hy
        · exact Or.inr ⟨rfl, Nat.le_refl _⟩
        · have := e2.2 y hy; omega
      · refine Or.inr ⟨b, t1, List.mem_cons_of_mem _ e2.1, fun y hy => ?_⟩
        rcases List.mem_cons.mp hy with rfl | hy
        · exact t2
        · exact e2.2 y hy
theorem fold_R {c : Nat → Nat} : ∀ (l p : List Nat) (s : vK), (∀ b, b ∈ p → ∀ x, x ∈ l → kLen b = kLen x → b < x) → l.Pairwise (fun i j => kLen i = kLen j → i < j) → StK c p s → StK c (l.reverse ++ p) (l.foldl (kR c) s)
  | [], p, s, _, _, h => h
  | x :: l, p, s, h1, h2, h => by
    have h3 := List.pairwise_cons.mp h2
    rw [List.reverse_cons, List.append_assoc]
    refine fold_R l (x :: p) (kR c s x) (fun b hb y hy => ?_) h3.2 (StK.add h rfl (fun e => ?_) (fun b e hb => ?_))
    · rcases List.mem_cons.mp hb with rfl | hb
      · exact h3.1 y hy
      · exact h1 b hb y (List.mem_cons_of_mem _ hy)
    · unfold kR; rw [e]
    · unfold kR
      rw [e]
      simp only
      have h4 := h1 b hb.1 x List.mem_cons_self
      unfold kLen at h4 ⊢
      by_cases hz : c x < c b ∨ (c x = c b ∧ x / 1000 < b / 1000)
      · rw [if_pos hz]; exact Or.inl ⟨rfl, by omega⟩
      · rw [if_neg hz]; exact Or.inr ⟨rfl, by omega⟩
theorem fold_C {c : Nat → Nat} : ∀ (l p : List Nat) (s : vK), (∀ b, b ∈ p → ∀ x, x ∈ l → b < x) → l.Pairwise (fun i j => i < j) → StK c p s → StK c (l.reverse ++ p) (l.foldl (kC c) s)
  | [], p, s, _, _, h => h
  | x :: l, p, s, h1, h2, h => by
    have h3 := List.pairwise_cons.mp h2
    rw [List.reverse_cons, List.append_assoc]
    refine fold_C l (x :: p) (kC c s x) (fun b hb y hy => ?_) h3.2 (StK.add h rfl (fun e => ?_) (fun b e hb => ?_))
    · rcases List.mem_cons.mp hb with rfl | hb
      · exact h3.1 y hy
      · exact h1 b hb y (List.mem_cons_of_mem _ hy)
    · unfold kC; rw [e]
    · unfold kC
      rw [e]
      simp only
      have h4 := h1 b hb.1 x List.mem_cons_self
      by_cases hz : c x < c b
      · rw [if_pos hz]; exact Or.inl ⟨rfl, by omega⟩
      · rw [if_neg hz]; exact Or.inr ⟨rfl, by omega⟩
theorem StK.one {c : Nat → Nat} {p q : List Nat} {s t : vK} (hp : p.Perm q) (h1 : StK c p s) (h2 : StK c q t) : s = t := by
  have e1 : s.1 = t.1 := by rw [h1.1, h2.1, hp.countP_eq]
  have e2 : s.2 = t.2 := by
    rcases h1.2 with ⟨a1, a2⟩ | ⟨b, a1, a2⟩
    · rcases h2.2 with ⟨b1, b2⟩ | ⟨b, b1, b2⟩
      · rw [a1, b1]
      · subst a2; exact absurd (hp.mem_iff.mpr b2.1) (by simp)
    · rcases h2.2 with ⟨b1, b2⟩ | ⟨b', b1, b2⟩
      · subst b2; exact absurd (hp.mem_iff.mp a2.1) (by simp)
      · have k1 := a2.2 b' (hp.mem_iff.mpr b2.1)
        have k2 := b2.2 b (hp.mem_iff.mp a2.1)
        rw [a1, b1, show b = b' by omega]
  exact Prod.ext e1 e2
set_option maxRecDepth 100000 in
set_option maxHeartbeats 4000000 in
theorem LR_perm : ∀ ng : Fin 7, (LRk ng.val 343).isPerm (LCk ng.val 4) = true := by decide +kernel
def pwl (f : Nat → Nat → Bool) : List Nat → Bool
  | [] => true
  | x :: l => l.all (f x) && pwl f l
theorem pwl_of {f : Nat → Nat → Bool} {R : Nat → Nat → Prop} (hf : ∀ x y, f x y = true → R x y) : ∀ l, pwl f l = true → l.Pairwise R
  | [], _ => List.Pairwise.nil
  | x :: l, h => by
    simp only [pwl, Bool.and_eq_true, List.all_eq_true] at h
    exact List.pairwise_cons.mpr ⟨fun y hy => hf x y (h.1 y hy), pwl_of hf l h.2⟩
set_option maxRecDepth 100000 in
set_option maxHeartbeats 4000000 in
theorem LR_pw : ∀ ng : Fin 7, pwl (fun i j => !Nat.beq (kLen i) (kLen j) || Nat.blt i j) (LRk ng.val 343) = true := by decide +kernel
set_option maxRecDepth 100000 in
set_option maxHeartbeats 4000000 in
theorem LC_pw : ∀ ng : Fin 7, pwl (fun i j => Nat.blt i j) (LCk ng.val 4) = true := by decide +kernel
set_option maxRecDepth 100000 in
set_option maxHeartbeats 4000000 in
theorem LR_dig : ∀ ng : Fin 7, ∀ i : Fin 343, (!(lcS ng.val i.val 3).1 || (Nat.beq (kLen (kyR ng.val (lcS ng.val i.val 3).2.2.1 (lcS ng.val i.val 3).2.2.2)) (lcS ng.val i.val 3).2.2.1 && (List.range (lcS ng.val i.val 3).2.2.1).all (fun k => Nat.beq ((lcS ng.val i.val 3).2.2.2 k) (dC ng.val (lcS ng.val i.val 3).2.2.1 (kCode (kyR ng.val (lcS ng.val i.val 3).2.2.1 (lcS ng.val i.val 3).2.2.2)) k)))) = true := by decide +kernel

/-! the land, as both sides see it -/
def nb (w h c d : Nat) : Option Nat := match d with
  | 0 => if c % w + 1 < w then some (c + 1) else none
  | 1 => if c / w + 1 < h then some (c + w) else none
  | 2 => if 0 < c % w then some (c - 1) else none
  | _ => if 0 < c / w then some (c - w) else none
def WH (w h : Nat) : Prop := 2 ≤ w ∧ w ≤ 6 ∧ 2 ≤ h ∧ h ≤ 6
theorem WH.le {w h : Nat} (H : WH w h) : w * h ≤ 36 := by
  obtain ⟨h1, h2, h3, h4⟩ := H
  exact Nat.le_trans (Nat.mul_le_mul h2 h4) (by omega)
theorem WH.pos {w h : Nat} (H : WH w h) : 4 ≤ w * h := by
  obtain ⟨h1, h2, h3, h4⟩ := H
  exact Nat.mul_le_mul h1 h3
theorem c_row {w h c : Nat} (H : WH w h) (hc : c < w * h) : c / w < h := by
  have : 0 < w := by have := H.1; omega
  exact Nat.div_lt_of_lt_mul hc
theorem c_col {w h c : Nat} (H : WH w h) : c % w < w := Nat.mod_lt _ (by have := H.1; omega)
theorem c_sum (w c : Nat) : c / w * w + c % w = c := by rw [Nat.mul_comm]; exact Nat.div_add_mod c w
theorem nb_lt {w h c d o : Nat} (H : WH w h) (hc : c < w * h) (e : nb w h c d = some o) : o < w * h := by
  have h1 := c_row H hc
  have h2 := c_col (c := c) H
  have h3 := c_sum w c
  have h4 : (c / w + 1) * w ≤ h * w := Nat.mul_le_mul_right w h1
  have h5 : (c / w + 1) * w = c / w * w + w := Nat.succ_mul _ _
  have h6 : h * w = w * h := Nat.mul_comm _ _
  match d, e with
  | 0, e =>
    simp only [nb] at e
    split at e
    · cases e; omega
    · cases e
  | 1, e =>
    simp only [nb] at e
    split at e
    · rename_i hh
      cases e
      have h7 : (c / w + 1 + 1) * w ≤ h * w := Nat.mul_le_mul_right w hh
      have h8 : (c / w + 1 + 1) * w = (c / w + 1) * w + w := Nat.succ_mul _ _
      omega
    · cases e
  | 2, e =>
    simp only [nb] at e
    split at e
    · cases e; omega
    · cases e
  | d + 3, e =>
    simp only [nb] at e
    split at e
    · cases e; omega
    · cases e
theorem oI_none (z : Int32) : oI z none = z := rfl
theorem oI_some (z : Int32) (d : Nat) : oI z (some d) = nI d := rfl
theorem nI_ne_NONE {d : Nat} (h : d < 2 ^ 31) : nI d ≠ -900009 := by
  intro e
  have h1 := nI_toInt h
  rw [e] at h1
  have h2 : ((-900009 : Int32)).toInt = -900009 := by decide
  omega
theorem nI_ne_m1 {d : Nat} (h : d < 2 ^ 31) : nI d ≠ -1 := by
  intro e
  have h1 := nI_toInt h
  rw [e] at h1
  have h2 : ((-1 : Int32)).toInt = -1 := by decide
  omega
def mask : List Bool → List Value → List Value
  | true :: bs, v :: vs => v :: mask bs vs
  | false :: bs, _ :: vs => .null :: mask bs vs
  | [], vs => vs
  | _ :: _, [] => []
theorem mask_len : ∀ (bs : List Bool) (vs : List Value), (mask bs vs).length = vs.length
  | true :: bs, v :: vs => by simp [mask, mask_len bs vs]
  | false :: bs, v :: vs => by simp [mask, mask_len bs vs]
  | [], vs => rfl
  | true :: _, [] => rfl
  | false :: _, [] => rfl
theorem mask_at : ∀ (bs : List Bool) (vs : List Value) (i : Nat) (v : Value), (mask bs vs)[i]? = some v → v ≠ .null → vs[i]? = some v
  | true :: bs, w :: vs, 0, v, h, _ => by simpa [mask] using h
  | true :: bs, w :: vs, i + 1, v, h, hv => by
    have h2 : (mask bs vs)[i]? = some v := by simpa [mask] using h
    simpa using mask_at bs vs i v h2 hv
  | false :: bs, w :: vs, 0, v, h, hv => by
    have h2 : Value.null = v := by simpa [mask] using h
    exact absurd h2.symm hv
  | false :: bs, w :: vs, i + 1, v, h, hv => by
    have h2 : (mask bs vs)[i]? = some v := by simpa [mask] using h
    simpa using mask_at bs vs i v h2 hv
  | [], vs, i, v, h, _ => h
  | true :: _, [], i, v, h, _ => by simp [mask] at h
  | false :: _, [], i, v, h, _ => by simp [mask] at h
section NQ
variable {E : vE} {l : Launch} {mi mj : vMI} {pc : Nat} {lv st rest : List Value} {S : vS} {M : vM} {kc ks : Nat} {Q : Option Value → vS → vM → Prop}
theorem n_if_eq {a : Nat} {off : Int} (tgt : Nat) (hd : decode (ib mi) pc = .ok (.ifCond .eq off, 3)) (ht : (pc : Int) + off = (tgt : Int)) (ha : a < 2 ^ 31) (kt : a = 0 → PM E l mi tgt lv st S M kc ks Q) (kf : a ≠ 0 → PM E l mi (pc + 3) lv st S M kc ks Q) : PM E l mi pc lv (.int (nI a) :: st) S M kc ks Q := x_if_eq tgt hd ht (fun h => kt ((nI_eq ha (by omega)).mp h)) (fun h => kf (fun z => h (by rw [z]; rfl)))
theorem n_if_ne {a : Nat} {off : Int} (tgt : Nat) (hd : decode (ib mi) pc = .ok (.ifCond .ne off, 3)) (ht : (pc : Int) + off = (tgt : Int)) (ha : a < 2 ^ 31) (kt : a ≠ 0 → PM E l mi tgt lv st S M kc ks Q) (kf : a = 0 → PM E l mi (pc + 3) lv st S M kc ks Q) : PM E l mi pc lv (.int (nI a) :: st) S M kc ks Q := x_if_ne tgt hd ht (fun h => kt (fun z => h (by rw [z]; rfl))) (fun h => kf ((nI_eq ha (by omega)).mp h))
theorem x_mask (bs : List Bool) (k : PM E l mi pc (mask bs lv) st S M kc ks Q) : PM E l mi pc lv st S M kc ks Q := by
  intro p e s m args below meth c H locs ls Z F O hlo hL h1 h2 hR
  exact k p e s m args below meth c H locs ls Z F O hlo ⟨hL.1, hL.2.1, (mask_len bs lv).trans hL.2.2.1, fun i v hv hn => hL.2.2.2 i v (mask_at bs lv i v hv hn) hn⟩ h1 h2 hR
end NQ

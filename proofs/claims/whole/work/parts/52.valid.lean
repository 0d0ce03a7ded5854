theorem v_land {w h : Nat} {ht rk : Nat → Nat} {ns : Nat} {T : Nat → vT} {ng : Nat} {G : Nat → vQ} {Rw : Nat → Nat × (Nat → Nat)} {nz : Nat} {U : Nat → vU} {O : Nat → Nat} (VV : Val w h ht rk ns T ng G Rw nz U O) {j k : Nat} (hj : 2 ≤ j ∧ j ≤ 6) (hk : 2 ≤ k ∧ k ≤ 6) : Val j k (fun _ => 0) (fun _ => 0) 0 T 0 G (fun _ => (0, fun _ => 0)) 0 U O := by
  obtain ⟨V, S, Z, R, OV⟩ := VV
  exact ⟨⟨⟨hj.1, hj.2, hk.1, hk.2⟩, fun _ _ => Nat.zero_le _, by omega, fun i hi => absurd hi (Nat.not_lt_zero i)⟩, ⟨by omega, fun _ _ => Nat.zero_le _, fun i hi => absurd hi (Nat.not_lt_zero i)⟩, ⟨by omega, fun i hi => absurd hi (Nat.not_lt_zero i)⟩, fun s hs => ⟨⟨Nat.zero_le _, fun i hi => absurd hi (Nat.not_lt_zero i)⟩, Nat.le_refl _, fun i _ hi => absurd hi (Nat.not_lt_zero i)⟩, OV⟩
theorem v_ht {w h : Nat} {ht rk : Nat → Nat} {ns : Nat} {T : Nat → vT} {ng : Nat} {G : Nat → vQ} {Rw : Nat → Nat × (Nat → Nat)} {nz : Nat} {U : Nat → vU} {O : Nat → Nat} (VV : Val w h ht rk ns T ng G Rw nz U O) {j k : Nat} (hk : k ≤ 99) : Val w h (fun c => if c = j then k else ht c) rk ns T ng G Rw nz U O := by
  obtain ⟨V, S, Z, R, OV⟩ := VV
  refine ⟨⟨V.1, fun c hc => ?_, V.2.2⟩, S, Z, R, OV⟩
  (try dsimp only)
  split
  · exact hk
  · exact V.2.1 c hc
theorem v_rk {w h : Nat} {ht rk : Nat → Nat} {ns : Nat} {T : Nat → vT} {ng : Nat} {G : Nat → vQ} {Rw : Nat → Nat × (Nat → Nat)} {nz : Nat} {U : Nat → vU} {O : Nat → Nat} (VV : Val w h ht rk ns T ng G Rw nz U O) {j k : Nat} (hk : k ≤ 5) : Val w h ht (fun c => if c = j then k else rk c) ns T ng G Rw nz U O := by
  obtain ⟨V, S, Z, R, OV⟩ := VV
  refine ⟨V, ⟨S.1, fun c hc => ?_, S.2.2⟩, Z, R, OV⟩
  (try dsimp only)
  split
  · exact hk
  · exact S.2.1 c hc
theorem v_stone {w h : Nat} {ht rk : Nat → Nat} {ns : Nat} {T : Nat → vT} {ng : Nat} {G : Nat → vQ} {Rw : Nat → Nat × (Nat → Nat)} {nz : Nat} {U : Nat → vU} {O : Nat → Nat} (VV : Val w h ht rk ns T ng G Rw nz U O) {j k t : Nat} (hj : j < w * h) (hk : k ≤ 5) (ht1 : 1 ≤ t ∧ t ≤ 9) (hn : ns < 12) : Val w h ht rk (ns + 1) (fun i => if i = ns then (j, k, t) else T i) ng G Rw nz U O := by
  obtain ⟨V, S, Z, R, OV⟩ := VV
  refine ⟨V, ⟨hn, S.2.1, fun i hi => ?_⟩, ⟨Z.1, fun i hi => ?_⟩, R, OV⟩
  · (try dsimp only)
    by_cases e : i = ns
    · rw [if_pos e]; exact ⟨hj, hk, ht1.1, ht1.2⟩
    · rw [if_neg e]; exact S.2.2 i (by omega)
  · obtain ⟨z1, z2, z3, z4, z5⟩ := Z.2 i hi
    exact ⟨z1, z2, z3, fun e => Nat.lt_succ_of_lt (z4 e), z5⟩
theorem v_dug {w h : Nat} {ht rk : Nat → Nat} {ns : Nat} {T : Nat → vT} {ng : Nat} {G : Nat → vQ} {Rw : Nat → Nat × (Nat → Nat)} {nz : Nat} {U : Nat → vU} {O : Nat → Nat} (VV : Val w h ht rk ns T ng G Rw nz U O) {t j : Nat} (ht1 : t < ns) (hj : j < w * h) : Val w h ht rk ns (fun i => if i = t then (j, (T t).2) else T i) ng G Rw nz U O := by
  obtain ⟨V, S, Z, R, OV⟩ := VV
  refine ⟨V, ⟨S.1, S.2.1, fun i hi => ?_⟩, Z, R, OV⟩
  (try dsimp only)
  by_cases e : i = t
  · rw [if_pos e]; exact ⟨hj, (S.2.2 t ht1).2⟩
  · rw [if_neg e]; exact S.2.2 i hi
theorem v_go {w h : Nat} {ht rk : Nat → Nat} {ns : Nat} {T : Nat → vT} {ng : Nat} {G : Nat → vQ} {Rw : Nat → Nat × (Nat → Nat)} {nz : Nat} {U : Nat → vU} {O : Nat → Nat} (VV : Val w h ht rk ns T ng G Rw nz U O) {q : vQ} (hn : ng < 6) (hq : (1 ≤ qT q ∧ qT q ≤ 199) ∧ (qI q = true → qS q < w * h ∧ qF q ≤ 20 ∧ qN q ≤ 20)) : Val w h ht rk ns T (ng + 1) (fun g => if g = ng then q else G g) Rw nz U O := by
  obtain ⟨V, S, Z, R, OV⟩ := VV
  refine ⟨⟨V.1, V.2.1, hn, fun g hg => ?_⟩, S, Z, fun s hs => ?_, OV⟩
  · (try dsimp only)
    by_cases e : g = ng
    · rw [if_pos e]; exact hq
    · rw [if_neg e]; exact V.2.2.2 g (by omega)
  · obtain ⟨⟨r1, r2⟩, r3, r4⟩ := R s hs
    exact ⟨⟨r1, fun k hk => Nat.lt_succ_of_lt (r2 k hk)⟩, Nat.le_succ_of_le r3, r4⟩
theorem v_row {w h : Nat} {ht rk : Nat → Nat} {ns : Nat} {T : Nat → vT} {ng : Nat} {G : Nat → vQ} {Rw : Nat → Nat × (Nat → Nat)} {nz : Nat} {U : Nat → vU} {O : Nat → Nat} (VV : Val w h ht rk ns T ng G Rw nz U O) {s : Nat} {q : Nat × (Nat → Nat)} (h1 : RwV ng q.1 q.2) (h2 : q.1 ≤ ng) (h3 : ∀ i j, i < q.1 → j < q.1 → q.2 i = q.2 j → i = j) : Val w h ht rk ns T ng G (setRow Rw s q) nz U O := by
  obtain ⟨V, S, Z, R, OV⟩ := VV
  refine ⟨V, S, Z, fun i hi => ?_, OV⟩
  unfold setRow
  by_cases e : i = s
  · rw [if_pos e]; exact ⟨h1, h2, h3⟩
  · rw [if_neg e]; exact R i hi
theorem v_add {w h : Nat} {ht rk : Nat → Nat} {ns : Nat} {T : Nat → vT} {ng : Nat} {G : Nat → vQ} {Rw : Nat → Nat × (Nat → Nat)} {nz : Nat} {U : Nat → vU} {O : Nat → Nat} (VV : Val w h ht rk ns T ng G Rw nz U O) {s g : Nat} (hs : s < 3) (hg : g < ng) (hn : ¬ inRow (Rw s) g) (hl : (Rw s).1 < ng) : Val w h ht rk ns T ng G (setRow Rw s (addRow (Rw s) g)) nz U O := by
  have VV2 := VV
  obtain ⟨V, S, Z, R, OV⟩ := VV
  obtain ⟨⟨r1, r2⟩, r3, r4⟩ := R s hs
  have hng := V.2.2.1
  refine v_row VV2 ⟨?_, fun k hk => ?_⟩ ?_ (fun i j hi hj e => ?_)
  · show (Rw s).1 + 1 ≤ 6; omega
  · show (if k = (Rw s).1 then g else (Rw s).2 k) < ng
    have hk2 : k < (Rw s).1 + 1 := hk
    by_cases e : k = (Rw s).1
    · rw [if_pos e]; exact hg
    · rw [if_neg e]; exact r2 k (by omega)
  · show (Rw s).1 + 1 ≤ ng; omega
  · have hi2 : i < (Rw s).1 + 1 := hi
    have hj2 : j < (Rw s).1 + 1 := hj
    have e2 : (if i = (Rw s).1 then g else (Rw s).2 i) = (if j = (Rw s).1 then g else (Rw s).2 j) := e
    by_cases ei : i = (Rw s).1 <;> by_cases ej : j = (Rw s).1
    · omega
    · rw [if_pos ei, if_neg ej] at e2; exact absurd ⟨j, by omega, e2.symm⟩ hn
    · rw [if_neg ei, if_pos ej] at e2; exact absurd ⟨i, by omega, e2⟩ hn
    · rw [if_neg ei, if_neg ej] at e2; exact r4 i j (by omega) (by omega) e2
theorem v_clear {w h : Nat} {ht rk : Nat → Nat} {ns : Nat} {T : Nat → vT} {ng : Nat} {G : Nat → vQ} {Rw : Nat → Nat × (Nat → Nat)} {nz : Nat} {U : Nat → vU} {O : Nat → Nat} (VV : Val w h ht rk ns T ng G Rw nz U O) {s : Nat} : Val w h ht rk ns T ng G (setRow Rw s (0, (Rw s).2)) nz U O := v_row VV ⟨Nat.zero_le _, fun i hi => absurd hi (Nat.not_lt_zero i)⟩ (Nat.zero_le _) (fun i _ hi => absurd hi (Nat.not_lt_zero i))
theorem v_sign {w h : Nat} {ht rk : Nat → Nat} {ns : Nat} {T : Nat → vT} {ng : Nat} {G : Nat → vQ} {Rw : Nat → Nat × (Nat → Nat)} {nz : Nat} {U : Nat → vU} {O : Nat → Nat} (VV : Val w h ht rk ns T ng G Rw nz U O) {k cc ee wo : Nat} (hk : 0 ≤ k ∧ k ≤ 5) (hw : 1 ≤ wo ∧ wo ≤ 99) (hn : nz < 12) (hc : k ≠ 4 → cc < w * h) (he : (k = 0 → ee < 4) ∧ (k = 4 → ee < ns) ∧ (k = 5 → ee < 16) ∧ (k = 1 ∨ k = 2 ∨ k = 3 → ee = 0)) : Val w h ht rk ns T ng G Rw (nz + 1) (fun i => if i = nz then (k, cc, ee, wo) else U i) O := by
  obtain ⟨V, S, Z, R, OV⟩ := VV
  refine ⟨V, S, ⟨hn, fun i hi => ?_⟩, R, OV⟩
  (try dsimp only)
  by_cases e : i = nz
  · rw [if_pos e]; exact ⟨hk.2, hc, he.1, he.2.1, he.2.2.1, he.2.2.2, hw.1, hw.2⟩
  · rw [if_neg e]; exact Z.2 i (by omega)
theorem v_forget {w h : Nat} {ht rk : Nat → Nat} {ns : Nat} {T : Nat → vT} {ng : Nat} {G : Nat → vQ} {Rw : Nat → Nat × (Nat → Nat)} {nz : Nat} {U : Nat → vU} {O : Nat → Nat} (VV : Val w h ht rk ns T ng G Rw nz U O) {t : Nat} (ht1 : t < nz) : Val w h ht rk ns T ng G Rw (nz - 1) (fun k => if k < t then U k else U (k + 1)) O := by
  obtain ⟨V, S, Z, R, OV⟩ := VV
  have hz := Z.1
  refine ⟨V, S, ⟨by omega, fun i hi => ?_⟩, R, OV⟩
  (try dsimp only)
  by_cases e : i < t
  · rw [if_pos e]; exact Z.2 i (by omega)
  · rw [if_neg e]; exact Z.2 (i + 1) (by omega)
theorem v_over {w h : Nat} {ht rk : Nat → Nat} {ns : Nat} {T : Nat → vT} {ng : Nat} {G : Nat → vQ} {Rw : Nat → Nat × (Nat → Nat)} {nz : Nat} {U : Nat → vU} {O : Nat → Nat} (VV : Val w h ht rk ns T ng G Rw nz U O) {s t : Nat} (ht1 : t < 10) (hne : s ≠ t) (b : Bool) : Val w h ht rk ns T ng G Rw nz U (setOv O s t b) := by
  obtain ⟨V, S, Z, R, OV⟩ := VV
  exact ⟨V, S, Z, R, setOv_ok OV ht1 hne b⟩
def lcOk (ng i : Nat) : Bool := !(lcS ng i 3).1 || (Nat.ble (lcS ng i 3).2.2.1 ng && (List.range (lcS ng i 3).2.2.1).all (fun j => Nat.blt ((lcS ng i 3).2.2.2 j) ng && (List.range (lcS ng i 3).2.2.1).all (fun k => !Nat.beq ((lcS ng i 3).2.2.2 j) ((lcS ng i 3).2.2.2 k) || Nat.beq j k)))
theorem lcOk_all : ∀ ng : Fin 7, ∀ i : Fin 343, lcOk ng.val i.val = true := by decide +kernel
theorem bs_row {ng : Nat} (hng : ng ≤ 6) {cf : Nat → (Nat → Nat) → Nat} : ∀ n, n ≤ 343 → ∀ b, (bsS ng cf n).2 = some b → RwV ng b.2.1 b.2.2 ∧ b.2.1 ≤ ng ∧ ∀ i j, i < b.2.1 → j < b.2.1 → b.2.2 i = b.2.2 j → i = j
  | 0, _, b, e => by cases e
  | n + 1, hn, b, e => by
    have ih := bs_row hng (cf := cf) n (by omega)
    simp only [bsS] at e
    cases hm : (lcS ng n 3).1 with
    | false => rw [bs_skip hm] at e; exact ih b e
    | true =>
      have hok := lcOk_all ⟨ng, by omega⟩ ⟨n, by omega⟩
      simp only [lcOk, hm, Bool.not_true, Bool.false_or, Bool.and_eq_true, List.all_eq_true, List.mem_range, Bool.or_eq_true, Bool.not_eq_true'] at hok
      obtain ⟨o1, o2⟩ := hok
      have o3 := Nat.le_of_ble_eq_true o1
      have new : RwV ng (lcS ng n 3).2.2.1 (lcS ng n 3).2.2.2 ∧ (lcS ng n 3).2.2.1 ≤ ng ∧ ∀ i j, i < (lcS ng n 3).2.2.1 → j < (lcS ng n 3).2.2.1 → (lcS ng n 3).2.2.2 i = (lcS ng n 3).2.2.2 j → i = j := by
        refine ⟨⟨by omega, fun k hk => Nat.le_of_ble_eq_true (o2 k hk).1⟩, o3, fun i j hi hj e => ?_⟩
        rcases (o2 i hi).2 j hj with z | z
        · rw [e, Nat.beq_refl] at z; cases z
        · exact Nat.eq_of_beq_eq_true z
      cases hs : (bsS ng cf n).2 with
      | none =>
        rw [bs_take hm (fun b hb => by rw [hs] at hb; cases hb)] at e
        cases e
        exact new
      | some b2 =>
        by_cases hc : cf (lcS ng n 3).2.2.1 (lcS ng n 3).2.2.2 < b2.1 ∨ (cf (lcS ng n 3).2.2.1 (lcS ng n 3).2.2.2 = b2.1 ∧ (lcS ng n 3).2.2.1 < b2.2.1)
        · rw [bs_take hm (fun b hb => by rw [hs] at hb; cases hb; exact hc)] at e
          cases e
          exact new
        · rw [bs_keep hm hs hc] at e
          cases e
          exact ih _ hs
def Inv (M : vM) : Prop := ∃ (w h : Nat) (ht rk : Nat → Nat) (ns : Nat) (T : Nat → vT) (ng : Nat) (G : Nat → vQ) (Rw : Nat → Nat × (Nat → Nat)) (nz : Nat) (U : Nat → vU) (O : Nat → Nat), Val w h ht rk ns T ng G Rw nz U O ∧ RepC M w h ht rk ns T ng G Rw nz U O ∧ RepM M w h ht rk ns T ng G Rw nz U O
theorem iv {M : vM} {w h : Nat} {ht rk : Nat → Nat} {ns : Nat} {T : Nat → vT} {ng : Nat} {G : Nat → vQ} {Rw : Nat → Nat × (Nat → Nat)} {nz : Nat} {U : Nat → vU} {O : Nat → Nat} (v : Val w h ht rk ns T ng G Rw nz U O) (c : RepC M w h ht rk ns T ng G Rw nz U O) (m : RepM M w h ht rk ns T ng G Rw nz U O) : Inv M := ⟨_, _, _, _, _, _, _, _, _, _, _, _, v, c, m⟩
/-- behind a call of the class: its answer, and the model's method of the same name will answer so too -/
def Pst (E : vE) (l : Launch) (L : Nat) (mj : vMI) (lv : List Value) (M : vM) : Option Value → vS → vM → Prop := fun r S M1 => S = S0 L ∧ M1 2 = M 2 ∧ ∃ v : Int32, r = some (.int v) ∧ ∀ Q2 : Option Value → vS → vM → Prop, (∀ M2 : vM, Inv M2 → M2 2 = M 2 → Q2 (some (.int v)) (S0 L) M2) → PM E l mj 0 lv [] (S0 L) M1 0 0 Q2
theorem nI_i {a b : Nat} (h : nI a = nI b) (ha : a < 2 ^ 31) (hb : b < 2 ^ 31) : a = b := (nI_eq ha hb).mp h

def Zr (a b : Nat) (M M1 : vM) : Prop := (∀ z, z < a → M1 z = M z) ∧ ∀ z, a ≤ z → z < b → M1 z = fun _ => 0
theorem Zr.rf {a : Nat} {M : vM} : Zr a a M M := ⟨fun _ _ => rfl, fun z h1 h2 => absurd h1 (by omega)⟩
theorem Zr.add {a b : Nat} {M M1 : vM} (h : Zr a b M M1) (hab : a ≤ b) : Zr a (b + 1) M (sM M1 b (fun _ => 0)) := by
  refine ⟨fun z hz => (sM_ne _ _ _ (by omega)).trans (h.1 z hz), fun z h1 h2 => ?_⟩
  by_cases e : z = b
  · rw [e]; exact sM_at _ _ _
  · exact (sM_ne _ _ _ e).trans (h.2 z h1 (by omega))
theorem Zr.app {a b c : Nat} {M M1 M2 : vM} (h : Zr a b M M1) (h2 : Zr b c M1 M2) (hab : a ≤ b) : Zr a c M M2 := by
  refine ⟨fun z hz => (h2.1 z (by omega)).trans (h.1 z hz), fun z h3 h4 => ?_⟩
  by_cases e : z < b
  · exact (h2.1 z e).trans (h.2 z h3 e)
  · exact h2.2 z (by omega) h4
section CN
variable {E : vE} {l : Launch} {mi : vMI} {pc : Nat} {lv st : List Value} {S S' : vS} {M : vM} {kc ks kc' ks' q : Nat} {Q : Option Value → vS → vM → Prop}
theorem w_newI {N : Nat} (hN : Nat.ble N 1000 = true) (hq : S.length = q) (hlt : Nat.blt q 67 = true) (hS : S ++ [(100, N, [])] = S') (e1 : kc + 1 = kc') (e2 : ks + N = ks') (g1 : Nat.ble kc' (iR mi).cells = true) (g2 : Nat.ble ks' (iR mi).slots = true) (hd : decode (ib mi) pc = .ok (.newarray .int, 2)) (kk : PM E l mi (pc + 2) lv (.ref q :: st) S' (sM M q (fun _ => 0)) kc' ks' Q) : PM E l mi pc lv (.int (nI N) :: st) S M kc ks Q := by
  have h := Nat.le_of_ble_eq_true hN
  subst hq hS e1 e2
  exact x_newI aw_I (nI_pos (by omega)) (nI_clamp (by omega)) (show N * 4 ≤ 536870912 by omega) (Nat.le_of_ble_eq_true hlt) (Nat.le_of_ble_eq_true g1) (Nat.le_of_ble_eq_true g2) hd kk
theorem w_newZ {N : Nat} (hN : Nat.ble N 1000 = true) (hq : S.length = q) (hlt : Nat.blt q 67 = true) (hS : S ++ [(101, N, [])] = S') (e1 : kc + 1 = kc') (e2 : ks + N = ks') (g1 : Nat.ble kc' (iR mi).cells = true) (g2 : Nat.ble ks' (iR mi).slots = true) (hd : decode (ib mi) pc = .ok (.newarray .boolean, 2)) (kk : PM E l mi (pc + 2) lv (.ref q :: st) S' (sM M q (fun _ => 0)) kc' ks' Q) : PM E l mi pc lv (.int (nI N) :: st) S M kc ks Q := by
  have h := Nat.le_of_ble_eq_true hN
  subst hq hS e1 e2
  exact x_newZ aw_Z (nI_pos (by omega)) (nI_clamp (by omega)) (show N * 1 ≤ 536870912 by omega) (Nat.le_of_ble_eq_true hlt) (Nat.le_of_ble_eq_true g1) (Nat.le_of_ble_eq_true g2) hd kk
theorem w_new {i ci N : Nat} (hk : LkN (iy mi).cls i ci N) (hdef : ∀ j, j < N → defaultValue (vty ci j) = if isRf ci j then Value.null else .int 0) (hq : S.length = q) (hlt : Nat.blt q 67 = true) (hS : S ++ [(ci, N, [])] = S') (e1 : kc + 1 = kc') (e2 : ks + N = ks') (g1 : Nat.ble kc' (iR mi).cells = true) (g2 : Nat.ble ks' (iR mi).slots = true) (hd : decode (ib mi) pc = .ok (.new i, 3)) (kk : PM E l mi (pc + 3) lv (.ref q :: st) S' (sM M q (fun _ => 0)) kc' ks' Q) : PM E l mi pc lv st S M kc ks Q := by
  subst hq hS e1 e2
  exact x_new hk hdef (Nat.le_of_ble_eq_true hlt) (Nat.le_of_ble_eq_true g1) (Nat.le_of_ble_eq_true g2) hd kk
theorem w_putR {ci len k i t : Nat} {refs : List Nat} {C : String} {T : u_T} {N : Nat} (hc : vcl[ci]? = some (C, T, N)) (hkN : Nat.blt k N = true) (hl : Cond.fieldLink (iy mi).cls i (T k).1 (T k).2.1 (T k).2.2.1 ∈ gTbl) (hr : isRf ci k = true) (hfin : (T k).2.2.2 = true) (hin2 : (iy mi).name = "<init>") (hdecl : (T k).1 = (iy mi).cls) (hn : ∀ z : Nat, narrow (vty ci k) (.ref z) = .ref z) (hfit : ∀ z : Nat, fits (vty ci k) (.ref z) = true) (hs : S[q]? = some (ci, len, refs)) (hk : Nat.blt k len = true) (hS : S.set q (ci, len, rset refs k (t + 1)) = S') (hd : decode (ib mi) pc = .ok (.putfield i, 3)) (kk : PM E l mi (pc + 3) lv st S' M kc ks Q) : PM E l mi pc lv (.ref t :: .ref q :: st) S M kc ks Q := by
  subst hS
  exact x_putR hc (Nat.le_of_ble_eq_true hkN) hl hr hfin hin2 hdecl hn hfit hs (Nat.le_of_ble_eq_true hk) hd kk
end CN
theorem df0 : ∀ j, j < 11 → defaultValue (vty 0 j) = if isRf 0 j then Value.null else .int 0 := by
  intro j hj
  match j, hj with
  | 0, _ => rfl
  | 1, _ => rfl
  | 2, _ => rfl
  | 3, _ => rfl
  | 4, _ => rfl
  | 5, _ => rfl
  | 6, _ => rfl
  | 7, _ => rfl
  | 8, _ => rfl
  | 9, _ => rfl
  | 10, _ => rfl
  | n + 11, h => exact absurd h (by omega)
theorem df1 : ∀ j, j < 4 → defaultValue (vty 1 j) = if isRf 1 j then Value.null else .int 0 := by
  intro j hj
  match j, hj with
  | 0, _ => rfl
  | 1, _ => rfl
  | 2, _ => rfl
  | 3, _ => rfl
  | n + 4, h => exact absurd h (by omega)
theorem df2 : ∀ j, j < 5 → defaultValue (vty 2 j) = if isRf 2 j then Value.null else .int 0 := by
  intro j hj
  match j, hj with
  | 0, _ => rfl
  | 1, _ => rfl
  | 2, _ => rfl
  | 3, _ => rfl
  | 4, _ => rfl
  | n + 5, h => exact absurd h (by omega)
theorem df3 : ∀ j, j < 2 → defaultValue (vty 3 j) = if isRf 3 j then Value.null else .int 0 := by
  intro j hj
  match j, hj with
  | 0, _ => rfl
  | 1, _ => rfl
  | n + 2, h => exact absurd h (by omega)
theorem df4 : ∀ j, j < 8 → defaultValue (vty 4 j) = if isRf 4 j then Value.null else .int 0 := by
  intro j hj
  match j, hj with
  | 0, _ => rfl
  | 1, _ => rfl
  | 2, _ => rfl
  | 3, _ => rfl
  | 4, _ => rfl
  | 5, _ => rfl
  | 6, _ => rfl
  | 7, _ => rfl
  | n + 8, h => exact absurd h (by omega)
theorem df5 : ∀ j, j < 4 → defaultValue (vty 5 j) = if isRf 5 j then Value.null else .int 0 := by
  intro j hj
  match j, hj with
  | 0, _ => rfl
  | 1, _ => rfl
  | 2, _ => rfl
  | 3, _ => rfl
  | n + 4, h => exact absurd h (by omega)
theorem df6 : ∀ j, j < 7 → defaultValue (vty 6 j) = if isRf 6 j then Value.null else .int 0 := by
  intro j hj
  match j, hj with
  | 0, _ => rfl
  | 1, _ => rfl
  | 2, _ => rfl
  | 3, _ => rfl
  | 4, _ => rfl
  | 5, _ => rfl
  | 6, _ => rfl
  | n + 7, h => exact absurd h (by omega)
theorem df7 : ∀ j, j < 3 → defaultValue (vty 7 j) = if isRf 7 j then Value.null else .int 0 := by
  intro j hj
  match j, hj with
  | 0, _ => rfl
  | 1, _ => rfl
  | 2, _ => rfl
  | n + 3, h => exact absurd h (by omega)
theorem df8 : ∀ j, j < 10 → defaultValue (vty 8 j) = if isRf 8 j then Value.null else .int 0 := by
  intro j hj
  match j, hj with
  | 0, _ => rfl
  | 1, _ => rfl
  | 2, _ => rfl
  | 3, _ => rfl
  | 4, _ => rfl
  | 5, _ => rfl
  | 6, _ => rfl
  | 7, _ => rfl
  | 8, _ => rfl
  | 9, _ => rfl
  | n + 10, h => exact absurd h (by omega)
theorem df9 : ∀ j, j < 33 → defaultValue (vty 9 j) = if isRf 9 j then Value.null else .int 0 := by
  intro j hj
  match j, hj with
  | 0, _ => rfl
  | 1, _ => rfl
  | 2, _ => rfl
  | 3, _ => rfl
  | 4, _ => rfl
  | 5, _ => rfl
  | 6, _ => rfl
  | 7, _ => rfl
  | 8, _ => rfl
  | 9, _ => rfl
  | 10, _ => rfl
  | 11, _ => rfl
  | 12, _ => rfl
  | 13, _ => rfl
  | 14, _ => rfl
  | 15, _ => rfl
  | 16, _ => rfl
  | 17, _ => rfl
  | 18, _ => rfl
  | 19, _ => rfl
  | 20, _ => rfl
  | 21, _ => rfl
  | 22, _ => rfl
  | 23, _ => rfl
  | 24, _ => rfl
  | 25, _ => rfl
  | 26, _ => rfl
  | 27, _ => rfl
  | 28, _ => rfl
  | 29, _ => rfl
  | 30, _ => rfl
  | 31, _ => rfl
  | 32, _ => rfl
  | n + 33, h => exact absurd h (by omega)
set_option maxRecDepth 100000 in
theorem plX1_9 : Cond.fieldLink RX1 9 (TX1 0).1 (TX1 0).2.1 (TX1 0).2.2.1 ∈ gTbl := gat 91 (by decide +kernel) (by decide +kernel)
set_option maxRecDepth 100000 in
theorem plX1_15 : Cond.fieldLink RX1 15 (TX1 1).1 (TX1 1).2.1 (TX1 1).2.2.1 ∈ gTbl := gat 95 (by decide +kernel) (by decide +kernel)
set_option maxRecDepth 100000 in
theorem plX1_18 : Cond.fieldLink RX1 18 (TX1 2).1 (TX1 2).2.1 (TX1 2).2.2.1 ∈ gTbl := gat 98 (by decide +kernel) (by decide +kernel)
set_option maxRecDepth 100000 in
theorem plX5_9 : Cond.fieldLink RX5 9 (TX5 0).1 (TX5 0).2.1 (TX5 0).2.2.1 ∈ gTbl := gat 122 (by decide +kernel) (by decide +kernel)
set_option maxRecDepth 100000 in
theorem plX5_15 : Cond.fieldLink RX5 15 (TX5 1).1 (TX5 1).2.1 (TX5 1).2.2.1 ∈ gTbl := gat 125 (by decide +kernel) (by decide +kernel)
set_option maxRecDepth 100000 in
theorem plX5_18 : Cond.fieldLink RX5 18 (TX5 2).1 (TX5 2).2.1 (TX5 2).2.2.1 ∈ gTbl := gat 127 (by decide +kernel) (by decide +kernel)
set_option maxRecDepth 100000 in
theorem plX0_37 : Cond.fieldLink RX0 37 (TX0 0).1 (TX0 0).2.1 (TX0 0).2.2.1 ∈ gTbl := gat 146 (by decide +kernel) (by decide +kernel)
set_option maxRecDepth 100000 in
theorem plX0_9 : Cond.fieldLink RX0 9 (TX0 1).1 (TX0 1).2.1 (TX0 1).2.2.1 ∈ gTbl := gat 147 (by decide +kernel) (by decide +kernel)
set_option maxRecDepth 100000 in
theorem plX0_15 : Cond.fieldLink RX0 15 (TX0 2).1 (TX0 2).2.1 (TX0 2).2.2.1 ∈ gTbl := gat 150 (by decide +kernel) (by decide +kernel)
set_option maxRecDepth 100000 in
theorem plX0_19 : Cond.fieldLink RX0 19 (TX0 3).1 (TX0 3).2.1 (TX0 3).2.2.1 ∈ gTbl := gat 151 (by decide +kernel) (by decide +kernel)
set_option maxRecDepth 100000 in
theorem plX0_22 : Cond.fieldLink RX0 22 (TX0 4).1 (TX0 4).2.1 (TX0 4).2.2.1 ∈ gTbl := gat 152 (by decide +kernel) (by decide +kernel)
set_option maxRecDepth 100000 in
theorem plX0_25 : Cond.fieldLink RX0 25 (TX0 5).1 (TX0 5).2.1 (TX0 5).2.2.1 ∈ gTbl := gat 153 (by decide +kernel) (by decide +kernel)
set_option maxRecDepth 100000 in
theorem plX0_28 : Cond.fieldLink RX0 28 (TX0 6).1 (TX0 6).2.1 (TX0 6).2.2.1 ∈ gTbl := gat 154 (by decide +kernel) (by decide +kernel)
set_option maxRecDepth 100000 in
theorem plX0_31 : Cond.fieldLink RX0 31 (TX0 7).1 (TX0 7).2.1 (TX0 7).2.2.1 ∈ gTbl := gat 155 (by decide +kernel) (by decide +kernel)
set_option maxRecDepth 100000 in
theorem plX0_34 : Cond.fieldLink RX0 34 (TX0 8).1 (TX0 8).2.1 (TX0 8).2.2.1 ∈ gTbl := gat 156 (by decide +kernel) (by decide +kernel)
set_option maxRecDepth 100000 in
theorem plX3_9 : Cond.fieldLink RX3 9 (TX3 0).1 (TX3 0).2.1 (TX3 0).2.2.1 ∈ gTbl := gat 191 (by decide +kernel) (by decide +kernel)
set_option maxRecDepth 100000 in
theorem plX4_24 : Cond.fieldLink RX4 24 (TX4 0).1 (TX4 0).2.1 (TX4 0).2.2.1 ∈ gTbl := gat 210 (by decide +kernel) (by decide +kernel)
set_option maxRecDepth 100000 in
theorem plX4_28 : Cond.fieldLink RX4 28 (TX4 1).1 (TX4 1).2.1 (TX4 1).2.2.1 ∈ gTbl := gat 211 (by decide +kernel) (by decide +kernel)
set_option maxRecDepth 100000 in
theorem plX4_32 : Cond.fieldLink RX4 32 (TX4 2).1 (TX4 2).2.1 (TX4 2).2.2.1 ∈ gTbl := gat 212 (by decide +kernel) (by decide +kernel)
set_option maxRecDepth 100000 in
theorem plX4_9 : Cond.fieldLink RX4 9 (TX4 3).1 (TX4 3).2.1 (TX4 3).2.2.1 ∈ gTbl := gat 213 (by decide +kernel) (by decide +kernel)
set_option maxRecDepth 100000 in
theorem plX4_15 : Cond.fieldLink RX4 15 (TX4 4).1 (TX4 4).2.1 (TX4 4).2.2.1 ∈ gTbl := gat 214 (by decide +kernel) (by decide +kernel)
set_option maxRecDepth 100000 in
theorem plX4_18 : Cond.fieldLink RX4 18 (TX4 5).1 (TX4 5).2.1 (TX4 5).2.2.1 ∈ gTbl := gat 215 (by decide +kernel) (by decide +kernel)
set_option maxRecDepth 100000 in
theorem plX4_21 : Cond.fieldLink RX4 21 (TX4 6).1 (TX4 6).2.1 (TX4 6).2.2.1 ∈ gTbl := gat 216 (by decide +kernel) (by decide +kernel)
set_option maxRecDepth 100000 in
theorem plX6_25 : Cond.fieldLink RX6 25 (TX6 0).1 (TX6 0).2.1 (TX6 0).2.2.1 ∈ gTbl := gat 244 (by decide +kernel) (by decide +kernel)
set_option maxRecDepth 100000 in
theorem plX6_29 : Cond.fieldLink RX6 29 (TX6 1).1 (TX6 1).2.1 (TX6 1).2.2.1 ∈ gTbl := gat 245 (by decide +kernel) (by decide +kernel)
set_option maxRecDepth 100000 in
theorem plX6_12 : Cond.fieldLink RX6 12 (TX6 2).1 (TX6 2).2.1 (TX6 2).2.2.1 ∈ gTbl := gat 246 (by decide +kernel) (by decide +kernel)
set_option maxRecDepth 100000 in
theorem plX6_18 : Cond.fieldLink RX6 18 (TX6 3).1 (TX6 3).2.1 (TX6 3).2.2.1 ∈ gTbl := gat 247 (by decide +kernel) (by decide +kernel)
set_option maxRecDepth 100000 in
theorem plX7_15 : Cond.fieldLink RX7 15 (TX7 0).1 (TX7 0).2.1 (TX7 0).2.2.1 ∈ gTbl := gat 276 (by decide +kernel) (by decide +kernel)
set_option maxRecDepth 100000 in
theorem plX7_19 : Cond.fieldLink RX7 19 (TX7 1).1 (TX7 1).2.1 (TX7 1).2.2.1 ∈ gTbl := gat 277 (by decide +kernel) (by decide +kernel)
set_option maxRecDepth 100000 in
theorem plX7_9 : Cond.fieldLink RX7 9 (TX7 2).1 (TX7 2).2.1 (TX7 2).2.2.1 ∈ gTbl := gat 278 (by decide +kernel) (by decide +kernel)
set_option maxRecDepth 100000 in
theorem plX2_9 : Cond.fieldLink RX2 9 (TX2 0).1 (TX2 0).2.1 (TX2 0).2.2.1 ∈ gTbl := gat 293 (by decide +kernel) (by decide +kernel)
set_option maxRecDepth 100000 in
theorem plX2_15 : Cond.fieldLink RX2 15 (TX2 1).1 (TX2 1).2.1 (TX2 1).2.2.1 ∈ gTbl := gat 294 (by decide +kernel) (by decide +kernel)
set_option maxRecDepth 100000 in
theorem plX8_10 : Cond.fieldLink RX8 10 (TX8 0).1 (TX8 0).2.1 (TX8 0).2.2.1 ∈ gTbl := gat 310 (by decide +kernel) (by decide +kernel)
set_option maxRecDepth 100000 in
theorem plX8_19 : Cond.fieldLink RX8 19 (TX8 1).1 (TX8 1).2.1 (TX8 1).2.2.1 ∈ gTbl := gat 311 (by decide +kernel) (by decide +kernel)
set_option maxRecDepth 100000 in
theorem plX8_28 : Cond.fieldLink RX8 28 (TX8 2).1 (TX8 2).2.1 (TX8 2).2.2.1 ∈ gTbl := gat 312 (by decide +kernel) (by decide +kernel)
set_option maxRecDepth 100000 in
theorem plX8_35 : Cond.fieldLink RX8 35 (TX8 3).1 (TX8 3).2.1 (TX8 3).2.2.1 ∈ gTbl := gat 313 (by decide +kernel) (by decide +kernel)
set_option maxRecDepth 100000 in
theorem plX8_39 : Cond.fieldLink RX8 39 (TX8 4).1 (TX8 4).2.1 (TX8 4).2.2.1 ∈ gTbl := gat 314 (by decide +kernel) (by decide +kernel)
set_option maxRecDepth 100000 in
theorem plX8_42 : Cond.fieldLink RX8 42 (TX8 5).1 (TX8 5).2.1 (TX8 5).2.2.1 ∈ gTbl := gat 315 (by decide +kernel) (by decide +kernel)
set_option maxRecDepth 100000 in
theorem plX8_50 : Cond.fieldLink RX8 50 (TX8 6).1 (TX8 6).2.1 (TX8 6).2.2.1 ∈ gTbl := gat 316 (by decide +kernel) (by decide +kernel)
set_option maxRecDepth 100000 in
theorem plX8_59 : Cond.fieldLink RX8 59 (TX8 7).1 (TX8 7).2.1 (TX8 7).2.2.1 ∈ gTbl := gat 317 (by decide +kernel) (by decide +kernel)
set_option maxRecDepth 100000 in
theorem plX8_68 : Cond.fieldLink RX8 68 (TX8 8).1 (TX8 8).2.1 (TX8 8).2.2.1 ∈ gTbl := gat 318 (by decide +kernel) (by decide +kernel)
set_option maxRecDepth 100000 in
theorem plX8_75 : Cond.fieldLink RX8 75 (TX8 9).1 (TX8 9).2.1 (TX8 9).2.2.1 ∈ gTbl := gat 319 (by decide +kernel) (by decide +kernel)
set_option maxRecDepth 100000 in
theorem plX9_7 : Cond.fieldLink RX9 7 (TX9 2).1 (TX9 2).2.1 (TX9 2).2.2.1 ∈ gTbl := gat 759 (by decide +kernel) (by decide +kernel)
set_option maxRecDepth 100000 in
theorem plX9_13 : Cond.fieldLink RX9 13 (TX9 3).1 (TX9 3).2.1 (TX9 3).2.2.1 ∈ gTbl := gat 760 (by decide +kernel) (by decide +kernel)
set_option maxRecDepth 100000 in
theorem plX9_16 : Cond.fieldLink RX9 16 (TX9 5).1 (TX9 5).2.1 (TX9 5).2.2.1 ∈ gTbl := gat 762 (by decide +kernel) (by decide +kernel)
set_option maxRecDepth 100000 in
theorem plX9_19 : Cond.fieldLink RX9 19 (TX9 6).1 (TX9 6).2.1 (TX9 6).2.2.1 ∈ gTbl := gat 763 (by decide +kernel) (by decide +kernel)
set_option maxRecDepth 100000 in
theorem plX9_22 : Cond.fieldLink RX9 22 (TX9 7).1 (TX9 7).2.1 (TX9 7).2.2.1 ∈ gTbl := gat 764 (by decide +kernel) (by decide +kernel)
set_option maxRecDepth 100000 in
theorem plX9_25 : Cond.fieldLink RX9 25 (TX9 9).1 (TX9 9).2.1 (TX9 9).2.2.1 ∈ gTbl := gat 766 (by decide +kernel) (by decide +kernel)
set_option maxRecDepth 100000 in
theorem plX9_29 : Cond.fieldLink RX9 29 (TX9 10).1 (TX9 10).2.1 (TX9 10).2.2.1 ∈ gTbl := gat 767 (by decide +kernel) (by decide +kernel)
set_option maxRecDepth 100000 in
theorem plX9_32 : Cond.fieldLink RX9 32 (TX9 11).1 (TX9 11).2.1 (TX9 11).2.2.1 ∈ gTbl := gat 768 (by decide +kernel) (by decide +kernel)
set_option maxRecDepth 100000 in
theorem plX9_35 : Cond.fieldLink RX9 35 (TX9 12).1 (TX9 12).2.1 (TX9 12).2.2.1 ∈ gTbl := gat 769 (by decide +kernel) (by decide +kernel)
set_option maxRecDepth 100000 in
theorem plX9_38 : Cond.fieldLink RX9 38 (TX9 13).1 (TX9 13).2.1 (TX9 13).2.2.1 ∈ gTbl := gat 770 (by decide +kernel) (by decide +kernel)
set_option maxRecDepth 100000 in
theorem plX9_41 : Cond.fieldLink RX9 41 (TX9 14).1 (TX9 14).2.1 (TX9 14).2.2.1 ∈ gTbl := gat 771 (by decide +kernel) (by decide +kernel)
set_option maxRecDepth 100000 in
theorem plX9_44 : Cond.fieldLink RX9 44 (TX9 15).1 (TX9 15).2.1 (TX9 15).2.2.1 ∈ gTbl := gat 772 (by decide +kernel) (by decide +kernel)
set_option maxRecDepth 100000 in
theorem plX9_47 : Cond.fieldLink RX9 47 (TX9 16).1 (TX9 16).2.1 (TX9 16).2.2.1 ∈ gTbl := gat 773 (by decide +kernel) (by decide +kernel)
set_option maxRecDepth 100000 in
theorem plX9_50 : Cond.fieldLink RX9 50 (TX9 17).1 (TX9 17).2.1 (TX9 17).2.2.1 ∈ gTbl := gat 774 (by decide +kernel) (by decide +kernel)
set_option maxRecDepth 100000 in
theorem plX9_53 : Cond.fieldLink RX9 53 (TX9 19).1 (TX9 19).2.1 (TX9 19).2.2.1 ∈ gTbl := gat 776 (by decide +kernel) (by decide +kernel)
set_option maxRecDepth 100000 in
theorem plX9_56 : Cond.fieldLink RX9 56 (TX9 21).1 (TX9 21).2.1 (TX9 21).2.2.1 ∈ gTbl := gat 778 (by decide +kernel) (by decide +kernel)
set_option maxRecDepth 100000 in
theorem plX9_59 : Cond.fieldLink RX9 59 (TX9 22).1 (TX9 22).2.1 (TX9 22).2.2.1 ∈ gTbl := gat 779 (by decide +kernel) (by decide +kernel)
set_option maxRecDepth 100000 in
theorem plX9_62 : Cond.fieldLink RX9 62 (TX9 23).1 (TX9 23).2.1 (TX9 23).2.2.1 ∈ gTbl := gat 780 (by decide +kernel) (by decide +kernel)
set_option maxRecDepth 100000 in
theorem plX9_65 : Cond.fieldLink RX9 65 (TX9 24).1 (TX9 24).2.1 (TX9 24).2.2.1 ∈ gTbl := gat 781 (by decide +kernel) (by decide +kernel)
set_option maxRecDepth 100000 in
theorem plX9_68 : Cond.fieldLink RX9 68 (TX9 28).1 (TX9 28).2.1 (TX9 28).2.2.1 ∈ gTbl := gat 785 (by decide +kernel) (by decide +kernel)
set_option maxRecDepth 100000 in
theorem plX9_71 : Cond.fieldLink RX9 71 (TX9 29).1 (TX9 29).2.1 (TX9 29).2.2.1 ∈ gTbl := gat 786 (by decide +kernel) (by decide +kernel)
set_option maxRecDepth 100000 in
theorem plX9_74 : Cond.fieldLink RX9 74 (TX9 30).1 (TX9 30).2.1 (TX9 30).2.2.1 ∈ gTbl := gat 787 (by decide +kernel) (by decide +kernel)
set_option maxRecDepth 100000 in
theorem plX9_77 : Cond.fieldLink RX9 77 (TX9 31).1 (TX9 31).2.1 (TX9 31).2.2.1 ∈ gTbl := gat 788 (by decide +kernel) (by decide +kernel)
set_option maxRecDepth 100000 in
theorem plX9_80 : Cond.fieldLink RX9 80 (TX9 32).1 (TX9 32).2.1 (TX9 32).2.2.1 ∈ gTbl := gat 789 (by decide +kernel) (by decide +kernel)
def Sx0 (L : Nat) : vS := [(100, 4, []), (100, 4, []), (100, L, [])]
def Sx1 (L : Nat) : vS := [(100, 4, []), (100, 4, []), (100, L, []), (8, 10, [])]
def Sx2 (L : Nat) : vS := [(100, 4, []), (100, 4, []), (100, L, []), (8, 10, []), (1, 4, [])]
def Sx3 (L : Nat) : vS := [(100, 4, []), (100, 4, []), (100, L, []), (8, 10, []), (1, 4, []), (100, 36, [])]
def Sx4 (L : Nat) : vS := [(100, 4, []), (100, 4, []), (100, L, []), (8, 10, []), (1, 4, [6]), (100, 36, [])]
def Sx5 (L : Nat) : vS := [(100, 4, []), (100, 4, []), (100, L, []), (8, 10, []), (1, 4, [6]), (100, 36, []), (100, 36, [])]
def Sx6 (L : Nat) : vS := [(100, 4, []), (100, 4, []), (100, L, []), (8, 10, []), (1, 4, [6, 7]), (100, 36, []), (100, 36, [])]
def Sx7 (L : Nat) : vS := [(100, 4, []), (100, 4, []), (100, L, []), (8, 10, []), (1, 4, [6, 7]), (100, 36, []), (100, 36, []), (100, 144, [])]
def Sx8 (L : Nat) : vS := [(100, 4, []), (100, 4, []), (100, L, []), (8, 10, []), (1, 4, [6, 7, 8]), (100, 36, []), (100, 36, []), (100, 144, [])]
def Sx9 (L : Nat) : vS := [(100, 4, []), (100, 4, []), (100, L, []), (8, 10, [5]), (1, 4, [6, 7, 8]), (100, 36, []), (100, 36, []), (100, 144, [])]
def Sx10 (L : Nat) : vS := [(100, 4, []), (100, 4, []), (100, L, []), (8, 10, [5]), (1, 4, [6, 7, 8]), (100, 36, []), (100, 36, []), (100, 144, []), (5, 4, [])]
def Sx11 (L : Nat) : vS := [(100, 4, []), (100, 4, []), (100, L, []), (8, 10, [5]), (1, 4, [6, 7, 8]), (100, 36, []), (100, 36, []), (100, 144, []), (5, 4, []), (100, 12, [])]
def Sx12 (L : Nat) : vS := [(100, 4, []), (100, 4, []), (100, L, []), (8, 10, [5]), (1, 4, [6, 7, 8]), (100, 36, []), (100, 36, []), (100, 144, []), (5, 4, [10]), (100, 12, [])]
def Sx13 (L : Nat) : vS := [(100, 4, []), (100, 4, []), (100, L, []), (8, 10, [5]), (1, 4, [6, 7, 8]), (100, 36, []), (100, 36, []), (100, 144, []), (5, 4, [10]), (100, 12, []), (100, 12, [])]
def Sx14 (L : Nat) : vS := [(100, 4, []), (100, 4, []), (100, L, []), (8, 10, [5]), (1, 4, [6, 7, 8]), (100, 36, []), (100, 36, []), (100, 144, []), (5, 4, [10, 11]), (100, 12, []), (100, 12, [])]
def Sx15 (L : Nat) : vS := [(100, 4, []), (100, 4, []), (100, L, []), (8, 10, [5]), (1, 4, [6, 7, 8]), (100, 36, []), (100, 36, []), (100, 144, []), (5, 4, [10, 11]), (100, 12, []), (100, 12, []), (100, 12, [])]
def Sx16 (L : Nat) : vS := [(100, 4, []), (100, 4, []), (100, L, []), (8, 10, [5]), (1, 4, [6, 7, 8]), (100, 36, []), (100, 36, []), (100, 144, []), (5, 4, [10, 11, 12]), (100, 12, []), (100, 12, []), (100, 12, [])]
def Sx17 (L : Nat) : vS := [(100, 4, []), (100, 4, []), (100, L, []), (8, 10, [5, 9]), (1, 4, [6, 7, 8]), (100, 36, []), (100, 36, []), (100, 144, []), (5, 4, [10, 11, 12]), (100, 12, []), (100, 12, []), (100, 12, [])]
def Sx18 (L : Nat) : vS := [(100, 4, []), (100, 4, []), (100, L, []), (8, 10, [5, 9]), (1, 4, [6, 7, 8]), (100, 36, []), (100, 36, []), (100, 144, []), (5, 4, [10, 11, 12]), (100, 12, []), (100, 12, []), (100, 12, []), (0, 11, [])]
def Sx19 (L : Nat) : vS := [(100, 4, []), (100, 4, []), (100, L, []), (8, 10, [5, 9]), (1, 4, [6, 7, 8]), (100, 36, []), (100, 36, []), (100, 144, []), (5, 4, [10, 11, 12]), (100, 12, []), (100, 12, []), (100, 12, []), (0, 11, []), (101, 6, [])]
def Sx20 (L : Nat) : vS := [(100, 4, []), (100, 4, []), (100, L, []), (8, 10, [5, 9]), (1, 4, [6, 7, 8]), (100, 36, []), (100, 36, []), (100, 144, []), (5, 4, [10, 11, 12]), (100, 12, []), (100, 12, []), (100, 12, []), (0, 11, [0, 14]), (101, 6, [])]
def Sx21 (L : Nat) : vS := [(100, 4, []), (100, 4, []), (100, L, []), (8, 10, [5, 9]), (1, 4, [6, 7, 8]), (100, 36, []), (100, 36, []), (100, 144, []), (5, 4, [10, 11, 12]), (100, 12, []), (100, 12, []), (100, 12, []), (0, 11, [0, 14]), (101, 6, []), (100, 6, [])]
def Sx22 (L : Nat) : vS := [(100, 4, []), (100, 4, []), (100, L, []), (8, 10, [5, 9]), (1, 4, [6, 7, 8]), (100, 36, []), (100, 36, []), (100, 144, []), (5, 4, [10, 11, 12]), (100, 12, []), (100, 12, []), (100, 12, []), (0, 11, [0, 14, 15]), (101, 6, []), (100, 6, [])]
def Sx23 (L : Nat) : vS := [(100, 4, []), (100, 4, []), (100, L, []), (8, 10, [5, 9]), (1, 4, [6, 7, 8]), (100, 36, []), (100, 36, []), (100, 144, []), (5, 4, [10, 11, 12]), (100, 12, []), (100, 12, []), (100, 12, []), (0, 11, [0, 14, 15]), (101, 6, []), (100, 6, []), (100, 6, [])]
def Sx24 (L : Nat) : vS := [(100, 4, []), (100, 4, []), (100, L, []), (8, 10, [5, 9]), (1, 4, [6, 7, 8]), (100, 36, []), (100, 36, []), (100, 144, []), (5, 4, [10, 11, 12]), (100, 12, []), (100, 12, []), (100, 12, []), (0, 11, [0, 14, 15, 16]), (101, 6, []), (100, 6, []), (100, 6, [])]
def Sx25 (L : Nat) : vS := [(100, 4, []), (100, 4, []), (100, L, []), (8, 10, [5, 9]), (1, 4, [6, 7, 8]), (100, 36, []), (100, 36, []), (100, 144, []), (5, 4, [10, 11, 12]), (100, 12, []), (100, 12, []), (100, 12, []), (0, 11, [0, 14, 15, 16]), (101, 6, []), (100, 6, []), (100, 6, []), (100, 6, [])]
def Sx26 (L : Nat) : vS := [(100, 4, []), (100, 4, []), (100, L, []), (8, 10, [5, 9]), (1, 4, [6, 7, 8]), (100, 36, []), (100, 36, []), (100, 144, []), (5, 4, [10, 11, 12]), (100, 12, []), (100, 12, []), (100, 12, []), (0, 11, [0, 14, 15, 16, 17]), (101, 6, []), (100, 6, []), (100, 6, []), (100, 6, [])]
def Sx27 (L : Nat) : vS := [(100, 4, []), (100, 4, []), (100, L, []), (8, 10, [5, 9]), (1, 4, [6, 7, 8]), (100, 36, []), (100, 36, []), (100, 144, []), (5, 4, [10, 11, 12]), (100, 12, []), (100, 12, []), (100, 12, []), (0, 11, [0, 14, 15, 16, 17]), (101, 6, []), (100, 6, []), (100, 6, []), (100, 6, []), (100, 6, [])]
def Sx28 (L : Nat) : vS := [(100, 4, []), (100, 4, []), (100, L, []), (8, 10, [5, 9]), (1, 4, [6, 7, 8]), (100, 36, []), (100, 36, []), (100, 144, []), (5, 4, [10, 11, 12]), (100, 12, []), (100, 12, []), (100, 12, []), (0, 11, [0, 14, 15, 16, 17, 18]), (101, 6, []), (100, 6, []), (100, 6, []), (100, 6, []), (100, 6, [])]
def Sx29 (L : Nat) : vS := [(100, 4, []), (100, 4, []), (100, L, []), (8, 10, [5, 9]), (1, 4, [6, 7, 8]), (100, 36, []), (100, 36, []), (100, 144, []), (5, 4, [10, 11, 12]), (100, 12, []), (100, 12, []), (100, 12, []), (0, 11, [0, 14, 15, 16, 17, 18]), (101, 6, []), (100, 6, []), (100, 6, []), (100, 6, []), (100, 6, []), (100, 216, [])]
def Sx30 (L : Nat) : vS := [(100, 4, []), (100, 4, []), (100, L, []), (8, 10, [5, 9]), (1, 4, [6, 7, 8]), (100, 36, []), (100, 36, []), (100, 144, []), (5, 4, [10, 11, 12]), (100, 12, []), (100, 12, []), (100, 12, []), (0, 11, [0, 14, 15, 16, 17, 18, 19]), (101, 6, []), (100, 6, []), (100, 6, []), (100, 6, []), (100, 6, []), (100, 216, [])]
def Sx31 (L : Nat) : vS := [(100, 4, []), (100, 4, []), (100, L, []), (8, 10, [5, 9]), (1, 4, [6, 7, 8]), (100, 36, []), (100, 36, []), (100, 144, []), (5, 4, [10, 11, 12]), (100, 12, []), (100, 12, []), (100, 12, []), (0, 11, [0, 14, 15, 16, 17, 18, 19]), (101, 6, []), (100, 6, []), (100, 6, []), (100, 6, []), (100, 6, []), (100, 216, []), (100, 216, [])]
def Sx32 (L : Nat) : vS := [(100, 4, []), (100, 4, []), (100, L, []), (8, 10, [5, 9]), (1, 4, [6, 7, 8]), (100, 36, []), (100, 36, []), (100, 144, []), (5, 4, [10, 11, 12]), (100, 12, []), (100, 12, []), (100, 12, []), (0, 11, [0, 14, 15, 16, 17, 18, 19, 20]), (101, 6, []), (100, 6, []), (100, 6, []), (100, 6, []), (100, 6, []), (100, 216, []), (100, 216, [])]
def Sx33 (L : Nat) : vS := [(100, 4, []), (100, 4, []), (100, L, []), (8, 10, [5, 9]), (1, 4, [6, 7, 8]), (100, 36, []), (100, 36, []), (100, 144, []), (5, 4, [10, 11, 12]), (100, 12, []), (100, 12, []), (100, 12, []), (0, 11, [0, 14, 15, 16, 17, 18, 19, 20]), (101, 6, []), (100, 6, []), (100, 6, []), (100, 6, []), (100, 6, []), (100, 216, []), (100, 216, []), (100, 36, [])]
def Sx34 (L : Nat) : vS := [(100, 4, []), (100, 4, []), (100, L, []), (8, 10, [5, 9]), (1, 4, [6, 7, 8]), (100, 36, []), (100, 36, []), (100, 144, []), (5, 4, [10, 11, 12]), (100, 12, []), (100, 12, []), (100, 12, []), (0, 11, [0, 14, 15, 16, 17, 18, 19, 20, 21]), (101, 6, []), (100, 6, []), (100, 6, []), (100, 6, []), (100, 6, []), (100, 216, []), (100, 216, []), (100, 36, [])]
def Sx35 (L : Nat) : vS := [(100, 4, []), (100, 4, []), (100, L, []), (8, 10, [5, 9]), (1, 4, [6, 7, 8]), (100, 36, []), (100, 36, []), (100, 144, []), (5, 4, [10, 11, 12]), (100, 12, []), (100, 12, []), (100, 12, []), (0, 11, [5, 14, 15, 16, 17, 18, 19, 20, 21]), (101, 6, []), (100, 6, []), (100, 6, []), (100, 6, []), (100, 6, []), (100, 216, []), (100, 216, []), (100, 36, [])]
def Sx36 (L : Nat) : vS := [(100, 4, []), (100, 4, []), (100, L, []), (8, 10, [5, 9, 13]), (1, 4, [6, 7, 8]), (100, 36, []), (100, 36, []), (100, 144, []), (5, 4, [10, 11, 12]), (100, 12, []), (100, 12, []), (100, 12, []), (0, 11, [5, 14, 15, 16, 17, 18, 19, 20, 21]), (101, 6, []), (100, 6, []), (100, 6, []), (100, 6, []), (100, 6, []), (100, 216, []), (100, 216, []), (100, 36, [])]
def Sx37 (L : Nat) : vS := [(100, 4, []), (100, 4, []), (100, L, []), (8, 10, [5, 9, 13]), (1, 4, [6, 7, 8]), (100, 36, []), (100, 36, []), (100, 144, []), (5, 4, [10, 11, 12]), (100, 12, []), (100, 12, []), (100, 12, []), (0, 11, [5, 14, 15, 16, 17, 18, 19, 20, 21]), (101, 6, []), (100, 6, []), (100, 6, []), (100, 6, []), (100, 6, []), (100, 216, []), (100, 216, []), (100, 36, []), (3, 2, [])]
def Sx38 (L : Nat) : vS := [(100, 4, []), (100, 4, []), (100, L, []), (8, 10, [5, 9, 13]), (1, 4, [6, 7, 8]), (100, 36, []), (100, 36, []), (100, 144, []), (5, 4, [10, 11, 12]), (100, 12, []), (100, 12, []), (100, 12, []), (0, 11, [5, 14, 15, 16, 17, 18, 19, 20, 21]), (101, 6, []), (100, 6, []), (100, 6, []), (100, 6, []), (100, 6, []), (100, 216, []), (100, 216, []), (100, 36, []), (3, 2, []), (100, 6, [])]
def Sx39 (L : Nat) : vS := [(100, 4, []), (100, 4, []), (100, L, []), (8, 10, [5, 9, 13]), (1, 4, [6, 7, 8]), (100, 36, []), (100, 36, []), (100, 144, []), (5, 4, [10, 11, 12]), (100, 12, []), (100, 12, []), (100, 12, []), (0, 11, [5, 14, 15, 16, 17, 18, 19, 20, 21]), (101, 6, []), (100, 6, []), (100, 6, []), (100, 6, []), (100, 6, []), (100, 216, []), (100, 216, []), (100, 36, []), (3, 2, [23]), (100, 6, [])]
def Sx40 (L : Nat) : vS := [(100, 4, []), (100, 4, []), (100, L, []), (8, 10, [5, 9, 13, 22]), (1, 4, [6, 7, 8]), (100, 36, []), (100, 36, []), (100, 144, []), (5, 4, [10, 11, 12]), (100, 12, []), (100, 12, []), (100, 12, []), (0, 11, [5, 14, 15, 16, 17, 18, 19, 20, 21]), (101, 6, []), (100, 6, []), (100, 6, []), (100, 6, []), (100, 6, []), (100, 216, []), (100, 216, []), (100, 36, []), (3, 2, [23]), (100, 6, [])]
def Sx41 (L : Nat) : vS := [(100, 4, []), (100, 4, []), (100, L, []), (8, 10, [5, 9, 13, 22]), (1, 4, [6, 7, 8]), (100, 36, []), (100, 36, []), (100, 144, []), (5, 4, [10, 11, 12]), (100, 12, []), (100, 12, []), (100, 12, []), (0, 11, [5, 14, 15, 16, 17, 18, 19, 20, 21]), (101, 6, []), (100, 6, []), (100, 6, []), (100, 6, []), (100, 6, []), (100, 216, []), (100, 216, []), (100, 36, []), (3, 2, [23]), (100, 6, []), (3, 2, [])]
def Sx42 (L : Nat) : vS := [(100, 4, []), (100, 4, []), (100, L, []), (8, 10, [5, 9, 13, 22]), (1, 4, [6, 7, 8]), (100, 36, []), (100, 36, []), (100, 144, []), (5, 4, [10, 11, 12]), (100, 12, []), (100, 12, []), (100, 12, []), (0, 11, [5, 14, 15, 16, 17, 18, 19, 20, 21]), (101, 6, []), (100, 6, []), (100, 6, []), (100, 6, []), (100, 6, []), (100, 216, []), (100, 216, []), (100, 36, []), (3, 2, [23]), (100, 6, []), (3, 2, []), (100, 6, [])]
def Sx43 (L : Nat) : vS := [(100, 4, []), (100, 4, []), (100, L, []), (8, 10, [5, 9, 13, 22]), (1, 4, [6, 7, 8]), (100, 36, []), (100, 36, []), (100, 144, []), (5, 4, [10, 11, 12]), (100, 12, []), (100, 12, []), (100, 12, []), (0, 11, [5, 14, 15, 16, 17, 18, 19, 20, 21]), (101, 6, []), (100, 6, []), (100, 6, []), (100, 6, []), (100, 6, []), (100, 216, []), (100, 216, []), (100, 36, []), (3, 2, [23]), (100, 6, []), (3, 2, [25]), (100, 6, [])]
def Sx44 (L : Nat) : vS := [(100, 4, []), (100, 4, []), (100, L, []), (8, 10, [5, 9, 13, 22, 24]), (1, 4, [6, 7, 8]), (100, 36, []), (100, 36, []), (100, 144, []), (5, 4, [10, 11, 12]), (100, 12, []), (100, 12, []), (100, 12, []), (0, 11, [5, 14, 15, 16, 17, 18, 19, 20, 21]), (101, 6, []), (100, 6, []), (100, 6, []), (100, 6, []), (100, 6, []), (100, 216, []), (100, 216, []), (100, 36, []), (3, 2, [23]), (100, 6, []), (3, 2, [25]), (100, 6, [])]
def Sx45 (L : Nat) : vS := [(100, 4, []), (100, 4, []), (100, L, []), (8, 10, [5, 9, 13, 22, 24]), (1, 4, [6, 7, 8]), (100, 36, []), (100, 36, []), (100, 144, []), (5, 4, [10, 11, 12]), (100, 12, []), (100, 12, []), (100, 12, []), (0, 11, [5, 14, 15, 16, 17, 18, 19, 20, 21]), (101, 6, []), (100, 6, []), (100, 6, []), (100, 6, []), (100, 6, []), (100, 216, []), (100, 216, []), (100, 36, []), (3, 2, [23]), (100, 6, []), (3, 2, [25]), (100, 6, []), (3, 2, [])]
def Sx46 (L : Nat) : vS := [(100, 4, []), (100, 4, []), (100, L, []), (8, 10, [5, 9, 13, 22, 24]), (1, 4, [6, 7, 8]), (100, 36, []), (100, 36, []), (100, 144, []), (5, 4, [10, 11, 12]), (100, 12, []), (100, 12, []), (100, 12, []), (0, 11, [5, 14, 15, 16, 17, 18, 19, 20, 21]), (101, 6, []), (100, 6, []), (100, 6, []), (100, 6, []), (100, 6, []), (100, 216, []), (100, 216, []), (100, 36, []), (3, 2, [23]), (100, 6, []), (3, 2, [25]), (100, 6, []), (3, 2, []), (100, 6, [])]
def Sx47 (L : Nat) : vS := [(100, 4, []), (100, 4, []), (100, L, []), (8, 10, [5, 9, 13, 22, 24]), (1, 4, [6, 7, 8]), (100, 36, []), (100, 36, []), (100, 144, []), (5, 4, [10, 11, 12]), (100, 12, []), (100, 12, []), (100, 12, []), (0, 11, [5, 14, 15, 16, 17, 18, 19, 20, 21]), (101, 6, []), (100, 6, []), (100, 6, []), (100, 6, []), (100, 6, []), (100, 216, []), (100, 216, []), (100, 36, []), (3, 2, [23]), (100, 6, []), (3, 2, [25]), (100, 6, []), (3, 2, [27]), (100, 6, [])]
def Sx48 (L : Nat) : vS := [(100, 4, []), (100, 4, []), (100, L, []), (8, 10, [5, 9, 13, 22, 24, 26]), (1, 4, [6, 7, 8]), (100, 36, []), (100, 36, []), (100, 144, []), (5, 4, [10, 11, 12]), (100, 12, []), (100, 12, []), (100, 12, []), (0, 11, [5, 14, 15, 16, 17, 18, 19, 20, 21]), (101, 6, []), (100, 6, []), (100, 6, []), (100, 6, []), (100, 6, []), (100, 216, []), (100, 216, []), (100, 36, []), (3, 2, [23]), (100, 6, []), (3, 2, [25]), (100, 6, []), (3, 2, [27]), (100, 6, [])]
def Sx49 (L : Nat) : vS := [(100, 4, []), (100, 4, []), (100, L, []), (8, 10, [5, 9, 13, 22, 24, 26]), (1, 4, [6, 7, 8]), (100, 36, []), (100, 36, []), (100, 144, []), (5, 4, [10, 11, 12]), (100, 12, []), (100, 12, []), (100, 12, []), (0, 11, [5, 14, 15, 16, 17, 18, 19, 20, 21]), (101, 6, []), (100, 6, []), (100, 6, []), (100, 6, []), (100, 6, []), (100, 216, []), (100, 216, []), (100, 36, []), (3, 2, [23]), (100, 6, []), (3, 2, [25]), (100, 6, []), (3, 2, [27]), (100, 6, []), (4, 8, [])]
def Sx50 (L : Nat) : vS := [(100, 4, []), (100, 4, []), (100, L, []), (8, 10, [5, 9, 13, 22, 24, 26]), (1, 4, [6, 7, 8]), (100, 36, []), (100, 36, []), (100, 144, []), (5, 4, [10, 11, 12]), (100, 12, []), (100, 12, []), (100, 12, []), (0, 11, [5, 14, 15, 16, 17, 18, 19, 20, 21]), (101, 6, []), (100, 6, []), (100, 6, []), (100, 6, []), (100, 6, []), (100, 216, []), (100, 216, []), (100, 36, []), (3, 2, [23]), (100, 6, []), (3, 2, [25]), (100, 6, []), (3, 2, [27]), (100, 6, []), (4, 8, []), (100, 12, [])]
def Sx51 (L : Nat) : vS := [(100, 4, []), (100, 4, []), (100, L, []), (8, 10, [5, 9, 13, 22, 24, 26]), (1, 4, [6, 7, 8]), (100, 36, []), (100, 36, []), (100, 144, []), (5, 4, [10, 11, 12]), (100, 12, []), (100, 12, []), (100, 12, []), (0, 11, [5, 14, 15, 16, 17, 18, 19, 20, 21]), (101, 6, []), (100, 6, []), (100, 6, []), (100, 6, []), (100, 6, []), (100, 216, []), (100, 216, []), (100, 36, []), (3, 2, [23]), (100, 6, []), (3, 2, [25]), (100, 6, []), (3, 2, [27]), (100, 6, []), (4, 8, [0, 0, 0, 29]), (100, 12, [])]
def Sx52 (L : Nat) : vS := [(100, 4, []), (100, 4, []), (100, L, []), (8, 10, [5, 9, 13, 22, 24, 26]), (1, 4, [6, 7, 8]), (100, 36, []), (100, 36, []), (100, 144, []), (5, 4, [10, 11, 12]), (100, 12, []), (100, 12, []), (100, 12, []), (0, 11, [5, 14, 15, 16, 17, 18, 19, 20, 21]), (101, 6, []), (100, 6, []), (100, 6, []), (100, 6, []), (100, 6, []), (100, 216, []), (100, 216, []), (100, 36, []), (3, 2, [23]), (100, 6, []), (3, 2, [25]), (100, 6, []), (3, 2, [27]), (100, 6, []), (4, 8, [0, 0, 0, 29]), (100, 12, []), (100, 12, [])]
def Sx53 (L : Nat) : vS := [(100, 4, []), (100, 4, []), (100, L, []), (8, 10, [5, 9, 13, 22, 24, 26]), (1, 4, [6, 7, 8]), (100, 36, []), (100, 36, []), (100, 144, []), (5, 4, [10, 11, 12]), (100, 12, []), (100, 12, []), (100, 12, []), (0, 11, [5, 14, 15, 16, 17, 18, 19, 20, 21]), (101, 6, []), (100, 6, []), (100, 6, []), (100, 6, []), (100, 6, []), (100, 216, []), (100, 216, []), (100, 36, []), (3, 2, [23]), (100, 6, []), (3, 2, [25]), (100, 6, []), (3, 2, [27]), (100, 6, []), (4, 8, [0, 0, 0, 29, 30]), (100, 12, []), (100, 12, [])]
def Sx54 (L : Nat) : vS := [(100, 4, []), (100, 4, []), (100, L, []), (8, 10, [5, 9, 13, 22, 24, 26]), (1, 4, [6, 7, 8]), (100, 36, []), (100, 36, []), (100, 144, []), (5, 4, [10, 11, 12]), (100, 12, []), (100, 12, []), (100, 12, []), (0, 11, [5, 14, 15, 16, 17, 18, 19, 20, 21]), (101, 6, []), (100, 6, []), (100, 6, []), (100, 6, []), (100, 6, []), (100, 216, []), (100, 216, []), (100, 36, []), (3, 2, [23]), (100, 6, []), (3, 2, [25]), (100, 6, []), (3, 2, [27]), (100, 6, []), (4, 8, [0, 0, 0, 29, 30]), (100, 12, []), (100, 12, []), (100, 12, [])]
def Sx55 (L : Nat) : vS := [(100, 4, []), (100, 4, []), (100, L, []), (8, 10, [5, 9, 13, 22, 24, 26]), (1, 4, [6, 7, 8]), (100, 36, []), (100, 36, []), (100, 144, []), (5, 4, [10, 11, 12]), (100, 12, []), (100, 12, []), (100, 12, []), (0, 11, [5, 14, 15, 16, 17, 18, 19, 20, 21]), (101, 6, []), (100, 6, []), (100, 6, []), (100, 6, []), (100, 6, []), (100, 216, []), (100, 216, []), (100, 36, []), (3, 2, [23]), (100, 6, []), (3, 2, [25]), (100, 6, []), (3, 2, [27]), (100, 6, []), (4, 8, [0, 0, 0, 29, 30, 31]), (100, 12, []), (100, 12, []), (100, 12, [])]
def Sx56 (L : Nat) : vS := [(100, 4, []), (100, 4, []), (100, L, []), (8, 10, [5, 9, 13, 22, 24, 26]), (1, 4, [6, 7, 8]), (100, 36, []), (100, 36, []), (100, 144, []), (5, 4, [10, 11, 12]), (100, 12, []), (100, 12, []), (100, 12, []), (0, 11, [5, 14, 15, 16, 17, 18, 19, 20, 21]), (101, 6, []), (100, 6, []), (100, 6, []), (100, 6, []), (100, 6, []), (100, 216, []), (100, 216, []), (100, 36, []), (3, 2, [23]), (100, 6, []), (3, 2, [25]), (100, 6, []), (3, 2, [27]), (100, 6, []), (4, 8, [0, 0, 0, 29, 30, 31]), (100, 12, []), (100, 12, []), (100, 12, []), (100, 12, [])]
def Sx57 (L : Nat) : vS := [(100, 4, []), (100, 4, []), (100, L, []), (8, 10, [5, 9, 13, 22, 24, 26]), (1, 4, [6, 7, 8]), (100, 36, []), (100, 36, []), (100, 144, []), (5, 4, [10, 11, 12]), (100, 12, []), (100, 12, []), (100, 12, []), (0, 11, [5, 14, 15, 16, 17, 18, 19, 20, 21]), (101, 6, []), (100, 6, []), (100, 6, []), (100, 6, []), (100, 6, []), (100, 216, []), (100, 216, []), (100, 36, []), (3, 2, [23]), (100, 6, []), (3, 2, [25]), (100, 6, []), (3, 2, [27]), (100, 6, []), (4, 8, [0, 0, 0, 29, 30, 31, 32]), (100, 12, []), (100, 12, []), (100, 12, []), (100, 12, [])]
def Sx58 (L : Nat) : vS := [(100, 4, []), (100, 4, []), (100, L, []), (8, 10, [5, 9, 13, 22, 24, 26]), (1, 4, [6, 7, 8]), (100, 36, []), (100, 36, []), (100, 144, []), (5, 4, [10, 11, 12]), (100, 12, []), (100, 12, []), (100, 12, []), (0, 11, [5, 14, 15, 16, 17, 18, 19, 20, 21]), (101, 6, []), (100, 6, []), (100, 6, []), (100, 6, []), (100, 6, []), (100, 216, []), (100, 216, []), (100, 36, []), (3, 2, [23]), (100, 6, []), (3, 2, [25]), (100, 6, []), (3, 2, [27]), (100, 6, []), (4, 8, [5, 0, 0, 29, 30, 31, 32]), (100, 12, []), (100, 12, []), (100, 12, []), (100, 12, [])]
def Sx59 (L : Nat) : vS := [(100, 4, []), (100, 4, []), (100, L, []), (8, 10, [5, 9, 13, 22, 24, 26]), (1, 4, [6, 7, 8]), (100, 36, []), (100, 36, []), (100, 144, []), (5, 4, [10, 11, 12]), (100, 12, []), (100, 12, []), (100, 12, []), (0, 11, [5, 14, 15, 16, 17, 18, 19, 20, 21]), (101, 6, []), (100, 6, []), (100, 6, []), (100, 6, []), (100, 6, []), (100, 216, []), (100, 216, []), (100, 36, []), (3, 2, [23]), (100, 6, []), (3, 2, [25]), (100, 6, []), (3, 2, [27]), (100, 6, []), (4, 8, [5, 9, 0, 29, 30, 31, 32]), (100, 12, []), (100, 12, []), (100, 12, []), (100, 12, [])]
def Sx60 (L : Nat) : vS := [(100, 4, []), (100, 4, []), (100, L, []), (8, 10, [5, 9, 13, 22, 24, 26]), (1, 4, [6, 7, 8]), (100, 36, []), (100, 36, []), (100, 144, []), (5, 4, [10, 11, 12]), (100, 12, []), (100, 12, []), (100, 12, []), (0, 11, [5, 14, 15, 16, 17, 18, 19, 20, 21]), (101, 6, []), (100, 6, []), (100, 6, []), (100, 6, []), (100, 6, []), (100, 216, []), (100, 216, []), (100, 36, []), (3, 2, [23]), (100, 6, []), (3, 2, [25]), (100, 6, []), (3, 2, [27]), (100, 6, []), (4, 8, [5, 9, 13, 29, 30, 31, 32]), (100, 12, []), (100, 12, []), (100, 12, []), (100, 12, [])]
def Sx61 (L : Nat) : vS := [(100, 4, []), (100, 4, []), (100, L, []), (8, 10, [5, 9, 13, 22, 24, 26, 28]), (1, 4, [6, 7, 8]), (100, 36, []), (100, 36, []), (100, 144, []), (5, 4, [10, 11, 12]), (100, 12, []), (100, 12, []), (100, 12, []), (0, 11, [5, 14, 15, 16, 17, 18, 19, 20, 21]), (101, 6, []), (100, 6, []), (100, 6, []), (100, 6, []), (100, 6, []), (100, 216, []), (100, 216, []), (100, 36, []), (3, 2, [23]), (100, 6, []), (3, 2, [25]), (100, 6, []), (3, 2, [27]), (100, 6, []), (4, 8, [5, 9, 13, 29, 30, 31, 32]), (100, 12, []), (100, 12, []), (100, 12, []), (100, 12, [])]
def Sx62 (L : Nat) : vS := [(100, 4, []), (100, 4, []), (100, L, []), (8, 10, [5, 9, 13, 22, 24, 26, 28]), (1, 4, [6, 7, 8]), (100, 36, []), (100, 36, []), (100, 144, []), (5, 4, [10, 11, 12]), (100, 12, []), (100, 12, []), (100, 12, []), (0, 11, [5, 14, 15, 16, 17, 18, 19, 20, 21]), (101, 6, []), (100, 6, []), (100, 6, []), (100, 6, []), (100, 6, []), (100, 216, []), (100, 216, []), (100, 36, []), (3, 2, [23]), (100, 6, []), (3, 2, [25]), (100, 6, []), (3, 2, [27]), (100, 6, []), (4, 8, [5, 9, 13, 29, 30, 31, 32]), (100, 12, []), (100, 12, []), (100, 12, []), (100, 12, []), (6, 7, [])]
def Sx63 (L : Nat) : vS := [(100, 4, []), (100, 4, []), (100, L, []), (8, 10, [5, 9, 13, 22, 24, 26, 28]), (1, 4, [6, 7, 8]), (100, 36, []), (100, 36, []), (100, 144, []), (5, 4, [10, 11, 12]), (100, 12, []), (100, 12, []), (100, 12, []), (0, 11, [5, 14, 15, 16, 17, 18, 19, 20, 21]), (101, 6, []), (100, 6, []), (100, 6, []), (100, 6, []), (100, 6, []), (100, 216, []), (100, 216, []), (100, 36, []), (3, 2, [23]), (100, 6, []), (3, 2, [25]), (100, 6, []), (3, 2, [27]), (100, 6, []), (4, 8, [5, 9, 13, 29, 30, 31, 32]), (100, 12, []), (100, 12, []), (100, 12, []), (100, 12, []), (6, 7, []), (3, 2, [])]
def Sx64 (L : Nat) : vS := [(100, 4, []), (100, 4, []), (100, L, []), (8, 10, [5, 9, 13, 22, 24, 26, 28]), (1, 4, [6, 7, 8]), (100, 36, []), (100, 36, []), (100, 144, []), (5, 4, [10, 11, 12]), (100, 12, []), (100, 12, []), (100, 12, []), (0, 11, [5, 14, 15, 16, 17, 18, 19, 20, 21]), (101, 6, []), (100, 6, []), (100, 6, []), (100, 6, []), (100, 6, []), (100, 216, []), (100, 216, []), (100, 36, []), (3, 2, [23]), (100, 6, []), (3, 2, [25]), (100, 6, []), (3, 2, [27]), (100, 6, []), (4, 8, [5, 9, 13, 29, 30, 31, 32]), (100, 12, []), (100, 12, []), (100, 12, []), (100, 12, []), (6, 7, []), (3, 2, []), (100, 6, [])]
def Sx65 (L : Nat) : vS := [(100, 4, []), (100, 4, []), (100, L, []), (8, 10, [5, 9, 13, 22, 24, 26, 28]), (1, 4, [6, 7, 8]), (100, 36, []), (100, 36, []), (100, 144, []), (5, 4, [10, 11, 12]), (100, 12, []), (100, 12, []), (100, 12, []), (0, 11, [5, 14, 15, 16, 17, 18, 19, 20, 21]), (101, 6, []), (100, 6, []), (100, 6, []), (100, 6, []), (100, 6, []), (100, 216, []), (100, 216, []), (100, 36, []), (3, 2, [23]), (100, 6, []), (3, 2, [25]), (100, 6, []), (3, 2, [27]), (100, 6, []), (4, 8, [5, 9, 13, 29, 30, 31, 32]), (100, 12, []), (100, 12, []), (100, 12, []), (100, 12, []), (6, 7, []), (3, 2, [35]), (100, 6, [])]
def Sx66 (L : Nat) : vS := [(100, 4, []), (100, 4, []), (100, L, []), (8, 10, [5, 9, 13, 22, 24, 26, 28]), (1, 4, [6, 7, 8]), (100, 36, []), (100, 36, []), (100, 144, []), (5, 4, [10, 11, 12]), (100, 12, []), (100, 12, []), (100, 12, []), (0, 11, [5, 14, 15, 16, 17, 18, 19, 20, 21]), (101, 6, []), (100, 6, []), (100, 6, []), (100, 6, []), (100, 6, []), (100, 216, []), (100, 216, []), (100, 36, []), (3, 2, [23]), (100, 6, []), (3, 2, [25]), (100, 6, []), (3, 2, [27]), (100, 6, []), (4, 8, [5, 9, 13, 29, 30, 31, 32]), (100, 12, []), (100, 12, []), (100, 12, []), (100, 12, []), (6, 7, [0, 0, 34]), (3, 2, [35]), (100, 6, [])]
def Sx67 (L : Nat) : vS := [(100, 4, []), (100, 4, []), (100, L, []), (8, 10, [5, 9, 13, 22, 24, 26, 28]), (1, 4, [6, 7, 8]), (100, 36, []), (100, 36, []), (100, 144, []), (5, 4, [10, 11, 12]), (100, 12, []), (100, 12, []), (100, 12, []), (0, 11, [5, 14, 15, 16, 17, 18, 19, 20, 21]), (101, 6, []), (100, 6, []), (100, 6, []), (100, 6, []), (100, 6, []), (100, 216, []), (100, 216, []), (100, 36, []), (3, 2, [23]), (100, 6, []), (3, 2, [25]), (100, 6, []), (3, 2, [27]), (100, 6, []), (4, 8, [5, 9, 13, 29, 30, 31, 32]), (100, 12, []), (100, 12, []), (100, 12, []), (100, 12, []), (6, 7, [0, 0, 34]), (3, 2, [35]), (100, 6, []), (3, 2, [])]
def Sx68 (L : Nat) : vS := [(100, 4, []), (100, 4, []), (100, L, []), (8, 10, [5, 9, 13, 22, 24, 26, 28]), (1, 4, [6, 7, 8]), (100, 36, []), (100, 36, []), (100, 144, []), (5, 4, [10, 11, 12]), (100, 12, []), (100, 12, []), (100, 12, []), (0, 11, [5, 14, 15, 16, 17, 18, 19, 20, 21]), (101, 6, []), (100, 6, []), (100, 6, []), (100, 6, []), (100, 6, []), (100, 216, []), (100, 216, []), (100, 36, []), (3, 2, [23]), (100, 6, []), (3, 2, [25]), (100, 6, []), (3, 2, [27]), (100, 6, []), (4, 8, [5, 9, 13, 29, 30, 31, 32]), (100, 12, []), (100, 12, []), (100, 12, []), (100, 12, []), (6, 7, [0, 0, 34]), (3, 2, [35]), (100, 6, []), (3, 2, []), (100, 6, [])]
def Sx69 (L : Nat) : vS := [(100, 4, []), (100, 4, []), (100, L, []), (8, 10, [5, 9, 13, 22, 24, 26, 28]), (1, 4, [6, 7, 8]), (100, 36, []), (100, 36, []), (100, 144, []), (5, 4, [10, 11, 12]), (100, 12, []), (100, 12, []), (100, 12, []), (0, 11, [5, 14, 15, 16, 17, 18, 19, 20, 21]), (101, 6, []), (100, 6, []), (100, 6, []), (100, 6, []), (100, 6, []), (100, 216, []), (100, 216, []), (100, 36, []), (3, 2, [23]), (100, 6, []), (3, 2, [25]), (100, 6, []), (3, 2, [27]), (100, 6, []), (4, 8, [5, 9, 13, 29, 30, 31, 32]), (100, 12, []), (100, 12, []), (100, 12, []), (100, 12, []), (6, 7, [0, 0, 34]), (3, 2, [35]), (100, 6, []), (3, 2, [37]), (100, 6, [])]
def Sx70 (L : Nat) : vS := [(100, 4, []), (100, 4, []), (100, L, []), (8, 10, [5, 9, 13, 22, 24, 26, 28]), (1, 4, [6, 7, 8]), (100, 36, []), (100, 36, []), (100, 144, []), (5, 4, [10, 11, 12]), (100, 12, []), (100, 12, []), (100, 12, []), (0, 11, [5, 14, 15, 16, 17, 18, 19, 20, 21]), (101, 6, []), (100, 6, []), (100, 6, []), (100, 6, []), (100, 6, []), (100, 216, []), (100, 216, []), (100, 36, []), (3, 2, [23]), (100, 6, []), (3, 2, [25]), (100, 6, []), (3, 2, [27]), (100, 6, []), (4, 8, [5, 9, 13, 29, 30, 31, 32]), (100, 12, []), (100, 12, []), (100, 12, []), (100, 12, []), (6, 7, [0, 0, 34, 36]), (3, 2, [35]), (100, 6, []), (3, 2, [37]), (100, 6, [])]
def Sx71 (L : Nat) : vS := [(100, 4, []), (100, 4, []), (100, L, []), (8, 10, [5, 9, 13, 22, 24, 26, 28]), (1, 4, [6, 7, 8]), (100, 36, []), (100, 36, []), (100, 144, []), (5, 4, [10, 11, 12]), (100, 12, []), (100, 12, []), (100, 12, []), (0, 11, [5, 14, 15, 16, 17, 18, 19, 20, 21]), (101, 6, []), (100, 6, []), (100, 6, []), (100, 6, []), (100, 6, []), (100, 216, []), (100, 216, []), (100, 36, []), (3, 2, [23]), (100, 6, []), (3, 2, [25]), (100, 6, []), (3, 2, [27]), (100, 6, []), (4, 8, [5, 9, 13, 29, 30, 31, 32]), (100, 12, []), (100, 12, []), (100, 12, []), (100, 12, []), (6, 7, [13, 0, 34, 36]), (3, 2, [35]), (100, 6, []), (3, 2, [37]), (100, 6, [])]
def Sx72 (L : Nat) : vS := [(100, 4, []), (100, 4, []), (100, L, []), (8, 10, [5, 9, 13, 22, 24, 26, 28]), (1, 4, [6, 7, 8]), (100, 36, []), (100, 36, []), (100, 144, []), (5, 4, [10, 11, 12]), (100, 12, []), (100, 12, []), (100, 12, []), (0, 11, [5, 14, 15, 16, 17, 18, 19, 20, 21]), (101, 6, []), (100, 6, []), (100, 6, []), (100, 6, []), (100, 6, []), (100, 216, []), (100, 216, []), (100, 36, []), (3, 2, [23]), (100, 6, []), (3, 2, [25]), (100, 6, []), (3, 2, [27]), (100, 6, []), (4, 8, [5, 9, 13, 29, 30, 31, 32]), (100, 12, []), (100, 12, []), (100, 12, []), (100, 12, []), (6, 7, [13, 28, 34, 36]), (3, 2, [35]), (100, 6, []), (3, 2, [37]), (100, 6, [])]
def Sx73 (L : Nat) : vS := [(100, 4, []), (100, 4, []), (100, L, []), (8, 10, [5, 9, 13, 22, 24, 26, 28, 33]), (1, 4, [6, 7, 8]), (100, 36, []), (100, 36, []), (100, 144, []), (5, 4, [10, 11, 12]), (100, 12, []), (100, 12, []), (100, 12, []), (0, 11, [5, 14, 15, 16, 17, 18, 19, 20, 21]), (101, 6, []), (100, 6, []), (100, 6, []), (100, 6, []), (100, 6, []), (100, 216, []), (100, 216, []), (100, 36, []), (3, 2, [23]), (100, 6, []), (3, 2, [25]), (100, 6, []), (3, 2, [27]), (100, 6, []), (4, 8, [5, 9, 13, 29, 30, 31, 32]), (100, 12, []), (100, 12, []), (100, 12, []), (100, 12, []), (6, 7, [13, 28, 34, 36]), (3, 2, [35]), (100, 6, []), (3, 2, [37]), (100, 6, [])]
def Sx74 (L : Nat) : vS := [(100, 4, []), (100, 4, []), (100, L, []), (8, 10, [5, 9, 13, 22, 24, 26, 28, 33]), (1, 4, [6, 7, 8]), (100, 36, []), (100, 36, []), (100, 144, []), (5, 4, [10, 11, 12]), (100, 12, []), (100, 12, []), (100, 12, []), (0, 11, [5, 14, 15, 16, 17, 18, 19, 20, 21]), (101, 6, []), (100, 6, []), (100, 6, []), (100, 6, []), (100, 6, []), (100, 216, []), (100, 216, []), (100, 36, []), (3, 2, [23]), (100, 6, []), (3, 2, [25]), (100, 6, []), (3, 2, [27]), (100, 6, []), (4, 8, [5, 9, 13, 29, 30, 31, 32]), (100, 12, []), (100, 12, []), (100, 12, []), (100, 12, []), (6, 7, [13, 28, 34, 36]), (3, 2, [35]), (100, 6, []), (3, 2, [37]), (100, 6, []), (7, 3, [])]
def Sx75 (L : Nat) : vS := [(100, 4, []), (100, 4, []), (100, L, []), (8, 10, [5, 9, 13, 22, 24, 26, 28, 33]), (1, 4, [6, 7, 8]), (100, 36, []), (100, 36, []), (100, 144, []), (5, 4, [10, 11, 12]), (100, 12, []), (100, 12, []), (100, 12, []), (0, 11, [5, 14, 15, 16, 17, 18, 19, 20, 21]), (101, 6, []), (100, 6, []), (100, 6, []), (100, 6, []), (100, 6, []), (100, 216, []), (100, 216, []), (100, 36, []), (3, 2, [23]), (100, 6, []), (3, 2, [25]), (100, 6, []), (3, 2, [27]), (100, 6, []), (4, 8, [5, 9, 13, 29, 30, 31, 32]), (100, 12, []), (100, 12, []), (100, 12, []), (100, 12, []), (6, 7, [13, 28, 34, 36]), (3, 2, [35]), (100, 6, []), (3, 2, [37]), (100, 6, []), (7, 3, []), (100, 36, [])]
def Sx76 (L : Nat) : vS := [(100, 4, []), (100, 4, []), (100, L, []), (8, 10, [5, 9, 13, 22, 24, 26, 28, 33]), (1, 4, [6, 7, 8]), (100, 36, []), (100, 36, []), (100, 144, []), (5, 4, [10, 11, 12]), (100, 12, []), (100, 12, []), (100, 12, []), (0, 11, [5, 14, 15, 16, 17, 18, 19, 20, 21]), (101, 6, []), (100, 6, []), (100, 6, []), (100, 6, []), (100, 6, []), (100, 216, []), (100, 216, []), (100, 36, []), (3, 2, [23]), (100, 6, []), (3, 2, [25]), (100, 6, []), (3, 2, [27]), (100, 6, []), (4, 8, [5, 9, 13, 29, 30, 31, 32]), (100, 12, []), (100, 12, []), (100, 12, []), (100, 12, []), (6, 7, [13, 28, 34, 36]), (3, 2, [35]), (100, 6, []), (3, 2, [37]), (100, 6, []), (7, 3, [0, 0, 39]), (100, 36, [])]
def Sx77 (L : Nat) : vS := [(100, 4, []), (100, 4, []), (100, L, []), (8, 10, [5, 9, 13, 22, 24, 26, 28, 33]), (1, 4, [6, 7, 8]), (100, 36, []), (100, 36, []), (100, 144, []), (5, 4, [10, 11, 12]), (100, 12, []), (100, 12, []), (100, 12, []), (0, 11, [5, 14, 15, 16, 17, 18, 19, 20, 21]), (101, 6, []), (100, 6, []), (100, 6, []), (100, 6, []), (100, 6, []), (100, 216, []), (100, 216, []), (100, 36, []), (3, 2, [23]), (100, 6, []), (3, 2, [25]), (100, 6, []), (3, 2, [27]), (100, 6, []), (4, 8, [5, 9, 13, 29, 30, 31, 32]), (100, 12, []), (100, 12, []), (100, 12, []), (100, 12, []), (6, 7, [13, 28, 34, 36]), (3, 2, [35]), (100, 6, []), (3, 2, [37]), (100, 6, []), (7, 3, [5, 0, 39]), (100, 36, [])]
def Sx78 (L : Nat) : vS := [(100, 4, []), (100, 4, []), (100, L, []), (8, 10, [5, 9, 13, 22, 24, 26, 28, 33]), (1, 4, [6, 7, 8]), (100, 36, []), (100, 36, []), (100, 144, []), (5, 4, [10, 11, 12]), (100, 12, []), (100, 12, []), (100, 12, []), (0, 11, [5, 14, 15, 16, 17, 18, 19, 20, 21]), (101, 6, []), (100, 6, []), (100, 6, []), (100, 6, []), (100, 6, []), (100, 216, []), (100, 216, []), (100, 36, []), (3, 2, [23]), (100, 6, []), (3, 2, [25]), (100, 6, []), (3, 2, [27]), (100, 6, []), (4, 8, [5, 9, 13, 29, 30, 31, 32]), (100, 12, []), (100, 12, []), (100, 12, []), (100, 12, []), (6, 7, [13, 28, 34, 36]), (3, 2, [35]), (100, 6, []), (3, 2, [37]), (100, 6, []), (7, 3, [5, 13, 39]), (100, 36, [])]
def Sx79 (L : Nat) : vS := [(100, 4, []), (100, 4, []), (100, L, []), (8, 10, [5, 9, 13, 22, 24, 26, 28, 33, 38]), (1, 4, [6, 7, 8]), (100, 36, []), (100, 36, []), (100, 144, []), (5, 4, [10, 11, 12]), (100, 12, []), (100, 12, []), (100, 12, []), (0, 11, [5, 14, 15, 16, 17, 18, 19, 20, 21]), (101, 6, []), (100, 6, []), (100, 6, []), (100, 6, []), (100, 6, []), (100, 216, []), (100, 216, []), (100, 36, []), (3, 2, [23]), (100, 6, []), (3, 2, [25]), (100, 6, []), (3, 2, [27]), (100, 6, []), (4, 8, [5, 9, 13, 29, 30, 31, 32]), (100, 12, []), (100, 12, []), (100, 12, []), (100, 12, []), (6, 7, [13, 28, 34, 36]), (3, 2, [35]), (100, 6, []), (3, 2, [37]), (100, 6, []), (7, 3, [5, 13, 39]), (100, 36, [])]
def Sx80 (L : Nat) : vS := [(100, 4, []), (100, 4, []), (100, L, []), (8, 10, [5, 9, 13, 22, 24, 26, 28, 33, 38]), (1, 4, [6, 7, 8]), (100, 36, []), (100, 36, []), (100, 144, []), (5, 4, [10, 11, 12]), (100, 12, []), (100, 12, []), (100, 12, []), (0, 11, [5, 14, 15, 16, 17, 18, 19, 20, 21]), (101, 6, []), (100, 6, []), (100, 6, []), (100, 6, []), (100, 6, []), (100, 216, []), (100, 216, []), (100, 36, []), (3, 2, [23]), (100, 6, []), (3, 2, [25]), (100, 6, []), (3, 2, [27]), (100, 6, []), (4, 8, [5, 9, 13, 29, 30, 31, 32]), (100, 12, []), (100, 12, []), (100, 12, []), (100, 12, []), (6, 7, [13, 28, 34, 36]), (3, 2, [35]), (100, 6, []), (3, 2, [37]), (100, 6, []), (7, 3, [5, 13, 39]), (100, 36, []), (2, 5, [])]
def Sx81 (L : Nat) : vS := [(100, 4, []), (100, 4, []), (100, L, []), (8, 10, [5, 9, 13, 22, 24, 26, 28, 33, 38]), (1, 4, [6, 7, 8]), (100, 36, []), (100, 36, []), (100, 144, []), (5, 4, [10, 11, 12]), (100, 12, []), (100, 12, []), (100, 12, []), (0, 11, [5, 14, 15, 16, 17, 18, 19, 20, 21]), (101, 6, []), (100, 6, []), (100, 6, []), (100, 6, []), (100, 6, []), (100, 216, []), (100, 216, []), (100, 36, []), (3, 2, [23]), (100, 6, []), (3, 2, [25]), (100, 6, []), (3, 2, [27]), (100, 6, []), (4, 8, [5, 9, 13, 29, 30, 31, 32]), (100, 12, []), (100, 12, []), (100, 12, []), (100, 12, []), (6, 7, [13, 28, 34, 36]), (3, 2, [35]), (100, 6, []), (3, 2, [37]), (100, 6, []), (7, 3, [5, 13, 39]), (100, 36, []), (2, 5, []), (100, 10, [])]
def Sx82 (L : Nat) : vS := [(100, 4, []), (100, 4, []), (100, L, []), (8, 10, [5, 9, 13, 22, 24, 26, 28, 33, 38]), (1, 4, [6, 7, 8]), (100, 36, []), (100, 36, []), (100, 144, []), (5, 4, [10, 11, 12]), (100, 12, []), (100, 12, []), (100, 12, []), (0, 11, [5, 14, 15, 16, 17, 18, 19, 20, 21]), (101, 6, []), (100, 6, []), (100, 6, []), (100, 6, []), (100, 6, []), (100, 216, []), (100, 216, []), (100, 36, []), (3, 2, [23]), (100, 6, []), (3, 2, [25]), (100, 6, []), (3, 2, [27]), (100, 6, []), (4, 8, [5, 9, 13, 29, 30, 31, 32]), (100, 12, []), (100, 12, []), (100, 12, []), (100, 12, []), (6, 7, [13, 28, 34, 36]), (3, 2, [35]), (100, 6, []), (3, 2, [37]), (100, 6, []), (7, 3, [5, 13, 39]), (100, 36, []), (2, 5, [41]), (100, 10, [])]
def Sx83 (L : Nat) : vS := [(100, 4, []), (100, 4, []), (100, L, []), (8, 10, [5, 9, 13, 22, 24, 26, 28, 33, 38]), (1, 4, [6, 7, 8]), (100, 36, []), (100, 36, []), (100, 144, []), (5, 4, [10, 11, 12]), (100, 12, []), (100, 12, []), (100, 12, []), (0, 11, [5, 14, 15, 16, 17, 18, 19, 20, 21]), (101, 6, []), (100, 6, []), (100, 6, []), (100, 6, []), (100, 6, []), (100, 216, []), (100, 216, []), (100, 36, []), (3, 2, [23]), (100, 6, []), (3, 2, [25]), (100, 6, []), (3, 2, [27]), (100, 6, []), (4, 8, [5, 9, 13, 29, 30, 31, 32]), (100, 12, []), (100, 12, []), (100, 12, []), (100, 12, []), (6, 7, [13, 28, 34, 36]), (3, 2, [35]), (100, 6, []), (3, 2, [37]), (100, 6, []), (7, 3, [5, 13, 39]), (100, 36, []), (2, 5, [41]), (100, 10, []), (100, 10, [])]
def Sx84 (L : Nat) : vS := [(100, 4, []), (100, 4, []), (100, L, []), (8, 10, [5, 9, 13, 22, 24, 26, 28, 33, 38]), (1, 4, [6, 7, 8]), (100, 36, []), (100, 36, []), (100, 144, []), (5, 4, [10, 11, 12]), (100, 12, []), (100, 12, []), (100, 12, []), (0, 11, [5, 14, 15, 16, 17, 18, 19, 20, 21]), (101, 6, []), (100, 6, []), (100, 6, []), (100, 6, []), (100, 6, []), (100, 216, []), (100, 216, []), (100, 36, []), (3, 2, [23]), (100, 6, []), (3, 2, [25]), (100, 6, []), (3, 2, [27]), (100, 6, []), (4, 8, [5, 9, 13, 29, 30, 31, 32]), (100, 12, []), (100, 12, []), (100, 12, []), (100, 12, []), (6, 7, [13, 28, 34, 36]), (3, 2, [35]), (100, 6, []), (3, 2, [37]), (100, 6, []), (7, 3, [5, 13, 39]), (100, 36, []), (2, 5, [41, 42]), (100, 10, []), (100, 10, [])]
def Sx85 (L : Nat) : vS := [(100, 4, []), (100, 4, []), (100, L, []), (8, 10, [5, 9, 13, 22, 24, 26, 28, 33, 38, 40]), (1, 4, [6, 7, 8]), (100, 36, []), (100, 36, []), (100, 144, []), (5, 4, [10, 11, 12]), (100, 12, []), (100, 12, []), (100, 12, []), (0, 11, [5, 14, 15, 16, 17, 18, 19, 20, 21]), (101, 6, []), (100, 6, []), (100, 6, []), (100, 6, []), (100, 6, []), (100, 216, []), (100, 216, []), (100, 36, []), (3, 2, [23]), (100, 6, []), (3, 2, [25]), (100, 6, []), (3, 2, [27]), (100, 6, []), (4, 8, [5, 9, 13, 29, 30, 31, 32]), (100, 12, []), (100, 12, []), (100, 12, []), (100, 12, []), (6, 7, [13, 28, 34, 36]), (3, 2, [35]), (100, 6, []), (3, 2, [37]), (100, 6, []), (7, 3, [5, 13, 39]), (100, 36, []), (2, 5, [41, 42]), (100, 10, []), (100, 10, [])]
def Sx86 (L : Nat) : vS := [(100, 4, []), (100, 4, []), (100, L, []), (8, 10, [5, 9, 13, 22, 24, 26, 28, 33, 38, 40]), (1, 4, [6, 7, 8]), (100, 36, []), (100, 36, []), (100, 144, []), (5, 4, [10, 11, 12]), (100, 12, []), (100, 12, []), (100, 12, []), (0, 11, [5, 14, 15, 16, 17, 18, 19, 20, 21]), (101, 6, []), (100, 6, []), (100, 6, []), (100, 6, []), (100, 6, []), (100, 216, []), (100, 216, []), (100, 36, []), (3, 2, [23]), (100, 6, []), (3, 2, [25]), (100, 6, []), (3, 2, [27]), (100, 6, []), (4, 8, [5, 9, 13, 29, 30, 31, 32]), (100, 12, []), (100, 12, []), (100, 12, []), (100, 12, []), (6, 7, [13, 28, 34, 36]), (3, 2, [35]), (100, 6, []), (3, 2, [37]), (100, 6, []), (7, 3, [5, 13, 39]), (100, 36, []), (2, 5, [41, 42]), (100, 10, []), (100, 10, []), (9, 33, [])]
def Sx87 (L : Nat) : vS := [(100, 4, []), (100, 4, []), (100, L, []), (8, 10, [5, 9, 13, 22, 24, 26, 28, 33, 38, 40]), (1, 4, [6, 7, 8]), (100, 36, []), (100, 36, []), (100, 144, []), (5, 4, [10, 11, 12]), (100, 12, []), (100, 12, []), (100, 12, []), (0, 11, [5, 14, 15, 16, 17, 18, 19, 20, 21]), (101, 6, []), (100, 6, []), (100, 6, []), (100, 6, []), (100, 6, []), (100, 216, []), (100, 216, []), (100, 36, []), (3, 2, [23]), (100, 6, []), (3, 2, [25]), (100, 6, []), (3, 2, [27]), (100, 6, []), (4, 8, [5, 9, 13, 29, 30, 31, 32]), (100, 12, []), (100, 12, []), (100, 12, []), (100, 12, []), (6, 7, [13, 28, 34, 36]), (3, 2, [35]), (100, 6, []), (3, 2, [37]), (100, 6, []), (7, 3, [5, 13, 39]), (100, 36, []), (2, 5, [41, 42]), (100, 10, []), (100, 10, []), (9, 33, []), (100, 36, [])]
def Sx88 (L : Nat) : vS := [(100, 4, []), (100, 4, []), (100, L, []), (8, 10, [5, 9, 13, 22, 24, 26, 28, 33, 38, 40]), (1, 4, [6, 7, 8]), (100, 36, []), (100, 36, []), (100, 144, []), (5, 4, [10, 11, 12]), (100, 12, []), (100, 12, []), (100, 12, []), (0, 11, [5, 14, 15, 16, 17, 18, 19, 20, 21]), (101, 6, []), (100, 6, []), (100, 6, []), (100, 6, []), (100, 6, []), (100, 216, []), (100, 216, []), (100, 36, []), (3, 2, [23]), (100, 6, []), (3, 2, [25]), (100, 6, []), (3, 2, [27]), (100, 6, []), (4, 8, [5, 9, 13, 29, 30, 31, 32]), (100, 12, []), (100, 12, []), (100, 12, []), (100, 12, []), (6, 7, [13, 28, 34, 36]), (3, 2, [35]), (100, 6, []), (3, 2, [37]), (100, 6, []), (7, 3, [5, 13, 39]), (100, 36, []), (2, 5, [41, 42]), (100, 10, []), (100, 10, []), (9, 33, [0, 0, 44]), (100, 36, [])]
def Sx89 (L : Nat) : vS := [(100, 4, []), (100, 4, []), (100, L, []), (8, 10, [5, 9, 13, 22, 24, 26, 28, 33, 38, 40]), (1, 4, [6, 7, 8]), (100, 36, []), (100, 36, []), (100, 144, []), (5, 4, [10, 11, 12]), (100, 12, []), (100, 12, []), (100, 12, []), (0, 11, [5, 14, 15, 16, 17, 18, 19, 20, 21]), (101, 6, []), (100, 6, []), (100, 6, []), (100, 6, []), (100, 6, []), (100, 216, []), (100, 216, []), (100, 36, []), (3, 2, [23]), (100, 6, []), (3, 2, [25]), (100, 6, []), (3, 2, [27]), (100, 6, []), (4, 8, [5, 9, 13, 29, 30, 31, 32]), (100, 12, []), (100, 12, []), (100, 12, []), (100, 12, []), (6, 7, [13, 28, 34, 36]), (3, 2, [35]), (100, 6, []), (3, 2, [37]), (100, 6, []), (7, 3, [5, 13, 39]), (100, 36, []), (2, 5, [41, 42]), (100, 10, []), (100, 10, []), (9, 33, [0, 0, 44]), (100, 36, []), (100, 36, [])]
def Sx90 (L : Nat) : vS := [(100, 4, []), (100, 4, []), (100, L, []), (8, 10, [5, 9, 13, 22, 24, 26, 28, 33, 38, 40]), (1, 4, [6, 7, 8]), (100, 36, []), (100, 36, []), (100, 144, []), (5, 4, [10, 11, 12]), (100, 12, []), (100, 12, []), (100, 12, []), (0, 11, [5, 14, 15, 16, 17, 18, 19, 20, 21]), (101, 6, []), (100, 6, []), (100, 6, []), (100, 6, []), (100, 6, []), (100, 216, []), (100, 216, []), (100, 36, []), (3, 2, [23]), (100, 6, []), (3, 2, [25]), (100, 6, []), (3, 2, [27]), (100, 6, []), (4, 8, [5, 9, 13, 29, 30, 31, 32]), (100, 12, []), (100, 12, []), (100, 12, []), (100, 12, []), (6, 7, [13, 28, 34, 36]), (3, 2, [35]), (100, 6, []), (3, 2, [37]), (100, 6, []), (7, 3, [5, 13, 39]), (100, 36, []), (2, 5, [41, 42]), (100, 10, []), (100, 10, []), (9, 33, [0, 0, 44, 45]), (100, 36, []), (100, 36, [])]
def Sx91 (L : Nat) : vS := [(100, 4, []), (100, 4, []), (100, L, []), (8, 10, [5, 9, 13, 22, 24, 26, 28, 33, 38, 40]), (1, 4, [6, 7, 8]), (100, 36, []), (100, 36, []), (100, 144, []), (5, 4, [10, 11, 12]), (100, 12, []), (100, 12, []), (100, 12, []), (0, 11, [5, 14, 15, 16, 17, 18, 19, 20, 21]), (101, 6, []), (100, 6, []), (100, 6, []), (100, 6, []), (100, 6, []), (100, 216, []), (100, 216, []), (100, 36, []), (3, 2, [23]), (100, 6, []), (3, 2, [25]), (100, 6, []), (3, 2, [27]), (100, 6, []), (4, 8, [5, 9, 13, 29, 30, 31, 32]), (100, 12, []), (100, 12, []), (100, 12, []), (100, 12, []), (6, 7, [13, 28, 34, 36]), (3, 2, [35]), (100, 6, []), (3, 2, [37]), (100, 6, []), (7, 3, [5, 13, 39]), (100, 36, []), (2, 5, [41, 42]), (100, 10, []), (100, 10, []), (9, 33, [0, 0, 44, 45]), (100, 36, []), (100, 36, []), (100, 12, [])]
def Sx92 (L : Nat) : vS := [(100, 4, []), (100, 4, []), (100, L, []), (8, 10, [5, 9, 13, 22, 24, 26, 28, 33, 38, 40]), (1, 4, [6, 7, 8]), (100, 36, []), (100, 36, []), (100, 144, []), (5, 4, [10, 11, 12]), (100, 12, []), (100, 12, []), (100, 12, []), (0, 11, [5, 14, 15, 16, 17, 18, 19, 20, 21]), (101, 6, []), (100, 6, []), (100, 6, []), (100, 6, []), (100, 6, []), (100, 216, []), (100, 216, []), (100, 36, []), (3, 2, [23]), (100, 6, []), (3, 2, [25]), (100, 6, []), (3, 2, [27]), (100, 6, []), (4, 8, [5, 9, 13, 29, 30, 31, 32]), (100, 12, []), (100, 12, []), (100, 12, []), (100, 12, []), (6, 7, [13, 28, 34, 36]), (3, 2, [35]), (100, 6, []), (3, 2, [37]), (100, 6, []), (7, 3, [5, 13, 39]), (100, 36, []), (2, 5, [41, 42]), (100, 10, []), (100, 10, []), (9, 33, [0, 0, 44, 45, 0, 46]), (100, 36, []), (100, 36, []), (100, 12, [])]
def Sx93 (L : Nat) : vS := [(100, 4, []), (100, 4, []), (100, L, []), (8, 10, [5, 9, 13, 22, 24, 26, 28, 33, 38, 40]), (1, 4, [6, 7, 8]), (100, 36, []), (100, 36, []), (100, 144, []), (5, 4, [10, 11, 12]), (100, 12, []), (100, 12, []), (100, 12, []), (0, 11, [5, 14, 15, 16, 17, 18, 19, 20, 21]), (101, 6, []), (100, 6, []), (100, 6, []), (100, 6, []), (100, 6, []), (100, 216, []), (100, 216, []), (100, 36, []), (3, 2, [23]), (100, 6, []), (3, 2, [25]), (100, 6, []), (3, 2, [27]), (100, 6, []), (4, 8, [5, 9, 13, 29, 30, 31, 32]), (100, 12, []), (100, 12, []), (100, 12, []), (100, 12, []), (6, 7, [13, 28, 34, 36]), (3, 2, [35]), (100, 6, []), (3, 2, [37]), (100, 6, []), (7, 3, [5, 13, 39]), (100, 36, []), (2, 5, [41, 42]), (100, 10, []), (100, 10, []), (9, 33, [0, 0, 44, 45, 0, 46]), (100, 36, []), (100, 36, []), (100, 12, []), (100, 12, [])]
def Sx94 (L : Nat) : vS := [(100, 4, []), (100, 4, []), (100, L, []), (8, 10, [5, 9, 13, 22, 24, 26, 28, 33, 38, 40]), (1, 4, [6, 7, 8]), (100, 36, []), (100, 36, []), (100, 144, []), (5, 4, [10, 11, 12]), (100, 12, []), (100, 12, []), (100, 12, []), (0, 11, [5, 14, 15, 16, 17, 18, 19, 20, 21]), (101, 6, []), (100, 6, []), (100, 6, []), (100, 6, []), (100, 6, []), (100, 216, []), (100, 216, []), (100, 36, []), (3, 2, [23]), (100, 6, []), (3, 2, [25]), (100, 6, []), (3, 2, [27]), (100, 6, []), (4, 8, [5, 9, 13, 29, 30, 31, 32]), (100, 12, []), (100, 12, []), (100, 12, []), (100, 12, []), (6, 7, [13, 28, 34, 36]), (3, 2, [35]), (100, 6, []), (3, 2, [37]), (100, 6, []), (7, 3, [5, 13, 39]), (100, 36, []), (2, 5, [41, 42]), (100, 10, []), (100, 10, []), (9, 33, [0, 0, 44, 45, 0, 46, 47]), (100, 36, []), (100, 36, []), (100, 12, []), (100, 12, [])]
def Sx95 (L : Nat) : vS := [(100, 4, []), (100, 4, []), (100, L, []), (8, 10, [5, 9, 13, 22, 24, 26, 28, 33, 38, 40]), (1, 4, [6, 7, 8]), (100, 36, []), (100, 36, []), (100, 144, []), (5, 4, [10, 11, 12]), (100, 12, []), (100, 12, []), (100, 12, []), (0, 11, [5, 14, 15, 16, 17, 18, 19, 20, 21]), (101, 6, []), (100, 6, []), (100, 6, []), (100, 6, []), (100, 6, []), (100, 216, []), (100, 216, []), (100, 36, []), (3, 2, [23]), (100, 6, []), (3, 2, [25]), (100, 6, []), (3, 2, [27]), (100, 6, []), (4, 8, [5, 9, 13, 29, 30, 31, 32]), (100, 12, []), (100, 12, []), (100, 12, []), (100, 12, []), (6, 7, [13, 28, 34, 36]), (3, 2, [35]), (100, 6, []), (3, 2, [37]), (100, 6, []), (7, 3, [5, 13, 39]), (100, 36, []), (2, 5, [41, 42]), (100, 10, []), (100, 10, []), (9, 33, [0, 0, 44, 45, 0, 46, 47]), (100, 36, []), (100, 36, []), (100, 12, []), (100, 12, []), (100, 12, [])]
def Sx96 (L : Nat) : vS := [(100, 4, []), (100, 4, []), (100, L, []), (8, 10, [5, 9, 13, 22, 24, 26, 28, 33, 38, 40]), (1, 4, [6, 7, 8]), (100, 36, []), (100, 36, []), (100, 144, []), (5, 4, [10, 11, 12]), (100, 12, []), (100, 12, []), (100, 12, []), (0, 11, [5, 14, 15, 16, 17, 18, 19, 20, 21]), (101, 6, []), (100, 6, []), (100, 6, []), (100, 6, []), (100, 6, []), (100, 216, []), (100, 216, []), (100, 36, []), (3, 2, [23]), (100, 6, []), (3, 2, [25]), (100, 6, []), (3, 2, [27]), (100, 6, []), (4, 8, [5, 9, 13, 29, 30, 31, 32]), (100, 12, []), (100, 12, []), (100, 12, []), (100, 12, []), (6, 7, [13, 28, 34, 36]), (3, 2, [35]), (100, 6, []), (3, 2, [37]), (100, 6, []), (7, 3, [5, 13, 39]), (100, 36, []), (2, 5, [41, 42]), (100, 10, []), (100, 10, []), (9, 33, [0, 0, 44, 45, 0, 46, 47, 48]), (100, 36, []), (100, 36, []), (100, 12, []), (100, 12, []), (100, 12, [])]
def Sx97 (L : Nat) : vS := [(100, 4, []), (100, 4, []), (100, L, []), (8, 10, [5, 9, 13, 22, 24, 26, 28, 33, 38, 40]), (1, 4, [6, 7, 8]), (100, 36, []), (100, 36, []), (100, 144, []), (5, 4, [10, 11, 12]), (100, 12, []), (100, 12, []), (100, 12, []), (0, 11, [5, 14, 15, 16, 17, 18, 19, 20, 21]), (101, 6, []), (100, 6, []), (100, 6, []), (100, 6, []), (100, 6, []), (100, 216, []), (100, 216, []), (100, 36, []), (3, 2, [23]), (100, 6, []), (3, 2, [25]), (100, 6, []), (3, 2, [27]), (100, 6, []), (4, 8, [5, 9, 13, 29, 30, 31, 32]), (100, 12, []), (100, 12, []), (100, 12, []), (100, 12, []), (6, 7, [13, 28, 34, 36]), (3, 2, [35]), (100, 6, []), (3, 2, [37]), (100, 6, []), (7, 3, [5, 13, 39]), (100, 36, []), (2, 5, [41, 42]), (100, 10, []), (100, 10, []), (9, 33, [0, 0, 44, 45, 0, 46, 47, 48]), (100, 36, []), (100, 36, []), (100, 12, []), (100, 12, []), (100, 12, []), (101, 6, [])]
def Sx98 (L : Nat) : vS := [(100, 4, []), (100, 4, []), (100, L, []), (8, 10, [5, 9, 13, 22, 24, 26, 28, 33, 38, 40]), (1, 4, [6, 7, 8]), (100, 36, []), (100, 36, []), (100, 144, []), (5, 4, [10, 11, 12]), (100, 12, []), (100, 12, []), (100, 12, []), (0, 11, [5, 14, 15, 16, 17, 18, 19, 20, 21]), (101, 6, []), (100, 6, []), (100, 6, []), (100, 6, []), (100, 6, []), (100, 216, []), (100, 216, []), (100, 36, []), (3, 2, [23]), (100, 6, []), (3, 2, [25]), (100, 6, []), (3, 2, [27]), (100, 6, []), (4, 8, [5, 9, 13, 29, 30, 31, 32]), (100, 12, []), (100, 12, []), (100, 12, []), (100, 12, []), (6, 7, [13, 28, 34, 36]), (3, 2, [35]), (100, 6, []), (3, 2, [37]), (100, 6, []), (7, 3, [5, 13, 39]), (100, 36, []), (2, 5, [41, 42]), (100, 10, []), (100, 10, []), (9, 33, [0, 0, 44, 45, 0, 46, 47, 48, 0, 49]), (100, 36, []), (100, 36, []), (100, 12, []), (100, 12, []), (100, 12, []), (101, 6, [])]
def Sx99 (L : Nat) : vS := [(100, 4, []), (100, 4, []), (100, L, []), (8, 10, [5, 9, 13, 22, 24, 26, 28, 33, 38, 40]), (1, 4, [6, 7, 8]), (100, 36, []), (100, 36, []), (100, 144, []), (5, 4, [10, 11, 12]), (100, 12, []), (100, 12, []), (100, 12, []), (0, 11, [5, 14, 15, 16, 17, 18, 19, 20, 21]), (101, 6, []), (100, 6, []), (100, 6, []), (100, 6, []), (100, 6, []), (100, 216, []), (100, 216, []), (100, 36, []), (3, 2, [23]), (100, 6, []), (3, 2, [25]), (100, 6, []), (3, 2, [27]), (100, 6, []), (4, 8, [5, 9, 13, 29, 30, 31, 32]), (100, 12, []), (100, 12, []), (100, 12, []), (100, 12, []), (6, 7, [13, 28, 34, 36]), (3, 2, [35]), (100, 6, []), (3, 2, [37]), (100, 6, []), (7, 3, [5, 13, 39]), (100, 36, []), (2, 5, [41, 42]), (100, 10, []), (100, 10, []), (9, 33, [0, 0, 44, 45, 0, 46, 47, 48, 0, 49]), (100, 36, []), (100, 36, []), (100, 12, []), (100, 12, []), (100, 12, []), (101, 6, []), (100, 6, [])]
def Sx100 (L : Nat) : vS := [(100, 4, []), (100, 4, []), (100, L, []), (8, 10, [5, 9, 13, 22, 24, 26, 28, 33, 38, 40]), (1, 4, [6, 7, 8]), (100, 36, []), (100, 36, []), (100, 144, []), (5, 4, [10, 11, 12]), (100, 12, []), (100, 12, []), (100, 12, []), (0, 11, [5, 14, 15, 16, 17, 18, 19, 20, 21]), (101, 6, []), (100, 6, []), (100, 6, []), (100, 6, []), (100, 6, []), (100, 216, []), (100, 216, []), (100, 36, []), (3, 2, [23]), (100, 6, []), (3, 2, [25]), (100, 6, []), (3, 2, [27]), (100, 6, []), (4, 8, [5, 9, 13, 29, 30, 31, 32]), (100, 12, []), (100, 12, []), (100, 12, []), (100, 12, []), (6, 7, [13, 28, 34, 36]), (3, 2, [35]), (100, 6, []), (3, 2, [37]), (100, 6, []), (7, 3, [5, 13, 39]), (100, 36, []), (2, 5, [41, 42]), (100, 10, []), (100, 10, []), (9, 33, [0, 0, 44, 45, 0, 46, 47, 48, 0, 49, 50]), (100, 36, []), (100, 36, []), (100, 12, []), (100, 12, []), (100, 12, []), (101, 6, []), (100, 6, [])]
def Sx101 (L : Nat) : vS := [(100, 4, []), (100, 4, []), (100, L, []), (8, 10, [5, 9, 13, 22, 24, 26, 28, 33, 38, 40]), (1, 4, [6, 7, 8]), (100, 36, []), (100, 36, []), (100, 144, []), (5, 4, [10, 11, 12]), (100, 12, []), (100, 12, []), (100, 12, []), (0, 11, [5, 14, 15, 16, 17, 18, 19, 20, 21]), (101, 6, []), (100, 6, []), (100, 6, []), (100, 6, []), (100, 6, []), (100, 216, []), (100, 216, []), (100, 36, []), (3, 2, [23]), (100, 6, []), (3, 2, [25]), (100, 6, []), (3, 2, [27]), (100, 6, []), (4, 8, [5, 9, 13, 29, 30, 31, 32]), (100, 12, []), (100, 12, []), (100, 12, []), (100, 12, []), (6, 7, [13, 28, 34, 36]), (3, 2, [35]), (100, 6, []), (3, 2, [37]), (100, 6, []), (7, 3, [5, 13, 39]), (100, 36, []), (2, 5, [41, 42]), (100, 10, []), (100, 10, []), (9, 33, [0, 0, 44, 45, 0, 46, 47, 48, 0, 49, 50]), (100, 36, []), (100, 36, []), (100, 12, []), (100, 12, []), (100, 12, []), (101, 6, []), (100, 6, []), (100, 6, [])]
def Sx102 (L : Nat) : vS := [(100, 4, []), (100, 4, []), (100, L, []), (8, 10, [5, 9, 13, 22, 24, 26, 28, 33, 38, 40]), (1, 4, [6, 7, 8]), (100, 36, []), (100, 36, []), (100, 144, []), (5, 4, [10, 11, 12]), (100, 12, []), (100, 12, []), (100, 12, []), (0, 11, [5, 14, 15, 16, 17, 18, 19, 20, 21]), (101, 6, []), (100, 6, []), (100, 6, []), (100, 6, []), (100, 6, []), (100, 216, []), (100, 216, []), (100, 36, []), (3, 2, [23]), (100, 6, []), (3, 2, [25]), (100, 6, []), (3, 2, [27]), (100, 6, []), (4, 8, [5, 9, 13, 29, 30, 31, 32]), (100, 12, []), (100, 12, []), (100, 12, []), (100, 12, []), (6, 7, [13, 28, 34, 36]), (3, 2, [35]), (100, 6, []), (3, 2, [37]), (100, 6, []), (7, 3, [5, 13, 39]), (100, 36, []), (2, 5, [41, 42]), (100, 10, []), (100, 10, []), (9, 33, [0, 0, 44, 45, 0, 46, 47, 48, 0, 49, 50, 51]), (100, 36, []), (100, 36, []), (100, 12, []), (100, 12, []), (100, 12, []), (101, 6, []), (100, 6, []), (100, 6, [])]
def Sx103 (L : Nat) : vS := [(100, 4, []), (100, 4, []), (100, L, []), (8, 10, [5, 9, 13, 22, 24, 26, 28, 33, 38, 40]), (1, 4, [6, 7, 8]), (100, 36, []), (100, 36, []), (100, 144, []), (5, 4, [10, 11, 12]), (100, 12, []), (100, 12, []), (100, 12, []), (0, 11, [5, 14, 15, 16, 17, 18, 19, 20, 21]), (101, 6, []), (100, 6, []), (100, 6, []), (100, 6, []), (100, 6, []), (100, 216, []), (100, 216, []), (100, 36, []), (3, 2, [23]), (100, 6, []), (3, 2, [25]), (100, 6, []), (3, 2, [27]), (100, 6, []), (4, 8, [5, 9, 13, 29, 30, 31, 32]), (100, 12, []), (100, 12, []), (100, 12, []), (100, 12, []), (6, 7, [13, 28, 34, 36]), (3, 2, [35]), (100, 6, []), (3, 2, [37]), (100, 6, []), (7, 3, [5, 13, 39]), (100, 36, []), (2, 5, [41, 42]), (100, 10, []), (100, 10, []), (9, 33, [0, 0, 44, 45, 0, 46, 47, 48, 0, 49, 50, 51]), (100, 36, []), (100, 36, []), (100, 12, []), (100, 12, []), (100, 12, []), (101, 6, []), (100, 6, []), (100, 6, []), (100, 6, [])]
def Sx104 (L : Nat) : vS := [(100, 4, []), (100, 4, []), (100, L, []), (8, 10, [5, 9, 13, 22, 24, 26, 28, 33, 38, 40]), (1, 4, [6, 7, 8]), (100, 36, []), (100, 36, []), (100, 144, []), (5, 4, [10, 11, 12]), (100, 12, []), (100, 12, []), (100, 12, []), (0, 11, [5, 14, 15, 16, 17, 18, 19, 20, 21]), (101, 6, []), (100, 6, []), (100, 6, []), (100, 6, []), (100, 6, []), (100, 216, []), (100, 216, []), (100, 36, []), (3, 2, [23]), (100, 6, []), (3, 2, [25]), (100, 6, []), (3, 2, [27]), (100, 6, []), (4, 8, [5, 9, 13, 29, 30, 31, 32]), (100, 12, []), (100, 12, []), (100, 12, []), (100, 12, []), (6, 7, [13, 28, 34, 36]), (3, 2, [35]), (100, 6, []), (3, 2, [37]), (100, 6, []), (7, 3, [5, 13, 39]), (100, 36, []), (2, 5, [41, 42]), (100, 10, []), (100, 10, []), (9, 33, [0, 0, 44, 45, 0, 46, 47, 48, 0, 49, 50, 51, 52]), (100, 36, []), (100, 36, []), (100, 12, []), (100, 12, []), (100, 12, []), (101, 6, []), (100, 6, []), (100, 6, []), (100, 6, [])]
def Sx105 (L : Nat) : vS := [(100, 4, []), (100, 4, []), (100, L, []), (8, 10, [5, 9, 13, 22, 24, 26, 28, 33, 38, 40]), (1, 4, [6, 7, 8]), (100, 36, []), (100, 36, []), (100, 144, []), (5, 4, [10, 11, 12]), (100, 12, []), (100, 12, []), (100, 12, []), (0, 11, [5, 14, 15, 16, 17, 18, 19, 20, 21]), (101, 6, []), (100, 6, []), (100, 6, []), (100, 6, []), (100, 6, []), (100, 216, []), (100, 216, []), (100, 36, []), (3, 2, [23]), (100, 6, []), (3, 2, [25]), (100, 6, []), (3, 2, [27]), (100, 6, []), (4, 8, [5, 9, 13, 29, 30, 31, 32]), (100, 12, []), (100, 12, []), (100, 12, []), (100, 12, []), (6, 7, [13, 28, 34, 36]), (3, 2, [35]), (100, 6, []), (3, 2, [37]), (100, 6, []), (7, 3, [5, 13, 39]), (100, 36, []), (2, 5, [41, 42]), (100, 10, []), (100, 10, []), (9, 33, [0, 0, 44, 45, 0, 46, 47, 48, 0, 49, 50, 51, 52]), (100, 36, []), (100, 36, []), (100, 12, []), (100, 12, []), (100, 12, []), (101, 6, []), (100, 6, []), (100, 6, []), (100, 6, []), (100, 6, [])]
def Sx106 (L : Nat) : vS := [(100, 4, []), (100, 4, []), (100, L, []), (8, 10, [5, 9, 13, 22, 24, 26, 28, 33, 38, 40]), (1, 4, [6, 7, 8]), (100, 36, []), (100, 36, []), (100, 144, []), (5, 4, [10, 11, 12]), (100, 12, []), (100, 12, []), (100, 12, []), (0, 11, [5, 14, 15, 16, 17, 18, 19, 20, 21]), (101, 6, []), (100, 6, []), (100, 6, []), (100, 6, []), (100, 6, []), (100, 216, []), (100, 216, []), (100, 36, []), (3, 2, [23]), (100, 6, []), (3, 2, [25]), (100, 6, []), (3, 2, [27]), (100, 6, []), (4, 8, [5, 9, 13, 29, 30, 31, 32]), (100, 12, []), (100, 12, []), (100, 12, []), (100, 12, []), (6, 7, [13, 28, 34, 36]), (3, 2, [35]), (100, 6, []), (3, 2, [37]), (100, 6, []), (7, 3, [5, 13, 39]), (100, 36, []), (2, 5, [41, 42]), (100, 10, []), (100, 10, []), (9, 33, [0, 0, 44, 45, 0, 46, 47, 48, 0, 49, 50, 51, 52, 53]), (100, 36, []), (100, 36, []), (100, 12, []), (100, 12, []), (100, 12, []), (101, 6, []), (100, 6, []), (100, 6, []), (100, 6, []), (100, 6, [])]
def Sx107 (L : Nat) : vS := [(100, 4, []), (100, 4, []), (100, L, []), (8, 10, [5, 9, 13, 22, 24, 26, 28, 33, 38, 40]), (1, 4, [6, 7, 8]), (100, 36, []), (100, 36, []), (100, 144, []), (5, 4, [10, 11, 12]), (100, 12, []), (100, 12, []), (100, 12, []), (0, 11, [5, 14, 15, 16, 17, 18, 19, 20, 21]), (101, 6, []), (100, 6, []), (100, 6, []), (100, 6, []), (100, 6, []), (100, 216, []), (100, 216, []), (100, 36, []), (3, 2, [23]), (100, 6, []), (3, 2, [25]), (100, 6, []), (3, 2, [27]), (100, 6, []), (4, 8, [5, 9, 13, 29, 30, 31, 32]), (100, 12, []), (100, 12, []), (100, 12, []), (100, 12, []), (6, 7, [13, 28, 34, 36]), (3, 2, [35]), (100, 6, []), (3, 2, [37]), (100, 6, []), (7, 3, [5, 13, 39]), (100, 36, []), (2, 5, [41, 42]), (100, 10, []), (100, 10, []), (9, 33, [0, 0, 44, 45, 0, 46, 47, 48, 0, 49, 50, 51, 52, 53]), (100, 36, []), (100, 36, []), (100, 12, []), (100, 12, []), (100, 12, []), (101, 6, []), (100, 6, []), (100, 6, []), (100, 6, []), (100, 6, []), (100, 216, [])]
def Sx108 (L : Nat) : vS := [(100, 4, []), (100, 4, []), (100, L, []), (8, 10, [5, 9, 13, 22, 24, 26, 28, 33, 38, 40]), (1, 4, [6, 7, 8]), (100, 36, []), (100, 36, []), (100, 144, []), (5, 4, [10, 11, 12]), (100, 12, []), (100, 12, []), (100, 12, []), (0, 11, [5, 14, 15, 16, 17, 18, 19, 20, 21]), (101, 6, []), (100, 6, []), (100, 6, []), (100, 6, []), (100, 6, []), (100, 216, []), (100, 216, []), (100, 36, []), (3, 2, [23]), (100, 6, []), (3, 2, [25]), (100, 6, []), (3, 2, [27]), (100, 6, []), (4, 8, [5, 9, 13, 29, 30, 31, 32]), (100, 12, []), (100, 12, []), (100, 12, []), (100, 12, []), (6, 7, [13, 28, 34, 36]), (3, 2, [35]), (100, 6, []), (3, 2, [37]), (100, 6, []), (7, 3, [5, 13, 39]), (100, 36, []), (2, 5, [41, 42]), (100, 10, []), (100, 10, []), (9, 33, [0, 0, 44, 45, 0, 46, 47, 48, 0, 49, 50, 51, 52, 53, 54]), (100, 36, []), (100, 36, []), (100, 12, []), (100, 12, []), (100, 12, []), (101, 6, []), (100, 6, []), (100, 6, []), (100, 6, []), (100, 6, []), (100, 216, [])]
def Sx109 (L : Nat) : vS := [(100, 4, []), (100, 4, []), (100, L, []), (8, 10, [5, 9, 13, 22, 24, 26, 28, 33, 38, 40]), (1, 4, [6, 7, 8]), (100, 36, []), (100, 36, []), (100, 144, []), (5, 4, [10, 11, 12]), (100, 12, []), (100, 12, []), (100, 12, []), (0, 11, [5, 14, 15, 16, 17, 18, 19, 20, 21]), (101, 6, []), (100, 6, []), (100, 6, []), (100, 6, []), (100, 6, []), (100, 216, []), (100, 216, []), (100, 36, []), (3, 2, [23]), (100, 6, []), (3, 2, [25]), (100, 6, []), (3, 2, [27]), (100, 6, []), (4, 8, [5, 9, 13, 29, 30, 31, 32]), (100, 12, []), (100, 12, []), (100, 12, []), (100, 12, []), (6, 7, [13, 28, 34, 36]), (3, 2, [35]), (100, 6, []), (3, 2, [37]), (100, 6, []), (7, 3, [5, 13, 39]), (100, 36, []), (2, 5, [41, 42]), (100, 10, []), (100, 10, []), (9, 33, [0, 0, 44, 45, 0, 46, 47, 48, 0, 49, 50, 51, 52, 53, 54]), (100, 36, []), (100, 36, []), (100, 12, []), (100, 12, []), (100, 12, []), (101, 6, []), (100, 6, []), (100, 6, []), (100, 6, []), (100, 6, []), (100, 216, []), (100, 216, [])]
def Sx110 (L : Nat) : vS := [(100, 4, []), (100, 4, []), (100, L, []), (8, 10, [5, 9, 13, 22, 24, 26, 28, 33, 38, 40]), (1, 4, [6, 7, 8]), (100, 36, []), (100, 36, []), (100, 144, []), (5, 4, [10, 11, 12]), (100, 12, []), (100, 12, []), (100, 12, []), (0, 11, [5, 14, 15, 16, 17, 18, 19, 20, 21]), (101, 6, []), (100, 6, []), (100, 6, []), (100, 6, []), (100, 6, []), (100, 216, []), (100, 216, []), (100, 36, []), (3, 2, [23]), (100, 6, []), (3, 2, [25]), (100, 6, []), (3, 2, [27]), (100, 6, []), (4, 8, [5, 9, 13, 29, 30, 31, 32]), (100, 12, []), (100, 12, []), (100, 12, []), (100, 12, []), (6, 7, [13, 28, 34, 36]), (3, 2, [35]), (100, 6, []), (3, 2, [37]), (100, 6, []), (7, 3, [5, 13, 39]), (100, 36, []), (2, 5, [41, 42]), (100, 10, []), (100, 10, []), (9, 33, [0, 0, 44, 45, 0, 46, 47, 48, 0, 49, 50, 51, 52, 53, 54, 55]), (100, 36, []), (100, 36, []), (100, 12, []), (100, 12, []), (100, 12, []), (101, 6, []), (100, 6, []), (100, 6, []), (100, 6, []), (100, 6, []), (100, 216, []), (100, 216, [])]
def Sx111 (L : Nat) : vS := [(100, 4, []), (100, 4, []), (100, L, []), (8, 10, [5, 9, 13, 22, 24, 26, 28, 33, 38, 40]), (1, 4, [6, 7, 8]), (100, 36, []), (100, 36, []), (100, 144, []), (5, 4, [10, 11, 12]), (100, 12, []), (100, 12, []), (100, 12, []), (0, 11, [5, 14, 15, 16, 17, 18, 19, 20, 21]), (101, 6, []), (100, 6, []), (100, 6, []), (100, 6, []), (100, 6, []), (100, 216, []), (100, 216, []), (100, 36, []), (3, 2, [23]), (100, 6, []), (3, 2, [25]), (100, 6, []), (3, 2, [27]), (100, 6, []), (4, 8, [5, 9, 13, 29, 30, 31, 32]), (100, 12, []), (100, 12, []), (100, 12, []), (100, 12, []), (6, 7, [13, 28, 34, 36]), (3, 2, [35]), (100, 6, []), (3, 2, [37]), (100, 6, []), (7, 3, [5, 13, 39]), (100, 36, []), (2, 5, [41, 42]), (100, 10, []), (100, 10, []), (9, 33, [0, 0, 44, 45, 0, 46, 47, 48, 0, 49, 50, 51, 52, 53, 54, 55]), (100, 36, []), (100, 36, []), (100, 12, []), (100, 12, []), (100, 12, []), (101, 6, []), (100, 6, []), (100, 6, []), (100, 6, []), (100, 6, []), (100, 216, []), (100, 216, []), (100, 3, [])]
def Sx112 (L : Nat) : vS := [(100, 4, []), (100, 4, []), (100, L, []), (8, 10, [5, 9, 13, 22, 24, 26, 28, 33, 38, 40]), (1, 4, [6, 7, 8]), (100, 36, []), (100, 36, []), (100, 144, []), (5, 4, [10, 11, 12]), (100, 12, []), (100, 12, []), (100, 12, []), (0, 11, [5, 14, 15, 16, 17, 18, 19, 20, 21]), (101, 6, []), (100, 6, []), (100, 6, []), (100, 6, []), (100, 6, []), (100, 216, []), (100, 216, []), (100, 36, []), (3, 2, [23]), (100, 6, []), (3, 2, [25]), (100, 6, []), (3, 2, [27]), (100, 6, []), (4, 8, [5, 9, 13, 29, 30, 31, 32]), (100, 12, []), (100, 12, []), (100, 12, []), (100, 12, []), (6, 7, [13, 28, 34, 36]), (3, 2, [35]), (100, 6, []), (3, 2, [37]), (100, 6, []), (7, 3, [5, 13, 39]), (100, 36, []), (2, 5, [41, 42]), (100, 10, []), (100, 10, []), (9, 33, [0, 0, 44, 45, 0, 46, 47, 48, 0, 49, 50, 51, 52, 53, 54, 55, 56]), (100, 36, []), (100, 36, []), (100, 12, []), (100, 12, []), (100, 12, []), (101, 6, []), (100, 6, []), (100, 6, []), (100, 6, []), (100, 6, []), (100, 216, []), (100, 216, []), (100, 3, [])]
def Sx113 (L : Nat) : vS := [(100, 4, []), (100, 4, []), (100, L, []), (8, 10, [5, 9, 13, 22, 24, 26, 28, 33, 38, 40]), (1, 4, [6, 7, 8]), (100, 36, []), (100, 36, []), (100, 144, []), (5, 4, [10, 11, 12]), (100, 12, []), (100, 12, []), (100, 12, []), (0, 11, [5, 14, 15, 16, 17, 18, 19, 20, 21]), (101, 6, []), (100, 6, []), (100, 6, []), (100, 6, []), (100, 6, []), (100, 216, []), (100, 216, []), (100, 36, []), (3, 2, [23]), (100, 6, []), (3, 2, [25]), (100, 6, []), (3, 2, [27]), (100, 6, []), (4, 8, [5, 9, 13, 29, 30, 31, 32]), (100, 12, []), (100, 12, []), (100, 12, []), (100, 12, []), (6, 7, [13, 28, 34, 36]), (3, 2, [35]), (100, 6, []), (3, 2, [37]), (100, 6, []), (7, 3, [5, 13, 39]), (100, 36, []), (2, 5, [41, 42]), (100, 10, []), (100, 10, []), (9, 33, [0, 0, 44, 45, 0, 46, 47, 48, 0, 49, 50, 51, 52, 53, 54, 55, 56]), (100, 36, []), (100, 36, []), (100, 12, []), (100, 12, []), (100, 12, []), (101, 6, []), (100, 6, []), (100, 6, []), (100, 6, []), (100, 6, []), (100, 216, []), (100, 216, []), (100, 3, []), (100, 18, [])]
def Sx114 (L : Nat) : vS := [(100, 4, []), (100, 4, []), (100, L, []), (8, 10, [5, 9, 13, 22, 24, 26, 28, 33, 38, 40]), (1, 4, [6, 7, 8]), (100, 36, []), (100, 36, []), (100, 144, []), (5, 4, [10, 11, 12]), (100, 12, []), (100, 12, []), (100, 12, []), (0, 11, [5, 14, 15, 16, 17, 18, 19, 20, 21]), (101, 6, []), (100, 6, []), (100, 6, []), (100, 6, []), (100, 6, []), (100, 216, []), (100, 216, []), (100, 36, []), (3, 2, [23]), (100, 6, []), (3, 2, [25]), (100, 6, []), (3, 2, [27]), (100, 6, []), (4, 8, [5, 9, 13, 29, 30, 31, 32]), (100, 12, []), (100, 12, []), (100, 12, []), (100, 12, []), (6, 7, [13, 28, 34, 36]), (3, 2, [35]), (100, 6, []), (3, 2, [37]), (100, 6, []), (7, 3, [5, 13, 39]), (100, 36, []), (2, 5, [41, 42]), (100, 10, []), (100, 10, []), (9, 33, [0, 0, 44, 45, 0, 46, 47, 48, 0, 49, 50, 51, 52, 53, 54, 55, 56, 57]), (100, 36, []), (100, 36, []), (100, 12, []), (100, 12, []), (100, 12, []), (101, 6, []), (100, 6, []), (100, 6, []), (100, 6, []), (100, 6, []), (100, 216, []), (100, 216, []), (100, 3, []), (100, 18, [])]
def Sx115 (L : Nat) : vS := [(100, 4, []), (100, 4, []), (100, L, []), (8, 10, [5, 9, 13, 22, 24, 26, 28, 33, 38, 40]), (1, 4, [6, 7, 8]), (100, 36, []), (100, 36, []), (100, 144, []), (5, 4, [10, 11, 12]), (100, 12, []), (100, 12, []), (100, 12, []), (0, 11, [5, 14, 15, 16, 17, 18, 19, 20, 21]), (101, 6, []), (100, 6, []), (100, 6, []), (100, 6, []), (100, 6, []), (100, 216, []), (100, 216, []), (100, 36, []), (3, 2, [23]), (100, 6, []), (3, 2, [25]), (100, 6, []), (3, 2, [27]), (100, 6, []), (4, 8, [5, 9, 13, 29, 30, 31, 32]), (100, 12, []), (100, 12, []), (100, 12, []), (100, 12, []), (6, 7, [13, 28, 34, 36]), (3, 2, [35]), (100, 6, []), (3, 2, [37]), (100, 6, []), (7, 3, [5, 13, 39]), (100, 36, []), (2, 5, [41, 42]), (100, 10, []), (100, 10, []), (9, 33, [0, 0, 44, 45, 0, 46, 47, 48, 0, 49, 50, 51, 52, 53, 54, 55, 56, 57]), (100, 36, []), (100, 36, []), (100, 12, []), (100, 12, []), (100, 12, []), (101, 6, []), (100, 6, []), (100, 6, []), (100, 6, []), (100, 6, []), (100, 216, []), (100, 216, []), (100, 3, []), (100, 18, []), (100, 6, [])]
def Sx116 (L : Nat) : vS := [(100, 4, []), (100, 4, []), (100, L, []), (8, 10, [5, 9, 13, 22, 24, 26, 28, 33, 38, 40]), (1, 4, [6, 7, 8]), (100, 36, []), (100, 36, []), (100, 144, []), (5, 4, [10, 11, 12]), (100, 12, []), (100, 12, []), (100, 12, []), (0, 11, [5, 14, 15, 16, 17, 18, 19, 20, 21]), (101, 6, []), (100, 6, []), (100, 6, []), (100, 6, []), (100, 6, []), (100, 216, []), (100, 216, []), (100, 36, []), (3, 2, [23]), (100, 6, []), (3, 2, [25]), (100, 6, []), (3, 2, [27]), (100, 6, []), (4, 8, [5, 9, 13, 29, 30, 31, 32]), (100, 12, []), (100, 12, []), (100, 12, []), (100, 12, []), (6, 7, [13, 28, 34, 36]), (3, 2, [35]), (100, 6, []), (3, 2, [37]), (100, 6, []), (7, 3, [5, 13, 39]), (100, 36, []), (2, 5, [41, 42]), (100, 10, []), (100, 10, []), (9, 33, [0, 0, 44, 45, 0, 46, 47, 48, 0, 49, 50, 51, 52, 53, 54, 55, 56, 57, 0, 58]), (100, 36, []), (100, 36, []), (100, 12, []), (100, 12, []), (100, 12, []), (101, 6, []), (100, 6, []), (100, 6, []), (100, 6, []), (100, 6, []), (100, 216, []), (100, 216, []), (100, 3, []), (100, 18, []), (100, 6, [])]
def Sx117 (L : Nat) : vS := [(100, 4, []), (100, 4, []), (100, L, []), (8, 10, [5, 9, 13, 22, 24, 26, 28, 33, 38, 40]), (1, 4, [6, 7, 8]), (100, 36, []), (100, 36, []), (100, 144, []), (5, 4, [10, 11, 12]), (100, 12, []), (100, 12, []), (100, 12, []), (0, 11, [5, 14, 15, 16, 17, 18, 19, 20, 21]), (101, 6, []), (100, 6, []), (100, 6, []), (100, 6, []), (100, 6, []), (100, 216, []), (100, 216, []), (100, 36, []), (3, 2, [23]), (100, 6, []), (3, 2, [25]), (100, 6, []), (3, 2, [27]), (100, 6, []), (4, 8, [5, 9, 13, 29, 30, 31, 32]), (100, 12, []), (100, 12, []), (100, 12, []), (100, 12, []), (6, 7, [13, 28, 34, 36]), (3, 2, [35]), (100, 6, []), (3, 2, [37]), (100, 6, []), (7, 3, [5, 13, 39]), (100, 36, []), (2, 5, [41, 42]), (100, 10, []), (100, 10, []), (9, 33, [0, 0, 44, 45, 0, 46, 47, 48, 0, 49, 50, 51, 52, 53, 54, 55, 56, 57, 0, 58]), (100, 36, []), (100, 36, []), (100, 12, []), (100, 12, []), (100, 12, []), (101, 6, []), (100, 6, []), (100, 6, []), (100, 6, []), (100, 6, []), (100, 216, []), (100, 216, []), (100, 3, []), (100, 18, []), (100, 6, []), (100, 12, [])]
def Sx118 (L : Nat) : vS := [(100, 4, []), (100, 4, []), (100, L, []), (8, 10, [5, 9, 13, 22, 24, 26, 28, 33, 38, 40]), (1, 4, [6, 7, 8]), (100, 36, []), (100, 36, []), (100, 144, []), (5, 4, [10, 11, 12]), (100, 12, []), (100, 12, []), (100, 12, []), (0, 11, [5, 14, 15, 16, 17, 18, 19, 20, 21]), (101, 6, []), (100, 6, []), (100, 6, []), (100, 6, []), (100, 6, []), (100, 216, []), (100, 216, []), (100, 36, []), (3, 2, [23]), (100, 6, []), (3, 2, [25]), (100, 6, []), (3, 2, [27]), (100, 6, []), (4, 8, [5, 9, 13, 29, 30, 31, 32]), (100, 12, []), (100, 12, []), (100, 12, []), (100, 12, []), (6, 7, [13, 28, 34, 36]), (3, 2, [35]), (100, 6, []), (3, 2, [37]), (100, 6, []), (7, 3, [5, 13, 39]), (100, 36, []), (2, 5, [41, 42]), (100, 10, []), (100, 10, []), (9, 33, [0, 0, 44, 45, 0, 46, 47, 48, 0, 49, 50, 51, 52, 53, 54, 55, 56, 57, 0, 58, 0, 59]), (100, 36, []), (100, 36, []), (100, 12, []), (100, 12, []), (100, 12, []), (101, 6, []), (100, 6, []), (100, 6, []), (100, 6, []), (100, 6, []), (100, 216, []), (100, 216, []), (100, 3, []), (100, 18, []), (100, 6, []), (100, 12, [])]
def Sx119 (L : Nat) : vS := [(100, 4, []), (100, 4, []), (100, L, []), (8, 10, [5, 9, 13, 22, 24, 26, 28, 33, 38, 40]), (1, 4, [6, 7, 8]), (100, 36, []), (100, 36, []), (100, 144, []), (5, 4, [10, 11, 12]), (100, 12, []), (100, 12, []), (100, 12, []), (0, 11, [5, 14, 15, 16, 17, 18, 19, 20, 21]), (101, 6, []), (100, 6, []), (100, 6, []), (100, 6, []), (100, 6, []), (100, 216, []), (100, 216, []), (100, 36, []), (3, 2, [23]), (100, 6, []), (3, 2, [25]), (100, 6, []), (3, 2, [27]), (100, 6, []), (4, 8, [5, 9, 13, 29, 30, 31, 32]), (100, 12, []), (100, 12, []), (100, 12, []), (100, 12, []), (6, 7, [13, 28, 34, 36]), (3, 2, [35]), (100, 6, []), (3, 2, [37]), (100, 6, []), (7, 3, [5, 13, 39]), (100, 36, []), (2, 5, [41, 42]), (100, 10, []), (100, 10, []), (9, 33, [0, 0, 44, 45, 0, 46, 47, 48, 0, 49, 50, 51, 52, 53, 54, 55, 56, 57, 0, 58, 0, 59]), (100, 36, []), (100, 36, []), (100, 12, []), (100, 12, []), (100, 12, []), (101, 6, []), (100, 6, []), (100, 6, []), (100, 6, []), (100, 6, []), (100, 216, []), (100, 216, []), (100, 3, []), (100, 18, []), (100, 6, []), (100, 12, []), (100, 12, [])]
def Sx120 (L : Nat) : vS := [(100, 4, []), (100, 4, []), (100, L, []), (8, 10, [5, 9, 13, 22, 24, 26, 28, 33, 38, 40]), (1, 4, [6, 7, 8]), (100, 36, []), (100, 36, []), (100, 144, []), (5, 4, [10, 11, 12]), (100, 12, []), (100, 12, []), (100, 12, []), (0, 11, [5, 14, 15, 16, 17, 18, 19, 20, 21]), (101, 6, []), (100, 6, []), (100, 6, []), (100, 6, []), (100, 6, []), (100, 216, []), (100, 216, []), (100, 36, []), (3, 2, [23]), (100, 6, []), (3, 2, [25]), (100, 6, []), (3, 2, [27]), (100, 6, []), (4, 8, [5, 9, 13, 29, 30, 31, 32]), (100, 12, []), (100, 12, []), (100, 12, []), (100, 12, []), (6, 7, [13, 28, 34, 36]), (3, 2, [35]), (100, 6, []), (3, 2, [37]), (100, 6, []), (7, 3, [5, 13, 39]), (100, 36, []), (2, 5, [41, 42]), (100, 10, []), (100, 10, []), (9, 33, [0, 0, 44, 45, 0, 46, 47, 48, 0, 49, 50, 51, 52, 53, 54, 55, 56, 57, 0, 58, 0, 59, 60]), (100, 36, []), (100, 36, []), (100, 12, []), (100, 12, []), (100, 12, []), (101, 6, []), (100, 6, []), (100, 6, []), (100, 6, []), (100, 6, []), (100, 216, []), (100, 216, []), (100, 3, []), (100, 18, []), (100, 6, []), (100, 12, []), (100, 12, [])]
def Sx121 (L : Nat) : vS := [(100, 4, []), (100, 4, []), (100, L, []), (8, 10, [5, 9, 13, 22, 24, 26, 28, 33, 38, 40]), (1, 4, [6, 7, 8]), (100, 36, []), (100, 36, []), (100, 144, []), (5, 4, [10, 11, 12]), (100, 12, []), (100, 12, []), (100, 12, []), (0, 11, [5, 14, 15, 16, 17, 18, 19, 20, 21]), (101, 6, []), (100, 6, []), (100, 6, []), (100, 6, []), (100, 6, []), (100, 216, []), (100, 216, []), (100, 36, []), (3, 2, [23]), (100, 6, []), (3, 2, [25]), (100, 6, []), (3, 2, [27]), (100, 6, []), (4, 8, [5, 9, 13, 29, 30, 31, 32]), (100, 12, []), (100, 12, []), (100, 12, []), (100, 12, []), (6, 7, [13, 28, 34, 36]), (3, 2, [35]), (100, 6, []), (3, 2, [37]), (100, 6, []), (7, 3, [5, 13, 39]), (100, 36, []), (2, 5, [41, 42]), (100, 10, []), (100, 10, []), (9, 33, [0, 0, 44, 45, 0, 46, 47, 48, 0, 49, 50, 51, 52, 53, 54, 55, 56, 57, 0, 58, 0, 59, 60]), (100, 36, []), (100, 36, []), (100, 12, []), (100, 12, []), (100, 12, []), (101, 6, []), (100, 6, []), (100, 6, []), (100, 6, []), (100, 6, []), (100, 216, []), (100, 216, []), (100, 3, []), (100, 18, []), (100, 6, []), (100, 12, []), (100, 12, []), (100, 12, [])]
def Sx122 (L : Nat) : vS := [(100, 4, []), (100, 4, []), (100, L, []), (8, 10, [5, 9, 13, 22, 24, 26, 28, 33, 38, 40]), (1, 4, [6, 7, 8]), (100, 36, []), (100, 36, []), (100, 144, []), (5, 4, [10, 11, 12]), (100, 12, []), (100, 12, []), (100, 12, []), (0, 11, [5, 14, 15, 16, 17, 18, 19, 20, 21]), (101, 6, []), (100, 6, []), (100, 6, []), (100, 6, []), (100, 6, []), (100, 216, []), (100, 216, []), (100, 36, []), (3, 2, [23]), (100, 6, []), (3, 2, [25]), (100, 6, []), (3, 2, [27]), (100, 6, []), (4, 8, [5, 9, 13, 29, 30, 31, 32]), (100, 12, []), (100, 12, []), (100, 12, []), (100, 12, []), (6, 7, [13, 28, 34, 36]), (3, 2, [35]), (100, 6, []), (3, 2, [37]), (100, 6, []), (7, 3, [5, 13, 39]), (100, 36, []), (2, 5, [41, 42]), (100, 10, []), (100, 10, []), (9, 33, [0, 0, 44, 45, 0, 46, 47, 48, 0, 49, 50, 51, 52, 53, 54, 55, 56, 57, 0, 58, 0, 59, 60, 61]), (100, 36, []), (100, 36, []), (100, 12, []), (100, 12, []), (100, 12, []), (101, 6, []), (100, 6, []), (100, 6, []), (100, 6, []), (100, 6, []), (100, 216, []), (100, 216, []), (100, 3, []), (100, 18, []), (100, 6, []), (100, 12, []), (100, 12, []), (100, 12, [])]
def Sx123 (L : Nat) : vS := [(100, 4, []), (100, 4, []), (100, L, []), (8, 10, [5, 9, 13, 22, 24, 26, 28, 33, 38, 40]), (1, 4, [6, 7, 8]), (100, 36, []), (100, 36, []), (100, 144, []), (5, 4, [10, 11, 12]), (100, 12, []), (100, 12, []), (100, 12, []), (0, 11, [5, 14, 15, 16, 17, 18, 19, 20, 21]), (101, 6, []), (100, 6, []), (100, 6, []), (100, 6, []), (100, 6, []), (100, 216, []), (100, 216, []), (100, 36, []), (3, 2, [23]), (100, 6, []), (3, 2, [25]), (100, 6, []), (3, 2, [27]), (100, 6, []), (4, 8, [5, 9, 13, 29, 30, 31, 32]), (100, 12, []), (100, 12, []), (100, 12, []), (100, 12, []), (6, 7, [13, 28, 34, 36]), (3, 2, [35]), (100, 6, []), (3, 2, [37]), (100, 6, []), (7, 3, [5, 13, 39]), (100, 36, []), (2, 5, [41, 42]), (100, 10, []), (100, 10, []), (9, 33, [0, 0, 44, 45, 0, 46, 47, 48, 0, 49, 50, 51, 52, 53, 54, 55, 56, 57, 0, 58, 0, 59, 60, 61]), (100, 36, []), (100, 36, []), (100, 12, []), (100, 12, []), (100, 12, []), (101, 6, []), (100, 6, []), (100, 6, []), (100, 6, []), (100, 6, []), (100, 216, []), (100, 216, []), (100, 3, []), (100, 18, []), (100, 6, []), (100, 12, []), (100, 12, []), (100, 12, []), (100, 12, [])]
def Sx124 (L : Nat) : vS := [(100, 4, []), (100, 4, []), (100, L, []), (8, 10, [5, 9, 13, 22, 24, 26, 28, 33, 38, 40]), (1, 4, [6, 7, 8]), (100, 36, []), (100, 36, []), (100, 144, []), (5, 4, [10, 11, 12]), (100, 12, []), (100, 12, []), (100, 12, []), (0, 11, [5, 14, 15, 16, 17, 18, 19, 20, 21]), (101, 6, []), (100, 6, []), (100, 6, []), (100, 6, []), (100, 6, []), (100, 216, []), (100, 216, []), (100, 36, []), (3, 2, [23]), (100, 6, []), (3, 2, [25]), (100, 6, []), (3, 2, [27]), (100, 6, []), (4, 8, [5, 9, 13, 29, 30, 31, 32]), (100, 12, []), (100, 12, []), (100, 12, []), (100, 12, []), (6, 7, [13, 28, 34, 36]), (3, 2, [35]), (100, 6, []), (3, 2, [37]), (100, 6, []), (7, 3, [5, 13, 39]), (100, 36, []), (2, 5, [41, 42]), (100, 10, []), (100, 10, []), (9, 33, [0, 0, 44, 45, 0, 46, 47, 48, 0, 49, 50, 51, 52, 53, 54, 55, 56, 57, 0, 58, 0, 59, 60, 61, 62]), (100, 36, []), (100, 36, []), (100, 12, []), (100, 12, []), (100, 12, []), (101, 6, []), (100, 6, []), (100, 6, []), (100, 6, []), (100, 6, []), (100, 216, []), (100, 216, []), (100, 3, []), (100, 18, []), (100, 6, []), (100, 12, []), (100, 12, []), (100, 12, []), (100, 12, [])]
def Sx125 (L : Nat) : vS := [(100, 4, []), (100, 4, []), (100, L, []), (8, 10, [5, 9, 13, 22, 24, 26, 28, 33, 38, 40]), (1, 4, [6, 7, 8]), (100, 36, []), (100, 36, []), (100, 144, []), (5, 4, [10, 11, 12]), (100, 12, []), (100, 12, []), (100, 12, []), (0, 11, [5, 14, 15, 16, 17, 18, 19, 20, 21]), (101, 6, []), (100, 6, []), (100, 6, []), (100, 6, []), (100, 6, []), (100, 216, []), (100, 216, []), (100, 36, []), (3, 2, [23]), (100, 6, []), (3, 2, [25]), (100, 6, []), (3, 2, [27]), (100, 6, []), (4, 8, [5, 9, 13, 29, 30, 31, 32]), (100, 12, []), (100, 12, []), (100, 12, []), (100, 12, []), (6, 7, [13, 28, 34, 36]), (3, 2, [35]), (100, 6, []), (3, 2, [37]), (100, 6, []), (7, 3, [5, 13, 39]), (100, 36, []), (2, 5, [41, 42]), (100, 10, []), (100, 10, []), (9, 33, [0, 0, 44, 45, 0, 46, 47, 48, 0, 49, 50, 51, 52, 53, 54, 55, 56, 57, 0, 58, 0, 59, 60, 61, 62]), (100, 36, []), (100, 36, []), (100, 12, []), (100, 12, []), (100, 12, []), (101, 6, []), (100, 6, []), (100, 6, []), (100, 6, []), (100, 6, []), (100, 216, []), (100, 216, []), (100, 3, []), (100, 18, []), (100, 6, []), (100, 12, []), (100, 12, []), (100, 12, []), (100, 12, []), (100, 3, [])]
def Sx126 (L : Nat) : vS := [(100, 4, []), (100, 4, []), (100, L, []), (8, 10, [5, 9, 13, 22, 24, 26, 28, 33, 38, 40]), (1, 4, [6, 7, 8]), (100, 36, []), (100, 36, []), (100, 144, []), (5, 4, [10, 11, 12]), (100, 12, []), (100, 12, []), (100, 12, []), (0, 11, [5, 14, 15, 16, 17, 18, 19, 20, 21]), (101, 6, []), (100, 6, []), (100, 6, []), (100, 6, []), (100, 6, []), (100, 216, []), (100, 216, []), (100, 36, []), (3, 2, [23]), (100, 6, []), (3, 2, [25]), (100, 6, []), (3, 2, [27]), (100, 6, []), (4, 8, [5, 9, 13, 29, 30, 31, 32]), (100, 12, []), (100, 12, []), (100, 12, []), (100, 12, []), (6, 7, [13, 28, 34, 36]), (3, 2, [35]), (100, 6, []), (3, 2, [37]), (100, 6, []), (7, 3, [5, 13, 39]), (100, 36, []), (2, 5, [41, 42]), (100, 10, []), (100, 10, []), (9, 33, [0, 0, 44, 45, 0, 46, 47, 48, 0, 49, 50, 51, 52, 53, 54, 55, 56, 57, 0, 58, 0, 59, 60, 61, 62, 0, 0, 0, 63]), (100, 36, []), (100, 36, []), (100, 12, []), (100, 12, []), (100, 12, []), (101, 6, []), (100, 6, []), (100, 6, []), (100, 6, []), (100, 6, []), (100, 216, []), (100, 216, []), (100, 3, []), (100, 18, []), (100, 6, []), (100, 12, []), (100, 12, []), (100, 12, []), (100, 12, []), (100, 3, [])]
def Sx127 (L : Nat) : vS := [(100, 4, []), (100, 4, []), (100, L, []), (8, 10, [5, 9, 13, 22, 24, 26, 28, 33, 38, 40]), (1, 4, [6, 7, 8]), (100, 36, []), (100, 36, []), (100, 144, []), (5, 4, [10, 11, 12]), (100, 12, []), (100, 12, []), (100, 12, []), (0, 11, [5, 14, 15, 16, 17, 18, 19, 20, 21]), (101, 6, []), (100, 6, []), (100, 6, []), (100, 6, []), (100, 6, []), (100, 216, []), (100, 216, []), (100, 36, []), (3, 2, [23]), (100, 6, []), (3, 2, [25]), (100, 6, []), (3, 2, [27]), (100, 6, []), (4, 8, [5, 9, 13, 29, 30, 31, 32]), (100, 12, []), (100, 12, []), (100, 12, []), (100, 12, []), (6, 7, [13, 28, 34, 36]), (3, 2, [35]), (100, 6, []), (3, 2, [37]), (100, 6, []), (7, 3, [5, 13, 39]), (100, 36, []), (2, 5, [41, 42]), (100, 10, []), (100, 10, []), (9, 33, [0, 0, 44, 45, 0, 46, 47, 48, 0, 49, 50, 51, 52, 53, 54, 55, 56, 57, 0, 58, 0, 59, 60, 61, 62, 0, 0, 0, 63]), (100, 36, []), (100, 36, []), (100, 12, []), (100, 12, []), (100, 12, []), (101, 6, []), (100, 6, []), (100, 6, []), (100, 6, []), (100, 6, []), (100, 216, []), (100, 216, []), (100, 3, []), (100, 18, []), (100, 6, []), (100, 12, []), (100, 12, []), (100, 12, []), (100, 12, []), (100, 3, []), (101, 252, [])]
def Sx128 (L : Nat) : vS := [(100, 4, []), (100, 4, []), (100, L, []), (8, 10, [5, 9, 13, 22, 24, 26, 28, 33, 38, 40]), (1, 4, [6, 7, 8]), (100, 36, []), (100, 36, []), (100, 144, []), (5, 4, [10, 11, 12]), (100, 12, []), (100, 12, []), (100, 12, []), (0, 11, [5, 14, 15, 16, 17, 18, 19, 20, 21]), (101, 6, []), (100, 6, []), (100, 6, []), (100, 6, []), (100, 6, []), (100, 216, []), (100, 216, []), (100, 36, []), (3, 2, [23]), (100, 6, []), (3, 2, [25]), (100, 6, []), (3, 2, [27]), (100, 6, []), (4, 8, [5, 9, 13, 29, 30, 31, 32]), (100, 12, []), (100, 12, []), (100, 12, []), (100, 12, []), (6, 7, [13, 28, 34, 36]), (3, 2, [35]), (100, 6, []), (3, 2, [37]), (100, 6, []), (7, 3, [5, 13, 39]), (100, 36, []), (2, 5, [41, 42]), (100, 10, []), (100, 10, []), (9, 33, [0, 0, 44, 45, 0, 46, 47, 48, 0, 49, 50, 51, 52, 53, 54, 55, 56, 57, 0, 58, 0, 59, 60, 61, 62, 0, 0, 0, 63, 64]), (100, 36, []), (100, 36, []), (100, 12, []), (100, 12, []), (100, 12, []), (101, 6, []), (100, 6, []), (100, 6, []), (100, 6, []), (100, 6, []), (100, 216, []), (100, 216, []), (100, 3, []), (100, 18, []), (100, 6, []), (100, 12, []), (100, 12, []), (100, 12, []), (100, 12, []), (100, 3, []), (101, 252, [])]
def Sx129 (L : Nat) : vS := [(100, 4, []), (100, 4, []), (100, L, []), (8, 10, [5, 9, 13, 22, 24, 26, 28, 33, 38, 40]), (1, 4, [6, 7, 8]), (100, 36, []), (100, 36, []), (100, 144, []), (5, 4, [10, 11, 12]), (100, 12, []), (100, 12, []), (100, 12, []), (0, 11, [5, 14, 15, 16, 17, 18, 19, 20, 21]), (101, 6, []), (100, 6, []), (100, 6, []), (100, 6, []), (100, 6, []), (100, 216, []), (100, 216, []), (100, 36, []), (3, 2, [23]), (100, 6, []), (3, 2, [25]), (100, 6, []), (3, 2, [27]), (100, 6, []), (4, 8, [5, 9, 13, 29, 30, 31, 32]), (100, 12, []), (100, 12, []), (100, 12, []), (100, 12, []), (6, 7, [13, 28, 34, 36]), (3, 2, [35]), (100, 6, []), (3, 2, [37]), (100, 6, []), (7, 3, [5, 13, 39]), (100, 36, []), (2, 5, [41, 42]), (100, 10, []), (100, 10, []), (9, 33, [0, 0, 44, 45, 0, 46, 47, 48, 0, 49, 50, 51, 52, 53, 54, 55, 56, 57, 0, 58, 0, 59, 60, 61, 62, 0, 0, 0, 63, 64]), (100, 36, []), (100, 36, []), (100, 12, []), (100, 12, []), (100, 12, []), (101, 6, []), (100, 6, []), (100, 6, []), (100, 6, []), (100, 6, []), (100, 216, []), (100, 216, []), (100, 3, []), (100, 18, []), (100, 6, []), (100, 12, []), (100, 12, []), (100, 12, []), (100, 12, []), (100, 3, []), (101, 252, []), (100, 36, [])]
def Sx130 (L : Nat) : vS := [(100, 4, []), (100, 4, []), (100, L, []), (8, 10, [5, 9, 13, 22, 24, 26, 28, 33, 38, 40]), (1, 4, [6, 7, 8]), (100, 36, []), (100, 36, []), (100, 144, []), (5, 4, [10, 11, 12]), (100, 12, []), (100, 12, []), (100, 12, []), (0, 11, [5, 14, 15, 16, 17, 18, 19, 20, 21]), (101, 6, []), (100, 6, []), (100, 6, []), (100, 6, []), (100, 6, []), (100, 216, []), (100, 216, []), (100, 36, []), (3, 2, [23]), (100, 6, []), (3, 2, [25]), (100, 6, []), (3, 2, [27]), (100, 6, []), (4, 8, [5, 9, 13, 29, 30, 31, 32]), (100, 12, []), (100, 12, []), (100, 12, []), (100, 12, []), (6, 7, [13, 28, 34, 36]), (3, 2, [35]), (100, 6, []), (3, 2, [37]), (100, 6, []), (7, 3, [5, 13, 39]), (100, 36, []), (2, 5, [41, 42]), (100, 10, []), (100, 10, []), (9, 33, [0, 0, 44, 45, 0, 46, 47, 48, 0, 49, 50, 51, 52, 53, 54, 55, 56, 57, 0, 58, 0, 59, 60, 61, 62, 0, 0, 0, 63, 64, 65]), (100, 36, []), (100, 36, []), (100, 12, []), (100, 12, []), (100, 12, []), (101, 6, []), (100, 6, []), (100, 6, []), (100, 6, []), (100, 6, []), (100, 216, []), (100, 216, []), (100, 3, []), (100, 18, []), (100, 6, []), (100, 12, []), (100, 12, []), (100, 12, []), (100, 12, []), (100, 3, []), (101, 252, []), (100, 36, [])]
def Sx131 (L : Nat) : vS := [(100, 4, []), (100, 4, []), (100, L, []), (8, 10, [5, 9, 13, 22, 24, 26, 28, 33, 38, 40]), (1, 4, [6, 7, 8]), (100, 36, []), (100, 36, []), (100, 144, []), (5, 4, [10, 11, 12]), (100, 12, []), (100, 12, []), (100, 12, []), (0, 11, [5, 14, 15, 16, 17, 18, 19, 20, 21]), (101, 6, []), (100, 6, []), (100, 6, []), (100, 6, []), (100, 6, []), (100, 216, []), (100, 216, []), (100, 36, []), (3, 2, [23]), (100, 6, []), (3, 2, [25]), (100, 6, []), (3, 2, [27]), (100, 6, []), (4, 8, [5, 9, 13, 29, 30, 31, 32]), (100, 12, []), (100, 12, []), (100, 12, []), (100, 12, []), (6, 7, [13, 28, 34, 36]), (3, 2, [35]), (100, 6, []), (3, 2, [37]), (100, 6, []), (7, 3, [5, 13, 39]), (100, 36, []), (2, 5, [41, 42]), (100, 10, []), (100, 10, []), (9, 33, [0, 0, 44, 45, 0, 46, 47, 48, 0, 49, 50, 51, 52, 53, 54, 55, 56, 57, 0, 58, 0, 59, 60, 61, 62, 0, 0, 0, 63, 64, 65]), (100, 36, []), (100, 36, []), (100, 12, []), (100, 12, []), (100, 12, []), (101, 6, []), (100, 6, []), (100, 6, []), (100, 6, []), (100, 6, []), (100, 216, []), (100, 216, []), (100, 3, []), (100, 18, []), (100, 6, []), (100, 12, []), (100, 12, []), (100, 12, []), (100, 12, []), (100, 3, []), (101, 252, []), (100, 36, []), (100, 10, [])]
def Sx132 (L : Nat) : vS := [(100, 4, []), (100, 4, []), (100, L, []), (8, 10, [5, 9, 13, 22, 24, 26, 28, 33, 38, 40]), (1, 4, [6, 7, 8]), (100, 36, []), (100, 36, []), (100, 144, []), (5, 4, [10, 11, 12]), (100, 12, []), (100, 12, []), (100, 12, []), (0, 11, [5, 14, 15, 16, 17, 18, 19, 20, 21]), (101, 6, []), (100, 6, []), (100, 6, []), (100, 6, []), (100, 6, []), (100, 216, []), (100, 216, []), (100, 36, []), (3, 2, [23]), (100, 6, []), (3, 2, [25]), (100, 6, []), (3, 2, [27]), (100, 6, []), (4, 8, [5, 9, 13, 29, 30, 31, 32]), (100, 12, []), (100, 12, []), (100, 12, []), (100, 12, []), (6, 7, [13, 28, 34, 36]), (3, 2, [35]), (100, 6, []), (3, 2, [37]), (100, 6, []), (7, 3, [5, 13, 39]), (100, 36, []), (2, 5, [41, 42]), (100, 10, []), (100, 10, []), (9, 33, [0, 0, 44, 45, 0, 46, 47, 48, 0, 49, 50, 51, 52, 53, 54, 55, 56, 57, 0, 58, 0, 59, 60, 61, 62, 0, 0, 0, 63, 64, 65, 66]), (100, 36, []), (100, 36, []), (100, 12, []), (100, 12, []), (100, 12, []), (101, 6, []), (100, 6, []), (100, 6, []), (100, 6, []), (100, 6, []), (100, 216, []), (100, 216, []), (100, 3, []), (100, 18, []), (100, 6, []), (100, 12, []), (100, 12, []), (100, 12, []), (100, 12, []), (100, 3, []), (101, 252, []), (100, 36, []), (100, 10, [])]
def Sx133 (L : Nat) : vS := [(100, 4, []), (100, 4, []), (100, L, []), (8, 10, [5, 9, 13, 22, 24, 26, 28, 33, 38, 40]), (1, 4, [6, 7, 8]), (100, 36, []), (100, 36, []), (100, 144, []), (5, 4, [10, 11, 12]), (100, 12, []), (100, 12, []), (100, 12, []), (0, 11, [5, 14, 15, 16, 17, 18, 19, 20, 21]), (101, 6, []), (100, 6, []), (100, 6, []), (100, 6, []), (100, 6, []), (100, 216, []), (100, 216, []), (100, 36, []), (3, 2, [23]), (100, 6, []), (3, 2, [25]), (100, 6, []), (3, 2, [27]), (100, 6, []), (4, 8, [5, 9, 13, 29, 30, 31, 32]), (100, 12, []), (100, 12, []), (100, 12, []), (100, 12, []), (6, 7, [13, 28, 34, 36]), (3, 2, [35]), (100, 6, []), (3, 2, [37]), (100, 6, []), (7, 3, [5, 13, 39]), (100, 36, []), (2, 5, [41, 42]), (100, 10, []), (100, 10, []), (9, 33, [0, 0, 44, 45, 0, 46, 47, 48, 0, 49, 50, 51, 52, 53, 54, 55, 56, 57, 0, 58, 0, 59, 60, 61, 62, 0, 0, 0, 63, 64, 65, 66]), (100, 36, []), (100, 36, []), (100, 12, []), (100, 12, []), (100, 12, []), (101, 6, []), (100, 6, []), (100, 6, []), (100, 6, []), (100, 6, []), (100, 216, []), (100, 216, []), (100, 3, []), (100, 18, []), (100, 6, []), (100, 12, []), (100, 12, []), (100, 12, []), (100, 12, []), (100, 3, []), (101, 252, []), (100, 36, []), (100, 10, []), (100, 10, [])]
set_option maxRecDepth 100000 in
set_option maxHeartbeats 4000000 in
theorem i_X1_4 {E : vE} {l : Launch} {Q : Option Value → vS → vM → Prop} {L : Nat} {M : vM} (X0 : StepC M) (hQ : ∀ M1 : vM, (∀ z, z < 4 → M1 z = M z) → M1 4 3 = nI (4 * 4) → (∀ c, c < 36 → M1 5 c = nI 0 ∧ M1 6 c = nI 0) → (∀ c, c < 4 * 4 → ∀ d, d < 4 → M1 7 (4 * c + d) = oI (-1) (nb 4 4 c d)) → Q none (Sx8 L) M1) : PM E l mX1_init 0 [.ref 4] [] (Sx2 L) M 0 0 Q := by
  have z0 : Zr 5 5 M M := Zr.rf
  refine x_aload_n dX1_init_0 rfl ?_
  refine x_objInit oiX1_3 w_oi w_oc (Nat.le_of_ble_eq_true rfl) (Nat.le_of_ble_eq_true rfl) dX1_init_1 ?_
  refine x_aload_n dX1_init_4 rfl ?_
  refine x_bipush dX1_init_5 bipush_36 ?_
  refine w_newI (q := 5) (S' := (Sx3 L)) rfl rfl rfl rfl rfl rfl rfl rfl dX1_init_7 ?_
  have z1 : Zr 5 6 M _ := z0.add (by omega)
  refine w_putR (S' := (Sx4 L)) (ci := 1) (k := 0) (len := 4) (refs := []) rfl rfl plX1_9 rfl rfl rfl rfl (fun _ => rfl) (fun _ => rfl) rfl rfl rfl dX1_init_9 ?_
  refine x_aload_n dX1_init_12 rfl ?_
  refine x_bipush dX1_init_13 bipush_36 ?_
  refine w_newI (q := 6) (S' := (Sx5 L)) rfl rfl rfl rfl rfl rfl rfl rfl dX1_init_15 ?_
  have z2 : Zr 5 7 M _ := z1.add (by omega)
  refine w_putR (S' := (Sx6 L)) (ci := 1) (k := 1) (len := 4) (refs := [6]) rfl rfl plX1_15 rfl rfl rfl rfl (fun _ => rfl) (fun _ => rfl) rfl rfl rfl dX1_init_17 ?_
  refine x_aload_n dX1_init_20 rfl ?_
  refine x_sipush dX1_init_21 sipush_144 ?_
  refine w_newI (q := 7) (S' := (Sx7 L)) rfl rfl rfl rfl rfl rfl rfl rfl dX1_init_24 ?_
  have z3 : Zr 5 8 M _ := z2.add (by omega)
  refine w_putR (S' := (Sx8 L)) (ci := 1) (k := 2) (len := 4) (refs := [6, 7]) rfl rfl plX1_18 rfl rfl rfl rfl (fun _ => rfl) (fun _ => rfl) rfl rfl rfl dX1_init_26 ?_
  refine x_aload_n dX1_init_29 rfl ?_
  refine x_iconst dX1_init_30 iconst_4 ?_
  refine x_iconst dX1_init_31 iconst_4 ?_
  refine cV2 (mj := mX1_lay) lkX1_21 okX1_lay imX1_lay seX1_lay (show (Sx8 L)[4]? = some (1, 4, [6, 7, 8]) from rfl) rfl rfl rfl rfl rfl dX1_init_32 rfl (k_lay (w := 4) (h := 4) rfl rfl rfl rfl rfl rfl (X0.kept (z3.1 0 (by omega)) (z3.1 1 (by omega))) ⟨by omega, by omega, by omega, by omega⟩ (fun M1 y1 y2 y3 y4 => ?_))
  refine x_vret dX1_init_35 rfl ?_
  exact hQ M1 (fun z hz => (y1 z (by simp only [List.mem_cons, List.not_mem_nil, or_false]; omega)).trans (z3.1 z (by omega))) y2 y3 y4
set_option maxRecDepth 100000 in
set_option maxHeartbeats 4000000 in
theorem i_X5_8 {E : vE} {l : Launch} {Q : Option Value → vS → vM → Prop} {L : Nat} {M : vM} (hQ : ∀ M1 : vM, Zr 9 12 M M1 → Q none (Sx16 L) M1) : PM E l mX5_init 0 [.ref 8] [] (Sx10 L) M 0 0 Q := by
  have z0 : Zr 9 9 M M := Zr.rf
  refine x_aload_n dX5_init_0 rfl ?_
  refine x_objInit oiX5_3 w_oi w_oc (Nat.le_of_ble_eq_true rfl) (Nat.le_of_ble_eq_true rfl) dX5_init_1 ?_
  refine x_aload_n dX5_init_4 rfl ?_
  refine x_bipush dX5_init_5 bipush_12 ?_
  refine w_newI (q := 9) (S' := (Sx11 L)) rfl rfl rfl rfl rfl rfl rfl rfl dX5_init_7 ?_
  have z1 : Zr 9 10 M _ := z0.add (by omega)
  refine w_putR (S' := (Sx12 L)) (ci := 5) (k := 0) (len := 4) (refs := []) rfl rfl plX5_9 rfl rfl rfl rfl (fun _ => rfl) (fun _ => rfl) rfl rfl rfl dX5_init_9 ?_
  refine x_aload_n dX5_init_12 rfl ?_
  refine x_bipush dX5_init_13 bipush_12 ?_
  refine w_newI (q := 10) (S' := (Sx13 L)) rfl rfl rfl rfl rfl rfl rfl rfl dX5_init_15 ?_
  have z2 : Zr 9 11 M _ := z1.add (by omega)
  refine w_putR (S' := (Sx14 L)) (ci := 5) (k := 1) (len := 4) (refs := [10]) rfl rfl plX5_15 rfl rfl rfl rfl (fun _ => rfl) (fun _ => rfl) rfl rfl rfl dX5_init_17 ?_
  refine x_aload_n dX5_init_20 rfl ?_
  refine x_bipush dX5_init_21 bipush_12 ?_
  refine w_newI (q := 11) (S' := (Sx15 L)) rfl rfl rfl rfl rfl rfl rfl rfl dX5_init_23 ?_
  have z3 : Zr 9 12 M _ := z2.add (by omega)
  refine w_putR (S' := (Sx16 L)) (ci := 5) (k := 2) (len := 4) (refs := [10, 11]) rfl rfl plX5_18 rfl rfl rfl rfl (fun _ => rfl) (fun _ => rfl) rfl rfl rfl dX5_init_25 ?_
  refine x_vret dX5_init_28 rfl ?_
  exact hQ _ z3
set_option maxRecDepth 100000 in
set_option maxHeartbeats 4000000 in
theorem i_X0_12 {E : vE} {l : Launch} {Q : Option Value → vS → vM → Prop} {L : Nat} {M : vM} (hQ : ∀ M1 : vM, Zr 13 21 M M1 → Q none (Sx35 L) M1) : PM E l mX0_init 0 [.ref 12, .ref 4] [] (Sx18 L) M 0 0 Q := by
  have z0 : Zr 13 13 M M := Zr.rf
  refine x_aload_n dX0_init_0 rfl ?_
  refine x_objInit oiX0_3 w_oi w_oc (Nat.le_of_ble_eq_true rfl) (Nat.le_of_ble_eq_true rfl) dX0_init_1 ?_
  refine x_aload_n dX0_init_4 rfl ?_
  refine x_bipush dX0_init_5 bipush_6 ?_
  refine w_newZ (q := 13) (S' := (Sx19 L)) rfl rfl rfl rfl rfl rfl rfl rfl dX0_init_7 ?_
  have z1 : Zr 13 14 M _ := z0.add (by omega)
  refine w_putR (S' := (Sx20 L)) (ci := 0) (k := 1) (len := 11) (refs := []) rfl rfl plX0_9 rfl rfl rfl rfl (fun _ => rfl) (fun _ => rfl) rfl rfl rfl dX0_init_9 ?_
  refine x_aload_n dX0_init_12 rfl ?_
  refine x_bipush dX0_init_13 bipush_6 ?_
  refine w_newI (q := 14) (S' := (Sx21 L)) rfl rfl rfl rfl rfl rfl rfl rfl dX0_init_15 ?_
  have z2 : Zr 13 15 M _ := z1.add (by omega)
  refine w_putR (S' := (Sx22 L)) (ci := 0) (k := 2) (len := 11) (refs := [0, 14]) rfl rfl plX0_15 rfl rfl rfl rfl (fun _ => rfl) (fun _ => rfl) rfl rfl rfl dX0_init_17 ?_
  refine x_aload_n dX0_init_20 rfl ?_
  refine x_bipush dX0_init_21 bipush_6 ?_
  refine w_newI (q := 15) (S' := (Sx23 L)) rfl rfl rfl rfl rfl rfl rfl rfl dX0_init_23 ?_
  have z3 : Zr 13 16 M _ := z2.add (by omega)
  refine w_putR (S' := (Sx24 L)) (ci := 0) (k := 3) (len := 11) (refs := [0, 14, 15]) rfl rfl plX0_19 rfl rfl rfl rfl (fun _ => rfl) (fun _ => rfl) rfl rfl rfl dX0_init_25 ?_
  refine x_aload_n dX0_init_28 rfl ?_
  refine x_bipush dX0_init_29 bipush_6 ?_
  refine w_newI (q := 16) (S' := (Sx25 L)) rfl rfl rfl rfl rfl rfl rfl rfl dX0_init_31 ?_
  have z4 : Zr 13 17 M _ := z3.add (by omega)
  refine w_putR (S' := (Sx26 L)) (ci := 0) (k := 4) (len := 11) (refs := [0, 14, 15, 16]) rfl rfl plX0_22 rfl rfl rfl rfl (fun _ => rfl) (fun _ => rfl) rfl rfl rfl dX0_init_33 ?_
  refine x_aload_n dX0_init_36 rfl ?_
  refine x_bipush dX0_init_37 bipush_6 ?_
  refine w_newI (q := 17) (S' := (Sx27 L)) rfl rfl rfl rfl rfl rfl rfl rfl dX0_init_39 ?_
  have z5 : Zr 13 18 M _ := z4.add (by omega)
  refine w_putR (S' := (Sx28 L)) (ci := 0) (k := 5) (len := 11) (refs := [0, 14, 15, 16, 17]) rfl rfl plX0_25 rfl rfl rfl rfl (fun _ => rfl) (fun _ => rfl) rfl rfl rfl dX0_init_41 ?_
  refine x_aload_n dX0_init_44 rfl ?_
  refine x_sipush dX0_init_45 sipush_216 ?_
  refine w_newI (q := 18) (S' := (Sx29 L)) rfl rfl rfl rfl rfl rfl rfl rfl dX0_init_48 ?_
  have z6 : Zr 13 19 M _ := z5.add (by omega)
  refine w_putR (S' := (Sx30 L)) (ci := 0) (k := 6) (len := 11) (refs := [0, 14, 15, 16, 17, 18]) rfl rfl plX0_28 rfl rfl rfl rfl (fun _ => rfl) (fun _ => rfl) rfl rfl rfl dX0_init_50 ?_
  refine x_aload_n dX0_init_53 rfl ?_
  refine x_sipush dX0_init_54 sipush_216 ?_
  refine w_newI (q := 19) (S' := (Sx31 L)) rfl rfl rfl rfl rfl rfl rfl rfl dX0_init_57 ?_
  have z7 : Zr 13 20 M _ := z6.add (by omega)
  refine w_putR (S' := (Sx32 L)) (ci := 0) (k := 7) (len := 11) (refs := [0, 14, 15, 16, 17, 18, 19]) rfl rfl plX0_31 rfl rfl rfl rfl (fun _ => rfl) (fun _ => rfl) rfl rfl rfl dX0_init_59 ?_
  refine x_aload_n dX0_init_62 rfl ?_
  refine x_bipush dX0_init_63 bipush_36 ?_
  refine w_newI (q := 20) (S' := (Sx33 L)) rfl rfl rfl rfl rfl rfl rfl rfl dX0_init_65 ?_
  have z8 : Zr 13 21 M _ := z7.add (by omega)
  refine w_putR (S' := (Sx34 L)) (ci := 0) (k := 8) (len := 11) (refs := [0, 14, 15, 16, 17, 18, 19, 20]) rfl rfl plX0_34 rfl rfl rfl rfl (fun _ => rfl) (fun _ => rfl) rfl rfl rfl dX0_init_67 ?_
  refine x_aload_n dX0_init_70 rfl ?_
  refine x_aload_n dX0_init_71 rfl ?_
  refine w_putR (S' := (Sx35 L)) (ci := 0) (k := 0) (len := 11) (refs := [0, 14, 15, 16, 17, 18, 19, 20, 21]) rfl rfl plX0_37 rfl rfl rfl rfl (fun _ => rfl) (fun _ => rfl) rfl rfl rfl dX0_init_72 ?_
  refine x_vret dX0_init_75 rfl ?_
  exact hQ _ z8
set_option maxRecDepth 100000 in
set_option maxHeartbeats 4000000 in
theorem i_X3_21 {E : vE} {l : Launch} {Q : Option Value → vS → vM → Prop} {L : Nat} {M : vM} (hQ : ∀ M1 : vM, Zr 22 23 M M1 → Q none (Sx39 L) M1) : PM E l mX3_init 0 [.ref 21] [] (Sx37 L) M 0 0 Q := by
  have z0 : Zr 22 22 M M := Zr.rf
  refine x_aload_n dX3_init_0 rfl ?_
  refine x_objInit oiX3_3 w_oi w_oc (Nat.le_of_ble_eq_true rfl) (Nat.le_of_ble_eq_true rfl) dX3_init_1 ?_
  refine x_aload_n dX3_init_4 rfl ?_
  refine x_bipush dX3_init_5 bipush_6 ?_
  refine w_newI (q := 22) (S' := (Sx38 L)) rfl rfl rfl rfl rfl rfl rfl rfl dX3_init_7 ?_
  have z1 : Zr 22 23 M _ := z0.add (by omega)
  refine w_putR (S' := (Sx39 L)) (ci := 3) (k := 0) (len := 2) (refs := []) rfl rfl plX3_9 rfl rfl rfl rfl (fun _ => rfl) (fun _ => rfl) rfl rfl rfl dX3_init_9 ?_
  refine x_vret dX3_init_12 rfl ?_
  exact hQ _ z1
set_option maxRecDepth 100000 in
set_option maxHeartbeats 4000000 in
theorem i_X3_23 {E : vE} {l : Launch} {Q : Option Value → vS → vM → Prop} {L : Nat} {M : vM} (hQ : ∀ M1 : vM, Zr 24 25 M M1 → Q none (Sx43 L) M1) : PM E l mX3_init 0 [.ref 23] [] (Sx41 L) M 0 0 Q := by
  have z0 : Zr 24 24 M M := Zr.rf
  refine x_aload_n dX3_init_0 rfl ?_
  refine x_objInit oiX3_3 w_oi w_oc (Nat.le_of_ble_eq_true rfl) (Nat.le_of_ble_eq_true rfl) dX3_init_1 ?_
  refine x_aload_n dX3_init_4 rfl ?_
  refine x_bipush dX3_init_5 bipush_6 ?_
  refine w_newI (q := 24) (S' := (Sx42 L)) rfl rfl rfl rfl rfl rfl rfl rfl dX3_init_7 ?_
  have z1 : Zr 24 25 M _ := z0.add (by omega)
  refine w_putR (S' := (Sx43 L)) (ci := 3) (k := 0) (len := 2) (refs := []) rfl rfl plX3_9 rfl rfl rfl rfl (fun _ => rfl) (fun _ => rfl) rfl rfl rfl dX3_init_9 ?_
  refine x_vret dX3_init_12 rfl ?_
  exact hQ _ z1
set_option maxRecDepth 100000 in
set_option maxHeartbeats 4000000 in
theorem i_X3_25 {E : vE} {l : Launch} {Q : Option Value → vS → vM → Prop} {L : Nat} {M : vM} (hQ : ∀ M1 : vM, Zr 26 27 M M1 → Q none (Sx47 L) M1) : PM E l mX3_init 0 [.ref 25] [] (Sx45 L) M 0 0 Q := by
  have z0 : Zr 26 26 M M := Zr.rf
  refine x_aload_n dX3_init_0 rfl ?_
  refine x_objInit oiX3_3 w_oi w_oc (Nat.le_of_ble_eq_true rfl) (Nat.le_of_ble_eq_true rfl) dX3_init_1 ?_
  refine x_aload_n dX3_init_4 rfl ?_
  refine x_bipush dX3_init_5 bipush_6 ?_
  refine w_newI (q := 26) (S' := (Sx46 L)) rfl rfl rfl rfl rfl rfl rfl rfl dX3_init_7 ?_
  have z1 : Zr 26 27 M _ := z0.add (by omega)
  refine w_putR (S' := (Sx47 L)) (ci := 3) (k := 0) (len := 2) (refs := []) rfl rfl plX3_9 rfl rfl rfl rfl (fun _ => rfl) (fun _ => rfl) rfl rfl rfl dX3_init_9 ?_
  refine x_vret dX3_init_12 rfl ?_
  exact hQ _ z1
set_option maxRecDepth 100000 in
set_option maxHeartbeats 4000000 in
theorem i_X4_27 {E : vE} {l : Launch} {Q : Option Value → vS → vM → Prop} {L : Nat} {M : vM} (hQ : ∀ M1 : vM, Zr 28 32 M M1 → Q none (Sx60 L) M1) : PM E l mX4_init 0 [.ref 27, .ref 4, .ref 8, .ref 12] [] (Sx49 L) M 0 0 Q := by
  have z0 : Zr 28 28 M M := Zr.rf
  refine x_aload_n dX4_init_0 rfl ?_
  refine x_objInit oiX4_3 w_oi w_oc (Nat.le_of_ble_eq_true rfl) (Nat.le_of_ble_eq_true rfl) dX4_init_1 ?_
  refine x_aload_n dX4_init_4 rfl ?_
  refine x_bipush dX4_init_5 bipush_12 ?_
  refine w_newI (q := 28) (S' := (Sx50 L)) rfl rfl rfl rfl rfl rfl rfl rfl dX4_init_7 ?_
  have z1 : Zr 28 29 M _ := z0.add (by omega)
  refine w_putR (S' := (Sx51 L)) (ci := 4) (k := 3) (len := 8) (refs := []) rfl rfl plX4_9 rfl rfl rfl rfl (fun _ => rfl) (fun _ => rfl) rfl rfl rfl dX4_init_9 ?_
  refine x_aload_n dX4_init_12 rfl ?_
  refine x_bipush dX4_init_13 bipush_12 ?_
  refine w_newI (q := 29) (S' := (Sx52 L)) rfl rfl rfl rfl rfl rfl rfl rfl dX4_init_15 ?_
  have z2 : Zr 28 30 M _ := z1.add (by omega)
  refine w_putR (S' := (Sx53 L)) (ci := 4) (k := 4) (len := 8) (refs := [0, 0, 0, 29]) rfl rfl plX4_15 rfl rfl rfl rfl (fun _ => rfl) (fun _ => rfl) rfl rfl rfl dX4_init_17 ?_
  refine x_aload_n dX4_init_20 rfl ?_
  refine x_bipush dX4_init_21 bipush_12 ?_
  refine w_newI (q := 30) (S' := (Sx54 L)) rfl rfl rfl rfl rfl rfl rfl rfl dX4_init_23 ?_
  have z3 : Zr 28 31 M _ := z2.add (by omega)
  refine w_putR (S' := (Sx55 L)) (ci := 4) (k := 5) (len := 8) (refs := [0, 0, 0, 29, 30]) rfl rfl plX4_18 rfl rfl rfl rfl (fun _ => rfl) (fun _ => rfl) rfl rfl rfl dX4_init_25 ?_
  refine x_aload_n dX4_init_28 rfl ?_
  refine x_bipush dX4_init_29 bipush_12 ?_
  refine w_newI (q := 31) (S' := (Sx56 L)) rfl rfl rfl rfl rfl rfl rfl rfl dX4_init_31 ?_
  have z4 : Zr 28 32 M _ := z3.add (by omega)
  refine w_putR (S' := (Sx57 L)) (ci := 4) (k := 6) (len := 8) (refs := [0, 0, 0, 29, 30, 31]) rfl rfl plX4_21 rfl rfl rfl rfl (fun _ => rfl) (fun _ => rfl) rfl rfl rfl dX4_init_33 ?_
  refine x_aload_n dX4_init_36 rfl ?_
  refine x_aload_n dX4_init_37 rfl ?_
  refine w_putR (S' := (Sx58 L)) (ci := 4) (k := 0) (len := 8) (refs := [0, 0, 0, 29, 30, 31, 32]) rfl rfl plX4_24 rfl rfl rfl rfl (fun _ => rfl) (fun _ => rfl) rfl rfl rfl dX4_init_38 ?_
  refine x_aload_n dX4_init_41 rfl ?_
  refine x_aload_n dX4_init_42 rfl ?_
  refine w_putR (S' := (Sx59 L)) (ci := 4) (k := 1) (len := 8) (refs := [5, 0, 0, 29, 30, 31, 32]) rfl rfl plX4_28 rfl rfl rfl rfl (fun _ => rfl) (fun _ => rfl) rfl rfl rfl dX4_init_43 ?_
  refine x_aload_n dX4_init_46 rfl ?_
  refine x_aload_n dX4_init_47 rfl ?_
  refine w_putR (S' := (Sx60 L)) (ci := 4) (k := 2) (len := 8) (refs := [5, 9, 0, 29, 30, 31, 32]) rfl rfl plX4_32 rfl rfl rfl rfl (fun _ => rfl) (fun _ => rfl) rfl rfl rfl dX4_init_48 ?_
  refine x_vret dX4_init_51 rfl ?_
  exact hQ _ z4
set_option maxRecDepth 100000 in
set_option maxHeartbeats 4000000 in
theorem i_X3_33 {E : vE} {l : Launch} {Q : Option Value → vS → vM → Prop} {L : Nat} {M : vM} (hQ : ∀ M1 : vM, Zr 34 35 M M1 → Q none (Sx65 L) M1) : PM E l mX3_init 0 [.ref 33] [] (Sx63 L) M 0 0 Q := by
  have z0 : Zr 34 34 M M := Zr.rf
  refine x_aload_n dX3_init_0 rfl ?_
  refine x_objInit oiX3_3 w_oi w_oc (Nat.le_of_ble_eq_true rfl) (Nat.le_of_ble_eq_true rfl) dX3_init_1 ?_
  refine x_aload_n dX3_init_4 rfl ?_
  refine x_bipush dX3_init_5 bipush_6 ?_
  refine w_newI (q := 34) (S' := (Sx64 L)) rfl rfl rfl rfl rfl rfl rfl rfl dX3_init_7 ?_
  have z1 : Zr 34 35 M _ := z0.add (by omega)
  refine w_putR (S' := (Sx65 L)) (ci := 3) (k := 0) (len := 2) (refs := []) rfl rfl plX3_9 rfl rfl rfl rfl (fun _ => rfl) (fun _ => rfl) rfl rfl rfl dX3_init_9 ?_
  refine x_vret dX3_init_12 rfl ?_
  exact hQ _ z1
set_option maxRecDepth 100000 in
set_option maxHeartbeats 4000000 in
theorem i_X3_35 {E : vE} {l : Launch} {Q : Option Value → vS → vM → Prop} {L : Nat} {M : vM} (hQ : ∀ M1 : vM, Zr 36 37 M M1 → Q none (Sx69 L) M1) : PM E l mX3_init 0 [.ref 35] [] (Sx67 L) M 0 0 Q := by
  have z0 : Zr 36 36 M M := Zr.rf
  refine x_aload_n dX3_init_0 rfl ?_
  refine x_objInit oiX3_3 w_oi w_oc (Nat.le_of_ble_eq_true rfl) (Nat.le_of_ble_eq_true rfl) dX3_init_1 ?_
  refine x_aload_n dX3_init_4 rfl ?_
  refine x_bipush dX3_init_5 bipush_6 ?_
  refine w_newI (q := 36) (S' := (Sx68 L)) rfl rfl rfl rfl rfl rfl rfl rfl dX3_init_7 ?_
  have z1 : Zr 36 37 M _ := z0.add (by omega)
  refine w_putR (S' := (Sx69 L)) (ci := 3) (k := 0) (len := 2) (refs := []) rfl rfl plX3_9 rfl rfl rfl rfl (fun _ => rfl) (fun _ => rfl) rfl rfl rfl dX3_init_9 ?_
  refine x_vret dX3_init_12 rfl ?_
  exact hQ _ z1
set_option maxRecDepth 100000 in
set_option maxHeartbeats 4000000 in
theorem i_X6_32 {E : vE} {l : Launch} {Q : Option Value → vS → vM → Prop} {L : Nat} {M : vM} (hQ : ∀ M1 : vM, (∀ z, z < 32 → M1 z = M z) → M1 32 = upd (M 32) 6 (bI true) → (∀ z, 33 ≤ z → z < 37 → M1 z = fun _ => 0) → Q none (Sx72 L) M1) : PM E l mX6_init 0 [.ref 32, .ref 12, .ref 27] [] (Sx62 L) M 0 0 Q := by
  have z0 : Zr 33 33 M M := Zr.rf
  refine x_aload_n dX6_init_0 rfl ?_
  refine x_objInit oiX6_3 w_oi w_oc (Nat.le_of_ble_eq_true rfl) (Nat.le_of_ble_eq_true rfl) dX6_init_1 ?_
  refine x_aload_n dX6_init_4 rfl ?_
  refine w_new (q := 33) (S' := (Sx63 L)) nkX6_9 df3 rfl rfl rfl rfl rfl rfl rfl dX6_init_5 ?_
  have z1 : Zr 33 34 M _ := z0.add (by omega)
  refine x_dup dX6_init_8 rfl ?_
  refine cI0 (mj := mX3_init) lkX6_11 okX3_init imX3_init rfl rfl rfl rfl dX6_init_9 rfl (i_X3_33 (fun M1002 y1002 => ?_))
  have z2 : Zr 33 35 M M1002 := z1.app y1002 (by omega)
  refine w_putR (S' := (Sx66 L)) (ci := 6) (k := 2) (len := 7) (refs := []) rfl rfl plX6_12 rfl rfl rfl rfl (fun _ => rfl) (fun _ => rfl) rfl rfl rfl dX6_init_12 ?_
  refine x_aload_n dX6_init_15 rfl ?_
  refine w_new (q := 35) (S' := (Sx67 L)) nkX6_9 df3 rfl rfl rfl rfl rfl rfl rfl dX6_init_16 ?_
  have z3 : Zr 33 36 M _ := z2.add (by omega)
  refine x_dup dX6_init_19 rfl ?_
  refine cI0 (mj := mX3_init) lkX6_11 okX3_init imX3_init rfl rfl rfl rfl dX6_init_20 rfl (i_X3_35 (fun M1004 y1004 => ?_))
  have z4 : Zr 33 37 M M1004 := z3.app y1004 (by omega)
  refine w_putR (S' := (Sx70 L)) (ci := 6) (k := 3) (len := 7) (refs := [0, 0, 34]) rfl rfl plX6_18 rfl rfl rfl rfl (fun _ => rfl) (fun _ => rfl) rfl rfl rfl dX6_init_23 ?_
  refine x_aload_n dX6_init_26 rfl ?_
  refine x_iconst dX6_init_27 iconst_1 ?_
  refine x_as (show nI 1 = bI true from rfl) ?_
  refine g_Pz (show (Sx70 L)[32]? = some (6, 7, [0, 0, 34, 36]) from rfl) fkX6_21 rfl rfl rfl rfl dX6_init_28 ?_
  have hp := z4
  refine x_aload_n dX6_init_31 rfl ?_
  refine x_aload_n dX6_init_32 rfl ?_
  refine w_putR (S' := (Sx71 L)) (ci := 6) (k := 0) (len := 7) (refs := [0, 0, 34, 36]) rfl rfl plX6_25 rfl rfl rfl rfl (fun _ => rfl) (fun _ => rfl) rfl rfl rfl dX6_init_33 ?_
  refine x_aload_n dX6_init_36 rfl ?_
  refine x_aload_n dX6_init_37 rfl ?_
  refine w_putR (S' := (Sx72 L)) (ci := 6) (k := 1) (len := 7) (refs := [13, 0, 34, 36]) rfl rfl plX6_29 rfl rfl rfl rfl (fun _ => rfl) (fun _ => rfl) rfl rfl rfl dX6_init_38 ?_
  refine x_vret dX6_init_41 rfl ?_
  refine hQ _ (fun z hz => (sM_ne _ _ _ (by omega)).trans (hp.1 z (by omega))) ?_ (fun z h1 h2 => (sM_ne _ _ _ (by omega)).trans (hp.2 z h1 h2))
  rw [sM_at, hp.1 32 (by omega)]
set_option maxRecDepth 100000 in
set_option maxHeartbeats 4000000 in
theorem i_X7_37 {E : vE} {l : Launch} {Q : Option Value → vS → vM → Prop} {L : Nat} {M : vM} (hQ : ∀ M1 : vM, Zr 38 39 M M1 → Q none (Sx78 L) M1) : PM E l mX7_init 0 [.ref 37, .ref 4, .ref 12] [] (Sx74 L) M 0 0 Q := by
  have z0 : Zr 38 38 M M := Zr.rf
  refine x_aload_n dX7_init_0 rfl ?_
  refine x_objInit oiX7_3 w_oi w_oc (Nat.le_of_ble_eq_true rfl) (Nat.le_of_ble_eq_true rfl) dX7_init_1 ?_
  refine x_aload_n dX7_init_4 rfl ?_
  refine x_bipush dX7_init_5 bipush_36 ?_
  refine w_newI (q := 38) (S' := (Sx75 L)) rfl rfl rfl rfl rfl rfl rfl rfl dX7_init_7 ?_
  have z1 : Zr 38 39 M _ := z0.add (by omega)
  refine w_putR (S' := (Sx76 L)) (ci := 7) (k := 2) (len := 3) (refs := []) rfl rfl plX7_9 rfl rfl rfl rfl (fun _ => rfl) (fun _ => rfl) rfl rfl rfl dX7_init_9 ?_
  refine x_aload_n dX7_init_12 rfl ?_
  refine x_aload_n dX7_init_13 rfl ?_
  refine w_putR (S' := (Sx77 L)) (ci := 7) (k := 0) (len := 3) (refs := [0, 0, 39]) rfl rfl plX7_15 rfl rfl rfl rfl (fun _ => rfl) (fun _ => rfl) rfl rfl rfl dX7_init_14 ?_
  refine x_aload_n dX7_init_17 rfl ?_
  refine x_aload_n dX7_init_18 rfl ?_
  refine w_putR (S' := (Sx78 L)) (ci := 7) (k := 1) (len := 3) (refs := [5, 0, 39]) rfl rfl plX7_19 rfl rfl rfl rfl (fun _ => rfl) (fun _ => rfl) rfl rfl rfl dX7_init_19 ?_
  refine x_vret dX7_init_22 rfl ?_
  exact hQ _ z1
set_option maxRecDepth 100000 in
set_option maxHeartbeats 4000000 in
theorem i_X2_39 {E : vE} {l : Launch} {Q : Option Value → vS → vM → Prop} {L : Nat} {M : vM} (hQ : ∀ M1 : vM, Zr 40 42 M M1 → Q none (Sx84 L) M1) : PM E l mX2_init 0 [.ref 39] [] (Sx80 L) M 0 0 Q := by
  have z0 : Zr 40 40 M M := Zr.rf
  refine x_aload_n dX2_init_0 rfl ?_
  refine x_objInit oiX2_3 w_oi w_oc (Nat.le_of_ble_eq_true rfl) (Nat.le_of_ble_eq_true rfl) dX2_init_1 ?_
  refine x_aload_n dX2_init_4 rfl ?_
  refine x_bipush dX2_init_5 bipush_10 ?_
  refine w_newI (q := 40) (S' := (Sx81 L)) rfl rfl rfl rfl rfl rfl rfl rfl dX2_init_7 ?_
  have z1 : Zr 40 41 M _ := z0.add (by omega)
  refine w_putR (S' := (Sx82 L)) (ci := 2) (k := 0) (len := 5) (refs := []) rfl rfl plX2_9 rfl rfl rfl rfl (fun _ => rfl) (fun _ => rfl) rfl rfl rfl dX2_init_9 ?_
  refine x_aload_n dX2_init_12 rfl ?_
  refine x_bipush dX2_init_13 bipush_10 ?_
  refine w_newI (q := 41) (S' := (Sx83 L)) rfl rfl rfl rfl rfl rfl rfl rfl dX2_init_15 ?_
  have z2 : Zr 40 42 M _ := z1.add (by omega)
  refine w_putR (S' := (Sx84 L)) (ci := 2) (k := 1) (len := 5) (refs := [41]) rfl rfl plX2_15 rfl rfl rfl rfl (fun _ => rfl) (fun _ => rfl) rfl rfl rfl dX2_init_17 ?_
  refine x_vret dX2_init_20 rfl ?_
  exact hQ _ z2
set_option maxRecDepth 100000 in
set_option maxHeartbeats 4000000 in
theorem i_X8_3 {E : vE} {l : Launch} {Q : Option Value → vS → vM → Prop} {L : Nat} {M : vM} (X0 : StepC M) (hQ : ∀ M1 : vM, (∀ z, z < 4 → M1 z = M z) → M1 4 3 = nI (4 * 4) → (∀ c, c < 36 → M1 5 c = nI 0 ∧ M1 6 c = nI 0) → (∀ c, c < 4 * 4 → ∀ d, d < 4 → M1 7 (4 * c + d) = oI (-1) (nb 4 4 c d)) → (∀ z, 8 ≤ z → z < 42 → z ≠ 32 → M1 z = fun _ => 0) → M1 32 6 = bI true → Q none (Sx85 L) M1) : PM E l mX8_init 0 [.ref 3] [] (Sx1 L) M 0 0 Q := by
  have z0 : Zr 4 4 M M := Zr.rf
  refine x_aload_n dX8_init_0 rfl ?_
  refine x_objInit oiX8_1 w_oi w_oc (Nat.le_of_ble_eq_true rfl) (Nat.le_of_ble_eq_true rfl) dX8_init_1 ?_
  refine x_aload_n dX8_init_4 rfl ?_
  refine w_new (q := 4) (S' := (Sx2 L)) nkX8_7 df1 rfl rfl rfl rfl rfl rfl rfl dX8_init_5 ?_
  have z1 : Zr 4 5 M _ := z0.add (by omega)
  refine x_dup dX8_init_8 rfl ?_
  refine cI0 (mj := mX1_init) lkX8_9 okX1_init imX1_init rfl rfl rfl rfl dX8_init_9 rfl (i_X1_4 (X0.kept (z1.1 0 (by omega)) (z1.1 1 (by omega))) (fun M8 y1 y2 y3 y4 => ?_))
  have z99 : Zr 8 8 M8 M8 := Zr.rf
  have w1 : ∀ z, z < 4 → M8 z = M z := fun z hz => (y1 z hz).trans (z1.1 z hz)
  refine w_putR (S' := (Sx9 L)) (ci := 8) (k := 0) (len := 10) (refs := []) rfl rfl plX8_10 rfl rfl rfl rfl (fun _ => rfl) (fun _ => rfl) rfl rfl rfl dX8_init_12 ?_
  refine x_aload_n dX8_init_15 rfl ?_
  refine w_new (q := 8) (S' := (Sx10 L)) nkX8_16 df5 rfl rfl rfl rfl rfl rfl rfl dX8_init_16 ?_
  have z100 : Zr 8 9 M8 _ := z99.add (by omega)
  refine x_dup dX8_init_19 rfl ?_
  refine cI0 (mj := mX5_init) lkX8_18 okX5_init imX5_init rfl rfl rfl rfl dX8_init_20 rfl (i_X5_8 (fun M1101 y1101 => ?_))
  have z101 : Zr 8 12 M8 M1101 := z100.app y1101 (by omega)
  refine w_putR (S' := (Sx17 L)) (ci := 8) (k := 1) (len := 10) (refs := [5]) rfl rfl plX8_19 rfl rfl rfl rfl (fun _ => rfl) (fun _ => rfl) rfl rfl rfl dX8_init_23 ?_
  refine x_aload_n dX8_init_26 rfl ?_
  refine w_new (q := 12) (S' := (Sx18 L)) nkX8_23 df0 rfl rfl rfl rfl rfl rfl rfl dX8_init_27 ?_
  have z102 : Zr 8 13 M8 _ := z101.add (by omega)
  refine x_dup dX8_init_30 rfl ?_
  refine x_aload_n dX8_init_31 rfl ?_
  refine g_R (show (Sx18 L)[3]? = some (8, 10, [5, 9]) from rfl) fkX8_10 rfl rfl rfl dX8_init_32 ?_
  refine cI1 (mj := mX0_init) lkX8_25 okX0_init imX0_init rfl rfl rfl rfl dX8_init_35 rfl (i_X0_12 (fun M1103 y1103 => ?_))
  have z103 : Zr 8 21 M8 M1103 := z102.app y1103 (by omega)
  refine w_putR (S' := (Sx36 L)) (ci := 8) (k := 2) (len := 10) (refs := [5, 9]) rfl rfl plX8_28 rfl rfl rfl rfl (fun _ => rfl) (fun _ => rfl) rfl rfl rfl dX8_init_38 ?_
  refine x_aload_n dX8_init_41 rfl ?_
  refine w_new (q := 21) (S' := (Sx37 L)) nkX8_32 df3 rfl rfl rfl rfl rfl rfl rfl dX8_init_42 ?_
  have z104 : Zr 8 22 M8 _ := z103.add (by omega)
  refine x_dup dX8_init_45 rfl ?_
  refine cI0 (mj := mX3_init) lkX8_34 okX3_init imX3_init rfl rfl rfl rfl dX8_init_46 rfl (i_X3_21 (fun M1105 y1105 => ?_))
  have z105 : Zr 8 23 M8 M1105 := z104.app y1105 (by omega)
  refine w_putR (S' := (Sx40 L)) (ci := 8) (k := 3) (len := 10) (refs := [5, 9, 13]) rfl rfl plX8_35 rfl rfl rfl rfl (fun _ => rfl) (fun _ => rfl) rfl rfl rfl dX8_init_49 ?_
  refine x_aload_n dX8_init_52 rfl ?_
  refine w_new (q := 23) (S' := (Sx41 L)) nkX8_32 df3 rfl rfl rfl rfl rfl rfl rfl dX8_init_53 ?_
  have z106 : Zr 8 24 M8 _ := z105.add (by omega)
  refine x_dup dX8_init_56 rfl ?_
  refine cI0 (mj := mX3_init) lkX8_34 okX3_init imX3_init rfl rfl rfl rfl dX8_init_57 rfl (i_X3_23 (fun M1107 y1107 => ?_))
  have z107 : Zr 8 25 M8 M1107 := z106.app y1107 (by omega)
  refine w_putR (S' := (Sx44 L)) (ci := 8) (k := 4) (len := 10) (refs := [5, 9, 13, 22]) rfl rfl plX8_39 rfl rfl rfl rfl (fun _ => rfl) (fun _ => rfl) rfl rfl rfl dX8_init_60 ?_
  refine x_aload_n dX8_init_63 rfl ?_
  refine w_new (q := 25) (S' := (Sx45 L)) nkX8_32 df3 rfl rfl rfl rfl rfl rfl rfl dX8_init_64 ?_
  have z108 : Zr 8 26 M8 _ := z107.add (by omega)
  refine x_dup dX8_init_67 rfl ?_
  refine cI0 (mj := mX3_init) lkX8_34 okX3_init imX3_init rfl rfl rfl rfl dX8_init_68 rfl (i_X3_25 (fun M1109 y1109 => ?_))
  have z109 : Zr 8 27 M8 M1109 := z108.app y1109 (by omega)
  refine w_putR (S' := (Sx48 L)) (ci := 8) (k := 5) (len := 10) (refs := [5, 9, 13, 22, 24]) rfl rfl plX8_42 rfl rfl rfl rfl (fun _ => rfl) (fun _ => rfl) rfl rfl rfl dX8_init_71 ?_
  refine x_aload_n dX8_init_74 rfl ?_
  refine w_new (q := 27) (S' := (Sx49 L)) nkX8_45 df4 rfl rfl rfl rfl rfl rfl rfl dX8_init_75 ?_
  have z110 : Zr 8 28 M8 _ := z109.add (by omega)
  refine x_dup dX8_init_78 rfl ?_
  refine x_aload_n dX8_init_79 rfl ?_
  refine g_R (show (Sx49 L)[3]? = some (8, 10, [5, 9, 13, 22, 24, 26]) from rfl) fkX8_10 rfl rfl rfl dX8_init_80 ?_
  refine x_aload_n dX8_init_83 rfl ?_
  refine g_R (show (Sx49 L)[3]? = some (8, 10, [5, 9, 13, 22, 24, 26]) from rfl) fkX8_19 rfl rfl rfl dX8_init_84 ?_
  refine x_aload_n dX8_init_87 rfl ?_
  refine g_R (show (Sx49 L)[3]? = some (8, 10, [5, 9, 13, 22, 24, 26]) from rfl) fkX8_28 rfl rfl rfl dX8_init_88 ?_
  refine cI3 (mj := mX4_init) lkX8_47 okX4_init imX4_init rfl rfl rfl rfl dX8_init_91 rfl (i_X4_27 (fun M1111 y1111 => ?_))
  have z111 : Zr 8 32 M8 M1111 := z110.app y1111 (by omega)
  refine w_putR (S' := (Sx61 L)) (ci := 8) (k := 6) (len := 10) (refs := [5, 9, 13, 22, 24, 26]) rfl rfl plX8_50 rfl rfl rfl rfl (fun _ => rfl) (fun _ => rfl) rfl rfl rfl dX8_init_94 ?_
  refine x_aload_n dX8_init_97 rfl ?_
  refine w_new (q := 32) (S' := (Sx62 L)) nkX8_54 df6 rfl rfl rfl rfl rfl rfl rfl dX8_init_98 ?_
  have z112 : Zr 8 33 M8 _ := z111.add (by omega)
  refine x_dup dX8_init_101 rfl ?_
  refine x_aload_n dX8_init_102 rfl ?_
  refine g_R (show (Sx62 L)[3]? = some (8, 10, [5, 9, 13, 22, 24, 26, 28]) from rfl) fkX8_28 rfl rfl rfl dX8_init_103 ?_
  refine x_aload_n dX8_init_106 rfl ?_
  refine g_R (show (Sx62 L)[3]? = some (8, 10, [5, 9, 13, 22, 24, 26, 28]) from rfl) fkX8_50 rfl rfl rfl dX8_init_107 ?_
  refine cI2 (mj := mX6_init) lkX8_56 okX6_init imX6_init rfl rfl rfl rfl dX8_init_110 rfl (i_X6_32 (fun M37 y5 y6 y7 => ?_))
  have w2 := z112
  have z199 : Zr 37 37 M37 M37 := Zr.rf
  refine w_putR (S' := (Sx73 L)) (ci := 8) (k := 7) (len := 10) (refs := [5, 9, 13, 22, 24, 26, 28]) rfl rfl plX8_59 rfl rfl rfl rfl (fun _ => rfl) (fun _ => rfl) rfl rfl rfl dX8_init_113 ?_
  refine x_aload_n dX8_init_116 rfl ?_
  refine w_new (q := 37) (S' := (Sx74 L)) nkX8_63 df7 rfl rfl rfl rfl rfl rfl rfl dX8_init_117 ?_
  have z200 : Zr 37 38 M37 _ := z199.add (by omega)
  refine x_dup dX8_init_120 rfl ?_
  refine x_aload_n dX8_init_121 rfl ?_
  refine g_R (show (Sx74 L)[3]? = some (8, 10, [5, 9, 13, 22, 24, 26, 28, 33]) from rfl) fkX8_10 rfl rfl rfl dX8_init_122 ?_
  refine x_aload_n dX8_init_125 rfl ?_
  refine g_R (show (Sx74 L)[3]? = some (8, 10, [5, 9, 13, 22, 24, 26, 28, 33]) from rfl) fkX8_28 rfl rfl rfl dX8_init_126 ?_
  refine cI2 (mj := mX7_init) lkX8_65 okX7_init imX7_init rfl rfl rfl rfl dX8_init_129 rfl (i_X7_37 (fun M1201 y1201 => ?_))
  have z201 : Zr 37 39 M37 M1201 := z200.app y1201 (by omega)
  refine w_putR (S' := (Sx79 L)) (ci := 8) (k := 8) (len := 10) (refs := [5, 9, 13, 22, 24, 26, 28, 33]) rfl rfl plX8_68 rfl rfl rfl rfl (fun _ => rfl) (fun _ => rfl) rfl rfl rfl dX8_init_132 ?_
  refine x_aload_n dX8_init_135 rfl ?_
  refine w_new (q := 39) (S' := (Sx80 L)) nkX8_72 df2 rfl rfl rfl rfl rfl rfl rfl dX8_init_136 ?_
  have z202 : Zr 37 40 M37 _ := z201.add (by omega)
  refine x_dup dX8_init_139 rfl ?_
  refine cI0 (mj := mX2_init) lkX8_74 okX2_init imX2_init rfl rfl rfl rfl dX8_init_140 rfl (i_X2_39 (fun M1203 y1203 => ?_))
  have z203 : Zr 37 42 M37 M1203 := z202.app y1203 (by omega)
  refine w_putR (S' := (Sx85 L)) (ci := 8) (k := 9) (len := 10) (refs := [5, 9, 13, 22, 24, 26, 28, 33, 38]) rfl rfl plX8_75 rfl rfl rfl rfl (fun _ => rfl) (fun _ => rfl) rfl rfl rfl dX8_init_143 ?_
  refine x_vret dX8_init_146 rfl ?_
  have lo8 : ∀ z, z < 8 → M37 z = M8 z := fun z hz => (y5 z (by omega)).trans (w2.1 z hz)
  refine hQ _ (fun z hz => (z203.1 z (by omega)).trans ((lo8 z (by omega)).trans (w1 z hz))) ?_ (fun c hc => ?_) (fun c hc d hd => ?_) (fun z h1 h2 h3 => ?_) ?_
  · rw [z203.1 4 (by omega), lo8 4 (by omega)]; exact y2
  · rw [z203.1 5 (by omega), lo8 5 (by omega), z203.1 6 (by omega), lo8 6 (by omega)]; exact y3 c hc
  · rw [z203.1 7 (by omega), lo8 7 (by omega)]; exact y4 c hc d hd
  · by_cases e1 : 37 ≤ z
    · exact z203.2 z e1 h2
    · by_cases e2 : z < 32
      · exact (z203.1 z (by omega)).trans ((y5 z e2).trans (w2.2 z h1 (by omega)))
      · exact (z203.1 z (by omega)).trans (y7 z (by omega) (by omega))
  · rw [z203.1 32 (by omega), y6, upd_at]
set_option maxRecDepth 100000 in
set_option maxHeartbeats 4000000 in
theorem i_X9_42 {E : vE} {l : Launch} {Q : Option Value → vS → vM → Prop} {L : Nat} {M : vM} (hQ : ∀ M1 : vM, (∀ z, z < 42 → M1 z = M z) → M1 42 0 = nI 4 → M1 42 1 = nI 4 → (∀ c, c < 36 → M1 43 c = nI 0 ∧ M1 44 c = nI 0) → M1 42 4 = nI 0 → M1 42 8 = nI 0 → M1 42 20 = nI 0 → (∀ s, s < 3 → M1 55 s = nI 0) → M1 65 = (fun _ => 0) → Q none (S0 L) M1) : PM E l mX9_init 0 [.ref 42] [] (Sx86 L) M 0 0 Q := by
  have z0 : Zr 43 43 M M := Zr.rf
  refine x_aload_n dX9_init_0 rfl ?_
  refine x_objInit oiX9_1 w_oi w_oc (Nat.le_of_ble_eq_true rfl) (Nat.le_of_ble_eq_true rfl) dX9_init_1 ?_
  refine x_aload_n dX9_init_4 rfl ?_
  refine x_bipush dX9_init_5 bipush_36 ?_
  refine w_newI (q := 43) (S' := (Sx87 L)) rfl rfl rfl rfl rfl rfl rfl rfl dX9_init_7 ?_
  have z1 : Zr 43 44 M _ := z0.add (by omega)
  refine w_putR (S' := (Sx88 L)) (ci := 9) (k := 2) (len := 33) (refs := []) rfl rfl plX9_7 rfl rfl rfl rfl (fun _ => rfl) (fun _ => rfl) rfl rfl rfl dX9_init_9 ?_
  refine x_aload_n dX9_init_12 rfl ?_
  refine x_bipush dX9_init_13 bipush_36 ?_
  refine w_newI (q := 44) (S' := (Sx89 L)) rfl rfl rfl rfl rfl rfl rfl rfl dX9_init_15 ?_
  have z2 : Zr 43 45 M _ := z1.add (by omega)
  refine w_putR (S' := (Sx90 L)) (ci := 9) (k := 3) (len := 33) (refs := [0, 0, 44]) rfl rfl plX9_13 rfl rfl rfl rfl (fun _ => rfl) (fun _ => rfl) rfl rfl rfl dX9_init_17 ?_
  refine x_aload_n dX9_init_20 rfl ?_
  refine x_bipush dX9_init_21 bipush_12 ?_
  refine w_newI (q := 45) (S' := (Sx91 L)) rfl rfl rfl rfl rfl rfl rfl rfl dX9_init_23 ?_
  have z3 : Zr 43 46 M _ := z2.add (by omega)
  refine w_putR (S' := (Sx92 L)) (ci := 9) (k := 5) (len := 33) (refs := [0, 0, 44, 45]) rfl rfl plX9_16 rfl rfl rfl rfl (fun _ => rfl) (fun _ => rfl) rfl rfl rfl dX9_init_25 ?_
  refine x_aload_n dX9_init_28 rfl ?_
  refine x_bipush dX9_init_29 bipush_12 ?_
  refine w_newI (q := 46) (S' := (Sx93 L)) rfl rfl rfl rfl rfl rfl rfl rfl dX9_init_31 ?_
  have z4 : Zr 43 47 M _ := z3.add (by omega)
  refine w_putR (S' := (Sx94 L)) (ci := 9) (k := 6) (len := 33) (refs := [0, 0, 44, 45, 0, 46]) rfl rfl plX9_19 rfl rfl rfl rfl (fun _ => rfl) (fun _ => rfl) rfl rfl rfl dX9_init_33 ?_
  refine x_aload_n dX9_init_36 rfl ?_
  refine x_bipush dX9_init_37 bipush_12 ?_
  refine w_newI (q := 47) (S' := (Sx95 L)) rfl rfl rfl rfl rfl rfl rfl rfl dX9_init_39 ?_
  have z5 : Zr 43 48 M _ := z4.add (by omega)
  refine w_putR (S' := (Sx96 L)) (ci := 9) (k := 7) (len := 33) (refs := [0, 0, 44, 45, 0, 46, 47]) rfl rfl plX9_22 rfl rfl rfl rfl (fun _ => rfl) (fun _ => rfl) rfl rfl rfl dX9_init_41 ?_
  refine x_aload_n dX9_init_44 rfl ?_
  refine x_bipush dX9_init_45 bipush_6 ?_
  refine w_newZ (q := 48) (S' := (Sx97 L)) rfl rfl rfl rfl rfl rfl rfl rfl dX9_init_47 ?_
  have z6 : Zr 43 49 M _ := z5.add (by omega)
  refine w_putR (S' := (Sx98 L)) (ci := 9) (k := 9) (len := 33) (refs := [0, 0, 44, 45, 0, 46, 47, 48]) rfl rfl plX9_25 rfl rfl rfl rfl (fun _ => rfl) (fun _ => rfl) rfl rfl rfl dX9_init_49 ?_
  refine x_aload_n dX9_init_52 rfl ?_
  refine x_bipush dX9_init_53 bipush_6 ?_
  refine w_newI (q := 49) (S' := (Sx99 L)) rfl rfl rfl rfl rfl rfl rfl rfl dX9_init_55 ?_
  have z7 : Zr 43 50 M _ := z6.add (by omega)
  refine w_putR (S' := (Sx100 L)) (ci := 9) (k := 10) (len := 33) (refs := [0, 0, 44, 45, 0, 46, 47, 48, 0, 49]) rfl rfl plX9_29 rfl rfl rfl rfl (fun _ => rfl) (fun _ => rfl) rfl rfl rfl dX9_init_57 ?_
  refine x_aload_n dX9_init_60 rfl ?_
  refine x_bipush dX9_init_61 bipush_6 ?_
  refine w_newI (q := 50) (S' := (Sx101 L)) rfl rfl rfl rfl rfl rfl rfl rfl dX9_init_63 ?_
  have z8 : Zr 43 51 M _ := z7.add (by omega)
  refine w_putR (S' := (Sx102 L)) (ci := 9) (k := 11) (len := 33) (refs := [0, 0, 44, 45, 0, 46, 47, 48, 0, 49, 50]) rfl rfl plX9_32 rfl rfl rfl rfl (fun _ => rfl) (fun _ => rfl) rfl rfl rfl dX9_init_65 ?_
  refine x_aload_n dX9_init_68 rfl ?_
  refine x_bipush dX9_init_69 bipush_6 ?_
  refine w_newI (q := 51) (S' := (Sx103 L)) rfl rfl rfl rfl rfl rfl rfl rfl dX9_init_71 ?_
  have z9 : Zr 43 52 M _ := z8.add (by omega)
  refine w_putR (S' := (Sx104 L)) (ci := 9) (k := 12) (len := 33) (refs := [0, 0, 44, 45, 0, 46, 47, 48, 0, 49, 50, 51]) rfl rfl plX9_35 rfl rfl rfl rfl (fun _ => rfl) (fun _ => rfl) rfl rfl rfl dX9_init_73 ?_
  refine x_aload_n dX9_init_76 rfl ?_
  refine x_bipush dX9_init_77 bipush_6 ?_
  refine w_newI (q := 52) (S' := (Sx105 L)) rfl rfl rfl rfl rfl rfl rfl rfl dX9_init_79 ?_
  have z10 : Zr 43 53 M _ := z9.add (by omega)
  refine w_putR (S' := (Sx106 L)) (ci := 9) (k := 13) (len := 33) (refs := [0, 0, 44, 45, 0, 46, 47, 48, 0, 49, 50, 51, 52]) rfl rfl plX9_38 rfl rfl rfl rfl (fun _ => rfl) (fun _ => rfl) rfl rfl rfl dX9_init_81 ?_
  refine x_aload_n dX9_init_84 rfl ?_
  refine x_sipush dX9_init_85 sipush_216 ?_
  refine w_newI (q := 53) (S' := (Sx107 L)) rfl rfl rfl rfl rfl rfl rfl rfl dX9_init_88 ?_
  have z11 : Zr 43 54 M _ := z10.add (by omega)
  refine w_putR (S' := (Sx108 L)) (ci := 9) (k := 14) (len := 33) (refs := [0, 0, 44, 45, 0, 46, 47, 48, 0, 49, 50, 51, 52, 53]) rfl rfl plX9_41 rfl rfl rfl rfl (fun _ => rfl) (fun _ => rfl) rfl rfl rfl dX9_init_90 ?_
  refine x_aload_n dX9_init_93 rfl ?_
  refine x_sipush dX9_init_94 sipush_216 ?_
  refine w_newI (q := 54) (S' := (Sx109 L)) rfl rfl rfl rfl rfl rfl rfl rfl dX9_init_97 ?_
  have z12 : Zr 43 55 M _ := z11.add (by omega)
  refine w_putR (S' := (Sx110 L)) (ci := 9) (k := 15) (len := 33) (refs := [0, 0, 44, 45, 0, 46, 47, 48, 0, 49, 50, 51, 52, 53, 54]) rfl rfl plX9_44 rfl rfl rfl rfl (fun _ => rfl) (fun _ => rfl) rfl rfl rfl dX9_init_99 ?_
  refine x_aload_n dX9_init_102 rfl ?_
  refine x_iconst dX9_init_103 iconst_3 ?_
  refine w_newI (q := 55) (S' := (Sx111 L)) rfl rfl rfl rfl rfl rfl rfl rfl dX9_init_104 ?_
  have z13 : Zr 43 56 M _ := z12.add (by omega)
  refine w_putR (S' := (Sx112 L)) (ci := 9) (k := 16) (len := 33) (refs := [0, 0, 44, 45, 0, 46, 47, 48, 0, 49, 50, 51, 52, 53, 54, 55]) rfl rfl plX9_47 rfl rfl rfl rfl (fun _ => rfl) (fun _ => rfl) rfl rfl rfl dX9_init_106 ?_
  refine x_aload_n dX9_init_109 rfl ?_
  refine x_bipush dX9_init_110 bipush_18 ?_
  refine w_newI (q := 56) (S' := (Sx113 L)) rfl rfl rfl rfl rfl rfl rfl rfl dX9_init_112 ?_
  have z14 : Zr 43 57 M _ := z13.add (by omega)
  refine w_putR (S' := (Sx114 L)) (ci := 9) (k := 17) (len := 33) (refs := [0, 0, 44, 45, 0, 46, 47, 48, 0, 49, 50, 51, 52, 53, 54, 55, 56]) rfl rfl plX9_50 rfl rfl rfl rfl (fun _ => rfl) (fun _ => rfl) rfl rfl rfl dX9_init_114 ?_
  refine x_aload_n dX9_init_117 rfl ?_
  refine x_bipush dX9_init_118 bipush_6 ?_
  refine w_newI (q := 57) (S' := (Sx115 L)) rfl rfl rfl rfl rfl rfl rfl rfl dX9_init_120 ?_
  have z15 : Zr 43 58 M _ := z14.add (by omega)
  refine w_putR (S' := (Sx116 L)) (ci := 9) (k := 19) (len := 33) (refs := [0, 0, 44, 45, 0, 46, 47, 48, 0, 49, 50, 51, 52, 53, 54, 55, 56, 57]) rfl rfl plX9_53 rfl rfl rfl rfl (fun _ => rfl) (fun _ => rfl) rfl rfl rfl dX9_init_122 ?_
  refine x_aload_n dX9_init_125 rfl ?_
  refine x_bipush dX9_init_126 bipush_12 ?_
  refine w_newI (q := 58) (S' := (Sx117 L)) rfl rfl rfl rfl rfl rfl rfl rfl dX9_init_128 ?_
  have z16 : Zr 43 59 M _ := z15.add (by omega)
  refine w_putR (S' := (Sx118 L)) (ci := 9) (k := 21) (len := 33) (refs := [0, 0, 44, 45, 0, 46, 47, 48, 0, 49, 50, 51, 52, 53, 54, 55, 56, 57, 0, 58]) rfl rfl plX9_56 rfl rfl rfl rfl (fun _ => rfl) (fun _ => rfl) rfl rfl rfl dX9_init_130 ?_
  refine x_aload_n dX9_init_133 rfl ?_
  refine x_bipush dX9_init_134 bipush_12 ?_
  refine w_newI (q := 59) (S' := (Sx119 L)) rfl rfl rfl rfl rfl rfl rfl rfl dX9_init_136 ?_
  have z17 : Zr 43 60 M _ := z16.add (by omega)
  refine w_putR (S' := (Sx120 L)) (ci := 9) (k := 22) (len := 33) (refs := [0, 0, 44, 45, 0, 46, 47, 48, 0, 49, 50, 51, 52, 53, 54, 55, 56, 57, 0, 58, 0, 59]) rfl rfl plX9_59 rfl rfl rfl rfl (fun _ => rfl) (fun _ => rfl) rfl rfl rfl dX9_init_138 ?_
  refine x_aload_n dX9_init_141 rfl ?_
  refine x_bipush dX9_init_142 bipush_12 ?_
  refine w_newI (q := 60) (S' := (Sx121 L)) rfl rfl rfl rfl rfl rfl rfl rfl dX9_init_144 ?_
  have z18 : Zr 43 61 M _ := z17.add (by omega)
  refine w_putR (S' := (Sx122 L)) (ci := 9) (k := 23) (len := 33) (refs := [0, 0, 44, 45, 0, 46, 47, 48, 0, 49, 50, 51, 52, 53, 54, 55, 56, 57, 0, 58, 0, 59, 60]) rfl rfl plX9_62 rfl rfl rfl rfl (fun _ => rfl) (fun _ => rfl) rfl rfl rfl dX9_init_146 ?_
  refine x_aload_n dX9_init_149 rfl ?_
  refine x_bipush dX9_init_150 bipush_12 ?_
  refine w_newI (q := 61) (S' := (Sx123 L)) rfl rfl rfl rfl rfl rfl rfl rfl dX9_init_152 ?_
  have z19 : Zr 43 62 M _ := z18.add (by omega)
  refine w_putR (S' := (Sx124 L)) (ci := 9) (k := 24) (len := 33) (refs := [0, 0, 44, 45, 0, 46, 47, 48, 0, 49, 50, 51, 52, 53, 54, 55, 56, 57, 0, 58, 0, 59, 60, 61]) rfl rfl plX9_65 rfl rfl rfl rfl (fun _ => rfl) (fun _ => rfl) rfl rfl rfl dX9_init_154 ?_
  refine x_aload_n dX9_init_157 rfl ?_
  refine x_iconst dX9_init_158 iconst_3 ?_
  refine w_newI (q := 62) (S' := (Sx125 L)) rfl rfl rfl rfl rfl rfl rfl rfl dX9_init_159 ?_
  have z20 : Zr 43 63 M _ := z19.add (by omega)
  refine w_putR (S' := (Sx126 L)) (ci := 9) (k := 28) (len := 33) (refs := [0, 0, 44, 45, 0, 46, 47, 48, 0, 49, 50, 51, 52, 53, 54, 55, 56, 57, 0, 58, 0, 59, 60, 61, 62]) rfl rfl plX9_68 rfl rfl rfl rfl (fun _ => rfl) (fun _ => rfl) rfl rfl rfl dX9_init_161 ?_
  refine x_aload_n dX9_init_164 rfl ?_
  refine x_sipush dX9_init_165 sipush_252 ?_
  refine w_newZ (q := 63) (S' := (Sx127 L)) rfl rfl rfl rfl rfl rfl rfl rfl dX9_init_168 ?_
  have z21 : Zr 43 64 M _ := z20.add (by omega)
  refine w_putR (S' := (Sx128 L)) (ci := 9) (k := 29) (len := 33) (refs := [0, 0, 44, 45, 0, 46, 47, 48, 0, 49, 50, 51, 52, 53, 54, 55, 56, 57, 0, 58, 0, 59, 60, 61, 62, 0, 0, 0, 63]) rfl rfl plX9_71 rfl rfl rfl rfl (fun _ => rfl) (fun _ => rfl) rfl rfl rfl dX9_init_170 ?_
  refine x_aload_n dX9_init_173 rfl ?_
  refine x_bipush dX9_init_174 bipush_36 ?_
  refine w_newI (q := 64) (S' := (Sx129 L)) rfl rfl rfl rfl rfl rfl rfl rfl dX9_init_176 ?_
  have z22 : Zr 43 65 M _ := z21.add (by omega)
  refine w_putR (S' := (Sx130 L)) (ci := 9) (k := 30) (len := 33) (refs := [0, 0, 44, 45, 0, 46, 47, 48, 0, 49, 50, 51, 52, 53, 54, 55, 56, 57, 0, 58, 0, 59, 60, 61, 62, 0, 0, 0, 63, 64]) rfl rfl plX9_74 rfl rfl rfl rfl (fun _ => rfl) (fun _ => rfl) rfl rfl rfl dX9_init_178 ?_
  refine x_aload_n dX9_init_181 rfl ?_
  refine x_bipush dX9_init_182 bipush_10 ?_
  refine w_newI (q := 65) (S' := (Sx131 L)) rfl rfl rfl rfl rfl rfl rfl rfl dX9_init_184 ?_
  have z23 : Zr 43 66 M _ := z22.add (by omega)
  refine w_putR (S' := (Sx132 L)) (ci := 9) (k := 31) (len := 33) (refs := [0, 0, 44, 45, 0, 46, 47, 48, 0, 49, 50, 51, 52, 53, 54, 55, 56, 57, 0, 58, 0, 59, 60, 61, 62, 0, 0, 0, 63, 64, 65]) rfl rfl plX9_77 rfl rfl rfl rfl (fun _ => rfl) (fun _ => rfl) rfl rfl rfl dX9_init_186 ?_
  refine x_aload_n dX9_init_189 rfl ?_
  refine x_bipush dX9_init_190 bipush_10 ?_
  refine w_newI (q := 66) (S' := (Sx133 L)) rfl rfl rfl rfl rfl rfl rfl rfl dX9_init_192 ?_
  have z24 : Zr 43 67 M _ := z23.add (by omega)
  refine w_putR (S' := (S0 L)) (ci := 9) (k := 32) (len := 33) (refs := [0, 0, 44, 45, 0, 46, 47, 48, 0, 49, 50, 51, 52, 53, 54, 55, 56, 57, 0, 58, 0, 59, 60, 61, 62, 0, 0, 0, 63, 64, 65, 66]) rfl rfl plX9_80 rfl rfl rfl rfl (fun _ => rfl) (fun _ => rfl) rfl rfl rfl dX9_init_194 ?_
  refine x_aload_n dX9_init_197 rfl ?_
  refine x_iconst dX9_init_198 iconst_4 ?_
  refine x_iconst dX9_init_199 iconst_4 ?_
  refine cV2 (mj := mX9_layLand) lkX9_83 okX9_layLand imX9_layLand seX9_layLand (s0_42 L) rfl rfl rfl rfl rfl dX9_init_200 rfl (m_layLand (w := 4) (h := 4) (fun M1 y1 y2 y3 y4 y5 y6 y7 y8 => ?_))
  refine x_vret dX9_init_203 rfl ?_
  exact hQ M1 (fun z hz => (y1 z (by simp only [List.mem_cons, List.not_mem_nil, or_false]; omega)).trans (z24.1 z (by omega))) y2 y3 y4 y5 y6 y7 y8 ((y1 65 (by decide)).trans (z24.2 65 (by omega) (by omega)))

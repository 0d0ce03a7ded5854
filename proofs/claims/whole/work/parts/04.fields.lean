theorem gin (ws : List Cond) (ps : List Nat) (hp : ws = ps.filterMap (fun i => lw_tbl[i]?)) (h : ws.all goodWord = true) : ∀ w ∈ ws, w ∈ gTbl := by
  intro w hw
  have h1 := List.all_eq_true.mp h w hw
  rw [hp] at hw
  obtain ⟨i, -, hi⟩ := List.mem_filterMap.mp hw
  exact List.mem_filter.mpr ⟨List.mem_of_getElem? hi, h1⟩
theorem gat {w : Cond} (i : Nat) (h : lw_tbl[i]? = some w) (hg : goodWord w = true) : w ∈ gTbl := List.mem_filter.mpr ⟨List.mem_of_getElem? h, hg⟩
theorem nat_ {w : Cond} (i : Nat) (h : lw_tbl[i]? = some w) (hg : nest? w = true) : w ∈ nTbl := List.mem_filter.mpr ⟨List.mem_of_getElem? h, hg⟩
set_option maxRecDepth 100000 in
theorem inGX0 : ∀ w ∈ u_ws RX0 TX0 11, w ∈ gTbl := gin _ [161, 163, 165, 167, 169, 171, 173, 175, 177, 179, 181] (by decide +kernel) (by decide +kernel)
set_option maxRecDepth 100000 in
theorem inGX1 : ∀ w ∈ u_ws RX1 TX1 4, w ∈ gTbl := gin _ [106, 108, 110, 112] (by decide +kernel) (by decide +kernel)
set_option maxRecDepth 100000 in
theorem inGX2 : ∀ w ∈ u_ws RX2 TX2 5, w ∈ gTbl := gin _ [299, 301, 303, 305, 307] (by decide +kernel) (by decide +kernel)
set_option maxRecDepth 100000 in
theorem inGX3 : ∀ w ∈ u_ws RX3 TX3 2, w ∈ gTbl := gin _ [199, 201] (by decide +kernel) (by decide +kernel)
set_option maxRecDepth 100000 in
theorem inGX4 : ∀ w ∈ u_ws RX4 TX4 8, w ∈ gTbl := gin _ [219, 221, 223, 225, 227, 229, 231, 233] (by decide +kernel) (by decide +kernel)
set_option maxRecDepth 100000 in
theorem inGX5 : ∀ w ∈ u_ws RX5 TX5 4, w ∈ gTbl := gin _ [131, 133, 135, 137] (by decide +kernel) (by decide +kernel)
set_option maxRecDepth 100000 in
theorem inGX6 : ∀ w ∈ u_ws RX6 TX6 7, w ∈ gTbl := gin _ [255, 257, 259, 261, 263, 265, 267] (by decide +kernel) (by decide +kernel)
set_option maxRecDepth 100000 in
theorem inGX7 : ∀ w ∈ u_ws RX7 TX7 3, w ∈ gTbl := gin _ [280, 282, 284] (by decide +kernel) (by decide +kernel)
set_option maxRecDepth 100000 in
theorem inGX8 : ∀ w ∈ u_ws RX8 TX8 10, w ∈ gTbl := gin _ [320, 322, 324, 326, 328, 330, 332, 334, 336, 338] (by decide +kernel) (by decide +kernel)
set_option maxRecDepth 100000 in
theorem inGX9 : ∀ w ∈ u_ws RX9 TX9 33, w ∈ gTbl := gin _ [790, 792, 794, 796, 798, 800, 802, 804, 806, 808, 810, 812, 814, 816, 818, 820, 822, 824, 826, 828, 830, 832, 834, 836, 838, 840, 842, 844, 846, 848, 850, 852, 854] (by decide +kernel) (by decide +kernel)
theorem cls_ok : ∀ {ci : Nat} {C : String} {T : u_T} {N : Nat}, vcl[ci]? = some (C, T, N) → ci < 10 ∧ (∀ w ∈ u_ws C T N, w ∈ gTbl) ∧ (∀ k, k < N → parseFieldDescriptor (T k).2.2.1 = some (vty ci k)) ∧ (∀ a, a < N → ∀ b, b < N → a ≠ b → (T a).2.1 ≠ (T b).2.1) := by
  intro ci C T N h
  match ci, h with
  | 0, h => cases h; exact ⟨by decide, inGX0, tyX0_ok, nmX0⟩
  | 1, h => cases h; exact ⟨by decide, inGX1, tyX1_ok, nmX1⟩
  | 2, h => cases h; exact ⟨by decide, inGX2, tyX2_ok, nmX2⟩
  | 3, h => cases h; exact ⟨by decide, inGX3, tyX3_ok, nmX3⟩
  | 4, h => cases h; exact ⟨by decide, inGX4, tyX4_ok, nmX4⟩
  | 5, h => cases h; exact ⟨by decide, inGX5, tyX5_ok, nmX5⟩
  | 6, h => cases h; exact ⟨by decide, inGX6, tyX6_ok, nmX6⟩
  | 7, h => cases h; exact ⟨by decide, inGX7, tyX7_ok, nmX7⟩
  | 8, h => cases h; exact ⟨by decide, inGX8, tyX8_ok, nmX8⟩
  | 9, h => cases h; exact ⟨by decide, inGX9, tyX9_ok, nmX9⟩
  | k + 10, h => simp [vcl] at h
/-- a field's link: of the class's own, or across the nest -/
def LkF (own : String) (i ci k : Nat) : Prop := ∃ (C : String) (T : u_T) (N : Nat), vcl[ci]? = some (C, T, N) ∧ k < N ∧ (Cond.fieldLink own i (T k).1 (T k).2.1 (T k).2.2.1 ∈ gTbl ∨ ∃ host, Cond.fieldLinkNest own i (T k).1 (T k).2.1 (T k).2.2.1 host ∈ nTbl)
def vfin (ci k : Nat) : Bool := match vcl[ci]? with
  | some q => (q.2.1 k).2.2.2
  | none => true
theorem LkF.kind {own : String} {i ci k : Nat} (h : LkF own i ci k) : ci < 10 := by
  obtain ⟨C, T, N, h1, -⟩ := h
  exact (cls_ok h1).1
theorem Wo.obj {E : vE} {s : State} {H : Heap} {S : vS} {M : vM} (O : Wo E s H S M) {q ci len : Nat} {refs : List Nat} (hs : S[q]? = some (ci, len, refs)) (hc : ci ≠ 100) : ∃ q', q = q' + 3 := by
  obtain ⟨_, _, h3, h4, ⟨L, h5, _⟩, _⟩ := O
  match q, hs with
  | 0, hs => rw [h3] at hs; cases hs; exact absurd rfl hc
  | 1, hs => rw [h4] at hs; cases hs; exact absurd rfl hc
  | 2, hs => rw [h5] at hs; cases hs; exact absurd rfl hc
  | q + 3, _ => exact ⟨q, rfl⟩
theorem ent_obj {E : vE} {k ci len : Nat} {refs : List Nat} {M : vM} (h : ci < 10) : ent E k (ci, len, refs) M = .inr (ci, (List.range len).map (fld E k ci refs M)) := by
  unfold ent
  rw [if_neg (by show ¬ ci = 100; omega), if_neg (by show ¬ ci = 101; omega)]
theorem fld_at {E : vE} {k ci len j : Nat} {refs : List Nat} {M : vM} (h : j < len) : ((List.range len).map (fld E k ci refs M))[j]? = some (fld E k ci refs M j) := by
  rw [List.getElem?_map, List.getElem?_range h]
  rfl
theorem fld_V {E : vE} {k ci len j : Nat} {refs : List Nat} {M : vM} (h : j < len) : vp_V ((List.range len).map (fld E k ci refs M)) j = fld E k ci refs M j := by
  unfold vp_V
  rw [List.getD_eq_getElem?_getD, fld_at h]
  rfl
theorem fld_V0 {E : vE} {k ci len j : Nat} {refs : List Nat} {M : vM} (h : ¬ j < len) : vp_V ((List.range len).map (fld E k ci refs M)) j = .null := by
  unfold vp_V
  rw [List.getD_eq_getElem?_getD, List.getElem?_eq_none (by simp; omega)]
  rfl
section RC
variable {E : vE} {l : Launch} {mi : vMI} {pc : Nat} {lv st : List Value} {S : vS} {M : vM} {kc ks : Nat} {Q : Option Value → vS → vM → Prop}
theorem x_getI {q ci len k i : Nat} {refs : List Nat} (hr : isRf ci k = false) (hf : LkF (iy mi).cls i ci k) (hs : S[q]? = some (ci, len, refs)) (hk : k < len) (hd : decode (ib mi) pc = .ok (.getfield i, 3)) (kk : PM E l mi (pc + 3) lv (.int (M q k) :: st) S M kc ks Q) : PM E l mi pc lv (.ref q :: st) S M kc ks Q := by
  intro p e s m args below meth c H locs ls Z F O hlo hL h1 h2 hR
  have hci := hf.kind
  obtain ⟨q, rfl⟩ := O.obj hs (by omega)
  obtain ⟨C, T, N, hc, hkN, hl⟩ := hf
  have he := wd_at (E := E) (M := M) hs
  rw [ent_obj hci] at he
  have hv : ((List.range len).map (fld E (q + 3) ci refs M))[k]? = some (cv E (.int (M (q + 3) k))) := by
    rw [fld_at hk]
    simp only [fld, hr, Bool.false_eq_true, if_false, cv]
  rcases hl with hl | ⟨host, hl⟩
  · exact va_get F.1 F.2.1 F.2.2.2.2.1 (cls_ok hc).2.1 F.2.2.2.1 F.2.2.2.2.2.2.1 O.1 q he hc k hkN (F.2.2.2.2.1 _ hl) (fun _ h => h) hv hd (kk p e s m args below meth c H locs ls Z F O hlo hL h1 h2 hR)
  · exact va_getN F.1 F.2.1 F.2.2.2.2.1 (cls_ok hc).2.1 F.2.2.2.1 F.2.2.2.2.2.2.1 O.1 q he hc k hkN (va_Nw.use rfl (F.2.2.2.2.2.1 _ hl)) (fun _ h => h) hv hd (kk p e s m args below meth c H locs ls Z F O hlo hL h1 h2 hR)
theorem x_getR {q ci len k i : Nat} {refs : List Nat} {t : Nat} (hr : isRf ci k = true) (ht : refs.getD k 0 = t + 1) (hf : LkF (iy mi).cls i ci k) (hs : S[q]? = some (ci, len, refs)) (hk : k < len) (hd : decode (ib mi) pc = .ok (.getfield i, 3)) (kk : PM E l mi (pc + 3) lv (.ref t :: st) S M kc ks Q) : PM E l mi pc lv (.ref q :: st) S M kc ks Q := by
  intro p e s m args below meth c H locs ls Z F O hlo hL h1 h2 hR
  have hci := hf.kind
  obtain ⟨q, rfl⟩ := O.obj hs (by omega)
  obtain ⟨C, T, N, hc, hkN, hl⟩ := hf
  have he := wd_at (E := E) (M := M) hs
  rw [ent_obj hci] at he
  have hv : ((List.range len).map (fld E (q + 3) ci refs M))[k]? = some (cv E (.ref t)) := by
    rw [fld_at hk]
    simp only [fld, hr, if_true, rfd, ht, cv]
  rcases hl with hl | ⟨host, hl⟩
  · exact va_get F.1 F.2.1 F.2.2.2.2.1 (cls_ok hc).2.1 F.2.2.2.1 F.2.2.2.2.2.2.1 O.1 q he hc k hkN (F.2.2.2.2.1 _ hl) (fun _ h => h) hv hd (kk p e s m args below meth c H locs ls Z F O hlo hL h1 h2 hR)
  · exact va_getN F.1 F.2.1 F.2.2.2.2.1 (cls_ok hc).2.1 F.2.2.2.1 F.2.2.2.2.2.2.1 O.1 q he hc k hkN (va_Nw.use rfl (F.2.2.2.2.2.1 _ hl)) (fun _ h => h) hv hd (kk p e s m args below meth c H locs ls Z F O hlo hL h1 h2 hR)
theorem x_putI {q ci len k i : Nat} {refs : List Nat} {x : Int32} (hr : isRf ci k = false) (hfin : vfin ci k = false) (hn : narrow (vty ci k) (.int x) = .int x) (hfit : fits (vty ci k) (.int x) = true) (hf : LkF (iy mi).cls i ci k) (hs : S[q]? = some (ci, len, refs)) (hk : k < len) (hd : decode (ib mi) pc = .ok (.putfield i, 3)) (kk : PM E l mi (pc + 3) lv st S (sM M q (upd (M q) k x)) kc ks Q) : PM E l mi pc lv (.int x :: .ref q :: st) S M kc ks Q := by
  intro p e s m args below meth c H locs ls Z F O hlo hL h1 h2 hR
  have hci := hf.kind
  obtain ⟨q, rfl⟩ := O.obj hs (by omega)
  obtain ⟨C, T, N, hc, hkN, hl⟩ := hf
  have he := wd_at (E := E) (M := M) hs
  rw [ent_obj hci] at he
  obtain ⟨-, hin, hty, hnm⟩ := cls_ok hc
  have hts := F.2.2.2.2.1
  have hK := F.2.2.2.2.2.2.1
  have hap := va_apart (own := (iy mi).cls) hts hin (vty ci) hty hnm hK hc
  obtain ⟨r, g1, cell, q1, q2, q3, q4⟩ := O.1 q _ he
  have hr2 : r = (C, T, N) := Option.some.inj (g1.symm.trans hc)
  subst hr2
  obtain ⟨hS, hfc, kC, hkC, hkind⟩ := hK.1 ci _ hc
  obtain ⟨cf, kf, fi, f, hi, hsl⟩ := hS k hkN
  have hfin2 : (T k).2.2.2 = false := by
    have h5 : vfin ci k = (T k).2.2.2 := by unfold vfin; rw [hc]
    rw [← h5]; exact hfin
  have hlay := hts _ (hin _ (u_in_lay hkN))
  unfold u_lay at hlay
  rw [if_neg (by rw [hfin2]; decide)] at hlay
  have hst := (u_facts hfc hkC (u_lays hts hin hkN) hi).1
  have h6 := u_store hfc hkC hkind hlay hi (hty k hkN) hn hfit
  have fin : ∀ H' : Heap, H'[eB E + q]? = some (cell.setSlot f.slot (.int x)) → H'.size = H.size → (∀ z, z ≠ eB E + q → H'[z]? = H[z]?) → W p l e (iR mi) s m args below meth c H' (locs ++ [⟨eB E + q, f.slot⟩]) kc ks Z (F0 m (pc + 3) ls (st.map (cv E))) := by
    intro H' e1 e2 e3
    rw [hsl] at e1
    refine kk p e s m args below meth c H' _ ls Z F (O.to ?_ e2 (fun z hz => e3 z (by omega)) (sM_ne _ _ _ (by omega)) (sM_ne _ _ _ (by omega)) (sM_ne _ _ _ (by omega))) ?_ hL h1 h2 hR
    · rw [← wd_set _ hs]
      refine O.1.set (wd_D E S M) he ?_ e3
      rw [ent_obj hci]
      refine ⟨_, hc, t_OB.to (V := updV (vp_V ((List.range len).map (fld E (q + 3) ci refs M))) k (.int x)) ⟨_, e1, q2, q3, t_set q4 hap hkN (.int x)⟩ (fun j hj => ?_)⟩
      by_cases hjk : j = k
      · subst hjk
        rw [fld_V hk]
        simp [updV, fld, hr, sM, upd]
      · by_cases hjl : j < len
        · rw [fld_V hjl]
          simp only [updV, hjk, if_false]
          rw [fld_V hjl]
          simp [fld, sM, upd, hjk]
        · rw [fld_V0 hjl]
          simp only [updV, hjk, if_false]
          rw [fld_V0 hjl]
    · intro z hz
      rcases List.mem_append.mp hz with h | h
      · exact hlo z h
      · rw [List.mem_singleton.mp h]
        exact Nat.le_add_right _ _
  rcases hl with hl | ⟨host, hl⟩
  · exact W.putK F.1 F.2.1 (f := f) ⟨F.2.2.2.1, hts _ hl, ⟨_, _, _, hi⟩, hst⟩ (by rw [q2]; exact h6) q1 q3 (by rw [hsl]; exact k2_hasslot (q4 k hkN)) rfl rfl hd fin
  · exact va_WputK F.1 F.2.1 (f := f) F.2.2.2.1 (va_Nw.use rfl (F.2.2.2.2.2.1 _ hl)) hi hst (by rw [q2]; exact h6) q1 q3 (by rw [hsl]; exact k2_hasslot (q4 k hkN)) rfl rfl hd fin
end RC

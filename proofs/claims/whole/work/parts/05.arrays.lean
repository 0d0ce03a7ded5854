theorem ent_I {E : vE} {k n : Nat} {refs : List Nat} {M : vM} : ent E k (100, n, refs) M = .inl (eI E, n, .inl (M k)) := by
  unfold ent
  rw [if_pos rfl]
theorem ent_Z {E : vE} {k n : Nat} {refs : List Nat} {M : vM} : ent E k (101, n, refs) M = .inl (eZ E, n, .inl (M k)) := by
  unfold ent
  rw [if_neg (by show ¬ (101 : Nat) = 100; decide), if_pos rfl]
section RD
variable {E : vE} {l : Launch} {mi : vMI} {pc : Nat} {lv st : List Value} {S : vS} {M : vM} {kc ks : Nat} {Q : Option Value → vS → vM → Prop}
theorem x_iald {q n : Nat} {refs : List Nat} {i : Int32} (hs : S[q]? = some (100, n, refs)) (hin : vp_in i n) (hd : decode (ib mi) pc = .ok (.iaload, 1)) (kk : PM E l mi (pc + 1) lv (.int (M q i.toNatClampNeg) :: st) S M kc ks Q) : PM E l mi pc lv (.int i :: .ref q :: st) S M kc ks Q := by
  intro p e s m args below meth c H locs ls Z F O hlo hL h1 h2 hR
  have hlt : i.toNatClampNeg < n := Nat.not_le.mp fun z => hin (Or.inr z)
  have old : ∀ (b : Nat) (f : Nat → Int32), va_X b n f s H → W p l e (iR mi) s m args below meth c H locs kc ks Z (F0 m (pc + 1) ls (.int (f i.toNatClampNeg) :: st.map (cv E))) → W p l e (iR mi) s m args below meth c H locs kc ks Z (F0 m pc ls (.int i :: .ref b :: st.map (cv E))) := by
    intro b f hX kw
    obtain ⟨scr, g1, g2, g3, g4, g5⟩ := hX
    exact W.iald (v := .int (f i.toNatClampNeg)) F.1 F.2.1 g1 g2 g3 (by rw [g4]; exact hin) (g5 _ hlt) rfl rfl hd kw
  have kw := kk p e s m args below meth c H locs ls Z F O hlo hL h1 h2 hR
  obtain ⟨hP, hsz, h3, h4, ⟨L, h5, h6⟩, h7, h8, h9, h10, h11⟩ := O
  match q, hs with
  | 0, hs => rw [h3] at hs; cases hs; exact old _ _ h7 kw
  | 1, hs => rw [h4] at hs; cases hs; exact old _ _ h8 kw
  | 2, hs => rw [h5] at hs; cases hs; exact old _ _ h6 kw
  | q + 3, hs =>
    have he := wd_at (E := E) (M := M) hs
    rw [ent_I] at he
    exact va_iald F.1 F.2.1 F.2.2.2.2.2.2.1 hP q 0 he rfl hin hd kw
theorem x_bald {q n : Nat} {refs : List Nat} {i : Int32} (hs : S[q]? = some (101, n, refs)) (hin : vp_in i n) (hd : decode (ib mi) pc = .ok (.baload, 1)) (kk : PM E l mi (pc + 1) lv (.int (M q i.toNatClampNeg) :: st) S M kc ks Q) : PM E l mi pc lv (.int i :: .ref q :: st) S M kc ks Q := by
  intro p e s m args below meth c H locs ls Z F O hlo hL h1 h2 hR
  obtain ⟨q, rfl⟩ := O.obj hs (by decide)
  have he := wd_at (E := E) (M := M) hs
  rw [ent_Z] at he
  exact va_zald F.1 F.2.1 F.2.2.2.2.2.2.1 O.1 q 1 he rfl hin hd (kk p e s m args below meth c H locs ls Z F O hlo hL h1 h2 hR)
theorem x_alen {q n : Nat} {refs : List Nat} (hs : S[q]? = some (100, n, refs)) (hd : decode (ib mi) pc = .ok (.arraylength, 1)) (kk : PM E l mi (pc + 1) lv (.int (Int32.ofNat n) :: st) S M kc ks Q) : PM E l mi pc lv (.ref q :: st) S M kc ks Q := by
  intro p e s m args below meth c H locs ls Z F O hlo hL h1 h2 hR
  have old : ∀ (b : Nat) (f : Nat → Int32), va_X b n f s H → W p l e (iR mi) s m args below meth c H locs kc ks Z (F0 m (pc + 1) ls (.int (Int32.ofNat n) :: st.map (cv E))) → W p l e (iR mi) s m args below meth c H locs kc ks Z (F0 m pc ls (.ref b :: st.map (cv E))) := by
    intro b f hX kw
    obtain ⟨scr, g1, g2, g3, g4, g5⟩ := hX
    exact W.alen (n := Int32.ofNat n) F.1 F.2.1 g1 g2 (by rw [g4] <;> rfl) rfl rfl hd kw
  have kw := kk p e s m args below meth c H locs ls Z F O hlo hL h1 h2 hR
  obtain ⟨hP, hsz, h3, h4, ⟨L, h5, h6⟩, h7, h8, h9, h10, h11⟩ := O
  match q, hs with
  | 0, hs => rw [h3] at hs; cases hs; exact old _ _ h7 kw
  | 1, hs => rw [h4] at hs; cases hs; exact old _ _ h8 kw
  | 2, hs => rw [h5] at hs; cases hs; exact old _ _ h6 kw
  | q + 3, hs =>
    have he := wd_at (E := E) (M := M) hs
    rw [ent_I] at he
    exact va_alen F.1 F.2.1 F.2.2.2.2.2.2.1 hP q 0 he rfl rfl hd kw
theorem x_iast {q n : Nat} {refs : List Nat} {i x : Int32} (hq : 3 ≤ q) (hs : S[q]? = some (100, n, refs)) (hin : vp_in i n) (hd : decode (ib mi) pc = .ok (.iastore, 1)) (kk : PM E l mi (pc + 1) lv st S (sM M q (upd (M q) i.toNatClampNeg (x))) kc ks Q) : PM E l mi pc lv (.int x :: .int i :: .ref q :: st) S M kc ks Q := by
  intro p e s m args below meth c H locs ls Z F O hlo hL h1 h2 hR
  obtain ⟨q, rfl⟩ : ∃ q', q = q' + 3 := ⟨q - 3, by omega⟩
  have he := wd_at (E := E) (M := M) hs
  rw [ent_I] at he
  refine W.iast F.1 F.2.1 (O.1 q _ he) ((F.2.2.2.2.2.2.1.2 0 _ rfl).1 n (fun j => .int (M (q + 3) j))) (fun z => by cases z) (by show ¬ (i < 0 ∨ (arrV _ _ _).slots.size ≤ _); rw [arrV_size]; exact hin) rfl rfl hd fun H1 e1 z1 oq => ?_
  refine kk p e s m args below meth c H1 _ ls Z F (O.to ?_ z1 (fun z hz => oq z (by show z ≠ eB E + q; omega)) (sM_ne _ _ _ (by omega)) (sM_ne _ _ _ (by omega)) (sM_ne _ _ _ (by omega))) ?_ hL h1 h2 hR
  · rw [← wd_set _ hs]
    refine O.1.set (wd_D E S M) he ?_ oq
    rw [ent_I, sM_at]
    show H1[eB E + q]? = some (vp_cell _ _)
    rw [e1, vp_cell_i, vp_cell_i, arrV_store]
    congr 2
    funext z
    by_cases hz : z = i.toNatClampNeg
    · subst hz
      simp [updV, upd, narrow]
    · simp [updV, upd, hz]
  · intro z hz
    rcases List.mem_append.mp hz with h | h
    · exact hlo z h
    · rw [List.mem_singleton.mp h]
      exact Nat.le_add_right _ _
theorem x_bast {q n : Nat} {refs : List Nat} {i x : Int32}  (hs : S[q]? = some (101, n, refs)) (hin : vp_in i n) (hd : decode (ib mi) pc = .ok (.bastore, 1)) (kk : PM E l mi (pc + 1) lv st S (sM M q (upd (M q) i.toNatClampNeg (x &&& 1))) kc ks Q) : PM E l mi pc lv (.int x :: .int i :: .ref q :: st) S M kc ks Q := by
  intro p e s m args below meth c H locs ls Z F O hlo hL h1 h2 hR
  obtain ⟨q, rfl⟩ : ∃ q', q = q' + 3 := O.obj hs (by decide)
  have he := wd_at (E := E) (M := M) hs
  rw [ent_Z] at he
  refine W.zast F.1 F.2.1 (O.1 q _ he) ((F.2.2.2.2.2.2.1.2 1 _ rfl).1 n (fun j => .int (M (q + 3) j))) (fun z => by cases z) (by show ¬ (i < 0 ∨ (arrV _ _ _).slots.size ≤ _); rw [arrV_size]; exact hin) rfl rfl hd fun H1 e1 z1 oq => ?_
  refine kk p e s m args below meth c H1 _ ls Z F (O.to ?_ z1 (fun z hz => oq z (by show z ≠ eB E + q; omega)) (sM_ne _ _ _ (by omega)) (sM_ne _ _ _ (by omega)) (sM_ne _ _ _ (by omega))) ?_ hL h1 h2 hR
  · rw [← wd_set _ hs]
    refine O.1.set (wd_D E S M) he ?_ oq
    rw [ent_Z, sM_at]
    show H1[eB E + q]? = some (vp_cell _ _)
    rw [e1, vp_cell_i, vp_cell_i, arrV_store]
    congr 2
    funext z
    by_cases hz : z = i.toNatClampNeg
    · subst hz
      simp [updV, upd, narrow]
    · simp [updV, upd, hz]
  · intro z hz
    rcases List.mem_append.mp hz with h | h
    · exact hlo z h
    · rw [List.mem_singleton.mp h]
      exact Nat.le_add_right _ _
theorem ad_len (E : vE) {S : vS} (h : 3 ≤ S.length) : ad E S.length = eB E + (S.length - 3) := by
  obtain ⟨n, hn⟩ : ∃ n, S.length = n + 3 := ⟨S.length - 3, by omega⟩
  rw [hn]
  rfl
theorem wd_push {E : vE} {S : vS} {M : vM} {sh : Nat × Nat × List Nat} (f : Nat → Int32) (h : 3 ≤ S.length) : wd E (S ++ [sh]) (sM M S.length f) = wd E S M ++ [(eB E + (S.length - 3), ent E S.length sh (sM M S.length f))] := by
  have hl : (wd E S M).length = S.length - 3 := by unfold wd; simp
  apply List.ext_getElem?
  intro i
  by_cases hi : i + 3 < S.length
  · rw [List.getElem?_append_left (by omega)]
    obtain ⟨s2, hs2⟩ : ∃ s2, S[i + 3]? = some s2 := ⟨S[i + 3], by simp [hi]⟩
    have h1 : (S ++ [sh])[i + 3]? = some s2 := by rw [List.getElem?_append_left hi]; exact hs2
    rw [wd_at h1, wd_at hs2, ent_ne (by omega)]
  · by_cases hi2 : i + 3 = S.length
    · have h1 : (S ++ [sh])[i + 3]? = some sh := by rw [List.getElem?_append_right (by omega), hi2]; simp
      rw [wd_at h1, List.getElem?_append_right (by omega), show i - (wd E S M).length = 0 by omega, ← hi2]
      simp
    · have h1 : (wd E (S ++ [sh]) (sM M S.length f)).length ≤ i := by unfold wd; simp; omega
      rw [List.getElem?_eq_none h1, List.getElem?_eq_none (by simp; omega)]
theorem Wo.push {E : vE} {s : State} {H H1 : Heap} {S : vS} {M : vM} {sh : Nat × Nat × List Nat} {f : Nat → Int32} (O : Wo E s H S M) (hlt : S.length < 67) (hz : H1.size = H.size + 1) (hq : ∀ q, q < H.size → H1[q]? = H[q]?) (hn : va_at (eG E) vcl (H.size, ent E S.length sh (sM M S.length f)) H1) : Wo E s H1 (S ++ [sh]) (sM M S.length f) := by
  have hl := O.len
  obtain ⟨hP, hsz0, h3, h4, ⟨L, h5, h6⟩, h7, h8, ⟨b1, b2, b3⟩, h10, h11⟩ := O
  have hsz := hsz0 hlt
  have old : ∀ {k : Nat} {x : Nat × Nat × List Nat}, S[k]? = some x → (S ++ [sh])[k]? = some x := fun {k x} h => by
    rw [List.getElem?_append_left (List.getElem?_eq_some_iff.mp h).1]; exact h
  refine ⟨?_, fun _ => by rw [hz, hsz]; simp; omega, old h3, old h4, ⟨L, old h5, ?_⟩, ?_, ?_, ⟨b1, b2, b3⟩, h10.kept (fun a h _ => hq a h), h11.kept (fun a h _ => hq a h)⟩
  · rw [wd_push f hl]
    refine va_P.app (hP.kept (fun k q hk => hq _ (hP k q hk).lt)) (fun k q hk => ?_)
    have hk0 : k < 1 := (List.getElem?_eq_some_iff.mp hk).1
    rw [show k = 0 by omega] at hk
    cases hk
    rw [← hsz]
    exact hn
  · rw [sM_ne _ _ _ (by omega)]; exact h6.kept (hq _ (by omega))
  · rw [sM_ne _ _ _ (by omega)]; exact h7.kept (hq _ (by omega))
  · rw [sM_ne _ _ _ (by omega)]; exact h8.kept (hq _ (by omega))
theorem x_newI {n : Int32} {N : Nat} (ha : Cond.arrayClass .int ∈ gTbl) (hn : ¬ n < 0) (hN : n.toNatClampNeg = N) (hb : N * componentBytes .int ≤ 536870912) (hlt : S.length < 67) (g1 : kc + 1 ≤ (iR mi).cells) (g2 : ks + N ≤ (iR mi).slots) (hd : decode (ib mi) pc = .ok (.newarray .int, 2)) (kk : PM E l mi (pc + 2) lv (.ref S.length :: st) (S ++ [(100, N, [])]) (sM M S.length (fun _ => 0)) (kc + 1) (ks + N) Q) : PM E l mi pc lv (.int n :: st) S M kc ks Q := by
  intro p e s m args below meth c H locs ls Z F O hlo hL h1 h2 hR
  have hl := O.len
  refine va_newaK F.1 F.2.1 (atype := .int) (F.2.2.2.2.1 _ ha) rfl hd rfl hn hN hb g1 g2 rfl fun H1 cA e1 z1 o1 hAr hNm => ?_
  have hcA : cA = eI E := Option.some.inj (hNm.symm.trans ((F.2.2.2.2.2.2.1.2 0 _ rfl).2))
  subst hcA
  have O1 : Wo E s H1 (S ++ [(100, N, [])]) (sM M S.length (fun _ => 0)) := by
    refine O.push hlt z1 o1 ?_
    rw [ent_I, sM_at]
    exact e1
  have e2 : H.size = ad E S.length := by rw [ad_len E hl]; exact O.2.1 hlt
  rw [e2]
  exact kk p e s m args below meth c H1 locs ls Z F O1 hlo hL g1 g2 hR
theorem x_newZ {n : Int32} {N : Nat} (ha : Cond.arrayClass .boolean ∈ gTbl) (hn : ¬ n < 0) (hN : n.toNatClampNeg = N) (hb : N * componentBytes .boolean ≤ 536870912) (hlt : S.length < 67) (g1 : kc + 1 ≤ (iR mi).cells) (g2 : ks + N ≤ (iR mi).slots) (hd : decode (ib mi) pc = .ok (.newarray .boolean, 2)) (kk : PM E l mi (pc + 2) lv (.ref S.length :: st) (S ++ [(101, N, [])]) (sM M S.length (fun _ => 0)) (kc + 1) (ks + N) Q) : PM E l mi pc lv (.int n :: st) S M kc ks Q := by
  intro p e s m args below meth c H locs ls Z F O hlo hL h1 h2 hR
  have hl := O.len
  refine va_newaK F.1 F.2.1 (atype := .boolean) (F.2.2.2.2.1 _ ha) rfl hd rfl hn hN hb g1 g2 rfl fun H1 cA e1 z1 o1 hAr hNm => ?_
  have hcA : cA = eZ E := Option.some.inj (hNm.symm.trans ((F.2.2.2.2.2.2.1.2 1 _ rfl).2))
  subst hcA
  have O1 : Wo E s H1 (S ++ [(101, N, [])]) (sM M S.length (fun _ => 0)) := by
    refine O.push hlt z1 o1 ?_
    rw [ent_Z, sM_at]
    exact e1
  have e2 : H.size = ad E S.length := by rw [ad_len E hl]; exact O.2.1 hlt
  rw [e2]
  exact kk p e s m args below meth c H1 locs ls Z F O1 hlo hL g1 g2 hR
/-- a class's link, for new -/
def LkN (own : String) (i ci N : Nat) : Prop := ∃ (C : String) (T : u_T), vcl[ci]? = some (C, T, N) ∧ Cond.classLink own i C ∈ gTbl ∧ Cond.instantiable C N ∈ gTbl ∧ Cond.initialized C ∈ gTbl
theorem x_new {i ci N : Nat} (hk : LkN (iy mi).cls i ci N) (hdef : ∀ j, j < N → defaultValue (vty ci j) = if isRf ci j then Value.null else .int 0) (hlt : S.length < 67) (g1 : kc + 1 ≤ (iR mi).cells) (g2 : ks + N ≤ (iR mi).slots) (hd : decode (ib mi) pc = .ok (.new i, 3)) (kk : PM E l mi (pc + 3) lv (.ref S.length :: st) (S ++ [(ci, N, [])]) (sM M S.length (fun _ => 0)) (kc + 1) (ks + N) Q) : PM E l mi pc lv st S M kc ks Q := by
  intro p e s m args below meth c H locs ls Z F O hlo hL h1 h2 hR
  have hl := O.len
  obtain ⟨C, T, hc, w1, w2, w3⟩ := hk
  obtain ⟨hci, hin, hty, hnm⟩ := cls_ok hc
  have hts := F.2.2.2.2.1
  have hKn := F.2.2.2.2.2.2.1.1 ci _ hc
  refine W.newcK F.1 F.2.1 F.2.2.2.1 (hts _ w1) (hts _ w2) (hts _ w3) rfl hd g1 g2 hKn.2.1 rfl fun H1 kC hkC e1 z1 o1 => ?_
  have O1 : Wo E s H1 (S ++ [(ci, N, [])]) (sM M S.length (fun _ => 0)) := by
    refine O.push hlt z1 o1 ?_
    rw [ent_obj hci]
    refine ⟨_, hc, (u_born (vty ci) hts hin hKn hkC e1 hty).to (fun j hj => ?_)⟩
    rw [fld_V hj, hdef j hj]
    unfold fld
    rw [sM_at]
    rfl
  have e2 : H.size = ad E S.length := by rw [ad_len E hl]; exact O.2.1 hlt
  rw [e2]
  exact kk p e s m args below meth c H1 locs ls Z F O1 hlo hL g1 g2 hR
theorem x_getsX {i : Nat} {host : String} (hw : Cond.fieldLinkNest (iy mi).cls i "BoulderLand" "X_STEP" "[I" host ∈ nTbl) (hd : decode (ib mi) pc = .ok (.getstatic i, 3)) (kk : PM E l mi (pc + 3) lv (.ref 0 :: st) S M kc ks Q) : PM E l mi pc lv st S M kc ks Q := by
  intro p e s m args below meth c H locs ls Z F O hlo hL h1 h2 hR
  have hZ := O.2.2.2.2.2.2.2.2.1
  obtain ⟨cf, kf, fi, f, a, cell, g1, g2, g3, g4, g5, g6, g7, g8⟩ := hZ
  exact va_WgetsN F.1 F.2.1 F.2.2.2.1 (va_Nw.use rfl (F.2.2.2.2.2.1 _ hw)) g1 g2 g3 g4 g5 (fun e => by rw [e] at g6; cases g6) g7 rfl hd (kk p e s m args below meth c H locs ls Z F O hlo hL h1 h2 hR)
theorem x_getsY {i : Nat} {host : String} (hw : Cond.fieldLinkNest (iy mi).cls i "BoulderLand" "Y_STEP" "[I" host ∈ nTbl) (hd : decode (ib mi) pc = .ok (.getstatic i, 3)) (kk : PM E l mi (pc + 3) lv (.ref 1 :: st) S M kc ks Q) : PM E l mi pc lv st S M kc ks Q := by
  intro p e s m args below meth c H locs ls Z F O hlo hL h1 h2 hR
  have hZ := O.2.2.2.2.2.2.2.2.2
  obtain ⟨cf, kf, fi, f, a, cell, g1, g2, g3, g4, g5, g6, g7, g8⟩ := hZ
  exact va_WgetsN F.1 F.2.1 F.2.2.2.1 (va_Nw.use rfl (F.2.2.2.2.2.1 _ hw)) g1 g2 g3 g4 g5 (fun e => by rw [e] at g6; cases g6) g7 rfl hd (kk p e s m args below meth c H locs ls Z F O hlo hL h1 h2 hR)
theorem x_objInit {i : Nat} {q : Nat} (w1 : Cond.methodLink (iy mi).cls i Lib.objectInit ∈ gTbl) (w2 : Cond.instanceMethod Lib.objectInit ∈ gTbl) (w3 : Cond.code Lib.objectInit ⟨#[0xb1]⟩ 1 none ∈ gTbl) (g1 : 1 ≤ (iR mi).frames) (g2 : (st.map fun v => v.category).sum + 12 ≤ (iR mi).locals) (hd : decode (ib mi) pc = .ok (.invokespecial i, 3)) (kk : PM E l mi (pc + 3) lv st S M kc ks Q) : PM E l mi pc lv (.ref q :: st) S M kc ks Q := by
  intro p e s m args below meth c H locs ls Z F O hlo hL h1 h2 hR
  have hts := F.2.2.2.2.1
  exact W.objInit F.1 F.2.1 F.2.2.2.1 (hts _ w1) (hts _ w2) (hts _ w3) rfl (hL.1.trans F.2.2.1.symm) rfl hd g1 (by rw [cv_cats]; exact (by show 2 * 0 + _ + 12 ≤ _; omega)) (kk p e s m args below meth c H locs ls Z F O hlo hL h1 h2 hR)
def rset (refs : List Nat) (k v : Nat) : List Nat := (refs ++ List.replicate (k + 1 - refs.length) 0).set k v
theorem rset_at (refs : List Nat) (k v : Nat) : (rset refs k v).getD k 0 = v := by
  unfold rset
  rw [List.getD_eq_getElem?_getD, List.getElem?_set_self (by simp; omega)]
  rfl
theorem rset_ne (refs : List Nat) {k j : Nat} (v : Nat) (h : j ≠ k) : (rset refs k v).getD j 0 = refs.getD j 0 := by
  unfold rset
  rw [List.getD_eq_getElem?_getD, List.getElem?_set_ne (Ne.symm h), List.getD_eq_getElem?_getD]
  by_cases hj : j < refs.length
  · rw [List.getElem?_append_left hj]
  · rw [List.getElem?_append_right (by omega), List.getElem?_eq_none (l := refs) (by omega)]
    cases hx : (List.replicate (k + 1 - refs.length) 0)[j - refs.length]? with
    | none => rfl
    | some z =>
      have := List.mem_of_getElem? hx
      simp at this
      rw [this.2]
      rfl
theorem wd_setS {E : vE} {S : vS} {M : vM} {k : Nat} {sh sh2 : Nat × Nat × List Nat} (h : S[k + 3]? = some sh) : (wd E S M).set k (eB E + k, ent E (k + 3) sh2 M) = wd E (S.set (k + 3) sh2) M := by
  apply List.ext_getElem?
  intro i
  have hlS : k + 3 < S.length := (List.getElem?_eq_some_iff.mp h).1
  by_cases hi : i = k
  · subst hi
    have hl : i < (wd E S M).length := (List.getElem?_eq_some_iff.mp (wd_at (E := E) (M := M) h)).1
    rw [List.getElem?_set_self hl, wd_at (List.getElem?_set_self hlS)]
  · rw [List.getElem?_set_ne (Ne.symm hi)]
    have e3 : (S.set (k + 3) sh2)[i + 3]? = S[i + 3]? := List.getElem?_set_ne (by omega)
    cases hs : S[i + 3]? with
    | none =>
      have e : ∀ S' : vS, S'[i + 3]? = none → (wd E S' M)[i]? = none := by
        intro S' h5
        cases hw : (wd E S' M)[i]? with
        | none => rfl
        | some q => obtain ⟨_, h1, -⟩ := wd_of hw; rw [h5] at h1; cases h1
      rw [e _ hs, e _ (e3.trans hs)]
    | some s2 => rw [wd_at hs, wd_at (e3.trans hs)]
theorem x_putR {q ci len k i t : Nat} {refs : List Nat} {C : String} {T : u_T} {N : Nat} (hc : vcl[ci]? = some (C, T, N)) (hkN : k < N) (hl : Cond.fieldLink (iy mi).cls i (T k).1 (T k).2.1 (T k).2.2.1 ∈ gTbl) (hr : isRf ci k = true) (hfin : (T k).2.2.2 = true) (hin2 : (iy mi).name = "<init>") (hdecl : (T k).1 = (iy mi).cls) (hn : ∀ z : Nat, narrow (vty ci k) (.ref z) = .ref z) (hfit : ∀ z : Nat, fits (vty ci k) (.ref z) = true) (hs : S[q]? = some (ci, len, refs)) (hk : k < len) (hd : decode (ib mi) pc = .ok (.putfield i, 3)) (kk : PM E l mi (pc + 3) lv st (S.set q (ci, len, rset refs k (t + 1))) M kc ks Q) : PM E l mi pc lv (.ref t :: .ref q :: st) S M kc ks Q := by
  intro p e s m args below meth c H locs ls Z F O hlo hL h1 h2 hR
  obtain ⟨hci, hin, hty, hnm⟩ := cls_ok hc
  obtain ⟨q, rfl⟩ := O.obj hs (by omega)
  have he := wd_at (E := E) (M := M) hs
  rw [ent_obj hci] at he
  have hts := F.2.2.2.2.1
  have hK := F.2.2.2.2.2.2.1
  have hap := va_apart (own := (iy mi).cls) hts hin (vty ci) hty hnm hK hc
  obtain ⟨r, g1, cell, q1, q2, q3, q4⟩ := O.1 q _ he
  have hr2 : r = (C, T, N) := Option.some.inj (g1.symm.trans hc)
  subst hr2
  obtain ⟨hS, hfc, kC, hkC, hkind⟩ := hK.1 ci _ hc
  obtain ⟨cf, kf, fi, f, hi, hsl⟩ := hS k hkN
  have hlay := hts _ (hin _ (u_in_lay hkN))
  unfold u_lay at hlay
  rw [if_pos hfin] at hlay
  have hst := (u_facts hfc hkC (u_lays hts hin hkN) hi).1
  have hcf : m.cls = cf := by
    obtain ⟨_, _, c', _, _, _, -, -, hf', -, -, -, hown2, -⟩ := Cond.laysFinal_spec hlay
    have e1 : c' = cf := by have := hi.symm.trans hf'; simp at this; exact this.1.symm
    rw [hdecl] at hown2
    rw [← e1]; exact Option.some.inj (F.2.2.2.1.symm.trans hown2)
  have h6 := u_fits hfc hkC hkind (Or.inr hlay) hi (hty k hkN) (hn (ad E t)) (hfit (ad E t))
  refine W.putFinK F.1 F.2.1 F.2.2.2.1 (hts _ hl) hi hst hcf (F.2.2.2.2.2.2.2.1.trans hin2) (by rw [q2]; exact h6) q1 q3 (by rw [hsl]; exact k2_hasslot (q4 k hkN)) rfl rfl hd fun H' e1 e2 e3 => ?_
  rw [hsl] at e1
  have hlS : q + 3 < S.length := (List.getElem?_eq_some_iff.mp hs).1
  have O1 : Wo E s H' (S.set (q + 3) (ci, len, rset refs k (t + 1))) M := by
    have O0 := O
    obtain ⟨hP, hsz, h3, h4, ⟨L, h5, h6⟩, h7, h8, ⟨b1, b2, b3⟩, h10, h11⟩ := O
    have lo : ∀ z, z < eB E → H'[z]? = H[z]? := fun z hz => e3 z (by show z ≠ eB E + q; omega)
    refine ⟨?_, fun z => ?_, by rw [List.getElem?_set_ne (by omega)]; exact h3, by rw [List.getElem?_set_ne (by omega)]; exact h4, ⟨L, by rw [List.getElem?_set_ne (by omega)]; exact h5, h6.kept (lo _ b3)⟩, h7.kept (lo _ b1), h8.kept (lo _ b2), ⟨b1, b2, b3⟩, h10.kept (fun a _ hb => lo a (by omega)), h11.kept (fun a _ hb => lo a (by omega))⟩
    · rw [← wd_setS hs]
      refine hP.set (wd_D E S M) he ?_ e3
      rw [ent_obj hci]
      refine ⟨_, hc, t_OB.to (V := updV (vp_V ((List.range len).map (fld E (q + 3) ci refs M))) k (.ref (ad E t))) ⟨_, e1, q2, q3, t_set q4 hap hkN (.ref (ad E t))⟩ (fun j hj => ?_)⟩
      by_cases hjk : j = k
      · subst hjk
        rw [fld_V hk]
        simp only [updV, fld, hr, rfd, if_true]
        rw [rset_at]
      · by_cases hjl : j < len
        · rw [fld_V hjl]
          simp only [updV, hjk, if_false]
          rw [fld_V hjl]
          unfold fld rfd
          rw [rset_ne refs (t + 1) hjk]
        · rw [fld_V0 hjl]
          simp only [updV, hjk, if_false]
          rw [fld_V0 hjl]
    · rw [List.length_set] at z ⊢
      rw [e2]; exact hsz z
  refine kk p e s m args below meth c H' _ ls Z F O1 ?_ hL h1 h2 hR
  intro z hz
  rcases List.mem_append.mp hz with h | h
  · exact hlo z h
  · rw [List.mem_singleton.mp h]
    exact Nat.le_add_right _ _
theorem x_copy {i q0 q1 n0 n1 : Nat} {r0 r1 : List Nat} {sp dp n : Int32} (w1 : Cond.methodLink (iy mi).cls i arraycopyName ∈ gTbl) (w2 : Cond.native arraycopyName ∈ gTbl) (w3 : Cond.static arraycopyName ∈ gTbl) (w4 : Cond.initialized "java/lang/System" ∈ gTbl) (hq0 : 3 ≤ q0) (hq1 : 3 ≤ q1) (hz : 67 ≤ S.length) (hs0 : S[q0]? = some (100, n0, r0)) (hs1 : S[q1]? = some (100, n1, r1))
    (g1 : ¬ sp < 0) (g2 : ¬ dp < 0) (g3 : ¬ n < 0) (g4 : sp.toNatClampNeg + n.toNatClampNeg ≤ n0) (g5 : dp.toNatClampNeg + n.toNatClampNeg ≤ n1) (g6 : 1 ≤ (iR mi).frames) (g7 : (st.map fun v => v.category).sum + (nativeFrameWords "java/lang/System" "arraycopy" 5 + 11) ≤ (iR mi).locals) (hd : decode (ib mi) pc = .ok (.invokestatic i, 3))
    (kk : PM E l mi (pc + 3) lv st S (sM M q1 (va_cpy (M q0) (M q1) sp.toNatClampNeg dp.toNatClampNeg n.toNatClampNeg)) kc ks Q) : PM E l mi pc lv (.int n :: .int dp :: .ref q1 :: .int sp :: .ref q0 :: st) S M kc ks Q := by
  intro p e s m args below meth c H locs ls Z F O hlo hL h1 h2 hR
  obtain ⟨q0, rfl⟩ : ∃ q', q0 = q' + 3 := ⟨q0 - 3, by omega⟩
  obtain ⟨q1, rfl⟩ : ∃ q', q1 = q' + 3 := ⟨q1 - 3, by omega⟩
  have he0 := wd_at (E := E) (M := M) hs0
  have he1 := wd_at (E := E) (M := M) hs1
  rw [ent_I] at he0 he1
  have hts := F.2.2.2.2.1
  refine va_copyi (A := fun z => eB E ≤ z) (H0 := H) F.1 F.2.1 (F.2.2.1.trans hL.1.symm) F.2.2.2.1 (hts _ w1) (hts _ w2) (hts _ w3) (hts _ w4) F.2.2.2.2.2.2.1 O.1 (wd_D E S M) ⟨Nat.le_refl _, fun _ _ _ => rfl, hlo⟩ q0 q1 0 0 (ty := .int) he0 he1 rfl rfl rfl g1 g2 g3 g4 g5 (fun z _ => rfl) g6 (by rw [cv_cats]; exact g7) hd ?_
  intro H1 locs1 hP1 hD1 hS1
  refine kk p e s m args below meth c H1 locs1 ls Z F (O.copied ?_ hz (fun z hz => ?_) (sM_ne _ _ _ (by omega)) (sM_ne _ _ _ (by omega)) (sM_ne _ _ _ (by omega))) hS1.2.2 hL h1 h2 hR
  · rw [← wd_set _ hs1, ent_I, sM_at]
    exact hP1
  · exact hS1.2.1 z (by
      have := O.2.2.2.2.2.2.2.2.1
      have h5 := O.1 q0 _ he0
      have := h5.lt
      have h6 : (eB E + q0) < H.size := this
      omega) (by show ¬ eB E ≤ z; omega)
end RD

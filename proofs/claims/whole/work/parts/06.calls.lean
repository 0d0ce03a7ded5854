/-- a method's entry: its arguments in its locals -/
def lay2 (vs : List Value) : List Value := vs.flatMap fun v => if v.category = 2 then [v, .null] else [v]
def entl (mj : vMI) (vs : List Value) : List Value := lay2 vs ++ List.replicate (im mj - (lay2 vs).length) .null
theorem lay2_sl (E : vE) : ∀ (vs : List Value) (i : Nat) (v : Value) (n1 n2 : Nat), (lay2 vs ++ List.replicate n1 Value.null)[i]? = some v → v ≠ .null → (lg_sl (vs.map (cv E)) ++ List.replicate n2 Slot.unset)[i]? = some (.val (cv E v))
  | [], i, v, n1, n2, h, hv => by
    have h1 := List.mem_of_getElem? h
    simp [lay2] at h1
    exact absurd h1.2 hv
  | w :: vs, i, v, n1, n2, h, hv => by
    by_cases hw : w.category = 2
    · have e1 : lay2 (w :: vs) = w :: Value.null :: lay2 vs := by simp [lay2, hw]
      have e2 : lg_sl ((w :: vs).map (cv E)) = Slot.val (cv E w) :: Slot.second :: lg_sl (vs.map (cv E)) := by simp [lg_sl, cv_cat, hw]
      rw [e1] at h
      rw [e2]
      match i, h with
      | 0, h => simp at h; subst h; simp
      | 1, h => simp at h; exact absurd h.symm hv
      | i + 2, h => simpa using lay2_sl E vs i v n1 n2 (by simpa using h) hv
    · have e1 : lay2 (w :: vs) = w :: lay2 vs := by simp [lay2, hw]
      have e2 : lg_sl ((w :: vs).map (cv E)) = Slot.val (cv E w) :: lg_sl (vs.map (cv E)) := by simp [lg_sl, cv_cat, hw]
      rw [e1] at h
      rw [e2]
      match i, h with
      | 0, h => simp at h; subst h; simp
      | i + 1, h => simpa using lay2_sl E vs i v n1 n2 (by simpa using h) hv
theorem lay2_len (E : vE) (vs : List Value) : (lg_sl (vs.map (cv E))).length = (lay2 vs).length := by
  induction vs with
  | nil => rfl
  | cons w vs ih =>
    by_cases hw : w.category = 2
    · have e1 : lay2 (w :: vs) = w :: Value.null :: lay2 vs := by simp [lay2, hw]
      have e2 : lg_sl ((w :: vs).map (cv E)) = Slot.val (cv E w) :: Slot.second :: lg_sl (vs.map (cv E)) := by simp [lg_sl, cv_cat, hw]
      rw [e1, e2]; simp [ih]
    · have e1 : lay2 (w :: vs) = w :: lay2 vs := by simp [lay2, hw]
      have e2 : lg_sl ((w :: vs).map (cv E)) = Slot.val (cv E w) :: lg_sl (vs.map (cv E)) := by simp [lg_sl, cv_cat, hw]
      rw [e1, e2]; simp [ih]
theorem entry_Lr (E : vE) (mj : vMI) (vs : List Value) (h : (lay2 vs).length ≤ im mj) : Lr E ((lg_sl (vs.map (cv E)) ++ List.replicate (im mj - (lg_sl (vs.map (cv E))).length) Slot.unset).toArray) (entl mj vs) (im mj) := by
  have h1 := lv_entry (vs.map (cv E)) (n := im mj) (by rw [lay2_len]; exact h)
  refine ⟨h1.1, h1.2.1, by unfold entl; simp; omega, fun i v hv hn => ?_⟩
  rw [List.getElem?_toArray]
  exact lay2_sl E vs i v _ _ hv hn
/-- a method that may be called -/
def MOk (mj : vMI) (n : Nat) : Prop := Cond.code (iy mj) (ib mj) (im mj) (ir mj) ∈ gTbl ∧ Cond.initialized (iy mj).cls ∈ gTbl ∧ plainName (iy mj).cls = true ∧ ((iy mj).cls ≠ "java/lang/invoke/MethodHandle" ∧ (iy mj).cls ≠ "java/lang/invoke/VarHandle" ∧ (parseMethodDescriptor (iy mj).desc).map (fun d => d.parameters.length) = some n)
def wsm (mj : vMI) : List Cond := .code (iy mj) (ib mj) (im mj) (ir mj) :: gTbl
def PcE (E : vE) (vs : List Value) (S : vS) (M : vM) : Array Value → State → Prop := fun a U => a = (vs.map (cv E)).toArray ∧ Wo E U U.heap S M ∧ va_K (eG E) vcl [(eI E, .int), (eZ E, .boolean)] U ∧ ∀ w ∈ nTbl, va_Nw w U
def QcE (E : vE) (Q : Option Value → vS → vM → Prop) : Array Value → State → Outcome → State → Prop := fun _ _ o t => ∃ (r : Option Value) (S : vS) (M : vM), o = .returned (r.map (cv E)) ∧ Q r S M ∧ Wo E t t.heap S M
theorem PcE.blind (E : vE) (vs : List Value) (S : vS) (M : vM) : FrameBlind (PcE E vs S M) := by
  intro a U g mk h
  obtain ⟨h1, h2, h3, h4⟩ := h
  exact ⟨h1, Wo.moved (u := U) (U := U.calling g mk a) (Vm.Alike.refl U.vm) h2, va_K.moved (u := U) (U := U.calling g mk a) (Vm.Alike.refl U.vm) h3, fun w hw => nw_same (s := U) (U := U.calling g mk a) hw rfl (h4 w hw)⟩
theorem met_of {E : vE} {l : Launch} {mj : vMI} {n : Nat} (ok : MOk mj n) {vs : List Value} {S : vS} {M : vM} {Q : Option Value → vS → vM → Prop} (hlen : (lay2 vs).length ≤ im mj) (h : PM E l mj 0 (entl mj vs) [] S M 0 0 Q) :
    Met l (iy mj) (wsm mj) (iR mj) (PcE E vs S M) (QcE E Q) (iR mj).cells (iR mj).slots (fun q => eB E ≤ q) := by
  refine Met.ofW (cc := ib mj) (maxL := im mj) (ret := ir mj) ok.2.2.1 rfl ?_
  intro p e s m args below meth c s₁ B hml hv
  obtain ⟨rfl, hW, hK, hN⟩ := hv
  have hts := atoms_spec (ws := wsm mj) B.pre
  have hown := findClass_of_methodNamed B.named
  have F : Fx E mj p s m (vs.map (cv E)).toArray meth c := ⟨B.exec, B.bytes, hml, hown, fun w hw => hts w (List.mem_cons_of_mem _ hw), hN, hK, (name_of_methodNamed B.named B.method).1, B.returns, B.notSynchronized⟩
  rw [lg_entry_eq]
  refine h p e s m _ below meth c s.heap [] _ _ F hW (fun q hq => by cases hq) (entry_Lr E mj vs hlen) (Nat.zero_le _) (Nat.zero_le _) ?_
  intro r S' M' kc ks H locs ls pc hq O hlo g1 g2 hr
  refine W.widen g1 g2 ?_
  have hpost : ∀ t : State, t.heap = H → s.WarmedH t.vm → QcE E Q (vs.map (cv E)).toArray s (.returned (r.map (cv E))) t := fun t ht hw => ⟨r, S', M', rfl, hq, by rw [ht]; exact O.moved hw.alike⟩
  rcases hr with ⟨hd, v, ty, rfl, hrt, hn⟩ | ⟨hd, rfl, hrt⟩ | ⟨hd, k, nm, rfl, hrt⟩
  · exact W.zret B.exec B.bytes (B.returns.trans hrt) hn hpost hlo hd B.notSynchronized
  · exact W.vret B.exec B.bytes (B.returns.trans hrt) hpost hlo hd B.notSynchronized
  · exact W.aret (v := cv E (.ref k)) B.exec B.bytes (B.returns.trans hrt) (Or.inl ⟨_, rfl⟩) (Or.inr ⟨_, rfl⟩) hpost hlo hd B.notSynchronized
/-- a method's link -/
def LkM (own : String) (i : Nat) (y : MethodName) : Prop := Cond.methodLink own i y ∈ gTbl ∨ ∃ host, Cond.methodLinkNest own i y host ∈ nTbl
theorem good_w {w : Cond} (h : w ∈ gTbl) : (w.onTables && w.keeps) = true ∨ ∃ ty, w = .arrayClass ty := good_of_word (List.mem_filter.mp h).2
theorem good_m {mj : vMI} {n : Nat} (ok : MOk mj n) : GoodIn gTbl (wsm mj) := by
  intro w hw
  rcases List.mem_cons.mp hw with h | h
  · rw [h]; exact ⟨ok.1, good_w ok.1⟩
  · exact ⟨h, good_w h⟩
def Fit (mi mj : vMI) (kc ks : Nat) (rest : List Value) (vs : List Value) : Prop := (iR mj).frames + 1 ≤ (iR mi).frames ∧ 8 + (im mj + 11) + (iR mj).locals ≤ (iR mi).locals ∧ kc + (iR mj).cells ≤ (iR mi).cells ∧ ks + (iR mj).slots ≤ (iR mi).slots ∧ (rest.map fun v => v.category).sum ≤ 8 ∧ (lay2 vs).length ≤ im mj
section RE
variable {E : vE} {l : Launch} {mi mj : vMI} {pc : Nat} {lv st rest : List Value} {S : vS} {M : vM} {kc ks : Nat} {Q : Option Value → vS → vM → Prop}
theorem run_go {p : Program} {e : Env} {s : State} {m : MethodId} {args : Array Value} {below : List Frame} {meth : Method} {c : Code} {H : Heap} {locs : List Loc} {R : Room} {Z : State → Prop} {ls : Array Slot} {st0 rest0 : List Value} {mc ms : Nat} {Q' : Option Value → vS → vM → Prop} {ar : Array Value}
    (hr : va_Run p l e R s m args below meth c H locs kc ks mc ms (F0 m pc ls st0) rest0 (QcE E Q' ar) (fun q => eB E ≤ q)) (hlo : ∀ q ∈ locs, eB E ≤ q.base)
    (kk : ∀ (r : Option Value) (S' : vS) (M' : vM) (H1 : Heap) (locs1 : List Loc), Q' r S' M' → Wo E s H1 S' M' → (∀ q ∈ locs1, eB E ≤ q.base) → W p l e R s m args below meth c H1 locs1 (kc + mc) (ks + ms) Z (F0 m (pc + 3) ls ((r.map (cv E)).toList ++ rest0))) :
    W p l e R s m args below meth c H locs kc ks Z (F0 m pc ls st0) := by
  intro T hT X
  obtain ⟨v, st₀, t, T', L, h0, X', hL, e1, e2, ⟨r, S', M', hv, hq, O⟩, st⟩ := hr T hT X
  cases hv
  have O' : Wo E s T'.heap S' M' := by
    rw [e1]
    exact O.moved (by rw [← e2]; exact X'.warmed.alike.symm)
  obtain ⟨t2, a1, b1⟩ := kk r S' M' T'.heap (locs ++ L) hq O' (fun q hq => (List.mem_append.mp hq).elim (hlo q) (hL q)) T' rfl X'
  exact ⟨t2, st t2 a1, b1⟩
theorem x_callV {i n : Nat} {As lv' : List Value} {q ci len : Nat} {refs : List Nat} {T : u_T} {N : Nat} (lk : LkM (iy mi).cls i (iy mj)) (ok : MOk mj n) (w1 : Cond.instanceMethod (iy mj) ∈ gTbl) (w2 : Cond.selects (iy mj).cls (iy mj) (iy mj) ∈ gTbl) (hs : S[q]? = some (ci, len, refs)) (hc : vcl[ci]? = some ((iy mj).cls, T, N)) (hn : As.length = n) (ft : Fit mi mj kc ks rest (.ref q :: As)) (hd : decode (ib mi) pc = .ok (.invokevirtual i, 3)) (he : entl mj (.ref q :: As) = lv')
    (kk : PM E l mj 0 lv' [] S M 0 0 (fun r S' M' => PM E l mi (pc + 3) lv (r.toList ++ rest) S' M' (kc + (iR mj).cells) (ks + (iR mj).slots) Q)) : PM E l mi pc lv (As.reverse ++ .ref q :: rest) S M kc ks Q := by
  intro p e s m args below meth c H locs ls Z F O hlo hL h1 h2 hR
  subst he
  obtain ⟨f1, f2, f3, f4, f5, f6⟩ := ft
  have hM := met_of ok f6 kk
  have hts := F.2.2.2.2.1
  have hK := F.2.2.2.2.2.2.1
  have hpre : ∀ U : State, U.heap = H → s.WarmedH U.vm → PcE E (.ref q :: As) S M (((.ref q :: As).map (cv E)).toArray) U := fun U hU hW => ⟨rfl, by rw [hU]; exact O.moved hW.alike, va_K.moved hW.alike hK, fun w hw => nw_warm hw hW (F.2.2.2.2.2.1 w hw)⟩
  have hgo : ∀ (r : Option Value) (S' : vS) (M' : vM) (H1 : Heap) (locs1 : List Loc), PM E l mi (pc + 3) lv (r.toList ++ rest) S' M' (kc + (iR mj).cells) (ks + (iR mj).slots) Q → Wo E s H1 S' M' → (∀ q ∈ locs1, eB E ≤ q.base) → W p l e (iR mi) s m args below meth c H1 locs1 (kc + (iR mj).cells) (ks + (iR mj).slots) Z (F0 m (pc + 3) ls ((r.map (cv E)).toList ++ rest.map (cv E))) := by
    intro r S' M' H1 locs1 hq O1 hlo1
    have h := hq p e s m args below meth c H1 locs1 ls Z F O1 hlo1 hL f3 f4 hR
    have e1 : (r.toList ++ rest).map (cv E) = (r.map (cv E)).toList ++ rest.map (cv E) := by cases r <;> simp
    rw [e1] at h
    exact h
  have hst : (As.reverse ++ .ref q :: rest).map (cv E) = (As.map (cv E)).reverse ++ .ref (ad E q) :: rest.map (cv E) := by simp [cv]
  rw [hst]
  have hroom : (((rest.map (cv E)).map fun v => v.category)).sum ≤ 8 := by rw [cv_cats]; exact f5
  have hsz : ls.size = im mi := hL.1
  have hcell : ∃ cell : Cell, H[ad E q]? = some cell ∧ cell.vm.isStatics = false ∧ s.vm.findClass (iy mj).cls = some cell.cls := by
    have hci := (cls_ok hc).1
    obtain ⟨q', rfl⟩ := O.obj hs (by omega)
    have he := wd_at (E := E) (M := M) hs
    rw [ent_obj hci] at he
    exact va_recv (q := ((iy mj).cls, T, N)) hK O.1 hc he
  rcases lk with lk | ⟨host, lk⟩
  · exact run_go (va_runV (As := As.map (cv E)) (rest := rest.map (cv E)) ⟨F.1, F.2.1, F.2.2.1, F.2.2.2.1, hts⟩ hM ⟨callB_of n hts (good_m ok) rfl rfl rfl (hts _ ok.2.1) (hts _ lk) ok.2.2.2 ⟨f1, f2⟩, hts _ w1, hts _ w2⟩ ⟨PcE.blind _ _ _ _, hcell, hpre⟩ rfl (by rw [List.length_map]; exact hn) hsz rfl (lv_room hroom) hd ⟨f3, f4⟩) hlo hgo
  · exact run_go (va_runVN (As := As.map (cv E)) (rest := rest.map (cv E)) ⟨F.1, F.2.1, F.2.2.1, F.2.2.2.1, hts⟩ hM ⟨va_cnB n hts (good_m ok) rfl rfl rfl (F.2.2.2.2.2.1 _ lk) (hts _ ok.2.1) ok.2.2.2 ⟨f1, f2⟩, hts _ w1, hts _ w2⟩ ⟨PcE.blind _ _ _ _, hcell, hpre⟩ rfl (by rw [List.length_map]; exact hn) hsz rfl (lv_room hroom) hd ⟨f3, f4⟩) hlo hgo
theorem x_callS {i n : Nat} {As lv' : List Value}  (lk : LkM (iy mi).cls i (iy mj)) (ok : MOk mj n) (w1 : Cond.static (iy mj) ∈ gTbl) (hn : As.length = n) (ft : Fit mi mj kc ks rest As) (hd : decode (ib mi) pc = .ok (.invokestatic i, 3)) (he : entl mj As = lv')
    (kk : PM E l mj 0 lv' [] S M 0 0 (fun r S' M' => PM E l mi (pc + 3) lv (r.toList ++ rest) S' M' (kc + (iR mj).cells) (ks + (iR mj).slots) Q)) : PM E l mi pc lv (As.reverse ++ rest) S M kc ks Q := by
  intro p e s m args below meth c H locs ls Z F O hlo hL h1 h2 hR
  subst he
  obtain ⟨f1, f2, f3, f4, f5, f6⟩ := ft
  have hM := met_of ok f6 kk
  have hts := F.2.2.2.2.1
  have hK := F.2.2.2.2.2.2.1
  have hpre : ∀ U : State, U.heap = H → s.WarmedH U.vm → PcE E As S M ((As.map (cv E)).toArray) U := fun U hU hW => ⟨rfl, by rw [hU]; exact O.moved hW.alike, va_K.moved hW.alike hK, fun w hw => nw_warm hw hW (F.2.2.2.2.2.1 w hw)⟩
  have hgo : ∀ (r : Option Value) (S' : vS) (M' : vM) (H1 : Heap) (locs1 : List Loc), PM E l mi (pc + 3) lv (r.toList ++ rest) S' M' (kc + (iR mj).cells) (ks + (iR mj).slots) Q → Wo E s H1 S' M' → (∀ q ∈ locs1, eB E ≤ q.base) → W p l e (iR mi) s m args below meth c H1 locs1 (kc + (iR mj).cells) (ks + (iR mj).slots) Z (F0 m (pc + 3) ls ((r.map (cv E)).toList ++ rest.map (cv E))) := by
    intro r S' M' H1 locs1 hq O1 hlo1
    have h := hq p e s m args below meth c H1 locs1 ls Z F O1 hlo1 hL f3 f4 hR
    have e1 : (r.toList ++ rest).map (cv E) = (r.map (cv E)).toList ++ rest.map (cv E) := by cases r <;> simp
    rw [e1] at h
    exact h
  have hst : (As.reverse ++ rest).map (cv E) = (As.map (cv E)).reverse ++ rest.map (cv E) := by simp [cv]
  rw [hst]
  have hroom : (((rest.map (cv E)).map fun v => v.category)).sum ≤ 8 := by rw [cv_cats]; exact f5
  have hsz : ls.size = im mi := hL.1
  rcases lk with lk | ⟨host, lk⟩
  · exact run_go (va_runS (As := As.map (cv E)) (rest := rest.map (cv E)) ⟨F.1, F.2.1, F.2.2.1, F.2.2.2.1, hts⟩ hM ⟨callB_of n hts (good_m ok) rfl rfl rfl (hts _ ok.2.1) (hts _ lk) ok.2.2.2 ⟨f1, f2⟩, hts _ w1⟩ ⟨PcE.blind _ _ _ _, hpre⟩ rfl (by rw [List.length_map]; exact hn) hsz rfl (lv_room hroom) hd ⟨f3, f4⟩) hlo hgo
  · exact run_go (va_runSN (As := As.map (cv E)) (rest := rest.map (cv E)) ⟨F.1, F.2.1, F.2.2.1, F.2.2.2.1, hts⟩ hM ⟨va_cnB n hts (good_m ok) rfl rfl rfl (F.2.2.2.2.2.1 _ lk) (hts _ ok.2.1) ok.2.2.2 ⟨f1, f2⟩, hts _ w1, trivial⟩ ⟨PcE.blind _ _ _ _, hpre⟩ rfl (by rw [List.length_map]; exact hn) hsz rfl (lv_room hroom) hd ⟨f3, f4⟩) hlo hgo
theorem x_callI {i n : Nat} {As lv' : List Value} {q : Nat} (lk : LkM (iy mi).cls i (iy mj)) (ok : MOk mj n) (w1 : Cond.instanceMethod (iy mj) ∈ gTbl) (hy1 : (iy mj).name = "<init>") (hr : ir mj = none) (hn : As.length = n) (ft : Fit mi mj kc ks rest (.ref q :: As)) (hd : decode (ib mi) pc = .ok (.invokespecial i, 3)) (he : entl mj (.ref q :: As) = lv')
    (kk : PM E l mj 0 lv' [] S M 0 0 (fun r S' M' => PM E l mi (pc + 3) lv (r.toList ++ rest) S' M' (kc + (iR mj).cells) (ks + (iR mj).slots) Q)) : PM E l mi pc lv (As.reverse ++ .ref q :: rest) S M kc ks Q := by
  intro p e s m args below meth c H locs ls Z F O hlo hL h1 h2 hR
  subst he
  obtain ⟨f1, f2, f3, f4, f5, f6⟩ := ft
  have hM := met_of ok f6 kk
  have hts := F.2.2.2.2.1
  have hK := F.2.2.2.2.2.2.1
  have hpre : ∀ U : State, U.heap = H → s.WarmedH U.vm → PcE E (.ref q :: As) S M (((.ref q :: As).map (cv E)).toArray) U := fun U hU hW => ⟨rfl, by rw [hU]; exact O.moved hW.alike, va_K.moved hW.alike hK, fun w hw => nw_warm hw hW (F.2.2.2.2.2.1 w hw)⟩
  have hgo : ∀ (r : Option Value) (S' : vS) (M' : vM) (H1 : Heap) (locs1 : List Loc), PM E l mi (pc + 3) lv (r.toList ++ rest) S' M' (kc + (iR mj).cells) (ks + (iR mj).slots) Q → Wo E s H1 S' M' → (∀ q ∈ locs1, eB E ≤ q.base) → W p l e (iR mi) s m args below meth c H1 locs1 (kc + (iR mj).cells) (ks + (iR mj).slots) Z (F0 m (pc + 3) ls ((r.map (cv E)).toList ++ rest.map (cv E))) := by
    intro r S' M' H1 locs1 hq O1 hlo1
    have h := hq p e s m args below meth c H1 locs1 ls Z F O1 hlo1 hL f3 f4 hR
    have e1 : (r.toList ++ rest).map (cv E) = (r.map (cv E)).toList ++ rest.map (cv E) := by cases r <;> simp
    rw [e1] at h
    exact h
  have hst : (As.reverse ++ .ref q :: rest).map (cv E) = (As.map (cv E)).reverse ++ .ref (ad E q) :: rest.map (cv E) := by simp [cv]
  rw [hst]
  have hroom : (((rest.map (cv E)).map fun v => v.category)).sum ≤ 8 := by rw [cv_cats]; exact f5
  have hsz : ls.size = im mi := hL.1
  have hG := good_m ok
  unfold wsm at hG hM
  rw [hr] at hG hM
  rcases lk with lk | ⟨host, lk⟩
  · exact run_go (va_runI (b := ad E q) (As := As.map (cv E)) (rest := rest.map (cv E)) ⟨F.1, F.2.1, F.2.2.1, F.2.2.2.1, hts⟩ hM ⟨callB_of n hts hG rfl rfl rfl (hts _ ok.2.1) (hts _ lk) ok.2.2.2 ⟨f1, f2⟩, hy1, hts _ w1⟩ ⟨PcE.blind _ _ _ _, hpre⟩ rfl (by rw [List.length_map]; exact hn) hsz rfl (lv_room hroom) hd ⟨f3, f4⟩) hlo hgo
  · exact run_go (va_runIN (b := ad E q) (As := As.map (cv E)) (rest := rest.map (cv E)) ⟨F.1, F.2.1, F.2.2.1, F.2.2.2.1, hts⟩ hM ⟨va_cnB n hts hG rfl rfl rfl (F.2.2.2.2.2.1 _ lk) (hts _ ok.2.1) ok.2.2.2 ⟨f1, f2⟩, hy1, hts _ w1⟩ ⟨PcE.blind _ _ _ _, hpre⟩ rfl (by rw [List.length_map]; exact hn) hsz rfl (lv_room hroom) hd ⟨f3, f4⟩) hlo hgo
end RE

/-! an abstract world: shapes S and numbers M at places 0, 1, 2 (X_STEP, Y_STEP, the script) and on from 3 (cells made since the law began) -/
abbrev vE : Type := Nat × Nat × Nat × Nat × va_G × ClassId × ClassId
abbrev vS : Type := List (Nat × Nat × List Nat)
abbrev vM : Type := Nat → Nat → Int32
abbrev vMI : Type := MethodName × ByteArray × Nat × Option FieldType × Room
def eB (E : vE) : Nat := E.1
def eX (E : vE) : Nat := E.2.1
def eY (E : vE) : Nat := E.2.2.1
def eS (E : vE) : Nat := E.2.2.2.1
def eG (E : vE) : va_G := E.2.2.2.2.1
def eI (E : vE) : ClassId := E.2.2.2.2.2.1
def eZ (E : vE) : ClassId := E.2.2.2.2.2.2
def iy (mi : vMI) : MethodName := mi.1
def ib (mi : vMI) : ByteArray := mi.2.1
def im (mi : vMI) : Nat := mi.2.2.1
def ir (mi : vMI) : Option FieldType := mi.2.2.2.1
def iR (mi : vMI) : Room := mi.2.2.2.2
def ad (E : vE) (k : Nat) : Nat := match k with
  | 0 => eX E
  | 1 => eY E
  | 2 => eS E
  | k + 3 => eB E + k
def cv (E : vE) (v : Value) : Value := match v with
  | .ref k => .ref (ad E k)
  | v => v
theorem cv_cat (E : vE) (v : Value) : (cv E v).category = v.category := by cases v <;> rfl
theorem cv_cats (E : vE) (l : List Value) : ((l.map (cv E)).map fun v => v.category) = l.map fun v => v.category := by
  rw [List.map_map]
  apply List.map_congr_left
  intro v _
  exact cv_cat E v
abbrev vcl : List vw_C := [(RX0, TX0, 11), (RX1, TX1, 4), (RX2, TX2, 5), (RX3, TX3, 2), (RX4, TX4, 8), (RX5, TX5, 4), (RX6, TX6, 7), (RX7, TX7, 3), (RX8, TX8, 10), (RX9, TX9, 33)]
def vty (c : Nat) : Nat → FieldType := match c with
  | 0 => tyX0
  | 1 => tyX1
  | 2 => tyX2
  | 3 => tyX3
  | 4 => tyX4
  | 5 => tyX5
  | 6 => tyX6
  | 7 => tyX7
  | 8 => tyX8
  | _ => tyX9
def isR (t : FieldType) : Bool := match t with
  | .object _ => true
  | .array _ => true
  | _ => false
def isRf (c j : Nat) : Bool := isR (vty c j)
def rfd (E : vE) (refs : List Nat) (j : Nat) : Value := match refs.getD j 0 with
  | 0 => .null
  | q + 1 => .ref (ad E q)
def fld (E : vE) (k kind : Nat) (refs : List Nat) (M : vM) (j : Nat) : Value := if isRf kind j then rfd E refs j else .int (M k j)
def ent (E : vE) (k : Nat) (sh : Nat × Nat × List Nat) (M : vM) : va_E :=
  if sh.1 = 100 then .inl (eI E, sh.2.1, .inl (M k)) else if sh.1 = 101 then .inl (eZ E, sh.2.1, .inl (M k)) else .inr (sh.1, (List.range sh.2.1).map (fld E k sh.1 sh.2.2 M))
def wd (E : vE) (S : vS) (M : vM) : va_W := (S.drop 3).mapIdx (fun k sh => (eB E + k, ent E (k + 3) sh M))
theorem wd_at {E : vE} {S : vS} {M : vM} {k : Nat} {sh : Nat × Nat × List Nat} (h : S[k + 3]? = some sh) : (wd E S M)[k]? = some (eB E + k, ent E (k + 3) sh M) := by
  unfold wd
  rw [List.getElem?_mapIdx, List.getElem?_drop, Nat.add_comm 3 k, h]
  rfl
theorem wd_of {E : vE} {S : vS} {M : vM} {k : Nat} {q : Nat × va_E} (h : (wd E S M)[k]? = some q) : ∃ sh, S[k + 3]? = some sh ∧ q = (eB E + k, ent E (k + 3) sh M) := by
  unfold wd at h
  rw [List.getElem?_mapIdx, List.getElem?_drop, Nat.add_comm 3 k] at h
  cases hs : S[k + 3]? with
  | none => rw [hs] at h; cases h
  | some sh => rw [hs] at h; exact ⟨sh, rfl, (Option.some.inj h).symm⟩
theorem wd_D (E : vE) (S : vS) (M : vM) : va_D (fun q => eB E ≤ q) (wd E S M) := by
  refine ⟨fun i j p q hi hj hpq => ?_, fun k q hk => ?_⟩
  · obtain ⟨_, -, rfl⟩ := wd_of hi
    obtain ⟨_, -, rfl⟩ := wd_of hj
    have : eB E + i = eB E + j := hpq
    omega
  · obtain ⟨_, -, rfl⟩ := wd_of hk
    exact Nat.le_add_right _ _
/-- one cell's numbers anew -/
def sM (M : vM) (k : Nat) (f : Nat → Int32) : vM := fun q => if q = k then f else M q
theorem sM_at (M : vM) (k : Nat) (f : Nat → Int32) : sM M k f k = f := by simp [sM]
theorem sM_ne (M : vM) (k : Nat) (f : Nat → Int32) {q : Nat} (h : q ≠ k) : sM M k f q = M q := by simp [sM, h]
theorem ent_ne {E : vE} {k q : Nat} {sh : Nat × Nat × List Nat} {M : vM} {f : Nat → Int32} (h : k ≠ q) : ent E k sh (sM M q f) = ent E k sh M := by
  have e : sM M q f k = M k := sM_ne M q f h
  have e2 : fld E k sh.1 sh.2.2 (sM M q f) = fld E k sh.1 sh.2.2 M := by
    funext j
    unfold fld
    rw [e]
  unfold ent
  rw [e, e2]
theorem wd_set {E : vE} {S : vS} {M : vM} {k : Nat} {sh : Nat × Nat × List Nat} (f : Nat → Int32) (h : S[k + 3]? = some sh) : (wd E S M).set k (eB E + k, ent E (k + 3) sh (sM M (k + 3) f)) = wd E S (sM M (k + 3) f) := by
  apply List.ext_getElem?
  intro i
  by_cases hi : i = k
  · subst hi
    have hl : i < (wd E S M).length := (List.getElem?_eq_some_iff.mp (wd_at (E := E) (M := M) h)).1
    rw [List.getElem?_set_self hl, wd_at h]
  · rw [List.getElem?_set_ne (Ne.symm hi)]
    cases hs : S[i + 3]? with
    | none =>
      have e : ∀ M' : vM, (wd E S M')[i]? = none := by
        intro M'
        cases hw : (wd E S M')[i]? with
        | none => rfl
        | some q => obtain ⟨_, h1, -⟩ := wd_of hw; rw [hs] at h1; cases h1
      rw [e, e]
    | some s2 =>
      rw [wd_at hs, wd_at hs, ent_ne (by omega)]
/-- the words that every method has; those across a nest -/
def gTbl : List Cond := lw_tbl.filter goodWord
def nest? (w : Cond) : Bool := match w with
  | .fieldLinkNest _ _ _ _ _ _ => true
  | .methodLinkNest _ _ _ _ => true
  | _ => false
def nTbl : List Cond := lw_tbl.filter nest?
theorem nw_warm {w : Cond} (hw : w ∈ nTbl) {s U : State} (hW : s.WarmedH U.vm) (h : va_Nw w s) : va_Nw w U := by
  have h1 := (List.mem_filter.mp hw).2
  cases w with
  | fieldLinkNest a i b n d h2 => exact va_Nw.warmF hW h
  | methodLinkNest a i x h2 => exact va_Nw.warmM hW h
  | _ => cases h1
theorem nw_same {w : Cond} (hw : w ∈ nTbl) {s U : State} (hv : s.vm = U.vm) (h : va_Nw w s) : va_Nw w U := by
  have h1 := (List.mem_filter.mp hw).2
  cases w with
  | fieldLinkNest a i b n d h2 => exact va_Nw.same rfl hv h
  | methodLinkNest a i x h2 => exact va_Nw.same rfl hv h
  | _ => cases h1
theorem nw_of {w : Cond} (hw : w ∈ nTbl) {s : State} {args : Array Value} (h : w.before args s = true) : va_Nw w s := by
  have h1 := (List.mem_filter.mp hw).2
  cases w with
  | fieldLinkNest a i b n d h2 => exact va_Nw.of rfl h
  | methodLinkNest a i x h2 => exact va_Nw.of rfl h
  | _ => cases h1
/-- the heap H holds the world, over the tables of s -/
def Wo (E : vE) (s : State) (H : Heap) (S : vS) (M : vM) : Prop :=
  va_P (eG E) vcl (wd E S M) H ∧ (S.length < 67 → H.size = eB E + (S.length - 3)) ∧ S[0]? = some (100, 4, []) ∧ S[1]? = some (100, 4, []) ∧ (∃ L : Nat, S[2]? = some (100, L, []) ∧ va_X (eS E) L (M 2) s H) ∧
  va_X (eX E) 4 (M 0) s H ∧ va_X (eY E) 4 (M 1) s H ∧ (eX E < eB E ∧ eY E < eB E ∧ eS E < eB E) ∧
  va_Z "BoulderLand" "X_STEP" "[I" (.ref (eX E)) (fun q => eB E ≤ q) s H ∧ va_Z "BoulderLand" "Y_STEP" "[I" (.ref (eY E)) (fun q => eB E ≤ q) s H
theorem Wo.moved {E : vE} {u U : State} {H : Heap} {S : vS} {M : vM} (hvm : u.vm.Alike U.vm) (h : Wo E u H S M) : Wo E U H S M := by
  obtain ⟨h1, h2, h3, h4, ⟨L, h5, h6⟩, h7, h8, h9, h10, h11⟩ := h
  exact ⟨h1, h2, h3, h4, ⟨L, h5, h6.moved hvm⟩, h7.moved hvm, h8.moved hvm, h9, h10.moved hvm, h11.moved hvm⟩
theorem Wo.len {E : vE} {s : State} {H : Heap} {S : vS} {M : vM} (h : Wo E s H S M) : 3 ≤ S.length := by
  obtain ⟨_, _, _, _, ⟨L, h5, _⟩, _⟩ := h
  have := (List.getElem?_eq_some_iff.mp h5).1
  omega
/-- a heap that differs from the old one within the cells made since, and holds their new numbers -/
theorem Wo.to {E : vE} {s : State} {H H1 : Heap} {S : vS} {M M1 : vM} (h : Wo E s H S M) (hP : va_P (eG E) vcl (wd E S M1) H1) (hz : H1.size = H.size) (hq : ∀ q : Nat, q < eB E → H1[q]? = H[q]?) (e0 : M1 0 = M 0) (e1 : M1 1 = M 1) (e2 : M1 2 = M 2) : Wo E s H1 S M1 := by
  have hl := h.len
  obtain ⟨h1, h2, h3, h4, ⟨L, h5, h6⟩, h7, h8, ⟨b1, b2, b3⟩, h10, h11⟩ := h
  refine ⟨hP, fun z => by rw [hz]; exact h2 z, h3, h4, ⟨L, h5, by rw [e2]; exact h6.kept (hq _ b3)⟩, by rw [e0]; exact h7.kept (hq _ b1), by rw [e1]; exact h8.kept (hq _ b2), ⟨b1, b2, b3⟩, h10.kept (fun a _ hb => hq a (by omega)), h11.kept (fun a _ hb => hq a (by omega))⟩
theorem Wo.copied {E : vE} {s : State} {H H1 : Heap} {S : vS} {M M1 : vM} (h : Wo E s H S M) (hP : va_P (eG E) vcl (wd E S M1) H1) (hz : 67 ≤ S.length) (hq : ∀ q : Nat, q < eB E → H1[q]? = H[q]?) (e0 : M1 0 = M 0) (e1 : M1 1 = M 1) (e2 : M1 2 = M 2) : Wo E s H1 S M1 := by
  obtain ⟨h1, h2, h3, h4, ⟨L, h5, h6⟩, h7, h8, ⟨b1, b2, b3⟩, h10, h11⟩ := h
  exact ⟨hP, fun z => absurd z (by omega), h3, h4, ⟨L, h5, by rw [e2]; exact h6.kept (hq _ b3)⟩, by rw [e0]; exact h7.kept (hq _ b1), by rw [e1]; exact h8.kept (hq _ b2), ⟨b1, b2, b3⟩, h10.kept (fun a _ hb => hq a (by omega)), h11.kept (fun a _ hb => hq a (by omega))⟩
/-- what stands fast in a frame of the method mi -/
def Fx (E : vE) (mi : vMI) (p : Program) (s : State) (m : MethodId) (args : Array Value) (meth : Method) (c : Code) : Prop :=
  p.tables.exec = Jvm.exec ∧ c.code = ib mi ∧ c.maxLocals = im mi ∧ s.vm.findClass (iy mi).cls = some m.cls ∧ (∀ w ∈ gTbl, w.before args s = true) ∧ (∀ w ∈ nTbl, va_Nw w s) ∧
  va_K (eG E) vcl [(eI E, .int), (eZ E, .boolean)] s ∧ meth.name = (iy mi).name ∧ meth.sig.returnType = ir mi ∧ meth.locks = false
def Lr (E : vE) (ls : Array Slot) (lv : List Value) (n : Nat) : Prop := ls.size = n ∧ lv_wf ls ∧ lv.length = n ∧ ∀ (i : Nat) (v : Value), lv[i]? = some v → v ≠ .null → ls[i]? = some (.val (cv E v))
/-- an end of the method mi at pc with the answer r -/
def rAt (mi : vMI) (pc : Nat) (r : Option Value) : Prop :=
  (decode (ib mi) pc = .ok (.ireturn, 1) ∧ ∃ (v : Int32) (ty : FieldType), r = some (.int v) ∧ ir mi = some ty ∧ narrow ty (.int v) = .int v) ∨
  (decode (ib mi) pc = .ok (.return_, 1) ∧ r = none ∧ ir mi = none) ∨
  (decode (ib mi) pc = .ok (.areturn, 1) ∧ ∃ (k : Nat) (n : String), r = some (.ref k) ∧ ir mi = some (.object n))
def Rt (E : vE) (l : Launch) (mi : vMI) (p : Program) (e : Env) (s : State) (m : MethodId) (args : Array Value) (below : List Frame) (meth : Method) (c : Code) (Z : State → Prop) (Q : Option Value → vS → vM → Prop) : Prop :=
  ∀ (r : Option Value) (S : vS) (M : vM) (kc ks : Nat) (H : Heap) (locs : List Loc) (ls : Array Slot) (pc : Nat), Q r S M → Wo E s H S M → (∀ q ∈ locs, eB E ≤ q.base) → kc ≤ (iR mi).cells → ks ≤ (iR mi).slots → rAt mi pc r →
    W p l e (iR mi) s m args below meth c H locs kc ks Z (F0 m pc ls (r.toList.map (cv E)))
/-- THE JUDGEMENT: the method mi at pc, with locals lv and stack st over the world (S, M), kc cells of ks slots made so far, comes to an end with Q -/
def PM (E : vE) (l : Launch) (mi : vMI) (pc : Nat) (lv st : List Value) (S : vS) (M : vM) (kc ks : Nat) (Q : Option Value → vS → vM → Prop) : Prop :=
  ∀ (p : Program) (e : Env) (s : State) (m : MethodId) (args : Array Value) (below : List Frame) (meth : Method) (c : Code) (H : Heap) (locs : List Loc) (ls : Array Slot) (Z : State → Prop),
    Fx E mi p s m args meth c → Wo E s H S M → (∀ q ∈ locs, eB E ≤ q.base) → Lr E ls lv (im mi) → kc ≤ (iR mi).cells → ks ≤ (iR mi).slots → Rt E l mi p e s m args below meth c Z Q →
    W p l e (iR mi) s m args below meth c H locs kc ks Z (F0 m pc ls (st.map (cv E)))

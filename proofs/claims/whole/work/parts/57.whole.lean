/-! THE CLAIM OUT OF ONE WALK OF THE LAW'S BODY. Your part is whole_start (and what it stands on); all else here is the same for every law, but numbers. -/
def R_law : String := "BoulderLandLaw"
def lw_P (b : Addr) (xs : List Int32) (args : Array Value) (s : State) : Prop := args = #[.ref b] ∧ s.IntsAt b xs ∧ xs.length ≤ 2560 ∧ (Jvm.Cond.and given_1 narrow_1).before args s = true
def lw_Q (_ : Array Value) (s : State) (o : Outcome) (t : State) : Prop := o = .returned (some (.int 1)) ∧ Framed s o t [] 64 1935
def lw_Z (below : List Frame) (a : Array Value) (s : State) : State → Prop := fun t => ∃ o, t.status = .running ∧ Ended t below o ∧ lw_Q a s o t
/-- the law's own end, with 1 on the stack, nothing written that was there before, its room as the claim has it -/
theorem lw_ret {p : Program} {l : Launch} {e : Env} {s : State} {m : MethodId} {below : List Frame} {meth : Method} {c : Code} {b : Nat} (hx : p.tables.exec = Jvm.exec) (hb : c.code = code) (hr : meth.sig.returnType = ret) (hlocks : meth.locks = false) {pc : Nat} {H : Heap} {ls : Array Slot} (hdg : decode code pc = .ok (.ireturn, 1)) : W p l e room_1 s m #[Value.ref b] below meth c H [] 64 1935 (lw_Z below #[Value.ref b] s) (F0 m pc ls [.int 1]) := by
  intro T hT X
  obtain ⟨fs, hret, hrun, hended, hW, hframe⟩ := X.leave (v := some (.int 1)) (hlocks := hlocks) (fun h => by rw [hr] at h; cases h)
  have hmeth' : T.vm.method? m = some meth := X.method'
  refine ⟨T.setFrames fs, ?_, .returned (some (.int 1)), hrun, hended, rfl, ⟨_, rfl⟩, hW, hframe⟩
  jvm_step X.here [X.here.top, hx, hb, hdg, hmeth', hr, ret, narrow_b1]
  (try refine ⟨rfl, ?_⟩); (try refine ⟨rfl, ?_⟩)
  first | (intro acts; rw [hret _ acts rfl rfl rfl]) | rw [hret _ _ rfl rfl rfl]
  exact Steps.refl _
/-- what holds at the law's entry: the machine, the code, the tables' words (any of lw_tbl by 'hts w (by decide +kernel)'), the script of L ints xs at the cell b, what the Statement gives of the start (any of its parts by flat_of_before) -/
def lw_At (p : Program) (s : State) (m : MethodId) (meth : Method) (c : Code) (b L : Nat) (xs : Nat → Int32) : Prop :=
  p.tables.exec = Jvm.exec ∧ c.code = code ∧ meth.sig.returnType = ret ∧ c.maxLocals = 4 ∧ s.vm.findClass R_law = some m.cls ∧ (∀ w ∈ lw_tbl, w.before #[Value.ref b] s = true) ∧ va_X b L xs s s.heap ∧ b < s.heap.size ∧ meth.locks = false ∧ (Jvm.Cond.and given_1 narrow_1).before #[Value.ref b] s = true
theorem len_small {args : Array Value} {s : State} {t : Term} {v : Value} (hv : (Term.length t).eval args s none [] s = some v) : ∃ (b : Nat) (cell : Cell), t.eval args s none [] s = some (.ref b) ∧ s.arrayAt? b = some cell ∧ cell.slots.size < 2 ^ 31 := by
  obtain ⟨b, cell, ht, harr, -⟩ := Term.length_spec hv
  refine ⟨b, cell, ht, harr, ?_⟩
  simp only [Term.eval, ht, harr, Option.bind_eq_bind, Option.bind_some] at hv
  by_cases hlt : cell.slots.size < 2147483648
  · exact hlt
  · simp [hlt] at hv
theorem step_of {args : Array Value} {s : State} {t : Term} (v : Nat → Int32) (harr : (Cond.arrayOf t .int).before args s = true) (hlen : (Cond.eq (.length t) (.int 4)).before args s = true) (hel : ∀ j : Nat, j < 4 → (Cond.eq (.elem t (.int (Int32.ofNat j))) (.int (v j))).before args s = true) : ∃ q : Nat, t.eval args s none [] s = some (.ref q) ∧ q < s.heap.size ∧ va_X q 4 v s s.heap := by
  have hv := va_eqt hlen
  obtain ⟨q, ht, cell, h1, h2, h3, h4, h5, h6, h7⟩ := va_Tof (N := 4) (f := fun j => .int (v j)) (A := fun q => s.heap.size ≤ q) (by decide) harr hv (fun j hj => va_eqt (hel j hj)) (fun a h => Nat.not_le.mpr h)
  obtain ⟨q2, cell2, ht2, hc2, hs2⟩ := len_small hv
  cases ht.symm.trans ht2
  obtain ⟨hc3, -⟩ := State.arrayAt?_spec hc2
  cases h1.symm.trans hc3
  have e : cell.slots.size = 4 := (nI_eq hs2 (by decide)).mp h5
  exact ⟨q, ht, (Array.getElem?_eq_some_iff.mp h1).1, cell, h1, h2, h3, e, h6⟩
def vX (j : Nat) : Int32 := if j = 0 then 1 else if j = 1 then 0 else if j = 2 then -1 else 0
def vY (j : Nat) : Int32 := if j = 0 then 0 else if j = 1 then 1 else if j = 2 then 0 else -1
def vM0 (xs : Nat → Int32) : vM := fun q => if q = 0 then vX else if q = 1 then vY else if q = 2 then xs else fun _ => 0
theorem vM0_step (xs : Nat → Int32) : StepC (vM0 xs) := ⟨⟨show vX 0 = nI 1 by decide, show vX 1 = nI 0 by decide, show vX 2 = (-1 : Int32) by decide, show vX 3 = nI 0 by decide⟩, ⟨show vY 0 = nI 0 by decide, show vY 1 = nI 1 by decide, show vY 2 = nI 0 by decide, show vY 3 = (-1 : Int32) by decide⟩⟩
theorem arr_of {s : State} {args : Array Value} {ty : FieldType} (h : (Cond.arrayClass ty).before args s = true) : ∃ cA : ClassId, ArrOfT s cA ty ∧ s.vm.findClass ("[" ++ ty.toString) = some cA := by
  obtain ⟨cA, kA, comp, h1, h2, h3⟩ := Cond.arrayClass_spec h
  exact ⟨cA, fun n z => ⟨fun k h => (by cases h), kA, h2, comp, h3⟩, h1⟩
set_option maxRecDepth 100000 in
set_option maxHeartbeats 4000000 in
theorem whole_start {p : Program} {e : Env} {s : State} {m : MethodId} {below : List Frame} {meth : Method} {c : Code} (l : Launch) {b L : Nat} {xs : Nat → Int32} (hL : L ≤ 2560) (hnm : meth.name = (iy mL_law).name) (C0 : lw_At p s m meth c b L xs) : W p l e room_1 s m #[Value.ref b] below meth c s.heap [] 0 0 (lw_Z below #[Value.ref b] s) (entryFrame m ([Value.ref b] : List Value).toArray 4) := by
  obtain ⟨hx, hb, hr, hml, hown, hts, hX, hbl, hlocks, hgv⟩ := id C0
  have hG : ∀ w ∈ gTbl, w.before #[Value.ref b] s = true := fun w hw => hts w (List.mem_filter.mp hw).1
  have hN : ∀ w ∈ nTbl, va_Nw w s := fun w hw => nw_of hw (hts w (List.mem_filter.mp hw).1)
  obtain ⟨c0, i0, k0⟩ := u_known (C := RX0) (T := TX0) (N := 11) (n := 11) hG inGX0 (hG (.instantiable RX0 11) (gat 141 (by decide +kernel) (by decide +kernel)))
  obtain ⟨c1, i1, k1⟩ := u_known (C := RX1) (T := TX1) (N := 4) (n := 4) hG inGX1 (hG (.instantiable RX1 4) (gat 68 (by decide +kernel) (by decide +kernel)))
  obtain ⟨c2, i2, k2⟩ := u_known (C := RX2) (T := TX2) (N := 5) (n := 5) hG inGX2 (hG (.instantiable RX2 5) (gat 288 (by decide +kernel) (by decide +kernel)))
  obtain ⟨c3, i3, k3⟩ := u_known (C := RX3) (T := TX3) (N := 2) (n := 2) hG inGX3 (hG (.instantiable RX3 2) (gat 186 (by decide +kernel) (by decide +kernel)))
  obtain ⟨c4, i4, k4⟩ := u_known (C := RX4) (T := TX4) (N := 8) (n := 8) hG inGX4 (hG (.instantiable RX4 8) (gat 205 (by decide +kernel) (by decide +kernel)))
  obtain ⟨c5, i5, k5⟩ := u_known (C := RX5) (T := TX5) (N := 4) (n := 4) hG inGX5 (hG (.instantiable RX5 4) (gat 117 (by decide +kernel) (by decide +kernel)))
  obtain ⟨c6, i6, k6⟩ := u_known (C := RX6) (T := TX6) (N := 7) (n := 7) hG inGX6 (hG (.instantiable RX6 7) (gat 237 (by decide +kernel) (by decide +kernel)))
  obtain ⟨c7, i7, k7⟩ := u_known (C := RX7) (T := TX7) (N := 3) (n := 3) hG inGX7 (hG (.instantiable RX7 3) (gat 271 (by decide +kernel) (by decide +kernel)))
  obtain ⟨c8, i8, k8⟩ := u_known (C := RX8) (T := TX8) (N := 10) (n := 10) hG inGX8 (hG (.instantiable RX8 10) (gat 60 (by decide +kernel) (by decide +kernel)))
  obtain ⟨c9, i9, k9⟩ := u_known (C := RX9) (T := TX9) (N := 33) (n := 33) hG inGX9 (hG (.instantiable RX9 33) (gat 748 (by decide +kernel) (by decide +kernel)))
  obtain ⟨dC, dI, hKc⟩ : ∃ (dC : Nat → ClassId) (dI : Nat → Nat → Nat), ∀ (k : Nat) (q : vw_C), vcl[k]? = some q → u_Kn s q.1 q.2.1 q.2.2 (dC k) (dI k) := by
    refine ⟨(fun k => match k with | 0 => c0 | 1 => c1 | 2 => c2 | 3 => c3 | 4 => c4 | 5 => c5 | 6 => c6 | 7 => c7 | 8 => c8 | _ => c9), (fun k => match k with | 0 => i0 | 1 => i1 | 2 => i2 | 3 => i3 | 4 => i4 | 5 => i5 | 6 => i6 | 7 => i7 | 8 => i8 | _ => i9), ?_⟩
    intro k q hq
    match k, hq with
    | 0, hq => cases hq; exact k0
    | 1, hq => cases hq; exact k1
    | 2, hq => cases hq; exact k2
    | 3, hq => cases hq; exact k3
    | 4, hq => cases hq; exact k4
    | 5, hq => cases hq; exact k5
    | 6, hq => cases hq; exact k6
    | 7, hq => cases hq; exact k7
    | 8, hq => cases hq; exact k8
    | 9, hq => cases hq; exact k9
    | k + 10, hq => simp [vcl] at hq
  obtain ⟨cI, aI, fI⟩ := arr_of (hG _ aw_I)
  obtain ⟨cZ, aZ, fZ⟩ := arr_of (hG _ aw_Z)
  have hK : va_K (dC, dI) vcl [(cI, .int), (cZ, .boolean)] s := by
    refine ⟨hKc, fun k q h => ?_⟩
    match k, h with
    | 0, h => cases h; exact ⟨aI, fI⟩
    | 1, h => cases h; exact ⟨aZ, fZ⟩
    | k + 2, h => simp at h
  have hs := flat_of_before _ hgv
  obtain ⟨tX, eX, lX, xX⟩ := step_of (args := #[Value.ref b]) (s := s) (t := (.static "BoulderLand" "X_STEP" "[I")) vX (hs _ (by decide +kernel)) (hs _ (by decide +kernel)) (fun j hj => by
    rcases (show j = 0 ∨ j = 1 ∨ j = 2 ∨ j = 3 by omega) with rfl | rfl | rfl | rfl
    · exact hs (.eq (.elem (.static "BoulderLand" "X_STEP" "[I") (.int 0)) (.int (1))) (by decide +kernel)
    · exact hs (.eq (.elem (.static "BoulderLand" "X_STEP" "[I") (.int 1)) (.int (0))) (by decide +kernel)
    · exact hs (.eq (.elem (.static "BoulderLand" "X_STEP" "[I") (.int 2)) (.int (-1))) (by decide +kernel)
    · exact hs (.eq (.elem (.static "BoulderLand" "X_STEP" "[I") (.int 3)) (.int (0))) (by decide +kernel))
  have zX : va_Z "BoulderLand" "X_STEP" "[I" (.ref tX) (fun q => s.heap.size ≤ q) s s.heap := va_Zref (hts (.laysStatic "BoulderLand" "X_STEP" "[I") (List.mem_of_getElem? (i := 85) (by decide +kernel))) (hts (.initialized "BoulderLand") (List.mem_of_getElem? (i := 45) (by decide +kernel))) eX (fun a h => Nat.not_le.mpr h)
  obtain ⟨tY, eY, lY, xY⟩ := step_of (args := #[Value.ref b]) (s := s) (t := (.static "BoulderLand" "Y_STEP" "[I")) vY (hs _ (by decide +kernel)) (hs _ (by decide +kernel)) (fun j hj => by
    rcases (show j = 0 ∨ j = 1 ∨ j = 2 ∨ j = 3 by omega) with rfl | rfl | rfl | rfl
    · exact hs (.eq (.elem (.static "BoulderLand" "Y_STEP" "[I") (.int 0)) (.int (0))) (by decide +kernel)
    · exact hs (.eq (.elem (.static "BoulderLand" "Y_STEP" "[I") (.int 1)) (.int (1))) (by decide +kernel)
    · exact hs (.eq (.elem (.static "BoulderLand" "Y_STEP" "[I") (.int 2)) (.int (0))) (by decide +kernel)
    · exact hs (.eq (.elem (.static "BoulderLand" "Y_STEP" "[I") (.int 3)) (.int (-1))) (by decide +kernel))
  have zY : va_Z "BoulderLand" "Y_STEP" "[I" (.ref tY) (fun q => s.heap.size ≤ q) s s.heap := va_Zref (hts (.laysStatic "BoulderLand" "Y_STEP" "[I") (List.mem_of_getElem? (i := 87) (by decide +kernel))) (hts (.initialized "BoulderLand") (List.mem_of_getElem? (i := 45) (by decide +kernel))) eY (fun a h => Nat.not_le.mpr h)
  have F : Fx (s.heap.size, tX, tY, b, (dC, dI), cI, cZ) mL_law p s m #[Value.ref b] meth c := ⟨hx, hb, hml, hown, hG, hN, hK, hnm, hr, hlocks⟩
  have O : Wo (s.heap.size, tX, tY, b, (dC, dI), cI, cZ) s s.heap (Sx0 L) (vM0 xs) := ⟨fun k q h => (by cases h), fun _ => rfl, rfl, rfl, ⟨L, rfl, hX⟩, xX, xY, ⟨lX, lY, hbl⟩, zX, zY⟩
  rw [lg_entry_eq]
  refine (law_all (E := (s.heap.size, tX, tY, b, (dC, dI), cI, cZ)) (l := l) (Q := fun r _ _ => r = some (.int (nI 1))) (M := vM0 xs) hL (vM0_step xs) (fun _ => rfl)) p e s m #[Value.ref b] below meth c s.heap [] _ (lw_Z below #[Value.ref b] s) F O (fun q hq => by cases hq) (entry_Lr _ mL_law [.ref 2] (by decide)) (Nat.zero_le _) (Nat.zero_le _) ?_
  intro r S M kc ks H locs ls pc hq O2 hlo g1 g2 hre
  subst hq
  rcases hre with ⟨hd, v, ty, e1, -⟩ | ⟨-, e1, -⟩ | ⟨-, k, n, e1, -⟩
  · refine va_forget hlo ?_
    refine W.widen g1 g2 ?_
    exact lw_ret hx hb hr hlocks hd
  · cases e1
  · cases e1
set_option maxHeartbeats 4000000 in
theorem lw_walk (l : Launch) (b : Addr) (xs : List Int32) : MetFree l x (headSpec (Jvm.Cond.code x code maxLocals ret :: tables_1) room_1) (lw_P b xs) (fun _ _ _ _ _ => True) lw_Q := by
  refine MetFree.of_bodyS (code := code) (maxLocals := maxLocals) (ret := ret) (by decide) ?_ ?_
  · intro args s m h hn
    obtain ⟨meth, c, h1, h2, h3, h4, h5, h6, -, -⟩ := Cond.code_spec hn (atoms_spec (ws := Jvm.Cond.code x code maxLocals ret :: tables_1) h _ List.mem_cons_self)
    exact ⟨meth, c, h1, h2, h3, h4, h5, h6⟩
  · intro p e s m args below meth c s₁ B hml0 hP _
    obtain ⟨rfl, hx, hbd, hgv⟩ := hP
    obtain ⟨scr, harrAt, hlist, hof, hsmall⟩ := hx
    obtain ⟨hcb, hkn, -, -⟩ := State.arrayAt?_spec harrAt
    have hown : s.vm.findClass R_law = some m.cls := findClass_of_methodNamed B.named
    have hts0 : ∀ c ∈ (Jvm.Cond.code x code maxLocals ret :: tables_1), c.before #[Value.ref b] s = true := atoms_spec (ws := Jvm.Cond.code x code maxLocals ret :: tables_1) B.pre
    have hts : ∀ w ∈ lw_tbl, w.before #[Value.ref b] s = true := k2_hts_sels lw_privs (fun w hw => hts0 w (List.mem_cons_of_mem _ hw)) lw_privs_ok
    have hml : c.maxLocals = 4 := B.maxLocals_eq (hts0 _ List.mem_cons_self)
    have X₀ : Stand p l e room_1 s m #[Value.ref b] below meth c s₁ [] 0 0 := Stand.of_body B
    have hh0 : s₁.heap = s.heap := by rw [B.state]; rfl
    have hsz : scr.slots.size = xs.length := by rw [← Array.length_toList, hlist, List.length_map]
    have hval : ∀ j : Nat, j < xs.length → scr.slots[j]? = some (.int (xs.getD j 0)) := fun j hj => by
      rw [← Array.getElem?_toList, hlist]
      simp [hj]
    have hbl : b < s.heap.size := (Array.getElem?_eq_some_iff.mp hcb).1
    have hX : va_X b xs.length (fun j => xs.getD j 0) s s.heap := ⟨scr, hcb, hof, hkn, hsz, hval⟩
    have K : W p l e room_1 s m #[Value.ref b] below meth c s₁.heap [] 0 0 (lw_Z below #[Value.ref b] s) (entryFrame m ([Value.ref b] : List Value).toArray 4) := by
      rw [hh0]
      exact whole_start l hbd (name_of_methodNamed B.named B.method).1 ⟨B.exec, B.bytes, B.returns, hml, hown, hts, hX, hbl, B.notSynchronized, hgv⟩
    obtain ⟨t, a1, o, b1, b2, b3⟩ := K s₁ rfl X₀
    exact ⟨t, o, a1, b1, b2, b3⟩
theorem lw_pre_spec {args : Array Value} {s : State} (h : (Jvm.Cond.and given_1 narrow_1).before args s = true) (hr : rest_1_c.before args s = true) : ∃ (b : Addr) (xs : List Int32), lw_P b xs args s := by
  have hs := flat_of_before _ h
  have hq := flat_of_before _ hr
  have hc : (Cond.count 1).before args s = true := hs _ (by decide +kernel)
  have harr : (Cond.arrayOf (.arg 0) .int).before args s = true := hs _ (by decide +kernel)
  have hle : (Cond.le (.length (.arg 0)) (.int 2560)).before args s = true := hs _ (by decide +kernel)
  have hlen : (Cond.isInt (.length (.arg 0))).before args s = true := hq _ (by decide +kernel)
  have hall : (Cond.all (.arg 0) (.isInt (.elem (.arg 0) (.index 0)))).before args s = true := hq _ (by decide +kernel)
  obtain ⟨b, xs, hb, hx⟩ := State.ints_of_pre rfl harr hlen hall
  have hsm : xs.length < 2 ^ 31 := hx.choose_spec.2.2.2
  have hev : (Term.length (.arg 0)).eval args s none [] s = some (.int xs.length.toInt32) := hx.length_eval hb
  have hv := Cond.le_ints hev (show (Term.int 2560).eval args s none [] s = some (.int 2560) from rfl)
  have hd : xs.length.toInt32 ≤ 2560 := by
    simpa [Cond.before, Cond.holds, hv] using hle
  have hN : xs.length ≤ 2560 := (Int32.ofNat_le_ofNat hsm (by decide)).mp (show Int32.ofNat xs.length ≤ Int32.ofNat 2560 from hd)
  exact ⟨b, xs, Cond.one_arg hc (show args[0]? = some (.ref b) from hb), hx, hN, h⟩
theorem lw_comes (l : Launch) : Comes l x (Jvm.Cond.code x code maxLocals ret :: tables_1) room_1 (fun tb e args s => Calls_1 tb e args s ∧ rest_1 tb e args s ∧ Pre_1 tb e args s)
    (fun _ _ args s o t => lw_Q args s o t) := by
  intro p e ha hc hk s m args below hf hfit hheap happ hpre
  obtain ⟨b, xs, hP⟩ := lw_pre_spec hpre.2.2 hpre.2.1
  obtain ⟨k, o, h1, h2, h3, hQ⟩ := lw_walk l b xs p e ha hc hk s m args below hf ((Spec.applies_iff_loose hf).mp happ).1 hP trivial
  exact ⟨k, o, h1, h2, h3, hQ⟩
theorem lw_frame {s t : State} {o : Outcome} {args : Array Value} (h : Framed s o t [] 64 1935) :
    Framed s o t (fieldLocs frame_1_writes args s ++ arrayLocs frame_1_arrays args s ++ staticLocs frame_1_statics s) 64 1935 := h
theorem lw_limb (L : Cond) (hL : ∀ (args : Array Value) (s t : State), L.after args s (.returned (some (.int 1))) t = true) :
    ArmFor flags0 classFile x code maxLocals ret World_1 tables_1 room_1 Calls_1 rest_1 Pre_1
      (fun tb e a s o t => postC L tb e a s o t ∧ Framed s o t (fieldLocs frame_1_writes a s ++ arrayLocs frame_1_arrays a s ++ staticLocs frame_1_statics s) 64 1935) := by
  intro l _ _ _ p e ha hc hk s m args below hf hfit hheap happ hpre
  obtain ⟨k, o, h1, h2, h3, rfl, hF⟩ := lw_comes l p e ha hc hk s m args below hf hfit hheap happ hpre
  exact ⟨k, _, h1, h2, h3, hL args s _, lw_frame hF⟩
theorem i_vc : Claimed_1_1 ∧ Claimed_1_2 := ⟨lw_limb limb_1_1 (fun args s t => by simp [limb_1_1, Cond.after, Cond.holds, Cond.value]), lw_limb limb_1_2 (fun args s t => Cond.after_iff.mpr (by
  first | (rw [show limb_1_2 = Cond.eq .result (.int 1) from rfl, Cond.eq_ints (x := 1) (y := 1) rfl rfl]; simp; done) | (simp [limb_1_2, Cond.value, Term.eval]; done)))⟩


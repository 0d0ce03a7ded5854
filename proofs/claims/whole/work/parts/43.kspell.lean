def cK (ng : Nat) (cf : Nat → (Nat → Nat) → Nat) (x : Nat) : Nat := cf (kLen x) (dC ng (kLen x) (kCode x))
def RelB (ng : Nat) (c : Nat → Nat) (s : vB) (t : vK) : Prop := s.1 = t.1 ∧ ((s.2 = none ∧ t.2 = none) ∨ ∃ b x, s.2 = some b ∧ t.2 = some x ∧ b.1 = c x ∧ b.2.1 = kLen x ∧ ∀ k, k < b.2.1 → b.2.2 k = dC ng (kLen x) (kCode x) k)
def CfC (cf : Nat → (Nat → Nat) → Nat) : Prop := ∀ m r r', (∀ k, k < m → r k = r' k) → cf m r = cf m r'
theorem RelB.R {ng : Nat} {cf : Nat → (Nat → Nat) → Nat} {s : vB} {t : vK} {m x : Nat} {r : Nat → Nat} (hc : CfC cf) (h : RelB ng (cK ng cf) s t) (hm : kLen x = m) (hr : ∀ k, k < m → r k = dC ng (kLen x) (kCode x) k) : RelB ng (cK ng cf) (bsT true (cf m r) m r s) (kR (cK ng cf) t x) := by
  have ec : cf m r = cK ng cf x := by unfold cK; rw [hm]; exact hc m r _ (fun k hk => by rw [hr k hk, hm])
  unfold bsT kR
  rw [if_pos rfl, ec]
  refine ⟨by simp only; rw [h.1], ?_⟩
  rcases h.2 with ⟨h1, h2⟩ | ⟨b, y, h1, h2, h3, h4, h5⟩
  · rw [h1, h2]
    exact Or.inr ⟨_, _, rfl, rfl, rfl, hm.symm, hr⟩
  · rw [h1, h2]
    simp only
    rw [h3, h4, ← hm]
    by_cases hz : cK ng cf x < cK ng cf y ∨ (cK ng cf x = cK ng cf y ∧ kLen x < kLen y)
    · rw [if_pos hz, if_pos hz]
      exact Or.inr ⟨_, _, rfl, rfl, rfl, rfl, fun k hk => hr k (by rw [← hm]; exact hk)⟩
    · rw [if_neg hz, if_neg hz]
      exact Or.inr ⟨_, _, rfl, rfl, h3, h4, h5⟩
theorem RelB.C {ng : Nat} {cf : Nat → (Nat → Nat) → Nat} {s : vB} {t : vK} {m x : Nat} (h : RelB ng (cK ng cf) s t) (hm : kLen x = m) : RelB ng (cK ng cf) (clT true (cf m (dC ng m (kCode x))) m (dC ng m (kCode x)) s) (kC (cK ng cf) t x) := by
  subst hm
  have ec : cf (kLen x) (dC ng (kLen x) (kCode x)) = cK ng cf x := rfl
  unfold clT kC
  rw [if_pos rfl, ec]
  refine ⟨by simp only; rw [h.1], ?_⟩
  rcases h.2 with ⟨h1, h2⟩ | ⟨b, y, h1, h2, h3, h4, h5⟩
  · rw [h1, h2]
    exact Or.inr ⟨_, _, rfl, rfl, rfl, rfl, fun k hk => rfl⟩
  · rw [h1, h2]
    simp only
    rw [h3]
    by_cases hz : cK ng cf x < cK ng cf y
    · rw [if_pos hz, if_pos hz]
      exact Or.inr ⟨_, _, rfl, rfl, rfl, rfl, fun k hk => rfl⟩
    · rw [if_neg hz, if_neg hz]
      exact Or.inr ⟨_, _, rfl, rfl, h3, h4, h5⟩
theorem LRk_y {ng i : Nat} (h : (lcS ng i 3).1 = true) : LRk ng (i + 1) = LRk ng i ++ [kyR ng (lcS ng i 3).2.2.1 (lcS ng i 3).2.2.2] := by
  unfold LRk
  rw [List.range_succ, List.filterMap_append]
  simp [h]
theorem LRk_n {ng i : Nat} (h : (lcS ng i 3).1 = false) : LRk ng (i + 1) = LRk ng i := by
  unfold LRk
  rw [List.range_succ, List.filterMap_append]
  simp [h]
theorem LIk_y {ng m i : Nat} (h : dsB ng m i = true) : LIk ng m (i + 1) = LIk ng m i ++ [1000 * m + i] := by
  unfold LIk
  rw [List.range_succ, List.filterMap_append]
  simp [h]
theorem LIk_n {ng m i : Nat} (h : dsB ng m i = false) : LIk ng m (i + 1) = LIk ng m i := by
  unfold LIk
  rw [List.range_succ, List.filterMap_append]
  simp [h]
theorem relR {ng : Nat} (hn : ng ≤ 6) {cf : Nat → (Nat → Nat) → Nat} (hc : CfC cf) : ∀ i, i ≤ 343 → RelB ng (cK ng cf) (bsS ng cf i) ((LRk ng i).foldl (kR (cK ng cf)) (0, none))
  | 0, _ => ⟨rfl, Or.inl ⟨rfl, rfl⟩⟩
  | i + 1, hi => by
    have ih := relR hn hc i (by omega)
    have hd := LR_dig ⟨ng, by omega⟩ ⟨i, by omega⟩
    simp only at hd
    show RelB ng (cK ng cf) (bsT (lcS ng i 3).1 (cf (lcS ng i 3).2.2.1 (lcS ng i 3).2.2.2) (lcS ng i 3).2.2.1 (lcS ng i 3).2.2.2 (bsS ng cf i)) _
    cases hv : (lcS ng i 3).1 with
    | false => rw [LRk_n hv, bs_skip rfl]; exact ih
    | true =>
      rw [hv] at hd
      simp only [Bool.not_true, Bool.false_or, Bool.and_eq_true, List.all_eq_true, List.mem_range] at hd
      have hm := Nat.eq_of_beq_eq_true hd.1
      rw [LRk_y hv, List.foldl_append]
      exact RelB.R hc ih hm (fun k hk => by rw [hm]; exact Nat.eq_of_beq_eq_true (hd.2 k hk))
theorem pw_le {ng m : Nat} (hn : ng ≤ 6) (hm : m ≤ 3) : ng ^ m ≤ 216 := by
  have h1 : ng ^ m ≤ 6 ^ m := Nat.pow_le_pow_left hn m
  have h2 : 6 ^ m ≤ 6 ^ 3 := Nat.pow_le_pow_right (by omega) hm
  omega
theorem relI {ng m : Nat} {cf : Nat → (Nat → Nat) → Nat} {s : vB} {t : vK} (h : RelB ng (cK ng cf) s t) : ∀ n, n ≤ 1000 → RelB ng (cK ng cf) (clI ng cf m n s) ((LIk ng m n).foldl (kC (cK ng cf)) t)
  | 0, _ => h
  | n + 1, hn => by
    have ih := relI (m := m) h n (by omega)
    show RelB ng (cK ng cf) (clT (dsB ng m n) (cf m (dC ng m n)) m (dC ng m n) (clI ng cf m n s)) _
    cases hv : dsB ng m n with
    | false => rw [LIk_n hv]; exact ih
    | true =>
      have e1 : kLen (1000 * m + n) = m := by unfold kLen; omega
      have e2 : kCode (1000 * m + n) = n := by unfold kCode; omega
      have k := RelB.C (x := 1000 * m + n) ih e1
      rw [e2] at k
      rw [LIk_y hv, List.foldl_append]
      exact k
theorem relO {ng : Nat} (hn : ng ≤ 6) {cf : Nat → (Nat → Nat) → Nat} : ∀ m, m ≤ 4 → RelB ng (cK ng cf) (clO ng cf m) ((LCk ng m).foldl (kC (cK ng cf)) (0, none))
  | 0, _ => ⟨rfl, Or.inl ⟨rfl, rfl⟩⟩
  | m + 1, hm => by
    have ih := relO hn (cf := cf) m (by omega)
    have hp := pw_le (m := m) hn (by omega)
    show RelB ng (cK ng cf) (clI ng cf m (ng ^ m) (clO ng cf m)) _
    simp only [LCk]
    rw [List.foldl_append]
    exact relI ih _ (by omega)
/-- the class's best is the reference's -/
theorem bs_cl {ng : Nat} (hn : ng ≤ 6) {cf : Nat → (Nat → Nat) → Nat} (hc : CfC cf) : (clO ng cf 4).1 = (bsS ng cf 343).1 ∧ ∃ b b', (bsS ng cf 343).2 = some b ∧ (clO ng cf 4).2 = some b' ∧ b'.1 = b.1 ∧ b'.2.1 = b.2.1 ∧ ∀ k, k < b.2.1 → b'.2.2 k = b.2.2 k := by
  have hR := fold_R (c := cK ng cf) (LRk ng 343) [] (0, none) (fun b hb => by cases hb) (pwl_of (fun x y h => by
    intro e
    simp only [e, Nat.beq_refl, Bool.not_true, Bool.false_or] at h
    exact Nat.le_of_ble_eq_true h) _ (LR_pw ⟨ng, by omega⟩)) ⟨rfl, Or.inl ⟨rfl, rfl⟩⟩
  have hC := fold_C (c := cK ng cf) (LCk ng 4) [] (0, none) (fun b hb => by cases hb) (pwl_of (fun x y h => Nat.le_of_ble_eq_true h) _ (LC_pw ⟨ng, by omega⟩)) ⟨rfl, Or.inl ⟨rfl, rfl⟩⟩
  have hp : (LRk ng 343).Perm (LCk ng 4) := List.isPerm_iff.mp (LR_perm ⟨ng, by omega⟩)
  rw [List.append_nil] at hR hC
  have e := StK.one ((List.reverse_perm _).trans (hp.trans (List.reverse_perm _).symm)) hR hC
  have r1 := relR hn hc 343 (by omega)
  have r2 := relO hn (cf := cf) 4 (by omega)
  rw [← e] at r2
  refine ⟨by rw [r1.1, r2.1], ?_⟩
  obtain ⟨b, hb⟩ := bs_some (ng := ng) (cf := cf) 342
  have hb : (bsS ng cf 343).2 = some b := hb
  rcases r1.2 with ⟨h1, h2⟩ | ⟨b1, x, h1, h2, h3, h4, h5⟩
  · rw [hb] at h1; cases h1
  · rcases r2.2 with ⟨g1, g2⟩ | ⟨b2, y, g1, g2, g3, g4, g5⟩
    · rw [h2] at g2; cases g2
    · rw [h2] at g2; cases g2
      refine ⟨b1, b2, h1, g1, by rw [g3, h3], by rw [g4, h4], fun k hk => ?_⟩
      rw [h5 k hk, g5 k (by rw [g4, ← h4]; exact hk)]
/-- the class's memory of the best -/
def CbM (M : vM) (s : vB) : Prop := M 32 5 = nI s.1 ∧ ((s.2 = none ∧ M 32 4 = -1) ∨ ∃ b, s.2 = some b ∧ b.1 ≤ 1188 ∧ b.2.1 ≤ 6 ∧ M 32 4 = nI b.1 ∧ M 35 1 = nI b.2.1 ∧ ∀ k, k < b.2.1 → M 36 k = nI (b.2.2 k))
theorem StC.kept {M M1 : vM} {w h ns : Nat} {rk : Nat → Nat} {T : Nat → vT} (k : StC M w h ns rk T) (e : ∀ q ∈ [6, 8, 9, 10, 11], M1 q = M q) : StC M1 w h ns rk T := by
  unfold StC at k ⊢
  rw [e 6 (by decide), e 8 (by decide), e 9 (by decide), e 10 (by decide), e 11 (by decide)]
  exact k
theorem SgC.kept {M M1 : vM} {nz : Nat} {U : Nat → vU} (k : SgC M nz U) (e : ∀ q ∈ [27, 28, 29, 30, 31], M1 q = M q) : SgC M1 nz U := by
  unfold SgC at k ⊢
  rw [e 27 (by decide), e 28 (by decide), e 29 (by decide), e 30 (by decide), e 31 (by decide)]
  exact k
theorem itr_div_le {b : Nat} : ∀ n x, itr (fun _ x => x / b) n x ≤ x
  | 0, x => Nat.le_refl _
  | n + 1, x => Nat.le_trans (Nat.div_le_self _ _) (itr_div_le n x)
set_option maxRecDepth 100000 in
set_option maxHeartbeats 4000000 in
theorem k_spell2 {E : vE} {l : Launch} {Q : Option Value → vS → vM → Prop} {L : Nat} {M : vM} {b code m : Nat} (hm : m ≤ 3) (hcd : code < 2 ^ 31) (hQ : ∀ M1 : vM, Fr [33, 34] M M1 → (dsB b m code = true → M1 33 1 = nI m ∧ ∀ k, k < m → M1 34 k = nI (dC b m code k)) → Q (some (.int (bI (dsB b m code)))) (S0 L) M1) : ∀ M1 : vM, Fr [33, 34] M M1 → M1 33 1 = nI 0 → (∀ k, k < m → M1 34 k = nI (dC b m code k)) → (∀ x, x < 0 → ∀ j, j < x → dC b m code j ≠ dC b m code x) → PM E l mX3_spell 65 [.ref 33, .int (nI code), .int (nI m), .int (nI b), .null, .int (nI 0)] [] (S0 L) M1 0 0 Q := by
  have hdl : ∀ k, dC b m code k < 2 ^ 31 := fun k => by have h1 := Nat.mod_le (itr (fun _ x => x / b) (m - 1 - k) code) b; have h2 := itr_div_le (b := b) (m - 1 - k) code; unfold dC; omega
  refine lp_up (P := fun i => ∀ M1 : vM, Fr [33, 34] M M1 → M1 33 1 = nI i → (∀ k, k < m → M1 34 k = nI (dC b m code k)) → (∀ x, x < i → ∀ j, j < x → dC b m code j ≠ dC b m code x) → PM E l mX3_spell 65 [.ref 33, .int (nI code), .int (nI m), .int (nI b), .null, .int (nI i)] [] (S0 L) M1 0 0 Q) m ?_ ?_ 0 (Nat.zero_le _)
  · intro M1 g1 g2 g3 g4
    refine x_iload dX3_spell_65 rfl ?_
    refine x_iload_n dX3_spell_67 rfl ?_
    refine n_icmp_ge 103 dX3_spell_68 rfl (by omega) (by omega) (fun h1 => ?_) (fun h1 => by omega)
    refine x_iconst dX3_spell_103 iconst_1 ?_
    refine x_iret dX3_spell_104 rfl (by first | exact bI_nar _ | exact n1_nar | exact n0_nar) ?_
    have q1 := hQ M1 g1 (fun _ => ⟨g2, g3⟩)
    rw [show dsB b m code = true from decide_eq_true g4] at q1
    exact q1
  · intro i hi ih M1 g1 g2 g3 g4
    refine x_iload dX3_spell_65 rfl ?_
    refine x_iload_n dX3_spell_67 rfl ?_
    refine n_icmp_ge 103 dX3_spell_68 rfl (by omega) (by omega) (fun h1 => by omega) (fun h1 => ?_)
    refine x_aload_n dX3_spell_71 rfl ?_
    refine x_aload_n dX3_spell_72 rfl ?_
    refine g_R (s0_33 L) fkX3_9 rfl rfl rfl dX3_spell_73 ?_
    refine x_iload dX3_spell_76 rfl ?_
    refine n_iald (s0_34 L) (by omega) rfl dX3_spell_78 ?_
    refine x_as (g3 i hi) ?_
    refine cV1 (mj := mX3_has) lkX3_30 okX3_has imX3_has seX3_has (s0_33 L) rfl rfl rfl rfl rfl dX3_spell_79 rfl (k_rowHas (m := i) (r := dC b m code) (s0_33 L) (s0_34 L) (by omega) g2 (fun k hk => g3 k (by omega)) (hdl i) (fun k _ => hdl k) (fun bb gb => ?_))
    refine b_if_eq 87 dX3_spell_82 rfl (fun y1 => ?_) (fun y1 => ?_)
    · refine x_aload_n dX3_spell_87 rfl ?_
      refine x_dup dX3_spell_88 rfl ?_
      refine g_I (s0_33 L) fkX3_15 rfl rfl dX3_spell_89 ?_
      refine x_as g2 ?_
      refine x_iconst dX3_spell_92 iconst_1 ?_
      refine n_iadd dX3_spell_93 ?_
      refine g_P (s0_33 L) fkX3_15 rfl rfl rfl rfl dX3_spell_94 ?_
      refine n_inc dX3_spell_97 rfl rfl ?_
      refine x_goto 65 dX3_spell_100 rfl ?_
      refine ih _ (g1.set _ (by decide)) ?_ g3 (fun x hx j hj e => ?_)
      · show upd (M1 33) 1 (nI (i + 1)) 1 = nI (i + 1)
        exact upd_at _ _ _
      · by_cases e2 : x = i
        · subst e2; rw [gb.mpr ⟨j, hj, e⟩] at y1; cases y1
        · exact g4 x (by omega) j hj e
    · refine x_iconst dX3_spell_85 iconst_0 ?_
      refine x_iret dX3_spell_86 rfl (by first | exact bI_nar _ | exact n1_nar | exact n0_nar) ?_
      have hno : dsB b m code = false := decide_eq_false (fun z => by obtain ⟨j, hj, e⟩ := gb.mp y1; exact z i hi j hj e)
      have q1 := hQ M1 g1 (fun z => by rw [hno] at z; cases z)
      rw [hno] at q1
      exact q1
set_option maxRecDepth 100000 in
set_option maxHeartbeats 4000000 in
theorem k_spell {E : vE} {l : Launch} {Q : Option Value → vS → vM → Prop} {L : Nat} {M : vM} {b code m : Nat} (hm : m ≤ 3) (hb : b ≤ 6) (hcd : code < 2 ^ 31) (hz : b = 0 → m = 0) (hQ : ∀ M1 : vM, Fr [33, 34] M M1 → (dsB b m code = true → M1 33 1 = nI m ∧ ∀ k, k < m → M1 34 k = nI (dC b m code k)) → Q (some (.int (bI (dsB b m code)))) (S0 L) M1) : PM E l mX3_spell 0 [.ref 33, .int (nI code), .int (nI m), .int (nI b), .null, .null] [] (S0 L) M 0 0 Q := by
  have h0 : b = 0 ∨ 1 ≤ b := by omega
  rcases h0 with h0 | h0
  · have hm0 : m = 0 := hz h0
    subst hm0
    refine x_aload_n dX3_spell_0 rfl ?_
    refine x_iconst dX3_spell_1 iconst_0 ?_
    refine g_P (s0_33 L) fkX3_15 rfl rfl rfl rfl dX3_spell_2 ?_
    refine x_iload_n dX3_spell_5 rfl ?_
    refine x_bipush dX3_spell_6 bipush_6 ?_
    refine n_icmp_gt 16 dX3_spell_8 rfl (by omega) (by omega) (fun h1 => by omega) (fun h1 => ?_)
    refine x_iload_n dX3_spell_11 rfl ?_
    refine x_iconst dX3_spell_12 iconst_1 ?_
    refine n_icmp_ge 26 dX3_spell_13 rfl (by omega) (by omega) (fun h2 => by omega) (fun h2 => ?_)
    refine x_iload_n dX3_spell_16 rfl ?_
    refine n_if_ne 24 dX3_spell_17 rfl (by omega) (fun h3 => by omega) (fun h3 => ?_)
    refine x_iconst dX3_spell_20 iconst_1 ?_
    refine x_goto 25 dX3_spell_21 rfl ?_
    refine x_iret dX3_spell_25 rfl (by first | exact bI_nar _ | exact n1_nar | exact n0_nar) ?_
    have q1 := hQ (sM M 33 (upd (M 33) 1 (nI 0))) (Fr.rf.set _ (by decide)) (fun _ => ⟨rfl, fun k hk => absurd hk (by omega)⟩)
    rw [show dsB b 0 code = true from decide_eq_true (fun i hi => absurd hi (by omega))] at q1
    exact q1
  · have hd1 := Nat.div_le_self code b
    have hd2 := Nat.div_le_self (code / b) b
    rcases (show m = 0 ∨ m = 1 ∨ m = 2 ∨ m = 3 by omega) with rfl | rfl | rfl | rfl
    · refine x_aload_n dX3_spell_0 rfl ?_
      refine x_iconst dX3_spell_1 iconst_0 ?_
      refine g_P (s0_33 L) fkX3_15 rfl rfl rfl rfl dX3_spell_2 ?_
      refine x_iload_n dX3_spell_5 rfl ?_
      refine x_bipush dX3_spell_6 bipush_6 ?_
      refine n_icmp_gt 16 dX3_spell_8 rfl (by omega) (by omega) (fun h1 => by omega) (fun h1 => ?_)
      refine x_iload_n dX3_spell_11 rfl ?_
      refine x_iconst dX3_spell_12 iconst_1 ?_
      refine n_icmp_ge 26 dX3_spell_13 rfl (by omega) (by omega) (fun h2 => ?_) (fun h2 => by omega)
      refine x_iload_n dX3_spell_26 rfl ?_
      refine x_istore dX3_spell_27 (by decide) rfl ?_
      refine x_iload_n dX3_spell_29 rfl ?_
      refine x_iconst dX3_spell_30 iconst_1 ?_
      refine x_isub dX3_spell_31 ?_
      refine x_istore dX3_spell_32 (by decide) rfl ?_
      refine x_iload dX3_spell_34 rfl ?_
      refine x_if_lt 62 dX3_spell_36 rfl (fun _ => ?_) (fun z => absurd (show (-1 : Int32) < 0 by decide) z)
      refine x_iconst dX3_spell_62 iconst_0 ?_
      refine x_istore dX3_spell_63 (by decide) rfl ?_
      refine x_mask [true, true, true, true, false, true] ?_
      refine k_spell2 (M := M) (b := b) (code := code) (m := 0) (by omega) (by omega) hQ _ (Fr.rf.set _ (by decide)) rfl (fun k hk => ?_) (fun x hx => absurd hx (by omega))
      exact absurd hk (by omega)
    · refine x_aload_n dX3_spell_0 rfl ?_
      refine x_iconst dX3_spell_1 iconst_0 ?_
      refine g_P (s0_33 L) fkX3_15 rfl rfl rfl rfl dX3_spell_2 ?_
      refine x_iload_n dX3_spell_5 rfl ?_
      refine x_bipush dX3_spell_6 bipush_6 ?_
      refine n_icmp_gt 16 dX3_spell_8 rfl (by omega) (by omega) (fun h1 => by omega) (fun h1 => ?_)
      refine x_iload_n dX3_spell_11 rfl ?_
      refine x_iconst dX3_spell_12 iconst_1 ?_
      refine n_icmp_ge 26 dX3_spell_13 rfl (by omega) (by omega) (fun h2 => ?_) (fun h2 => by omega)
      refine x_iload_n dX3_spell_26 rfl ?_
      refine x_istore dX3_spell_27 (by decide) rfl ?_
      refine x_iload_n dX3_spell_29 rfl ?_
      refine x_iconst dX3_spell_30 iconst_1 ?_
      refine n_isub dX3_spell_31 (by omega) ?_
      refine x_istore dX3_spell_32 (by decide) rfl ?_
      refine x_iload dX3_spell_34 rfl ?_
      refine x_if_lt 62 dX3_spell_36 rfl (fun z => absurd z (nI_pos (by omega))) (fun _ => ?_)
      refine x_aload_n dX3_spell_39 rfl ?_
      refine g_R (s0_33 L) fkX3_9 rfl rfl rfl dX3_spell_40 ?_
      refine x_iload dX3_spell_43 rfl ?_
      refine x_iload dX3_spell_45 rfl ?_
      refine x_iload_n dX3_spell_47 rfl ?_
      refine n_irem dX3_spell_48 (by omega) (by omega) (by omega) ?_
      refine n_iast rfl (s0_34 L) (by omega) rfl dX3_spell_49 ?_
      refine x_iload dX3_spell_50 rfl ?_
      refine x_iload_n dX3_spell_52 rfl ?_
      refine n_idiv dX3_spell_53 (by omega) (by omega) (by omega) ?_
      refine x_istore dX3_spell_54 (by decide) rfl ?_
      refine x_iinc dX3_spell_56 rfl (show nI 0 + Int32.ofInt (-1) = (-1 : Int32) from by decide) rfl ?_
      refine x_goto 34 dX3_spell_59 rfl ?_
      refine x_iload dX3_spell_34 rfl ?_
      refine x_if_lt 62 dX3_spell_36 rfl (fun _ => ?_) (fun z => absurd (show (-1 : Int32) < 0 by decide) z)
      refine x_iconst dX3_spell_62 iconst_0 ?_
      refine x_istore dX3_spell_63 (by decide) rfl ?_
      refine x_mask [true, true, true, true, false, true] ?_
      refine k_spell2 (M := M) (b := b) (code := code) (m := 1) (by omega) (by omega) hQ _ ((Fr.rf.set _ (by decide)).set _ (by decide)) rfl (fun k hk => ?_) (fun x hx => absurd hx (by omega))
      rcases (show k = 0 by omega)
      all_goals rfl
    · refine x_aload_n dX3_spell_0 rfl ?_
      refine x_iconst dX3_spell_1 iconst_0 ?_
      refine g_P (s0_33 L) fkX3_15 rfl rfl rfl rfl dX3_spell_2 ?_
      refine x_iload_n dX3_spell_5 rfl ?_
      refine x_bipush dX3_spell_6 bipush_6 ?_
      refine n_icmp_gt 16 dX3_spell_8 rfl (by omega) (by omega) (fun h1 => by omega) (fun h1 => ?_)
      refine x_iload_n dX3_spell_11 rfl ?_
      refine x_iconst dX3_spell_12 iconst_1 ?_
      refine n_icmp_ge 26 dX3_spell_13 rfl (by omega) (by omega) (fun h2 => ?_) (fun h2 => by omega)
      refine x_iload_n dX3_spell_26 rfl ?_
      refine x_istore dX3_spell_27 (by decide) rfl ?_
      refine x_iload_n dX3_spell_29 rfl ?_
      refine x_iconst dX3_spell_30 iconst_1 ?_
      refine n_isub dX3_spell_31 (by omega) ?_
      refine x_istore dX3_spell_32 (by decide) rfl ?_
      refine x_iload dX3_spell_34 rfl ?_
      refine x_if_lt 62 dX3_spell_36 rfl (fun z => absurd z (nI_pos (by omega))) (fun _ => ?_)
      refine x_aload_n dX3_spell_39 rfl ?_
      refine g_R (s0_33 L) fkX3_9 rfl rfl rfl dX3_spell_40 ?_
      refine x_iload dX3_spell_43 rfl ?_
      refine x_iload dX3_spell_45 rfl ?_
      refine x_iload_n dX3_spell_47 rfl ?_
      refine n_irem dX3_spell_48 (by omega) (by omega) (by omega) ?_
      refine n_iast rfl (s0_34 L) (by omega) rfl dX3_spell_49 ?_
      refine x_iload dX3_spell_50 rfl ?_
      refine x_iload_n dX3_spell_52 rfl ?_
      refine n_idiv dX3_spell_53 (by omega) (by omega) (by omega) ?_
      refine x_istore dX3_spell_54 (by decide) rfl ?_
      refine x_iinc dX3_spell_56 rfl (show nI 1 + Int32.ofInt (-1) = nI 0 from by decide) rfl ?_
      refine x_goto 34 dX3_spell_59 rfl ?_
      refine x_iload dX3_spell_34 rfl ?_
      refine x_if_lt 62 dX3_spell_36 rfl (fun z => absurd z (nI_pos (by omega))) (fun _ => ?_)
      refine x_aload_n dX3_spell_39 rfl ?_
      refine g_R (s0_33 L) fkX3_9 rfl rfl rfl dX3_spell_40 ?_
      refine x_iload dX3_spell_43 rfl ?_
      refine x_iload dX3_spell_45 rfl ?_
      refine x_iload_n dX3_spell_47 rfl ?_
      refine n_irem dX3_spell_48 (by omega) (by omega) (by omega) ?_
      refine n_iast rfl (s0_34 L) (by omega) rfl dX3_spell_49 ?_
      refine x_iload dX3_spell_50 rfl ?_
      refine x_iload_n dX3_spell_52 rfl ?_
      refine n_idiv dX3_spell_53 (by omega) (by omega) (by omega) ?_
      refine x_istore dX3_spell_54 (by decide) rfl ?_
      refine x_iinc dX3_spell_56 rfl (show nI 0 + Int32.ofInt (-1) = (-1 : Int32) from by decide) rfl ?_
      refine x_goto 34 dX3_spell_59 rfl ?_
      refine x_iload dX3_spell_34 rfl ?_
      refine x_if_lt 62 dX3_spell_36 rfl (fun _ => ?_) (fun z => absurd (show (-1 : Int32) < 0 by decide) z)
      refine x_iconst dX3_spell_62 iconst_0 ?_
      refine x_istore dX3_spell_63 (by decide) rfl ?_
      refine x_mask [true, true, true, true, false, true] ?_
      refine k_spell2 (M := M) (b := b) (code := code) (m := 2) (by omega) (by omega) hQ _ (((Fr.rf.set _ (by decide)).set _ (by decide)).set _ (by decide)) rfl (fun k hk => ?_) (fun x hx => absurd hx (by omega))
      rcases (show k = 0 ∨ k = 1 by omega) with rfl | rfl
      all_goals rfl
    · refine x_aload_n dX3_spell_0 rfl ?_
      refine x_iconst dX3_spell_1 iconst_0 ?_
      refine g_P (s0_33 L) fkX3_15 rfl rfl rfl rfl dX3_spell_2 ?_
      refine x_iload_n dX3_spell_5 rfl ?_
      refine x_bipush dX3_spell_6 bipush_6 ?_
      refine n_icmp_gt 16 dX3_spell_8 rfl (by omega) (by omega) (fun h1 => by omega) (fun h1 => ?_)
      refine x_iload_n dX3_spell_11 rfl ?_
      refine x_iconst dX3_spell_12 iconst_1 ?_
      refine n_icmp_ge 26 dX3_spell_13 rfl (by omega) (by omega) (fun h2 => ?_) (fun h2 => by omega)
      refine x_iload_n dX3_spell_26 rfl ?_
      refine x_istore dX3_spell_27 (by decide) rfl ?_
      refine x_iload_n dX3_spell_29 rfl ?_
      refine x_iconst dX3_spell_30 iconst_1 ?_
      refine n_isub dX3_spell_31 (by omega) ?_
      refine x_istore dX3_spell_32 (by decide) rfl ?_
      refine x_iload dX3_spell_34 rfl ?_
      refine x_if_lt 62 dX3_spell_36 rfl (fun z => absurd z (nI_pos (by omega))) (fun _ => ?_)
      refine x_aload_n dX3_spell_39 rfl ?_
      refine g_R (s0_33 L) fkX3_9 rfl rfl rfl dX3_spell_40 ?_
      refine x_iload dX3_spell_43 rfl ?_
      refine x_iload dX3_spell_45 rfl ?_
      refine x_iload_n dX3_spell_47 rfl ?_
      refine n_irem dX3_spell_48 (by omega) (by omega) (by omega) ?_
      refine n_iast rfl (s0_34 L) (by omega) rfl dX3_spell_49 ?_
      refine x_iload dX3_spell_50 rfl ?_
      refine x_iload_n dX3_spell_52 rfl ?_
      refine n_idiv dX3_spell_53 (by omega) (by omega) (by omega) ?_
      refine x_istore dX3_spell_54 (by decide) rfl ?_
      refine x_iinc dX3_spell_56 rfl (show nI 2 + Int32.ofInt (-1) = nI 1 from by decide) rfl ?_
      refine x_goto 34 dX3_spell_59 rfl ?_
      refine x_iload dX3_spell_34 rfl ?_
      refine x_if_lt 62 dX3_spell_36 rfl (fun z => absurd z (nI_pos (by omega))) (fun _ => ?_)
      refine x_aload_n dX3_spell_39 rfl ?_
      refine g_R (s0_33 L) fkX3_9 rfl rfl rfl dX3_spell_40 ?_
      refine x_iload dX3_spell_43 rfl ?_
      refine x_iload dX3_spell_45 rfl ?_
      refine x_iload_n dX3_spell_47 rfl ?_
      refine n_irem dX3_spell_48 (by omega) (by omega) (by omega) ?_
      refine n_iast rfl (s0_34 L) (by omega) rfl dX3_spell_49 ?_
      refine x_iload dX3_spell_50 rfl ?_
      refine x_iload_n dX3_spell_52 rfl ?_
      refine n_idiv dX3_spell_53 (by omega) (by omega) (by omega) ?_
      refine x_istore dX3_spell_54 (by decide) rfl ?_
      refine x_iinc dX3_spell_56 rfl (show nI 1 + Int32.ofInt (-1) = nI 0 from by decide) rfl ?_
      refine x_goto 34 dX3_spell_59 rfl ?_
      refine x_iload dX3_spell_34 rfl ?_
      refine x_if_lt 62 dX3_spell_36 rfl (fun z => absurd z (nI_pos (by omega))) (fun _ => ?_)
      refine x_aload_n dX3_spell_39 rfl ?_
      refine g_R (s0_33 L) fkX3_9 rfl rfl rfl dX3_spell_40 ?_
      refine x_iload dX3_spell_43 rfl ?_
      refine x_iload dX3_spell_45 rfl ?_
      refine x_iload_n dX3_spell_47 rfl ?_
      refine n_irem dX3_spell_48 (by omega) (by omega) (by omega) ?_
      refine n_iast rfl (s0_34 L) (by omega) rfl dX3_spell_49 ?_
      refine x_iload dX3_spell_50 rfl ?_
      refine x_iload_n dX3_spell_52 rfl ?_
      refine n_idiv dX3_spell_53 (by omega) (by omega) (by omega) ?_
      refine x_istore dX3_spell_54 (by decide) rfl ?_
      refine x_iinc dX3_spell_56 rfl (show nI 0 + Int32.ofInt (-1) = (-1 : Int32) from by decide) rfl ?_
      refine x_goto 34 dX3_spell_59 rfl ?_
      refine x_iload dX3_spell_34 rfl ?_
      refine x_if_lt 62 dX3_spell_36 rfl (fun _ => ?_) (fun z => absurd (show (-1 : Int32) < 0 by decide) z)
      refine x_iconst dX3_spell_62 iconst_0 ?_
      refine x_istore dX3_spell_63 (by decide) rfl ?_
      refine x_mask [true, true, true, true, false, true] ?_
      refine k_spell2 (M := M) (b := b) (code := code) (m := 3) (by omega) (by omega) hQ _ ((((Fr.rf.set _ (by decide)).set _ (by decide)).set _ (by decide)).set _ (by decide)) rfl (fun k hk => ?_) (fun x hx => absurd hx (by omega))
      rcases (show k = 0 ∨ k = 1 ∨ k = 2 by omega) with rfl | rfl | rfl
      all_goals rfl

set_option maxRecDepth 100000 in
set_option maxHeartbeats 4000000 in
theorem m_isEdge {E : vE} {l : Launch} {Q : Option Value → vS → vM → Prop} {L : Nat} {M : vM} {w h : Nat} (H : WH w h) (hw : M 42 0 = nI w) (hh : M 42 1 = nI h) {c : Nat} (hc : c < w * h) (hQ : Q (some (.int (bI (edg w h c)))) (S0 L) M) : PM E l mX9_isEdge 0 [.ref 42, .int (nI c)] [] (S0 L) M 0 0 Q := by
  have e2 := c_row H hc
  have e3 := c_col (c := c) H
  have e4 := H.le
  obtain ⟨b1, b2, b3, b4⟩ := H
  refine x_iload_n dX9_isEdge_0 rfl ?_
  refine x_aload_n dX9_isEdge_1 rfl ?_
  refine g_I (s0_42 L) fkX9_87 rfl rfl dX9_isEdge_2 ?_
  refine x_as hw ?_
  refine n_irem dX9_isEdge_5 (by omega) (by omega) (by omega) ?_
  refine n_if_eq 48 dX9_isEdge_6 rfl (by omega) (fun h1 => ?_) (fun h1 => ?_)
  · refine x_iconst dX9_isEdge_48 iconst_1 ?_
    refine x_goto 53 dX9_isEdge_49 rfl ?_
    refine x_iret dX9_isEdge_53 rfl (by first | exact bI_nar _ | exact n1_nar | exact n0_nar) ?_
    first | exact hQ | (rw [show edg w h c = true from by simp only [edg, decide_eq_true_eq]; omega] at hQ; exact hQ) | (rw [show edg w h c = false from by simp only [edg, decide_eq_false_iff_not]; omega] at hQ; exact hQ)
  · refine x_iload_n dX9_isEdge_9 rfl ?_
    refine x_aload_n dX9_isEdge_10 rfl ?_
    refine g_I (s0_42 L) fkX9_87 rfl rfl dX9_isEdge_11 ?_
    refine x_as hw ?_
    refine n_irem dX9_isEdge_14 (by omega) (by omega) (by omega) ?_
    refine x_aload_n dX9_isEdge_15 rfl ?_
    refine g_I (s0_42 L) fkX9_87 rfl rfl dX9_isEdge_16 ?_
    refine x_as hw ?_
    refine x_iconst dX9_isEdge_19 iconst_1 ?_
    refine n_isub dX9_isEdge_20 (by omega) ?_
    refine n_icmp_eq 48 dX9_isEdge_21 rfl (by omega) (by omega) (fun h2 => ?_) (fun h2 => ?_)
    · refine x_iconst dX9_isEdge_48 iconst_1 ?_
      refine x_goto 53 dX9_isEdge_49 rfl ?_
      refine x_iret dX9_isEdge_53 rfl (by first | exact bI_nar _ | exact n1_nar | exact n0_nar) ?_
      first | exact hQ | (rw [show edg w h c = true from by simp only [edg, decide_eq_true_eq]; omega] at hQ; exact hQ) | (rw [show edg w h c = false from by simp only [edg, decide_eq_false_iff_not]; omega] at hQ; exact hQ)
    · refine x_iload_n dX9_isEdge_24 rfl ?_
      refine x_aload_n dX9_isEdge_25 rfl ?_
      refine g_I (s0_42 L) fkX9_87 rfl rfl dX9_isEdge_26 ?_
      refine x_as hw ?_
      refine n_idiv dX9_isEdge_29 (by omega) (by omega) (by omega) ?_
      refine n_if_eq 48 dX9_isEdge_30 rfl (by omega) (fun h3 => ?_) (fun h3 => ?_)
      · refine x_iconst dX9_isEdge_48 iconst_1 ?_
        refine x_goto 53 dX9_isEdge_49 rfl ?_
        refine x_iret dX9_isEdge_53 rfl (by first | exact bI_nar _ | exact n1_nar | exact n0_nar) ?_
        first | exact hQ | (rw [show edg w h c = true from by simp only [edg, decide_eq_true_eq]; omega] at hQ; exact hQ) | (rw [show edg w h c = false from by simp only [edg, decide_eq_false_iff_not]; omega] at hQ; exact hQ)
      · refine x_iload_n dX9_isEdge_33 rfl ?_
        refine x_aload_n dX9_isEdge_34 rfl ?_
        refine g_I (s0_42 L) fkX9_87 rfl rfl dX9_isEdge_35 ?_
        refine x_as hw ?_
        refine n_idiv dX9_isEdge_38 (by omega) (by omega) (by omega) ?_
        refine x_aload_n dX9_isEdge_39 rfl ?_
        refine g_I (s0_42 L) fkX9_91 rfl rfl dX9_isEdge_40 ?_
        refine x_as hh ?_
        refine x_iconst dX9_isEdge_43 iconst_1 ?_
        refine n_isub dX9_isEdge_44 (by omega) ?_
        refine n_icmp_ne 52 dX9_isEdge_45 rfl (by omega) (by omega) (fun h4 => ?_) (fun h4 => ?_)
        · refine x_iconst dX9_isEdge_52 iconst_0 ?_
          refine x_iret dX9_isEdge_53 rfl (by first | exact bI_nar _ | exact n1_nar | exact n0_nar) ?_
          first | exact hQ | (rw [show edg w h c = true from by simp only [edg, decide_eq_true_eq]; omega] at hQ; exact hQ) | (rw [show edg w h c = false from by simp only [edg, decide_eq_false_iff_not]; omega] at hQ; exact hQ)
        · refine x_iconst dX9_isEdge_48 iconst_1 ?_
          refine x_goto 53 dX9_isEdge_49 rfl ?_
          refine x_iret dX9_isEdge_53 rfl (by first | exact bI_nar _ | exact n1_nar | exact n0_nar) ?_
          first | exact hQ | (rw [show edg w h c = true from by simp only [edg, decide_eq_true_eq]; omega] at hQ; exact hQ) | (rw [show edg w h c = false from by simp only [edg, decide_eq_false_iff_not]; omega] at hQ; exact hQ)
theorem oI_eqN {o : Option Nat} {d : Nat} (ho : ∀ x, o = some x → x < 2 ^ 31) (hd : d < 2 ^ 31) : oI (-900009) o = nI d ↔ o = some d := by
  cases o with
  | none => exact ⟨fun h => absurd h.symm (nI_ne_NONE hd), fun h => by cases h⟩
  | some x => exact ⟨fun h => by rw [(nI_eq (ho x rfl) hd).mp h], fun h => by cases h; rfl⟩
theorem oI_NONE {o : Option Nat} (ho : ∀ x, o = some x → x < 2 ^ 31) : oI (-900009) o = -900009 ↔ o = none := by
  cases o with
  | none => exact ⟨fun _ => rfl, fun _ => rfl⟩
  | some x => exact ⟨fun h => absurd h (nI_ne_NONE (ho x rfl)), fun h => by cases h⟩
/-- one look of layIce: pair k of (cell, direction) at distance d -/
def iceStep (w h : Nat) (ht : Nat → Nat) (tp fl d k : Nat) (D : Nat → Option Nat) : Nat → Option Nat :=
  match nb w h (k / 4) (k % 4) with
  | none => D
  | some o => if D (k / 4) = some d ∧ D o = none ∧ fl * (d + 1) + ht o < tp then fun c => if c = o then some (d + 1) else D c else D
def iceRow (w h : Nat) (ht : Nat → Nat) (tp fl d : Nat) (D : Nat → Option Nat) : Nat → Option Nat := itr (fun k D => iceStep w h ht tp fl d k D) (4 * (w * h)) D
def iceD0 (ht : Nat → Nat) (so tp : Nat) : Nat → Option Nat := fun c => if c = so ∧ ht so < tp then some 0 else none
def iceD (w h : Nat) (ht : Nat → Nat) (so tp fl : Nat) : Nat → Option Nat := itr (fun d D => iceRow w h ht tp fl d D) (w * h) (iceD0 ht so tp)
theorem iceStep_le {w h : Nat} {ht : Nat → Nat} {tp fl d k : Nat} {D : Nat → Option Nat} (hD : ∀ c x, D c = some x → x ≤ d + 1) : ∀ c x, iceStep w h ht tp fl d k D c = some x → x ≤ d + 1 := by
  intro c x e
  unfold iceStep at e
  cases hn : nb w h (k / 4) (k % 4) with
  | none => simp only [hn] at e; exact hD c x e
  | some o =>
    simp only [hn] at e
    by_cases hc : D (k / 4) = some d ∧ D o = none ∧ fl * (d + 1) + ht o < tp
    · rw [if_pos hc] at e
      by_cases e1 : c = o
      · simp only [e1, if_true] at e; cases e; omega
      · simp only [e1, if_false] at e; exact hD c x e
    · rw [if_neg hc] at e; exact hD c x e
theorem iceK_le {w h : Nat} {ht : Nat → Nat} {tp fl d : Nat} {D : Nat → Option Nat} (hD : ∀ c x, D c = some x → x ≤ d + 1) : ∀ k c x, itr (fun k D => iceStep w h ht tp fl d k D) k D c = some x → x ≤ d + 1
  | 0 => hD
  | k + 1 => iceStep_le (iceK_le hD k)
theorem iceR_le {w h : Nat} {ht : Nat → Nat} {so tp fl : Nat} : ∀ d c x, itr (fun d D => iceRow w h ht tp fl d D) d (iceD0 ht so tp) c = some x → x ≤ d
  | 0 => by
    intro c x e
    simp only [itr, iceD0] at e
    split at e
    · cases e; omega
    · cases e
  | d + 1 => iceK_le (fun c x e => Nat.le_succ_of_le (iceR_le d c x e)) (4 * (w * h))
/-- the way of a stone on ice: the least cell of those one farther -/
def onw (w h : Nat) (D : Nat → Option Nat) (c d : Nat) : Bool := match nb w h c d with
  | none => false
  | some o => match D c with
    | none => false
    | some e => decide (D o = some (e + 1))
def crs (w h : Nat) (D : Nat → Option Nat) (c : Nat) : Option Nat :=
  if onw w h D c 3 then some 3 else if onw w h D c 2 then some 2 else if onw w h D c 0 then some 0 else if onw w h D c 1 then some 1 else none
theorem nI_sub_le {a b c : Nat} (ha : a < 2 ^ 30) (hb : b < 2 ^ 30) (hc : c < 2 ^ 30) : nI a - nI b ≤ nI c ↔ a ≤ b + c := by
  rw [Int32.le_iff_toInt_le, pk_sub_toInt ha hb, nI_toInt (by omega)]
  omega
section ICE
variable {w h : Nat} {ht : Nat → Nat} {tp fl d k o : Nat} {D : Nat → Option Nat}
theorem ice_none (hn : nb w h (k / 4) (k % 4) = none) : iceStep w h ht tp fl d k D = D := by
  unfold iceStep; rw [hn]
theorem ice_skip (hn : nb w h (k / 4) (k % 4) = some o) (hc : ¬ (D (k / 4) = some d ∧ D o = none ∧ fl * (d + 1) + ht o < tp)) : iceStep w h ht tp fl d k D = D := by
  unfold iceStep; rw [hn]; exact if_neg hc
theorem ice_do (hn : nb w h (k / 4) (k % 4) = some o) (hc : D (k / 4) = some d ∧ D o = none ∧ fl * (d + 1) + ht o < tp) (c : Nat) : iceStep w h ht tp fl d k D c = if c = o then some (d + 1) else D c := by
  unfold iceStep; rw [hn]; simp only [if_pos hc]
end ICE
set_option maxRecDepth 100000 in
set_option maxHeartbeats 4000000 in
theorem m_iceRow {E : vE} {l : Launch} {Q : Option Value → vS → vM → Prop} {L : Nat} {M : vM} {w h : Nat} (H : WH w h) (hw : M 42 0 = nI w) (hh : M 42 1 = nI h) {ht : Nat → Nat} (hH : ∀ c, c < w * h → M 43 c = nI (ht c)) (hht : ∀ c, c < w * h → ht c ≤ 99) {g so tp fl : Nat} (hg : g < 6) (h49 : M 49 g = nI so) (hso : so < w * h) (h50 : M 50 g = nI tp) (htp : tp ≤ 199) (h51 : M 51 g = nI fl) (hfl : fl ≤ 20) {d : Nat} (hd : d < w * h) {D : Nat → Option Nat} (hb : ∀ c x, D c = some x → x ≤ d + 1) (kk : ∀ M1 : vM, Fr [53, 54] M M1 → (∀ j, (j < 36 * g ∨ 36 * g + 36 ≤ j) → M1 53 j = M 53 j ∧ M1 54 j = M 54 j) → (∀ c, c < w * h → M1 53 (36 * g + c) = oI (-900009) (iceRow w h ht tp fl d D c)) → PM E l mX9_layIce 170 [.ref 42, .int (nI g), .int (nI (36 * g)), .int (nI d), .int (nI (4 * (w * h))), .null, .null, .null, .null] [] (S0 L) M1 0 0 Q) : ∀ M1 : vM, Fr [53, 54] M M1 → (∀ j, (j < 36 * g ∨ 36 * g + 36 ≤ j) → M1 53 j = M 53 j ∧ M1 54 j = M 54 j) → (∀ c, c < w * h → M1 53 (36 * g + c) = oI (-900009) (D c)) → PM E l mX9_layIce 52 [.ref 42, .int (nI g), .int (nI (36 * g)), .int (nI d), .int (nI 0), .null, .null, .null, .null] [] (S0 L) M1 0 0 Q := by
  have e4 := H.le
  have lk : ∀ M1 : vM, Fr [53, 54] M M1 → (∀ j, (j < 36 * g ∨ 36 * g + 36 ≤ j) → M1 53 j = M 53 j ∧ M1 54 j = M 54 j) → (∀ c, c < w * h → M1 53 (36 * g + c) = oI (-900009) (itr (fun k D => iceStep w h ht tp fl d k D) 0 D c)) → PM E l mX9_layIce 52 [.ref 42, .int (nI g), .int (nI (36 * g)), .int (nI d), .int (nI 0), .null, .null, .null, .null] [] (S0 L) M1 0 0 Q := by
    refine lp_up (P := fun i => ∀ M1 : vM, Fr [53, 54] M M1 → (∀ j, (j < 36 * g ∨ 36 * g + 36 ≤ j) → M1 53 j = M 53 j ∧ M1 54 j = M 54 j) → (∀ c, c < w * h → M1 53 (36 * g + c) = oI (-900009) (itr (fun k D => iceStep w h ht tp fl d k D) i D c)) → PM E l mX9_layIce 52 [.ref 42, .int (nI g), .int (nI (36 * g)), .int (nI d), .int (nI i), .null, .null, .null, .null] [] (S0 L) M1 0 0 Q) (4 * (w * h)) ?_ ?_ (0) (by omega)
    · intro M1 g1 g2 g3
      refine x_iload dX9_layIce_52 rfl ?_
      refine x_iconst dX9_layIce_54 iconst_4 ?_
      refine x_aload_n dX9_layIce_55 rfl ?_
      refine cV0 (mj := mX9_cells) lkX9_103 okX9_cells imX9_cells seX9_cells (s0_42 L) rfl rfl rfl rfl rfl dX9_layIce_56 rfl (m_cells ((congrFun (g1 42 (by decide)) _).trans (hw)) ((congrFun (g1 42 (by decide)) _).trans (hh)) ?_)
      refine n_imul dX9_layIce_59 ?_
      refine n_icmp_ge 170 dX9_layIce_60 rfl (by omega) (by omega) (fun h1 => ?_) (fun h1 => by omega)
      exact kk M1 g1 g2 g3
    · intro i hi ih M1 g1 g2 g3
      refine x_iload dX9_layIce_52 rfl ?_
      refine x_iconst dX9_layIce_54 iconst_4 ?_
      refine x_aload_n dX9_layIce_55 rfl ?_
      refine cV0 (mj := mX9_cells) lkX9_103 okX9_cells imX9_cells seX9_cells (s0_42 L) rfl rfl rfl rfl rfl dX9_layIce_56 rfl (m_cells ((congrFun (g1 42 (by decide)) _).trans (hw)) ((congrFun (g1 42 (by decide)) _).trans (hh)) ?_)
      refine n_imul dX9_layIce_59 ?_
      refine n_icmp_ge 170 dX9_layIce_60 rfl (by omega) (by omega) (fun h1 => by omega) (fun h1 => ?_)
      have hq4 : i / 4 < w * h := by omega
      have hb0 := iceK_le (w := w) (h := h) (ht := ht) (tp := tp) (fl := fl) hb i
      have hb1 : ∀ x, itr (fun k D => iceStep w h ht tp fl d k D) i D (i / 4) = some x → x < 2 ^ 31 := fun x e => by have := hb0 _ x e; omega
      refine x_aload_n dX9_layIce_63 rfl ?_
      refine x_iload dX9_layIce_64 rfl ?_
      refine x_iconst dX9_layIce_66 iconst_4 ?_
      refine n_idiv dX9_layIce_67 (by omega) (by omega) (by omega) ?_
      refine x_iload dX9_layIce_68 rfl ?_
      refine x_iconst dX9_layIce_70 iconst_4 ?_
      refine n_irem dX9_layIce_71 (by omega) (by omega) (by omega) ?_
      refine cV2 (mj := mX9_beside) lkX9_139 okX9_beside imX9_beside seX9_beside (s0_42 L) rfl rfl rfl rfl rfl dX9_layIce_72 rfl (m_beside H ((congrFun (g1 42 (by decide)) _).trans (hw)) ((congrFun (g1 42 (by decide)) _).trans (hh)) (c := i / 4) (d := i % 4) (by omega) (by omega) ?_)
      rcases hnb : nb w h (i / 4) (i % 4) with _ | o
      · rw [oI_none]
        refine x_istore dX9_layIce_75 (by decide) rfl ?_
        refine x_iload dX9_layIce_77 rfl ?_
        refine x_ldc kcX9_134 dX9_layIce_79 ?_
        refine x_icmp_eq 117 dX9_layIce_81 rfl (fun h1 => ?_) (fun h1 => by exact absurd rfl h1)
        refine x_iconst dX9_layIce_117 iconst_0 ?_
        refine x_istore dX9_layIce_118 (by decide) rfl ?_
        refine x_iload dX9_layIce_120 rfl ?_
        refine n_if_eq 164 dX9_layIce_122 rfl (by omega) (fun h5 => ?_) (fun h5 => by omega)
        refine n_inc dX9_layIce_164 rfl rfl ?_
        refine x_goto 52 dX9_layIce_167 rfl ?_
        refine x_mask [true, true, true, true, true, false, false, false, false] ?_
        exact ih _ g1 g2 (fun c hc => (g3 c hc).trans (congrArg (oI (-900009)) (congrFun (ice_none hnb) c).symm))
      · rw [oI_some]
        have ho := nb_lt H (by omega) hnb
        have hb2 : ∀ x, itr (fun k D => iceStep w h ht tp fl d k D) i D o = some x → x < 2 ^ 31 := fun x e => by have := hb0 _ x e; omega
        have hf1 : fl * (d + 1) ≤ 20 * (d + 1) := Nat.mul_le_mul_right _ hfl
        have hho := hht o ho
        refine x_istore dX9_layIce_75 (by decide) rfl ?_
        refine x_iload dX9_layIce_77 rfl ?_
        refine x_ldc kcX9_134 dX9_layIce_79 ?_
        refine x_icmp_eq 117 dX9_layIce_81 rfl (fun h1 => by exact absurd h1 (nI_ne_NONE (by omega))) (fun h1 => ?_)
        refine x_aload_n dX9_layIce_84 rfl ?_
        refine g_R (s0_42 L) fkX9_41 rfl rfl rfl dX9_layIce_85 ?_
        refine x_iload_n dX9_layIce_88 rfl ?_
        refine x_iload dX9_layIce_89 rfl ?_
        refine x_iconst dX9_layIce_91 iconst_4 ?_
        refine n_idiv dX9_layIce_92 (by omega) (by omega) (by omega) ?_
        refine n_iadd dX9_layIce_93 ?_
        refine n_iald (s0_53 L) (by omega) rfl dX9_layIce_94 ?_
        refine x_as (g3 _ (by omega)) ?_
        refine x_iload_n dX9_layIce_95 rfl ?_
        refine x_icmp_ne 117 dX9_layIce_96 rfl (fun h3 => ?_) (fun h3 => ?_)
        · refine x_iconst dX9_layIce_117 iconst_0 ?_
          refine x_istore dX9_layIce_118 (by decide) rfl ?_
          refine x_iload dX9_layIce_120 rfl ?_
          refine n_if_eq 164 dX9_layIce_122 rfl (by omega) (fun h5 => ?_) (fun h5 => by omega)
          refine n_inc dX9_layIce_164 rfl rfl ?_
          refine x_goto 52 dX9_layIce_167 rfl ?_
          refine x_mask [true, true, true, true, true, false, false, false, false] ?_
          exact ih _ g1 g2 (fun c hc => (g3 c hc).trans (congrArg (oI (-900009)) (congrFun (ice_skip hnb (fun z => h3 ((oI_eqN hb1 (by omega)).mpr z.1))) c).symm))
        · refine x_aload_n dX9_layIce_99 rfl ?_
          refine g_R (s0_42 L) fkX9_41 rfl rfl rfl dX9_layIce_100 ?_
          refine x_iload_n dX9_layIce_103 rfl ?_
          refine x_iload dX9_layIce_104 rfl ?_
          refine n_iadd dX9_layIce_106 ?_
          refine n_iald (s0_53 L) (by omega) rfl dX9_layIce_107 ?_
          refine x_as (g3 _ ho) ?_
          refine x_ldc kcX9_134 dX9_layIce_108 ?_
          refine x_icmp_ne 117 dX9_layIce_110 rfl (fun h4 => ?_) (fun h4 => ?_)
          · refine x_iconst dX9_layIce_117 iconst_0 ?_
            refine x_istore dX9_layIce_118 (by decide) rfl ?_
            refine x_iload dX9_layIce_120 rfl ?_
            refine n_if_eq 164 dX9_layIce_122 rfl (by omega) (fun h5 => ?_) (fun h5 => by omega)
            refine n_inc dX9_layIce_164 rfl rfl ?_
            refine x_goto 52 dX9_layIce_167 rfl ?_
            refine x_mask [true, true, true, true, true, false, false, false, false] ?_
            exact ih _ g1 g2 (fun c hc => (g3 c hc).trans (congrArg (oI (-900009)) (congrFun (ice_skip hnb (fun z => h4 ((oI_NONE hb2).mpr z.2.1))) c).symm))
          · refine x_iconst dX9_layIce_113 iconst_1 ?_
            refine x_goto 118 dX9_layIce_114 rfl ?_
            refine x_istore dX9_layIce_118 (by decide) rfl ?_
            refine x_iload dX9_layIce_120 rfl ?_
            refine n_if_eq 164 dX9_layIce_122 rfl (by omega) (fun h5 => by omega) (fun h5 => ?_)
            refine x_aload_n dX9_layIce_125 rfl ?_
            refine g_R (s0_42 L) fkX9_32 rfl rfl rfl dX9_layIce_126 ?_
            refine x_iload_n dX9_layIce_129 rfl ?_
            refine n_iald (s0_50 L) (by omega) rfl dX9_layIce_130 ?_
            refine x_as ((congrFun (g1 50 (by decide)) _).trans (h50)) ?_
            refine x_aload_n dX9_layIce_131 rfl ?_
            refine g_R (s0_42 L) fkX9_35 rfl rfl rfl dX9_layIce_132 ?_
            refine x_iload_n dX9_layIce_135 rfl ?_
            refine n_iald (s0_51 L) (by omega) rfl dX9_layIce_136 ?_
            refine x_as ((congrFun (g1 51 (by decide)) _).trans (h51)) ?_
            refine x_iload_n dX9_layIce_137 rfl ?_
            refine x_iconst dX9_layIce_138 iconst_1 ?_
            refine n_iadd dX9_layIce_139 ?_
            refine n_imul dX9_layIce_140 ?_
            refine x_isub dX9_layIce_141 ?_
            refine x_aload_n dX9_layIce_142 rfl ?_
            refine g_R (s0_42 L) fkX9_7 rfl rfl rfl dX9_layIce_143 ?_
            refine x_iload dX9_layIce_146 rfl ?_
            refine n_iald (s0_43 L) (by omega) rfl dX9_layIce_148 ?_
            refine x_as ((congrFun (g1 43 (by decide)) _).trans (hH _ (by first | assumption | omega))) ?_
            refine x_icmp_le 164 dX9_layIce_149 rfl (fun h6 => ?_) (fun h6 => ?_)
            · refine n_inc dX9_layIce_164 rfl rfl ?_
              refine x_goto 52 dX9_layIce_167 rfl ?_
              refine x_mask [true, true, true, true, true, false, false, false, false] ?_
              exact ih _ g1 g2 (fun c hc => (g3 c hc).trans (congrArg (oI (-900009)) (congrFun (ice_skip hnb (fun z => by have := (nI_sub_le (by omega) (by omega) (by omega)).mp h6; omega)) c).symm))
            · refine x_aload_n dX9_layIce_152 rfl ?_
              refine g_R (s0_42 L) fkX9_41 rfl rfl rfl dX9_layIce_153 ?_
              refine x_iload_n dX9_layIce_156 rfl ?_
              refine x_iload dX9_layIce_157 rfl ?_
              refine n_iadd dX9_layIce_159 ?_
              refine x_iload_n dX9_layIce_160 rfl ?_
              refine x_iconst dX9_layIce_161 iconst_1 ?_
              refine n_iadd dX9_layIce_162 ?_
              refine n_iast rfl (s0_53 L) (by omega) rfl dX9_layIce_163 ?_
              refine n_inc dX9_layIce_164 rfl rfl ?_
              refine x_goto 52 dX9_layIce_167 rfl ?_
              refine x_mask [true, true, true, true, true, false, false, false, false] ?_
              have k1 := (oI_eqN hb1 (by omega)).mp h3
              have k2 := (oI_NONE hb2).mp h4
              have k3 : fl * (d + 1) + ht o < tp := Nat.not_le.mp (fun z => h6 ((nI_sub_le (by omega) (by omega) (by omega)).mpr z))
              refine ih _ (g1.set _ (by decide)) (fun j hj => ?_) (fun c hc => ?_)
              · exact ⟨(upd_ne _ _ (by omega)).trans (g2 j hj).1, (g2 j hj).2⟩
              · show upd (M1 53) (36 * g + o) (nI (d + 1)) (36 * g + c) = oI (-900009) (iceStep w h ht tp fl d i _ c)
                rw [ice_do hnb ⟨k1, k2, k3⟩]
                by_cases e : c = o
                · subst e; rw [if_pos rfl]; exact upd_at _ _ _
                · rw [if_neg e]; exact (upd_ne _ _ (by omega)).trans (g3 c hc)
  exact lk

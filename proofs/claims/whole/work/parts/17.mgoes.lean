set_option maxRecDepth 100000 in
set_option maxHeartbeats 4000000 in
theorem m_isEdge {E : vE} {l : Launch} {Q : Option Value → vS → vM → Prop} {L : Nat} {M : vM} {w h : Nat} (H : WH w h) (hw : M 42 0 = nI w) (hh : M 42 1 = nI h) {c : Nat} (hc : c < w * h) (hQ : Q (some (.int (bI (edg w h c)))) (S0 L) M) : PM E l mX9_isEdge 0 [.ref 42, .int (nI c)] [] (S0 L) M 0 0 Q := by
  have e2 := c_row H hc
  have e3 := c_col (c := c) H
  have e4 := H.le
  obtain ⟨b1, b2, b3, b4⟩ := H
  refine x_iload_n dX9_isEdge_0 rfl ?_
  refine x_aload_n dX9_isEdge_1 rfl ?_
  refine g_I (s0_42 L) fkX9_87 rfl rfl dX9_isEdge_2 ?_
  refine x_as hw ?_
  refine n_irem dX9_isEdge_5 (by omega) (by omega) (by omega) ?_
  refine n_if_eq 48 dX9_isEdge_6 rfl (by omega) (fun h1 => ?_) (fun h1 => ?_)
  · refine x_iconst dX9_isEdge_48 iconst_1 ?_
    refine x_goto 53 dX9_isEdge_49 rfl ?_
    refine x_iret dX9_isEdge_53 rfl (by first | exact bI_nar _ | exact n1_nar | exact n0_nar) ?_
    first | exact hQ | (rw [show edg w h c = true from by simp only [edg, decide_eq_true_eq]; omega] at hQ; exact hQ) | (rw [show edg w h c = false from by simp only [edg, decide_eq_false_iff_not]; omega] at hQ; exact hQ)
  · refine x_iload_n dX9_isEdge_9 rfl ?_
    refine x_aload_n dX9_isEdge_10 rfl ?_
    refine g_I (s0_42 L) fkX9_87 rfl rfl dX9_isEdge_11 ?_
    refine x_as hw ?_
    refine n_irem dX9_isEdge_14 (by omega) (by omega) (by omega) ?_
    refine x_aload_n dX9_isEdge_15 rfl ?_
    refine g_I (s0_42 L) fkX9_87 rfl rfl dX9_isEdge_16 ?_
    refine x_as hw ?_
    refine x_iconst dX9_isEdge_19 iconst_1 ?_
    refine n_isub dX9_isEdge_20 (by omega) ?_
    refine n_icmp_eq 48 dX9_isEdge_21 rfl (by omega) (by omega) (fun h2 => ?_) (fun h2 => ?_)
    · refine x_iconst dX9_isEdge_48 iconst_1 ?_
      refine x_goto 53 dX9_isEdge_49 rfl ?_
      refine x_iret dX9_isEdge_53 rfl (by first | exact bI_nar _ | exact n1_nar | exact n0_nar) ?_
      first | exact hQ | (rw [show edg w h c = true from by simp only [edg, decide_eq_true_eq]; omega] at hQ; exact hQ) | (rw [show edg w h c = false from by simp only [edg, decide_eq_false_iff_not]; omega] at hQ; exact hQ)
    · refine x_iload_n dX9_isEdge_24 rfl ?_
      refine x_aload_n dX9_isEdge_25 rfl ?_
      refine g_I (s0_42 L) fkX9_87 rfl rfl dX9_isEdge_26 ?_
      refine x_as hw ?_
      refine n_idiv dX9_isEdge_29 (by omega) (by omega) (by omega) ?_
      refine n_if_eq 48 dX9_isEdge_30 rfl (by omega) (fun h3 => ?_) (fun h3 => ?_)
      · refine x_iconst dX9_isEdge_48 iconst_1 ?_
        refine x_goto 53 dX9_isEdge_49 rfl ?_
        refine x_iret dX9_isEdge_53 rfl (by first | exact bI_nar _ | exact n1_nar | exact n0_nar) ?_
        first | exact hQ | (rw [show edg w h c = true from by simp only [edg, decide_eq_true_eq]; omega] at hQ; exact hQ) | (rw [show edg w h c = false from by simp only [edg, decide_eq_false_iff_not]; omega] at hQ; exact hQ)
      · refine x_iload_n dX9_isEdge_33 rfl ?_
        refine x_aload_n dX9_isEdge_34 rfl ?_
        refine g_I (s0_42 L) fkX9_87 rfl rfl dX9_isEdge_35 ?_
        refine x_as hw ?_
        refine n_idiv dX9_isEdge_38 (by omega) (by omega) (by omega) ?_
        refine x_aload_n dX9_isEdge_39 rfl ?_
        refine g_I (s0_42 L) fkX9_91 rfl rfl dX9_isEdge_40 ?_
        refine x_as hh ?_
        refine x_iconst dX9_isEdge_43 iconst_1 ?_
        refine n_isub dX9_isEdge_44 (by omega) ?_
        refine n_icmp_ne 52 dX9_isEdge_45 rfl (by omega) (by omega) (fun h4 => ?_) (fun h4 => ?_)
        · refine x_iconst dX9_isEdge_52 iconst_0 ?_
          refine x_iret dX9_isEdge_53 rfl (by first | exact bI_nar _ | exact n1_nar | exact n0_nar) ?_
          first | exact hQ | (rw [show edg w h c = true from by simp only [edg, decide_eq_true_eq]; omega] at hQ; exact hQ) | (rw [show edg w h c = false from by simp only [edg, decide_eq_false_iff_not]; omega] at hQ; exact hQ)
        · refine x_iconst dX9_isEdge_48 iconst_1 ?_
          refine x_goto 53 dX9_isEdge_49 rfl ?_
          refine x_iret dX9_isEdge_53 rfl (by first | exact bI_nar _ | exact n1_nar | exact n0_nar) ?_
          first | exact hQ | (rw [show edg w h c = true from by simp only [edg, decide_eq_true_eq]; omega] at hQ; exact hQ) | (rw [show edg w h c = false from by simp only [edg, decide_eq_false_iff_not]; omega] at hQ; exact hQ)
theorem oI_eqN {o : Option Nat} {d : Nat} (ho : ∀ x, o = some x → x < 2 ^ 31) (hd : d < 2 ^ 31) : oI (-900009) o = nI d ↔ o = some d := by
  cases o with
  | none => exact ⟨fun h => absurd h.symm (nI_ne_NONE hd), fun h => by cases h⟩
  | some x => exact ⟨fun h => by rw [(nI_eq (ho x rfl) hd).mp h], fun h => by cases h; rfl⟩
theorem oI_NONE {o : Option Nat} (ho : ∀ x, o = some x → x < 2 ^ 31) : oI (-900009) o = -900009 ↔ o = none := by
  cases o with
  | none => exact ⟨fun _ => rfl, fun _ => rfl⟩
  | some x => exact ⟨fun h => absurd h (nI_ne_NONE (ho x rfl)), fun h => by cases h⟩
/-- one look of layIce: pair k of (cell, direction) at distance d -/
def iceStep (w h : Nat) (ht : Nat → Nat) (tp fl d k : Nat) (D : Nat → Option Nat) : Nat → Option Nat :=
  match nb w h (k / 4) (k % 4) with
  | none => D
  | some o => if D (k / 4) = some d ∧ D o = none ∧ fl * (d + 1) + ht o < tp then fun c => if c = o then some (d + 1) else D c else D
def iceRow (w h : Nat) (ht : Nat → Nat) (tp fl d : Nat) (D : Nat → Option Nat) : Nat → Option Nat := itr (fun k D => iceStep w h ht tp fl d k D) (4 * (w * h)) D
def iceD0 (ht : Nat → Nat) (so tp : Nat) : Nat → Option Nat := fun c => if c = so ∧ ht so < tp then some 0 else none
def iceD (w h : Nat) (ht : Nat → Nat) (so tp fl : Nat) : Nat → Option Nat := itr (fun d D => iceRow w h ht tp fl d D) (w * h) (iceD0 ht so tp)
theorem iceStep_le {w h : Nat} {ht : Nat → Nat} {tp fl d k : Nat} {D : Nat → Option Nat} (hD : ∀ c x, D c = some x → x ≤ d + 1) : ∀ c x, iceStep w h ht tp fl d k D c = some x → x ≤ d + 1 := by
  intro c x e
  unfold iceStep at e
  cases hn : nb w h (k / 4) (k % 4) with
  | none => simp only [hn] at e; exact hD c x e
  | some o =>
    simp only [hn] at e
    by_cases hc : D (k / 4) = some d ∧ D o = none ∧ fl * (d + 1) + ht o < tp
    · rw [if_pos hc] at e
      by_cases e1 : c = o
      · simp only [e1, if_true] at e; cases e; omega
      · simp only [e1, if_false] at e; exact hD c x e
    · rw [if_neg hc] at e; exact hD c x e
theorem iceK_le {w h : Nat} {ht : Nat → Nat} {tp fl d : Nat} {D : Nat → Option Nat} (hD : ∀ c x, D c = some x → x ≤ d + 1) : ∀ k c x, itr (fun k D => iceStep w h ht tp fl d k D) k D c = some x → x ≤ d + 1
  | 0 => hD
  | k + 1 => iceStep_le (iceK_le hD k)
theorem iceR_le {w h : Nat} {ht : Nat → Nat} {so tp fl : Nat} : ∀ d c x, itr (fun d D => iceRow w h ht tp fl d D) d (iceD0 ht so tp) c = some x → x ≤ d
  | 0 => by
    intro c x e
    simp only [itr, iceD0] at e
    split at e
    · cases e; omega
    · cases e
  | d + 1 => iceK_le (fun c x e => Nat.le_succ_of_le (iceR_le d c x e)) (4 * (w * h))
/-- the way of a stone on ice: the least cell of those one farther -/
def onw (w h : Nat) (D : Nat → Option Nat) (c d : Nat) : Bool := match nb w h c d with
  | none => false
  | some o => match D c with
    | none => false
    | some e => decide (D o = some (e + 1))
def dirK (k : Nat) : Nat := if k = 0 then 3 else if k = 1 then 2 else if k = 2 then 0 else 1
def crsK (w h : Nat) (D : Nat → Option Nat) (c : Nat) : Nat → Option Nat
  | 0 => none
  | k + 1 => match crsK w h D c k with
    | some x => some x
    | none => if onw w h D c (dirK k) then some (dirK k) else none
def crs (w h : Nat) (D : Nat → Option Nat) (c : Nat) : Option Nat := crsK w h D c 4
theorem nI_sub_le {a b c : Nat} (ha : a < 2 ^ 30) (hb : b < 2 ^ 30) (hc : c < 2 ^ 30) : nI a - nI b ≤ nI c ↔ a ≤ b + c := by
  rw [Int32.le_iff_toInt_le, pk_sub_toInt ha hb, nI_toInt (by omega)]
  omega
section ICE
variable {w h : Nat} {ht : Nat → Nat} {tp fl d k o : Nat} {D : Nat → Option Nat}
theorem ice_none (hn : nb w h (k / 4) (k % 4) = none) : iceStep w h ht tp fl d k D = D := by
  unfold iceStep; rw [hn]
theorem ice_skip (hn : nb w h (k / 4) (k % 4) = some o) (hc : ¬ (D (k / 4) = some d ∧ D o = none ∧ fl * (d + 1) + ht o < tp)) : iceStep w h ht tp fl d k D = D := by
  unfold iceStep; rw [hn]; exact if_neg hc
theorem ice_do (hn : nb w h (k / 4) (k % 4) = some o) (hc : D (k / 4) = some d ∧ D o = none ∧ fl * (d + 1) + ht o < tp) (c : Nat) : iceStep w h ht tp fl d k D c = if c = o then some (d + 1) else D c := by
  unfold iceStep; rw [hn]; simp only [if_pos hc]
end ICE
set_option maxRecDepth 100000 in
set_option maxHeartbeats 4000000 in
theorem m_iceRow {E : vE} {l : Launch} {Q : Option Value → vS → vM → Prop} {L : Nat} {M : vM} {w h : Nat} (H : WH w h) (hw : M 42 0 = nI w) (hh : M 42 1 = nI h) {ht : Nat → Nat} (hH : ∀ c, c < w * h → M 43 c = nI (ht c)) (hht : ∀ c, c < w * h → ht c ≤ 99) {g so tp fl : Nat} (hg : g < 6) (h49 : M 49 g = nI so) (hso : so < w * h) (h50 : M 50 g = nI tp) (htp : tp ≤ 199) (h51 : M 51 g = nI fl) (hfl : fl ≤ 20) {d : Nat} (hd : d < w * h) {D : Nat → Option Nat} (hb : ∀ c x, D c = some x → x ≤ d + 1) (kk : ∀ M1 : vM, Fr [53, 54] M M1 → (∀ j, (j < 36 * g ∨ 36 * g + 36 ≤ j) → M1 53 j = M 53 j ∧ M1 54 j = M 54 j) → (∀ c, c < w * h → M1 53 (36 * g + c) = oI (-900009) (iceRow w h ht tp fl d D c)) → PM E l mX9_layIce 170 [.ref 42, .int (nI g), .int (nI (36 * g)), .int (nI d), .int (nI (4 * (w * h))), .null, .null, .null, .null] [] (S0 L) M1 0 0 Q) : ∀ M1 : vM, Fr [53, 54] M M1 → (∀ j, (j < 36 * g ∨ 36 * g + 36 ≤ j) → M1 53 j = M 53 j ∧ M1 54 j = M 54 j) → (∀ c, c < w * h → M1 53 (36 * g + c) = oI (-900009) (D c)) → PM E l mX9_layIce 52 [.ref 42, .int (nI g), .int (nI (36 * g)), .int (nI d), .int (nI 0), .null, .null, .null, .null] [] (S0 L) M1 0 0 Q := by
  have e4 := H.le
  have lk : ∀ M1 : vM, Fr [53, 54] M M1 → (∀ j, (j < 36 * g ∨ 36 * g + 36 ≤ j) → M1 53 j = M 53 j ∧ M1 54 j = M 54 j) → (∀ c, c < w * h → M1 53 (36 * g + c) = oI (-900009) (itr (fun k D => iceStep w h ht tp fl d k D) 0 D c)) → PM E l mX9_layIce 52 [.ref 42, .int (nI g), .int (nI (36 * g)), .int (nI d), .int (nI 0), .null, .null, .null, .null] [] (S0 L) M1 0 0 Q := by
    refine lp_up (P := fun i => ∀ M1 : vM, Fr [53, 54] M M1 → (∀ j, (j < 36 * g ∨ 36 * g + 36 ≤ j) → M1 53 j = M 53 j ∧ M1 54 j = M 54 j) → (∀ c, c < w * h → M1 53 (36 * g + c) = oI (-900009) (itr (fun k D => iceStep w h ht tp fl d k D) i D c)) → PM E l mX9_layIce 52 [.ref 42, .int (nI g), .int (nI (36 * g)), .int (nI d), .int (nI i), .null, .null, .null, .null] [] (S0 L) M1 0 0 Q) (4 * (w * h)) ?_ ?_ (0) (by omega)
    · intro M1 g1 g2 g3
      refine x_iload dX9_layIce_52 rfl ?_
      refine x_iconst dX9_layIce_54 iconst_4 ?_
      refine x_aload_n dX9_layIce_55 rfl ?_
      refine cV0 (mj := mX9_cells) lkX9_103 okX9_cells imX9_cells seX9_cells (s0_42 L) rfl rfl rfl rfl rfl dX9_layIce_56 rfl (m_cells ((congrFun (g1 42 (by decide)) _).trans (hw)) ((congrFun (g1 42 (by decide)) _).trans (hh)) ?_)
      refine n_imul dX9_layIce_59 ?_
      refine n_icmp_ge 170 dX9_layIce_60 rfl (by omega) (by omega) (fun h1 => ?_) (fun h1 => by omega)
      exact kk M1 g1 g2 g3
    · intro i hi ih M1 g1 g2 g3
      refine x_iload dX9_layIce_52 rfl ?_
      refine x_iconst dX9_layIce_54 iconst_4 ?_
      refine x_aload_n dX9_layIce_55 rfl ?_
      refine cV0 (mj := mX9_cells) lkX9_103 okX9_cells imX9_cells seX9_cells (s0_42 L) rfl rfl rfl rfl rfl dX9_layIce_56 rfl (m_cells ((congrFun (g1 42 (by decide)) _).trans (hw)) ((congrFun (g1 42 (by decide)) _).trans (hh)) ?_)
      refine n_imul dX9_layIce_59 ?_
      refine n_icmp_ge 170 dX9_layIce_60 rfl (by omega) (by omega) (fun h1 => by omega) (fun h1 => ?_)
      have hq4 : i / 4 < w * h := by omega
      have hb0 := iceK_le (w := w) (h := h) (ht := ht) (tp := tp) (fl := fl) hb i
      have hb1 : ∀ x, itr (fun k D => iceStep w h ht tp fl d k D) i D (i / 4) = some x → x < 2 ^ 31 := fun x e => by have := hb0 _ x e; omega
      refine x_aload_n dX9_layIce_63 rfl ?_
      refine x_iload dX9_layIce_64 rfl ?_
      refine x_iconst dX9_layIce_66 iconst_4 ?_
      refine n_idiv dX9_layIce_67 (by omega) (by omega) (by omega) ?_
      refine x_iload dX9_layIce_68 rfl ?_
      refine x_iconst dX9_layIce_70 iconst_4 ?_
      refine n_irem dX9_layIce_71 (by omega) (by omega) (by omega) ?_
      refine cV2 (mj := mX9_beside) lkX9_139 okX9_beside imX9_beside seX9_beside (s0_42 L) rfl rfl rfl rfl rfl dX9_layIce_72 rfl (m_beside H ((congrFun (g1 42 (by decide)) _).trans (hw)) ((congrFun (g1 42 (by decide)) _).trans (hh)) (c := i / 4) (d := i % 4) (by omega) (by omega) ?_)
      rcases hnb : nb w h (i / 4) (i % 4) with _ | o
      · rw [oI_none]
        refine x_istore dX9_layIce_75 (by decide) rfl ?_
        refine x_iload dX9_layIce_77 rfl ?_
        refine x_ldc kcX9_134 dX9_layIce_79 ?_
        refine x_icmp_eq 117 dX9_layIce_81 rfl (fun h1 => ?_) (fun h1 => by exact absurd rfl h1)
        refine x_iconst dX9_layIce_117 iconst_0 ?_
        refine x_istore dX9_layIce_118 (by decide) rfl ?_
        refine x_iload dX9_layIce_120 rfl ?_
        refine n_if_eq 164 dX9_layIce_122 rfl (by omega) (fun h5 => ?_) (fun h5 => by omega)
        refine n_inc dX9_layIce_164 rfl rfl ?_
        refine x_goto 52 dX9_layIce_167 rfl ?_
        refine x_mask [true, true, true, true, true, false, false, false, false] ?_
        exact ih _ g1 g2 (fun c hc => (g3 c hc).trans (congrArg (oI (-900009)) (congrFun (ice_none hnb) c).symm))
      · rw [oI_some]
        have ho := nb_lt H (by omega) hnb
        have hb2 : ∀ x, itr (fun k D => iceStep w h ht tp fl d k D) i D o = some x → x < 2 ^ 31 := fun x e => by have := hb0 _ x e; omega
        have hf1 : fl * (d + 1) ≤ 20 * (d + 1) := Nat.mul_le_mul_right _ hfl
        have hho := hht o ho
        refine x_istore dX9_layIce_75 (by decide) rfl ?_
        refine x_iload dX9_layIce_77 rfl ?_
        refine x_ldc kcX9_134 dX9_layIce_79 ?_
        refine x_icmp_eq 117 dX9_layIce_81 rfl (fun h1 => by exact absurd h1 (nI_ne_NONE (by omega))) (fun h1 => ?_)
        refine x_aload_n dX9_layIce_84 rfl ?_
        refine g_R (s0_42 L) fkX9_41 rfl rfl rfl dX9_layIce_85 ?_
        refine x_iload_n dX9_layIce_88 rfl ?_
        refine x_iload dX9_layIce_89 rfl ?_
        refine x_iconst dX9_layIce_91 iconst_4 ?_
        refine n_idiv dX9_layIce_92 (by omega) (by omega) (by omega) ?_
        refine n_iadd dX9_layIce_93 ?_
        refine n_iald (s0_53 L) (by omega) rfl dX9_layIce_94 ?_
        refine x_as (g3 _ (by omega)) ?_
        refine x_iload_n dX9_layIce_95 rfl ?_
        refine x_icmp_ne 117 dX9_layIce_96 rfl (fun h3 => ?_) (fun h3 => ?_)
        · refine x_iconst dX9_layIce_117 iconst_0 ?_
          refine x_istore dX9_layIce_118 (by decide) rfl ?_
          refine x_iload dX9_layIce_120 rfl ?_
          refine n_if_eq 164 dX9_layIce_122 rfl (by omega) (fun h5 => ?_) (fun h5 => by omega)
          refine n_inc dX9_layIce_164 rfl rfl ?_
          refine x_goto 52 dX9_layIce_167 rfl ?_
          refine x_mask [true, true, true, true, true, false, false, false, false] ?_
          exact ih _ g1 g2 (fun c hc => (g3 c hc).trans (congrArg (oI (-900009)) (congrFun (ice_skip hnb (fun z => h3 ((oI_eqN hb1 (by omega)).mpr z.1))) c).symm))
        · refine x_aload_n dX9_layIce_99 rfl ?_
          refine g_R (s0_42 L) fkX9_41 rfl rfl rfl dX9_layIce_100 ?_
          refine x_iload_n dX9_layIce_103 rfl ?_
          refine x_iload dX9_layIce_104 rfl ?_
          refine n_iadd dX9_layIce_106 ?_
          refine n_iald (s0_53 L) (by omega) rfl dX9_layIce_107 ?_
          refine x_as (g3 _ ho) ?_
          refine x_ldc kcX9_134 dX9_layIce_108 ?_
          refine x_icmp_ne 117 dX9_layIce_110 rfl (fun h4 => ?_) (fun h4 => ?_)
          · refine x_iconst dX9_layIce_117 iconst_0 ?_
            refine x_istore dX9_layIce_118 (by decide) rfl ?_
            refine x_iload dX9_layIce_120 rfl ?_
            refine n_if_eq 164 dX9_layIce_122 rfl (by omega) (fun h5 => ?_) (fun h5 => by omega)
            refine n_inc dX9_layIce_164 rfl rfl ?_
            refine x_goto 52 dX9_layIce_167 rfl ?_
            refine x_mask [true, true, true, true, true, false, false, false, false] ?_
            exact ih _ g1 g2 (fun c hc => (g3 c hc).trans (congrArg (oI (-900009)) (congrFun (ice_skip hnb (fun z => h4 ((oI_NONE hb2).mpr z.2.1))) c).symm))
          · refine x_iconst dX9_layIce_113 iconst_1 ?_
            refine x_goto 118 dX9_layIce_114 rfl ?_
            refine x_istore dX9_layIce_118 (by decide) rfl ?_
            refine x_iload dX9_layIce_120 rfl ?_
            refine n_if_eq 164 dX9_layIce_122 rfl (by omega) (fun h5 => by omega) (fun h5 => ?_)
            refine x_aload_n dX9_layIce_125 rfl ?_
            refine g_R (s0_42 L) fkX9_32 rfl rfl rfl dX9_layIce_126 ?_
            refine x_iload_n dX9_layIce_129 rfl ?_
            refine n_iald (s0_50 L) (by omega) rfl dX9_layIce_130 ?_
            refine x_as ((congrFun (g1 50 (by decide)) _).trans (h50)) ?_
            refine x_aload_n dX9_layIce_131 rfl ?_
            refine g_R (s0_42 L) fkX9_35 rfl rfl rfl dX9_layIce_132 ?_
            refine x_iload_n dX9_layIce_135 rfl ?_
            refine n_iald (s0_51 L) (by omega) rfl dX9_layIce_136 ?_
            refine x_as ((congrFun (g1 51 (by decide)) _).trans (h51)) ?_
            refine x_iload_n dX9_layIce_137 rfl ?_
            refine x_iconst dX9_layIce_138 iconst_1 ?_
            refine n_iadd dX9_layIce_139 ?_
            refine n_imul dX9_layIce_140 ?_
            refine x_isub dX9_layIce_141 ?_
            refine x_aload_n dX9_layIce_142 rfl ?_
            refine g_R (s0_42 L) fkX9_7 rfl rfl rfl dX9_layIce_143 ?_
            refine x_iload dX9_layIce_146 rfl ?_
            refine n_iald (s0_43 L) (by omega) rfl dX9_layIce_148 ?_
            refine x_as ((congrFun (g1 43 (by decide)) _).trans (hH _ (by first | assumption | omega))) ?_
            refine x_icmp_le 164 dX9_layIce_149 rfl (fun h6 => ?_) (fun h6 => ?_)
            · refine n_inc dX9_layIce_164 rfl rfl ?_
              refine x_goto 52 dX9_layIce_167 rfl ?_
              refine x_mask [true, true, true, true, true, false, false, false, false] ?_
              exact ih _ g1 g2 (fun c hc => (g3 c hc).trans (congrArg (oI (-900009)) (congrFun (ice_skip hnb (fun z => by have := (nI_sub_le (by omega) (by omega) (by omega)).mp h6; omega)) c).symm))
            · refine x_aload_n dX9_layIce_152 rfl ?_
              refine g_R (s0_42 L) fkX9_41 rfl rfl rfl dX9_layIce_153 ?_
              refine x_iload_n dX9_layIce_156 rfl ?_
              refine x_iload dX9_layIce_157 rfl ?_
              refine n_iadd dX9_layIce_159 ?_
              refine x_iload_n dX9_layIce_160 rfl ?_
              refine x_iconst dX9_layIce_161 iconst_1 ?_
              refine n_iadd dX9_layIce_162 ?_
              refine n_iast rfl (s0_53 L) (by omega) rfl dX9_layIce_163 ?_
              refine n_inc dX9_layIce_164 rfl rfl ?_
              refine x_goto 52 dX9_layIce_167 rfl ?_
              refine x_mask [true, true, true, true, true, false, false, false, false] ?_
              have k1 := (oI_eqN hb1 (by omega)).mp h3
              have k2 := (oI_NONE hb2).mp h4
              have k3 : fl * (d + 1) + ht o < tp := Nat.not_le.mp (fun z => h6 ((nI_sub_le (by omega) (by omega) (by omega)).mpr z))
              refine ih _ (g1.set _ (by decide)) (fun j hj => ?_) (fun c hc => ?_)
              · exact ⟨(upd_ne _ _ (by omega)).trans (g2 j hj).1, (g2 j hj).2⟩
              · show upd (M1 53) (36 * g + o) (nI (d + 1)) (36 * g + c) = oI (-900009) (iceStep w h ht tp fl d i _ c)
                rw [ice_do hnb ⟨k1, k2, k3⟩]
                by_cases e : c = o
                · subst e; rw [if_pos rfl]; exact upd_at _ _ _
                · rw [if_neg e]; exact (upd_ne _ _ (by omega)).trans (g3 c hc)
  exact lk
theorem crsK_lt {w h : Nat} {D : Nat → Option Nat} {c : Nat} : ∀ k x, crsK w h D c k = some x → x < 4
  | 0, x, e => by cases e
  | k + 1, x, e => by
    simp only [crsK] at e
    cases hk : crsK w h D c k with
    | some y => rw [hk] at e; cases e; exact crsK_lt k x hk
    | none =>
      rw [hk] at e
      simp only at e
      split at e
      · cases e; unfold dirK; split; omega; split; omega; split <;> omega
      · cases e
theorem crsK_some {w h : Nat} {D : Nat → Option Nat} {c k x : Nat} (e : crsK w h D c k = some x) : crsK w h D c (k + 1) = some x := by simp only [crsK, e]
theorem crsK_off {w h : Nat} {D : Nat → Option Nat} {c k : Nat} (e : onw w h D c (dirK k) = false) : crsK w h D c (k + 1) = crsK w h D c k := by
  simp only [crsK, e]
  cases crsK w h D c k <;> rfl
theorem crsK_on {w h : Nat} {D : Nat → Option Nat} {c k : Nat} (e : onw w h D c (dirK k) = true) (en : crsK w h D c k = none) : crsK w h D c (k + 1) = some (dirK k) := by simp only [crsK, e, en, if_true]
theorem onw_none {w h : Nat} {D : Nat → Option Nat} {c d : Nat} (e : nb w h c d = none) : onw w h D c d = false := by simp only [onw, e]
theorem onw_noD {w h : Nat} {D : Nat → Option Nat} {c d : Nat} (e : D c = none) : onw w h D c d = false := by
  unfold onw
  cases nb w h c d with
  | none => rfl
  | some o => simp only [e]
theorem onw_of {w h : Nat} {D : Nat → Option Nat} {c d o x : Nat} (e : nb w h c d = some o) (e2 : D c = some x) : onw w h D c d = decide (D o = some (x + 1)) := by simp only [onw, e, e2]
set_option maxRecDepth 100000 in
set_option maxHeartbeats 4000000 in
theorem m_flowRow {E : vE} {l : Launch} {Q : Option Value → vS → vM → Prop} {L : Nat} {M : vM} {w h : Nat} (H : WH w h) (hw : M 42 0 = nI w) (hh : M 42 1 = nI h) {D : Nat → Option Nat} {g c : Nat} (hg : g < 6) (hc : c < w * h) (hb : ∀ c x, D c = some x → x ≤ w * h) (hD : ∀ c, c < w * h → M 53 (36 * g + c) = oI (-900009) (D c)) (kk : PM E l mX9_layIce 316 [.ref 42, .int (nI g), .int (nI (36 * g)), .int (nI c), .int (oI (-900009) (crsK w h D c 4)), .int (nI 4), .null, .null, .null] [] (S0 L) M 0 0 Q) : PM E l mX9_layIce 193 [.ref 42, .int (nI g), .int (nI (36 * g)), .int (nI c), .int (oI (-900009) (crsK w h D c 0)), .int (nI 0), .null, .null, .null] [] (S0 L) M 0 0 Q := by
  have e4 := H.le
  refine lp_up (P := fun i => PM E l mX9_layIce 193 [.ref 42, .int (nI g), .int (nI (36 * g)), .int (nI c), .int (oI (-900009) (crsK w h D c i)), .int (nI i), .null, .null, .null] [] (S0 L) M 0 0 Q) 4 ?_ ?_ 0 (by omega)
  · skip
    refine x_iload dX9_layIce_193 rfl ?_
    refine x_iconst dX9_layIce_195 iconst_4 ?_
    refine n_icmp_ge 316 dX9_layIce_196 rfl (by omega) (by omega) (fun h1 => ?_) (fun h1 => by omega)
    exact kk
  · intro i hi ih
    rcases (show i = 0 ∨ i = 1 ∨ i = 2 ∨ i = 3 by omega) with rfl | rfl | rfl | rfl
    · refine x_iload dX9_layIce_193 rfl ?_
      refine x_iconst dX9_layIce_195 iconst_4 ?_
      refine n_icmp_ge 316 dX9_layIce_196 rfl (by omega) (by omega) (fun h1 => by omega) (fun h1 => ?_)
      refine x_iload dX9_layIce_199 rfl ?_
      refine n_if_ne 208 dX9_layIce_201 rfl (by omega) (fun h2 => by omega) (fun h2 => ?_)
      refine x_iconst dX9_layIce_204 iconst_3 ?_
      refine x_goto 229 dX9_layIce_205 rfl ?_
      refine x_istore dX9_layIce_229 (by decide) rfl ?_
      refine x_aload_n dX9_layIce_231 rfl ?_
      refine x_iload_n dX9_layIce_232 rfl ?_
      refine x_iload dX9_layIce_233 rfl ?_
      refine cV2 (mj := mX9_beside) lkX9_139 okX9_beside imX9_beside seX9_beside (s0_42 L) rfl rfl rfl rfl rfl dX9_layIce_235 rfl (m_beside H hw hh (c := c) (d := 3) hc (by omega) ?_)
      rcases hnb : nb w h c 3 with _ | o
      · rw [oI_none]
        refine x_istore dX9_layIce_238 (by decide) rfl ?_
        refine x_iload dX9_layIce_240 rfl ?_
        refine x_ldc kcX9_134 dX9_layIce_242 ?_
        refine x_icmp_eq 286 dX9_layIce_244 rfl (fun h1 => ?_) (fun h1 => by exact absurd rfl h1)
        refine x_iconst dX9_layIce_286 iconst_0 ?_
        refine x_istore dX9_layIce_287 (by decide) rfl ?_
        refine x_iload dX9_layIce_289 rfl ?_
        refine n_if_eq 306 dX9_layIce_291 rfl (by omega) (fun h4 => ?_) (fun h4 => by omega)
        refine x_iload dX9_layIce_306 rfl ?_
        refine x_istore dX9_layIce_308 (by decide) rfl ?_
        refine n_inc dX9_layIce_310 rfl rfl ?_
        refine x_goto 193 dX9_layIce_313 rfl ?_
        refine x_mask [true, true, true, true, true, true, false, false, false] ?_
        have ih2 := ih
        rw [crsK_off (onw_none hnb)] at ih2
        exact ih2
      · rw [oI_some]
        have ho := nb_lt H hc hnb
        have hb2 : ∀ x, D o = some x → x < 2 ^ 31 := fun x e => by have := hb _ x e; omega
        refine x_istore dX9_layIce_238 (by decide) rfl ?_
        refine x_iload dX9_layIce_240 rfl ?_
        refine x_ldc kcX9_134 dX9_layIce_242 ?_
        refine x_icmp_eq 286 dX9_layIce_244 rfl (fun h1 => by exact absurd h1 (nI_ne_NONE (by omega))) (fun h1 => ?_)
        refine x_aload_n dX9_layIce_247 rfl ?_
        refine g_R (s0_42 L) fkX9_41 rfl rfl rfl dX9_layIce_248 ?_
        refine x_iload_n dX9_layIce_251 rfl ?_
        refine x_iload_n dX9_layIce_252 rfl ?_
        refine n_iadd dX9_layIce_253 ?_
        refine n_iald (s0_53 L) (by omega) rfl dX9_layIce_254 ?_
        refine x_as (hD _ hc) ?_
        rcases hDc : D c with _ | x
        · rw [oI_none]
          refine x_ldc kcX9_134 dX9_layIce_255 ?_
          refine x_icmp_eq 286 dX9_layIce_257 rfl (fun h2 => ?_) (fun h2 => by exact absurd rfl h2)
          refine x_iconst dX9_layIce_286 iconst_0 ?_
          refine x_istore dX9_layIce_287 (by decide) rfl ?_
          refine x_iload dX9_layIce_289 rfl ?_
          refine n_if_eq 306 dX9_layIce_291 rfl (by omega) (fun h7 => ?_) (fun h7 => by omega)
          refine x_iload dX9_layIce_306 rfl ?_
          refine x_istore dX9_layIce_308 (by decide) rfl ?_
          refine n_inc dX9_layIce_310 rfl rfl ?_
          refine x_goto 193 dX9_layIce_313 rfl ?_
          refine x_mask [true, true, true, true, true, true, false, false, false] ?_
          have ih2 := ih
          rw [crsK_off (onw_noD hDc)] at ih2
          exact ih2
        · rw [oI_some]
          have hx := hb _ x hDc
          refine x_ldc kcX9_134 dX9_layIce_255 ?_
          refine x_icmp_eq 286 dX9_layIce_257 rfl (fun h2 => by exact absurd h2 (nI_ne_NONE (by omega))) (fun h2 => ?_)
          refine x_aload_n dX9_layIce_260 rfl ?_
          refine g_R (s0_42 L) fkX9_41 rfl rfl rfl dX9_layIce_261 ?_
          refine x_iload_n dX9_layIce_264 rfl ?_
          refine x_iload dX9_layIce_265 rfl ?_
          refine n_iadd dX9_layIce_267 ?_
          refine n_iald (s0_53 L) (by omega) rfl dX9_layIce_268 ?_
          refine x_as (hD _ ho) ?_
          refine x_aload_n dX9_layIce_269 rfl ?_
          refine g_R (s0_42 L) fkX9_41 rfl rfl rfl dX9_layIce_270 ?_
          refine x_iload_n dX9_layIce_273 rfl ?_
          refine x_iload_n dX9_layIce_274 rfl ?_
          refine n_iadd dX9_layIce_275 ?_
          refine n_iald (s0_53 L) (by omega) rfl dX9_layIce_276 ?_
          refine x_as ((hD _ hc).trans (by rw [hDc]; rfl : _ = nI x)) ?_
          refine x_iconst dX9_layIce_277 iconst_1 ?_
          refine n_iadd dX9_layIce_278 ?_
          refine x_icmp_ne 286 dX9_layIce_279 rfl (fun h4 => ?_) (fun h4 => ?_)
          · refine x_iconst dX9_layIce_286 iconst_0 ?_
            refine x_istore dX9_layIce_287 (by decide) rfl ?_
            refine x_iload dX9_layIce_289 rfl ?_
            refine n_if_eq 306 dX9_layIce_291 rfl (by omega) (fun h10 => ?_) (fun h10 => by omega)
            refine x_iload dX9_layIce_306 rfl ?_
            refine x_istore dX9_layIce_308 (by decide) rfl ?_
            refine n_inc dX9_layIce_310 rfl rfl ?_
            refine x_goto 193 dX9_layIce_313 rfl ?_
            refine x_mask [true, true, true, true, true, true, false, false, false] ?_
            have ih2 := ih
            rw [crsK_off (k := 0) ((onw_of hnb hDc).trans (decide_eq_false (fun z => h4 ((oI_eqN hb2 (by omega)).mpr z))))] at ih2
            exact ih2
          · refine x_iconst dX9_layIce_282 iconst_1 ?_
            refine x_goto 287 dX9_layIce_283 rfl ?_
            refine x_istore dX9_layIce_287 (by decide) rfl ?_
            refine x_iload dX9_layIce_289 rfl ?_
            refine n_if_eq 306 dX9_layIce_291 rfl (by omega) (fun h11 => by omega) (fun h11 => ?_)
            refine x_iload dX9_layIce_294 rfl ?_
            refine x_ldc kcX9_134 dX9_layIce_296 ?_
            refine x_icmp_ne 306 dX9_layIce_298 rfl (fun h6 => ?_) (fun h6 => ?_)
            · refine x_iload dX9_layIce_306 rfl ?_
              refine x_istore dX9_layIce_308 (by decide) rfl ?_
              refine n_inc dX9_layIce_310 rfl rfl ?_
              refine x_goto 193 dX9_layIce_313 rfl ?_
              refine x_mask [true, true, true, true, true, true, false, false, false] ?_
              have ih2 := ih
              rcases hk : crsK w h D c 0 with _ | x
              · exact absurd (by rw [hk]; rfl) h6
              · rw [crsK_some hk] at ih2
                exact ih2
            · refine x_iload dX9_layIce_301 rfl ?_
              refine x_goto 308 dX9_layIce_303 rfl ?_
              refine x_istore dX9_layIce_308 (by decide) rfl ?_
              refine n_inc dX9_layIce_310 rfl rfl ?_
              refine x_goto 193 dX9_layIce_313 rfl ?_
              refine x_mask [true, true, true, true, true, true, false, false, false] ?_
              have ih2 := ih
              rw [crsK_on (k := 0) ((onw_of hnb hDc).trans (decide_eq_true ((oI_eqN hb2 (by omega)).mp h4))) ((oI_NONE (fun x e => by have := crsK_lt _ x e; omega)).mp h6)] at ih2
              exact ih2
    · refine x_iload dX9_layIce_193 rfl ?_
      refine x_iconst dX9_layIce_195 iconst_4 ?_
      refine n_icmp_ge 316 dX9_layIce_196 rfl (by omega) (by omega) (fun h1 => by omega) (fun h1 => ?_)
      refine x_iload dX9_layIce_199 rfl ?_
      refine n_if_ne 208 dX9_layIce_201 rfl (by omega) (fun h2 => ?_) (fun h2 => by omega)
      refine x_iload dX9_layIce_208 rfl ?_
      refine x_iconst dX9_layIce_210 iconst_1 ?_
      refine n_icmp_ne 218 dX9_layIce_211 rfl (by omega) (by omega) (fun h3 => by omega) (fun h3 => ?_)
      refine x_iconst dX9_layIce_214 iconst_2 ?_
      refine x_goto 229 dX9_layIce_215 rfl ?_
      refine x_istore dX9_layIce_229 (by decide) rfl ?_
      refine x_aload_n dX9_layIce_231 rfl ?_
      refine x_iload_n dX9_layIce_232 rfl ?_
      refine x_iload dX9_layIce_233 rfl ?_
      refine cV2 (mj := mX9_beside) lkX9_139 okX9_beside imX9_beside seX9_beside (s0_42 L) rfl rfl rfl rfl rfl dX9_layIce_235 rfl (m_beside H hw hh (c := c) (d := 2) hc (by omega) ?_)
      rcases hnb : nb w h c 2 with _ | o
      · rw [oI_none]
        refine x_istore dX9_layIce_238 (by decide) rfl ?_
        refine x_iload dX9_layIce_240 rfl ?_
        refine x_ldc kcX9_134 dX9_layIce_242 ?_
        refine x_icmp_eq 286 dX9_layIce_244 rfl (fun h1 => ?_) (fun h1 => by exact absurd rfl h1)
        refine x_iconst dX9_layIce_286 iconst_0 ?_
        refine x_istore dX9_layIce_287 (by decide) rfl ?_
        refine x_iload dX9_layIce_289 rfl ?_
        refine n_if_eq 306 dX9_layIce_291 rfl (by omega) (fun h5 => ?_) (fun h5 => by omega)
        refine x_iload dX9_layIce_306 rfl ?_
        refine x_istore dX9_layIce_308 (by decide) rfl ?_
        refine n_inc dX9_layIce_310 rfl rfl ?_
        refine x_goto 193 dX9_layIce_313 rfl ?_
        refine x_mask [true, true, true, true, true, true, false, false, false] ?_
        have ih2 := ih
        rw [crsK_off (onw_none hnb)] at ih2
        exact ih2
      · rw [oI_some]
        have ho := nb_lt H hc hnb
        have hb2 : ∀ x, D o = some x → x < 2 ^ 31 := fun x e => by have := hb _ x e; omega
        refine x_istore dX9_layIce_238 (by decide) rfl ?_
        refine x_iload dX9_layIce_240 rfl ?_
        refine x_ldc kcX9_134 dX9_layIce_242 ?_
        refine x_icmp_eq 286 dX9_layIce_244 rfl (fun h1 => by exact absurd h1 (nI_ne_NONE (by omega))) (fun h1 => ?_)
        refine x_aload_n dX9_layIce_247 rfl ?_
        refine g_R (s0_42 L) fkX9_41 rfl rfl rfl dX9_layIce_248 ?_
        refine x_iload_n dX9_layIce_251 rfl ?_
        refine x_iload_n dX9_layIce_252 rfl ?_
        refine n_iadd dX9_layIce_253 ?_
        refine n_iald (s0_53 L) (by omega) rfl dX9_layIce_254 ?_
        refine x_as (hD _ hc) ?_
        rcases hDc : D c with _ | x
        · rw [oI_none]
          refine x_ldc kcX9_134 dX9_layIce_255 ?_
          refine x_icmp_eq 286 dX9_layIce_257 rfl (fun h2 => ?_) (fun h2 => by exact absurd rfl h2)
          refine x_iconst dX9_layIce_286 iconst_0 ?_
          refine x_istore dX9_layIce_287 (by decide) rfl ?_
          refine x_iload dX9_layIce_289 rfl ?_
          refine n_if_eq 306 dX9_layIce_291 rfl (by omega) (fun h8 => ?_) (fun h8 => by omega)
          refine x_iload dX9_layIce_306 rfl ?_
          refine x_istore dX9_layIce_308 (by decide) rfl ?_
          refine n_inc dX9_layIce_310 rfl rfl ?_
          refine x_goto 193 dX9_layIce_313 rfl ?_
          refine x_mask [true, true, true, true, true, true, false, false, false] ?_
          have ih2 := ih
          rw [crsK_off (onw_noD hDc)] at ih2
          exact ih2
        · rw [oI_some]
          have hx := hb _ x hDc
          refine x_ldc kcX9_134 dX9_layIce_255 ?_
          refine x_icmp_eq 286 dX9_layIce_257 rfl (fun h2 => by exact absurd h2 (nI_ne_NONE (by omega))) (fun h2 => ?_)
          refine x_aload_n dX9_layIce_260 rfl ?_
          refine g_R (s0_42 L) fkX9_41 rfl rfl rfl dX9_layIce_261 ?_
          refine x_iload_n dX9_layIce_264 rfl ?_
          refine x_iload dX9_layIce_265 rfl ?_
          refine n_iadd dX9_layIce_267 ?_
          refine n_iald (s0_53 L) (by omega) rfl dX9_layIce_268 ?_
          refine x_as (hD _ ho) ?_
          refine x_aload_n dX9_layIce_269 rfl ?_
          refine g_R (s0_42 L) fkX9_41 rfl rfl rfl dX9_layIce_270 ?_
          refine x_iload_n dX9_layIce_273 rfl ?_
          refine x_iload_n dX9_layIce_274 rfl ?_
          refine n_iadd dX9_layIce_275 ?_
          refine n_iald (s0_53 L) (by omega) rfl dX9_layIce_276 ?_
          refine x_as ((hD _ hc).trans (by rw [hDc]; rfl : _ = nI x)) ?_
          refine x_iconst dX9_layIce_277 iconst_1 ?_
          refine n_iadd dX9_layIce_278 ?_
          refine x_icmp_ne 286 dX9_layIce_279 rfl (fun h4 => ?_) (fun h4 => ?_)
          · refine x_iconst dX9_layIce_286 iconst_0 ?_
            refine x_istore dX9_layIce_287 (by decide) rfl ?_
            refine x_iload dX9_layIce_289 rfl ?_
            refine n_if_eq 306 dX9_layIce_291 rfl (by omega) (fun h11 => ?_) (fun h11 => by omega)
            refine x_iload dX9_layIce_306 rfl ?_
            refine x_istore dX9_layIce_308 (by decide) rfl ?_
            refine n_inc dX9_layIce_310 rfl rfl ?_
            refine x_goto 193 dX9_layIce_313 rfl ?_
            refine x_mask [true, true, true, true, true, true, false, false, false] ?_
            have ih2 := ih
            rw [crsK_off (k := 1) ((onw_of hnb hDc).trans (decide_eq_false (fun z => h4 ((oI_eqN hb2 (by omega)).mpr z))))] at ih2
            exact ih2
          · refine x_iconst dX9_layIce_282 iconst_1 ?_
            refine x_goto 287 dX9_layIce_283 rfl ?_
            refine x_istore dX9_layIce_287 (by decide) rfl ?_
            refine x_iload dX9_layIce_289 rfl ?_
            refine n_if_eq 306 dX9_layIce_291 rfl (by omega) (fun h12 => by omega) (fun h12 => ?_)
            refine x_iload dX9_layIce_294 rfl ?_
            refine x_ldc kcX9_134 dX9_layIce_296 ?_
            refine x_icmp_ne 306 dX9_layIce_298 rfl (fun h6 => ?_) (fun h6 => ?_)
            · refine x_iload dX9_layIce_306 rfl ?_
              refine x_istore dX9_layIce_308 (by decide) rfl ?_
              refine n_inc dX9_layIce_310 rfl rfl ?_
              refine x_goto 193 dX9_layIce_313 rfl ?_
              refine x_mask [true, true, true, true, true, true, false, false, false] ?_
              have ih2 := ih
              rcases hk : crsK w h D c 1 with _ | x
              · exact absurd (by rw [hk]; rfl) h6
              · rw [crsK_some hk] at ih2
                exact ih2
            · refine x_iload dX9_layIce_301 rfl ?_
              refine x_goto 308 dX9_layIce_303 rfl ?_
              refine x_istore dX9_layIce_308 (by decide) rfl ?_
              refine n_inc dX9_layIce_310 rfl rfl ?_
              refine x_goto 193 dX9_layIce_313 rfl ?_
              refine x_mask [true, true, true, true, true, true, false, false, false] ?_
              have ih2 := ih
              rw [crsK_on (k := 1) ((onw_of hnb hDc).trans (decide_eq_true ((oI_eqN hb2 (by omega)).mp h4))) ((oI_NONE (fun x e => by have := crsK_lt _ x e; omega)).mp h6)] at ih2
              exact ih2
    · refine x_iload dX9_layIce_193 rfl ?_
      refine x_iconst dX9_layIce_195 iconst_4 ?_
      refine n_icmp_ge 316 dX9_layIce_196 rfl (by omega) (by omega) (fun h1 => by omega) (fun h1 => ?_)
      refine x_iload dX9_layIce_199 rfl ?_
      refine n_if_ne 208 dX9_layIce_201 rfl (by omega) (fun h2 => ?_) (fun h2 => by omega)
      refine x_iload dX9_layIce_208 rfl ?_
      refine x_iconst dX9_layIce_210 iconst_1 ?_
      refine n_icmp_ne 218 dX9_layIce_211 rfl (by omega) (by omega) (fun h3 => ?_) (fun h3 => by omega)
      refine x_iload dX9_layIce_218 rfl ?_
      refine x_iconst dX9_layIce_220 iconst_2 ?_
      refine n_icmp_ne 228 dX9_layIce_221 rfl (by omega) (by omega) (fun h4 => by omega) (fun h4 => ?_)
      refine x_iconst dX9_layIce_224 iconst_0 ?_
      refine x_goto 229 dX9_layIce_225 rfl ?_
      refine x_istore dX9_layIce_229 (by decide) rfl ?_
      refine x_aload_n dX9_layIce_231 rfl ?_
      refine x_iload_n dX9_layIce_232 rfl ?_
      refine x_iload dX9_layIce_233 rfl ?_
      refine cV2 (mj := mX9_beside) lkX9_139 okX9_beside imX9_beside seX9_beside (s0_42 L) rfl rfl rfl rfl rfl dX9_layIce_235 rfl (m_beside H hw hh (c := c) (d := 0) hc (by omega) ?_)
      rcases hnb : nb w h c 0 with _ | o
      · rw [oI_none]
        refine x_istore dX9_layIce_238 (by decide) rfl ?_
        refine x_iload dX9_layIce_240 rfl ?_
        refine x_ldc kcX9_134 dX9_layIce_242 ?_
        refine x_icmp_eq 286 dX9_layIce_244 rfl (fun h1 => ?_) (fun h1 => by exact absurd rfl h1)
        refine x_iconst dX9_layIce_286 iconst_0 ?_
        refine x_istore dX9_layIce_287 (by decide) rfl ?_
        refine x_iload dX9_layIce_289 rfl ?_
        refine n_if_eq 306 dX9_layIce_291 rfl (by omega) (fun h6 => ?_) (fun h6 => by omega)
        refine x_iload dX9_layIce_306 rfl ?_
        refine x_istore dX9_layIce_308 (by decide) rfl ?_
        refine n_inc dX9_layIce_310 rfl rfl ?_
        refine x_goto 193 dX9_layIce_313 rfl ?_
        refine x_mask [true, true, true, true, true, true, false, false, false] ?_
        have ih2 := ih
        rw [crsK_off (onw_none hnb)] at ih2
        exact ih2
      · rw [oI_some]
        have ho := nb_lt H hc hnb
        have hb2 : ∀ x, D o = some x → x < 2 ^ 31 := fun x e => by have := hb _ x e; omega
        refine x_istore dX9_layIce_238 (by decide) rfl ?_
        refine x_iload dX9_layIce_240 rfl ?_
        refine x_ldc kcX9_134 dX9_layIce_242 ?_
        refine x_icmp_eq 286 dX9_layIce_244 rfl (fun h1 => by exact absurd h1 (nI_ne_NONE (by omega))) (fun h1 => ?_)
        refine x_aload_n dX9_layIce_247 rfl ?_
        refine g_R (s0_42 L) fkX9_41 rfl rfl rfl dX9_layIce_248 ?_
        refine x_iload_n dX9_layIce_251 rfl ?_
        refine x_iload_n dX9_layIce_252 rfl ?_
        refine n_iadd dX9_layIce_253 ?_
        refine n_iald (s0_53 L) (by omega) rfl dX9_layIce_254 ?_
        refine x_as (hD _ hc) ?_
        rcases hDc : D c with _ | x
        · rw [oI_none]
          refine x_ldc kcX9_134 dX9_layIce_255 ?_
          refine x_icmp_eq 286 dX9_layIce_257 rfl (fun h2 => ?_) (fun h2 => by exact absurd rfl h2)
          refine x_iconst dX9_layIce_286 iconst_0 ?_
          refine x_istore dX9_layIce_287 (by decide) rfl ?_
          refine x_iload dX9_layIce_289 rfl ?_
          refine n_if_eq 306 dX9_layIce_291 rfl (by omega) (fun h9 => ?_) (fun h9 => by omega)
          refine x_iload dX9_layIce_306 rfl ?_
          refine x_istore dX9_layIce_308 (by decide) rfl ?_
          refine n_inc dX9_layIce_310 rfl rfl ?_
          refine x_goto 193 dX9_layIce_313 rfl ?_
          refine x_mask [true, true, true, true, true, true, false, false, false] ?_
          have ih2 := ih
          rw [crsK_off (onw_noD hDc)] at ih2
          exact ih2
        · rw [oI_some]
          have hx := hb _ x hDc
          refine x_ldc kcX9_134 dX9_layIce_255 ?_
          refine x_icmp_eq 286 dX9_layIce_257 rfl (fun h2 => by exact absurd h2 (nI_ne_NONE (by omega))) (fun h2 => ?_)
          refine x_aload_n dX9_layIce_260 rfl ?_
          refine g_R (s0_42 L) fkX9_41 rfl rfl rfl dX9_layIce_261 ?_
          refine x_iload_n dX9_layIce_264 rfl ?_
          refine x_iload dX9_layIce_265 rfl ?_
          refine n_iadd dX9_layIce_267 ?_
          refine n_iald (s0_53 L) (by omega) rfl dX9_layIce_268 ?_
          refine x_as (hD _ ho) ?_
          refine x_aload_n dX9_layIce_269 rfl ?_
          refine g_R (s0_42 L) fkX9_41 rfl rfl rfl dX9_layIce_270 ?_
          refine x_iload_n dX9_layIce_273 rfl ?_
          refine x_iload_n dX9_layIce_274 rfl ?_
          refine n_iadd dX9_layIce_275 ?_
          refine n_iald (s0_53 L) (by omega) rfl dX9_layIce_276 ?_
          refine x_as ((hD _ hc).trans (by rw [hDc]; rfl : _ = nI x)) ?_
          refine x_iconst dX9_layIce_277 iconst_1 ?_
          refine n_iadd dX9_layIce_278 ?_
          refine x_icmp_ne 286 dX9_layIce_279 rfl (fun h4 => ?_) (fun h4 => ?_)
          · refine x_iconst dX9_layIce_286 iconst_0 ?_
            refine x_istore dX9_layIce_287 (by decide) rfl ?_
            refine x_iload dX9_layIce_289 rfl ?_
            refine n_if_eq 306 dX9_layIce_291 rfl (by omega) (fun h12 => ?_) (fun h12 => by omega)
            refine x_iload dX9_layIce_306 rfl ?_
            refine x_istore dX9_layIce_308 (by decide) rfl ?_
            refine n_inc dX9_layIce_310 rfl rfl ?_
            refine x_goto 193 dX9_layIce_313 rfl ?_
            refine x_mask [true, true, true, true, true, true, false, false, false] ?_
            have ih2 := ih
            rw [crsK_off (k := 2) ((onw_of hnb hDc).trans (decide_eq_false (fun z => h4 ((oI_eqN hb2 (by omega)).mpr z))))] at ih2
            exact ih2
          · refine x_iconst dX9_layIce_282 iconst_1 ?_
            refine x_goto 287 dX9_layIce_283 rfl ?_
            refine x_istore dX9_layIce_287 (by decide) rfl ?_
            refine x_iload dX9_layIce_289 rfl ?_
            refine n_if_eq 306 dX9_layIce_291 rfl (by omega) (fun h13 => by omega) (fun h13 => ?_)
            refine x_iload dX9_layIce_294 rfl ?_
            refine x_ldc kcX9_134 dX9_layIce_296 ?_
            refine x_icmp_ne 306 dX9_layIce_298 rfl (fun h6 => ?_) (fun h6 => ?_)
            · refine x_iload dX9_layIce_306 rfl ?_
              refine x_istore dX9_layIce_308 (by decide) rfl ?_
              refine n_inc dX9_layIce_310 rfl rfl ?_
              refine x_goto 193 dX9_layIce_313 rfl ?_
              refine x_mask [true, true, true, true, true, true, false, false, false] ?_
              have ih2 := ih
              rcases hk : crsK w h D c 2 with _ | x
              · exact absurd (by rw [hk]; rfl) h6
              · rw [crsK_some hk] at ih2
                exact ih2
            · refine x_iload dX9_layIce_301 rfl ?_
              refine x_goto 308 dX9_layIce_303 rfl ?_
              refine x_istore dX9_layIce_308 (by decide) rfl ?_
              refine n_inc dX9_layIce_310 rfl rfl ?_
              refine x_goto 193 dX9_layIce_313 rfl ?_
              refine x_mask [true, true, true, true, true, true, false, false, false] ?_
              have ih2 := ih
              rw [crsK_on (k := 2) ((onw_of hnb hDc).trans (decide_eq_true ((oI_eqN hb2 (by omega)).mp h4))) ((oI_NONE (fun x e => by have := crsK_lt _ x e; omega)).mp h6)] at ih2
              exact ih2
    · refine x_iload dX9_layIce_193 rfl ?_
      refine x_iconst dX9_layIce_195 iconst_4 ?_
      refine n_icmp_ge 316 dX9_layIce_196 rfl (by omega) (by omega) (fun h1 => by omega) (fun h1 => ?_)
      refine x_iload dX9_layIce_199 rfl ?_
      refine n_if_ne 208 dX9_layIce_201 rfl (by omega) (fun h2 => ?_) (fun h2 => by omega)
      refine x_iload dX9_layIce_208 rfl ?_
      refine x_iconst dX9_layIce_210 iconst_1 ?_
      refine n_icmp_ne 218 dX9_layIce_211 rfl (by omega) (by omega) (fun h3 => ?_) (fun h3 => by omega)
      refine x_iload dX9_layIce_218 rfl ?_
      refine x_iconst dX9_layIce_220 iconst_2 ?_
      refine n_icmp_ne 228 dX9_layIce_221 rfl (by omega) (by omega) (fun h4 => ?_) (fun h4 => by omega)
      refine x_iconst dX9_layIce_228 iconst_1 ?_
      refine x_istore dX9_layIce_229 (by decide) rfl ?_
      refine x_aload_n dX9_layIce_231 rfl ?_
      refine x_iload_n dX9_layIce_232 rfl ?_
      refine x_iload dX9_layIce_233 rfl ?_
      refine cV2 (mj := mX9_beside) lkX9_139 okX9_beside imX9_beside seX9_beside (s0_42 L) rfl rfl rfl rfl rfl dX9_layIce_235 rfl (m_beside H hw hh (c := c) (d := 1) hc (by omega) ?_)
      rcases hnb : nb w h c 1 with _ | o
      · rw [oI_none]
        refine x_istore dX9_layIce_238 (by decide) rfl ?_
        refine x_iload dX9_layIce_240 rfl ?_
        refine x_ldc kcX9_134 dX9_layIce_242 ?_
        refine x_icmp_eq 286 dX9_layIce_244 rfl (fun h1 => ?_) (fun h1 => by exact absurd rfl h1)
        refine x_iconst dX9_layIce_286 iconst_0 ?_
        refine x_istore dX9_layIce_287 (by decide) rfl ?_
        refine x_iload dX9_layIce_289 rfl ?_
        refine n_if_eq 306 dX9_layIce_291 rfl (by omega) (fun h6 => ?_) (fun h6 => by omega)
        refine x_iload dX9_layIce_306 rfl ?_
        refine x_istore dX9_layIce_308 (by decide) rfl ?_
        refine n_inc dX9_layIce_310 rfl rfl ?_
        refine x_goto 193 dX9_layIce_313 rfl ?_
        refine x_mask [true, true, true, true, true, true, false, false, false] ?_
        have ih2 := ih
        rw [crsK_off (onw_none hnb)] at ih2
        exact ih2
      · rw [oI_some]
        have ho := nb_lt H hc hnb
        have hb2 : ∀ x, D o = some x → x < 2 ^ 31 := fun x e => by have := hb _ x e; omega
        refine x_istore dX9_layIce_238 (by decide) rfl ?_
        refine x_iload dX9_layIce_240 rfl ?_
        refine x_ldc kcX9_134 dX9_layIce_242 ?_
        refine x_icmp_eq 286 dX9_layIce_244 rfl (fun h1 => by exact absurd h1 (nI_ne_NONE (by omega))) (fun h1 => ?_)
        refine x_aload_n dX9_layIce_247 rfl ?_
        refine g_R (s0_42 L) fkX9_41 rfl rfl rfl dX9_layIce_248 ?_
        refine x_iload_n dX9_layIce_251 rfl ?_
        refine x_iload_n dX9_layIce_252 rfl ?_
        refine n_iadd dX9_layIce_253 ?_
        refine n_iald (s0_53 L) (by omega) rfl dX9_layIce_254 ?_
        refine x_as (hD _ hc) ?_
        rcases hDc : D c with _ | x
        · rw [oI_none]
          refine x_ldc kcX9_134 dX9_layIce_255 ?_
          refine x_icmp_eq 286 dX9_layIce_257 rfl (fun h2 => ?_) (fun h2 => by exact absurd rfl h2)
          refine x_iconst dX9_layIce_286 iconst_0 ?_
          refine x_istore dX9_layIce_287 (by decide) rfl ?_
          refine x_iload dX9_layIce_289 rfl ?_
          refine n_if_eq 306 dX9_layIce_291 rfl (by omega) (fun h9 => ?_) (fun h9 => by omega)
          refine x_iload dX9_layIce_306 rfl ?_
          refine x_istore dX9_layIce_308 (by decide) rfl ?_
          refine n_inc dX9_layIce_310 rfl rfl ?_
          refine x_goto 193 dX9_layIce_313 rfl ?_
          refine x_mask [true, true, true, true, true, true, false, false, false] ?_
          have ih2 := ih
          rw [crsK_off (onw_noD hDc)] at ih2
          exact ih2
        · rw [oI_some]
          have hx := hb _ x hDc
          refine x_ldc kcX9_134 dX9_layIce_255 ?_
          refine x_icmp_eq 286 dX9_layIce_257 rfl (fun h2 => by exact absurd h2 (nI_ne_NONE (by omega))) (fun h2 => ?_)
          refine x_aload_n dX9_layIce_260 rfl ?_
          refine g_R (s0_42 L) fkX9_41 rfl rfl rfl dX9_layIce_261 ?_
          refine x_iload_n dX9_layIce_264 rfl ?_
          refine x_iload dX9_layIce_265 rfl ?_
          refine n_iadd dX9_layIce_267 ?_
          refine n_iald (s0_53 L) (by omega) rfl dX9_layIce_268 ?_
          refine x_as (hD _ ho) ?_
          refine x_aload_n dX9_layIce_269 rfl ?_
          refine g_R (s0_42 L) fkX9_41 rfl rfl rfl dX9_layIce_270 ?_
          refine x_iload_n dX9_layIce_273 rfl ?_
          refine x_iload_n dX9_layIce_274 rfl ?_
          refine n_iadd dX9_layIce_275 ?_
          refine n_iald (s0_53 L) (by omega) rfl dX9_layIce_276 ?_
          refine x_as ((hD _ hc).trans (by rw [hDc]; rfl : _ = nI x)) ?_
          refine x_iconst dX9_layIce_277 iconst_1 ?_
          refine n_iadd dX9_layIce_278 ?_
          refine x_icmp_ne 286 dX9_layIce_279 rfl (fun h4 => ?_) (fun h4 => ?_)
          · refine x_iconst dX9_layIce_286 iconst_0 ?_
            refine x_istore dX9_layIce_287 (by decide) rfl ?_
            refine x_iload dX9_layIce_289 rfl ?_
            refine n_if_eq 306 dX9_layIce_291 rfl (by omega) (fun h12 => ?_) (fun h12 => by omega)
            refine x_iload dX9_layIce_306 rfl ?_
            refine x_istore dX9_layIce_308 (by decide) rfl ?_
            refine n_inc dX9_layIce_310 rfl rfl ?_
            refine x_goto 193 dX9_layIce_313 rfl ?_
            refine x_mask [true, true, true, true, true, true, false, false, false] ?_
            have ih2 := ih
            rw [crsK_off (k := 3) ((onw_of hnb hDc).trans (decide_eq_false (fun z => h4 ((oI_eqN hb2 (by omega)).mpr z))))] at ih2
            exact ih2
          · refine x_iconst dX9_layIce_282 iconst_1 ?_
            refine x_goto 287 dX9_layIce_283 rfl ?_
            refine x_istore dX9_layIce_287 (by decide) rfl ?_
            refine x_iload dX9_layIce_289 rfl ?_
            refine n_if_eq 306 dX9_layIce_291 rfl (by omega) (fun h13 => by omega) (fun h13 => ?_)
            refine x_iload dX9_layIce_294 rfl ?_
            refine x_ldc kcX9_134 dX9_layIce_296 ?_
            refine x_icmp_ne 306 dX9_layIce_298 rfl (fun h6 => ?_) (fun h6 => ?_)
            · refine x_iload dX9_layIce_306 rfl ?_
              refine x_istore dX9_layIce_308 (by decide) rfl ?_
              refine n_inc dX9_layIce_310 rfl rfl ?_
              refine x_goto 193 dX9_layIce_313 rfl ?_
              refine x_mask [true, true, true, true, true, true, false, false, false] ?_
              have ih2 := ih
              rcases hk : crsK w h D c 3 with _ | x
              · exact absurd (by rw [hk]; rfl) h6
              · rw [crsK_some hk] at ih2
                exact ih2
            · refine x_iload dX9_layIce_301 rfl ?_
              refine x_goto 308 dX9_layIce_303 rfl ?_
              refine x_istore dX9_layIce_308 (by decide) rfl ?_
              refine n_inc dX9_layIce_310 rfl rfl ?_
              refine x_goto 193 dX9_layIce_313 rfl ?_
              refine x_mask [true, true, true, true, true, true, false, false, false] ?_
              have ih2 := ih
              rw [crsK_on (k := 3) ((onw_of hnb hDc).trans (decide_eq_true ((oI_eqN hb2 (by omega)).mp h4))) ((oI_NONE (fun x e => by have := crsK_lt _ x e; omega)).mp h6)] at ih2
              exact ih2
set_option maxRecDepth 100000 in
set_option maxHeartbeats 4000000 in
theorem m_layIce {E : vE} {l : Launch} {Q : Option Value → vS → vM → Prop} {L : Nat} {M : vM} {w h : Nat} (H : WH w h) (hw : M 42 0 = nI w) (hh : M 42 1 = nI h) {ht : Nat → Nat} (hH : ∀ c, c < w * h → M 43 c = nI (ht c)) (hht : ∀ c, c < w * h → ht c ≤ 99) {g so tp fl : Nat} (hg : g < 6) (h49 : M 49 g = nI so) (hso : so < w * h) (h50 : M 50 g = nI tp) (htp : tp ≤ 199) (h51 : M 51 g = nI fl) (hfl : fl ≤ 20) (hf : ∀ c, c < w * h → M 53 (36 * g + c) = -900009) (hQ : ∀ M1 : vM, Fr [53, 54] M M1 → (∀ j, (j < 36 * g ∨ 36 * g + 36 ≤ j) → M1 53 j = M 53 j ∧ M1 54 j = M 54 j) → (∀ c, c < w * h → M1 53 (36 * g + c) = oI (-900009) ((iceD w h ht so tp fl) c)) → (∀ c, c < w * h → M1 54 (36 * g + c) = oI (-900009) (crs w h (iceD w h ht so tp fl) c)) → Q none (S0 L) M1) : PM E l mX9_layIce 0 [.ref 42, .int (nI g), .null, .null, .null, .null, .null, .null, .null] [] (S0 L) M 0 0 Q := by
  have e4 := H.le
  have e6 := H.pos
  have hbD : ∀ c x, (iceD w h ht so tp fl) c = some x → x ≤ w * h := iceR_le (w * h)
  have lc : ∀ M1 : vM, Fr [53, 54] M M1 → (∀ j, (j < 36 * g ∨ 36 * g + 36 ≤ j) → M1 53 j = M 53 j ∧ M1 54 j = M 54 j) → (∀ c, c < w * h → M1 53 (36 * g + c) = oI (-900009) ((iceD w h ht so tp fl) c)) → (∀ c, c < 0 → M1 54 (36 * g + c) = oI (-900009) (crs w h (iceD w h ht so tp fl) c)) → PM E l mX9_layIce 178 [.ref 42, .int (nI g), .int (nI (36 * g)), .int (nI 0), .null, .null, .null, .null, .null] [] (S0 L) M1 0 0 Q := by
    refine lp_up (P := fun i => ∀ M1 : vM, Fr [53, 54] M M1 → (∀ j, (j < 36 * g ∨ 36 * g + 36 ≤ j) → M1 53 j = M 53 j ∧ M1 54 j = M 54 j) → (∀ c, c < w * h → M1 53 (36 * g + c) = oI (-900009) ((iceD w h ht so tp fl) c)) → (∀ c, c < i → M1 54 (36 * g + c) = oI (-900009) (crs w h (iceD w h ht so tp fl) c)) → PM E l mX9_layIce 178 [.ref 42, .int (nI g), .int (nI (36 * g)), .int (nI i), .null, .null, .null, .null, .null] [] (S0 L) M1 0 0 Q) (w * h) ?_ ?_ (0) (by omega)
    · intro M1 g1 g2 g3 g4
      refine x_iload_n dX9_layIce_178 rfl ?_
      refine x_aload_n dX9_layIce_179 rfl ?_
      refine cV0 (mj := mX9_cells) lkX9_103 okX9_cells imX9_cells seX9_cells (s0_42 L) rfl rfl rfl rfl rfl dX9_layIce_180 rfl (m_cells ((congrFun (g1 42 (by decide)) _).trans (hw)) ((congrFun (g1 42 (by decide)) _).trans (hh)) ?_)
      refine n_icmp_ge 332 dX9_layIce_183 rfl (by omega) (by omega) (fun h1 => ?_) (fun h1 => by omega)
      refine x_vret dX9_layIce_332 rfl ?_
      exact hQ M1 g1 g2 g3 g4
    · intro i hi ih M1 g1 g2 g3 g4
      refine x_iload_n dX9_layIce_178 rfl ?_
      refine x_aload_n dX9_layIce_179 rfl ?_
      refine cV0 (mj := mX9_cells) lkX9_103 okX9_cells imX9_cells seX9_cells (s0_42 L) rfl rfl rfl rfl rfl dX9_layIce_180 rfl (m_cells ((congrFun (g1 42 (by decide)) _).trans (hw)) ((congrFun (g1 42 (by decide)) _).trans (hh)) ?_)
      refine n_icmp_ge 332 dX9_layIce_183 rfl (by omega) (by omega) (fun h1 => by omega) (fun h1 => ?_)
      refine x_ldc kcX9_134 dX9_layIce_186 ?_
      refine x_istore dX9_layIce_188 (by decide) rfl ?_
      refine x_iconst dX9_layIce_190 iconst_0 ?_
      refine x_istore dX9_layIce_191 (by decide) rfl ?_
      refine m_flowRow H ((congrFun (g1 42 (by decide)) _).trans (hw)) ((congrFun (g1 42 (by decide)) _).trans (hh)) (D := (iceD w h ht so tp fl)) hg hi hbD g3 ?_
      refine x_aload_n dX9_layIce_316 rfl ?_
      refine g_R (s0_42 L) fkX9_44 rfl rfl rfl dX9_layIce_317 ?_
      refine x_iload_n dX9_layIce_320 rfl ?_
      refine x_iload_n dX9_layIce_321 rfl ?_
      refine n_iadd dX9_layIce_322 ?_
      refine x_iload dX9_layIce_323 rfl ?_
      refine n_iast rfl (s0_54 L) (by omega) rfl dX9_layIce_325 ?_
      refine n_inc dX9_layIce_326 rfl rfl ?_
      refine x_goto 178 dX9_layIce_329 rfl ?_
      refine x_mask [true, true, true, true, false, false, false, false, false] ?_
      refine ih _ (g1.set _ (by decide)) (fun j hj => ?_) g3 (fun c hc => ?_)
      · exact ⟨(g2 j hj).1, (upd_ne _ _ (by omega)).trans (g2 j hj).2⟩
      · by_cases e : c = i
        · subst e; exact upd_at _ _ _
        · exact (upd_ne _ _ (by omega)).trans (g4 c (by omega))
  have ld : ∀ M1 : vM, Fr [53, 54] M M1 → (∀ j, (j < 36 * g ∨ 36 * g + 36 ≤ j) → M1 53 j = M 53 j ∧ M1 54 j = M 54 j) → (∀ c, c < w * h → M1 53 (36 * g + c) = oI (-900009) (itr (fun d D => iceRow w h ht tp fl d D) 0 (iceD0 ht so tp) c)) → PM E l mX9_layIce 41 [.ref 42, .int (nI g), .int (nI (36 * g)), .int (nI 0), .null, .null, .null, .null, .null] [] (S0 L) M1 0 0 Q := by
    refine lp_up (P := fun i => ∀ M1 : vM, Fr [53, 54] M M1 → (∀ j, (j < 36 * g ∨ 36 * g + 36 ≤ j) → M1 53 j = M 53 j ∧ M1 54 j = M 54 j) → (∀ c, c < w * h → M1 53 (36 * g + c) = oI (-900009) (itr (fun d D => iceRow w h ht tp fl d D) i (iceD0 ht so tp) c)) → PM E l mX9_layIce 41 [.ref 42, .int (nI g), .int (nI (36 * g)), .int (nI i), .null, .null, .null, .null, .null] [] (S0 L) M1 0 0 Q) (w * h) ?_ ?_ (0) (by omega)
    · intro M1 g1 g2 g3
      refine x_iload_n dX9_layIce_41 rfl ?_
      refine x_aload_n dX9_layIce_42 rfl ?_
      refine cV0 (mj := mX9_cells) lkX9_103 okX9_cells imX9_cells seX9_cells (s0_42 L) rfl rfl rfl rfl rfl dX9_layIce_43 rfl (m_cells ((congrFun (g1 42 (by decide)) _).trans (hw)) ((congrFun (g1 42 (by decide)) _).trans (hh)) ?_)
      refine n_icmp_ge 176 dX9_layIce_46 rfl (by omega) (by omega) (fun h1 => ?_) (fun h1 => by omega)
      refine x_iconst dX9_layIce_176 iconst_0 ?_
      refine x_istore_n dX9_layIce_177 (by decide) rfl ?_
      exact lc _ g1 g2 g3 (fun c hc => absurd hc (by omega))
    · intro i hi ih M1 g1 g2 g3
      refine x_iload_n dX9_layIce_41 rfl ?_
      refine x_aload_n dX9_layIce_42 rfl ?_
      refine cV0 (mj := mX9_cells) lkX9_103 okX9_cells imX9_cells seX9_cells (s0_42 L) rfl rfl rfl rfl rfl dX9_layIce_43 rfl (m_cells ((congrFun (g1 42 (by decide)) _).trans (hw)) ((congrFun (g1 42 (by decide)) _).trans (hh)) ?_)
      refine n_icmp_ge 176 dX9_layIce_46 rfl (by omega) (by omega) (fun h1 => by omega) (fun h1 => ?_)
      refine x_iconst dX9_layIce_49 iconst_0 ?_
      refine x_istore dX9_layIce_50 (by decide) rfl ?_
      refine m_iceRow H hw hh hH hht hg h49 hso h50 htp h51 hfl (d := i) hi (D := itr (fun d D => iceRow w h ht tp fl d D) i (iceD0 ht so tp)) (fun c x e => Nat.le_succ_of_le (iceR_le i c x e)) ?_ M1 g1 g2 g3
      intro M1 g1 g2 g3
      refine n_inc dX9_layIce_170 rfl rfl ?_
      refine x_goto 41 dX9_layIce_173 rfl ?_
      refine x_mask [true, true, true, true, false, false, false, false, false] ?_
      exact ih _ g1 g2 g3
  have hso9 := hht so hso
  refine x_bipush dX9_layIce_0 bipush_36 ?_
  refine x_iload_n dX9_layIce_2 rfl ?_
  refine n_imul dX9_layIce_3 ?_
  refine x_istore_n dX9_layIce_4 (by decide) rfl ?_
  refine x_aload_n dX9_layIce_5 rfl ?_
  refine g_R (s0_42 L) fkX9_32 rfl rfl rfl dX9_layIce_6 ?_
  refine x_iload_n dX9_layIce_9 rfl ?_
  refine n_iald (s0_50 L) (by omega) rfl dX9_layIce_10 ?_
  refine x_as h50 ?_
  refine x_aload_n dX9_layIce_11 rfl ?_
  refine g_R (s0_42 L) fkX9_7 rfl rfl rfl dX9_layIce_12 ?_
  refine x_aload_n dX9_layIce_15 rfl ?_
  refine g_R (s0_42 L) fkX9_29 rfl rfl rfl dX9_layIce_16 ?_
  refine x_iload_n dX9_layIce_19 rfl ?_
  refine n_iald (s0_49 L) (by omega) rfl dX9_layIce_20 ?_
  refine x_as h49 ?_
  refine n_iald (s0_43 L) (by omega) rfl dX9_layIce_21 ?_
  refine x_as (hH _ (by first | assumption | omega)) ?_
  refine n_icmp_le 39 dX9_layIce_22 rfl (by omega) (by omega) (fun h1 => ?_) (fun h1 => ?_)
  · refine x_iconst dX9_layIce_39 iconst_0 ?_
    refine x_istore_n dX9_layIce_40 (by decide) rfl ?_
    refine ld M Fr.rf (fun j hj => ⟨rfl, rfl⟩) (fun c hc => ?_)
    rw [hf c hc]
    simp only [itr, iceD0]
    rw [if_neg (by omega)]
    rfl
  · refine x_aload_n dX9_layIce_25 rfl ?_
    refine g_R (s0_42 L) fkX9_41 rfl rfl rfl dX9_layIce_26 ?_
    refine x_iload_n dX9_layIce_29 rfl ?_
    refine x_aload_n dX9_layIce_30 rfl ?_
    refine g_R (s0_42 L) fkX9_29 rfl rfl rfl dX9_layIce_31 ?_
    refine x_iload_n dX9_layIce_34 rfl ?_
    refine n_iald (s0_49 L) (by omega) rfl dX9_layIce_35 ?_
    refine x_as h49 ?_
    refine n_iadd dX9_layIce_36 ?_
    refine x_iconst dX9_layIce_37 iconst_0 ?_
    refine n_iast rfl (s0_53 L) (by omega) rfl dX9_layIce_38 ?_
    refine x_iconst dX9_layIce_39 iconst_0 ?_
    refine x_istore_n dX9_layIce_40 (by decide) rfl ?_
    refine ld _ (Fr.rf.set _ (by decide)) (fun j hj => ⟨upd_ne _ _ (by omega), rfl⟩) (fun c hc => ?_)
    show upd (M 53) (36 * g + so) (nI 0) (36 * g + c) = _
    simp only [itr, iceD0]
    by_cases e : c = so
    · rw [e, if_pos ⟨rfl, by omega⟩]; exact upd_at _ _ _
    · rw [if_neg (fun z => e z.1)]; exact (upd_ne _ _ (by omega)).trans (hf c hc)

theorem isSome_iff {o : Option Nat} : o.isSome = true ↔ ¬ o = none := by cases o <;> simp
theorem lt31 {o : Option Nat} {n : Nat} (hn : n < 2 ^ 31) (h : ∀ x, o = some x → x ≤ n) : ∀ x, o = some x → x < 2 ^ 31 := fun x e => by have := h x e; omega
set_option maxRecDepth 100000 in
set_option maxHeartbeats 4000000 in
theorem m_isCovered {E : vE} {l : Launch} {Q : Option Value → vS → vM → Prop} {L : Nat} {M : vM} {g c : Nat} (hg : g < 6) (hc : c < 36) {o : Option Nat} (ho : ∀ x, o = some x → x < 2 ^ 31) (hm : M 53 (36 * g + c) = oI (-900009) o) (hQ : Q (some (.int (bI o.isSome))) (S0 L) M) : PM E l mX9_isCovered 0 [.ref 42, .int (nI g), .int (nI c)] [] (S0 L) M 0 0 Q := by
  refine x_aload_n dX9_isCovered_0 rfl ?_
  refine g_R (s0_42 L) fkX9_41 rfl rfl rfl dX9_isCovered_1 ?_
  refine x_bipush dX9_isCovered_4 bipush_36 ?_
  refine x_iload_n dX9_isCovered_6 rfl ?_
  refine n_imul dX9_isCovered_7 ?_
  refine x_iload_n dX9_isCovered_8 rfl ?_
  refine n_iadd dX9_isCovered_9 ?_
  refine n_iald (s0_53 L) (by omega) rfl dX9_isCovered_10 ?_
  refine x_as hm ?_
  refine x_ldc kcX9_134 dX9_isCovered_11 ?_
  refine x_icmp_eq 20 dX9_isCovered_13 rfl (fun z1 => ?_) (fun z1 => ?_)
  · refine x_iconst dX9_isCovered_20 iconst_0 ?_
    refine x_iret dX9_isCovered_21 rfl (by first | exact bI_nar _ | exact n1_nar | exact n0_nar) ?_
    rw [(oI_NONE ho).mp z1] at hQ; exact hQ
  · refine x_iconst dX9_isCovered_16 iconst_1 ?_
    refine x_goto 21 dX9_isCovered_17 rfl ?_
    refine x_iret dX9_isCovered_21 rfl (by first | exact bI_nar _ | exact n1_nar | exact n0_nar) ?_
    rw [isSome_iff.mpr (fun z => z1 ((oI_NONE ho).mpr z))] at hQ; exact hQ
set_option maxRecDepth 100000 in
set_option maxHeartbeats 4000000 in
theorem m_thick {E : vE} {l : Launch} {Q : Option Value → vS → vM → Prop} {L : Nat} {M : vM} {g c t f d z : Nat} (hg : g < 6) (hc : c < 36) (h50 : M 50 g = nI t) (h51 : M 51 g = nI f) (h53 : M 53 (36 * g + c) = nI d) (h43 : M 43 c = nI z) (hz : f * d + z ≤ t) (hQ : Q (some (.int (nI (t - f * d - z)))) (S0 L) M) : PM E l mX9_thick 0 [.ref 42, .int (nI g), .int (nI c)] [] (S0 L) M 0 0 Q := by
  refine x_aload_n dX9_thick_0 rfl ?_
  refine g_R (s0_42 L) fkX9_32 rfl rfl rfl dX9_thick_1 ?_
  refine x_iload_n dX9_thick_4 rfl ?_
  refine n_iald (s0_50 L) (by omega) rfl dX9_thick_5 ?_
  refine x_as h50 ?_
  refine x_aload_n dX9_thick_6 rfl ?_
  refine g_R (s0_42 L) fkX9_35 rfl rfl rfl dX9_thick_7 ?_
  refine x_iload_n dX9_thick_10 rfl ?_
  refine n_iald (s0_51 L) (by omega) rfl dX9_thick_11 ?_
  refine x_as h51 ?_
  refine x_aload_n dX9_thick_12 rfl ?_
  refine g_R (s0_42 L) fkX9_41 rfl rfl rfl dX9_thick_13 ?_
  refine x_bipush dX9_thick_16 bipush_36 ?_
  refine x_iload_n dX9_thick_18 rfl ?_
  refine n_imul dX9_thick_19 ?_
  refine x_iload_n dX9_thick_20 rfl ?_
  refine n_iadd dX9_thick_21 ?_
  refine n_iald (s0_53 L) (by omega) rfl dX9_thick_22 ?_
  refine x_as h53 ?_
  refine n_imul dX9_thick_23 ?_
  refine n_isub dX9_thick_24 (by omega) ?_
  refine x_aload_n dX9_thick_25 rfl ?_
  refine g_R (s0_42 L) fkX9_7 rfl rfl rfl dX9_thick_26 ?_
  refine x_iload_n dX9_thick_29 rfl ?_
  refine n_iald (s0_43 L) (by omega) rfl dX9_thick_30 ?_
  refine x_as h43 ?_
  refine n_isub dX9_thick_31 (by omega) ?_
  refine x_iret dX9_thick_32 rfl rfl ?_
  exact hQ
set_option maxRecDepth 100000 in
set_option maxHeartbeats 4000000 in
theorem m_isHeap {E : vE} {l : Launch} {Q : Option Value → vS → vM → Prop} {L : Nat} {M : vM} {g c : Nat} {i : Bool} (hg : g < 6) (hc : c < 36) {o : Option Nat} (ho : ∀ x, o = some x → x < 2 ^ 31) {o2 : Option Nat} (ho2 : ∀ x, o2 = some x → x < 2 ^ 31) (hi : M 48 g = bI i) (hm : M 53 (36 * g + c) = oI (-900009) o) (hm2 : M 54 (36 * g + c) = oI (-900009) o2) (hQ : Q (some (.int (bI (i && o.isSome && o2.isNone)))) (S0 L) M) : PM E l mX9_isHeap 0 [.ref 42, .int (nI g), .int (nI c)] [] (S0 L) M 0 0 Q := by
  refine x_aload_n dX9_isHeap_0 rfl ?_
  refine g_R (s0_42 L) fkX9_25 rfl rfl rfl dX9_isHeap_1 ?_
  refine x_iload_n dX9_isHeap_4 rfl ?_
  refine n_bald (s0_48 L) (by omega) rfl dX9_isHeap_5 ?_
  refine x_as hi ?_
  refine b_if_eq 38 dX9_isHeap_6 rfl (fun z1 => ?_) (fun z1 => ?_)
  · refine x_iconst dX9_isHeap_38 iconst_0 ?_
    refine x_iret dX9_isHeap_39 rfl (by first | exact bI_nar _ | exact n1_nar | exact n0_nar) ?_
    first | (rw [z1] at hQ; exact hQ) | (rw [z1, z2] at hQ; exact hQ) | (rw [z1, z2, (oI_NONE ho2).mp z3] at hQ; exact hQ) | (rw [z1, z2, show o2.isNone = false from by cases o2 with | none => exact absurd rfl z3 | some x => rfl] at hQ; exact hQ)
  · refine x_aload_n dX9_isHeap_9 rfl ?_
    refine x_iload_n dX9_isHeap_10 rfl ?_
    refine x_iload_n dX9_isHeap_11 rfl ?_
    refine cV2 (mj := mX9_isCovered) lkX9_153 okX9_isCovered imX9_isCovered seX9_isCovered (s0_42 L) rfl rfl rfl rfl rfl dX9_isHeap_12 rfl (m_isCovered hg hc ho hm ?_)
    refine b_if_eq 38 dX9_isHeap_15 rfl (fun z2 => ?_) (fun z2 => ?_)
    · refine x_iconst dX9_isHeap_38 iconst_0 ?_
      refine x_iret dX9_isHeap_39 rfl (by first | exact bI_nar _ | exact n1_nar | exact n0_nar) ?_
      first | (rw [z1] at hQ; exact hQ) | (rw [z1, z2] at hQ; exact hQ) | (rw [z1, z2, (oI_NONE ho2).mp z3] at hQ; exact hQ) | (rw [z1, z2, show o2.isNone = false from by cases o2 with | none => exact absurd rfl z3 | some x => rfl] at hQ; exact hQ)
    · refine x_aload_n dX9_isHeap_18 rfl ?_
      refine g_R (s0_42 L) fkX9_44 rfl rfl rfl dX9_isHeap_19 ?_
      refine x_bipush dX9_isHeap_22 bipush_36 ?_
      refine x_iload_n dX9_isHeap_24 rfl ?_
      refine n_imul dX9_isHeap_25 ?_
      refine x_iload_n dX9_isHeap_26 rfl ?_
      refine n_iadd dX9_isHeap_27 ?_
      refine n_iald (s0_54 L) (by omega) rfl dX9_isHeap_28 ?_
      refine x_as hm2 ?_
      refine x_ldc kcX9_134 dX9_isHeap_29 ?_
      refine x_icmp_ne 38 dX9_isHeap_31 rfl (fun z3 => ?_) (fun z3 => ?_)
      · refine x_iconst dX9_isHeap_38 iconst_0 ?_
        refine x_iret dX9_isHeap_39 rfl (by first | exact bI_nar _ | exact n1_nar | exact n0_nar) ?_
        first | (rw [z1] at hQ; exact hQ) | (rw [z1, z2] at hQ; exact hQ) | (rw [z1, z2, (oI_NONE ho2).mp z3] at hQ; exact hQ) | (rw [z1, z2, show o2.isNone = false from by cases o2 with | none => exact absurd rfl z3 | some x => rfl] at hQ; exact hQ)
      · refine x_iconst dX9_isHeap_34 iconst_1 ?_
        refine x_goto 39 dX9_isHeap_35 rfl ?_
        refine x_iret dX9_isHeap_39 rfl (by first | exact bI_nar _ | exact n1_nar | exact n0_nar) ?_
        first | (rw [z1] at hQ; exact hQ) | (rw [z1, z2] at hQ; exact hQ) | (rw [z1, z2, (oI_NONE ho2).mp z3] at hQ; exact hQ) | (rw [z1, z2, show o2.isNone = false from by cases o2 with | none => exact absurd rfl z3 | some x => rfl] at hQ; exact hQ)
set_option maxRecDepth 100000 in
set_option maxHeartbeats 4000000 in
theorem m_flowsIn {E : vE} {l : Launch} {Q : Option Value → vS → vM → Prop} {L : Nat} {M : vM} {g c d : Nat} {i : Bool} (hg : g < 6) (hc : c < 36) (hd : d < 2 ^ 31) {o2 : Option Nat} (ho2 : ∀ x, o2 = some x → x < 2 ^ 31) (hi : M 48 g = bI i) (hm2 : M 54 (36 * g + c) = oI (-900009) o2) (hQ : Q (some (.int (bI (i && decide (o2 = some d))))) (S0 L) M) : PM E l mX9_flowsIn 0 [.ref 42, .int (nI g), .int (nI c), .int (nI d)] [] (S0 L) M 0 0 Q := by
  refine x_aload_n dX9_flowsIn_0 rfl ?_
  refine g_R (s0_42 L) fkX9_25 rfl rfl rfl dX9_flowsIn_1 ?_
  refine x_iload_n dX9_flowsIn_4 rfl ?_
  refine n_bald (s0_48 L) (by omega) rfl dX9_flowsIn_5 ?_
  refine x_as hi ?_
  refine b_if_eq 28 dX9_flowsIn_6 rfl (fun z1 => ?_) (fun z1 => ?_)
  · refine x_iconst dX9_flowsIn_28 iconst_0 ?_
    refine x_iret dX9_flowsIn_29 rfl (by first | exact bI_nar _ | exact n1_nar | exact n0_nar) ?_
    first | (rw [z1] at hQ; exact hQ) | (rw [z1, decide_eq_false (fun z => z3 ((oI_eqN ho2 hd).mpr z))] at hQ; exact hQ) | (rw [z1, decide_eq_true ((oI_eqN ho2 hd).mp z3)] at hQ; exact hQ)
  · refine x_aload_n dX9_flowsIn_9 rfl ?_
    refine g_R (s0_42 L) fkX9_44 rfl rfl rfl dX9_flowsIn_10 ?_
    refine x_bipush dX9_flowsIn_13 bipush_36 ?_
    refine x_iload_n dX9_flowsIn_15 rfl ?_
    refine n_imul dX9_flowsIn_16 ?_
    refine x_iload_n dX9_flowsIn_17 rfl ?_
    refine n_iadd dX9_flowsIn_18 ?_
    refine n_iald (s0_54 L) (by omega) rfl dX9_flowsIn_19 ?_
    refine x_as hm2 ?_
    refine x_iload_n dX9_flowsIn_20 rfl ?_
    refine x_icmp_ne 28 dX9_flowsIn_21 rfl (fun z3 => ?_) (fun z3 => ?_)
    · refine x_iconst dX9_flowsIn_28 iconst_0 ?_
      refine x_iret dX9_flowsIn_29 rfl (by first | exact bI_nar _ | exact n1_nar | exact n0_nar) ?_
      first | (rw [z1] at hQ; exact hQ) | (rw [z1, decide_eq_false (fun z => z3 ((oI_eqN ho2 hd).mpr z))] at hQ; exact hQ) | (rw [z1, decide_eq_true ((oI_eqN ho2 hd).mp z3)] at hQ; exact hQ)
    · refine x_iconst dX9_flowsIn_24 iconst_1 ?_
      refine x_goto 29 dX9_flowsIn_25 rfl ?_
      refine x_iret dX9_flowsIn_29 rfl (by first | exact bI_nar _ | exact n1_nar | exact n0_nar) ?_
      first | (rw [z1] at hQ; exact hQ) | (rw [z1, decide_eq_false (fun z => z3 ((oI_eqN ho2 hd).mpr z))] at hQ; exact hQ) | (rw [z1, decide_eq_true ((oI_eqN ho2 hd).mp z3)] at hQ; exact hQ)
/-- one hop of a stone on ice -/
noncomputable def hop (w h : Nat) (ht : Nat → Nat) (q : vQ) (_ : Nat) (c : Nat) : Nat := match flw w h ht q c with
  | none => c
  | some d => (nb w h c d).getD c
def near (w c k : Nat) : Bool := decide ((k % w = c % w ∧ (k / w = c / w + 1 ∨ c / w = k / w + 1)) ∨ (k / w = c / w ∧ (k % w = c % w + 1 ∨ c % w = k % w + 1)))
noncomputable def sft (w h : Nat) (ht : Nat → Nat) (q : vQ) (c : Nat) : Nat := if (cov w h ht q c).isSome then itr (fun k b => if near w c k = true ∧ (cov w h ht q k).isSome = true ∧ ht k < ht b then k else b) (w * h) c else c
noncomputable def brb (w h : Nat) (ht : Nat → Nat) (q : vQ) (c wt : Nat) : Nat := if qI q then itr (hop w h ht q) (qN q / wt) c else if wt < 3 then sft w h ht q c else c
theorem near32F : ∀ a b e f : Fin 6, (((nI a.val - nI b.val) * (nI a.val - nI b.val) + (nI e.val - nI f.val) * (nI e.val - nI f.val) = nI 1) ↔ ((a.val = b.val ∧ (e.val = f.val + 1 ∨ f.val = e.val + 1)) ∨ (e.val = f.val ∧ (a.val = b.val + 1 ∨ b.val = a.val + 1)))) := by decide +kernel
theorem near32 (a : Nat) (ha : a < 6) (b : Nat) (hb : b < 6) (e : Nat) (he : e < 6) (f : Nat) (hf : f < 6) : (((nI a - nI b) * (nI a - nI b) + (nI e - nI f) * (nI e - nI f) = nI 1) ↔ ((a = b ∧ (e = f + 1 ∨ f = e + 1)) ∨ (e = f ∧ (a = b + 1 ∨ b = a + 1)))) := near32F ⟨a, ha⟩ ⟨b, hb⟩ ⟨e, he⟩ ⟨f, hf⟩
theorem hop_none {w h : Nat} {ht : Nat → Nat} {q : vQ} {k c : Nat} (e : flw w h ht q c = none) : hop w h ht q k c = c := by unfold hop; rw [e]
theorem hop_some {w h : Nat} {ht : Nat → Nat} {q : vQ} {k c d o : Nat} (e : flw w h ht q c = some d) (e2 : nb w h c d = some o) : hop w h ht q k c = o := by unfold hop; rw [e]; simp only [e2, Option.getD_some]
theorem onw_nb {w h : Nat} {D : Nat → Option Nat} {c d : Nat} (e : onw w h D c d = true) : ∃ o, nb w h c d = some o := by
  unfold onw at e
  cases hn : nb w h c d with
  | none => rw [hn] at e; cases e
  | some o => exact ⟨o, rfl⟩
theorem crsK_on2 {w h : Nat} {D : Nat → Option Nat} {c : Nat} : ∀ k x, crsK w h D c k = some x → onw w h D c x = true
  | 0, x, e => by cases e
  | k + 1, x, e => by
    simp only [crsK] at e
    cases hk : crsK w h D c k with
    | some y => rw [hk] at e; cases e; exact crsK_on2 k x hk
    | none =>
      rw [hk] at e
      simp only at e
      split at e
      · rename_i h1; cases e; exact h1
      · cases e
theorem flw_nb {w h : Nat} {ht : Nat → Nat} {q : vQ} {c d : Nat} (e : flw w h ht q c = some d) : ∃ o, nb w h c d = some o := by
  unfold flw at e
  split at e
  · exact onw_nb (crsK_on2 4 d e)
  · cases e
theorem flw_none {w h : Nat} {ht : Nat → Nat} {q : vQ} {c : Nat} (e : cov w h ht q c = none) : flw w h ht q c = none := by
  unfold cov at e
  unfold flw
  split at e
  · rename_i hi
    rw [if_pos hi]
    cases hk : crs w h (iceD w h ht (qS q) (qT q) (qF q)) c with
    | none => rfl
    | some d =>
      have := crsK_on2 4 d hk
      rw [onw_noD e] at this
      cases this
  · rename_i hi
    rw [if_neg hi]
theorem hop_lt {w h : Nat} {ht : Nat → Nat} {q : vQ} (H : WH w h) {k c : Nat} (hc : c < w * h) : hop w h ht q k c < w * h := by
  unfold hop
  cases hf : flw w h ht q c with
  | none => exact hc
  | some d =>
    obtain ⟨o, ho⟩ := flw_nb hf
    simp only [ho, Option.getD_some]
    exact nb_lt H hc ho
theorem itr_hop_lt {w h : Nat} {ht : Nat → Nat} {q : vQ} (H : WH w h) {c : Nat} (hc : c < w * h) : ∀ n, itr (hop w h ht q) n c < w * h
  | 0 => hc
  | n + 1 => hop_lt H (itr_hop_lt H hc n)
theorem itr_hop_stay {w h : Nat} {ht : Nat → Nat} {q : vQ} {c i : Nat} (e : flw w h ht q (itr (hop w h ht q) i c) = none) : ∀ n, itr (hop w h ht q) (i + n) c = itr (hop w h ht q) i c
  | 0 => rfl
  | n + 1 => by
    show hop w h ht q (i + n) (itr (hop w h ht q) (i + n) c) = _
    rw [itr_hop_stay e n]
    exact hop_none e
set_option maxRecDepth 100000 in
set_option maxHeartbeats 4000000 in
theorem m_broughtBy {E : vE} {l : Launch} {Q : Option Value → vS → vM → Prop} {L : Nat} {M : vM} {w h ng : Nat} {ht : Nat → Nat} {G : Nat → vQ} (V : GoV w h ng ht G) (K : GoM M w h ng ht G) (D : LdM M w h ng ht G) {g c wt : Nat} (hg : g < ng) (hc : c < w * h) (hw1 : 1 ≤ wt) (hw9 : wt ≤ 9) (hQ : Q (some (.int (nI (brb w h ht (G g) c wt)))) (S0 L) M) : PM E l mX9_broughtBy 0 [.ref 42, .int (nI g), .int (nI c), .int (nI wt), .null, .null, .null, .null, .null, .null] [] (S0 L) M 0 0 Q := by
  have V0 := V
  have K0 := K
  obtain ⟨H, hht, hng, hV⟩ := V
  obtain ⟨hw, hh, hH, h8, hG⟩ := K
  have e4 := H.le
  have hv := hV g hg
  have hm := hG g hg
  have hc36 : c < 36 := by omega
  have lfl : qI (G g) = false → wt < 3 → (cov w h ht (G g) c).isSome = true → PM E l mX9_broughtBy 91 [.ref 42, .int (nI g), .int (nI c), .int (nI wt), .int (nI c), .int (nI (itr (fun k b => if near w c k = true ∧ (cov w h ht (G g) k).isSome = true ∧ ht k < ht b then k else b) 0 c)), .int (nI 0), .null, .null, .null] [] (S0 L) M 0 0 Q := by
    intro hi hwt hs
    have k3 := c_col (c := c) H
    have k4 := c_row H hc
    have hsf : ∀ n, n ≤ w * h → itr (fun k b => if near w c k = true ∧ (cov w h ht (G g) k).isSome = true ∧ ht k < ht b then k else b) n c < w * h := by
      intro n
      induction n with
      | zero => intro _; exact hc
      | succ n ihn => intro hn; show (if _ then n else _) < _; split; omega; exact ihn (by omega)
    refine lp_up (P := fun i => PM E l mX9_broughtBy 91 [.ref 42, .int (nI g), .int (nI c), .int (nI wt), .int (nI c), .int (nI (itr (fun k b => if near w c k = true ∧ (cov w h ht (G g) k).isSome = true ∧ ht k < ht b then k else b) i c)), .int (nI i), .null, .null, .null] [] (S0 L) M 0 0 Q) (w * h) ?_ ?_ 0 (by omega)
    · skip
      refine x_iload dX9_broughtBy_91 rfl ?_
      refine x_aload_n dX9_broughtBy_93 rfl ?_
      refine cV0 (mj := mX9_cells) lkX9_103 okX9_cells imX9_cells seX9_cells (s0_42 L) rfl rfl rfl rfl rfl dX9_broughtBy_94 rfl (m_cells hw hh ?_)
      refine n_icmp_ge 206 dX9_broughtBy_97 rfl (by omega) (by omega) (fun h1 => ?_) (fun h1 => by omega)
      refine x_iload dX9_broughtBy_206 rfl ?_
      refine x_iret dX9_broughtBy_208 rfl rfl ?_
      simp only [brb, hi, Bool.false_eq_true, if_false, if_pos hwt, sft, hs, if_true] at hQ
      exact hQ
    · intro i hi ih
      refine x_iload dX9_broughtBy_91 rfl ?_
      refine x_aload_n dX9_broughtBy_93 rfl ?_
      refine cV0 (mj := mX9_cells) lkX9_103 okX9_cells imX9_cells seX9_cells (s0_42 L) rfl rfl rfl rfl rfl dX9_broughtBy_94 rfl (m_cells hw hh ?_)
      refine n_icmp_ge 206 dX9_broughtBy_97 rfl (by omega) (by omega) (fun h1 => by omega) (fun h1 => ?_)
      have k1 := c_col (c := i) H
      have k2 := c_row H hi
      have hwh := H
      have k5 : itr (fun k b => if near w c k = true ∧ (cov w h ht (G g) k).isSome = true ∧ ht k < ht b then k else b) i c < w * h := hsf i (by omega)
      obtain ⟨b1, b2, b3, b4⟩ := hwh
      have hi9 := hht i hi
      have hs9 := hht _ k5
      refine x_iload_n dX9_broughtBy_100 rfl ?_
      refine x_iconst dX9_broughtBy_101 iconst_3 ?_
      refine n_icmp_ge 206 dX9_broughtBy_102 rfl (by omega) (by omega) (fun h2 => by omega) (fun h2 => ?_)
      refine x_iload dX9_broughtBy_105 rfl ?_
      refine x_aload_n dX9_broughtBy_107 rfl ?_
      refine g_I (s0_42 L) fkX9_87 rfl rfl dX9_broughtBy_108 ?_
      refine x_as hw ?_
      refine n_irem dX9_broughtBy_111 (by omega) (by omega) (by omega) ?_
      refine x_iload_n dX9_broughtBy_112 rfl ?_
      refine x_aload_n dX9_broughtBy_113 rfl ?_
      refine g_I (s0_42 L) fkX9_87 rfl rfl dX9_broughtBy_114 ?_
      refine x_as hw ?_
      refine n_irem dX9_broughtBy_117 (by omega) (by omega) (by omega) ?_
      refine x_isub dX9_broughtBy_118 ?_
      refine x_istore dX9_broughtBy_119 (by decide) rfl ?_
      refine x_iload dX9_broughtBy_121 rfl ?_
      refine x_aload_n dX9_broughtBy_123 rfl ?_
      refine g_I (s0_42 L) fkX9_87 rfl rfl dX9_broughtBy_124 ?_
      refine x_as hw ?_
      refine n_idiv dX9_broughtBy_127 (by omega) (by omega) (by omega) ?_
      refine x_iload_n dX9_broughtBy_128 rfl ?_
      refine x_aload_n dX9_broughtBy_129 rfl ?_
      refine g_I (s0_42 L) fkX9_87 rfl rfl dX9_broughtBy_130 ?_
      refine x_as hw ?_
      refine n_idiv dX9_broughtBy_133 (by omega) (by omega) (by omega) ?_
      refine x_isub dX9_broughtBy_134 ?_
      refine x_istore dX9_broughtBy_135 (by decide) rfl ?_
      refine x_iload dX9_broughtBy_137 rfl ?_
      refine x_iload dX9_broughtBy_139 rfl ?_
      refine x_imul dX9_broughtBy_141 ?_
      refine x_iload dX9_broughtBy_142 rfl ?_
      refine x_iload dX9_broughtBy_144 rfl ?_
      refine x_imul dX9_broughtBy_146 ?_
      refine x_iadd dX9_broughtBy_147 ?_
      refine x_iconst dX9_broughtBy_148 iconst_1 ?_
      refine x_icmp_ne 166 dX9_broughtBy_149 rfl (fun z3 => ?_) (fun z3 => ?_)
      · refine x_iconst dX9_broughtBy_166 iconst_0 ?_
        refine x_istore dX9_broughtBy_167 (by decide) rfl ?_
        refine x_iload dX9_broughtBy_169 rfl ?_
        refine n_if_eq 196 dX9_broughtBy_171 rfl (by omega) (fun h4 => ?_) (fun h4 => by omega)
        refine x_iload dX9_broughtBy_196 rfl ?_
        refine x_istore dX9_broughtBy_198 (by decide) rfl ?_
        refine n_inc dX9_broughtBy_200 rfl rfl ?_
        refine x_goto 91 dX9_broughtBy_203 rfl ?_
        refine x_mask [true, true, true, true, true, true, true, false, false, false] ?_
        have ih2 := ih
        rw [show itr (fun k b => if near w c k = true ∧ (cov w h ht (G g) k).isSome = true ∧ ht k < ht b then k else b) (i + 1) c = itr (fun k b => if near w c k = true ∧ (cov w h ht (G g) k).isSome = true ∧ ht k < ht b then k else b) i c from if_neg (fun z => z3 ((near32 _ (by omega) _ (by omega) _ (by omega) _ (by omega)).mpr (by simpa [near] using z.1)))] at ih2
        exact ih2
      · refine x_aload_n dX9_broughtBy_152 rfl ?_
        refine x_iload_n dX9_broughtBy_153 rfl ?_
        refine x_iload dX9_broughtBy_154 rfl ?_
        refine cV2 (mj := mX9_isCovered) lkX9_153 okX9_isCovered imX9_isCovered seX9_isCovered (s0_42 L) rfl rfl rfl rfl rfl dX9_broughtBy_156 rfl (m_isCovered (by omega) (by omega) (lt31 (by omega) (fun x e => cov_lt e)) (D g hg i hi).1 ?_)
        refine b_if_eq 166 dX9_broughtBy_159 rfl (fun z4 => ?_) (fun z4 => ?_)
        · refine x_iconst dX9_broughtBy_166 iconst_0 ?_
          refine x_istore dX9_broughtBy_167 (by decide) rfl ?_
          refine x_iload dX9_broughtBy_169 rfl ?_
          refine n_if_eq 196 dX9_broughtBy_171 rfl (by omega) (fun h6 => ?_) (fun h6 => by omega)
          refine x_iload dX9_broughtBy_196 rfl ?_
          refine x_istore dX9_broughtBy_198 (by decide) rfl ?_
          refine n_inc dX9_broughtBy_200 rfl rfl ?_
          refine x_goto 91 dX9_broughtBy_203 rfl ?_
          refine x_mask [true, true, true, true, true, true, true, false, false, false] ?_
          have ih2 := ih
          rw [show itr (fun k b => if near w c k = true ∧ (cov w h ht (G g) k).isSome = true ∧ ht k < ht b then k else b) (i + 1) c = itr (fun k b => if near w c k = true ∧ (cov w h ht (G g) k).isSome = true ∧ ht k < ht b then k else b) i c from if_neg (fun z => by rw [z4] at z; cases z.2.1)] at ih2
          exact ih2
        · refine x_iconst dX9_broughtBy_162 iconst_1 ?_
          refine x_goto 167 dX9_broughtBy_163 rfl ?_
          refine x_istore dX9_broughtBy_167 (by decide) rfl ?_
          refine x_iload dX9_broughtBy_169 rfl ?_
          refine n_if_eq 196 dX9_broughtBy_171 rfl (by omega) (fun h7 => by omega) (fun h7 => ?_)
          refine x_aload_n dX9_broughtBy_174 rfl ?_
          refine g_R (s0_42 L) fkX9_7 rfl rfl rfl dX9_broughtBy_175 ?_
          refine x_iload dX9_broughtBy_178 rfl ?_
          refine n_iald (s0_43 L) (by omega) rfl dX9_broughtBy_180 ?_
          refine x_as (hH _ (by first | assumption | omega)) ?_
          refine x_aload_n dX9_broughtBy_181 rfl ?_
          refine g_R (s0_42 L) fkX9_7 rfl rfl rfl dX9_broughtBy_182 ?_
          refine x_iload dX9_broughtBy_185 rfl ?_
          refine n_iald (s0_43 L) (by omega) rfl dX9_broughtBy_187 ?_
          refine x_as (hH _ (by first | assumption | omega)) ?_
          refine n_icmp_ge 196 dX9_broughtBy_188 rfl (by omega) (by omega) (fun z5 => ?_) (fun z5 => ?_)
          · refine x_iload dX9_broughtBy_196 rfl ?_
            refine x_istore dX9_broughtBy_198 (by decide) rfl ?_
            refine n_inc dX9_broughtBy_200 rfl rfl ?_
            refine x_goto 91 dX9_broughtBy_203 rfl ?_
            refine x_mask [true, true, true, true, true, true, true, false, false, false] ?_
            have ih2 := ih
            rw [show itr (fun k b => if near w c k = true ∧ (cov w h ht (G g) k).isSome = true ∧ ht k < ht b then k else b) (i + 1) c = itr (fun k b => if near w c k = true ∧ (cov w h ht (G g) k).isSome = true ∧ ht k < ht b then k else b) i c from if_neg (fun z => by have := z.2.2; omega)] at ih2
            exact ih2
          · refine x_iload dX9_broughtBy_191 rfl ?_
            refine x_goto 198 dX9_broughtBy_193 rfl ?_
            refine x_istore dX9_broughtBy_198 (by decide) rfl ?_
            refine n_inc dX9_broughtBy_200 rfl rfl ?_
            refine x_goto 91 dX9_broughtBy_203 rfl ?_
            refine x_mask [true, true, true, true, true, true, true, false, false, false] ?_
            have ih2 := ih
            rw [show itr (fun k b => if near w c k = true ∧ (cov w h ht (G g) k).isSome = true ∧ ht k < ht b then k else b) (i + 1) c = i from if_pos ⟨by simpa [near] using (near32 _ (by omega) _ (by omega) _ (by omega) _ (by omega)).mp z3, z4, by omega⟩] at ih2
            exact ih2
  have lic : qI (G g) = true → PM E l mX9_broughtBy 26 [.ref 42, .int (nI g), .int (nI c), .int (nI wt), .int (nI (itr (hop w h ht (G g)) 0 c)), .int (nI 0), .null, .null, .null, .null] [] (S0 L) M 0 0 Q := by
    intro hi
    have hsp : qN (G g) / wt ≤ 20 := Nat.le_trans (Nat.div_le_self _ _) (hv.2 hi).2.2
    have hsp2 := (hv.2 hi).2.2
    refine lp_up (P := fun i => PM E l mX9_broughtBy 26 [.ref 42, .int (nI g), .int (nI c), .int (nI wt), .int (nI (itr (hop w h ht (G g)) i c)), .int (nI i), .null, .null, .null, .null] [] (S0 L) M 0 0 Q) (qN (G g) / wt) ?_ ?_ 0 (Nat.zero_le _)
    · skip
      refine x_iload dX9_broughtBy_26 rfl ?_
      refine x_aload_n dX9_broughtBy_28 rfl ?_
      refine g_R (s0_42 L) fkX9_38 rfl rfl rfl dX9_broughtBy_29 ?_
      refine x_iload_n dX9_broughtBy_32 rfl ?_
      refine n_iald (s0_52 L) (by omega) rfl dX9_broughtBy_33 ?_
      refine x_as (hm.2.2 hi).2.2 ?_
      refine x_iload_n dX9_broughtBy_34 rfl ?_
      refine n_idiv dX9_broughtBy_35 (by omega) (by omega) (by omega) ?_
      refine n_icmp_ge 82 dX9_broughtBy_36 rfl (by omega) (by omega) (fun h1 => ?_) (fun h1 => by omega)
      refine x_iload dX9_broughtBy_82 rfl ?_
      refine x_iret dX9_broughtBy_84 rfl rfl ?_
      simp only [brb, hi, if_true] at hQ
      exact hQ
    · intro i hlt ih
      refine x_iload dX9_broughtBy_26 rfl ?_
      refine x_aload_n dX9_broughtBy_28 rfl ?_
      refine g_R (s0_42 L) fkX9_38 rfl rfl rfl dX9_broughtBy_29 ?_
      refine x_iload_n dX9_broughtBy_32 rfl ?_
      refine n_iald (s0_52 L) (by omega) rfl dX9_broughtBy_33 ?_
      refine x_as (hm.2.2 hi).2.2 ?_
      refine x_iload_n dX9_broughtBy_34 rfl ?_
      refine n_idiv dX9_broughtBy_35 (by omega) (by omega) (by omega) ?_
      refine n_icmp_ge 82 dX9_broughtBy_36 rfl (by omega) (by omega) (fun h1 => by omega) (fun h1 => ?_)
      have k5 := itr_hop_lt (ht := ht) (q := G g) H hc i
      refine x_aload_n dX9_broughtBy_39 rfl ?_
      refine g_R (s0_42 L) fkX9_44 rfl rfl rfl dX9_broughtBy_40 ?_
      refine x_bipush dX9_broughtBy_43 bipush_36 ?_
      refine x_iload_n dX9_broughtBy_45 rfl ?_
      refine n_imul dX9_broughtBy_46 ?_
      refine x_iload dX9_broughtBy_47 rfl ?_
      refine n_iadd dX9_broughtBy_49 ?_
      refine n_iald (s0_54 L) (by omega) rfl dX9_broughtBy_50 ?_
      refine x_as (D g hg _ k5).2 ?_
      rcases hf : flw w h ht (G g) (itr (hop w h ht (G g)) i c) with _ | d
      · rw [oI_none]
        refine x_ldc kcX9_134 dX9_broughtBy_51 ?_
        refine x_icmp_eq 82 dX9_broughtBy_53 rfl (fun z1 => ?_) (fun z1 => by exact absurd rfl z1)
        refine x_iload dX9_broughtBy_82 rfl ?_
        refine x_iret dX9_broughtBy_84 rfl rfl ?_
        simp only [brb, hi, if_true] at hQ
        rw [show qN (G g) / wt = i + (qN (G g) / wt - i) from by omega, itr_hop_stay hf] at hQ
        exact hQ
      · rw [oI_some]
        have hd4 := flw_lt hf
        obtain ⟨o, ho⟩ := flw_nb hf
        refine x_ldc kcX9_134 dX9_broughtBy_51 ?_
        refine x_icmp_eq 82 dX9_broughtBy_53 rfl (fun z1 => by exact absurd z1 (nI_ne_NONE (by omega))) (fun z1 => ?_)
        refine x_aload_n dX9_broughtBy_56 rfl ?_
        refine x_iload dX9_broughtBy_57 rfl ?_
        refine x_aload_n dX9_broughtBy_59 rfl ?_
        refine g_R (s0_42 L) fkX9_44 rfl rfl rfl dX9_broughtBy_60 ?_
        refine x_bipush dX9_broughtBy_63 bipush_36 ?_
        refine x_iload_n dX9_broughtBy_65 rfl ?_
        refine n_imul dX9_broughtBy_66 ?_
        refine x_iload dX9_broughtBy_67 rfl ?_
        refine n_iadd dX9_broughtBy_69 ?_
        refine n_iald (s0_54 L) (by omega) rfl dX9_broughtBy_70 ?_
        refine x_as ((D g hg _ k5).2.trans (by rw [hf]; rfl : _ = nI d)) ?_
        refine cV2 (mj := mX9_beside) lkX9_139 okX9_beside imX9_beside seX9_beside (s0_42 L) rfl rfl rfl rfl rfl dX9_broughtBy_71 rfl (m_beside H hw hh k5 hd4 ?_)
        rw [ho, oI_some]
        refine x_istore dX9_broughtBy_74 (by decide) rfl ?_
        refine n_inc dX9_broughtBy_76 rfl rfl ?_
        refine x_goto 26 dX9_broughtBy_79 rfl ?_
        have ih2 := ih
        rw [show itr (hop w h ht (G g)) (i + 1) c = o from hop_some hf ho] at ih2
        exact ih2
  refine x_iload_n dX9_broughtBy_0 rfl ?_
  refine x_istore dX9_broughtBy_1 (by decide) rfl ?_
  refine x_aload_n dX9_broughtBy_3 rfl ?_
  refine x_iload_n dX9_broughtBy_4 rfl ?_
  refine x_iload_n dX9_broughtBy_5 rfl ?_
  refine cV2 (mj := mX9_isCovered) lkX9_153 okX9_isCovered imX9_isCovered seX9_isCovered (s0_42 L) rfl rfl rfl rfl rfl dX9_broughtBy_6 rfl (m_isCovered (by omega) hc36 (lt31 (by omega) (fun x e => cov_lt e)) (D g hg c hc).1 ?_)
  refine b_if_ne 14 dX9_broughtBy_9 rfl (fun z1 => ?_) (fun z1 => ?_)
  · refine x_aload_n dX9_broughtBy_14 rfl ?_
    refine g_R (s0_42 L) fkX9_25 rfl rfl rfl dX9_broughtBy_15 ?_
    refine x_iload_n dX9_broughtBy_18 rfl ?_
    refine n_bald (s0_48 L) (by omega) rfl dX9_broughtBy_19 ?_
    refine x_as hm.1 ?_
    refine b_if_eq 85 dX9_broughtBy_20 rfl (fun z2 => ?_) (fun z2 => ?_)
    · refine x_iload_n dX9_broughtBy_85 rfl ?_
      refine x_istore dX9_broughtBy_86 (by decide) rfl ?_
      refine x_iconst dX9_broughtBy_88 iconst_0 ?_
      refine x_istore dX9_broughtBy_89 (by decide) rfl ?_
      by_cases hwt : wt < 3
      · exact lfl z2 hwt z1
      · refine x_iload dX9_broughtBy_91 rfl ?_
        refine x_aload_n dX9_broughtBy_93 rfl ?_
        refine cV0 (mj := mX9_cells) lkX9_103 okX9_cells imX9_cells seX9_cells (s0_42 L) rfl rfl rfl rfl rfl dX9_broughtBy_94 rfl (m_cells hw hh ?_)
        have e6 := H.pos
        refine n_icmp_ge 206 dX9_broughtBy_97 rfl (by omega) (by omega) (fun z => by omega) (fun z => ?_)
        refine x_iload_n dX9_broughtBy_100 rfl ?_
        refine x_iconst dX9_broughtBy_101 iconst_3 ?_
        refine n_icmp_ge 206 dX9_broughtBy_102 rfl (by omega) (by omega) (fun z => ?_) (fun z => by omega)
        refine x_iload dX9_broughtBy_206 rfl ?_
        refine x_iret dX9_broughtBy_208 rfl rfl ?_
        simp only [brb, z2, Bool.false_eq_true, if_false, if_neg hwt] at hQ
        exact hQ
    · refine x_iconst dX9_broughtBy_23 iconst_0 ?_
      refine x_istore dX9_broughtBy_24 (by decide) rfl ?_
      exact lic z2
  · refine x_iload_n dX9_broughtBy_12 rfl ?_
    refine x_iret dX9_broughtBy_13 rfl rfl ?_
    have hn : cov w h ht (G g) c = none := by cases hx : cov w h ht (G g) c with | none => rfl | some x => rw [hx] at z1; cases z1
    have e1 : brb w h ht (G g) c wt = c := by
      unfold brb
      split
      · have := itr_hop_stay (w := w) (h := h) (ht := ht) (q := G g) (c := c) (i := 0) (flw_none hn) (qN (G g) / wt)
        rw [Nat.zero_add] at this
        exact this
      · split
        · unfold sft; rw [hn]; rfl
        · rfl
    rw [e1] at hQ
    exact hQ

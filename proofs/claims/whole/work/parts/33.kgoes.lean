theorem oI_lt {o : Option Nat} (ho : ∀ x, o = some x → x < 2 ^ 31) : oI (-1) o < 0 ↔ o = none := by
  cases o with
  | none => exact ⟨fun _ => rfl, fun _ => by decide⟩
  | some x => exact ⟨fun h => absurd h (nI_pos (ho x rfl)), fun h => by cases h⟩
theorem oI_ge {o : Option Nat} (ho : ∀ x, o = some x → x < 2 ^ 31) : 0 ≤ oI (-1) o ↔ ¬ o = none := by
  rw [← oI_lt ho, Int32.not_lt]
theorem oI_eqM {o : Option Nat} {d : Nat} (ho : ∀ x, o = some x → x < 2 ^ 31) (hd : d < 2 ^ 31) : oI (-1) o = nI d ↔ o = some d := by
  cases o with
  | none => exact ⟨fun h => absurd h.symm (nI_ne_m1 hd), fun h => by cases h⟩
  | some x => exact ⟨fun h => by rw [(nI_eq (ho x rfl) hd).mp h], fun h => by cases h; rfl⟩
/-- the class's distance and way at a cell -/
def DsC (w h : Nat) (ht : Nat → Nat) (q : vQ) (c : Nat) (o : Option Nat) : Prop := o.isSome = (cov w h ht q c).isSome ∧ (qI q = true → o = cov w h ht q c) ∧ ∀ x, o = some x → x ≤ 36
def CrC (w h : Nat) (ht : Nat → Nat) (q : vQ) (c : Nat) (o : Option Nat) : Prop := (qI q = true → o = flw w h ht q c) ∧ (qI q = false → (o = none → sft w h ht q c = c) ∧ ∀ d, o = some d → nb w h c d = some (sft w h ht q c)) ∧ ∀ d, o = some d → d < 4
def GrC (M : vM) (w h : Nat) : Prop := M 4 3 = nI (w * h) ∧ ∀ c d, c < w * h → d < 4 → M 7 (4 * c + d) = oI (-1) (nb w h c d)
def GoC (M : vM) (w h ng : Nat) (ht : Nat → Nat) (G : Nat → vQ) : Prop := GrC M w h ∧ (∀ c, c < w * h → M 5 c = nI (ht c)) ∧ M 12 10 = nI ng ∧ ∀ g, g < ng → M 13 g = bI (qI (G g)) ∧ M 15 g = nI (qT (G g)) ∧ (qI (G g) = true → M 14 g = nI (qS (G g)) ∧ M 16 g = nI (qF (G g)) ∧ M 17 g = nI (qN (G g))) ∧ (qI (G g) = false → M 16 g = nI 0)
def LdC (M : vM) (w h ng : Nat) (ht : Nat → Nat) (G : Nat → vQ) : Prop := ∀ g, g < ng → ∀ c, c < w * h → (∃ o, M 18 (36 * g + c) = oI (-1) o ∧ DsC w h ht (G g) c o) ∧ ∃ o, M 19 (36 * g + c) = oI (-1) o ∧ CrC w h ht (G g) c o
set_option maxRecDepth 100000 in
set_option maxHeartbeats 4000000 in
theorem k_isCovered {E : vE} {l : Launch} {Q : Option Value → vS → vM → Prop} {L : Nat} {M : vM} {g c : Nat} (hg : g < 6) (hc : c < 36) {o : Option Nat} (ho : ∀ x, o = some x → x < 2 ^ 31) (hm : M 18 (36 * g + c) = oI (-1) o) (hQ : Q (some (.int (bI o.isSome))) (S0 L) M) : PM E l mX0_isCovered 0 [.ref 12, .int (nI g), .int (nI c)] [] (S0 L) M 0 0 Q := by
  refine x_aload_n dX0_isCovered_0 rfl ?_
  refine g_R (s0_12 L) fkX0_28 rfl rfl rfl dX0_isCovered_1 ?_
  refine x_bipush dX0_isCovered_4 bipush_36 ?_
  refine x_iload_n dX0_isCovered_6 rfl ?_
  refine n_imul dX0_isCovered_7 ?_
  refine x_iload_n dX0_isCovered_8 rfl ?_
  refine n_iadd dX0_isCovered_9 ?_
  refine n_iald (s0_18 L) (by omega) rfl dX0_isCovered_10 ?_
  refine x_as hm ?_
  refine x_if_lt 18 dX0_isCovered_11 rfl (fun z1 => ?_) (fun z1 => ?_)
  · refine x_iconst dX0_isCovered_18 iconst_0 ?_
    refine x_iret dX0_isCovered_19 rfl (by first | exact bI_nar _ | exact n1_nar | exact n0_nar) ?_
    rw [(oI_lt ho).mp z1] at hQ; exact hQ
  · refine x_iconst dX0_isCovered_14 iconst_1 ?_
    refine x_goto 19 dX0_isCovered_15 rfl ?_
    refine x_iret dX0_isCovered_19 rfl (by first | exact bI_nar _ | exact n1_nar | exact n0_nar) ?_
    rw [isSome_iff.mpr (fun z => z1 ((oI_lt ho).mpr z))] at hQ; exact hQ
set_option maxRecDepth 100000 in
set_option maxHeartbeats 4000000 in
theorem k_distAt {E : vE} {l : Launch} {Q : Option Value → vS → vM → Prop} {L : Nat} {M : vM} {g c : Nat} (hg : g < 6) (hc : c < 36) (hQ : Q (some (.int (M 18 (36 * g + c)))) (S0 L) M) : PM E l mX0_distAt 0 [.ref 12, .int (nI g), .int (nI c)] [] (S0 L) M 0 0 Q := by
  refine x_aload_n dX0_distAt_0 rfl ?_
  refine g_R (s0_12 L) fkX0_28 rfl rfl rfl dX0_distAt_1 ?_
  refine x_bipush dX0_distAt_4 bipush_36 ?_
  refine x_iload_n dX0_distAt_6 rfl ?_
  refine n_imul dX0_distAt_7 ?_
  refine x_iload_n dX0_distAt_8 rfl ?_
  refine n_iadd dX0_distAt_9 ?_
  refine n_iald (s0_18 L) (by omega) rfl dX0_distAt_10 ?_
  refine x_iret dX0_distAt_11 rfl rfl ?_
  exact hQ
set_option maxRecDepth 100000 in
set_option maxHeartbeats 4000000 in
theorem k_courseAt {E : vE} {l : Launch} {Q : Option Value → vS → vM → Prop} {L : Nat} {M : vM} {g c : Nat} (hg : g < 6) (hc : c < 36) (hQ : Q (some (.int (M 19 (36 * g + c)))) (S0 L) M) : PM E l mX0_courseAt 0 [.ref 12, .int (nI g), .int (nI c)] [] (S0 L) M 0 0 Q := by
  refine x_aload_n dX0_courseAt_0 rfl ?_
  refine g_R (s0_12 L) fkX0_31 rfl rfl rfl dX0_courseAt_1 ?_
  refine x_bipush dX0_courseAt_4 bipush_36 ?_
  refine x_iload_n dX0_courseAt_6 rfl ?_
  refine n_imul dX0_courseAt_7 ?_
  refine x_iload_n dX0_courseAt_8 rfl ?_
  refine n_iadd dX0_courseAt_9 ?_
  refine n_iald (s0_19 L) (by omega) rfl dX0_courseAt_10 ?_
  refine x_iret dX0_courseAt_11 rfl rfl ?_
  exact hQ
set_option maxRecDepth 100000 in
set_option maxHeartbeats 4000000 in
theorem k_isIced {E : vE} {l : Launch} {Q : Option Value → vS → vM → Prop} {L : Nat} {M : vM} {w h ng : Nat} {ht : Nat → Nat} {G : Nat → vQ} (V : GoV w h ng ht G) (K : GoC M w h ng ht G) (D : LdC M w h ng ht G) {g c : Nat} (hg : g < ng) (hc : c < w * h) (hQ : Q (some (.int (bI (icP w h ht (G g) c)))) (S0 L) M) : PM E l mX0_isIced 0 [.ref 12, .int (nI g), .int (nI c)] [] (S0 L) M 0 0 Q := by
  have H := V.1
  have e4 := H.le
  have hng := V.2.2.1
  obtain ⟨⟨od, hod, hd1, hd2, hd3⟩, oc, hoc, hc1, hc2, hc3⟩ := D g hg c hc
  have km := K.2.2.2 g hg
  refine x_aload_n dX0_isIced_0 rfl ?_
  refine g_R (s0_12 L) fkX0_9 rfl rfl rfl dX0_isIced_1 ?_
  refine x_iload_n dX0_isIced_4 rfl ?_
  refine n_bald (s0_13 L) (by omega) rfl dX0_isIced_5 ?_
  refine x_as km.1 ?_
  refine b_if_eq 22 dX0_isIced_6 rfl (fun z1 => ?_) (fun z1 => ?_)
  · refine x_iconst dX0_isIced_22 iconst_0 ?_
    refine x_iret dX0_isIced_23 rfl (by first | exact bI_nar _ | exact n1_nar | exact n0_nar) ?_
    first | (simp only [icP, z1, Bool.false_and] at hQ; exact hQ) | (simp only [icP, z1, z2, Bool.true_and] at hQ; exact hQ)
  · refine x_aload_n dX0_isIced_9 rfl ?_
    refine x_iload_n dX0_isIced_10 rfl ?_
    refine x_iload_n dX0_isIced_11 rfl ?_
    refine cV2 (mj := mX0_isCovered) lkX0_78 okX0_isCovered imX0_isCovered seX0_isCovered (s0_12 L) rfl rfl rfl rfl rfl dX0_isIced_12 rfl (k_isCovered (by omega) (by omega) (lt31 (n := 36) (by omega) hd3) hod ?_)
    rw [hd1]
    refine b_if_eq 22 dX0_isIced_15 rfl (fun z2 => ?_) (fun z2 => ?_)
    · refine x_iconst dX0_isIced_22 iconst_0 ?_
      refine x_iret dX0_isIced_23 rfl (by first | exact bI_nar _ | exact n1_nar | exact n0_nar) ?_
      first | (simp only [icP, z1, Bool.false_and] at hQ; exact hQ) | (simp only [icP, z1, z2, Bool.true_and] at hQ; exact hQ)
    · refine x_iconst dX0_isIced_18 iconst_1 ?_
      refine x_goto 23 dX0_isIced_19 rfl ?_
      refine x_iret dX0_isIced_23 rfl (by first | exact bI_nar _ | exact n1_nar | exact n0_nar) ?_
      first | (simp only [icP, z1, Bool.false_and] at hQ; exact hQ) | (simp only [icP, z1, z2, Bool.true_and] at hQ; exact hQ)
noncomputable def hpP (w h : Nat) (ht : Nat → Nat) (q : vQ) (c : Nat) : Bool := qI q && (cov w h ht q c).isSome && (flw w h ht q c).isNone
set_option maxRecDepth 100000 in
set_option maxHeartbeats 4000000 in
theorem k_isHeap {E : vE} {l : Launch} {Q : Option Value → vS → vM → Prop} {L : Nat} {M : vM} {w h ng : Nat} {ht : Nat → Nat} {G : Nat → vQ} (V : GoV w h ng ht G) (K : GoC M w h ng ht G) (D : LdC M w h ng ht G) {g c : Nat} (hg : g < ng) (hc : c < w * h) (hQ : Q (some (.int (bI (hpP w h ht (G g) c)))) (S0 L) M) : PM E l mX0_isHeap 0 [.ref 12, .int (nI g), .int (nI c)] [] (S0 L) M 0 0 Q := by
  have H := V.1
  have e4 := H.le
  have hng := V.2.2.1
  obtain ⟨⟨od, hod, hd1, hd2, hd3⟩, oc, hoc, hc1, hc2, hc3⟩ := D g hg c hc
  have km := K.2.2.2 g hg
  refine x_aload_n dX0_isHeap_0 rfl ?_
  refine g_R (s0_12 L) fkX0_9 rfl rfl rfl dX0_isHeap_1 ?_
  refine x_iload_n dX0_isHeap_4 rfl ?_
  refine n_bald (s0_13 L) (by omega) rfl dX0_isHeap_5 ?_
  refine x_as km.1 ?_
  refine b_if_eq 31 dX0_isHeap_6 rfl (fun z1 => ?_) (fun z1 => ?_)
  · refine x_iconst dX0_isHeap_31 iconst_0 ?_
    refine x_iret dX0_isHeap_32 rfl (by first | exact bI_nar _ | exact n1_nar | exact n0_nar) ?_
    simp only [hpP, z1, Bool.false_and] at hQ; exact hQ
  · refine x_aload_n dX0_isHeap_9 rfl ?_
    refine x_iload_n dX0_isHeap_10 rfl ?_
    refine x_iload_n dX0_isHeap_11 rfl ?_
    refine cV2 (mj := mX0_isCovered) lkX0_78 okX0_isCovered imX0_isCovered seX0_isCovered (s0_12 L) rfl rfl rfl rfl rfl dX0_isHeap_12 rfl (k_isCovered (by omega) (by omega) (lt31 (n := 36) (by omega) hd3) hod ?_)
    rw [hd1]
    refine b_if_eq 31 dX0_isHeap_15 rfl (fun z2 => ?_) (fun z2 => ?_)
    · refine x_iconst dX0_isHeap_31 iconst_0 ?_
      refine x_iret dX0_isHeap_32 rfl (by first | exact bI_nar _ | exact n1_nar | exact n0_nar) ?_
      simp only [hpP, z1, z2, Bool.true_and, Bool.false_and] at hQ; exact hQ
    · refine x_aload_n dX0_isHeap_18 rfl ?_
      refine x_iload_n dX0_isHeap_19 rfl ?_
      refine x_iload_n dX0_isHeap_20 rfl ?_
      refine cV2 (mj := mX0_courseAt) lkX0_91 okX0_courseAt imX0_courseAt seX0_courseAt (s0_12 L) rfl rfl rfl rfl rfl dX0_isHeap_21 rfl (k_courseAt (by omega) (by omega) ?_)
      rw [hoc, hc1 z1]
      refine x_if_ge 31 dX0_isHeap_24 rfl (fun z3 => ?_) (fun z3 => ?_)
      · refine x_iconst dX0_isHeap_31 iconst_0 ?_
        refine x_iret dX0_isHeap_32 rfl (by first | exact bI_nar _ | exact n1_nar | exact n0_nar) ?_
        rw [show hpP w h ht (G g) c = false from by unfold hpP; rw [z1, z2]; cases hx : flw w h ht (G g) c with | none => exact absurd hx ((oI_ge (lt31 (n := 4) (by omega) (fun x e => Nat.le_of_lt (flw_lt e)))).mp z3) | some x => rfl] at hQ
        exact hQ
      · refine x_iconst dX0_isHeap_27 iconst_1 ?_
        refine x_goto 32 dX0_isHeap_28 rfl ?_
        refine x_iret dX0_isHeap_32 rfl (by first | exact bI_nar _ | exact n1_nar | exact n0_nar) ?_
        rw [show hpP w h ht (G g) c = true from by unfold hpP; rw [z1, z2]; cases hx : flw w h ht (G g) c with | none => rfl | some x => exact absurd ((oI_ge (lt31 (n := 4) (by omega) (fun x e => Nat.le_of_lt (flw_lt e)))).mpr (by rw [hx]; intro z; cases z)) z3] at hQ
        exact hQ
set_option maxRecDepth 100000 in
set_option maxHeartbeats 4000000 in
theorem k_isFlowing {E : vE} {l : Launch} {Q : Option Value → vS → vM → Prop} {L : Nat} {M : vM} {w h ng : Nat} {ht : Nat → Nat} {G : Nat → vQ} (V : GoV w h ng ht G) (K : GoC M w h ng ht G) (D : LdC M w h ng ht G) {g c d : Nat} (hg : g < ng) (hc : c < w * h) (hd : d < 16) (hQ : Q (some (.int (bI (fP w h ht d (G g) c)))) (S0 L) M) : PM E l mX0_isFlowing 0 [.ref 12, .int (nI g), .int (nI c), .int (nI d)] [] (S0 L) M 0 0 Q := by
  have H := V.1
  have e4 := H.le
  have hng := V.2.2.1
  obtain ⟨⟨od, hod, hd1, hd2, hd3⟩, oc, hoc, hc1, hc2, hc3⟩ := D g hg c hc
  have km := K.2.2.2 g hg
  refine x_aload_n dX0_isFlowing_0 rfl ?_
  refine g_R (s0_12 L) fkX0_9 rfl rfl rfl dX0_isFlowing_1 ?_
  refine x_iload_n dX0_isFlowing_4 rfl ?_
  refine n_bald (s0_13 L) (by omega) rfl dX0_isFlowing_5 ?_
  refine x_as km.1 ?_
  refine b_if_eq 23 dX0_isFlowing_6 rfl (fun z1 => ?_) (fun z1 => ?_)
  · refine x_iconst dX0_isFlowing_23 iconst_0 ?_
    refine x_iret dX0_isFlowing_24 rfl (by first | exact bI_nar _ | exact n1_nar | exact n0_nar) ?_
    simp only [fP, z1, Bool.false_and] at hQ; exact hQ
  · refine x_aload_n dX0_isFlowing_9 rfl ?_
    refine x_iload_n dX0_isFlowing_10 rfl ?_
    refine x_iload_n dX0_isFlowing_11 rfl ?_
    refine cV2 (mj := mX0_courseAt) lkX0_91 okX0_courseAt imX0_courseAt seX0_courseAt (s0_12 L) rfl rfl rfl rfl rfl dX0_isFlowing_12 rfl (k_courseAt (by omega) (by omega) ?_)
    rw [hoc, hc1 z1]
    refine x_iload_n dX0_isFlowing_15 rfl ?_
    refine x_icmp_ne 23 dX0_isFlowing_16 rfl (fun z3 => ?_) (fun z3 => ?_)
    · refine x_iconst dX0_isFlowing_23 iconst_0 ?_
      refine x_iret dX0_isFlowing_24 rfl (by first | exact bI_nar _ | exact n1_nar | exact n0_nar) ?_
      simp only [fP, z1, decide_eq_false (fun z => z3 ((oI_eqM (lt31 (n := 4) (by omega) (fun x e => Nat.le_of_lt (flw_lt e))) (by omega)).mpr z)), Bool.true_and] at hQ; exact hQ
    · refine x_iconst dX0_isFlowing_19 iconst_1 ?_
      refine x_goto 24 dX0_isFlowing_20 rfl ?_
      refine x_iret dX0_isFlowing_24 rfl (by first | exact bI_nar _ | exact n1_nar | exact n0_nar) ?_
      simp only [fP, z1, decide_eq_true ((oI_eqM (lt31 (n := 4) (by omega) (fun x e => Nat.le_of_lt (flw_lt e))) (by omega)).mp z3), Bool.true_and] at hQ; exact hQ
set_option maxRecDepth 100000 in
set_option maxHeartbeats 4000000 in
theorem k_thickAt {E : vE} {l : Launch} {Q : Option Value → vS → vM → Prop} {L : Nat} {M : vM} {w h ng : Nat} {ht : Nat → Nat} {G : Nat → vQ} (V : GoV w h ng ht G) (K : GoC M w h ng ht G) (D : LdC M w h ng ht G) {g c x : Nat} (hg : g < ng) (hc : c < w * h) (hi : qI (G g) = true) (hx : cov w h ht (G g) c = some x) (hQ : Q (some (.int (nI (qT (G g) - qF (G g) * x - ht c)))) (S0 L) M) : PM E l mX0_thickAt 0 [.ref 12, .int (nI g), .int (nI c)] [] (S0 L) M 0 0 Q := by
  have H := V.1
  have e4 := H.le
  have hng := V.2.2.1
  obtain ⟨⟨od, hod, hd1, hd2, hd3⟩, oc, hoc, hc1, hc2, hc3⟩ := D g hg c hc
  have km := K.2.2.2 g hg
  have hab := cov_above hi hx
  refine x_aload_n dX0_thickAt_0 rfl ?_
  refine g_R (s0_12 L) fkX0_19 rfl rfl rfl dX0_thickAt_1 ?_
  refine x_iload_n dX0_thickAt_4 rfl ?_
  refine n_iald (s0_15 L) (by omega) rfl dX0_thickAt_5 ?_
  refine x_as km.2.1 ?_
  refine x_aload_n dX0_thickAt_6 rfl ?_
  refine g_R (s0_12 L) fkX0_22 rfl rfl rfl dX0_thickAt_7 ?_
  refine x_iload_n dX0_thickAt_10 rfl ?_
  refine n_iald (s0_16 L) (by omega) rfl dX0_thickAt_11 ?_
  refine x_as (km.2.2.1 hi).2.1 ?_
  refine x_aload_n dX0_thickAt_12 rfl ?_
  refine x_iload_n dX0_thickAt_13 rfl ?_
  refine x_iload_n dX0_thickAt_14 rfl ?_
  refine cV2 (mj := mX0_distAt) lkX0_71 okX0_distAt imX0_distAt seX0_distAt (s0_12 L) rfl rfl rfl rfl rfl dX0_thickAt_15 rfl (k_distAt (by omega) (by omega) ?_)
  rw [hod, hd2 hi, hx]
  refine n_imul dX0_thickAt_18 ?_
  refine n_isub dX0_thickAt_19 (by omega) ?_
  refine x_aload_n dX0_thickAt_20 rfl ?_
  refine g_R (s0_12 L) fkX0_37 rfl rfl rfl dX0_thickAt_21 ?_
  refine g_R (s0_4 L) fkX0_82 rfl rfl rfl dX0_thickAt_24 ?_
  refine x_iload_n dX0_thickAt_27 rfl ?_
  refine n_iald (s0_5 L) (by omega) rfl dX0_thickAt_28 ?_
  refine x_as (K.2.1 c hc) ?_
  refine n_isub dX0_thickAt_29 (by omega) ?_
  refine x_iret dX0_thickAt_30 rfl rfl ?_
  exact hQ
set_option maxRecDepth 100000 in
set_option maxHeartbeats 4000000 in
theorem k_countCovered {E : vE} {l : Launch} {Q : Option Value → vS → vM → Prop} {L : Nat} {M : vM} {w h ng : Nat} {ht : Nat → Nat} {G : Nat → vQ} (V : GoV w h ng ht G) (K : GoC M w h ng ht G) (D : LdC M w h ng ht G) {g : Nat} (hg : g < ng) (hQ : Q (some (.int (nI (ctt (fun c => (cov w h ht (G g) c).isSome) (w * h))))) (S0 L) M) : PM E l mX0_countCovered 0 [.ref 12, .int (nI g), .null, .null] [] (S0 L) M 0 0 Q := by
  have H := V.1
  have e4 := H.le
  have hng := V.2.2.1
  have l1 : PM E l mX0_countCovered 4 [.ref 12, .int (nI g), .int (nI (ctt (fun c => (cov w h ht (G g) c).isSome) 0)), .int (nI 0)] [] (S0 L) M 0 0 Q := by
    refine lp_up (P := fun i => PM E l mX0_countCovered 4 [.ref 12, .int (nI g), .int (nI (ctt (fun c => (cov w h ht (G g) c).isSome) i)), .int (nI i)] [] (S0 L) M 0 0 Q) (w * h) ?_ ?_ 0 (by omega)
    · skip
      refine x_iload_n dX0_countCovered_4 rfl ?_
      refine x_aload_n dX0_countCovered_5 rfl ?_
      refine g_R (s0_12 L) fkX0_37 rfl rfl rfl dX0_countCovered_6 ?_
      refine g_I (s0_4 L) fkX0_57 rfl rfl dX0_countCovered_9 ?_
      refine x_as K.1.1 ?_
      refine n_icmp_ge 33 dX0_countCovered_12 rfl (by omega) (by omega) (fun h1 => ?_) (fun h1 => by omega)
      refine x_iload_n dX0_countCovered_33 rfl ?_
      refine x_iret dX0_countCovered_34 rfl rfl ?_
      exact hQ
    · intro i hi ih
      refine x_iload_n dX0_countCovered_4 rfl ?_
      refine x_aload_n dX0_countCovered_5 rfl ?_
      refine g_R (s0_12 L) fkX0_37 rfl rfl rfl dX0_countCovered_6 ?_
      refine g_I (s0_4 L) fkX0_57 rfl rfl dX0_countCovered_9 ?_
      refine x_as K.1.1 ?_
      refine n_icmp_ge 33 dX0_countCovered_12 rfl (by omega) (by omega) (fun h1 => by omega) (fun h1 => ?_)
      obtain ⟨⟨od, hod, hd1, hd2, hd3⟩, -⟩ := D g hg i hi
      refine x_iload_n dX0_countCovered_15 rfl ?_
      refine x_aload_n dX0_countCovered_16 rfl ?_
      refine x_iload_n dX0_countCovered_17 rfl ?_
      refine x_iload_n dX0_countCovered_18 rfl ?_
      refine cV2 (mj := mX0_isCovered) lkX0_78 okX0_isCovered imX0_isCovered seX0_isCovered (s0_12 L) rfl rfl rfl rfl rfl dX0_countCovered_19 rfl (k_isCovered (by omega) (by omega) (lt31 (n := 36) (by omega) hd3) hod ?_)
      rw [hd1]
      refine cS1 (mj := mX8_bit) lkX0_94 okX8_bit stX8_bit rfl rfl rfl rfl dX0_countCovered_22 rfl (c_bit _ ?_)
      refine n_iadd dX0_countCovered_25 ?_
      refine x_istore_n dX0_countCovered_26 (by decide) rfl ?_
      refine n_inc dX0_countCovered_27 rfl rfl ?_
      refine x_goto 4 dX0_countCovered_30 rfl ?_
      exact ih
  refine x_iconst dX0_countCovered_0 iconst_0 ?_
  refine x_istore_n dX0_countCovered_1 (by decide) rfl ?_
  refine x_iconst dX0_countCovered_2 iconst_0 ?_
  refine x_istore_n dX0_countCovered_3 (by decide) rfl ?_
  exact l1
set_option maxRecDepth 100000 in
set_option maxHeartbeats 4000000 in
theorem k_carry {E : vE} {l : Launch} {Q : Option Value → vS → vM → Prop} {L : Nat} {M : vM} {w h ng : Nat} {ht : Nat → Nat} {G : Nat → vQ} (V : GoV w h ng ht G) (K : GoC M w h ng ht G) (D : LdC M w h ng ht G) {g c wt : Nat} (hg : g < ng) (hc : c < w * h) (hw1 : 1 ≤ wt) (hw9 : wt ≤ 9) (hQ : Q (some (.int (nI (brb w h ht (G g) c wt)))) (S0 L) M) : PM E l mX0_carry 0 [.ref 12, .int (nI g), .int (nI c), .int (nI wt), .null, .null, .null, .null] [] (S0 L) M 0 0 Q := by
  have H := V.1
  have e4 := H.le
  have hng := V.2.2.1
  have km := K.2.2.2 g hg
  have hv := V.2.2.2 g hg
  have lic : qI (G g) = true → PM E l mX0_carry 46 [.ref 12, .int (nI g), .int (nI c), .int (nI wt), .int (nI (qN (G g) / wt)), .int (nI (itr (hop w h ht (G g)) 0 c)), .int (nI 0), .null] [] (S0 L) M 0 0 Q := by
    intro hi
    have hsp2 := (hv.2 hi).2.2
    have hsp : qN (G g) / wt ≤ 20 := Nat.le_trans (Nat.div_le_self _ _) hsp2
    refine lp_up (P := fun i => PM E l mX0_carry 46 [.ref 12, .int (nI g), .int (nI c), .int (nI wt), .int (nI (qN (G g) / wt)), .int (nI (itr (hop w h ht (G g)) i c)), .int (nI i), .null] [] (S0 L) M 0 0 Q) (qN (G g) / wt) ?_ ?_ 0 (Nat.zero_le _)
    · skip
      refine x_iload dX0_carry_46 rfl ?_
      refine x_iload dX0_carry_48 rfl ?_
      refine n_icmp_ge 98 dX0_carry_50 rfl (by omega) (by omega) (fun h1 => ?_) (fun h1 => by omega)
      refine x_iload dX0_carry_98 rfl ?_
      refine x_iret dX0_carry_100 rfl rfl ?_
      simp only [brb, hi, if_true] at hQ
      exact hQ
    · intro i hlt ih
      refine x_iload dX0_carry_46 rfl ?_
      refine x_iload dX0_carry_48 rfl ?_
      refine n_icmp_ge 98 dX0_carry_50 rfl (by omega) (by omega) (fun h1 => by omega) (fun h1 => ?_)
      have k5 := itr_hop_lt (ht := ht) (q := G g) H hc i
      obtain ⟨-, oc, hoc, hc1, hc2, hc3⟩ := D g hg _ k5
      refine x_aload_n dX0_carry_53 rfl ?_
      refine g_R (s0_12 L) fkX0_31 rfl rfl rfl dX0_carry_54 ?_
      refine x_bipush dX0_carry_57 bipush_36 ?_
      refine x_iload_n dX0_carry_59 rfl ?_
      refine n_imul dX0_carry_60 ?_
      refine x_iload dX0_carry_61 rfl ?_
      refine n_iadd dX0_carry_63 ?_
      refine n_iald (s0_19 L) (by omega) rfl dX0_carry_64 ?_
      refine x_as (hoc.trans (by rw [hc1 hi])) ?_
      rcases hf : flw w h ht (G g) (itr (hop w h ht (G g)) i c) with _ | d
      · rw [oI_none]
        refine x_istore dX0_carry_65 (by decide) rfl ?_
        refine x_iload dX0_carry_67 rfl ?_
        refine x_if_ge 75 dX0_carry_69 rfl (fun z1 => by exact absurd z1 (by decide)) (fun z1 => ?_)
        refine x_iload dX0_carry_72 rfl ?_
        refine x_iret dX0_carry_74 rfl rfl ?_
        simp only [brb, hi, if_true] at hQ
        rw [show qN (G g) / wt = i + (qN (G g) / wt - i) from by omega, itr_hop_stay hf] at hQ
        exact hQ
      · rw [oI_some]
        have hd4 := flw_lt hf
        obtain ⟨o, ho⟩ := flw_nb hf
        refine x_istore dX0_carry_65 (by decide) rfl ?_
        refine x_iload dX0_carry_67 rfl ?_
        refine x_if_ge 75 dX0_carry_69 rfl (fun z1 => ?_) (fun z1 => by exact absurd (nI_pos' (by omega)) z1)
        refine x_aload_n dX0_carry_75 rfl ?_
        refine g_R (s0_12 L) fkX0_37 rfl rfl rfl dX0_carry_76 ?_
        refine g_R (s0_4 L) fkX0_68 rfl rfl rfl dX0_carry_79 ?_
        refine x_iconst dX0_carry_82 iconst_4 ?_
        refine x_iload dX0_carry_83 rfl ?_
        refine n_imul dX0_carry_85 ?_
        refine x_iload dX0_carry_86 rfl ?_
        refine n_iadd dX0_carry_88 ?_
        refine n_iald (s0_7 L) (by omega) rfl dX0_carry_89 ?_
        refine x_as ((K.1.2 _ d k5 hd4).trans (by rw [ho]; rfl : _ = nI o)) ?_
        refine x_istore dX0_carry_90 (by decide) rfl ?_
        refine n_inc dX0_carry_92 rfl rfl ?_
        refine x_goto 46 dX0_carry_95 rfl ?_
        refine x_mask [true, true, true, true, true, true, true, false] ?_
        have ih2 := ih
        rw [show itr (hop w h ht (G g)) (i + 1) c = o from hop_some hf ho] at ih2
        exact ih2
  have lf1 : qI (G g) = false → wt < 3 → PM E l mX0_carry 46 [.ref 12, .int (nI g), .int (nI c), .int (nI wt), .int (nI 1), .int (nI c), .int (nI 0), .null] [] (S0 L) M 0 0 Q := by
    intro hi hw3
    obtain ⟨-, oc, hoc, hc1, hc2, hc3⟩ := D g hg c hc
    refine x_iload dX0_carry_46 rfl ?_
    refine x_iload dX0_carry_48 rfl ?_
    refine n_icmp_ge 98 dX0_carry_50 rfl (by omega) (by omega) (fun h1 => by omega) (fun h1 => ?_)
    refine x_aload_n dX0_carry_53 rfl ?_
    refine g_R (s0_12 L) fkX0_31 rfl rfl rfl dX0_carry_54 ?_
    refine x_bipush dX0_carry_57 bipush_36 ?_
    refine x_iload_n dX0_carry_59 rfl ?_
    refine n_imul dX0_carry_60 ?_
    refine x_iload dX0_carry_61 rfl ?_
    refine n_iadd dX0_carry_63 ?_
    refine n_iald (s0_19 L) (by omega) rfl dX0_carry_64 ?_
    refine x_as hoc ?_
    rcases oc with _ | d
    · rw [oI_none]
      refine x_istore dX0_carry_65 (by decide) rfl ?_
      refine x_iload dX0_carry_67 rfl ?_
      refine x_if_ge 75 dX0_carry_69 rfl (fun z1 => by exact absurd z1 (by decide)) (fun z1 => ?_)
      refine x_iload dX0_carry_72 rfl ?_
      refine x_iret dX0_carry_74 rfl rfl ?_
      simp only [brb, hi, Bool.false_eq_true, if_false, if_pos hw3, (hc2 hi).1 rfl] at hQ
      exact hQ
    · rw [oI_some]
      have hd4 := hc3 d rfl
      have hn9 := (hc2 hi).2 d rfl
      refine x_istore dX0_carry_65 (by decide) rfl ?_
      refine x_iload dX0_carry_67 rfl ?_
      refine x_if_ge 75 dX0_carry_69 rfl (fun z1 => ?_) (fun z1 => by exact absurd (nI_pos' (by omega)) z1)
      refine x_aload_n dX0_carry_75 rfl ?_
      refine g_R (s0_12 L) fkX0_37 rfl rfl rfl dX0_carry_76 ?_
      refine g_R (s0_4 L) fkX0_68 rfl rfl rfl dX0_carry_79 ?_
      refine x_iconst dX0_carry_82 iconst_4 ?_
      refine x_iload dX0_carry_83 rfl ?_
      refine n_imul dX0_carry_85 ?_
      refine x_iload dX0_carry_86 rfl ?_
      refine n_iadd dX0_carry_88 ?_
      refine n_iald (s0_7 L) (by omega) rfl dX0_carry_89 ?_
      refine x_as ((K.1.2 _ d hc hd4).trans (by rw [hn9]; rfl : _ = nI (sft w h ht (G g) c))) ?_
      refine x_istore dX0_carry_90 (by decide) rfl ?_
      refine n_inc dX0_carry_92 rfl rfl ?_
      refine x_goto 46 dX0_carry_95 rfl ?_
      refine x_iload dX0_carry_46 rfl ?_
      refine x_iload dX0_carry_48 rfl ?_
      refine n_icmp_ge 98 dX0_carry_50 rfl (by omega) (by omega) (fun z => ?_) (fun z => by omega)
      refine x_iload dX0_carry_98 rfl ?_
      refine x_iret dX0_carry_100 rfl rfl ?_
      simp only [brb, hi, Bool.false_eq_true, if_false, if_pos hw3] at hQ
      exact hQ
  have lf0 : qI (G g) = false → ¬ wt < 3 → PM E l mX0_carry 46 [.ref 12, .int (nI g), .int (nI c), .int (nI wt), .int (nI 0), .int (nI c), .int (nI 0), .null] [] (S0 L) M 0 0 Q := by
    intro hi hw3
    refine x_iload dX0_carry_46 rfl ?_
    refine x_iload dX0_carry_48 rfl ?_
    refine n_icmp_ge 98 dX0_carry_50 rfl (by omega) (by omega) (fun h1 => ?_) (fun h1 => by omega)
    refine x_iload dX0_carry_98 rfl ?_
    refine x_iret dX0_carry_100 rfl rfl ?_
    simp only [brb, hi, Bool.false_eq_true, if_false, if_neg hw3] at hQ
    exact hQ
  refine x_iload_n dX0_carry_0 rfl ?_
  refine x_iconst dX0_carry_1 iconst_2 ?_
  refine n_icmp_gt 9 dX0_carry_2 rfl (by omega) (by omega) (fun z0 => ?_) (fun z0 => ?_)
  · refine x_iconst dX0_carry_9 iconst_0 ?_
    refine x_istore dX0_carry_10 (by decide) rfl ?_
    refine x_aload_n dX0_carry_12 rfl ?_
    refine g_R (s0_12 L) fkX0_9 rfl rfl rfl dX0_carry_13 ?_
    refine x_iload_n dX0_carry_16 rfl ?_
    refine n_bald (s0_13 L) (by omega) rfl dX0_carry_17 ?_
    refine x_as km.1 ?_
    refine b_if_eq 40 dX0_carry_18 rfl (fun z2 => ?_) (fun z2 => ?_)
    · refine x_iload_n dX0_carry_40 rfl ?_
      refine x_istore dX0_carry_41 (by decide) rfl ?_
      refine x_iconst dX0_carry_43 iconst_0 ?_
      refine x_istore dX0_carry_44 (by decide) rfl ?_
      exact lf0 z2 (by omega)
    · refine x_iload_n dX0_carry_21 rfl ?_
      refine x_iconst dX0_carry_22 iconst_1 ?_
      refine n_icmp_ge 30 dX0_carry_23 rfl (by omega) (by omega) (fun h3 => ?_) (fun h3 => by omega)
      refine x_aload_n dX0_carry_30 rfl ?_
      refine g_R (s0_12 L) fkX0_25 rfl rfl rfl dX0_carry_31 ?_
      refine x_iload_n dX0_carry_34 rfl ?_
      refine n_iald (s0_17 L) (by omega) rfl dX0_carry_35 ?_
      refine x_as (km.2.2.1 z2).2.2 ?_
      refine x_iload_n dX0_carry_36 rfl ?_
      refine n_idiv dX0_carry_37 (by have := (hv.2 z2).2.2; omega) (by omega) (by omega) ?_
      refine x_istore dX0_carry_38 (by decide) rfl ?_
      refine x_iload_n dX0_carry_40 rfl ?_
      refine x_istore dX0_carry_41 (by decide) rfl ?_
      refine x_iconst dX0_carry_43 iconst_0 ?_
      refine x_istore dX0_carry_44 (by decide) rfl ?_
      exact lic z2
  · refine x_iconst dX0_carry_5 iconst_1 ?_
    refine x_goto 10 dX0_carry_6 rfl ?_
    refine x_istore dX0_carry_10 (by decide) rfl ?_
    refine x_aload_n dX0_carry_12 rfl ?_
    refine g_R (s0_12 L) fkX0_9 rfl rfl rfl dX0_carry_13 ?_
    refine x_iload_n dX0_carry_16 rfl ?_
    refine n_bald (s0_13 L) (by omega) rfl dX0_carry_17 ?_
    refine x_as km.1 ?_
    refine b_if_eq 40 dX0_carry_18 rfl (fun z2 => ?_) (fun z2 => ?_)
    · refine x_iload_n dX0_carry_40 rfl ?_
      refine x_istore dX0_carry_41 (by decide) rfl ?_
      refine x_iconst dX0_carry_43 iconst_0 ?_
      refine x_istore dX0_carry_44 (by decide) rfl ?_
      exact lf1 z2 (by omega)
    · refine x_iload_n dX0_carry_21 rfl ?_
      refine x_iconst dX0_carry_22 iconst_1 ?_
      refine n_icmp_ge 30 dX0_carry_23 rfl (by omega) (by omega) (fun h5 => ?_) (fun h5 => by omega)
      refine x_aload_n dX0_carry_30 rfl ?_
      refine g_R (s0_12 L) fkX0_25 rfl rfl rfl dX0_carry_31 ?_
      refine x_iload_n dX0_carry_34 rfl ?_
      refine n_iald (s0_17 L) (by omega) rfl dX0_carry_35 ?_
      refine x_as (km.2.2.1 z2).2.2 ?_
      refine x_iload_n dX0_carry_36 rfl ?_
      refine n_idiv dX0_carry_37 (by have := (hv.2 z2).2.2; omega) (by omega) (by omega) ?_
      refine x_istore dX0_carry_38 (by decide) rfl ?_
      refine x_iload_n dX0_carry_40 rfl ?_
      refine x_istore dX0_carry_41 (by decide) rfl ?_
      refine x_iconst dX0_carry_43 iconst_0 ?_
      refine x_istore dX0_carry_44 (by decide) rfl ?_
      exact lic z2
set_option maxRecDepth 100000 in
set_option maxHeartbeats 4000000 in
theorem k_carryAlong {E : vE} {l : Launch} {Q : Option Value → vS → vM → Prop} {L : Nat} {M : vM} {w h ng : Nat} {ht : Nat → Nat} {G : Nat → vQ} (V : GoV w h ng ht G) (K : GoC M w h ng ht G) (D : LdC M w h ng ht G) {rw_ gw m : Nat} {r : Nat → Nat} (hRs : (S0 L)[rw_]? = some (3, 2, [gw + 1])) (hRg : (S0 L)[gw]? = some (100, 6, [])) (RV : RwV ng m r) (RM : M rw_ 1 = nI m) (RE : ∀ k, k < m → M gw k = nI (r k)) {c wt : Nat} (hc : c < w * h) (hw1 : 1 ≤ wt) (hw9 : wt ≤ 9) (hQ : Q (some (.int (nI (endS w h ht G r wt m c)))) (S0 L) M) : PM E l mX0_carryAlong 0 [.ref 12, .ref rw_, .int (nI c), .int (nI wt), .null, .null] [] (S0 L) M 0 0 Q := by
  have H := V.1
  have e4 := H.le
  have hng := V.2.2.1
  have hm6 := RV.1
  have l1 : PM E l mX0_carryAlong 6 [.ref 12, .ref rw_, .int (nI c), .int (nI wt), .int (nI (endS w h ht G r wt 0 c)), .int (nI 0)] [] (S0 L) M 0 0 Q := by
    refine lp_up (P := fun i => PM E l mX0_carryAlong 6 [.ref 12, .ref rw_, .int (nI c), .int (nI wt), .int (nI (endS w h ht G r wt i c)), .int (nI i)] [] (S0 L) M 0 0 Q) m ?_ ?_ 0 (Nat.zero_le _)
    · skip
      refine x_iload dX0_carryAlong_6 rfl ?_
      refine x_aload_n dX0_carryAlong_8 rfl ?_
      refine g_I hRs fkX0_98 rfl rfl dX0_carryAlong_9 ?_
      refine x_as RM ?_
      refine n_icmp_ge 37 dX0_carryAlong_12 rfl (by omega) (by omega) (fun h1 => ?_) (fun h1 => by omega)
      refine x_iload dX0_carryAlong_37 rfl ?_
      refine x_iret dX0_carryAlong_39 rfl rfl ?_
      exact hQ
    · intro i hi ih
      refine x_iload dX0_carryAlong_6 rfl ?_
      refine x_aload_n dX0_carryAlong_8 rfl ?_
      refine g_I hRs fkX0_98 rfl rfl dX0_carryAlong_9 ?_
      refine x_as RM ?_
      refine n_icmp_ge 37 dX0_carryAlong_12 rfl (by omega) (by omega) (fun h1 => by omega) (fun h1 => ?_)
      refine x_aload_n dX0_carryAlong_15 rfl ?_
      refine x_aload_n dX0_carryAlong_16 rfl ?_
      refine g_R hRs fkX0_101 rfl rfl rfl dX0_carryAlong_17 ?_
      refine x_iload dX0_carryAlong_20 rfl ?_
      refine n_iald hRg (by omega) rfl dX0_carryAlong_22 ?_
      refine x_as (RE i hi) ?_
      refine x_iload dX0_carryAlong_23 rfl ?_
      refine x_iload_n dX0_carryAlong_25 rfl ?_
      refine cV3 (mj := mX0_carry) lkX0_104 okX0_carry imX0_carry seX0_carry (s0_12 L) rfl rfl rfl rfl rfl dX0_carryAlong_26 rfl (k_carry V K D (RV.2 i hi) (endS_lt H hc i) hw1 hw9 ?_)
      refine x_istore dX0_carryAlong_29 (by decide) rfl ?_
      refine n_inc dX0_carryAlong_31 rfl rfl ?_
      refine x_goto 6 dX0_carryAlong_34 rfl ?_
      exact ih
  refine x_iload_n dX0_carryAlong_0 rfl ?_
  refine x_istore dX0_carryAlong_1 (by decide) rfl ?_
  refine x_iconst dX0_carryAlong_3 iconst_0 ?_
  refine x_istore dX0_carryAlong_4 (by decide) rfl ?_
  exact l1

theorem bitI (b : Bool) : nI (if b then 1 else 0) = bI b := by cases b <;> rfl
theorem RoC.set {M M1 : vM} {Rw : Nat → Nat × (Nat → Nat)} {s : Nat} {q : Nat × (Nat → Nat)} (k : RoC M Rw) (hf : Fr [21 + 2 * s, 22 + 2 * s] M M1) (h1 : M1 (21 + 2 * s) 1 = nI q.1) (h2 : ∀ k, k < q.1 → M1 (22 + 2 * s) k = nI (q.2 k)) : RoC M1 (setRow Rw s q) := by
  intro i hi
  unfold setRow
  by_cases e : i = s
  · subst e; rw [if_pos rfl]; exact ⟨h1, h2⟩
  · rw [if_neg e, hf (21 + 2 * i) (by simp only [List.mem_cons, List.not_mem_nil, or_false]; omega), hf (22 + 2 * i) (by simp only [List.mem_cons, List.not_mem_nil, or_false]; omega)]
    exact k i hi
theorem RepC.row {M M1 : vM} {w h : Nat} {ht rk : Nat → Nat} {ns : Nat} {T : Nat → vT} {ng : Nat} {G : Nat → vQ} {Rw : Nat → Nat × (Nat → Nat)} {nz : Nat} {U : Nat → vU} {O : Nat → Nat} {s : Nat} {q : Nat × (Nat → Nat)} (k : RepC M w h ht rk ns T ng G Rw nz U O) (hs : s ≤ 2) (hf : Fr [21 + 2 * s, 22 + 2 * s] M M1) (h1 : M1 (21 + 2 * s) 1 = nI q.1) (h2 : ∀ k, k < q.1 → M1 (22 + 2 * s) k = nI (q.2 k)) : RepC M1 w h ht rk ns T ng G (setRow Rw s q) nz U O := by
  obtain ⟨⟨a0, a1, a2⟩, a3, a4, a5, a6, a7⟩ := k
  have E : ∀ z, z < 21 ∨ 26 < z → M1 z = M z := fun z hz => hf z (by simp only [List.mem_cons, List.not_mem_nil, or_false]; omega)
  exact ⟨⟨a0.kept (E 0 (by decide)) (E 1 (by decide)), a1.kept (fun q hq => E q (by revert q; decide)) (congrFun (E 12 (by decide)) 10), a2.kept (E 18 (by decide)) (E 19 (by decide))⟩, a3.kept (fun q hq => E q (by revert q; decide)), a4.kept (fun q hq => E q (by revert q; decide)), a5.set hf h1 h2, a6.kept (fun q hq => E q (by revert q; decide)), a7.kept (fun q hq => E q (by revert q; decide))⟩
theorem hi_row {M M1 : vM} {s : Nat} (hs : s ≤ 2) (hf : Fr [21 + 2 * s, 22 + 2 * s] M M1) : ∀ q, q < 3 ∨ 42 ≤ q → M1 q = M q := fun q hq => hf q (by simp only [List.mem_cons, List.not_mem_nil, or_false]; omega)
set_option maxRecDepth 100000 in
set_option maxHeartbeats 4000000 in
theorem k_covers {E : vE} {l : Launch} {Q : Option Value → vS → vM → Prop} {L : Nat} {M : vM} {w h : Nat} {ht rk : Nat → Nat} {ns : Nat} {T : Nat → vT} {ng : Nat} {G : Nat → vQ} {Rw : Nat → Nat × (Nat → Nat)} {nz : Nat} {U : Nat → vU} {O : Nat → Nat} (VV : Val w h ht rk ns T ng G Rw nz U O) (RR : RepC M w h ht rk ns T ng G Rw nz U O) {x : Int32} (hN : ¬ INn ng x → Q (some (.int (-900001))) (S0 L) M) (hY : ∀ g : Nat, g < ng → x = nI g → Q (some (.int (nI (ctt (fun c => (cov w h ht (G g) c).isSome) (w * h))))) (S0 L) M) : PM E l mX8_covers 0 [.ref 3, .int x] [] (S0 L) M 0 0 Q := by
  have RR0 := RR
  obtain ⟨V, SVv, ZV, RV, OV⟩ := VV
  obtain ⟨⟨X0, K, D⟩, SC, ZC, RO, LC, SU⟩ := RR
  have H := V.1
  have e4 := H.le
  have e6 := H.pos
  have hng := V.2.2.1
  have hns := SVv.1
  have hnz := ZV.1
  refine x_aload_n dX8_covers_0 rfl ?_
  refine g_R (s0_3 L) fkX8_28 rfl rfl rfl dX8_covers_1 ?_
  refine x_iload_n dX8_covers_4 rfl ?_
  refine cV1 (mj := mX0_has) lkX8_131 okX0_has imX0_has seX0_has (s0_12 L) rfl rfl rfl rfl rfl dX8_covers_5 rfl (k_o_has (by omega) K.2.2.1 _ (fun b0 b0h => ?_))
  have k0 := in_two (x := 0) b0h
  refine b_if_eq 22 dX8_covers_8 rfl (fun z0 => ?_) (fun z0 => ?_)
  · refine x_ldc kcX8_104 dX8_covers_22 ?_
    refine x_iret dX8_covers_24 rfl rfl ?_
    exact hN (k0.2 z0)
  · obtain ⟨g, hg, rfl⟩ := k0.1 z0
    refine x_aload_n dX8_covers_11 rfl ?_
    refine g_R (s0_3 L) fkX8_28 rfl rfl rfl dX8_covers_12 ?_
    refine x_iload_n dX8_covers_15 rfl ?_
    refine cV1 (mj := mX0_countCovered) lkX8_132 okX0_countCovered imX0_countCovered seX0_countCovered (s0_12 L) rfl rfl rfl rfl rfl dX8_covers_16 rfl (k_countCovered V K D hg ?_)
    refine x_goto 24 dX8_covers_19 rfl ?_
    refine x_iret dX8_covers_24 rfl rfl ?_
    exact hY g hg rfl
set_option maxRecDepth 100000 in
set_option maxHeartbeats 4000000 in
theorem k_by {E : vE} {l : Launch} {Q : Option Value → vS → vM → Prop} {L : Nat} {M : vM} {w h : Nat} {ht rk : Nat → Nat} {ns : Nat} {T : Nat → vT} {ng : Nat} {G : Nat → vQ} {Rw : Nat → Nat × (Nat → Nat)} {nz : Nat} {U : Nat → vU} {O : Nat → Nat} (VV : Val w h ht rk ns T ng G Rw nz U O) (RR : RepC M w h ht rk ns T ng G Rw nz U O) {x y v : Int32} (hN : ¬ (INn ng x ∧ INn (w * h) y) → Q (some (.int (-900001))) (S0 L) M) (hO : ∀ g c : Nat, g < ng → c < w * h → x = nI g → y = nI c → ¬ INr 0 4 v → Q (some (.int (-900002))) (S0 L) M) (hY : ∀ g c : Nat, g < ng → c < w * h → x = nI g → y = nI c → ∀ k : Nat, k ≤ 4 → v = nI k → Q (some (.int (byA w h ht (G g) c k))) (S0 L) M) : PM E l mX8_by 0 [.ref 3, .int x, .int y, .int v] [] (S0 L) M 0 0 Q := by
  have RR0 := RR
  obtain ⟨V, SVv, ZV, RV, OV⟩ := VV
  obtain ⟨⟨X0, K, D⟩, SC, ZC, RO, LC, SU⟩ := RR
  have H := V.1
  have e4 := H.le
  have e6 := H.pos
  have hng := V.2.2.1
  have hns := SVv.1
  have hnz := ZV.1
  refine x_aload_n dX8_by_0 rfl ?_
  refine g_R (s0_3 L) fkX8_28 rfl rfl rfl dX8_by_1 ?_
  refine x_iload_n dX8_by_4 rfl ?_
  refine cV1 (mj := mX0_has) lkX8_131 okX0_has imX0_has seX0_has (s0_12 L) rfl rfl rfl rfl rfl dX8_by_5 rfl (k_o_has (by omega) K.2.2.1 _ (fun b0 b0h => ?_))
  have k0 := in_two (x := 0) b0h
  refine b_if_eq 22 dX8_by_8 rfl (fun z0 => ?_) (fun z0 => ?_)
  · refine x_ldc kcX8_104 dX8_by_22 ?_
    refine x_iret dX8_by_24 rfl rfl ?_
    exact hN (fun z => k0.2 z0 z.1)
  · refine x_aload_n dX8_by_11 rfl ?_
    refine g_R (s0_3 L) fkX8_10 rfl rfl rfl dX8_by_12 ?_
    refine x_iload_n dX8_by_15 rfl ?_
    refine cV1 (mj := mX1_has) lkX8_100 okX1_has imX1_has seX1_has (s0_4 L) rfl rfl rfl rfl rfl dX8_by_16 rfl (k_g_has (by omega) K.1.1 _ (fun b1 b1h => ?_))
    have k1 := in_two (x := 0) b1h
    refine b_if_ne 25 dX8_by_19 rfl (fun z1 => ?_) (fun z1 => ?_)
    · obtain ⟨g, hg, rfl⟩ := k0.1 z0
      obtain ⟨c, hc, rfl⟩ := k1.1 z1
      obtain ⟨⟨od, hod, hd1, hd2, hd3⟩, oc, hoc, hc1, hc2, hc3⟩ := D g hg c hc
      by_cases hv : INr 0 4 v
      · obtain ⟨kk, hk, rfl⟩ := hv
        rcases (show kk = 0 ∨ kk = 1 ∨ kk = 2 ∨ kk = 3 ∨ kk = 4 by omega) with rfl | rfl | rfl | rfl | rfl
        · refine x_iload_n dX8_by_25 rfl ?_
          refine x_tabIn 60 dX8_by_26 (by decide) (by decide) rfl rfl ?_
          refine x_aload_n dX8_by_60 rfl ?_
          refine g_R (s0_3 L) fkX8_28 rfl rfl rfl dX8_by_61 ?_
          refine x_iload_n dX8_by_64 rfl ?_
          refine x_iload_n dX8_by_65 rfl ?_
          refine cV2 (mj := mX0_isCovered) lkX8_135 okX0_isCovered imX0_isCovered seX0_isCovered (s0_12 L) rfl rfl rfl rfl rfl dX8_by_66 rfl (k_isCovered (by omega) (by omega) (lt31 (n := 36) (by omega) hd3) hod ?_)
          rw [hd1]
          refine cS1 (mj := mX8_bit) lkX8_139 okX8_bit stX8_bit rfl rfl rfl rfl dX8_by_69 rfl (c_bit _ ?_)
          refine x_as (bitI _) ?_
          refine x_iret dX8_by_72 rfl rfl ?_
          have h9 := hY g c hg hc rfl rfl 0 (by omega) rfl
          exact h9
        · refine x_iload_n dX8_by_25 rfl ?_
          refine x_tabIn 73 dX8_by_26 (by decide) (by decide) rfl rfl ?_
          refine x_aload_n dX8_by_73 rfl ?_
          refine g_R (s0_3 L) fkX8_28 rfl rfl rfl dX8_by_74 ?_
          refine x_iload_n dX8_by_77 rfl ?_
          refine x_iload_n dX8_by_78 rfl ?_
          refine cV2 (mj := mX0_isIced) lkX8_143 okX0_isIced imX0_isIced seX0_isIced (s0_12 L) rfl rfl rfl rfl rfl dX8_by_79 rfl (k_isIced V K D hg hc ?_)
          refine b_if_eq 97 dX8_by_82 rfl (fun y1 => ?_) (fun y1 => ?_)
          · refine x_ldc kcX8_150 dX8_by_97 ?_
            refine x_iret dX8_by_99 rfl rfl ?_
            have h9 := hY g c hg hc rfl rfl 1 (by omega) rfl
            have h8 : byA w h ht (G g) c 1 = oI (-900009) (if qI (G g) then cov w h ht (G g) c else none) := rfl
            rw [h8] at h9
            have hq : (if qI (G g) then cov w h ht (G g) c else none) = none ∧ thk w h ht (G g) c = none ∧ flw w h ht (G g) c = none := by
              unfold icP at y1
              cases hi : qI (G g) with
              | false => exact ⟨rfl, thk_no (Or.inl hi), by unfold flw; rw [hi]; rfl⟩
              | true =>
                rw [hi, Bool.true_and] at y1
                have y2 : cov w h ht (G g) c = none := none_of y1
                exact ⟨by rw [if_pos rfl]; exact y2, thk_no (Or.inr y1), flw_none y2⟩
            rw [hq.1] at h9
            exact h9
          · refine x_aload_n dX8_by_85 rfl ?_
            refine g_R (s0_3 L) fkX8_28 rfl rfl rfl dX8_by_86 ?_
            refine x_iload_n dX8_by_89 rfl ?_
            refine x_iload_n dX8_by_90 rfl ?_
            refine cV2 (mj := mX0_distAt) lkX8_146 okX0_distAt imX0_distAt seX0_distAt (s0_12 L) rfl rfl rfl rfl rfl dX8_by_91 rfl (k_distAt (by omega) (by omega) ?_)
            refine x_goto 99 dX8_by_94 rfl ?_
            refine x_iret dX8_by_99 rfl rfl ?_
            have h9 := hY g c hg hc rfl rfl 1 (by omega) rfl
            have h8 : byA w h ht (G g) c 1 = oI (-900009) (if qI (G g) then cov w h ht (G g) c else none) := rfl
            rw [h8] at h9
            unfold icP at y1
            rw [Bool.and_eq_true] at y1
            obtain ⟨x9, hx9⟩ := some_of y1.2
            rw [if_pos y1.1, hx9] at h9
            rw [hod, hd2 y1.1, hx9]
            exact h9
        · refine x_iload_n dX8_by_25 rfl ?_
          refine x_tabIn 100 dX8_by_26 (by decide) (by decide) rfl rfl ?_
          refine x_aload_n dX8_by_100 rfl ?_
          refine g_R (s0_3 L) fkX8_28 rfl rfl rfl dX8_by_101 ?_
          refine x_iload_n dX8_by_104 rfl ?_
          refine x_iload_n dX8_by_105 rfl ?_
          refine cV2 (mj := mX0_isIced) lkX8_143 okX0_isIced imX0_isIced seX0_isIced (s0_12 L) rfl rfl rfl rfl rfl dX8_by_106 rfl (k_isIced V K D hg hc ?_)
          refine b_if_eq 124 dX8_by_109 rfl (fun y1 => ?_) (fun y1 => ?_)
          · refine x_ldc kcX8_150 dX8_by_124 ?_
            refine x_iret dX8_by_126 rfl rfl ?_
            have h9 := hY g c hg hc rfl rfl 2 (by omega) rfl
            have h8 : byA w h ht (G g) c 2 = oI (-900009) (thk w h ht (G g) c) := rfl
            rw [h8] at h9
            have hq : (if qI (G g) then cov w h ht (G g) c else none) = none ∧ thk w h ht (G g) c = none ∧ flw w h ht (G g) c = none := by
              unfold icP at y1
              cases hi : qI (G g) with
              | false => exact ⟨rfl, thk_no (Or.inl hi), by unfold flw; rw [hi]; rfl⟩
              | true =>
                rw [hi, Bool.true_and] at y1
                have y2 : cov w h ht (G g) c = none := none_of y1
                exact ⟨by rw [if_pos rfl]; exact y2, thk_no (Or.inr y1), flw_none y2⟩
            rw [hq.2.1] at h9
            exact h9
          · refine x_aload_n dX8_by_112 rfl ?_
            refine g_R (s0_3 L) fkX8_28 rfl rfl rfl dX8_by_113 ?_
            refine x_iload_n dX8_by_116 rfl ?_
            refine x_iload_n dX8_by_117 rfl ?_
            unfold icP at y1
            rw [Bool.and_eq_true] at y1
            obtain ⟨x9, hx9⟩ := some_of y1.2
            refine cV2 (mj := mX0_thickAt) lkX8_151 okX0_thickAt imX0_thickAt seX0_thickAt (s0_12 L) rfl rfl rfl rfl rfl dX8_by_118 rfl (k_thickAt V K D hg hc y1.1 hx9 ?_)
            refine x_goto 126 dX8_by_121 rfl ?_
            refine x_iret dX8_by_126 rfl rfl ?_
            have h9 := hY g c hg hc rfl rfl 2 (by omega) rfl
            have h8 : byA w h ht (G g) c 2 = oI (-900009) (thk w h ht (G g) c) := rfl
            rw [h8] at h9
            rw [thk_yes y1.1 hx9] at h9
            exact h9
        · refine x_iload_n dX8_by_25 rfl ?_
          refine x_tabIn 127 dX8_by_26 (by decide) (by decide) rfl rfl ?_
          refine x_aload_n dX8_by_127 rfl ?_
          refine g_R (s0_3 L) fkX8_28 rfl rfl rfl dX8_by_128 ?_
          refine x_iload_n dX8_by_131 rfl ?_
          refine x_iload_n dX8_by_132 rfl ?_
          refine cV2 (mj := mX0_isIced) lkX8_143 okX0_isIced imX0_isIced seX0_isIced (s0_12 L) rfl rfl rfl rfl rfl dX8_by_133 rfl (k_isIced V K D hg hc ?_)
          refine b_if_eq 163 dX8_by_136 rfl (fun y1 => ?_) (fun y1 => ?_)
          · refine x_ldc kcX8_150 dX8_by_163 ?_
            refine x_iret dX8_by_165 rfl rfl ?_
            have h9 := hY g c hg hc rfl rfl 3 (by omega) rfl
            have h8 : byA w h ht (G g) c 3 = oI (-900009) (flw w h ht (G g) c) := rfl
            rw [h8] at h9
            have hq : (if qI (G g) then cov w h ht (G g) c else none) = none ∧ thk w h ht (G g) c = none ∧ flw w h ht (G g) c = none := by
              unfold icP at y1
              cases hi : qI (G g) with
              | false => exact ⟨rfl, thk_no (Or.inl hi), by unfold flw; rw [hi]; rfl⟩
              | true =>
                rw [hi, Bool.true_and] at y1
                have y2 : cov w h ht (G g) c = none := none_of y1
                exact ⟨by rw [if_pos rfl]; exact y2, thk_no (Or.inr y1), flw_none y2⟩
            rw [hq.2.2] at h9
            exact h9
          · unfold icP at y1
            rw [Bool.and_eq_true] at y1
            obtain ⟨x9, hx9⟩ := some_of y1.2
            refine x_aload_n dX8_by_139 rfl ?_
            refine g_R (s0_3 L) fkX8_28 rfl rfl rfl dX8_by_140 ?_
            refine x_iload_n dX8_by_143 rfl ?_
            refine x_iload_n dX8_by_144 rfl ?_
            refine cV2 (mj := mX0_courseAt) lkX8_154 okX0_courseAt imX0_courseAt seX0_courseAt (s0_12 L) rfl rfl rfl rfl rfl dX8_by_145 rfl (k_courseAt (by omega) (by omega) ?_)
            rw [hoc, hc1 y1.1]
            refine x_if_lt 163 dX8_by_148 rfl (fun y3 => ?_) (fun y3 => ?_)
            · refine x_ldc kcX8_150 dX8_by_163 ?_
              refine x_iret dX8_by_165 rfl rfl ?_
              have h9 := hY g c hg hc rfl rfl 3 (by omega) rfl
              have h8 : byA w h ht (G g) c 3 = oI (-900009) (flw w h ht (G g) c) := rfl
              rw [h8] at h9
              rw [(oI_lt (lt31 (n := 4) (by omega) (fun x e => Nat.le_of_lt (flw_lt e)))).mp y3] at h9
              exact h9
            · refine x_aload_n dX8_by_151 rfl ?_
              refine g_R (s0_3 L) fkX8_28 rfl rfl rfl dX8_by_152 ?_
              refine x_iload_n dX8_by_155 rfl ?_
              refine x_iload_n dX8_by_156 rfl ?_
              refine cV2 (mj := mX0_courseAt) lkX8_154 okX0_courseAt imX0_courseAt seX0_courseAt (s0_12 L) rfl rfl rfl rfl rfl dX8_by_157 rfl (k_courseAt (by omega) (by omega) ?_)
              rw [hoc, hc1 y1.1]
              refine x_goto 165 dX8_by_160 rfl ?_
              refine x_iret dX8_by_165 rfl rfl ?_
              have h9 := hY g c hg hc rfl rfl 3 (by omega) rfl
              have h8 : byA w h ht (G g) c 3 = oI (-900009) (flw w h ht (G g) c) := rfl
              rw [h8] at h9
              cases hx : flw w h ht (G g) c with
              | none => exact absurd ((oI_lt (lt31 (n := 4) (by omega) (fun x e => Nat.le_of_lt (flw_lt e)))).mpr hx) y3
              | some d => rw [hx] at h9; exact h9
        · refine x_iload_n dX8_by_25 rfl ?_
          refine x_tabIn 166 dX8_by_26 (by decide) (by decide) rfl rfl ?_
          refine x_aload_n dX8_by_166 rfl ?_
          refine g_R (s0_3 L) fkX8_28 rfl rfl rfl dX8_by_167 ?_
          refine x_iload_n dX8_by_170 rfl ?_
          refine x_iload_n dX8_by_171 rfl ?_
          refine cV2 (mj := mX0_isHeap) lkX8_157 okX0_isHeap imX0_isHeap seX0_isHeap (s0_12 L) rfl rfl rfl rfl rfl dX8_by_172 rfl (k_isHeap V K D hg hc ?_)
          refine cS1 (mj := mX8_bit) lkX8_139 okX8_bit stX8_bit rfl rfl rfl rfl dX8_by_175 rfl (c_bit _ ?_)
          refine x_as (bitI _) ?_
          refine x_iret dX8_by_178 rfl rfl ?_
          have h9 := hY g c hg hc rfl rfl 4 (by omega) rfl
          exact h9
      · refine x_iload_n dX8_by_25 rfl ?_
        refine x_tabOut 179 dX8_by_26 (tab_out (a := 0) (b := 4) (by omega) hv) rfl ?_
        refine x_ldc kcX8_83 dX8_by_179 ?_
        refine x_iret dX8_by_181 rfl rfl ?_
        exact hO g c hg hc rfl rfl hv
    · refine x_ldc kcX8_104 dX8_by_22 ?_
      refine x_iret dX8_by_24 rfl rfl ?_
      exact hN (fun z => k1.2 z1 z.2)
set_option maxRecDepth 100000 in
set_option maxHeartbeats 4000000 in
theorem k_brings {E : vE} {l : Launch} {Q : Option Value → vS → vM → Prop} {L : Nat} {M : vM} {w h : Nat} {ht rk : Nat → Nat} {ns : Nat} {T : Nat → vT} {ng : Nat} {G : Nat → vQ} {Rw : Nat → Nat × (Nat → Nat)} {nz : Nat} {U : Nat → vU} {O : Nat → Nat} (VV : Val w h ht rk ns T ng G Rw nz U O) (RR : RepC M w h ht rk ns T ng G Rw nz U O) {x y v : Int32} (hN : ¬ (INn ng x ∧ INn (w * h) y) → Q (some (.int (-900001))) (S0 L) M) (hO : INn ng x → INn (w * h) y → ¬ INr 1 9 v → Q (some (.int (-900002))) (S0 L) M) (hY : ∀ g c t : Nat, g < ng → c < w * h → (1 ≤ t ∧ t ≤ 9) → x = nI g → y = nI c → v = nI t → Q (some (.int (nI (brb w h ht (G g) c t)))) (S0 L) M) : PM E l mX8_brings 0 [.ref 3, .int x, .int y, .int v] [] (S0 L) M 0 0 Q := by
  have RR0 := RR
  obtain ⟨V, SVv, ZV, RV, OV⟩ := VV
  obtain ⟨⟨X0, K, D⟩, SC, ZC, RO, LC, SU⟩ := RR
  have H := V.1
  have e4 := H.le
  have e6 := H.pos
  have hng := V.2.2.1
  have hns := SVv.1
  have hnz := ZV.1
  refine x_aload_n dX8_brings_0 rfl ?_
  refine g_R (s0_3 L) fkX8_28 rfl rfl rfl dX8_brings_1 ?_
  refine x_iload_n dX8_brings_4 rfl ?_
  refine cV1 (mj := mX0_has) lkX8_131 okX0_has imX0_has seX0_has (s0_12 L) rfl rfl rfl rfl rfl dX8_brings_5 rfl (k_o_has (by omega) K.2.2.1 _ (fun b0 b0h => ?_))
  have k0 := in_two (x := 0) b0h
  refine b_if_eq 22 dX8_brings_8 rfl (fun z0 => ?_) (fun z0 => ?_)
  · refine x_ldc kcX8_104 dX8_brings_22 ?_
    refine x_iret dX8_brings_24 rfl rfl ?_
    exact hN (fun z => k0.2 z0 z.1)
  · refine x_aload_n dX8_brings_11 rfl ?_
    refine g_R (s0_3 L) fkX8_10 rfl rfl rfl dX8_brings_12 ?_
    refine x_iload_n dX8_brings_15 rfl ?_
    refine cV1 (mj := mX1_has) lkX8_100 okX1_has imX1_has seX1_has (s0_4 L) rfl rfl rfl rfl rfl dX8_brings_16 rfl (k_g_has (by omega) K.1.1 _ (fun b1 b1h => ?_))
    have k1 := in_two (x := 0) b1h
    refine b_if_ne 25 dX8_brings_19 rfl (fun z1 => ?_) (fun z1 => ?_)
    · refine x_iload_n dX8_brings_25 rfl ?_
      refine x_iconst dX8_brings_26 iconst_1 ?_
      refine x_bipush dX8_brings_27 bipush_9 ?_
      refine cS3 (mj := mX8_within) lkX8_79 okX8_within stX8_within rfl rfl rfl rfl dX8_brings_29 rfl (c_within _ _ _ (fun b2 b2h => ?_))
      have k2 := in_two (x := 0) (b2h.trans (in_rg (a := 1) (b := 9) (by omega) (by omega) _))
      refine b_if_eq 48 dX8_brings_32 rfl (fun z2 => ?_) (fun z2 => ?_)
      · refine x_ldc kcX8_83 dX8_brings_48 ?_
        refine x_iret dX8_brings_50 rfl rfl ?_
        exact hO (k0.1 z0) (k1.1 z1) (k2.2 z2)
      · obtain ⟨g, hg, rfl⟩ := k0.1 z0
        obtain ⟨c, hc, rfl⟩ := k1.1 z1
        obtain ⟨t, ht1, rfl⟩ := k2.1 z2
        refine x_aload_n dX8_brings_35 rfl ?_
        refine g_R (s0_3 L) fkX8_28 rfl rfl rfl dX8_brings_36 ?_
        refine x_iload_n dX8_brings_39 rfl ?_
        refine x_iload_n dX8_brings_40 rfl ?_
        refine x_iload_n dX8_brings_41 rfl ?_
        refine cV3 (mj := mX0_carry) lkX8_160 okX0_carry imX0_carry seX0_carry (s0_12 L) rfl rfl rfl rfl rfl dX8_brings_42 rfl (k_carry V K D hg hc ht1.1 ht1.2 ?_)
        refine x_goto 50 dX8_brings_45 rfl ?_
        refine x_iret dX8_brings_50 rfl rfl ?_
        exact hY g c t hg hc ht1 rfl rfl rfl
    · refine x_ldc kcX8_104 dX8_brings_22 ?_
      refine x_iret dX8_brings_24 rfl rfl ?_
      exact hN (fun z => k1.2 z1 z.2)
set_option maxRecDepth 100000 in
set_option maxHeartbeats 4000000 in
theorem k_then {E : vE} {l : Launch} {Q : Option Value → vS → vM → Prop} {L : Nat} {M : vM} {w h : Nat} {ht rk : Nat → Nat} {ns : Nat} {T : Nat → vT} {ng : Nat} {G : Nat → vQ} {Rw : Nat → Nat × (Nat → Nat)} {nz : Nat} {U : Nat → vU} {O : Nat → Nat} (VV : Val w h ht rk ns T ng G Rw nz U O) (RR : RepC M w h ht rk ns T ng G Rw nz U O) {x y : Int32} (hN : ¬ (INr 0 2 x ∧ INn ng y) → Q (some (.int (-900001))) (S0 L) M) (hS : ∀ s g : Nat, (0 ≤ s ∧ s ≤ 2) → g < ng → x = nI s → y = nI g → inRow (Rw s) g → Q (some (.int (-900003))) (S0 L) M) (hY : ∀ s g : Nat, (0 ≤ s ∧ s ≤ 2) → g < ng → x = nI s → y = nI g → ¬ inRow (Rw s) g → (Rw s).1 < ng → ∀ M1 : vM, (∀ q, q < 3 ∨ 42 ≤ q → M1 q = M q) → RepC M1 w h ht rk ns T ng G (setRow Rw s (addRow (Rw s) g)) nz U O → Q (some (.int (nI ((Rw s).1 + 1)))) (S0 L) M1) : PM E l mX8_then 0 [.ref 3, .int x, .int y, .null] [] (S0 L) M 0 0 Q := by
  have RR0 := RR
  obtain ⟨V, SVv, ZV, RV, OV⟩ := VV
  obtain ⟨⟨X0, K, D⟩, SC, ZC, RO, LC, SU⟩ := RR
  have H := V.1
  have e4 := H.le
  have e6 := H.pos
  have hng := V.2.2.1
  have hns := SVv.1
  have hnz := ZV.1
  refine x_iload_n dX8_then_0 rfl ?_
  refine cS1 (mj := mX8_isSlot) lkX8_163 okX8_isSlot stX8_isSlot rfl rfl rfl rfl dX8_then_1 rfl (k_isSlot _ (fun b0 b0h => ?_))
  have k0 := in_two (x := 0) b0h
  refine b_if_eq 18 dX8_then_4 rfl (fun z0 => ?_) (fun z0 => ?_)
  · refine x_ldc kcX8_104 dX8_then_18 ?_
    refine x_iret dX8_then_20 rfl rfl ?_
    exact hN (fun z => k0.2 z0 z.1)
  · refine x_aload_n dX8_then_7 rfl ?_
    refine g_R (s0_3 L) fkX8_28 rfl rfl rfl dX8_then_8 ?_
    refine x_iload_n dX8_then_11 rfl ?_
    refine cV1 (mj := mX0_has) lkX8_131 okX0_has imX0_has seX0_has (s0_12 L) rfl rfl rfl rfl rfl dX8_then_12 rfl (k_o_has (by omega) K.2.2.1 _ (fun b1 b1h => ?_))
    have k1 := in_two (x := 0) b1h
    refine b_if_ne 21 dX8_then_15 rfl (fun z1 => ?_) (fun z1 => ?_)
    · obtain ⟨s, hs, rfl⟩ := k0.1 z0
      obtain ⟨g, hg, rfl⟩ := k1.1 z1
      have hs2 : s ≤ 2 := hs.2
      have rv := RV s (by omega)
      have hl6 := rv.1.1
      have ro := RO s (by omega)
      have hRs := row_s (L := L) hs2
      have hRg := row_g (L := L) hs2
      refine x_aload_n dX8_then_21 rfl ?_
      refine x_iload_n dX8_then_22 rfl ?_
      refine cV1 (mj := mX8_rowOf) lkX8_166 okX8_rowOf imX8_rowOf seX8_rowOf (s0_3 L) rfl rfl rfl rfl rfl dX8_then_23 rfl (k_rowOf (by omega) ?_)
      refine x_astore_n dX8_then_26 (by decide) rfl ?_
      refine x_aload_n dX8_then_27 rfl ?_
      refine x_iload_n dX8_then_28 rfl ?_
      refine cV1 (mj := mX3_has) lkX8_170 okX3_has imX3_has seX3_has hRs rfl rfl rfl rfl rfl dX8_then_29 rfl (k_rowHas hRs hRg rv.1.1 ro.1 ro.2 (by omega) (fun k hk => by have := rv.1.2 k hk; omega) (fun b2 b2h => ?_))
      have k2 := in_two (x := 0) b2h
      refine b_if_eq 38 dX8_then_32 rfl (fun z2 => ?_) (fun z2 => ?_)
      · have hnr : ¬ inRow (Rw s) g := k2.2 z2
        have hroom := row_room rv.1.2 rv.2.2 hg hnr
        refine x_aload_n dX8_then_38 rfl ?_
        refine x_iload_n dX8_then_39 rfl ?_
        refine cV1 (mj := mX3_add) lkX8_172 okX3_add imX3_add seX3_add hRs rfl rfl rfl rfl rfl dX8_then_40 rfl (k_rowAdd (r := (Rw s).2) hRs hRg row_b (by omega) ro.1 ?_)
        refine x_aload_n dX8_then_43 rfl ?_
        refine g_I hRs fkX8_94 rfl rfl dX8_then_44 ?_
        refine x_as (show _ = nI ((Rw s).1 + 1) from by rw [sM_ne _ _ _ (by omega), sM_at, upd_at]) ?_
        refine x_iret dX8_then_47 rfl rfl ?_
        refine hY s g hs hg rfl rfl hnr hroom _ (hi_row hs2 ((Fr.rf.set _ (by simp)).set _ (by simp))) (RR0.row hs2 ((Fr.rf.set _ (by simp)).set _ (by simp)) ?_ (fun k hk => ?_))
        · rw [sM_ne _ _ _ (by omega), sM_at, upd_at]; rfl
        · rw [sM_at]
          show upd (sM M (21 + 2 * s) _ (22 + 2 * s)) (Rw s).1 (nI g) k = nI (if k = (Rw s).1 then g else (Rw s).2 k)
          by_cases e : k = (Rw s).1
          · rw [e, if_pos rfl, upd_at]
          · rw [if_neg e, upd_ne _ _ e, sM_ne _ _ _ (by omega)]; exact ro.2 k (by have : k < (Rw s).1 + 1 := hk; omega)
      · refine x_ldc kcX8_171 dX8_then_35 ?_
        refine x_iret dX8_then_37 rfl rfl ?_
        exact hS s g hs hg rfl rfl (k2.1 z2)
    · refine x_ldc kcX8_104 dX8_then_18 ?_
      refine x_iret dX8_then_20 rfl rfl ?_
      exact hN (fun z => k1.2 z1 z.2)
set_option maxRecDepth 100000 in
set_option maxHeartbeats 4000000 in
theorem k_clear {E : vE} {l : Launch} {Q : Option Value → vS → vM → Prop} {L : Nat} {M : vM} {w h : Nat} {ht rk : Nat → Nat} {ns : Nat} {T : Nat → vT} {ng : Nat} {G : Nat → vQ} {Rw : Nat → Nat × (Nat → Nat)} {nz : Nat} {U : Nat → vU} {O : Nat → Nat} (VV : Val w h ht rk ns T ng G Rw nz U O) (RR : RepC M w h ht rk ns T ng G Rw nz U O) {x : Int32} (hN : ¬ INr 0 2 x → Q (some (.int (-900001))) (S0 L) M) (hY : ∀ s : Nat, (0 ≤ s ∧ s ≤ 2) → x = nI s → ∀ M1 : vM, (∀ q, q < 3 ∨ 42 ≤ q → M1 q = M q) → RepC M1 w h ht rk ns T ng G (setRow Rw s (0, (Rw s).2)) nz U O → Q (some (.int (nI (Rw s).1))) (S0 L) M1) : PM E l mX8_clear 0 [.ref 3, .int x, .null, .null] [] (S0 L) M 0 0 Q := by
  have RR0 := RR
  obtain ⟨V, SVv, ZV, RV, OV⟩ := VV
  obtain ⟨⟨X0, K, D⟩, SC, ZC, RO, LC, SU⟩ := RR
  have H := V.1
  have e4 := H.le
  have e6 := H.pos
  have hng := V.2.2.1
  have hns := SVv.1
  have hnz := ZV.1
  refine x_iload_n dX8_clear_0 rfl ?_
  refine cS1 (mj := mX8_isSlot) lkX8_163 okX8_isSlot stX8_isSlot rfl rfl rfl rfl dX8_clear_1 rfl (k_isSlot _ (fun b0 b0h => ?_))
  have k0 := in_two (x := 0) b0h
  refine b_if_ne 10 dX8_clear_4 rfl (fun z0 => ?_) (fun z0 => ?_)
  · obtain ⟨s, hs, rfl⟩ := k0.1 z0
    have hs2 : s ≤ 2 := hs.2
    have rv := RV s (by omega)
    have hl6 := rv.1.1
    have ro := RO s (by omega)
    have hRs := row_s (L := L) hs2
    have hRg := row_g (L := L) hs2
    refine x_aload_n dX8_clear_10 rfl ?_
    refine x_iload_n dX8_clear_11 rfl ?_
    refine cV1 (mj := mX8_rowOf) lkX8_166 okX8_rowOf imX8_rowOf seX8_rowOf (s0_3 L) rfl rfl rfl rfl rfl dX8_clear_12 rfl (k_rowOf (by omega) ?_)
    refine x_astore_n dX8_clear_15 (by decide) rfl ?_
    refine x_aload_n dX8_clear_16 rfl ?_
    refine g_I hRs fkX8_94 rfl rfl dX8_clear_17 ?_
    refine x_as ro.1 ?_
    refine x_istore_n dX8_clear_20 (by decide) rfl ?_
    refine x_aload_n dX8_clear_21 rfl ?_
    refine x_iconst dX8_clear_22 iconst_0 ?_
    refine g_P hRs fkX8_94 rfl rfl rfl rfl dX8_clear_23 ?_
    refine x_iload_n dX8_clear_26 rfl ?_
    refine x_iret dX8_clear_27 rfl rfl ?_
    refine hY s hs rfl _ (hi_row hs2 (Fr.rf.set _ (by simp))) (RR0.row hs2 (Fr.rf.set _ (by simp)) ?_ (fun k hk => absurd hk (Nat.not_lt_zero k)))
    rw [sM_at, upd_at]
  · refine x_ldc kcX8_104 dX8_clear_7 ?_
    refine x_iret dX8_clear_9 rfl rfl ?_
    exact hN (k0.2 z0)
set_option maxRecDepth 100000 in
set_option maxHeartbeats 4000000 in
theorem k_told {E : vE} {l : Launch} {Q : Option Value → vS → vM → Prop} {L : Nat} {M : vM} {w h : Nat} {ht rk : Nat → Nat} {ns : Nat} {T : Nat → vT} {ng : Nat} {G : Nat → vQ} {Rw : Nat → Nat × (Nat → Nat)} {nz : Nat} {U : Nat → vU} {O : Nat → Nat} (VV : Val w h ht rk ns T ng G Rw nz U O) (RR : RepC M w h ht rk ns T ng G Rw nz U O) {x y : Int32} (hN : ¬ INr 0 2 x → Q (some (.int (-900001))) (S0 L) M) (hO : ∀ s : Nat, (0 ≤ s ∧ s ≤ 2) → x = nI s → ¬ INn (Rw s).1 y → Q (some (.int (-900009))) (S0 L) M) (hY : ∀ s j : Nat, (0 ≤ s ∧ s ≤ 2) → j < (Rw s).1 → x = nI s → y = nI j → Q (some (.int (nI ((Rw s).2 j)))) (S0 L) M) : PM E l mX8_told 0 [.ref 3, .int x, .int y] [] (S0 L) M 0 0 Q := by
  have RR0 := RR
  obtain ⟨V, SVv, ZV, RV, OV⟩ := VV
  obtain ⟨⟨X0, K, D⟩, SC, ZC, RO, LC, SU⟩ := RR
  have H := V.1
  have e4 := H.le
  have e6 := H.pos
  have hng := V.2.2.1
  have hns := SVv.1
  have hnz := ZV.1
  refine x_iload_n dX8_told_0 rfl ?_
  refine cS1 (mj := mX8_isSlot) lkX8_163 okX8_isSlot stX8_isSlot rfl rfl rfl rfl dX8_told_1 rfl (k_isSlot _ (fun b0 b0h => ?_))
  have k0 := in_two (x := 0) b0h
  refine b_if_eq 19 dX8_told_4 rfl (fun z0 => ?_) (fun z0 => ?_)
  · refine x_ldc kcX8_104 dX8_told_19 ?_
    refine x_iret dX8_told_21 rfl rfl ?_
    exact hN (k0.2 z0)
  · obtain ⟨s, hs, rfl⟩ := k0.1 z0
    have hs2 : s ≤ 2 := hs.2
    have rv := RV s (by omega)
    have hl6 := rv.1.1
    have ro := RO s (by omega)
    have hRs := row_s (L := L) hs2
    have hRg := row_g (L := L) hs2
    refine x_aload_n dX8_told_7 rfl ?_
    refine x_iload_n dX8_told_8 rfl ?_
    refine cV1 (mj := mX8_rowOf) lkX8_166 okX8_rowOf imX8_rowOf seX8_rowOf (s0_3 L) rfl rfl rfl rfl rfl dX8_told_9 rfl (k_rowOf (by omega) ?_)
    refine x_iload_n dX8_told_12 rfl ?_
    refine cV1 (mj := mX3_at) lkX8_175 okX3_at imX3_at seX3_at hRs rfl rfl rfl rfl rfl dX8_told_13 rfl (k_rowAt hRs hRg rv.1.1 ro.1 ro.2 (fun z1 => ?_) (fun j hj e9 => ?_))
    skip
    · skip
      refine x_goto 21 dX8_told_16 rfl ?_
      refine x_iret dX8_told_21 rfl rfl ?_
      exact hO s hs rfl z1
    · skip
      refine x_goto 21 dX8_told_16 rfl ?_
      refine x_iret dX8_told_21 rfl rfl ?_
      exact hY s j hs hj rfl e9
set_option maxRecDepth 100000 in
set_option maxHeartbeats 4000000 in
theorem k_ends {E : vE} {l : Launch} {Q : Option Value → vS → vM → Prop} {L : Nat} {M : vM} {w h : Nat} {ht rk : Nat → Nat} {ns : Nat} {T : Nat → vT} {ng : Nat} {G : Nat → vQ} {Rw : Nat → Nat × (Nat → Nat)} {nz : Nat} {U : Nat → vU} {O : Nat → Nat} (VV : Val w h ht rk ns T ng G Rw nz U O) (RR : RepC M w h ht rk ns T ng G Rw nz U O) {x y v : Int32} (hN : ¬ (INr 0 2 x ∧ INn (w * h) y) → Q (some (.int (-900001))) (S0 L) M) (hO : INr 0 2 x → INn (w * h) y → ¬ INr 1 9 v → Q (some (.int (-900002))) (S0 L) M) (hY : ∀ s c t : Nat, (0 ≤ s ∧ s ≤ 2) → c < w * h → (1 ≤ t ∧ t ≤ 9) → x = nI s → y = nI c → v = nI t → Q (some (.int (nI (endS w h ht G (Rw s).2 t (Rw s).1 c)))) (S0 L) M) : PM E l mX8_ends 0 [.ref 3, .int x, .int y, .int v] [] (S0 L) M 0 0 Q := by
  have RR0 := RR
  obtain ⟨V, SVv, ZV, RV, OV⟩ := VV
  obtain ⟨⟨X0, K, D⟩, SC, ZC, RO, LC, SU⟩ := RR
  have H := V.1
  have e4 := H.le
  have e6 := H.pos
  have hng := V.2.2.1
  have hns := SVv.1
  have hnz := ZV.1
  refine x_iload_n dX8_ends_0 rfl ?_
  refine cS1 (mj := mX8_isSlot) lkX8_163 okX8_isSlot stX8_isSlot rfl rfl rfl rfl dX8_ends_1 rfl (k_isSlot _ (fun b0 b0h => ?_))
  have k0 := in_two (x := 0) b0h
  refine b_if_eq 18 dX8_ends_4 rfl (fun z0 => ?_) (fun z0 => ?_)
  · refine x_ldc kcX8_104 dX8_ends_18 ?_
    refine x_iret dX8_ends_20 rfl rfl ?_
    exact hN (fun z => k0.2 z0 z.1)
  · refine x_aload_n dX8_ends_7 rfl ?_
    refine g_R (s0_3 L) fkX8_10 rfl rfl rfl dX8_ends_8 ?_
    refine x_iload_n dX8_ends_11 rfl ?_
    refine cV1 (mj := mX1_has) lkX8_100 okX1_has imX1_has seX1_has (s0_4 L) rfl rfl rfl rfl rfl dX8_ends_12 rfl (k_g_has (by omega) K.1.1 _ (fun b1 b1h => ?_))
    have k1 := in_two (x := 0) b1h
    refine b_if_ne 21 dX8_ends_15 rfl (fun z1 => ?_) (fun z1 => ?_)
    · refine x_iload_n dX8_ends_21 rfl ?_
      refine x_iconst dX8_ends_22 iconst_1 ?_
      refine x_bipush dX8_ends_23 bipush_9 ?_
      refine cS3 (mj := mX8_within) lkX8_79 okX8_within stX8_within rfl rfl rfl rfl dX8_ends_25 rfl (c_within _ _ _ (fun b2 b2h => ?_))
      have k2 := in_two (x := 0) (b2h.trans (in_rg (a := 1) (b := 9) (by omega) (by omega) _))
      refine b_if_eq 48 dX8_ends_28 rfl (fun z2 => ?_) (fun z2 => ?_)
      · refine x_ldc kcX8_83 dX8_ends_48 ?_
        refine x_iret dX8_ends_50 rfl rfl ?_
        exact hO (k0.1 z0) (k1.1 z1) (k2.2 z2)
      · obtain ⟨s, hs, rfl⟩ := k0.1 z0
        obtain ⟨c, hc, rfl⟩ := k1.1 z1
        obtain ⟨t, ht1, rfl⟩ := k2.1 z2
        have hs2 : s ≤ 2 := hs.2
        have rv := RV s (by omega)
        have hl6 := rv.1.1
        have ro := RO s (by omega)
        have hRs := row_s (L := L) hs2
        have hRg := row_g (L := L) hs2
        refine x_aload_n dX8_ends_31 rfl ?_
        refine g_R (s0_3 L) fkX8_28 rfl rfl rfl dX8_ends_32 ?_
        refine x_aload_n dX8_ends_35 rfl ?_
        refine x_iload_n dX8_ends_36 rfl ?_
        refine cV1 (mj := mX8_rowOf) lkX8_166 okX8_rowOf imX8_rowOf seX8_rowOf (s0_3 L) rfl rfl rfl rfl rfl dX8_ends_37 rfl (k_rowOf (by omega) ?_)
        refine x_iload_n dX8_ends_40 rfl ?_
        refine x_iload_n dX8_ends_41 rfl ?_
        refine cV3 (mj := mX0_carryAlong) lkX8_178 okX0_carryAlong imX0_carryAlong seX0_carryAlong (s0_12 L) rfl rfl rfl rfl rfl dX8_ends_42 rfl (k_carryAlong V K D hRs hRg rv.1 ro.1 ro.2 hc ht1.1 ht1.2 ?_)
        refine x_goto 50 dX8_ends_45 rfl ?_
        refine x_iret dX8_ends_50 rfl rfl ?_
        exact hY s c t hs hc ht1 rfl rfl rfl
    · refine x_ldc kcX8_104 dX8_ends_18 ?_
      refine x_iret dX8_ends_20 rfl rfl ?_
      exact hN (fun z => k1.2 z1 z.2)
set_option maxRecDepth 100000 in
set_option maxHeartbeats 4000000 in
theorem k_whence {E : vE} {l : Launch} {Q : Option Value → vS → vM → Prop} {L : Nat} {M : vM} {w h : Nat} {ht rk : Nat → Nat} {ns : Nat} {T : Nat → vT} {ng : Nat} {G : Nat → vQ} {Rw : Nat → Nat × (Nat → Nat)} {nz : Nat} {U : Nat → vU} {O : Nat → Nat} (VV : Val w h ht rk ns T ng G Rw nz U O) (RR : RepC M w h ht rk ns T ng G Rw nz U O) {x y : Int32} (hN : ¬ (INr 0 2 x ∧ INn ns y) → Q (some (.int (-900001))) (S0 L) M) (hY : ∀ s t : Nat, (0 ≤ s ∧ s ≤ 2) → t < ns → x = nI s → y = nI t → Q (some (.int (nI (ctt (whn w h ht G (Rw s).2 (Rw s).1 rk (T t)) (w * h))))) (S0 L) M) : PM E l mX8_whence 0 [.ref 3, .int x, .int y, .null, .null, .null] [] (S0 L) M 0 0 Q := by
  have RR0 := RR
  obtain ⟨V, SVv, ZV, RV, OV⟩ := VV
  obtain ⟨⟨X0, K, D⟩, SC, ZC, RO, LC, SU⟩ := RR
  have H := V.1
  have e4 := H.le
  have e6 := H.pos
  have hng := V.2.2.1
  have hns := SVv.1
  have hnz := ZV.1
  refine x_iload_n dX8_whence_0 rfl ?_
  refine cS1 (mj := mX8_isSlot) lkX8_163 okX8_isSlot stX8_isSlot rfl rfl rfl rfl dX8_whence_1 rfl (k_isSlot _ (fun b0 b0h => ?_))
  have k0 := in_two (x := 0) b0h
  refine b_if_eq 18 dX8_whence_4 rfl (fun z0 => ?_) (fun z0 => ?_)
  · refine x_ldc kcX8_104 dX8_whence_18 ?_
    refine x_iret dX8_whence_20 rfl rfl ?_
    exact hN (fun z => k0.2 z0 z.1)
  · refine x_aload_n dX8_whence_7 rfl ?_
    refine g_R (s0_3 L) fkX8_19 rfl rfl rfl dX8_whence_8 ?_
    refine x_iload_n dX8_whence_11 rfl ?_
    refine cV1 (mj := mX5_has) lkX8_119 okX5_has imX5_has seX5_has (s0_8 L) rfl rfl rfl rfl rfl dX8_whence_12 rfl (k_s_has (by omega) SC.1 _ (fun b1 b1h => ?_))
    have k1 := in_two (x := 0) b1h
    refine b_if_ne 21 dX8_whence_15 rfl (fun z1 => ?_) (fun z1 => ?_)
    · obtain ⟨s, hs, rfl⟩ := k0.1 z0
      obtain ⟨t, htt, rfl⟩ := k1.1 z1
      have hs2 : s ≤ 2 := hs.2
      have rv := RV s (by omega)
      have hl6 := rv.1.1
      have ro := RO s (by omega)
      have hRs := row_s (L := L) hs2
      have hRg := row_g (L := L) hs2
      refine x_aload_n dX8_whence_21 rfl ?_
      refine x_iload_n dX8_whence_22 rfl ?_
      refine cV1 (mj := mX8_rowOf) lkX8_166 okX8_rowOf imX8_rowOf seX8_rowOf (s0_3 L) rfl rfl rfl rfl rfl dX8_whence_23 rfl (k_rowOf (by omega) ?_)
      refine x_astore_n dX8_whence_26 (by decide) rfl ?_
      refine x_iconst dX8_whence_27 iconst_0 ?_
      refine x_istore dX8_whence_28 (by decide) rfl ?_
      refine x_iconst dX8_whence_30 iconst_0 ?_
      refine x_istore dX8_whence_31 (by decide) rfl ?_
      have l1 : PM E l mX8_whence 33 [.ref 3, .int (nI s), .int (nI t), .ref (21 + 2 * s), .int (nI (ctt (whn w h ht G (Rw s).2 (Rw s).1 rk (T t)) 0)), .int (nI 0)] [] (S0 L) M 0 0 Q := by
        refine lp_up (P := fun i => PM E l mX8_whence 33 [.ref 3, .int (nI s), .int (nI t), .ref (21 + 2 * s), .int (nI (ctt (whn w h ht G (Rw s).2 (Rw s).1 rk (T t)) i)), .int (nI i)] [] (S0 L) M 0 0 Q) (w * h) ?_ ?_ 0 (by omega)
        · skip
          refine x_iload dX8_whence_33 rfl ?_
          refine x_aload_n dX8_whence_35 rfl ?_
          refine g_R (s0_3 L) fkX8_10 rfl rfl rfl dX8_whence_36 ?_
          refine g_I (s0_4 L) fkX8_99 rfl rfl dX8_whence_39 ?_
          refine x_as K.1.1 ?_
          refine n_icmp_ge 70 dX8_whence_42 rfl (by omega) (by omega) (fun h1 => ?_) (fun h1 => by omega)
          refine x_iload dX8_whence_70 rfl ?_
          refine x_iret dX8_whence_72 rfl rfl ?_
          exact hY s t hs htt rfl rfl
        · intro i hi ih
          refine x_iload dX8_whence_33 rfl ?_
          refine x_aload_n dX8_whence_35 rfl ?_
          refine g_R (s0_3 L) fkX8_10 rfl rfl rfl dX8_whence_36 ?_
          refine g_I (s0_4 L) fkX8_99 rfl rfl dX8_whence_39 ?_
          refine x_as K.1.1 ?_
          refine n_icmp_ge 70 dX8_whence_42 rfl (by omega) (by omega) (fun h1 => by omega) (fun h1 => ?_)
          refine x_iload dX8_whence_45 rfl ?_
          refine x_aload_n dX8_whence_47 rfl ?_
          refine g_R (s0_3 L) fkX8_50 rfl rfl rfl dX8_whence_48 ?_
          refine x_aload_n dX8_whence_51 rfl ?_
          refine x_iload_n dX8_whence_52 rfl ?_
          refine x_iload dX8_whence_53 rfl ?_
          refine cV3 (mj := mX4_canComeFrom) lkX8_182 okX4_canComeFrom imX4_canComeFrom seX4_canComeFrom (s0_27 L) rfl rfl rfl rfl rfl dX8_whence_55 rfl (k_canComeFrom V K D hRs hRg rv.1 ro.1 ro.2 SVv SC htt hi ?_)
          refine cS1 (mj := mX8_bit) lkX8_139 okX8_bit stX8_bit rfl rfl rfl rfl dX8_whence_58 rfl (c_bit _ ?_)
          refine n_iadd dX8_whence_61 ?_
          refine x_istore dX8_whence_62 (by decide) rfl ?_
          refine n_inc dX8_whence_64 rfl rfl ?_
          refine x_goto 33 dX8_whence_67 rfl ?_
          exact ih
      exact l1
    · refine x_ldc kcX8_104 dX8_whence_18 ?_
      refine x_iret dX8_whence_20 rfl rfl ?_
      exact hN (fun z => k1.2 z1 z.2)
set_option maxRecDepth 100000 in
set_option maxHeartbeats 4000000 in
theorem k_from {E : vE} {l : Launch} {Q : Option Value → vS → vM → Prop} {L : Nat} {M : vM} {w h : Nat} {ht rk : Nat → Nat} {ns : Nat} {T : Nat → vT} {ng : Nat} {G : Nat → vQ} {Rw : Nat → Nat × (Nat → Nat)} {nz : Nat} {U : Nat → vU} {O : Nat → Nat} (VV : Val w h ht rk ns T ng G Rw nz U O) (RR : RepC M w h ht rk ns T ng G Rw nz U O) {x y v : Int32} (hN : ¬ (INr 0 2 x ∧ INn ns y) → Q (some (.int (-900001))) (S0 L) M) (hY : ∀ s t : Nat, (0 ≤ s ∧ s ≤ 2) → t < ns → x = nI s → y = nI t → Q (some (.int (oI (-900009) (fnd (whn w h ht G (Rw s).2 (Rw s).1 rk (T t)) v (w * h))))) (S0 L) M) : PM E l mX8_from 0 [.ref 3, .int x, .int y, .int v, .null, .null, .null] [] (S0 L) M 0 0 Q := by
  have RR0 := RR
  obtain ⟨V, SVv, ZV, RV, OV⟩ := VV
  obtain ⟨⟨X0, K, D⟩, SC, ZC, RO, LC, SU⟩ := RR
  have H := V.1
  have e4 := H.le
  have e6 := H.pos
  have hng := V.2.2.1
  have hns := SVv.1
  have hnz := ZV.1
  refine x_iload_n dX8_from_0 rfl ?_
  refine cS1 (mj := mX8_isSlot) lkX8_163 okX8_isSlot stX8_isSlot rfl rfl rfl rfl dX8_from_1 rfl (k_isSlot _ (fun b0 b0h => ?_))
  have k0 := in_two (x := 0) b0h
  refine b_if_eq 18 dX8_from_4 rfl (fun z0 => ?_) (fun z0 => ?_)
  · refine x_ldc kcX8_104 dX8_from_18 ?_
    refine x_iret dX8_from_20 rfl rfl ?_
    exact hN (fun z => k0.2 z0 z.1)
  · refine x_aload_n dX8_from_7 rfl ?_
    refine g_R (s0_3 L) fkX8_19 rfl rfl rfl dX8_from_8 ?_
    refine x_iload_n dX8_from_11 rfl ?_
    refine cV1 (mj := mX5_has) lkX8_119 okX5_has imX5_has seX5_has (s0_8 L) rfl rfl rfl rfl rfl dX8_from_12 rfl (k_s_has (by omega) SC.1 _ (fun b1 b1h => ?_))
    have k1 := in_two (x := 0) b1h
    refine b_if_ne 21 dX8_from_15 rfl (fun z1 => ?_) (fun z1 => ?_)
    · obtain ⟨s, hs, rfl⟩ := k0.1 z0
      obtain ⟨t, htt, rfl⟩ := k1.1 z1
      have hs2 : s ≤ 2 := hs.2
      have rv := RV s (by omega)
      have hl6 := rv.1.1
      have ro := RO s (by omega)
      have hRs := row_s (L := L) hs2
      have hRg := row_g (L := L) hs2
      refine x_aload_n dX8_from_21 rfl ?_
      refine x_iload_n dX8_from_22 rfl ?_
      refine cV1 (mj := mX8_rowOf) lkX8_166 okX8_rowOf imX8_rowOf seX8_rowOf (s0_3 L) rfl rfl rfl rfl rfl dX8_from_23 rfl (k_rowOf (by omega) ?_)
      refine x_astore dX8_from_26 (by decide) rfl ?_
      refine x_iconst dX8_from_28 iconst_0 ?_
      refine x_istore dX8_from_29 (by decide) rfl ?_
      refine x_iconst dX8_from_31 iconst_0 ?_
      refine x_istore dX8_from_32 (by decide) rfl ?_
      have l1 : fnd (whn w h ht G (Rw s).2 (Rw s).1 rk (T t)) v 0 = none → PM E l mX8_from 34 [.ref 3, .int (nI s), .int (nI t), .int v, .ref (21 + 2 * s), .int (nI (ctt (whn w h ht G (Rw s).2 (Rw s).1 rk (T t)) 0)), .int (nI 0)] [] (S0 L) M 0 0 Q := by
        refine lp_up (P := fun i => fnd (whn w h ht G (Rw s).2 (Rw s).1 rk (T t)) v i = none → PM E l mX8_from 34 [.ref 3, .int (nI s), .int (nI t), .int v, .ref (21 + 2 * s), .int (nI (ctt (whn w h ht G (Rw s).2 (Rw s).1 rk (T t)) i)), .int (nI i)] [] (S0 L) M 0 0 Q) (w * h) ?_ ?_ 0 (by omega)
        · intro g1
          refine x_iload dX8_from_34 rfl ?_
          refine x_aload_n dX8_from_36 rfl ?_
          refine g_R (s0_3 L) fkX8_10 rfl rfl rfl dX8_from_37 ?_
          refine g_I (s0_4 L) fkX8_99 rfl rfl dX8_from_40 ?_
          refine x_as K.1.1 ?_
          refine n_icmp_ge 79 dX8_from_43 rfl (by omega) (by omega) (fun h1 => ?_) (fun h1 => by omega)
          refine x_ldc kcX8_150 dX8_from_79 ?_
          refine x_iret dX8_from_81 rfl rfl ?_
          have h9 := hY s t hs htt rfl rfl
          rw [g1] at h9
          exact h9
        · intro i hi ih g1
          refine x_iload dX8_from_34 rfl ?_
          refine x_aload_n dX8_from_36 rfl ?_
          refine g_R (s0_3 L) fkX8_10 rfl rfl rfl dX8_from_37 ?_
          refine g_I (s0_4 L) fkX8_99 rfl rfl dX8_from_40 ?_
          refine x_as K.1.1 ?_
          refine n_icmp_ge 79 dX8_from_43 rfl (by omega) (by omega) (fun h1 => by omega) (fun h1 => ?_)
          refine x_aload_n dX8_from_46 rfl ?_
          refine g_R (s0_3 L) fkX8_50 rfl rfl rfl dX8_from_47 ?_
          refine x_aload dX8_from_50 rfl ?_
          refine x_iload_n dX8_from_52 rfl ?_
          refine x_iload dX8_from_53 rfl ?_
          refine cV3 (mj := mX4_canComeFrom) lkX8_182 okX4_canComeFrom imX4_canComeFrom seX4_canComeFrom (s0_27 L) rfl rfl rfl rfl rfl dX8_from_55 rfl (k_canComeFrom V K D hRs hRg rv.1 ro.1 ro.2 SVv SC htt hi ?_)
          refine b_if_eq 73 dX8_from_58 rfl (fun z2 => ?_) (fun z2 => ?_)
          · refine n_inc dX8_from_73 rfl rfl ?_
            refine x_goto 34 dX8_from_76 rfl ?_
            have ih2 := ih (fnd_no g1 (fun z => by rw [z2] at z; cases z.1))
            rw [show ctt (whn w h ht G (Rw s).2 (Rw s).1 rk (T t)) (i + 1) = ctt (whn w h ht G (Rw s).2 (Rw s).1 rk (T t)) i + 0 from by simp only [ctt, z2, Bool.false_eq_true, if_false, if_true]] at ih2
            exact ih2
          · refine x_iload dX8_from_61 rfl ?_
            refine x_iload_n dX8_from_63 rfl ?_
            refine x_icmp_ne 70 dX8_from_64 rfl (fun z3 => ?_) (fun z3 => ?_)
            · refine n_inc dX8_from_70 rfl rfl ?_
              refine n_inc dX8_from_73 rfl rfl ?_
              refine x_goto 34 dX8_from_76 rfl ?_
              have ih2 := ih (fnd_no g1 (fun z => z3 z.2))
              rw [show ctt (whn w h ht G (Rw s).2 (Rw s).1 rk (T t)) (i + 1) = ctt (whn w h ht G (Rw s).2 (Rw s).1 rk (T t)) i + 1 from by simp only [ctt, z2, Bool.false_eq_true, if_false, if_true]] at ih2
              exact ih2
            · refine x_iload dX8_from_67 rfl ?_
              refine x_iret dX8_from_69 rfl rfl ?_
              have h9 := hY s t hs htt rfl rfl
              rw [show w * h = i + 1 + (w * h - (i + 1)) from by omega, fnd_yes g1 ⟨z2, z3⟩] at h9
              exact h9
      exact l1 rfl
    · refine x_ldc kcX8_104 dX8_from_18 ?_
      refine x_iret dX8_from_20 rfl rfl ?_
      exact hN (fun z => k1.2 z1 z.2)

theorem StM.kept {M M1 : vM} {w h ns : Nat} {rk : Nat → Nat} {T : Nat → vT} (k : StM M w h ns rk T) (e : ∀ q ∈ [44, 45, 46, 47], M1 q = M q) (e2 : M1 42 4 = M 42 4) : StM M1 w h ns rk T := by
  obtain ⟨a1, a2, a3⟩ := k
  refine ⟨by rw [e2]; exact a1, fun c hc => by rw [e 44 (by decide)]; exact a2 c hc, fun i hi => ?_⟩
  obtain ⟨b1, b2, b3⟩ := a3 i hi
  exact ⟨by rw [e 45 (by decide)]; exact b1, by rw [e 46 (by decide)]; exact b2, by rw [e 47 (by decide)]; exact b3⟩
theorem SgM.kept {M M1 : vM} {nz : Nat} {U : Nat → vU} (k : SgM M nz U) (e : ∀ q ∈ [58, 59, 60, 61], M1 q = M q) (e2 : M1 42 20 = M 42 20) : SgM M1 nz U := by
  obtain ⟨a1, a2⟩ := k
  refine ⟨by rw [e2]; exact a1, fun i hi => ?_⟩
  obtain ⟨b1, b2, b3, b4⟩ := a2 i hi
  exact ⟨by rw [e 58 (by decide)]; exact b1, fun z => by rw [e 59 (by decide)]; exact b2 z, by rw [e 60 (by decide)]; exact b3, by rw [e 61 (by decide)]; exact b4⟩
/-- how many fit, and the best so far: its cost, how many goes, which -/
abbrev vB : Type := Nat × Option (Nat × Nat × (Nat → Nat))
def bsT (may : Bool) (c m : Nat) (r : Nat → Nat) (s : vB) : vB :=
  if may then (s.1 + (if c = 0 then 1 else 0), match s.2 with
    | none => some (c, m, r)
    | some b => if c < b.1 ∨ (c = b.1 ∧ m < b.2.1) then some (c, m, r) else some b) else s
noncomputable def bsS (ng : Nat) (cf : Nat → (Nat → Nat) → Nat) : Nat → vB
  | 0 => (0, none)
  | i + 1 => bsT (lcS ng i 3).1 (cf (lcS ng i 3).2.2.1 (lcS ng i 3).2.2.2) (lcS ng i 3).2.2.1 (lcS ng i 3).2.2.2 (bsS ng cf i)
theorem bsS_fit {ng : Nat} {cf : Nat → (Nat → Nat) → Nat} : ∀ i, (bsS ng cf i).1 ≤ i
  | 0 => Nat.le_refl _
  | i + 1 => by
    have := bsS_fit (ng := ng) (cf := cf) i
    show (bsT _ _ _ _ _).1 ≤ _
    unfold bsT
    split
    · simp only; split <;> omega
    · omega
theorem bsS_many {ng : Nat} {cf : Nat → (Nat → Nat) → Nat} : ∀ i b, (bsS ng cf i).2 = some b → b.2.1 ≤ 3
  | 0, b, e => by cases e
  | i + 1, b, e => by
    have h3 := lcS_m ng i 3
    have ih := bsS_many (ng := ng) (cf := cf) i
    have e : (bsT (lcS ng i 3).1 (cf (lcS ng i 3).2.2.1 (lcS ng i 3).2.2.2) (lcS ng i 3).2.2.1 (lcS ng i 3).2.2.2 (bsS ng cf i)).2 = some b := e
    unfold bsT at e
    split at e
    · simp only at e
      cases hb : (bsS ng cf i).2 with
      | none => rw [hb] at e; cases e; exact h3
      | some b2 =>
        rw [hb] at e
        simp only at e
        split at e
        · cases e; exact h3
        · cases e; exact ih _ hb
    · exact ih b e
/-- the model's memory of the best -/
def BsM (M : vM) (s : vB) : Prop := M 42 25 = nI s.1 ∧ match s.2 with
  | none => M 42 26 = 100000000
  | some b => M 42 26 = nI b.1 ∧ M 42 27 = nI b.2.1 ∧ ∀ k, k < b.2.1 → M 62 k = nI (b.2.2 k)
set_option maxRecDepth 100000 in
set_option maxHeartbeats 4000000 in
theorem m_bestCopy {E : vE} {l : Launch} {Q : Option Value → vS → vM → Prop} {L : Nat} {M2 : vM} {i c m : Nat} {r : Nat → Nat} (hm3 : m ≤ 3) (RM : RwM M2 m r) (kk : ∀ M1 : vM, Fr [62] M2 M1 → (∀ k, k < m → M1 62 k = nI (r k)) → PM E l mX9_layBest 123 [.ref 42, .int (nI i), .int (nI c), .int (nI m)] [] (S0 L) M1 0 0 Q) : PM E l mX9_layBest 97 [.ref 42, .int (nI i), .int (nI c), .int (nI 0)] [] (S0 L) M2 0 0 Q := by
  have l1 : ∀ M1 : vM, Fr [62] M2 M1 → (∀ k, k < 0 → M1 62 k = nI (r k)) → PM E l mX9_layBest 97 [.ref 42, .int (nI i), .int (nI c), .int (nI 0)] [] (S0 L) M1 0 0 Q := by
    refine lp_up (P := fun j => ∀ M1 : vM, Fr [62] M2 M1 → (∀ k, k < j → M1 62 k = nI (r k)) → PM E l mX9_layBest 97 [.ref 42, .int (nI i), .int (nI c), .int (nI j)] [] (S0 L) M1 0 0 Q) (m) ?_ ?_ 0 (Nat.zero_le _)
    · intro M1 g1 g2
      refine x_iload_n dX9_layBest_97 rfl ?_
      refine x_aload_n dX9_layBest_98 rfl ?_
      refine g_I (s0_42 L) fkX9_177 rfl rfl dX9_layBest_99 ?_
      refine x_as ((congrFun (g1 42 (by decide)) _).trans RM.1) ?_
      refine n_icmp_ge 123 dX9_layBest_102 rfl (by omega) (by omega) (fun h1 => ?_) (fun h1 => by omega)
      exact kk M1 g1 g2
    · intro j hi ih M1 g1 g2
      refine x_iload_n dX9_layBest_97 rfl ?_
      refine x_aload_n dX9_layBest_98 rfl ?_
      refine g_I (s0_42 L) fkX9_177 rfl rfl dX9_layBest_99 ?_
      refine x_as ((congrFun (g1 42 (by decide)) _).trans RM.1) ?_
      refine n_icmp_ge 123 dX9_layBest_102 rfl (by omega) (by omega) (fun h1 => by omega) (fun h1 => ?_)
      refine x_aload_n dX9_layBest_105 rfl ?_
      refine g_R (s0_42 L) fkX9_68 rfl rfl rfl dX9_layBest_106 ?_
      refine x_iload_n dX9_layBest_109 rfl ?_
      refine x_aload_n dX9_layBest_110 rfl ?_
      refine g_R (s0_42 L) fkX9_53 rfl rfl rfl dX9_layBest_111 ?_
      refine x_iload_n dX9_layBest_114 rfl ?_
      refine n_iald (s0_57 L) (by omega) rfl dX9_layBest_115 ?_
      refine x_as ((congrFun (g1 57 (by decide)) _).trans (RM.2 j hi)) ?_
      refine n_iast rfl (s0_62 L) (by omega) rfl dX9_layBest_116 ?_
      refine n_inc dX9_layBest_117 rfl rfl ?_
      refine x_goto 97 dX9_layBest_120 rfl ?_
      refine ih _ (g1.set _ (by decide)) (fun k hk => ?_)
      by_cases e : k = j
      · subst e; exact upd_at _ _ _
      · exact (upd_ne _ _ e).trans (g2 k (by omega))
  exact l1 M2 Fr.rf (fun k hk => absurd hk (by omega))
theorem bs_take {may : Bool} {c m : Nat} {r : Nat → Nat} {s : vB} (hm : may = true) (h : ∀ b, s.2 = some b → c < b.1 ∨ (c = b.1 ∧ m < b.2.1)) : bsT may c m r s = (s.1 + (if c = 0 then 1 else 0), some (c, m, r)) := by
  unfold bsT
  rw [if_pos hm]
  cases hb : s.2 with
  | none => rfl
  | some b => simp only [if_pos (h b hb)]
theorem bs_keep {may : Bool} {c m : Nat} {r : Nat → Nat} {s : vB} (hm : may = true) {b : Nat × Nat × (Nat → Nat)} (hb : s.2 = some b) (h : ¬ (c < b.1 ∨ (c = b.1 ∧ m < b.2.1))) : bsT may c m r s = (s.1 + (if c = 0 then 1 else 0), some b) := by
  unfold bsT
  rw [if_pos hm, hb]
  simp only [if_neg h]
theorem bs_skip {may : Bool} {c m : Nat} {r : Nat → Nat} {s : vB} (hm : may = false) : bsT may c m r s = s := by
  unfold bsT
  rw [hm]
  rfl
set_option maxRecDepth 100000 in
set_option maxHeartbeats 4000000 in
theorem m_layBest {E : vE} {l : Launch} {Q : Option Value → vS → vM → Prop} {L : Nat} {M : vM} {w h ng : Nat} {ht : Nat → Nat} {G : Nat → vQ} (V : GoV w h ng ht G) (K : GoM M w h ng ht G) {ns : Nat} {rk : Nat → Nat} {T : Nat → vT} (SV : StV w h ns rk T) (SM : StM M w h ns rk T) {nz : Nat} {U : Nat → vU} (ZV : SgV w h ns nz U) (ZM : SgM M nz U) (hQ : ∀ M1 : vM, Fr [42, 53, 54, 57, 62] M M1 → (∀ j, j ≠ 18 → j ≠ 25 → j ≠ 26 → j ≠ 27 → M1 42 j = M 42 j) → LdM M1 w h ng ht G → BsM M1 (bsS ng (fun m r => cst w h ht G r m rk T U nz) 343) → Q none (S0 L) M1) : PM E l mX9_layBest 0 [.ref 42, .null, .null, .null] [] (S0 L) M 0 0 Q := by
  have H := V.1
  have e4 := H.le
  have hng := V.2.2.1
  have hbcost : ∀ i b, (bsS ng (fun m r => cst w h ht G r m rk T U nz) i).2 = some b → b.1 ≤ 1188 := by
    intro i
    induction i with
    | zero => intro b e; cases e
    | succ i ih =>
      intro b e
      have hc9 := cst_le (w := w) (h := h) (ht := ht) (G := G) (r := (lcS ng i 3).2.2.2) (m := (lcS ng i 3).2.2.1) (rk := rk) (T := T) ZV (Nat.le_refl nz)
      have e : (bsT (lcS ng i 3).1 ((fun m r => cst w h ht G r m rk T U nz) (lcS ng i 3).2.2.1 (lcS ng i 3).2.2.2) (lcS ng i 3).2.2.1 (lcS ng i 3).2.2.2 (bsS ng (fun m r => cst w h ht G r m rk T U nz) i)).2 = some b := e
      unfold bsT at e
      split at e
      · simp only at e
        cases hb : (bsS ng (fun m r => cst w h ht G r m rk T U nz) i).2 with
        | none => rw [hb] at e; cases e; exact hc9
        | some b2 =>
          rw [hb] at e
          simp only at e
          split at e
          · cases e; exact hc9
          · cases e; exact ih _ hb
      · exact ih b e
  have l1 : ∀ M1 : vM, Fr [42, 53, 54, 57, 62] M M1 → (∀ j, j ≠ 18 → j ≠ 25 → j ≠ 26 → j ≠ 27 → M1 42 j = M 42 j) → LdM M1 w h ng ht G → BsM M1 (bsS ng (fun m r => cst w h ht G r m rk T U nz) 0) → PM E l mX9_layBest 17 [.ref 42, .int (nI 0), .null, .null] [] (S0 L) M1 0 0 Q := by
    refine lp_up (P := fun i => ∀ M1 : vM, Fr [42, 53, 54, 57, 62] M M1 → (∀ j, j ≠ 18 → j ≠ 25 → j ≠ 26 → j ≠ 27 → M1 42 j = M 42 j) → LdM M1 w h ng ht G → BsM M1 (bsS ng (fun m r => cst w h ht G r m rk T U nz) i) → PM E l mX9_layBest 17 [.ref 42, .int (nI i), .null, .null] [] (S0 L) M1 0 0 Q) 343 ?_ ?_ 0 (by omega)
    · intro M1 g1 g2 g3 g4
      refine x_iload_n dX9_layBest_17 rfl ?_
      refine x_sipush dX9_layBest_18 sipush_343 ?_
      refine n_icmp_ge 129 dX9_layBest_21 rfl (by omega) (by omega) (fun h1 => ?_) (fun h1 => by omega)
      refine x_vret dX9_layBest_129 rfl ?_
      exact hQ M1 g1 g2 g3 g4
    · intro i hi ih M1 g1 g2 g3 g4
      have hl3 := lcS_m ng i 3
      have hfi := bsS_fit (ng := ng) (cf := (fun m r => cst w h ht G r m rk T U nz)) i
      have tl : ∀ M3 : vM, Fr [42, 53, 54, 57, 62] M M3 → (∀ j, j ≠ 18 → j ≠ 25 → j ≠ 26 → j ≠ 27 → M3 42 j = M 42 j) → LdM M3 w h ng ht G → RwM M3 (lcS ng i 3).2.2.1 (lcS ng i 3).2.2.2 → (lcS ng i 3).1 = true → M3 42 25 = nI ((bsS ng (fun m r => cst w h ht G r m rk T U nz) i).1 + (if (cst w h ht G (lcS ng i 3).2.2.2 (lcS ng i 3).2.2.1 rk T U nz) = 0 then 1 else 0)) → (match (bsS ng (fun m r => cst w h ht G r m rk T U nz) i).2 with | none => M3 42 26 = 100000000 | some b => M3 42 26 = nI b.1 ∧ M3 42 27 = nI b.2.1 ∧ ∀ k, k < b.2.1 → M3 62 k = nI (b.2.2 k)) → PM E l mX9_layBest 55 [.ref 42, .int (nI i), .int (nI (cst w h ht G (lcS ng i 3).2.2.2 (lcS ng i 3).2.2.1 rk T U nz)), .null] [] (S0 L) M3 0 0 Q := by
        intro M3 q1 q2 q3 q5 hmay hfit hbest
        have hc9 := cst_le (w := w) (h := h) (ht := ht) (G := G) (r := (lcS ng i 3).2.2.2) (m := (lcS ng i 3).2.2.1) (rk := rk) (T := T) ZV (Nat.le_refl nz)
        rcases hb : (bsS ng (fun m r => cst w h ht G r m rk T U nz) i).2 with _ | b
        · rw [hb] at hbest
          simp only at hbest
          have hfar : nI (cst w h ht G (lcS ng i 3).2.2.2 (lcS ng i 3).2.2.1 rk T U nz) < 100000000 := by
            rw [show (100000000 : Int32) = nI 100000000 from by decide]
            exact nI_lt (by omega) (by omega)
          refine x_iload_n dX9_layBest_55 rfl ?_
          refine x_aload_n dX9_layBest_56 rfl ?_
          refine g_I (s0_42 L) fkX9_220 rfl rfl dX9_layBest_57 ?_
          refine x_as hbest ?_
          refine x_icmp_lt 82 dX9_layBest_60 rfl (fun y1 => ?_) (fun y1 => by exact absurd hfar y1)
          refine x_aload_n dX9_layBest_82 rfl ?_
          refine x_iload_n dX9_layBest_83 rfl ?_
          refine g_P (s0_42 L) fkX9_220 rfl rfl rfl rfl dX9_layBest_84 ?_
          refine x_aload_n dX9_layBest_87 rfl ?_
          refine x_aload_n dX9_layBest_88 rfl ?_
          refine g_I (s0_42 L) fkX9_177 rfl rfl dX9_layBest_89 ?_
          refine x_as q5.1 ?_
          refine g_P (s0_42 L) fkX9_226 rfl rfl rfl rfl dX9_layBest_92 ?_
          refine x_iconst dX9_layBest_95 iconst_0 ?_
          refine x_istore_n dX9_layBest_96 (by decide) rfl ?_
          refine x_mask [true, true, true, true] ?_
          refine m_bestCopy hl3 (r := (lcS ng i 3).2.2.2) (m := (lcS ng i 3).2.2.1) ⟨q5.1, q5.2⟩ (fun M4 t1 t2 => ?_)
          refine n_inc dX9_layBest_123 rfl rfl ?_
          refine x_goto 17 dX9_layBest_126 rfl ?_
          refine x_mask [true, true, false, false] ?_
          have e9 : (bsS ng (fun m r => cst w h ht G r m rk T U nz) (i + 1)) = ((bsS ng (fun m r => cst w h ht G r m rk T U nz) i).1 + (if (cst w h ht G (lcS ng i 3).2.2.2 (lcS ng i 3).2.2.1 rk T U nz) = 0 then 1 else 0), some ((cst w h ht G (lcS ng i 3).2.2.2 (lcS ng i 3).2.2.1 rk T U nz), (lcS ng i 3).2.2.1, (lcS ng i 3).2.2.2)) := bs_take hmay (fun b z => by rw [hb] at z; cases z)
          have ih2 := ih M4 ((((q1.set _ (by decide)).set _ (by decide)).trans (t1.sub (by decide)))) (fun j a1 a2 a3 a4 => ?_) ((q3.kept (M1 := M4) (t1 53 (by decide)) (t1 54 (by decide))))
          · refine ih2 ?_
            rw [e9]
            refine ⟨?_, ?_, ?_, t2⟩
            · rw [t1 42 (by decide)]; exact hfit
            · rw [t1 42 (by decide)]; rfl
            · rw [t1 42 (by decide)]; rfl
          · rw [t1 42 (by decide)]
            exact ((upd_ne _ _ a4).trans (upd_ne _ _ a3)).trans (q2 j a1 a2 a3 a4)
        · rw [hb] at hbest
          simp only at hbest
          have hb3 := bsS_many i b hb
          have hbc : b.1 ≤ 1188 := hbcost i b hb
          refine x_iload_n dX9_layBest_55 rfl ?_
          refine x_aload_n dX9_layBest_56 rfl ?_
          refine g_I (s0_42 L) fkX9_220 rfl rfl dX9_layBest_57 ?_
          refine x_as hbest.1 ?_
          refine n_icmp_lt 82 dX9_layBest_60 rfl (by omega) (by omega) (fun y1 => ?_) (fun y1 => ?_)
          · refine x_aload_n dX9_layBest_82 rfl ?_
            refine x_iload_n dX9_layBest_83 rfl ?_
            refine g_P (s0_42 L) fkX9_220 rfl rfl rfl rfl dX9_layBest_84 ?_
            refine x_aload_n dX9_layBest_87 rfl ?_
            refine x_aload_n dX9_layBest_88 rfl ?_
            refine g_I (s0_42 L) fkX9_177 rfl rfl dX9_layBest_89 ?_
            refine x_as q5.1 ?_
            refine g_P (s0_42 L) fkX9_226 rfl rfl rfl rfl dX9_layBest_92 ?_
            refine x_iconst dX9_layBest_95 iconst_0 ?_
            refine x_istore_n dX9_layBest_96 (by decide) rfl ?_
            refine x_mask [true, true, true, true] ?_
            refine m_bestCopy hl3 (r := (lcS ng i 3).2.2.2) (m := (lcS ng i 3).2.2.1) ⟨q5.1, q5.2⟩ (fun M4 t1 t2 => ?_)
            refine n_inc dX9_layBest_123 rfl rfl ?_
            refine x_goto 17 dX9_layBest_126 rfl ?_
            refine x_mask [true, true, false, false] ?_
            have e9 : (bsS ng (fun m r => cst w h ht G r m rk T U nz) (i + 1)) = ((bsS ng (fun m r => cst w h ht G r m rk T U nz) i).1 + (if (cst w h ht G (lcS ng i 3).2.2.2 (lcS ng i 3).2.2.1 rk T U nz) = 0 then 1 else 0), some ((cst w h ht G (lcS ng i 3).2.2.2 (lcS ng i 3).2.2.1 rk T U nz), (lcS ng i 3).2.2.1, (lcS ng i 3).2.2.2)) := bs_take hmay (fun b2 z => by rw [hb] at z; cases z; exact Or.inl y1)
            have ih2 := ih M4 ((((q1.set _ (by decide)).set _ (by decide)).trans (t1.sub (by decide)))) (fun j a1 a2 a3 a4 => ?_) ((q3.kept (M1 := M4) (t1 53 (by decide)) (t1 54 (by decide))))
            · refine ih2 ?_
              rw [e9]
              refine ⟨?_, ?_, ?_, t2⟩
              · rw [t1 42 (by decide)]; exact hfit
              · rw [t1 42 (by decide)]; rfl
              · rw [t1 42 (by decide)]; rfl
            · rw [t1 42 (by decide)]
              exact ((upd_ne _ _ a4).trans (upd_ne _ _ a3)).trans (q2 j a1 a2 a3 a4)
          · refine x_iload_n dX9_layBest_63 rfl ?_
            refine x_aload_n dX9_layBest_64 rfl ?_
            refine g_I (s0_42 L) fkX9_220 rfl rfl dX9_layBest_65 ?_
            refine x_as hbest.1 ?_
            refine n_icmp_ne 123 dX9_layBest_68 rfl (by omega) (by omega) (fun y2 => ?_) (fun y2 => ?_)
            · refine n_inc dX9_layBest_123 rfl rfl ?_
              refine x_goto 17 dX9_layBest_126 rfl ?_
              refine x_mask [true, true, false, false] ?_
              have e9 : (bsS ng (fun m r => cst w h ht G r m rk T U nz) (i + 1)) = ((bsS ng (fun m r => cst w h ht G r m rk T U nz) i).1 + (if (cst w h ht G (lcS ng i 3).2.2.2 (lcS ng i 3).2.2.1 rk T U nz) = 0 then 1 else 0), some b) := bs_keep hmay hb (fun z => by dsimp only at z; omega)
              have ih2 := ih M3 q1 q2 q3
              rw [e9] at ih2
              exact ih2 ⟨hfit, hbest⟩
            · refine x_aload_n dX9_layBest_71 rfl ?_
              refine g_I (s0_42 L) fkX9_177 rfl rfl dX9_layBest_72 ?_
              refine x_as q5.1 ?_
              refine x_aload_n dX9_layBest_75 rfl ?_
              refine g_I (s0_42 L) fkX9_226 rfl rfl dX9_layBest_76 ?_
              refine x_as hbest.2.1 ?_
              refine n_icmp_ge 123 dX9_layBest_79 rfl (by omega) (by omega) (fun y3 => ?_) (fun y3 => ?_)
              · refine n_inc dX9_layBest_123 rfl rfl ?_
                refine x_goto 17 dX9_layBest_126 rfl ?_
                refine x_mask [true, true, false, false] ?_
                have e9 : (bsS ng (fun m r => cst w h ht G r m rk T U nz) (i + 1)) = ((bsS ng (fun m r => cst w h ht G r m rk T U nz) i).1 + (if (cst w h ht G (lcS ng i 3).2.2.2 (lcS ng i 3).2.2.1 rk T U nz) = 0 then 1 else 0), some b) := bs_keep hmay hb (fun z => by dsimp only at z; omega)
                have ih2 := ih M3 q1 q2 q3
                rw [e9] at ih2
                exact ih2 ⟨hfit, hbest⟩
              · refine x_aload_n dX9_layBest_82 rfl ?_
                refine x_iload_n dX9_layBest_83 rfl ?_
                refine g_P (s0_42 L) fkX9_220 rfl rfl rfl rfl dX9_layBest_84 ?_
                refine x_aload_n dX9_layBest_87 rfl ?_
                refine x_aload_n dX9_layBest_88 rfl ?_
                refine g_I (s0_42 L) fkX9_177 rfl rfl dX9_layBest_89 ?_
                refine x_as q5.1 ?_
                refine g_P (s0_42 L) fkX9_226 rfl rfl rfl rfl dX9_layBest_92 ?_
                refine x_iconst dX9_layBest_95 iconst_0 ?_
                refine x_istore_n dX9_layBest_96 (by decide) rfl ?_
                refine x_mask [true, true, true, true] ?_
                refine m_bestCopy hl3 (r := (lcS ng i 3).2.2.2) (m := (lcS ng i 3).2.2.1) ⟨q5.1, q5.2⟩ (fun M4 t1 t2 => ?_)
                refine n_inc dX9_layBest_123 rfl rfl ?_
                refine x_goto 17 dX9_layBest_126 rfl ?_
                refine x_mask [true, true, false, false] ?_
                have e9 : (bsS ng (fun m r => cst w h ht G r m rk T U nz) (i + 1)) = ((bsS ng (fun m r => cst w h ht G r m rk T U nz) i).1 + (if (cst w h ht G (lcS ng i 3).2.2.2 (lcS ng i 3).2.2.1 rk T U nz) = 0 then 1 else 0), some ((cst w h ht G (lcS ng i 3).2.2.2 (lcS ng i 3).2.2.1 rk T U nz), (lcS ng i 3).2.2.1, (lcS ng i 3).2.2.2)) := bs_take hmay (fun b2 z => by rw [hb] at z; cases z; exact Or.inr ⟨y2, y3⟩)
                have ih2 := ih M4 ((((q1.set _ (by decide)).set _ (by decide)).trans (t1.sub (by decide)))) (fun j a1 a2 a3 a4 => ?_) ((q3.kept (M1 := M4) (t1 53 (by decide)) (t1 54 (by decide))))
                · refine ih2 ?_
                  rw [e9]
                  refine ⟨?_, ?_, ?_, t2⟩
                  · rw [t1 42 (by decide)]; exact hfit
                  · rw [t1 42 (by decide)]; rfl
                  · rw [t1 42 (by decide)]; rfl
                · rw [t1 42 (by decide)]
                  exact ((upd_ne _ _ a4).trans (upd_ne _ _ a3)).trans (q2 j a1 a2 a3 a4)
      refine x_iload_n dX9_layBest_17 rfl ?_
      refine x_sipush dX9_layBest_18 sipush_343 ?_
      refine n_icmp_ge 129 dX9_layBest_21 rfl (by omega) (by omega) (fun h1 => by omega) (fun h1 => ?_)
      refine x_aload_n dX9_layBest_24 rfl ?_
      refine x_iload_n dX9_layBest_25 rfl ?_
      refine cV1 (mj := mX9_layCode) lkX9_223 okX9_layCode imX9_layCode seX9_layCode (s0_42 L) rfl rfl rfl rfl rfl dX9_layBest_26 rfl (m_layCode hng ((g2 8 (by decide) (by decide) (by decide) (by decide)).trans K.2.2.2.1) (by omega) (fun M2 k1 k2 k3 => ?_))
      have q1 : Fr [42, 53, 54, 57, 62] M M2 := g1.trans (k1.sub (by decide))
      have q2 : ∀ j, j ≠ 18 → j ≠ 25 → j ≠ 26 → j ≠ 27 → M2 42 j = M 42 j := fun j a1 a2 a3 a4 => (k2 j a1).trans (g2 j a1 a2 a3 a4)
      have q3 : LdM M2 w h ng ht G := g3.kept (k1 53 (by decide)) (k1 54 (by decide))
      have q4 : BsM M2 (bsS ng (fun m r => cst w h ht G r m rk T U nz) i) := by
        obtain ⟨x1, x2⟩ := g4
        refine ⟨by rw [k2 25 (by decide)]; exact x1, ?_⟩
        cases hb : (bsS ng (fun m r => cst w h ht G r m rk T U nz) i).2 with
        | none => rw [hb] at x2; simp only at x2 ⊢; rw [k2 26 (by decide)]; exact x2
        | some b => rw [hb] at x2; simp only at x2 ⊢; rw [k2 26 (by decide), k2 27 (by decide), k1 62 (by decide)]; exact x2
      have hl3 := lcS_m ng i 3
      refine b_if_eq 123 dX9_layBest_29 rfl (fun z1 => ?_) (fun z1 => ?_)
      · refine n_inc dX9_layBest_123 rfl rfl ?_
        refine x_goto 17 dX9_layBest_126 rfl ?_
        refine x_mask [true, true, false, false] ?_
        have e9 : (bsS ng (fun m r => cst w h ht G r m rk T U nz) (i + 1)) = (bsS ng (fun m r => cst w h ht G r m rk T U nz) i) := bs_skip z1
        have ih2 := ih M2 q1 q2 q3
        rw [e9] at ih2
        exact ih2 q4
      · refine x_aload_n dX9_layBest_32 rfl ?_
        refine cV0 (mj := mX9_costOf) lkX9_213 okX9_costOf imX9_costOf seX9_costOf (s0_42 L) rfl rfl rfl rfl rfl dX9_layBest_33 rfl (m_costOf V (K.kept2 (fun q hq => q1 q (by revert q; decide)) (fun j hj => q2 j (by revert j; decide) (by revert j; decide) (by revert j; decide) (by revert j; decide))) q3 ⟨by omega, lcS_may 3 z1⟩ k3 SV (SM.kept (fun q hq => q1 q (by revert q; decide)) (q2 4 (by decide) (by decide) (by decide) (by decide))) ZV (ZM.kept (fun q hq => q1 q (by revert q; decide)) (q2 20 (by decide) (by decide) (by decide) (by decide))) ?_)
        refine x_istore_n dX9_layBest_36 (by decide) rfl ?_
        refine x_aload_n dX9_layBest_37 rfl ?_
        refine x_dup dX9_layBest_38 rfl ?_
        refine g_I (s0_42 L) fkX9_216 rfl rfl dX9_layBest_39 ?_
        refine x_as q4.1 ?_
        refine x_iload_n dX9_layBest_42 rfl ?_
        refine n_if_ne 50 dX9_layBest_43 rfl (by have := cst_le (w := w) (h := h) (ht := ht) (G := G) (r := (lcS ng i 3).2.2.2) (m := (lcS ng i 3).2.2.1) (rk := rk) (T := T) ZV (Nat.le_refl nz); omega) (fun z2 => ?_) (fun z2 => ?_)
        · refine x_iconst dX9_layBest_50 iconst_0 ?_
          refine n_iadd dX9_layBest_51 ?_
          refine g_P (s0_42 L) fkX9_216 rfl rfl rfl rfl dX9_layBest_52 ?_
          refine tl _ (q1.set _ (by decide)) (fun j a1 a2 a3 a4 => (upd_ne _ _ a2).trans (q2 j a1 a2 a3 a4)) q3 k3 z1 ?_ ?_
          · rw [if_neg z2]
            rfl
          · exact q4.2
        · refine x_iconst dX9_layBest_46 iconst_1 ?_
          refine x_goto 51 dX9_layBest_47 rfl ?_
          refine n_iadd dX9_layBest_51 ?_
          refine g_P (s0_42 L) fkX9_216 rfl rfl rfl rfl dX9_layBest_52 ?_
          refine tl _ (q1.set _ (by decide)) (fun j a1 a2 a3 a4 => (upd_ne _ _ a2).trans (q2 j a1 a2 a3 a4)) q3 k3 z1 ?_ ?_
          · rw [if_pos z2]
            rfl
          · exact q4.2
  refine x_aload_n dX9_layBest_0 rfl ?_
  refine cV0 (mj := mX9_layGoes) lkX9_160 okX9_layGoes imX9_layGoes seX9_layGoes (s0_42 L) rfl rfl rfl rfl rfl dX9_layBest_1 rfl (m_layGoes V K (fun M1 k1 k2 => ?_))
  refine x_aload_n dX9_layBest_4 rfl ?_
  refine x_iconst dX9_layBest_5 iconst_0 ?_
  refine g_P (s0_42 L) fkX9_216 rfl rfl rfl rfl dX9_layBest_6 ?_
  refine x_aload_n dX9_layBest_9 rfl ?_
  refine x_ldc kcX9_219 dX9_layBest_10 ?_
  refine g_P (s0_42 L) fkX9_220 rfl rfl rfl rfl dX9_layBest_12 ?_
  refine x_iconst dX9_layBest_15 iconst_0 ?_
  refine x_istore_n dX9_layBest_16 (by decide) rfl ?_
  refine l1 _ (((k1.sub (by decide)).set _ (by decide)).set _ (by decide)) (fun j a1 a2 a3 a4 => ?_) (k2.kept rfl rfl) ⟨rfl, rfl⟩
  exact ((upd_ne _ _ a3).trans (upd_ne _ _ a2)).trans (congrFun (k1 42 (by decide)) j)

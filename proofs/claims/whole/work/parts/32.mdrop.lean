def setOv (O : Nat → Nat) (s t : Nat) (b : Bool) : Nat → Nat := fun i => if i = s then (if b then O s ||| 2 ^ t else O s &&& (2 ^ t ^^^ 1023)) else O i
set_option maxRecDepth 100000 in
set_option maxHeartbeats 4000000 in
theorem m_over {E : vE} {l : Launch} {Q : Option Value → vS → vM → Prop} {L : Nat} {M : vM} {w h : Nat} {ht rk : Nat → Nat} {ns : Nat} {T : Nat → vT} {ng : Nat} {G : Nat → vQ} {Rw : Nat → Nat × (Nat → Nat)} {nz : Nat} {U : Nat → vU} {O : Nat → Nat} (VV : Val w h ht rk ns T ng G Rw nz U O) (RR : RepM M w h ht rk ns T ng G Rw nz U O) {x y : Int32} {b : Bool} (hN : ¬ (INr 0 9 x ∧ INr 0 9 y) → Q (some (.int (-900001))) (S0 L) M) (hS : ∀ s t : Nat, (0 ≤ s ∧ s ≤ 9) → (0 ≤ t ∧ t ≤ 9) → x = nI s → y = nI t → s = t → Q (some (.int (-900003))) (S0 L) M) (hY : ∀ s t : Nat, (0 ≤ s ∧ s ≤ 9) → (0 ≤ t ∧ t ≤ 9) → x = nI s → y = nI t → s ≠ t → ∀ M1 : vM, (∀ q, q < 42 → M1 q = M q) → RepM M1 w h ht rk ns T ng G Rw nz U (setOv O s t b) → Q (some (.int (nI (b1 ((O s).testBit t))))) (S0 L) M1) : PM E l mX9_over 0 [.ref 42, .int x, .int y, .int (bI b), .null] [] (S0 L) M 0 0 Q := by
  obtain ⟨V, SVv, ZV, RV, OV⟩ := VV
  obtain ⟨K, SM, ZM, RO, OM⟩ := RR
  have H := V.1
  have e4 := H.le
  have e6 := H.pos
  have hng := V.2.2.1
  have hns := SVv.1
  have hnz := ZV.1
  refine x_iload_n dX9_over_0 rfl ?_
  refine cS1 (mj := mX9_isLayer) lkX9_238 okX9_isLayer stX9_isLayer rfl rfl rfl rfl dX9_over_1 rfl (m_isLayer _ (fun b0 b0h => ?_))
  have k0 := in_two (x := 0) b0h
  refine b_if_eq 14 dX9_over_4 rfl (fun z0 => ?_) (fun z0 => ?_)
  · refine x_ldc kcX9_122 dX9_over_14 ?_
    refine x_iret dX9_over_16 rfl rfl ?_
    exact hN (fun z => k0.2 z0 z.1)
  · refine x_iload_n dX9_over_7 rfl ?_
    refine cS1 (mj := mX9_isLayer) lkX9_238 okX9_isLayer stX9_isLayer rfl rfl rfl rfl dX9_over_8 rfl (m_isLayer _ (fun b1 b1h => ?_))
    have k1 := in_two (x := 0) b1h
    refine b_if_ne 17 dX9_over_11 rfl (fun z1 => ?_) (fun z1 => ?_)
    · obtain ⟨s, hs, rfl⟩ := k0.1 z0
      obtain ⟨t, htt, rfl⟩ := k1.1 z1
      have ov := OV s (by omega)
      refine x_iload_n dX9_over_17 rfl ?_
      refine x_iload_n dX9_over_18 rfl ?_
      refine n_icmp_ne 25 dX9_over_19 rfl (by omega) (by omega) (fun z2 => ?_) (fun z2 => ?_)
      · refine x_aload_n dX9_over_25 rfl ?_
        refine g_R (s0_42 L) fkX9_77 rfl rfl rfl dX9_over_26 ?_
        refine x_iload_n dX9_over_29 rfl ?_
        refine n_iald (s0_65 L) (by omega) rfl dX9_over_30 ?_
        refine x_as (OM s (by omega)) ?_
        refine x_iload_n dX9_over_31 rfl ?_
        refine x_ishr dX9_over_32 ?_
        refine x_iconst dX9_over_33 iconst_1 ?_
        refine x_iand dX9_over_34 ?_
        refine x_as (bit_at (by omega) (by omega)) ?_
        refine x_istore dX9_over_35 (by decide) rfl ?_
        refine x_aload_n dX9_over_37 rfl ?_
        refine g_R (s0_42 L) fkX9_77 rfl rfl rfl dX9_over_38 ?_
        refine x_iload_n dX9_over_41 rfl ?_
        refine x_iload_n dX9_over_42 rfl ?_
        refine b_if_eq 59 dX9_over_43 rfl (fun z3 => ?_) (fun z3 => ?_)
        · refine x_aload_n dX9_over_59 rfl ?_
          refine g_R (s0_42 L) fkX9_77 rfl rfl rfl dX9_over_60 ?_
          refine x_iload_n dX9_over_63 rfl ?_
          refine n_iald (s0_65 L) (by omega) rfl dX9_over_64 ?_
          refine x_as (OM s (by omega)) ?_
          refine x_iconst dX9_over_65 iconst_1 ?_
          refine x_iload_n dX9_over_66 rfl ?_
          refine x_ishl dX9_over_67 ?_
          refine x_as (shl10 ⟨t, by omega⟩) ?_
          refine x_iconst dX9_over_68 iconst_m1 ?_
          refine x_ixor dX9_over_69 ?_
          refine x_iand dX9_over_70 ?_
          refine x_as (without ov.1) ?_
          refine n_iast rfl (s0_65 L) (by omega) rfl dX9_over_71 ?_
          refine x_iload dX9_over_72 rfl ?_
          refine x_iret dX9_over_74 rfl rfl ?_
          refine hY s t hs htt rfl rfl z2 _ (fun q hq => sM_ne _ _ _ (by omega)) ⟨K, SM, ZM, RO, fun i hi => ?_⟩
          show upd (M 65) s (nI (O s &&& (2 ^ t ^^^ 1023))) i = nI (if i = s then (if b then O s ||| 2 ^ t else O s &&& (2 ^ t ^^^ 1023)) else O i)
          by_cases e : i = s
          · rw [e, if_pos rfl, upd_at, z3]; rfl
          · rw [if_neg e, upd_ne _ _ e]; exact OM i hi
        · refine x_aload_n dX9_over_46 rfl ?_
          refine g_R (s0_42 L) fkX9_77 rfl rfl rfl dX9_over_47 ?_
          refine x_iload_n dX9_over_50 rfl ?_
          refine n_iald (s0_65 L) (by omega) rfl dX9_over_51 ?_
          refine x_as (OM s (by omega)) ?_
          refine x_iconst dX9_over_52 iconst_1 ?_
          refine x_iload_n dX9_over_53 rfl ?_
          refine x_ishl dX9_over_54 ?_
          refine x_as (shl10 ⟨t, by omega⟩) ?_
          refine x_ior dX9_over_55 ?_
          refine x_as (fa_or _ _) ?_
          refine x_goto 71 dX9_over_56 rfl ?_
          refine n_iast rfl (s0_65 L) (by omega) rfl dX9_over_71 ?_
          refine x_iload dX9_over_72 rfl ?_
          refine x_iret dX9_over_74 rfl rfl ?_
          refine hY s t hs htt rfl rfl z2 _ (fun q hq => sM_ne _ _ _ (by omega)) ⟨K, SM, ZM, RO, fun i hi => ?_⟩
          show upd (M 65) s (nI (O s ||| 2 ^ t)) i = nI (if i = s then (if b then O s ||| 2 ^ t else O s &&& (2 ^ t ^^^ 1023)) else O i)
          by_cases e : i = s
          · rw [e, if_pos rfl, upd_at, z3]; rfl
          · rw [if_neg e, upd_ne _ _ e]; exact OM i hi
      · refine x_ldc kcX9_176 dX9_over_22 ?_
        refine x_iret dX9_over_24 rfl rfl ?_
        exact hS s t hs htt rfl rfl z2
    · refine x_ldc kcX9_122 dX9_over_14 ?_
      refine x_iret dX9_over_16 rfl rfl ?_
      exact hN (fun z => k1.2 z1 z.2)
set_option maxRecDepth 100000 in
set_option maxHeartbeats 4000000 in
theorem m_above {E : vE} {l : Launch} {Q : Option Value → vS → vM → Prop} {L : Nat} {M : vM} {w h : Nat} {ht rk : Nat → Nat} {ns : Nat} {T : Nat → vT} {ng : Nat} {G : Nat → vQ} {Rw : Nat → Nat × (Nat → Nat)} {nz : Nat} {U : Nat → vU} {O : Nat → Nat} (VV : Val w h ht rk ns T ng G Rw nz U O) (RR : RepM M w h ht rk ns T ng G Rw nz U O) {x y : Int32} (hN : ¬ (INr 0 9 x ∧ INr 0 9 y) → Q (some (.int (-900001))) (S0 L) M) (hY : ∀ s t : Nat, (0 ≤ s ∧ s ≤ 9) → (0 ≤ t ∧ t ≤ 9) → x = nI s → y = nI t → ∀ M1 : vM, (∀ q, q < 42 → M1 q = M q) → RepM M1 w h ht rk ns T ng G Rw nz U O → Q (some (.int (nI (b1 (tcB (eOv O 0) s t))))) (S0 L) M1) : PM E l mX9_above 0 [.ref 42, .int x, .int y, .null] [] (S0 L) M 0 0 Q := by
  have RR0 := RR
  have VV0 := VV
  obtain ⟨V, SVv, ZV, RV, OV⟩ := VV
  obtain ⟨K, SM, ZM, RO, OM⟩ := RR
  have H := V.1
  have e4 := H.le
  have e6 := H.pos
  have hng := V.2.2.1
  have hns := SVv.1
  have hnz := ZV.1
  refine x_iload_n dX9_above_0 rfl ?_
  refine cS1 (mj := mX9_isLayer) lkX9_238 okX9_isLayer stX9_isLayer rfl rfl rfl rfl dX9_above_1 rfl (m_isLayer _ (fun b0 b0h => ?_))
  have k0 := in_two (x := 0) b0h
  refine b_if_eq 14 dX9_above_4 rfl (fun z0 => ?_) (fun z0 => ?_)
  · refine x_ldc kcX9_122 dX9_above_14 ?_
    refine x_iret dX9_above_16 rfl rfl ?_
    exact hN (fun z => k0.2 z0 z.1)
  · refine x_iload_n dX9_above_7 rfl ?_
    refine cS1 (mj := mX9_isLayer) lkX9_238 okX9_isLayer stX9_isLayer rfl rfl rfl rfl dX9_above_8 rfl (m_isLayer _ (fun b1 b1h => ?_))
    have k1 := in_two (x := 0) b1h
    refine b_if_ne 17 dX9_above_11 rfl (fun z1 => ?_) (fun z1 => ?_)
    · obtain ⟨s, hs, rfl⟩ := k0.1 z0
      obtain ⟨t, htt, rfl⟩ := k1.1 z1
      have ov := OV s (by omega)
      refine x_aload_n dX9_above_17 rfl ?_
      refine x_iconst dX9_above_18 iconst_0 ?_
      refine cV1 (mj := mX9_layUnder) lkX9_241 okX9_layUnder imX9_layUnder seX9_layUnder (s0_42 L) rfl rfl rfl rfl rfl dX9_above_19 rfl (m_layUnder OV OM (x := 0) (by omega) (fun M1 u y1 y2 y3 => ?_))
      have R1 := RR0.scr y1 (by decide) (fun j hj => congrFun (y1 42 (by decide)) j)
      have L1 := low_of y1 (by decide)
      refine x_istore_n dX9_above_22 (by decide) rfl ?_
      refine x_aload_n dX9_above_23 rfl ?_
      refine g_R (s0_42 L) fkX9_80 rfl rfl rfl dX9_above_24 ?_
      refine x_iload_n dX9_above_27 rfl ?_
      refine n_iald (s0_66 L) (by omega) rfl dX9_above_28 ?_
      refine x_as (y2 s (by omega)).1 ?_
      refine x_iload_n dX9_above_29 rfl ?_
      refine x_ishr dX9_above_30 ?_
      refine x_iconst dX9_above_31 iconst_1 ?_
      refine x_iand dX9_above_32 ?_
      refine x_as (bit_at (by have := (y2 s (by omega)).2; omega) (by omega)) ?_
      refine x_iret dX9_above_33 rfl rfl ?_
      have h9 := hY s t hs htt rfl rfl M1 L1 R1
      rw [← y3 s t (by omega) (by omega)] at h9
      exact h9
    · refine x_ldc kcX9_122 dX9_above_14 ?_
      refine x_iret dX9_above_16 rfl rfl ?_
      exact hN (fun z => k1.2 z1 z.2)
set_option maxRecDepth 100000 in
set_option maxHeartbeats 4000000 in
theorem m_ring {E : vE} {l : Launch} {Q : Option Value → vS → vM → Prop} {L : Nat} {M : vM} {w h : Nat} {ht rk : Nat → Nat} {ns : Nat} {T : Nat → vT} {ng : Nat} {G : Nat → vQ} {Rw : Nat → Nat × (Nat → Nat)} {nz : Nat} {U : Nat → vU} {O : Nat → Nat} (VV : Val w h ht rk ns T ng G Rw nz U O) (RR : RepM M w h ht rk ns T ng G Rw nz U O) (hY : ∀ M1 : vM, (∀ q, q < 42 → M1 q = M q) → RepM M1 w h ht rk ns T ng G Rw nz U O → Q (some (.int (nI (ctt (fun k => tcB (eOv O 0) k k) 10)))) (S0 L) M1) : PM E l mX9_ring 0 [.ref 42] [] (S0 L) M 0 0 Q := by
  have RR0 := RR
  have VV0 := VV
  obtain ⟨V, SVv, ZV, RV, OV⟩ := VV
  obtain ⟨K, SM, ZM, RO, OM⟩ := RR
  have H := V.1
  have e4 := H.le
  have e6 := H.pos
  have hng := V.2.2.1
  have hns := SVv.1
  have hnz := ZV.1
  refine x_aload_n dX9_ring_0 rfl ?_
  refine x_iconst dX9_ring_1 iconst_0 ?_
  refine cV1 (mj := mX9_layUnder) lkX9_241 okX9_layUnder imX9_layUnder seX9_layUnder (s0_42 L) rfl rfl rfl rfl rfl dX9_ring_2 rfl (m_layUnder OV OM (x := 0) (by omega) (fun M1 u y1 y2 y3 => ?_))
  have R1 := RR0.scr y1 (by decide) (fun j hj => congrFun (y1 42 (by decide)) j)
  have L1 := low_of y1 (by decide)
  refine x_iret dX9_ring_5 rfl rfl ?_
  exact hY M1 L1 R1
def on10 (s : Nat) : Nat := ctt (fun k => s.testBit k) 10
/-- the least bit in which they differ is s's -/
def frI (s t : Nat) : Bool := !decide (((nI s &&& nI (s ^^^ t)) &&& -nI (s ^^^ t)) = 0)
noncomputable def acy (O : Nat → Nat) (s : Nat) : Bool := decide (ctt (fun k => tcB (eOv O s) k k) 10 = 0)
def bet (s t : Nat) : Bool := decide (on10 s < on10 t) || (decide (on10 s = on10 t) && frI s t)
noncomputable def fwS (O : Nat → Nat) (n : Nat) : Nat := itr (fun s b => if bet s b && acy O s then s else b) n 1023
theorem fwS_lt {O : Nat → Nat} : ∀ n, n ≤ 1023 → fwS O n < 1024
  | 0, _ => by show 1023 < 1024; omega
  | n + 1, h => by
    have := fwS_lt (O := O) n (by omega)
    show (if _ then n else fwS O n) < 1024
    split <;> omega
theorem fwS_no {O : Nat → Nat} {i : Nat} (h : (bet i (fwS O i) && acy O i) = false) : fwS O (i + 1) = fwS O i := by
  show (if (bet i (fwS O i) && acy O i) = true then i else fwS O i) = _
  rw [h]; rfl
theorem fwS_yes {O : Nat → Nat} {i : Nat} (h : (bet i (fwS O i) && acy O i) = true) : fwS O (i + 1) = i := by
  show (if (bet i (fwS O i) && acy O i) = true then i else fwS O i) = _
  rw [h]; rfl
theorem acy_f {O : Nat → Nat} {i : Nat} (h : ¬ ctt (fun k => tcB (eOv O i) k k) 10 = 0) : acy O i = false := decide_eq_false h
theorem acy_t {O : Nat → Nat} {i : Nat} (h : ctt (fun k => tcB (eOv O i) k k) 10 = 0) : acy O i = true := decide_eq_true h
theorem on10_le (s : Nat) : on10 s ≤ 10 := ctt_le _ 10
set_option maxRecDepth 100000 in
set_option maxHeartbeats 4000000 in
theorem m_fewest {E : vE} {l : Launch} {Q : Option Value → vS → vM → Prop} {L : Nat} {M : vM} {O : Nat → Nat} (OV : ∀ a, a < 10 → O a < 1024 ∧ (O a).testBit a = false) (OM : OvM M O) (hQ : ∀ M1 : vM, Fr [66] M M1 → Q (some (.int (nI (fwS O 1023)))) (S0 L) M1) : PM E l mX9_fewest 0 [.ref 42, .null, .null, .null, .null, .null] [] (S0 L) M 0 0 Q := by
  have l1 : ∀ M1 : vM, Fr [66] M M1 → PM E l mX9_fewest 6 [.ref 42, .int (nI (fwS O 0)), .int (nI 0), .null, .null, .null] [] (S0 L) M1 0 0 Q := by
    refine lp_up (P := fun i => ∀ M1 : vM, Fr [66] M M1 → PM E l mX9_fewest 6 [.ref 42, .int (nI (fwS O i)), .int (nI i), .null, .null, .null] [] (S0 L) M1 0 0 Q) 1023 ?_ ?_ 0 (by omega)
    · intro M1 g1
      refine x_iload_n dX9_fewest_6 rfl ?_
      refine x_sipush dX9_fewest_7 sipush_1023 ?_
      refine n_icmp_ge 92 dX9_fewest_10 rfl (by omega) (by omega) (fun h1 => ?_) (fun h1 => by omega)
      refine x_iload_n dX9_fewest_92 rfl ?_
      refine x_iret dX9_fewest_93 rfl rfl ?_
      exact hQ M1 g1
    · intro i hi ih M1 g1
      have hf := fwS_lt (O := O) i (by omega)
      have s3 : PM E l mX9_fewest 67 [.ref 42, .int (nI (fwS O i)), .int (nI i), .int (nI (i ^^^ (fwS O i))), .int (bI (frI i (fwS O i))), .int (bI (bet i (fwS O i)))] [] (S0 L) M1 0 0 Q := by
        refine x_iload dX9_fewest_67 rfl ?_
        refine b_if_eq 84 dX9_fewest_69 rfl (fun x1 => ?_) (fun x1 => ?_)
        · refine x_iload_n dX9_fewest_84 rfl ?_
          refine x_istore_n dX9_fewest_85 (by decide) rfl ?_
          refine n_inc dX9_fewest_86 rfl rfl ?_
          refine x_goto 6 dX9_fewest_89 rfl ?_
          refine x_mask [true, true, true, false, false, false] ?_
          have ih2 := ih M1 g1
          rw [show (fwS O (i + 1)) = (fwS O i) from fwS_no (by rw [x1]; rfl)] at ih2
          exact ih2
        · refine x_aload_n dX9_fewest_72 rfl ?_
          refine x_iload_n dX9_fewest_73 rfl ?_
          refine cV1 (mj := mX9_layUnder) lkX9_241 okX9_layUnder imX9_layUnder seX9_layUnder (s0_42 L) rfl rfl rfl rfl rfl dX9_fewest_74 rfl (m_layUnder OV (fun a ha => (congrFun (g1 65 (by decide)) a).trans (OM a ha)) (x := i) (by omega) (fun M2 u y1 y2 y3 => ?_))
          refine n_if_ne 84 dX9_fewest_77 rfl (by have := ctt_le (fun k => tcB (eOv O i) k k) 10; omega) (fun x2 => ?_) (fun x2 => ?_)
          · refine x_iload_n dX9_fewest_84 rfl ?_
            refine x_istore_n dX9_fewest_85 (by decide) rfl ?_
            refine n_inc dX9_fewest_86 rfl rfl ?_
            refine x_goto 6 dX9_fewest_89 rfl ?_
            refine x_mask [true, true, true, false, false, false] ?_
            have ih2 := ih M2 (g1.trans y1)
            rw [show (fwS O (i + 1)) = (fwS O i) from fwS_no (by rw [acy_f x2, Bool.and_false])] at ih2
            exact ih2
          · refine x_iload_n dX9_fewest_80 rfl ?_
            refine x_goto 85 dX9_fewest_81 rfl ?_
            refine x_istore_n dX9_fewest_85 (by decide) rfl ?_
            refine n_inc dX9_fewest_86 rfl rfl ?_
            refine x_goto 6 dX9_fewest_89 rfl ?_
            refine x_mask [true, true, true, false, false, false] ?_
            have ih2 := ih M2 (g1.trans y1)
            rw [show (fwS O (i + 1)) = i from fwS_yes (by rw [x1, acy_t x2]; rfl)] at ih2
            exact ih2
      have s2 : PM E l mX9_fewest 33 [.ref 42, .int (nI (fwS O i)), .int (nI i), .int (nI (i ^^^ (fwS O i))), .int (bI (frI i (fwS O i))), .null] [] (S0 L) M1 0 0 Q := by
        refine x_iload_n dX9_fewest_33 rfl ?_
        refine cS1 (mj := mX9_ones) lkX9_244 okX9_ones stX9_ones rfl rfl rfl rfl dX9_fewest_34 rfl (m_ones (x := i) (by omega) ?_)
        refine x_iload_n dX9_fewest_37 rfl ?_
        refine cS1 (mj := mX9_ones) lkX9_244 okX9_ones stX9_ones rfl rfl rfl rfl dX9_fewest_38 rfl (m_ones (x := (fwS O i)) (hf) ?_)
        refine n_icmp_lt 60 dX9_fewest_41 rfl (by have := on10_le i; show on10 i < 2 ^ 31; omega) (by have := on10_le (fwS O i); show on10 (fwS O i) < 2 ^ 31; omega) (fun w1 => ?_) (fun w1 => ?_)
        · refine x_iconst dX9_fewest_60 iconst_1 ?_
          refine x_goto 65 dX9_fewest_61 rfl ?_
          refine x_istore dX9_fewest_65 (by decide) rfl ?_
          have s4 := s3
          rw [show bet i (fwS O i) = true from by unfold bet; rw [decide_eq_true (show on10 i < on10 (fwS O i) from w1)]; rfl] at s4
          exact s4
        · refine x_iload_n dX9_fewest_44 rfl ?_
          refine cS1 (mj := mX9_ones) lkX9_244 okX9_ones stX9_ones rfl rfl rfl rfl dX9_fewest_45 rfl (m_ones (x := i) (by omega) ?_)
          refine x_iload_n dX9_fewest_48 rfl ?_
          refine cS1 (mj := mX9_ones) lkX9_244 okX9_ones stX9_ones rfl rfl rfl rfl dX9_fewest_49 rfl (m_ones (x := (fwS O i)) (hf) ?_)
          refine n_icmp_ne 64 dX9_fewest_52 rfl (by have := on10_le i; show on10 i < 2 ^ 31; omega) (by have := on10_le (fwS O i); show on10 (fwS O i) < 2 ^ 31; omega) (fun w2 => ?_) (fun w2 => ?_)
          · refine x_iconst dX9_fewest_64 iconst_0 ?_
            refine x_istore dX9_fewest_65 (by decide) rfl ?_
            have s4 := s3
            rw [show bet i (fwS O i) = false from by unfold bet; rw [decide_eq_false (show ¬ on10 i < on10 (fwS O i) from Nat.not_lt.mpr w1), decide_eq_false (show ¬ on10 i = on10 (fwS O i) from w2)]; rfl] at s4
            exact s4
          · refine x_iload dX9_fewest_55 rfl ?_
            refine b_if_eq 64 dX9_fewest_57 rfl (fun w3 => ?_) (fun w3 => ?_)
            · refine x_iconst dX9_fewest_64 iconst_0 ?_
              refine x_istore dX9_fewest_65 (by decide) rfl ?_
              have s4 := s3
              rw [show bet i (fwS O i) = false from by unfold bet; rw [decide_eq_false (show ¬ on10 i < on10 (fwS O i) from Nat.not_lt.mpr w1), decide_eq_true (show on10 i = on10 (fwS O i) from w2), w3]; rfl] at s4
              exact s4
            · refine x_iconst dX9_fewest_60 iconst_1 ?_
              refine x_goto 65 dX9_fewest_61 rfl ?_
              refine x_istore dX9_fewest_65 (by decide) rfl ?_
              have s4 := s3
              rw [show bet i (fwS O i) = true from by unfold bet; rw [decide_eq_false (show ¬ on10 i < on10 (fwS O i) from Nat.not_lt.mpr w1), decide_eq_true (show on10 i = on10 (fwS O i) from w2), w3]; rfl] at s4
              exact s4
      refine x_iload_n dX9_fewest_6 rfl ?_
      refine x_sipush dX9_fewest_7 sipush_1023 ?_
      refine n_icmp_ge 92 dX9_fewest_10 rfl (by omega) (by omega) (fun h1 => by omega) (fun h1 => ?_)
      refine x_iload_n dX9_fewest_13 rfl ?_
      refine x_iload_n dX9_fewest_14 rfl ?_
      refine x_ixor dX9_fewest_15 ?_
      refine x_as (fb_xorI _ _) ?_
      refine x_istore_n dX9_fewest_16 (by decide) rfl ?_
      refine x_iload_n dX9_fewest_17 rfl ?_
      refine x_iload_n dX9_fewest_18 rfl ?_
      refine x_iand dX9_fewest_19 ?_
      refine x_as rfl ?_
      refine x_iload_n dX9_fewest_20 rfl ?_
      refine x_ineg dX9_fewest_21 ?_
      refine x_iand dX9_fewest_22 ?_
      refine x_if_eq 30 dX9_fewest_23 rfl (fun v1 => ?_) (fun v1 => ?_)
      · refine x_iconst dX9_fewest_30 iconst_0 ?_
        refine x_istore dX9_fewest_31 (by decide) rfl ?_
        have s4 := s2
        rw [show (frI i (fwS O i)) = false from by unfold frI; rw [decide_eq_true v1]; rfl] at s4
        exact s4
      · refine x_iconst dX9_fewest_26 iconst_1 ?_
        refine x_goto 31 dX9_fewest_27 rfl ?_
        refine x_istore dX9_fewest_31 (by decide) rfl ?_
        have s4 := s2
        rw [show (frI i (fwS O i)) = true from by unfold frI; rw [decide_eq_false v1]; rfl] at s4
        exact s4
  refine x_sipush dX9_fewest_0 sipush_1023 ?_
  refine x_istore_n dX9_fewest_3 (by decide) rfl ?_
  refine x_iconst dX9_fewest_4 iconst_0 ?_
  refine x_istore_n dX9_fewest_5 (by decide) rfl ?_
  exact l1 M Fr.rf
set_option maxRecDepth 100000 in
set_option maxHeartbeats 4000000 in
theorem m_drops {E : vE} {l : Launch} {Q : Option Value → vS → vM → Prop} {L : Nat} {M : vM} {w h : Nat} {ht rk : Nat → Nat} {ns : Nat} {T : Nat → vT} {ng : Nat} {G : Nat → vQ} {Rw : Nat → Nat × (Nat → Nat)} {nz : Nat} {U : Nat → vU} {O : Nat → Nat} (VV : Val w h ht rk ns T ng G Rw nz U O) (RR : RepM M w h ht rk ns T ng G Rw nz U O) (hY : ∀ M1 : vM, (∀ q, q < 42 → M1 q = M q) → RepM M1 w h ht rk ns T ng G Rw nz U O → Q (some (.int (nI (on10 (fwS O 1023))))) (S0 L) M1) : PM E l mX9_drops 0 [.ref 42] [] (S0 L) M 0 0 Q := by
  have RR0 := RR
  have VV0 := VV
  obtain ⟨V, SVv, ZV, RV, OV⟩ := VV
  obtain ⟨K, SM, ZM, RO, OM⟩ := RR
  have H := V.1
  have e4 := H.le
  have e6 := H.pos
  have hng := V.2.2.1
  have hns := SVv.1
  have hnz := ZV.1
  refine x_aload_n dX9_drops_0 rfl ?_
  refine cV0 (mj := mX9_fewest) lkX9_247 okX9_fewest imX9_fewest seX9_fewest (s0_42 L) rfl rfl rfl rfl rfl dX9_drops_1 rfl (m_fewest OV OM (fun M1 y1 => ?_))
  have R1 := RR0.scr y1 (by decide) (fun j hj => congrFun (y1 42 (by decide)) j)
  have L1 := low_of y1 (by decide)
  have hf := fwS_lt (O := O) 1023 (by omega)
  refine cS1 (mj := mX9_ones) lkX9_244 okX9_ones stX9_ones rfl rfl rfl rfl dX9_drops_4 rfl (m_ones (x := fwS O 1023) (hf) ?_)
  refine x_iret dX9_drops_7 rfl rfl ?_
  exact hY M1 L1 R1
theorem dec_sub (x : Int32) (c : Nat) : (x - nI c) + Int32.ofInt (-1) = x - nI (c + 1) := by
  rw [nI_succ, show Int32.ofInt (-1) = -1 from by decide]
  apply Int32.toBitVec_inj.mp
  simp only [Int32.toBitVec_add, Int32.toBitVec_sub]
  rw [show (-1 : Int32).toBitVec = -(1 : Int32).toBitVec from rfl, ← BitVec.sub_eq_add_neg, BitVec.sub_sub]
theorem sub_0 {x : Int32} {c : Nat} : x - nI c = 0 ↔ nI c = x := by
  constructor
  · intro e
    have h1 := congrArg Int32.toBitVec e
    rw [Int32.toBitVec_sub] at h1
    have h2 : x.toBitVec = (nI c).toBitVec := by
      have h3 : x.toBitVec - (nI c).toBitVec = 0#32 := h1
      have h4 := congrArg (fun z => z + (nI c).toBitVec) h3
      simpa [BitVec.sub_add_cancel] using h4
    exact (Int32.toBitVec_inj.mp h2).symm
  · rintro rfl
    exact Int32.sub_self _
set_option maxRecDepth 100000 in
set_option maxHeartbeats 4000000 in
theorem m_drop {E : vE} {l : Launch} {Q : Option Value → vS → vM → Prop} {L : Nat} {M : vM} {w h : Nat} {ht rk : Nat → Nat} {ns : Nat} {T : Nat → vT} {ng : Nat} {G : Nat → vQ} {Rw : Nat → Nat × (Nat → Nat)} {nz : Nat} {U : Nat → vU} {O : Nat → Nat} (VV : Val w h ht rk ns T ng G Rw nz U O) (RR : RepM M w h ht rk ns T ng G Rw nz U O) {x : Int32} (hY : ∀ M1 : vM, (∀ q, q < 42 → M1 q = M q) → RepM M1 w h ht rk ns T ng G Rw nz U O → Q (some (.int (oI (-900009) (fnd (fun k => (fwS O 1023).testBit k) x 10)))) (S0 L) M1) : PM E l mX9_drop 0 [.ref 42, .int x, .null, .null, .null] [] (S0 L) M 0 0 Q := by
  have RR0 := RR
  have VV0 := VV
  obtain ⟨V, SVv, ZV, RV, OV⟩ := VV
  obtain ⟨K, SM, ZM, RO, OM⟩ := RR
  have H := V.1
  have e4 := H.le
  have e6 := H.pos
  have hng := V.2.2.1
  have hns := SVv.1
  have hnz := ZV.1
  refine x_aload_n dX9_drop_0 rfl ?_
  refine cV0 (mj := mX9_fewest) lkX9_247 okX9_fewest imX9_fewest seX9_fewest (s0_42 L) rfl rfl rfl rfl rfl dX9_drop_1 rfl (m_fewest OV OM (fun M1 y1 => ?_))
  have R1 := RR0.scr y1 (by decide) (fun j hj => congrFun (y1 42 (by decide)) j)
  have L1 := low_of y1 (by decide)
  have hf := fwS_lt (O := O) 1023 (by omega)
  refine x_istore_n dX9_drop_4 (by decide) rfl ?_
  refine x_iload_n dX9_drop_5 rfl ?_
  refine x_istore_n dX9_drop_6 (by decide) rfl ?_
  refine x_iconst dX9_drop_7 iconst_0 ?_
  refine x_istore dX9_drop_8 (by decide) rfl ?_
  have hneg : x < 0 → fnd (fun k => (fwS O 1023).testBit k) x 10 = none := by
    intro hx
    have key : ∀ n, n ≤ 10 → fnd (fun k => (fwS O 1023).testBit k) x n = none := by
      intro n
      induction n with
      | zero => intro _; rfl
      | succ n ihn => intro hn; exact fnd_no (ihn (by omega)) (fun z => by rw [← z.2] at hx; exact absurd hx (nI_pos (by have := ctt_le (fun k => (fwS O 1023).testBit k) n; omega)))
    exact key 10 (by omega)
  have l1 : fnd (fun k => (fwS O 1023).testBit k) x 0 = none → PM E l mX9_drop 10 [.ref 42, .int x, .int (nI (fwS O 1023)), .int (x - nI (ctt (fun k => (fwS O 1023).testBit k) 0)), .int (nI 0)] [] (S0 L) M1 0 0 Q := by
    refine lp_up (P := fun i => fnd (fun k => (fwS O 1023).testBit k) x i = none → PM E l mX9_drop 10 [.ref 42, .int x, .int (nI (fwS O 1023)), .int (x - nI (ctt (fun k => (fwS O 1023).testBit k) i)), .int (nI i)] [] (S0 L) M1 0 0 Q) 10 ?_ ?_ 0 (by omega)
    · intro g1
      refine x_iload dX9_drop_10 rfl ?_
      refine x_bipush dX9_drop_12 bipush_10 ?_
      refine n_icmp_ge 47 dX9_drop_14 rfl (by omega) (by omega) (fun h1 => ?_) (fun h1 => by omega)
      refine x_ldc kcX9_134 dX9_drop_47 ?_
      refine x_iret dX9_drop_49 rfl rfl ?_
      have h9 := hY M1 L1 R1
      rw [g1] at h9
      exact h9
    · intro i hi ih g1
      refine x_iload dX9_drop_10 rfl ?_
      refine x_bipush dX9_drop_12 bipush_10 ?_
      refine n_icmp_ge 47 dX9_drop_14 rfl (by omega) (by omega) (fun h1 => by omega) (fun h1 => ?_)
      refine x_iload_n dX9_drop_17 rfl ?_
      refine x_if_lt 47 dX9_drop_18 rfl (fun z1 => ?_) (fun z1 => ?_)
      · refine x_ldc kcX9_134 dX9_drop_47 ?_
        refine x_iret dX9_drop_49 rfl rfl ?_
        have h9 := hY M1 L1 R1
        rw [hneg z1] at h9
        exact h9
      · refine x_iload_n dX9_drop_21 rfl ?_
        refine x_iload dX9_drop_22 rfl ?_
        refine x_ishr dX9_drop_24 ?_
        refine x_iconst dX9_drop_25 iconst_1 ?_
        refine x_iand dX9_drop_26 ?_
        refine x_as (bit_at (by omega) (by omega)) ?_
        refine x_iconst dX9_drop_27 iconst_1 ?_
        refine n_icmp_ne 41 dX9_drop_28 rfl (by have := b1_le ((fwS O 1023).testBit i); omega) (by omega) (fun z2 => ?_) (fun z2 => ?_)
        · refine n_inc dX9_drop_41 rfl rfl ?_
          refine x_goto 10 dX9_drop_44 rfl ?_
          have ih2 := ih (fnd_no g1 (fun z => z2 ((b1_1 _).mpr z.1)))
          rw [show ctt (fun k => (fwS O 1023).testBit k) (i + 1) = ctt (fun k => (fwS O 1023).testBit k) i from by simp only [ctt]; rw [if_neg (fun z => z2 ((b1_1 _).mpr z))]; rfl] at ih2
          exact ih2
        · refine x_iload_n dX9_drop_31 rfl ?_
          refine x_if_ne 38 dX9_drop_32 rfl (fun z3 => ?_) (fun z3 => ?_)
          · refine x_iinc dX9_drop_38 rfl (dec_sub _ _) rfl ?_
            refine n_inc dX9_drop_41 rfl rfl ?_
            refine x_goto 10 dX9_drop_44 rfl ?_
            have ih2 := ih (fnd_no g1 (fun z => z3 (sub_0.mpr z.2)))
            rw [show ctt (fun k => (fwS O 1023).testBit k) (i + 1) = ctt (fun k => (fwS O 1023).testBit k) i + 1 from by simp only [ctt]; rw [if_pos ((b1_1 _).mp z2)]] at ih2
            exact ih2
          · refine x_iload dX9_drop_35 rfl ?_
            refine x_iret dX9_drop_37 rfl rfl ?_
            have h9 := hY M1 L1 R1
            rw [show (10 : Nat) = i + 1 + (10 - (i + 1)) from by omega, fnd_yes g1 ⟨(b1_1 _).mp z2, sub_0.mp z3⟩] at h9
            exact h9
  have l2 := l1 rfl
  rw [show x - nI (ctt (fun k => (fwS O 1023).testBit k) 0) = x from by show x - nI 0 = x; rw [nI_0]; exact Int32.sub_zero x] at l2
  exact l2
def cntA (w h ns ng nz : Nat) (O : Nat → Nat) (k : Nat) : Nat := if k = 0 then w * h else if k = 1 then ns else if k = 2 then ng else if k = 3 then nz else smK (fun a => on10 (O a)) 10
set_option maxRecDepth 100000 in
set_option maxHeartbeats 4000000 in
theorem m_count {E : vE} {l : Launch} {Q : Option Value → vS → vM → Prop} {L : Nat} {M : vM} {w h : Nat} {ht rk : Nat → Nat} {ns : Nat} {T : Nat → vT} {ng : Nat} {G : Nat → vQ} {Rw : Nat → Nat × (Nat → Nat)} {nz : Nat} {U : Nat → vU} {O : Nat → Nat} (VV : Val w h ht rk ns T ng G Rw nz U O) (RR : RepM M w h ht rk ns T ng G Rw nz U O) {x : Int32} (hO : ¬ INr 0 4 x → Q (some (.int (-900002))) (S0 L) M) (hY : ∀ k : Nat, k ≤ 4 → x = nI k → Q (some (.int (nI (cntA w h ns ng nz O k)))) (S0 L) M) : PM E l mX9_count 0 [.ref 42, .int x, .null, .null] [] (S0 L) M 0 0 Q := by
  obtain ⟨V, SVv, ZV, RV, OV⟩ := VV
  obtain ⟨K, SM, ZM, RO, OM⟩ := RR
  have H := V.1
  have e4 := H.le
  have e6 := H.pos
  have hng := V.2.2.1
  have hns := SVv.1
  have hnz := ZV.1
  have l1 : PM E l mX9_count 4 [.ref 42, .int x, .int (nI (smK (fun a => on10 (O a)) 0)), .int (nI 0)] [] (S0 L) M 0 0 Q := by
    refine lp_up (P := fun i => PM E l mX9_count 4 [.ref 42, .int x, .int (nI (smK (fun a => on10 (O a)) i)), .int (nI i)] [] (S0 L) M 0 0 Q) 10 ?_ ?_ 0 (by omega)
    · skip
      refine x_iload_n dX9_count_4 rfl ?_
      refine x_bipush dX9_count_5 bipush_10 ?_
      refine n_icmp_ge 28 dX9_count_7 rfl (by omega) (by omega) (fun h1 => ?_) (fun h1 => by omega)
      by_cases hv : INr 0 4 x
      · obtain ⟨k, hk, rfl⟩ := hv
        rcases (show k = 0 ∨ k = 1 ∨ k = 2 ∨ k = 3 ∨ k = 4 by omega) with rfl | rfl | rfl | rfl | rfl
        · refine x_iload_n dX9_count_28 rfl ?_
          refine x_tabIn 64 dX9_count_29 (by decide) (by decide) rfl rfl ?_
          refine x_aload_n dX9_count_64 rfl ?_
          refine cV0 (mj := mX9_cells) lkX9_103 okX9_cells imX9_cells seX9_cells (s0_42 L) rfl rfl rfl rfl rfl dX9_count_65 rfl (m_cells K.1 K.2.1 ?_)
          refine x_iret dX9_count_68 rfl rfl ?_
          exact hY 0 (by omega) rfl
        · refine x_iload_n dX9_count_28 rfl ?_
          refine x_tabIn 69 dX9_count_29 (by decide) (by decide) rfl rfl ?_
          refine x_aload_n dX9_count_69 rfl ?_
          refine g_I (s0_42 L) fkX9_94 rfl rfl dX9_count_70 ?_
          refine x_as SM.1 ?_
          refine x_iret dX9_count_73 rfl rfl ?_
          exact hY 1 (by omega) rfl
        · refine x_iload_n dX9_count_28 rfl ?_
          refine x_tabIn 74 dX9_count_29 (by decide) (by decide) rfl rfl ?_
          refine x_aload_n dX9_count_74 rfl ?_
          refine g_I (s0_42 L) fkX9_97 rfl rfl dX9_count_75 ?_
          refine x_as K.2.2.2.1 ?_
          refine x_iret dX9_count_78 rfl rfl ?_
          exact hY 2 (by omega) rfl
        · refine x_iload_n dX9_count_28 rfl ?_
          refine x_tabIn 79 dX9_count_29 (by decide) (by decide) rfl rfl ?_
          refine x_aload_n dX9_count_79 rfl ?_
          refine g_I (s0_42 L) fkX9_100 rfl rfl dX9_count_80 ?_
          refine x_as ZM.1 ?_
          refine x_iret dX9_count_83 rfl rfl ?_
          exact hY 3 (by omega) rfl
        · refine x_iload_n dX9_count_28 rfl ?_
          refine x_tabIn 84 dX9_count_29 (by decide) (by decide) rfl rfl ?_
          refine x_iload_n dX9_count_84 rfl ?_
          refine x_iret dX9_count_85 rfl rfl ?_
          exact hY 4 (by omega) rfl
      · refine x_iload_n dX9_count_28 rfl ?_
        refine x_tabOut 86 dX9_count_29 (tab_out (a := 0) (b := 4) (by omega) hv) rfl ?_
        refine x_ldc kcX9_117 dX9_count_86 ?_
        refine x_iret dX9_count_88 rfl rfl ?_
        exact hO hv
    · intro i hi ih
      refine x_iload_n dX9_count_4 rfl ?_
      refine x_bipush dX9_count_5 bipush_10 ?_
      refine n_icmp_ge 28 dX9_count_7 rfl (by omega) (by omega) (fun h1 => by omega) (fun h1 => ?_)
      have ov := OV i hi
      refine x_iload_n dX9_count_10 rfl ?_
      refine x_aload_n dX9_count_11 rfl ?_
      refine g_R (s0_42 L) fkX9_77 rfl rfl rfl dX9_count_12 ?_
      refine x_iload_n dX9_count_15 rfl ?_
      refine n_iald (s0_65 L) (by omega) rfl dX9_count_16 ?_
      refine x_as (OM i hi) ?_
      refine cS1 (mj := mX9_ones) lkX9_244 okX9_ones stX9_ones rfl rfl rfl rfl dX9_count_17 rfl (m_ones (x := O i) (by omega) ?_)
      refine n_iadd dX9_count_20 ?_
      refine x_istore_n dX9_count_21 (by decide) rfl ?_
      refine n_inc dX9_count_22 rfl rfl ?_
      refine x_goto 4 dX9_count_25 rfl ?_
      exact ih
  refine x_iconst dX9_count_0 iconst_0 ?_
  refine x_istore_n dX9_count_1 (by decide) rfl ?_
  refine x_iconst dX9_count_2 iconst_0 ?_
  refine x_istore_n dX9_count_3 (by decide) rfl ?_
  exact l1

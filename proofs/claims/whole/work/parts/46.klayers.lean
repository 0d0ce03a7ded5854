def us (v : Int32) (n : Nat) : Int32 := (v.toUInt32 >>> ((nI n).toUInt32 &&& Int32.toUInt32 31)).toInt32
def bc1 (v : Int32) : Int32 := v - (us v 1 &&& 1431655765)
def bc2 (v : Int32) : Int32 := (v &&& 858993459) + (us v 2 &&& 858993459)
def bc3 (v : Int32) : Int32 := (v + us v 4) &&& 252645135
def bc4 (v : Int32) : Int32 := v + us v 8
def bc5 (v : Int32) : Int32 := v + us v 16
theorem bc_all : ∀ x : Fin 1024, bc5 (bc4 (bc3 (bc2 (bc1 (nI x.val))))) &&& nI 63 = nI (on10 x.val) := by decide +kernel
theorem and_hs {x b : Nat} : x &&& 2 ^ (9 - b) = 0 ↔ hs x b = false := by
  rw [and_2]
  unfold hs
  cases x.testBit (9 - b) with
  | true =>
    have : 0 < 2 ^ (9 - b) := Nat.pow_pos (by omega)
    rw [if_pos rfl]
    exact ⟨fun z => by omega, fun z => by cases z⟩
  | false => exact ⟨fun _ => rfl, fun _ => rfl⟩
theorem hs_or {x y b : Nat} : hs (x ||| y) b = (hs x b || hs y b) := by unfold hs; rw [Nat.testBit_or]
theorem smK_one {f g : Nat → Nat} {a : Nat} (hg : ∀ i, i ≠ a → g i = f i) : ∀ n, a < n → smK g n + f a = smK f n + g a
  | 0, h => absurd h (by omega)
  | n + 1, h => by
    simp only [smK]
    by_cases e : a = n
    · subst e
      have : smK g a = smK f a := smK_cong (fun i hi => hg i (by omega))
      omega
    · have := smK_one hg n (by omega)
      rw [hg n (fun z => e z.symm)]
      omega
theorem eOv0 {O : Nat → Nat} {a b : Nat} : eOv O 0 a b = (O a).testBit b := by unfold eOv; simp
def LyC (M : vM) (O : Nat → Nat) : Prop := (∀ a, a < 10 → M 40 a = nI (rv (O a))) ∧ (∃ u : Nat → Nat, (∀ a, a < 10 → M 41 a = nI (u a) ∧ u a < 1024) ∧ ∀ a b, a < 10 → b < 10 → hs (u a) b = tcB (eOv O 0) a b) ∧ M 39 2 = nI (smK (fun a => on10 (O a)) 10) ∧ ∃ st : Bool, M 39 4 = bI st ∧ (st = false → M 39 3 = nI (rv (fwS O 1023)))
set_option maxRecDepth 100000 in
set_option maxHeartbeats 4000000 in
theorem c_bitCount {E : vE} {l : Launch} {Q : Option Value → vS → vM → Prop} {S : vS} {M : vM} {x : Nat} (hx : x < 1024) (hQ : Q (some (.int (nI (on10 x)))) S M) : PM E l mJ6_bitCount_0f7a4 0 [.int (nI x)] [] S M 0 0 Q := by
  refine x_iload_n dJ6_bitCount_0f7a4_0 rfl ?_
  refine x_iload_n dJ6_bitCount_0f7a4_1 rfl ?_
  refine x_iconst dJ6_bitCount_0f7a4_2 iconst_1 ?_
  refine x_iushr dJ6_bitCount_0f7a4_3 ?_
  refine x_ldcw kcJ6_265 dJ6_bitCount_0f7a4_4 ?_
  refine x_iand dJ6_bitCount_0f7a4_7 ?_
  refine x_isub dJ6_bitCount_0f7a4_8 ?_
  refine x_as (show _ = bc1 (nI x) from rfl) ?_
  refine x_istore_n dJ6_bitCount_0f7a4_9 (by decide) rfl ?_
  refine x_iload_n dJ6_bitCount_0f7a4_10 rfl ?_
  refine x_ldcw kcJ6_266 dJ6_bitCount_0f7a4_11 ?_
  refine x_iand dJ6_bitCount_0f7a4_14 ?_
  refine x_iload_n dJ6_bitCount_0f7a4_15 rfl ?_
  refine x_iconst dJ6_bitCount_0f7a4_16 iconst_2 ?_
  refine x_iushr dJ6_bitCount_0f7a4_17 ?_
  refine x_ldcw kcJ6_266 dJ6_bitCount_0f7a4_18 ?_
  refine x_iand dJ6_bitCount_0f7a4_21 ?_
  refine x_iadd dJ6_bitCount_0f7a4_22 ?_
  refine x_as (show _ = bc2 (bc1 (nI x)) from rfl) ?_
  refine x_istore_n dJ6_bitCount_0f7a4_23 (by decide) rfl ?_
  refine x_iload_n dJ6_bitCount_0f7a4_24 rfl ?_
  refine x_iload_n dJ6_bitCount_0f7a4_25 rfl ?_
  refine x_iconst dJ6_bitCount_0f7a4_26 iconst_4 ?_
  refine x_iushr dJ6_bitCount_0f7a4_27 ?_
  refine x_iadd dJ6_bitCount_0f7a4_28 ?_
  refine x_ldcw kcJ6_267 dJ6_bitCount_0f7a4_29 ?_
  refine x_iand dJ6_bitCount_0f7a4_32 ?_
  refine x_as (show _ = bc3 (bc2 (bc1 (nI x))) from rfl) ?_
  refine x_istore_n dJ6_bitCount_0f7a4_33 (by decide) rfl ?_
  refine x_iload_n dJ6_bitCount_0f7a4_34 rfl ?_
  refine x_iload_n dJ6_bitCount_0f7a4_35 rfl ?_
  refine x_bipush dJ6_bitCount_0f7a4_36 bipush_8 ?_
  refine x_iushr dJ6_bitCount_0f7a4_38 ?_
  refine x_iadd dJ6_bitCount_0f7a4_39 ?_
  refine x_as (show _ = bc4 (bc3 (bc2 (bc1 (nI x)))) from rfl) ?_
  refine x_istore_n dJ6_bitCount_0f7a4_40 (by decide) rfl ?_
  refine x_iload_n dJ6_bitCount_0f7a4_41 rfl ?_
  refine x_iload_n dJ6_bitCount_0f7a4_42 rfl ?_
  refine x_bipush dJ6_bitCount_0f7a4_43 bipush_16 ?_
  refine x_iushr dJ6_bitCount_0f7a4_45 ?_
  refine x_iadd dJ6_bitCount_0f7a4_46 ?_
  refine x_as (show _ = bc5 (bc4 (bc3 (bc2 (bc1 (nI x))))) from rfl) ?_
  refine x_istore_n dJ6_bitCount_0f7a4_47 (by decide) rfl ?_
  refine x_iload_n dJ6_bitCount_0f7a4_48 rfl ?_
  refine x_bipush dJ6_bitCount_0f7a4_49 bipush_63 ?_
  refine x_iand dJ6_bitCount_0f7a4_51 ?_
  refine x_as (bc_all ⟨x, hx⟩) ?_
  refine x_iret dJ6_bitCount_0f7a4_52 rfl rfl ?_
  exact hQ
set_option maxRecDepth 100000 in
set_option maxHeartbeats 4000000 in
theorem k_mask {E : vE} {l : Launch} {Q : Option Value → vS → vM → Prop} {S : vS} {M : vM} {b : Nat} (hb : b < 10) (hQ : Q (some (.int (nI (2 ^ (9 - b))))) S M) : PM E l mX2_mask 0 [.int (nI b)] [] S M 0 0 Q := by
  refine x_iconst dX2_mask_0 iconst_1 ?_
  refine x_bipush dX2_mask_1 bipush_9 ?_
  refine x_iload_n dX2_mask_3 rfl ?_
  refine n_isub dX2_mask_4 (by omega) ?_
  refine x_ishl dX2_mask_5 ?_
  refine x_as (shl10 ⟨9 - b, by omega⟩) ?_
  refine x_iret dX2_mask_6 rfl rfl ?_
  exact hQ
set_option maxRecDepth 100000 in
set_option maxHeartbeats 4000000 in
theorem k_isTold {E : vE} {l : Launch} {Q : Option Value → vS → vM → Prop} {L : Nat} {M : vM} {a b x : Nat} (ha : a < 10) (hb : b < 10) (hx : x < 1024) (hM : M 40 a = nI x) (hQ : Q (some (.int (bI (hs x b)))) (S0 L) M) : PM E l mX2_isToldOver 0 [.ref 39, .int (nI a), .int (nI b)] [] (S0 L) M 0 0 Q := by
  refine x_aload_n dX2_isToldOver_0 rfl ?_
  refine g_R (s0_39 L) fkX2_9 rfl rfl rfl dX2_isToldOver_1 ?_
  refine x_iload_n dX2_isToldOver_4 rfl ?_
  refine n_iald (s0_40 L) (by omega) rfl dX2_isToldOver_5 ?_
  refine x_as hM ?_
  refine x_iload_n dX2_isToldOver_6 rfl ?_
  refine cS1 (mj := mX2_mask) lkX2_18 okX2_mask stX2_mask rfl rfl rfl rfl dX2_isToldOver_7 rfl (k_mask hb ?_)
  refine x_iand dX2_isToldOver_10 ?_
  refine x_as (fa_and _ _) ?_
  refine n_if_eq 18 dX2_isToldOver_11 rfl (Nat.lt_of_le_of_lt Nat.and_le_left (by omega)) (fun z1 => ?_) (fun z1 => ?_)
  · refine x_iconst dX2_isToldOver_18 iconst_0 ?_
    refine x_iret dX2_isToldOver_19 rfl (by first | exact bI_nar _ | exact n1_nar | exact n0_nar) ?_
    rw [and_hs.mp z1] at hQ
    exact hQ
  · refine x_iconst dX2_isToldOver_14 iconst_1 ?_
    refine x_goto 19 dX2_isToldOver_15 rfl ?_
    refine x_iret dX2_isToldOver_19 rfl (by first | exact bI_nar _ | exact n1_nar | exact n0_nar) ?_
    have e : hs x b = true := by
      cases h9 : hs x b with
      | true => rfl
      | false => exact absurd (and_hs.mpr h9) z1
    rw [e] at hQ
    exact hQ
set_option maxRecDepth 100000 in
set_option maxHeartbeats 4000000 in
theorem k_isRound {E : vE} {l : Launch} {Q : Option Value → vS → vM → Prop} {L : Nat} {M : vM} {a b x : Nat} (ha : a < 10) (hb : b < 10) (hx : x < 1024) (hM : M 41 a = nI x) (hQ : Q (some (.int (bI (hs x b)))) (S0 L) M) : PM E l mX2_isRoundAbout 0 [.ref 39, .int (nI a), .int (nI b)] [] (S0 L) M 0 0 Q := by
  refine x_aload_n dX2_isRoundAbout_0 rfl ?_
  refine g_R (s0_39 L) fkX2_15 rfl rfl rfl dX2_isRoundAbout_1 ?_
  refine x_iload_n dX2_isRoundAbout_4 rfl ?_
  refine n_iald (s0_41 L) (by omega) rfl dX2_isRoundAbout_5 ?_
  refine x_as hM ?_
  refine x_iload_n dX2_isRoundAbout_6 rfl ?_
  refine cS1 (mj := mX2_mask) lkX2_18 okX2_mask stX2_mask rfl rfl rfl rfl dX2_isRoundAbout_7 rfl (k_mask hb ?_)
  refine x_iand dX2_isRoundAbout_10 ?_
  refine x_as (fa_and _ _) ?_
  refine n_if_eq 18 dX2_isRoundAbout_11 rfl (Nat.lt_of_le_of_lt Nat.and_le_left (by omega)) (fun z1 => ?_) (fun z1 => ?_)
  · refine x_iconst dX2_isRoundAbout_18 iconst_0 ?_
    refine x_iret dX2_isRoundAbout_19 rfl (by first | exact bI_nar _ | exact n1_nar | exact n0_nar) ?_
    rw [and_hs.mp z1] at hQ
    exact hQ
  · refine x_iconst dX2_isRoundAbout_14 iconst_1 ?_
    refine x_goto 19 dX2_isRoundAbout_15 rfl ?_
    refine x_iret dX2_isRoundAbout_19 rfl (by first | exact bI_nar _ | exact n1_nar | exact n0_nar) ?_
    have e : hs x b = true := by
      cases h9 : hs x b with
      | true => rfl
      | false => exact absurd (and_hs.mpr h9) z1
    rw [e] at hQ
    exact hQ
set_option maxRecDepth 100000 in
set_option maxHeartbeats 4000000 in
theorem k_warsh {E : vE} {l : Launch} {Q : Option Value → vS → vM → Prop} {L : Nat} {M : vM} {x y : Int32} {e : Nat → Nat → Bool} (hQ : ∀ (M1 : vM) (u : Nat → Nat), Fr [41] M M1 → (∀ a, a < 10 → M1 41 a = nI (u a) ∧ u a < 1024) → (∀ a b, a < 10 → b < 10 → hs (u a) b = tcB e a b) → Q none (S0 L) M1) : ∀ (M1 : vM) (u : Nat → Nat), Fr [41] M M1 → (∀ a, a < 10 → M1 41 a = nI (u a) ∧ u a < 1024) → (∀ a b, a < 10 → b < 10 → hs (u a) b = true → tcB e a b = true) → (∀ a b, a < 10 → b < 10 → WP e 0 a b → hs (u a) b = true) → PM E l mX2_turn 58 [.ref 39, .int x, .int y, .int (nI 0), .null] [] (S0 L) M1 0 0 Q := by
  refine lp_up (P := fun t => ∀ (M1 : vM) (u : Nat → Nat), Fr [41] M M1 → (∀ a, a < 10 → M1 41 a = nI (u a) ∧ u a < 1024) → (∀ a b, a < 10 → b < 10 → hs (u a) b = true → tcB e a b = true) → (∀ a b, a < 10 → b < 10 → WP e t a b → hs (u a) b = true) → PM E l mX2_turn 58 [.ref 39, .int x, .int y, .int (nI t), .null] [] (S0 L) M1 0 0 Q) 10 ?_ ?_ 0 (by omega)
  · intro M1 u g1 g2 g3 g4
    refine x_iload_n dX2_turn_58 rfl ?_
    refine x_bipush dX2_turn_59 bipush_10 ?_
    refine n_icmp_ge 112 dX2_turn_61 rfl (by omega) (by omega) (fun h1 => ?_) (fun h1 => by omega)
    refine x_vret dX2_turn_112 rfl ?_
    exact hQ M1 u g1 g2 (fun a b ha hb => tc_eq (u := fun a b => hs (u a) b) g3 g4 ha hb)
  · intro t ht ih M1 u g1 g2 g3 g4
    have li : ∀ (M1 : vM) (u : Nat → Nat), Fr [41] M M1 → (∀ a, a < 10 → M1 41 a = nI (u a) ∧ u a < 1024) → (∀ a b, a < 10 → b < 10 → hs (u a) b = true → tcB e a b = true) → (∀ a b, a < 10 → b < 10 → WP e t a b → hs (u a) b = true) → (∀ a b, a < 0 → b < 10 → WP e (t + 1) a b → hs (u a) b = true) → PM E l mX2_turn 67 [.ref 39, .int x, .int y, .int (nI t), .int (nI 0)] [] (S0 L) M1 0 0 Q := by
      refine lp_up (P := fun i => ∀ (M1 : vM) (u : Nat → Nat), Fr [41] M M1 → (∀ a, a < 10 → M1 41 a = nI (u a) ∧ u a < 1024) → (∀ a b, a < 10 → b < 10 → hs (u a) b = true → tcB e a b = true) → (∀ a b, a < 10 → b < 10 → WP e t a b → hs (u a) b = true) → (∀ a b, a < i → b < 10 → WP e (t + 1) a b → hs (u a) b = true) → PM E l mX2_turn 67 [.ref 39, .int x, .int y, .int (nI t), .int (nI i)] [] (S0 L) M1 0 0 Q) 10 ?_ ?_ 0 (by omega)
      · intro M1 u g1 g2 g3 g4 g5
        refine x_iload dX2_turn_67 rfl ?_
        refine x_bipush dX2_turn_69 bipush_10 ?_
        refine n_icmp_ge 106 dX2_turn_71 rfl (by omega) (by omega) (fun h1 => ?_) (fun h1 => by omega)
        refine n_inc dX2_turn_106 rfl rfl ?_
        refine x_goto 58 dX2_turn_109 rfl ?_
        refine x_mask [true, true, true, true, false] ?_
        exact ih M1 u g1 g2 g3 g5
      · intro i hi ihi M1 u g1 g2 g3 g4 g5
        refine x_iload dX2_turn_67 rfl ?_
        refine x_bipush dX2_turn_69 bipush_10 ?_
        refine n_icmp_ge 106 dX2_turn_71 rfl (by omega) (by omega) (fun h1 => by omega) (fun h1 => ?_)
        refine x_aload_n dX2_turn_74 rfl ?_
        refine x_iload dX2_turn_75 rfl ?_
        refine x_iload_n dX2_turn_77 rfl ?_
        refine cV2 (mj := mX2_isRoundAbout) lkX2_40 okX2_isRoundAbout imX2_isRoundAbout seX2_isRoundAbout (s0_39 L) rfl rfl rfl rfl rfl dX2_turn_78 rfl (k_isRound hi ht (g2 i hi).2 (g2 i hi).1 ?_)
        refine b_if_eq 100 dX2_turn_81 rfl (fun z1 => ?_) (fun z1 => ?_)
        · refine n_inc dX2_turn_100 rfl rfl ?_
          refine x_goto 67 dX2_turn_103 rfl ?_
          refine ihi M1 u g1 g2 g3 g4 (fun a b ha hb hw => ?_)
          by_cases e9 : a = i
          · subst e9
            rcases hw with hw | ⟨hw, -⟩
            · exact g4 a b hi hb hw
            · rw [g4 a t hi ht hw] at z1; cases z1
          · exact g5 a b (by omega) hb hw
        · refine x_aload_n dX2_turn_84 rfl ?_
          refine g_R (s0_39 L) fkX2_15 rfl rfl rfl dX2_turn_85 ?_
          refine x_iload dX2_turn_88 rfl ?_
          refine x_dup2 dX2_turn_90 rfl rfl ?_
          refine n_iald (s0_41 L) (by omega) rfl dX2_turn_91 ?_
          refine x_as (g2 i hi).1 ?_
          refine x_aload_n dX2_turn_92 rfl ?_
          refine g_R (s0_39 L) fkX2_15 rfl rfl rfl dX2_turn_93 ?_
          refine x_iload_n dX2_turn_96 rfl ?_
          refine n_iald (s0_41 L) (by omega) rfl dX2_turn_97 ?_
          refine x_as (g2 t ht).1 ?_
          refine x_ior dX2_turn_98 ?_
          refine n_iast rfl (s0_41 L) (by omega) rfl dX2_turn_99 ?_
          refine n_inc dX2_turn_100 rfl rfl ?_
          refine x_goto 67 dX2_turn_103 rfl ?_
          have mono : ∀ a b, hs (u a) b = true → hs ((fun a => if a = i then u i ||| u t else u a) a) b = true := by
            intro a b hz
            (try dsimp only)
            split
            · rename_i e9; rw [hs_or, ← e9, hz]; rfl
            · exact hz
          refine ihi _ (fun a => if a = i then u i ||| u t else u a) (g1.set _ (by decide)) (fun a ha => ?_) (fun a b ha hb hz => ?_) (fun a b ha hb hw => mono a b (g4 a b ha hb hw)) (fun a b ha hb hw => ?_)
          · show upd (M1 41) i (nI (u i) ||| nI (u t)) a = nI (if a = i then _ else _) ∧ (if a = i then _ else _) < 1024
            by_cases e9 : a = i
            · rw [if_pos e9, e9, upd_at, fa_or]; exact ⟨rfl, or_lt (g2 i hi).2 (g2 t ht).2⟩
            · rw [if_neg e9, upd_ne _ _ e9]; exact g2 a ha
          · (try dsimp only at hz)
            split at hz
            · rename_i e9
              rw [hs_or, Bool.or_eq_true] at hz
              rcases hz with hz | hz
              · rw [e9]; exact g3 i b hi hb hz
              · rw [e9]; exact tcB_trans ht (g3 i t hi ht z1) (g3 t b ht hb hz)
            · exact g3 a b ha hb hz
          · by_cases e9 : a = i
            · rcases hw with hw | ⟨-, hw⟩
              · exact mono a b (g4 a b (by omega) hb hw)
              · (try dsimp only); rw [if_pos e9, hs_or, g4 t b ht hb hw, Bool.or_true]
            · exact mono a b (g5 a b (by omega) hb hw)
    refine x_iload_n dX2_turn_58 rfl ?_
    refine x_bipush dX2_turn_59 bipush_10 ?_
    refine n_icmp_ge 112 dX2_turn_61 rfl (by omega) (by omega) (fun h1 => by omega) (fun h1 => ?_)
    refine x_iconst dX2_turn_64 iconst_0 ?_
    refine x_istore dX2_turn_65 (by decide) rfl ?_
    exact li M1 u g1 g2 g3 g4 (fun a b ha => absurd ha (by omega))
theorem setOv_rv {O : Nat → Nat} (OV : ∀ a, a < 10 → O a < 1024 ∧ (O a).testBit a = false) {a b : Nat} (ha : a < 10) (hb : b < 10) : rv ((setOv O a b (!(O a).testBit b)) a) = rv (O a) ^^^ 2 ^ (9 - b) ∧ ((O a).testBit b = true → on10 ((setOv O a b (!(O a).testBit b)) a) + 1 = on10 (O a)) ∧ ((O a).testBit b = false → on10 ((setOv O a b (!(O a).testBit b)) a) = on10 (O a) + 1) := by
  have h := ckT_all ⟨O a, (OV a ha).1⟩ ⟨b, hb⟩
  simp only [ckT, Bool.and_eq_true] at h
  obtain ⟨h1, h2⟩ := h
  have h3 := Nat.eq_of_beq_eq_true h1
  unfold setOv
  rw [if_pos rfl]
  cases hz : (O a).testBit b with
  | true =>
    rw [hz] at h2 h3
    rw [if_pos rfl] at h2 h3
    refine ⟨?_, fun _ => ?_, (fun z => by cases z)⟩
    · simpa using h3.symm
    · simpa using Nat.eq_of_beq_eq_true h2
  | false =>
    rw [hz] at h2 h3
    rw [if_neg (by decide)] at h2 h3
    refine ⟨?_, (fun z => by cases z), fun _ => ?_⟩
    · simpa using h3.symm
    · simpa using Nat.eq_of_beq_eq_true h2
theorem setOv_ok {O : Nat → Nat} (OV : ∀ a, a < 10 → O a < 1024 ∧ (O a).testBit a = false) {a b : Nat} (hb : b < 10) (hne : a ≠ b) (v : Bool) : ∀ i, i < 10 → setOv O a b v i < 1024 ∧ (setOv O a b v i).testBit i = false := by
  intro i hi
  unfold setOv
  by_cases e : i = a
  · subst e
    rw [if_pos rfl]
    have h1 := OV i hi
    have h2 : 2 ^ b < 1024 := by
      have : 2 ^ b < 2 ^ 10 := Nat.pow_lt_pow_right (by omega) hb
      omega
    cases v with
    | true =>
      rw [if_pos rfl]
      refine ⟨or_lt h1.1 h2, ?_⟩
      rw [Nat.testBit_or, h1.2, Nat.testBit_two_pow, decide_eq_false (fun z => hne z.symm)]; rfl
    | false =>
      rw [if_neg (by decide)]
      refine ⟨and_lt h1.1, ?_⟩
      rw [Nat.testBit_and, h1.2, Bool.false_and]
  · rw [if_neg e]; exact OV i hi
theorem setOv_same {O : Nat → Nat} (OV : ∀ a, a < 10 → O a < 1024 ∧ (O a).testBit a = false) {a b : Nat} (ha : a < 10) (hb : b < 10) : setOv O a b ((O a).testBit b) = O := by
  funext i
  unfold setOv
  by_cases e : i = a
  · rw [if_pos e, e]
    have h1 := OV a ha
    cases hz : (O a).testBit b with
    | true =>
      rw [if_pos rfl]
      apply Nat.eq_of_testBit_eq
      intro j
      rw [Nat.testBit_or, Nat.testBit_two_pow]
      by_cases ej : b = j
      · subst ej; rw [hz]; rfl
      · rw [decide_eq_false ej, Bool.or_false]
    | false =>
      rw [if_neg (by decide)]
      apply Nat.eq_of_testBit_eq
      intro j
      by_cases hj : j < 10
      · rw [wo_bit hj, Nat.testBit_two_pow]
        by_cases ej : b = j
        · subst ej; rw [hz]; rfl
        · rw [decide_eq_false ej]; simp
      · rw [Nat.testBit_and, tb_hi h1.1 (by omega), Bool.false_and]
  · rw [if_neg e]
set_option maxRecDepth 100000 in
set_option maxHeartbeats 4000000 in
theorem k_turn {E : vE} {l : Launch} {Q : Option Value → vS → vM → Prop} {L : Nat} {M : vM} {O : Nat → Nat} (OV : ∀ a, a < 10 → O a < 1024 ∧ (O a).testBit a = false) (C : LyC M O) {a b : Nat} (ha : a < 10) (hb : b < 10) (hne : a ≠ b) (hQ : ∀ M1 : vM, Fr [39, 40, 41] M M1 → LyC M1 (setOv O a b (!(O a).testBit b)) → Q none (S0 L) M1) : PM E l mX2_turn 0 [.ref 39, .int (nI a), .int (nI b), .null, .null] [] (S0 L) M 0 0 Q := by
  refine x_aload_n dX2_turn_0 rfl ?_
  refine x_dup dX2_turn_1 rfl ?_
  refine g_I (s0_39 L) fkX2_22 rfl rfl dX2_turn_2 ?_
  refine x_as C.2.2.1 ?_
  refine x_aload_n dX2_turn_5 rfl ?_
  refine x_iload_n dX2_turn_6 rfl ?_
  refine x_iload_n dX2_turn_7 rfl ?_
  refine cV2 (mj := mX2_isToldOver) lkX2_26 okX2_isToldOver imX2_isToldOver seX2_isToldOver (s0_39 L) rfl rfl rfl rfl rfl dX2_turn_8 rfl (k_isTold ha hb (rv_all (OV a ha).1).1 (C.1 a ha) ?_)
  rw [rvO (OV a ha).1 hb]
  refine b_if_eq 18 dX2_turn_11 rfl (fun z1 => ?_) (fun z1 => ?_)
  · refine x_iconst dX2_turn_18 iconst_1 ?_
    refine n_iadd dX2_turn_19 ?_
    refine g_P (s0_39 L) fkX2_22 rfl rfl rfl rfl dX2_turn_20 ?_
    refine x_aload_n dX2_turn_23 rfl ?_
    refine g_R (s0_39 L) fkX2_9 rfl rfl rfl dX2_turn_24 ?_
    refine x_iload_n dX2_turn_27 rfl ?_
    refine x_dup2 dX2_turn_28 rfl rfl ?_
    refine n_iald (s0_40 L) (by omega) rfl dX2_turn_29 ?_
    refine x_as (C.1 a ha) ?_
    refine x_iload_n dX2_turn_30 rfl ?_
    refine cS1 (mj := mX2_mask) lkX2_18 okX2_mask stX2_mask rfl rfl rfl rfl dX2_turn_31 rfl (k_mask hb ?_)
    refine x_ixor dX2_turn_34 ?_
    refine x_as (fb_xorI _ _) ?_
    refine n_iast rfl (s0_40 L) (by omega) rfl dX2_turn_35 ?_
    refine x_aload_n dX2_turn_36 rfl ?_
    refine x_iconst dX2_turn_37 iconst_1 ?_
    refine x_as (show nI 1 = bI true from rfl) ?_
    refine g_Pz (s0_39 L) fkX2_30 rfl rfl rfl rfl dX2_turn_38 ?_
    refine x_aload_n dX2_turn_41 rfl ?_
    refine g_R (s0_39 L) fkX2_9 rfl rfl rfl dX2_turn_42 ?_
    refine x_iconst dX2_turn_45 iconst_0 ?_
    refine x_aload_n dX2_turn_46 rfl ?_
    refine g_R (s0_39 L) fkX2_15 rfl rfl rfl dX2_turn_47 ?_
    refine x_iconst dX2_turn_50 iconst_0 ?_
    refine x_bipush dX2_turn_51 bipush_10 ?_
    refine x_copy acX2_34 w_nat w_acs w_sys (by decide) (by decide) (Nat.le_of_eq (S0_len L).symm) (s0_40 L) (s0_41 L) (by decide) (by decide) (by decide) (by decide) (by decide) (by decide) (by decide) dX2_turn_53 ?_
    refine x_iconst dX2_turn_56 iconst_0 ?_
    refine x_istore_n dX2_turn_57 (by decide) rfl ?_
    have hV := setOv_ok OV hb hne (!(O a).testBit b)
    have hN : ∀ i, i < 10 → upd (M 40) a (nI (rv (O a) ^^^ 2 ^ (9 - b))) i = nI (rv ((setOv O a b (!(O a).testBit b)) i)) := by
      intro i hi
      by_cases e : i = a
      · subst e; rw [upd_at, (setOv_rv OV ha hb).1]
      · rw [upd_ne _ _ e, C.1 i hi]; unfold setOv; rw [if_neg e]
    have hS := smK_one (f := fun i => on10 (O i)) (g := fun i => on10 ((setOv O a b (!(O a).testBit b)) i)) (a := a) (fun i e => by (try dsimp only); unfold setOv; rw [if_neg e]) 10 ha
    (try dsimp only at hS)
    have hs2 := (setOv_rv OV ha hb).2.2 z1
    refine k_warsh (M := _) (e := eOv (setOv O a b (!(O a).testBit b)) 0) (fun M2 u k1 k2 k3 => ?_) _ (fun i => rv ((setOv O a b (!(O a).testBit b)) i)) Fr.rf ?_ ?_ ?_
    · refine hQ M2 (((((Fr.rf.set _ (by decide)).set _ (by decide)).set _ (by decide)).set _ (by decide)).trans (k1.sub (by decide))) ⟨fun i hi => ?_, ⟨u, k2, k3⟩, ?_, true, ?_, fun z => by cases z⟩
      · refine (congrFun (k1 40 (by decide)) i).trans ?_
        exact hN i hi
      · refine (congrFun (k1 39 (by decide)) 2).trans ?_
        exact congrArg nI (by omega)
      · refine (congrFun (k1 39 (by decide)) 4).trans ?_
        simp [sM, upd]
    · intro i hi
      refine ⟨?_, (rv_all (hV i hi).1).1⟩
      rw [sM_at]
      refine (pk_cpy_in (Nat.zero_le _) (show i < 0 + 10 by omega)).trans ?_
      rw [show (nI 0).toNatClampNeg + (i - 0) = i from Nat.zero_add i]
      exact hN i hi
    · intro i j hi hj hz
      refine tcB_iff.mpr ⟨0, ?_⟩
      show eOv (setOv O a b (!(O a).testBit b)) 0 i j = true
      rw [eOv0, ← rvO (hV i hi).1 hj]; exact hz
    · intro i j hi hj hz
      have hz2 : eOv (setOv O a b (!(O a).testBit b)) 0 i j = true := hz
      rw [eOv0, ← rvO (hV i hi).1 hj] at hz2; exact hz2
  · have hps : 0 < smK (fun a => on10 (O a)) 10 := by
      have h8 := (setOv_rv OV ha hb).2.1 z1
      have h9 := smK_one (f := fun i => on10 (O i)) (g := fun i => if i = a then 0 else on10 (O i)) (a := a) (fun i e => if_neg e) 10 ha
      (try dsimp only at h9)
      rw [if_pos rfl] at h9
      omega
    refine x_iconst dX2_turn_14 iconst_m1 ?_
    refine x_goto 19 dX2_turn_15 rfl ?_
    refine x_iadd dX2_turn_19 ?_
    refine x_as (nI_dn hps) ?_
    refine g_P (s0_39 L) fkX2_22 rfl rfl rfl rfl dX2_turn_20 ?_
    refine x_aload_n dX2_turn_23 rfl ?_
    refine g_R (s0_39 L) fkX2_9 rfl rfl rfl dX2_turn_24 ?_
    refine x_iload_n dX2_turn_27 rfl ?_
    refine x_dup2 dX2_turn_28 rfl rfl ?_
    refine n_iald (s0_40 L) (by omega) rfl dX2_turn_29 ?_
    refine x_as (C.1 a ha) ?_
    refine x_iload_n dX2_turn_30 rfl ?_
    refine cS1 (mj := mX2_mask) lkX2_18 okX2_mask stX2_mask rfl rfl rfl rfl dX2_turn_31 rfl (k_mask hb ?_)
    refine x_ixor dX2_turn_34 ?_
    refine x_as (fb_xorI _ _) ?_
    refine n_iast rfl (s0_40 L) (by omega) rfl dX2_turn_35 ?_
    refine x_aload_n dX2_turn_36 rfl ?_
    refine x_iconst dX2_turn_37 iconst_1 ?_
    refine x_as (show nI 1 = bI true from rfl) ?_
    refine g_Pz (s0_39 L) fkX2_30 rfl rfl rfl rfl dX2_turn_38 ?_
    refine x_aload_n dX2_turn_41 rfl ?_
    refine g_R (s0_39 L) fkX2_9 rfl rfl rfl dX2_turn_42 ?_
    refine x_iconst dX2_turn_45 iconst_0 ?_
    refine x_aload_n dX2_turn_46 rfl ?_
    refine g_R (s0_39 L) fkX2_15 rfl rfl rfl dX2_turn_47 ?_
    refine x_iconst dX2_turn_50 iconst_0 ?_
    refine x_bipush dX2_turn_51 bipush_10 ?_
    refine x_copy acX2_34 w_nat w_acs w_sys (by decide) (by decide) (Nat.le_of_eq (S0_len L).symm) (s0_40 L) (s0_41 L) (by decide) (by decide) (by decide) (by decide) (by decide) (by decide) (by decide) dX2_turn_53 ?_
    refine x_iconst dX2_turn_56 iconst_0 ?_
    refine x_istore_n dX2_turn_57 (by decide) rfl ?_
    have hV := setOv_ok OV hb hne (!(O a).testBit b)
    have hN : ∀ i, i < 10 → upd (M 40) a (nI (rv (O a) ^^^ 2 ^ (9 - b))) i = nI (rv ((setOv O a b (!(O a).testBit b)) i)) := by
      intro i hi
      by_cases e : i = a
      · subst e; rw [upd_at, (setOv_rv OV ha hb).1]
      · rw [upd_ne _ _ e, C.1 i hi]; unfold setOv; rw [if_neg e]
    have hS := smK_one (f := fun i => on10 (O i)) (g := fun i => on10 ((setOv O a b (!(O a).testBit b)) i)) (a := a) (fun i e => by (try dsimp only); unfold setOv; rw [if_neg e]) 10 ha
    (try dsimp only at hS)
    have hs2 := (setOv_rv OV ha hb).2.1 z1
    refine k_warsh (M := _) (e := eOv (setOv O a b (!(O a).testBit b)) 0) (fun M2 u k1 k2 k3 => ?_) _ (fun i => rv ((setOv O a b (!(O a).testBit b)) i)) Fr.rf ?_ ?_ ?_
    · refine hQ M2 (((((Fr.rf.set _ (by decide)).set _ (by decide)).set _ (by decide)).set _ (by decide)).trans (k1.sub (by decide))) ⟨fun i hi => ?_, ⟨u, k2, k3⟩, ?_, true, ?_, fun z => by cases z⟩
      · refine (congrFun (k1 40 (by decide)) i).trans ?_
        exact hN i hi
      · refine (congrFun (k1 39 (by decide)) 2).trans ?_
        exact congrArg nI (by omega)
      · refine (congrFun (k1 39 (by decide)) 4).trans ?_
        simp [sM, upd]
    · intro i hi
      refine ⟨?_, (rv_all (hV i hi).1).1⟩
      rw [sM_at]
      refine (pk_cpy_in (Nat.zero_le _) (show i < 0 + 10 by omega)).trans ?_
      rw [show (nI 0).toNatClampNeg + (i - 0) = i from Nat.zero_add i]
      exact hN i hi
    · intro i j hi hj hz
      refine tcB_iff.mpr ⟨0, ?_⟩
      show eOv (setOv O a b (!(O a).testBit b)) 0 i j = true
      rw [eOv0, ← rvO (hV i hi).1 hj]; exact hz
    · intro i j hi hj hz
      have hz2 : eOv (setOv O a b (!(O a).testBit b)) 0 i j = true := hz
      rw [eOv0, ← rvO (hV i hi).1 hj] at hz2; exact hz2
set_option maxRecDepth 100000 in
set_option maxHeartbeats 4000000 in
theorem k_noRing0 {E : vE} {l : Launch} {Q : Option Value → vS → vM → Prop} {L : Nat} {M : vM} {O : Nat → Nat} (OV : ∀ a, a < 10 → O a < 1024 ∧ (O a).testBit a = false) (C : ∀ a, a < 10 → M 40 a = nI (rv (O a))) {s : Nat} {x : Int32} (hQ : Q (some (.int (bI (acy O s)))) (S0 L) M) : ∀ Z : Nat, KI O s Z → lft Z + 0 ≤ 10 → PM E l mX2_isWithoutRing 4 [.ref 39, .int x, .int (nI Z), .int (nI 0), .null, .null] [] (S0 L) M 0 0 Q := by
  have hO : ∀ a, a < 10 → O a < 1024 := fun a ha => (OV a ha).1
  refine lp_up (P := fun r => ∀ Z : Nat, KI O s Z → lft Z + r ≤ 10 → PM E l mX2_isWithoutRing 4 [.ref 39, .int x, .int (nI Z), .int (nI r), .null, .null] [] (S0 L) M 0 0 Q) 10 ?_ ?_ 0 (by omega)
  · intro Z hI hz
    have e0 : Z = 0 := lft_0 hI.1 (by omega)
    have hZ := hI.1
    refine x_iload_n dX2_isWithoutRing_4 rfl ?_
    refine x_bipush dX2_isWithoutRing_5 bipush_10 ?_
    refine n_icmp_ge 69 dX2_isWithoutRing_7 rfl (by omega) (by omega) (fun h1 => ?_) (fun h1 => by omega)
    refine x_iload_n dX2_isWithoutRing_69 rfl ?_
    refine n_if_ne 77 dX2_isWithoutRing_70 rfl (by omega) (fun h2 => by omega) (fun h2 => ?_)
    refine x_iconst dX2_isWithoutRing_73 iconst_1 ?_
    refine x_goto 78 dX2_isWithoutRing_74 rfl ?_
    refine x_iret dX2_isWithoutRing_78 rfl (by first | exact bI_nar _ | exact n1_nar | exact n0_nar) ?_
    rw [e0] at hz hI
    rw [KI.zero hI] at hQ
    exact hQ
  · intro r hr ih Z hI hz
    have hZ := hI.1
    have li : Z ≠ 0 → PM E l mX2_isWithoutRing 20 [.ref 39, .int x, .int (nI (itr (ksT O) 0 Z)), .int (nI r), .int (nI Z), .int (nI 0)] [] (S0 L) M 0 0 Q := by
      intro z0
      refine lp_up (P := fun i => PM E l mX2_isWithoutRing 20 [.ref 39, .int x, .int (nI (itr (ksT O) i Z)), .int (nI r), .int (nI Z), .int (nI i)] [] (S0 L) M 0 0 Q) 10 ?_ ?_ 0 (by omega)
      · have hR : ksR O Z < 1024 := (hI.round hO 10 (by omega)).1
        have hR2 : itr (ksT O) 10 Z < 1024 := hR
        refine x_iload dX2_isWithoutRing_20 rfl ?_
        refine x_bipush dX2_isWithoutRing_22 bipush_10 ?_
        refine n_icmp_ge 55 dX2_isWithoutRing_24 rfl (by omega) (by omega) (fun h1 => ?_) (fun h1 => by omega)
        refine x_iload_n dX2_isWithoutRing_55 rfl ?_
        refine x_iload dX2_isWithoutRing_56 rfl ?_
        refine n_icmp_ne 63 dX2_isWithoutRing_58 rfl (by omega) (by omega) (fun z1 => ?_) (fun z1 => ?_)
        · refine n_inc dX2_isWithoutRing_63 rfl rfl ?_
          refine x_goto 4 dX2_isWithoutRing_66 rfl ?_
          refine x_mask [true, true, true, true, false, false] ?_
          refine ih _ (hI.round hO 10 (by omega)) ?_
          have := lft_less (O := O) hZ hR z1
          show lft (ksR O Z) + (r + 1) ≤ 10
          omega
        · refine x_iconst dX2_isWithoutRing_61 iconst_0 ?_
          refine x_iret dX2_isWithoutRing_62 rfl (by first | exact bI_nar _ | exact n1_nar | exact n0_nar) ?_
          rw [KI.stuck hO hI z0 z1] at hQ
          exact hQ
      · intro i hi ihi
        have hI2 := (hI.round hO i (by omega)).1
        refine x_iload dX2_isWithoutRing_20 rfl ?_
        refine x_bipush dX2_isWithoutRing_22 bipush_10 ?_
        refine n_icmp_ge 55 dX2_isWithoutRing_24 rfl (by omega) (by omega) (fun h1 => by omega) (fun h1 => ?_)
        refine x_aload_n dX2_isWithoutRing_27 rfl ?_
        refine g_R (s0_39 L) fkX2_9 rfl rfl rfl dX2_isWithoutRing_28 ?_
        refine x_iload dX2_isWithoutRing_31 rfl ?_
        refine n_iald (s0_40 L) (by omega) rfl dX2_isWithoutRing_33 ?_
        refine x_as (C i hi) ?_
        refine x_iload_n dX2_isWithoutRing_34 rfl ?_
        refine x_iand dX2_isWithoutRing_35 ?_
        refine x_as (fa_and _ _) ?_
        refine n_if_ne 49 dX2_isWithoutRing_36 rfl (Nat.lt_of_le_of_lt Nat.and_le_right (by omega)) (fun z1 => ?_) (fun z1 => ?_)
        · refine n_inc dX2_isWithoutRing_49 rfl rfl ?_
          refine x_goto 20 dX2_isWithoutRing_52 rfl ?_
          have e9 : itr (ksT O) (i + 1) Z = itr (ksT O) i Z := by
            show (if rv (O i) &&& itr (ksT O) i Z = 0 then itr (ksT O) i Z &&& (2 ^ (9 - i) ^^^ 1023) else itr (ksT O) i Z) = _
            rw [if_neg z1]
          rw [e9] at ihi
          exact ihi
        · refine x_iload_n dX2_isWithoutRing_39 rfl ?_
          refine x_iload dX2_isWithoutRing_40 rfl ?_
          refine cS1 (mj := mX2_mask) lkX2_18 okX2_mask stX2_mask rfl rfl rfl rfl dX2_isWithoutRing_42 rfl (k_mask hi ?_)
          refine x_iconst dX2_isWithoutRing_45 iconst_m1 ?_
          refine x_ixor dX2_isWithoutRing_46 ?_
          refine x_iand dX2_isWithoutRing_47 ?_
          refine x_as (without hI2) ?_
          refine x_istore_n dX2_isWithoutRing_48 (by decide) rfl ?_
          refine n_inc dX2_isWithoutRing_49 rfl rfl ?_
          refine x_goto 20 dX2_isWithoutRing_52 rfl ?_
          have e9 : itr (ksT O) (i + 1) Z = itr (ksT O) i Z &&& (2 ^ (9 - i) ^^^ 1023) := by
            show (if rv (O i) &&& itr (ksT O) i Z = 0 then itr (ksT O) i Z &&& (2 ^ (9 - i) ^^^ 1023) else itr (ksT O) i Z) = _
            rw [if_pos z1]
          rw [e9] at ihi
          exact ihi
    refine x_iload_n dX2_isWithoutRing_4 rfl ?_
    refine x_bipush dX2_isWithoutRing_5 bipush_10 ?_
    refine n_icmp_ge 69 dX2_isWithoutRing_7 rfl (by omega) (by omega) (fun h1 => by omega) (fun h1 => ?_)
    refine x_iload_n dX2_isWithoutRing_10 rfl ?_
    refine n_if_eq 69 dX2_isWithoutRing_11 rfl (by omega) (fun z0 => ?_) (fun z0 => ?_)
    · have e0 : Z = 0 := z0
      refine x_iload_n dX2_isWithoutRing_69 rfl ?_
      refine n_if_ne 77 dX2_isWithoutRing_70 rfl (by omega) (fun h3 => by omega) (fun h3 => ?_)
      refine x_iconst dX2_isWithoutRing_73 iconst_1 ?_
      refine x_goto 78 dX2_isWithoutRing_74 rfl ?_
      refine x_iret dX2_isWithoutRing_78 rfl (by first | exact bI_nar _ | exact n1_nar | exact n0_nar) ?_
      rw [e0] at hz hI
      rw [KI.zero hI] at hQ
      exact hQ
    · refine x_iload_n dX2_isWithoutRing_14 rfl ?_
      refine x_istore dX2_isWithoutRing_15 (by decide) rfl ?_
      refine x_iconst dX2_isWithoutRing_17 iconst_0 ?_
      refine x_istore dX2_isWithoutRing_18 (by decide) rfl ?_
      exact li z0
set_option maxRecDepth 100000 in
set_option maxHeartbeats 4000000 in
theorem k_noRing {E : vE} {l : Launch} {Q : Option Value → vS → vM → Prop} {L : Nat} {M : vM} {O : Nat → Nat} (OV : ∀ a, a < 10 → O a < 1024 ∧ (O a).testBit a = false) (C : ∀ a, a < 10 → M 40 a = nI (rv (O a))) {s K : Nat} (hK : K < 1024) (hb2 : ∀ b, b < 10 → hs K b = !s.testBit b) (hQ : Q (some (.int (bI (acy O s)))) (S0 L) M) : PM E l mX2_isWithoutRing 0 [.ref 39, .int (nI K), .null, .null, .null, .null] [] (S0 L) M 0 0 Q := by
  refine x_iload_n dX2_isWithoutRing_0 rfl ?_
  refine x_istore_n dX2_isWithoutRing_1 (by decide) rfl ?_
  refine x_iconst dX2_isWithoutRing_2 iconst_0 ?_
  refine x_istore_n dX2_isWithoutRing_3 (by decide) rfl ?_
  refine k_noRing0 OV C (s := s) hQ K ⟨hK, fun b hb hz => ?_, fun a ha h1 h2 => ?_⟩ (show lft K + 0 ≤ 10 from ctt_le (hs K) 10)
  · rw [hb2 b hb] at hz; cases h9 : s.testBit b with | false => rfl | true => rw [h9] at hz; cases hz
  · rw [hb2 a ha, h1] at h2; cases h2
theorem kept_hs {n b : Nat} (hn : n < 1024) (hb : b < 10) : hs (1023 &&& (n ^^^ 1023)) b = !(rv n).testBit b := by
  have h := (rv_all hn).2.2.2 (9 - b) (by omega)
  rw [show 9 - (9 - b) = b by omega] at h
  rw [h]
  unfold hs
  rw [wo_bit (by omega), show (1023 : Nat) = 2 ^ 10 - 1 from rfl, tb_all (by omega)]
  rfl
theorem ofm1 : Int32.ofInt (-1) = (-1 : Int32) := by decide
set_option maxRecDepth 100000 in
set_option maxHeartbeats 4000000 in
theorem k_fewest {E : vE} {l : Launch} {Q : Option Value → vS → vM → Prop} {L : Nat} {M : vM} {O : Nat → Nat} (OV : ∀ a, a < 10 → O a < 1024 ∧ (O a).testBit a = false) (C : LyC M O) (hQ : ∀ M1 : vM, Fr [39] M M1 → M1 39 2 = M 39 2 → M1 39 4 = bI false → M1 39 3 = nI (rv (fwS O 1023)) → Q (some (.int (nI (rv (fwS O 1023))))) (S0 L) M1) : PM E l mX2_fewestDropped 0 [.ref 39, .null] [] (S0 L) M 0 0 Q := by
  have lp : ∀ n, n ≤ 1024 → ∀ (M1 : vM) (d : Nat), Fr [39] M M1 → M1 39 2 = M 39 2 → M1 39 4 = bI false → M1 39 3 = nI d → FD O (n) d → PM E l mX2_fewestDropped 28 [.ref 39, .int (nI (n) + Int32.ofInt (-1))] [] (S0 L) M1 0 0 Q := by
    intro n
    induction n with
    | zero =>
      intro _ M1 d g1 g2 g3 g4 g5
      rw [show nI 0 + Int32.ofInt (-1) = (-1 : Int32) by decide]
      refine x_iload_n dX2_fewestDropped_28 rfl ?_
      refine x_if_lt 71 dX2_fewestDropped_29 rfl (fun h1 => ?_) (fun h1 => by exact absurd (show (-1 : Int32) < 0 by decide) h1)
      refine x_aload_n dX2_fewestDropped_71 rfl ?_
      refine g_I (s0_39 L) fkX2_43 rfl rfl dX2_fewestDropped_72 ?_
      refine x_as g4 ?_
      refine x_iret dX2_fewestDropped_75 rfl rfl ?_
      rw [FD.done g5] at g4 ⊢
      exact hQ M1 g1 g2 g3 g4
    | succ n ih =>
      intro hn M1 d g1 g2 g3 g4 g5
      rw [show nI (n + 1) + Int32.ofInt (-1) = nI n by rw [ofm1, nI_dn (by omega)]; rfl]
      have hd := g5.1
      have o1 := on10_le n
      have o2 := on10_le d
      refine x_iload_n dX2_fewestDropped_28 rfl ?_
      refine x_if_lt 71 dX2_fewestDropped_29 rfl (fun h1 => by exact absurd h1 (nI_pos (by omega))) (fun h1 => ?_)
      refine x_iload_n dX2_fewestDropped_32 rfl ?_
      refine cS1 (mj := mJ6_bitCount_0f7a4) lkX2_46 okJ6_bitCount_0f7a4 stJ6_bitCount_0f7a4 rfl rfl rfl rfl dX2_fewestDropped_33 rfl (c_bitCount (by omega) ?_)
      refine x_aload_n dX2_fewestDropped_36 rfl ?_
      refine g_I (s0_39 L) fkX2_43 rfl rfl dX2_fewestDropped_37 ?_
      refine x_as g4 ?_
      refine cS1 (mj := mJ6_bitCount_0f7a4) lkX2_46 okJ6_bitCount_0f7a4 stJ6_bitCount_0f7a4 rfl rfl rfl rfl dX2_fewestDropped_40 rfl (c_bitCount hd ?_)
      refine n_icmp_ge 65 dX2_fewestDropped_43 rfl (by omega) (by omega) (fun z1 => ?_) (fun z1 => ?_)
      · refine x_iinc dX2_fewestDropped_65 rfl rfl rfl ?_
        refine x_goto 28 dX2_fewestDropped_68 rfl ?_
        exact ih (by omega) M1 d g1 g2 g3 g4 (g5.no (by omega) (fun z => absurd z (by omega)))
      · refine x_aload_n dX2_fewestDropped_46 rfl ?_
        refine x_sipush dX2_fewestDropped_47 sipush_1023 ?_
        refine x_iload_n dX2_fewestDropped_50 rfl ?_
        refine x_iconst dX2_fewestDropped_51 iconst_m1 ?_
        refine x_ixor dX2_fewestDropped_52 ?_
        refine x_iand dX2_fewestDropped_53 ?_
        refine x_as (without (by omega)) ?_
        refine cV1 (mj := mX2_isWithoutRing) lkX2_51 okX2_isWithoutRing imX2_isWithoutRing seX2_isWithoutRing (s0_39 L) rfl rfl rfl rfl rfl dX2_fewestDropped_54 rfl (k_noRing OV (fun i hi => (congrFun (g1 40 (by decide)) i).trans (C.1 i hi)) (s := rv n) (and_lt (by omega)) (fun b hb => kept_hs (by omega) hb) ?_)
        refine b_if_eq 65 dX2_fewestDropped_57 rfl (fun z2 => ?_) (fun z2 => ?_)
        · refine x_iinc dX2_fewestDropped_65 rfl rfl rfl ?_
          refine x_goto 28 dX2_fewestDropped_68 rfl ?_
          exact ih (by omega) M1 d g1 g2 g3 g4 (g5.no (by omega) (fun _ => z2))
        · refine x_aload_n dX2_fewestDropped_60 rfl ?_
          refine x_iload_n dX2_fewestDropped_61 rfl ?_
          refine g_P (s0_39 L) fkX2_43 rfl rfl rfl rfl dX2_fewestDropped_62 ?_
          refine x_iinc dX2_fewestDropped_65 rfl rfl rfl ?_
          refine x_goto 28 dX2_fewestDropped_68 rfl ?_
          refine ih (by omega) _ n (g1.set _ (by decide)) ?_ ?_ ?_ (g5.yes (by omega) z1 z2)
          · refine Eq.trans ?_ g2; simp [sM, upd]
          · refine Eq.trans ?_ g3; simp [sM, upd]
          · simp [sM, upd]
  obtain ⟨st, c4, c3⟩ := C.2.2.2
  refine x_aload_n dX2_fewestDropped_0 rfl ?_
  refine g_I (s0_39 L) fkX2_30 rfl rfl dX2_fewestDropped_1 ?_
  refine x_as c4 ?_
  refine b_if_ne 12 dX2_fewestDropped_4 rfl (fun y0 => ?_) (fun y0 => ?_)
  · refine x_aload_n dX2_fewestDropped_12 rfl ?_
    refine x_iconst dX2_fewestDropped_13 iconst_0 ?_
    refine x_as (show nI 0 = bI false from rfl) ?_
    refine g_Pz (s0_39 L) fkX2_30 rfl rfl rfl rfl dX2_fewestDropped_14 ?_
    refine x_aload_n dX2_fewestDropped_17 rfl ?_
    refine x_sipush dX2_fewestDropped_18 sipush_1023 ?_
    refine g_P (s0_39 L) fkX2_43 rfl rfl rfl rfl dX2_fewestDropped_21 ?_
    refine x_sipush dX2_fewestDropped_24 sipush_1023 ?_
    refine x_istore_n dX2_fewestDropped_27 (by decide) rfl ?_
    rw [show nI 1023 = nI 1024 + Int32.ofInt (-1) by decide]
    refine lp 1024 (by omega) _ 1023 ((Fr.rf.set _ (by decide)).set _ (by decide)) ?_ ?_ ?_ (FD.first O)
    · simp [sM, upd]
    · simp [sM, upd]
    · simp [sM, upd]; decide
  · subst y0
    refine x_aload_n dX2_fewestDropped_7 rfl ?_
    refine g_I (s0_39 L) fkX2_43 rfl rfl dX2_fewestDropped_8 ?_
    refine x_as (c3 rfl) ?_
    refine x_iret dX2_fewestDropped_11 rfl rfl ?_
    exact hQ M Fr.rf rfl c4 (c3 rfl)

theorem fa_and (a b : Nat) : nI a &&& nI b = nI (a &&& b) := by
  apply Int32.toBitVec_inj.1
  show BitVec.ofNat 32 a &&& BitVec.ofNat 32 b = BitVec.ofNat 32 (a &&& b)
  apply BitVec.eq_of_getLsbD_eq
  intro i hi
  simp [hi]
theorem fa_or (a b : Nat) : nI a ||| nI b = nI (a ||| b) := by
  apply Int32.toBitVec_inj.1
  show BitVec.ofNat 32 a ||| BitVec.ofNat 32 b = BitVec.ofNat 32 (a ||| b)
  apply BitVec.eq_of_getLsbD_eq
  intro i hi
  simp [hi]
theorem fb_xorI (a b : Nat) : nI a ^^^ nI b = nI (a ^^^ b) := by
  apply Int32.toBitVec_inj.1
  show BitVec.ofNat 32 a ^^^ BitVec.ofNat 32 b = BitVec.ofNat 32 (a ^^^ b)
  apply BitVec.eq_of_getLsbD_eq
  intro i hi
  simp [hi]
theorem sm10 : ∀ k : Fin 10, ((nI k.val).toBitVec.smod 32).toNat = k.val := by decide
theorem and31 : ∀ k : Fin 10, nI k.val &&& 31 = nI k.val := by decide
theorem shl10 : ∀ k : Fin 10, nI 1 <<< (nI k.val &&& 31) = nI (2 ^ k.val) := by decide
def b1 (b : Bool) : Nat := if b then 1 else 0
theorem bit_at {x k : Nat} (hx : x < 2 ^ 31) (hk : k < 10) : (nI x >>> (nI k &&& 31)) &&& nI 1 = nI (b1 (x.testBit k)) := by
  rw [and31 ⟨k, hk⟩, pk_shrN hx _ k (sm10 ⟨k, hk⟩), fa_and, Nat.and_one_is_mod]
  unfold b1
  rw [Nat.testBit_eq_decide_div_mod_eq]
  by_cases h : x / 2 ^ k % 2 = 1
  · rw [h]; simp
  · rw [show x / 2 ^ k % 2 = 0 by omega]; simp
theorem b1_1 (b : Bool) : (b1 b = 1) ↔ b = true := by cases b <;> decide
theorem b1_le (b : Bool) : b1 b ≤ 1 := by cases b <;> decide
theorem m1_nI : (-1 : Int32) = nI 4294967295 := by decide
theorem tb_all {n i : Nat} (h : i < n) : (2 ^ n - 1).testBit i = true := by rw [Nat.testBit_two_pow_sub_one]; exact decide_eq_true h
theorem tb_hi {x i : Nat} (hx : x < 1024) (hi : 10 ≤ i) : x.testBit i = false := Nat.testBit_lt_two_pow (Nat.lt_of_lt_of_le hx (by
  have : 2 ^ 10 ≤ 2 ^ i := Nat.pow_le_pow_right (by omega) hi
  omega))
theorem without {x d : Nat} (hx : x < 1024) : nI x &&& (nI d ^^^ (-1)) = nI (x &&& (d ^^^ 1023)) := by
  rw [m1_nI, fb_xorI, fa_and]
  congr 1
  apply Nat.eq_of_testBit_eq
  intro i
  rw [Nat.testBit_and, Nat.testBit_and, Nat.testBit_xor, Nat.testBit_xor]
  by_cases hi : i < 10
  · rw [show (4294967295 : Nat) = 2 ^ 32 - 1 from rfl, show (1023 : Nat) = 2 ^ 10 - 1 from rfl, tb_all (n := 32) (by omega), tb_all (n := 10) hi]
  · rw [tb_hi hx (by omega)]; rfl
theorem and_lt {x d : Nat} (hx : x < 1024) : x &&& d < 1024 := Nat.lt_of_le_of_lt Nat.and_le_left hx
theorem or_lt {x y : Nat} (hx : x < 1024) (hy : y < 1024) : x ||| y < 1024 := Nat.or_lt_two_pow (n := 10) hx hy
theorem wo_bit {x d i : Nat} (hi : i < 10) : (x &&& (d ^^^ 1023)).testBit i = (x.testBit i && !d.testBit i) := by
  rw [Nat.testBit_and, Nat.testBit_xor, show (1023 : Nat) = 2 ^ 10 - 1 from rfl, tb_all hi]
  cases x.testBit i <;> cases d.testBit i <;> rfl
/-! ways -/
def pth (e : Nat → Nat → Bool) : Nat → Nat → Nat → Prop
  | 0, x, y => e x y = true
  | k + 1, x, y => ∃ c, c < 10 ∧ e x c = true ∧ pth e k c y
noncomputable def tcB (e : Nat → Nat → Bool) (x y : Nat) : Bool := @decide (∃ k, pth e k x y) (Classical.propDecidable _)
theorem tcB_iff {e : Nat → Nat → Bool} {x y : Nat} : tcB e x y = true ↔ ∃ k, pth e k x y := by
  unfold tcB
  exact @decide_eq_true_iff _ (Classical.propDecidable _)
theorem pth_app {e : Nat → Nat → Bool} {y z m : Nat} (hy : y < 10) (h2 : pth e m y z) : ∀ k x, pth e k x y → pth e (k + m + 1) x z
  | 0, x, h1 => by
    rw [Nat.zero_add]
    exact ⟨y, hy, h1, h2⟩
  | k + 1, x, ⟨c, hc, h3, h4⟩ => by
    have := pth_app hy h2 k c h4
    rw [show k + 1 + m + 1 = (k + m + 1) + 1 by omega]
    exact ⟨c, hc, h3, this⟩
theorem tcB_trans {e : Nat → Nat → Bool} {x y z : Nat} (hy : y < 10) (h1 : tcB e x y = true) (h2 : tcB e y z = true) : tcB e x z = true := by
  obtain ⟨k, hk⟩ := tcB_iff.mp h1
  obtain ⟨m, hm⟩ := tcB_iff.mp h2
  exact tcB_iff.mpr ⟨_, pth_app hy hm k x hk⟩
/-- ways by cells below t -/
def WP (e : Nat → Nat → Bool) : Nat → Nat → Nat → Prop
  | 0, x, y => e x y = true
  | t + 1, x, y => WP e t x y ∨ (WP e t x t ∧ WP e t t y)
theorem WP_comp {e : Nat → Nat → Bool} : ∀ t c, c < t → ∀ x y, WP e t x c → WP e t c y → WP e t x y
  | 0, c, hc => absurd hc (Nat.not_lt_zero c)
  | t + 1, c, hc => by
    intro x y h1 h2
    by_cases e1 : c = t
    · subst e1
      have h3 : WP e c x c := h1.elim id (fun z => z.1)
      have h4 : WP e c c y := h2.elim id (fun z => z.2)
      exact Or.inr ⟨h3, h4⟩
    · have ih := WP_comp (e := e) t c (by omega)
      rcases h1 with h1 | ⟨h1, h1b⟩ <;> rcases h2 with h2 | ⟨h2, h2b⟩
      · exact Or.inl (ih x y h1 h2)
      · exact Or.inr ⟨ih x t h1 h2, h2b⟩
      · exact Or.inr ⟨h1, ih t y h1b h2⟩
      · exact Or.inr ⟨h1, h2b⟩
theorem WP_up {e : Nat → Nat → Bool} {x y : Nat} (h : e x y = true) : ∀ t, WP e t x y
  | 0 => h
  | t + 1 => Or.inl (WP_up h t)
theorem pth_WP {e : Nat → Nat → Bool} {y : Nat} : ∀ k x, pth e k x y → WP e 10 x y
  | 0, x, h => WP_up h 10
  | k + 1, x, ⟨c, hc, h1, h2⟩ => WP_comp 10 c hc x y (WP_up h1 10) (pth_WP k c h2)
/-- marks that are sound and hold all ways are the ways -/
theorem tc_eq {e u : Nat → Nat → Bool} (hs : ∀ x y, x < 10 → y < 10 → u x y = true → tcB e x y = true) (hc : ∀ x y, x < 10 → y < 10 → WP e 10 x y → u x y = true) {x y : Nat} (hx : x < 10) (hy : y < 10) : u x y = tcB e x y := by
  cases hu : u x y with
  | true => exact (hs x y hx hy hu).symm
  | false =>
    cases ht : tcB e x y with
    | false => rfl
    | true =>
      obtain ⟨k, hk⟩ := tcB_iff.mp ht
      rw [hc x y hx hy (pth_WP k x hk)] at hu
      cases hu
/-- over, among the layers that are not dropped -/
def eOv (O : Nat → Nat) (x a b : Nat) : Bool := !x.testBit a && !x.testBit b && (O a).testBit b
theorem ctt_cong {p q : Nat → Bool} : ∀ {n : Nat}, (∀ k, k < n → p k = q k) → ctt p n = ctt q n
  | 0, _ => rfl
  | n + 1, h => by simp only [ctt]; rw [ctt_cong (fun k hk => h k (by omega)), h n (by omega)]
set_option maxRecDepth 100000 in
set_option maxHeartbeats 4000000 in
theorem m_ones {E : vE} {l : Launch} {Q : Option Value → vS → vM → Prop} {S : vS} {M : vM} {x : Nat} (hx : x < 1024) (hQ : Q (some (.int (nI (ctt (fun k => x.testBit k) 10)))) S M) : PM E l mX9_ones 0 [.int (nI x), .null, .null] [] S M 0 0 Q := by
  have l1 : PM E l mX9_ones 4 [.int (nI x), .int (nI (ctt (fun k => x.testBit k) 0)), .int (nI 0)] [] S M 0 0 Q := by
    refine lp_up (P := fun i => PM E l mX9_ones 4 [.int (nI x), .int (nI (ctt (fun k => x.testBit k) i)), .int (nI i)] [] S M 0 0 Q) 10 ?_ ?_ 0 (by omega)
    · skip
      refine x_iload_n dX9_ones_4 rfl ?_
      refine x_bipush dX9_ones_5 bipush_10 ?_
      refine n_icmp_ge 24 dX9_ones_7 rfl (by omega) (by omega) (fun h1 => ?_) (fun h1 => by omega)
      refine x_iload_n dX9_ones_24 rfl ?_
      refine x_iret dX9_ones_25 rfl rfl ?_
      exact hQ
    · intro i hi ih
      refine x_iload_n dX9_ones_4 rfl ?_
      refine x_bipush dX9_ones_5 bipush_10 ?_
      refine n_icmp_ge 24 dX9_ones_7 rfl (by omega) (by omega) (fun h1 => by omega) (fun h1 => ?_)
      refine x_iload_n dX9_ones_10 rfl ?_
      refine x_iload_n dX9_ones_11 rfl ?_
      refine x_iload_n dX9_ones_12 rfl ?_
      refine x_ishr dX9_ones_13 ?_
      refine x_iconst dX9_ones_14 iconst_1 ?_
      refine x_iand dX9_ones_15 ?_
      refine x_as (bit_at (by omega) (by omega)) ?_
      refine n_iadd dX9_ones_16 ?_
      refine x_istore_n dX9_ones_17 (by decide) rfl ?_
      refine n_inc dX9_ones_18 rfl rfl ?_
      refine x_goto 4 dX9_ones_21 rfl ?_
      exact ih
  refine x_iconst dX9_ones_0 iconst_0 ?_
  refine x_istore_n dX9_ones_1 (by decide) rfl ?_
  refine x_iconst dX9_ones_2 iconst_0 ?_
  refine x_istore_n dX9_ones_3 (by decide) rfl ?_
  exact l1
set_option maxRecDepth 100000 in
set_option maxHeartbeats 4000000 in
theorem m_layUnder {E : vE} {l : Launch} {Q : Option Value → vS → vM → Prop} {L : Nat} {M : vM} {O : Nat → Nat} (OV : ∀ a, a < 10 → O a < 1024 ∧ (O a).testBit a = false) (OM : OvM M O) {x : Nat} (hx : x < 1024) (hQ : ∀ (M1 : vM) (u : Nat → Nat), Fr [66] M M1 → (∀ a, a < 10 → M1 66 a = nI (u a) ∧ u a < 1024) → (∀ a b, a < 10 → b < 10 → (u a).testBit b = tcB (eOv O x) a b) → Q (some (.int (nI (ctt (fun k => tcB (eOv O x) k k) 10)))) (S0 L) M1) : PM E l mX9_layUnder 0 [.ref 42, .int (nI x), .null, .null] [] (S0 L) M 0 0 Q := by
  have hU0 : ∀ a b, b < 10 → ((fun a => if x.testBit a then 0 else O a &&& (x ^^^ 1023)) a).testBit b = eOv O x a b := by
    intro a b hb
    dsimp only
    unfold eOv
    cases hx : x.testBit a with
    | true => rw [if_pos rfl]; simp
    | false => rw [if_neg (by decide), wo_bit hb]; cases (O a).testBit b <;> cases x.testBit b <;> rfl
  have l3 : ∀ (M1 : vM) (u : Nat → Nat), Fr [66] M M1 → (∀ a, a < 10 → M1 66 a = nI (u a) ∧ u a < 1024) → (∀ a b, a < 10 → b < 10 → (u a).testBit b = true → tcB (eOv O x) a b = true) → (∀ a b, a < 10 → b < 10 → WP (eOv O x) 10 a b → (u a).testBit b = true) → PM E l mX9_layUnder 105 [.ref 42, .int (nI x), .int (nI 1000), .null] [] (S0 L) M1 0 0 Q := by
    intro M1 u g1 g2 g3 g4
    have l4 : PM E l mX9_layUnder 109 [.ref 42, .int (nI x), .int (nI (ctt (fun k => (u k).testBit k) 0)), .int (nI 0)] [] (S0 L) M1 0 0 Q := by
      refine lp_up (P := fun i => PM E l mX9_layUnder 109 [.ref 42, .int (nI x), .int (nI (ctt (fun k => (u k).testBit k) i)), .int (nI i)] [] (S0 L) M1 0 0 Q) 10 ?_ ?_ 0 (by omega)
      · skip
        refine x_iload_n dX9_layUnder_109 rfl ?_
        refine x_bipush dX9_layUnder_110 bipush_10 ?_
        refine n_icmp_ge 134 dX9_layUnder_112 rfl (by omega) (by omega) (fun h1 => ?_) (fun h1 => by omega)
        refine x_iload_n dX9_layUnder_134 rfl ?_
        refine x_iret dX9_layUnder_135 rfl rfl ?_
        have h9 := hQ M1 u g1 g2 (fun a b ha hb => tc_eq (u := fun a b => (u a).testBit b) g3 g4 ha hb)
        rw [← ctt_cong (p := fun k => (u k).testBit k) (fun k hk => tc_eq (u := fun a b => (u a).testBit b) g3 g4 hk hk)] at h9
        exact h9
      · intro i hi ih
        refine x_iload_n dX9_layUnder_109 rfl ?_
        refine x_bipush dX9_layUnder_110 bipush_10 ?_
        refine n_icmp_ge 134 dX9_layUnder_112 rfl (by omega) (by omega) (fun h1 => by omega) (fun h1 => ?_)
        have hu9 := (g2 i hi).2
        refine x_iload_n dX9_layUnder_115 rfl ?_
        refine x_aload_n dX9_layUnder_116 rfl ?_
        refine g_R (s0_42 L) fkX9_80 rfl rfl rfl dX9_layUnder_117 ?_
        refine x_iload_n dX9_layUnder_120 rfl ?_
        refine n_iald (s0_66 L) (by omega) rfl dX9_layUnder_121 ?_
        refine x_as (g2 i hi).1 ?_
        refine x_iload_n dX9_layUnder_122 rfl ?_
        refine x_ishr dX9_layUnder_123 ?_
        refine x_iconst dX9_layUnder_124 iconst_1 ?_
        refine x_iand dX9_layUnder_125 ?_
        refine x_as (bit_at (by omega) (by omega)) ?_
        refine n_iadd dX9_layUnder_126 ?_
        refine x_istore_n dX9_layUnder_127 (by decide) rfl ?_
        refine n_inc dX9_layUnder_128 rfl rfl ?_
        refine x_goto 109 dX9_layUnder_131 rfl ?_
        exact ih
    refine x_iconst dX9_layUnder_105 iconst_0 ?_
    refine x_istore_n dX9_layUnder_106 (by decide) rfl ?_
    refine x_iconst dX9_layUnder_107 iconst_0 ?_
    refine x_istore_n dX9_layUnder_108 (by decide) rfl ?_
    exact l4
  have l2 : ∀ (M1 : vM) (u : Nat → Nat), Fr [66] M M1 → (∀ a, a < 10 → M1 66 a = nI (u a) ∧ u a < 1024) → (∀ a b, a < 10 → b < 10 → (u a).testBit b = true → tcB (eOv O x) a b = true) → ((∀ a b, a < 10 → b < 10 → WP (eOv O x) (0 / 100) a b → (u a).testBit b = true) ∧ ∀ a b, a < 10 → b < 10 → a * 10 + 0 / 100 < 0 % 100 → WP (eOv O x) (0 / 100 + 1) a b → (u a).testBit b = true) → PM E l mX9_layUnder 45 [.ref 42, .int (nI x), .int (nI 0), .null] [] (S0 L) M1 0 0 Q := by
    refine lp_up (P := fun i => ∀ (M1 : vM) (u : Nat → Nat), Fr [66] M M1 → (∀ a, a < 10 → M1 66 a = nI (u a) ∧ u a < 1024) → (∀ a b, a < 10 → b < 10 → (u a).testBit b = true → tcB (eOv O x) a b = true) → ((∀ a b, a < 10 → b < 10 → WP (eOv O x) (i / 100) a b → (u a).testBit b = true) ∧ ∀ a b, a < 10 → b < 10 → a * 10 + i / 100 < i % 100 → WP (eOv O x) (i / 100 + 1) a b → (u a).testBit b = true) → PM E l mX9_layUnder 45 [.ref 42, .int (nI x), .int (nI i), .null] [] (S0 L) M1 0 0 Q) 1000 ?_ ?_ 0 (by omega)
    · intro M1 u g1 g2 g3 g4
      refine x_iload_n dX9_layUnder_45 rfl ?_
      refine x_sipush dX9_layUnder_46 sipush_1000 ?_
      refine n_icmp_ge 105 dX9_layUnder_49 rfl (by omega) (by omega) (fun h1 => ?_) (fun h1 => by omega)
      refine x_mask [true, true, true, false] ?_
      exact l3 M1 u g1 g2 g3 (fun a b ha hb hw => g4.1 a b ha hb hw)
    · intro i hi ih M1 u g1 g2 g3 g4
      refine x_iload_n dX9_layUnder_45 rfl ?_
      refine x_sipush dX9_layUnder_46 sipush_1000 ?_
      refine n_icmp_ge 105 dX9_layUnder_49 rfl (by omega) (by omega) (fun h1 => by omega) (fun h1 => ?_)
      have hu1 := (g2 (i / 10 % 10) (by omega)).2
      have hdd : i / 10 / 10 = i / 100 := Nat.div_div_eq_div_mul i 10 10
      refine x_iload_n dX9_layUnder_52 rfl ?_
      refine x_bipush dX9_layUnder_53 bipush_10 ?_
      refine n_idiv dX9_layUnder_55 (by omega) (by omega) (by omega) ?_
      refine x_bipush dX9_layUnder_56 bipush_10 ?_
      refine n_irem dX9_layUnder_58 (by omega) (by omega) (by omega) ?_
      refine x_istore_n dX9_layUnder_59 (by decide) rfl ?_
      refine x_aload_n dX9_layUnder_60 rfl ?_
      refine g_R (s0_42 L) fkX9_80 rfl rfl rfl dX9_layUnder_61 ?_
      refine x_iload_n dX9_layUnder_64 rfl ?_
      refine x_dup2 dX9_layUnder_65 rfl rfl ?_
      refine n_iald (s0_66 L) (by omega) rfl dX9_layUnder_66 ?_
      refine x_as (g2 (i / 10 % 10) (by omega)).1 ?_
      refine x_aload_n dX9_layUnder_67 rfl ?_
      refine g_R (s0_42 L) fkX9_80 rfl rfl rfl dX9_layUnder_68 ?_
      refine x_iload_n dX9_layUnder_71 rfl ?_
      refine n_iald (s0_66 L) (by omega) rfl dX9_layUnder_72 ?_
      refine x_as (g2 (i / 10 % 10) (by omega)).1 ?_
      refine x_iload_n dX9_layUnder_73 rfl ?_
      refine x_bipush dX9_layUnder_74 bipush_10 ?_
      refine n_irem dX9_layUnder_76 (by omega) (by omega) (by omega) ?_
      refine x_ishr dX9_layUnder_77 ?_
      refine x_iconst dX9_layUnder_78 iconst_1 ?_
      refine x_iand dX9_layUnder_79 ?_
      refine x_as (bit_at (by omega) (by omega)) ?_
      refine x_iconst dX9_layUnder_80 iconst_1 ?_
      refine n_icmp_ne 96 dX9_layUnder_81 rfl (by have := b1_le ((u (i / 10 % 10)).testBit (i % 10)); omega) (by omega) (fun z1 => ?_) (fun z1 => ?_)
      · refine x_iconst dX9_layUnder_96 iconst_0 ?_
        refine x_ior dX9_layUnder_97 ?_
        refine n_iast rfl (s0_66 L) (by omega) rfl dX9_layUnder_98 ?_
        refine n_inc dX9_layUnder_99 rfl rfl ?_
        refine x_goto 45 dX9_layUnder_102 rfl ?_
        refine x_mask [true, true, true, false] ?_
        have zb : (u (i / 10 % 10)).testBit (i % 10) = false := by
          cases hz : (u (i / 10 % 10)).testBit (i % 10) with
          | false => rfl
          | true => exact absurd ((b1_1 _).mpr hz) z1
        have hmono : ∀ a b, (u a).testBit b = true → (u a).testBit b = true := fun _ _ z => z
        have hnew : ∀ b, (u (i / 10 % 10)).testBit (i % 10) = true → (u (i % 10)).testBit b = true → (u (i / 10 % 10)).testBit b = true := fun b t1 _ => by rw [zb] at t1; cases t1
        have key : ∀ a b, a < 10 → b < 10 → a * 10 + i / 100 ≤ i % 100 → WP (eOv O x) (i / 100 + 1) a b → (u a).testBit b = true := by
          intro a b ha hb hle hw
          by_cases e : a * 10 + i / 100 < i % 100
          · exact hmono a b (g4.2 a b ha hb e hw)
          · have e1 : a = i / 10 % 10 := by omega
            have e2 : i / 100 = i % 10 := by omega
            rcases hw with hw | ⟨hw1, hw2⟩
            · exact hmono a b (g4.1 a b ha hb hw)
            · have t1 := g4.1 a (i / 100) ha (by omega) hw1
              have t2 := g4.1 (i / 100) b (by omega) hb hw2
              rw [e1, e2] at t1
              rw [e2] at t2
              rw [e1]
              exact hnew b t1 t2
        have fin : ((∀ a b, a < 10 → b < 10 → WP (eOv O x) ((i + 1) / 100) a b → (u a).testBit b = true) ∧ ∀ a b, a < 10 → b < 10 → a * 10 + (i + 1) / 100 < (i + 1) % 100 → WP (eOv O x) ((i + 1) / 100 + 1) a b → (u a).testBit b = true) := by
          by_cases e : i % 100 = 99
          · rw [show (i + 1) / 100 = i / 100 + 1 by omega]
            exact ⟨fun a b ha hb hw => key a b ha hb (by omega) hw, fun a b ha hb hlt => absurd hlt (by omega)⟩
          · rw [show (i + 1) / 100 = i / 100 by omega]
            exact ⟨fun a b ha hb hw => hmono a b (g4.1 a b ha hb hw), fun a b ha hb hlt hw => key a b ha hb (by omega) hw⟩
        refine ih _ u (g1.set _ (by decide)) (fun a ha => ?_) g3 fin
        refine ⟨?_, (g2 a ha).2⟩
        show upd (M1 66) (i / 10 % 10) (nI (u (i / 10 % 10)) ||| nI 0) a = nI (u a)
        by_cases e : a = i / 10 % 10
        · rw [e, upd_at, fa_or, Nat.or_zero]
        · rw [upd_ne _ _ e]; exact (g2 a ha).1
      · refine x_aload_n dX9_layUnder_84 rfl ?_
        refine g_R (s0_42 L) fkX9_80 rfl rfl rfl dX9_layUnder_85 ?_
        refine x_iload_n dX9_layUnder_88 rfl ?_
        refine x_bipush dX9_layUnder_89 bipush_10 ?_
        refine n_irem dX9_layUnder_91 (by omega) (by omega) (by omega) ?_
        refine n_iald (s0_66 L) (by omega) rfl dX9_layUnder_92 ?_
        refine x_as (g2 (i % 10) (by omega)).1 ?_
        refine x_goto 97 dX9_layUnder_93 rfl ?_
        refine x_ior dX9_layUnder_97 ?_
        refine n_iast rfl (s0_66 L) (by omega) rfl dX9_layUnder_98 ?_
        refine n_inc dX9_layUnder_99 rfl rfl ?_
        refine x_goto 45 dX9_layUnder_102 rfl ?_
        refine x_mask [true, true, true, false] ?_
        have zb := (b1_1 _).mp z1
        have hmono : ∀ a b, (u a).testBit b = true → ((fun a => if a = i / 10 % 10 then u (i / 10 % 10) ||| u (i % 10) else u a) a).testBit b = true := by
          intro a b hz
          dsimp only
          split
          · rename_i e; rw [Nat.testBit_or, ← e, hz]; rfl
          · exact hz
        have hnew : ∀ b, (u (i / 10 % 10)).testBit (i % 10) = true → (u (i % 10)).testBit b = true → ((fun a => if a = i / 10 % 10 then u (i / 10 % 10) ||| u (i % 10) else u a) (i / 10 % 10)).testBit b = true := by
          intro b _ t2
          dsimp only
          rw [if_pos rfl, Nat.testBit_or, t2, Bool.or_true]
        have key : ∀ a b, a < 10 → b < 10 → a * 10 + i / 100 ≤ i % 100 → WP (eOv O x) (i / 100 + 1) a b → ((fun a => if a = i / 10 % 10 then u (i / 10 % 10) ||| u (i % 10) else u a) a).testBit b = true := by
          intro a b ha hb hle hw
          by_cases e : a * 10 + i / 100 < i % 100
          · exact hmono a b (g4.2 a b ha hb e hw)
          · have e1 : a = i / 10 % 10 := by omega
            have e2 : i / 100 = i % 10 := by omega
            rcases hw with hw | ⟨hw1, hw2⟩
            · exact hmono a b (g4.1 a b ha hb hw)
            · have t1 := g4.1 a (i / 100) ha (by omega) hw1
              have t2 := g4.1 (i / 100) b (by omega) hb hw2
              rw [e1, e2] at t1
              rw [e2] at t2
              rw [e1]
              exact hnew b t1 t2
        have fin : ((∀ a b, a < 10 → b < 10 → WP (eOv O x) ((i + 1) / 100) a b → ((fun a => if a = i / 10 % 10 then u (i / 10 % 10) ||| u (i % 10) else u a) a).testBit b = true) ∧ ∀ a b, a < 10 → b < 10 → a * 10 + (i + 1) / 100 < (i + 1) % 100 → WP (eOv O x) ((i + 1) / 100 + 1) a b → ((fun a => if a = i / 10 % 10 then u (i / 10 % 10) ||| u (i % 10) else u a) a).testBit b = true) := by
          by_cases e : i % 100 = 99
          · rw [show (i + 1) / 100 = i / 100 + 1 by omega]
            exact ⟨fun a b ha hb hw => key a b ha hb (by omega) hw, fun a b ha hb hlt => absurd hlt (by omega)⟩
          · rw [show (i + 1) / 100 = i / 100 by omega]
            exact ⟨fun a b ha hb hw => hmono a b (g4.1 a b ha hb hw), fun a b ha hb hlt hw => key a b ha hb (by omega) hw⟩
        refine ih _ (fun a => if a = i / 10 % 10 then u (i / 10 % 10) ||| u (i % 10) else u a) (g1.set _ (by decide)) (fun a ha => ?_) (fun a b ha hb hz => ?_) fin
        · show upd (M1 66) (i / 10 % 10) (nI (u (i / 10 % 10)) ||| nI (u (i % 10))) a = nI (if a = i / 10 % 10 then _ else _) ∧ (if a = i / 10 % 10 then _ else _) < 1024
          by_cases e : a = i / 10 % 10
          · rw [if_pos e, e, upd_at, fa_or]; exact ⟨rfl, or_lt (g2 _ (by omega)).2 (g2 _ (by omega)).2⟩
          · rw [if_neg e, upd_ne _ _ e]; exact g2 a ha
        · split at hz
          · rename_i e
            rw [Nat.testBit_or, Bool.or_eq_true] at hz
            rcases hz with hz | hz
            · rw [e]; exact g3 _ b (by omega) hb hz
            · rw [e]; exact tcB_trans (by omega) (g3 _ _ (by omega) (by omega) zb) (g3 _ b (by omega) hb hz)
          · exact g3 a b ha hb hz
  have l1 : ∀ M1 : vM, Fr [66] M M1 → (∀ a, a < 0 → M1 66 a = nI ((fun a => if x.testBit a then 0 else O a &&& (x ^^^ 1023)) a)) → PM E l mX9_layUnder 2 [.ref 42, .int (nI x), .int (nI 0), .null] [] (S0 L) M1 0 0 Q := by
    refine lp_up (P := fun i => ∀ M1 : vM, Fr [66] M M1 → (∀ a, a < i → M1 66 a = nI ((fun a => if x.testBit a then 0 else O a &&& (x ^^^ 1023)) a)) → PM E l mX9_layUnder 2 [.ref 42, .int (nI x), .int (nI i), .null] [] (S0 L) M1 0 0 Q) (10) ?_ ?_ (0) (by omega)
    · intro M1 g1 g2
      refine x_iload_n dX9_layUnder_2 rfl ?_
      refine x_bipush dX9_layUnder_3 bipush_10 ?_
      refine n_icmp_ge 43 dX9_layUnder_5 rfl (by omega) (by omega) (fun h1 => ?_) (fun h1 => by omega)
      refine x_iconst dX9_layUnder_43 iconst_0 ?_
      refine x_istore_n dX9_layUnder_44 (by decide) rfl ?_
      refine l2 M1 (fun a => if x.testBit a then 0 else O a &&& (x ^^^ 1023)) g1 (fun a ha => ⟨g2 a ha, ?_⟩) (fun a b ha hb hz => tcB_iff.mpr ⟨0, ?_⟩) ⟨fun a b ha hb hw => ?_, fun a b ha hb hlt => absurd hlt (by omega)⟩
      · split; omega; exact and_lt (OV a ha).1
      · exact (hU0 a b hb).symm.trans hz
      · exact (hU0 a b hb).trans hw
    · intro i hi ih M1 g1 g2
      refine x_iload_n dX9_layUnder_2 rfl ?_
      refine x_bipush dX9_layUnder_3 bipush_10 ?_
      refine n_icmp_ge 43 dX9_layUnder_5 rfl (by omega) (by omega) (fun h1 => by omega) (fun h1 => ?_)
      refine x_aload_n dX9_layUnder_8 rfl ?_
      refine g_R (s0_42 L) fkX9_80 rfl rfl rfl dX9_layUnder_9 ?_
      refine x_iload_n dX9_layUnder_12 rfl ?_
      refine x_iload_n dX9_layUnder_13 rfl ?_
      refine x_iload_n dX9_layUnder_14 rfl ?_
      refine x_ishr dX9_layUnder_15 ?_
      refine x_iconst dX9_layUnder_16 iconst_1 ?_
      refine x_iand dX9_layUnder_17 ?_
      refine x_as (bit_at (by omega) (by omega)) ?_
      refine x_iconst dX9_layUnder_18 iconst_1 ?_
      refine n_icmp_ne 26 dX9_layUnder_19 rfl (by have := b1_le (x.testBit i); omega) (by omega) (fun z1 => ?_) (fun z1 => ?_)
      · refine x_aload_n dX9_layUnder_26 rfl ?_
        refine g_R (s0_42 L) fkX9_77 rfl rfl rfl dX9_layUnder_27 ?_
        refine x_iload_n dX9_layUnder_30 rfl ?_
        refine n_iald (s0_65 L) (by omega) rfl dX9_layUnder_31 ?_
        refine x_as ((congrFun (g1 65 (by decide)) _).trans (OM i hi)) ?_
        refine x_iload_n dX9_layUnder_32 rfl ?_
        refine x_iconst dX9_layUnder_33 iconst_m1 ?_
        refine x_ixor dX9_layUnder_34 ?_
        refine x_iand dX9_layUnder_35 ?_
        refine n_iast rfl (s0_66 L) (by omega) rfl dX9_layUnder_36 ?_
        refine n_inc dX9_layUnder_37 rfl rfl ?_
        refine x_goto 2 dX9_layUnder_40 rfl ?_
        refine ih _ (g1.set _ (by decide)) (fun a ha => ?_)
        by_cases e : a = i
        · subst e
          refine (upd_at _ _ _).trans ?_
          dsimp only; rw [if_neg (fun z => z1 ((b1_1 _).mpr z))]; exact without (OV a hi).1
        · exact (upd_ne _ _ e).trans (g2 a (by omega))
      · refine x_iconst dX9_layUnder_22 iconst_0 ?_
        refine x_goto 36 dX9_layUnder_23 rfl ?_
        refine n_iast rfl (s0_66 L) (by omega) rfl dX9_layUnder_36 ?_
        refine n_inc dX9_layUnder_37 rfl rfl ?_
        refine x_goto 2 dX9_layUnder_40 rfl ?_
        refine ih _ (g1.set _ (by decide)) (fun a ha => ?_)
        by_cases e : a = i
        · subst e
          refine (upd_at _ _ _).trans ?_
          dsimp only; rw [if_pos ((b1_1 _).mp z1)]
        · exact (upd_ne _ _ e).trans (g2 a (by omega))
  refine x_iconst dX9_layUnder_0 iconst_0 ?_
  refine x_istore_n dX9_layUnder_1 (by decide) rfl ?_
  exact l1 M Fr.rf (fun a ha => absurd ha (Nat.not_lt_zero a))

/-- which cells are drained at height v in k steps -/
def lkN (w h : Nat) (ht : Nat → Nat) (cv : Nat → Bool) (v : Nat) : Nat → Nat → Prop
  | 0, o => cv o = false ∧ edg w h o = true ∧ ht o ≤ v
  | k + 1, o => lkN w h ht cv v k o ∨ (cv o = false ∧ ht o ≤ v ∧ ∃ d p, d < 4 ∧ nb w h o d = some p ∧ lkN w h ht cv v k p)
/-- levels that tell just which cells are drained at which height -/
def IsLk (w h : Nat) (ht : Nat → Nat) (cv : Nat → Bool) (lv : Nat → Option Nat) : Prop := ∀ c, c < w * h → ∀ v, (∃ x, lv c = some x ∧ x ≤ v) ↔ ∃ k, lkN w h ht cv v k c
theorem IsLk.one {w h : Nat} {ht : Nat → Nat} {cv : Nat → Bool} {l1 l2 : Nat → Option Nat} (h1 : IsLk w h ht cv l1) (h2 : IsLk w h ht cv l2) {c : Nat} (hc : c < w * h) : l1 c = l2 c := by
  have key : ∀ {a b : Nat → Option Nat}, IsLk w h ht cv a → IsLk w h ht cv b → ∀ x, a c = some x → ∃ y, b c = some y ∧ y ≤ x := by
    intro a b ha hb x e
    exact (hb c hc x).mpr ((ha c hc x).mp ⟨x, e, Nat.le_refl _⟩)
  cases e1 : l1 c with
  | none =>
    cases e2 : l2 c with
    | none => rfl
    | some y => obtain ⟨z, hz, -⟩ := key h2 h1 y e2; rw [e1] at hz; cases hz
  | some x =>
    obtain ⟨y, e2, hyx⟩ := key h1 h2 x e1
    obtain ⟨z, e3, hzy⟩ := key h2 h1 y e2
    rw [e1] at e3
    cases e3
    rw [e2, show y = x by omega]
theorem lkN_mono {w h : Nat} {ht : Nat → Nat} {cv : Nat → Bool} {v v2 : Nat} (hv : v ≤ v2) : ∀ k c, lkN w h ht cv v k c → lkN w h ht cv v2 k c
  | 0, c, e => ⟨e.1, e.2.1, Nat.le_trans e.2.2 hv⟩
  | k + 1, c, e => by
    rcases e with e | ⟨e1, e2, d, p, hd, hn, e3⟩
    · exact Or.inl (lkN_mono hv k c e)
    · exact Or.inr ⟨e1, Nat.le_trans e2 hv, d, p, hd, hn, lkN_mono hv k p e3⟩
/-- sound levels that hold the start and are closed -/
theorem lake_is {w h : Nat} (H : WH w h) {ht : Nat → Nat} {cv : Nat → Bool} {lv : Nat → Option Nat} (hs : ∀ c, c < w * h → ∀ x, lv c = some x → ∃ k, lkN w h ht cv x k c)
    (hi : ∀ c, c < w * h → cv c = false → edg w h c = true → ∃ x, lv c = some x ∧ x ≤ ht c)
    (hcl : ∀ c d o x, c < w * h → d < 4 → nb w h c d = some o → cv c = false → lv o = some x → ∃ y, lv c = some y ∧ (y ≤ x ∨ y ≤ ht c)) : IsLk w h ht cv lv := by
  intro c hc v
  constructor
  · rintro ⟨x, e, hx⟩
    obtain ⟨k, hk⟩ := hs c hc x e
    exact ⟨k, lkN_mono hx k c hk⟩
  · rintro ⟨k, hk⟩
    induction k generalizing c with
    | zero =>
      obtain ⟨x, e, hx⟩ := hi c hc hk.1 hk.2.1
      exact ⟨x, e, Nat.le_trans hx hk.2.2⟩
    | succ k ih =>
      rcases hk with hk | ⟨e1, e2, d, p, hd, hn, e3⟩
      · exact ih c hc hk
      · obtain ⟨x, e4, hx⟩ := ih p (nb_lt H hc hn) e3
        obtain ⟨y, e5, hy⟩ := hcl c d p x hc hd hn e1 e4
        exact ⟨y, e5, by omega⟩
def lvI (o : Option Nat) : Int32 := oI 100000000 o
def lmu (o : Option Nat) : Nat := match o with
  | none => 100
  | some x => x
def setO (lv : Nat → Option Nat) (c v : Nat) : Nat → Option Nat := fun q => if q = c then some v else lv q
theorem setO_at (lv : Nat → Option Nat) (c v : Nat) : setO lv c v c = some v := if_pos rfl
theorem setO_ne (lv : Nat → Option Nat) {c q : Nat} (v : Nat) (h : q ≠ c) : setO lv c v q = lv q := if_neg h
theorem smK_cong {f g : Nat → Nat} : ∀ {n : Nat}, (∀ i, i < n → f i = g i) → smK f n = smK g n
  | 0, _ => rfl
  | n + 1, h => by simp only [smK]; rw [smK_cong (fun i hi => h i (by omega)), h n (by omega)]
theorem smK_less {lv : Nat → Option Nat} {c v : Nat} (hv : v < lmu (lv c)) : ∀ n, c < n → smK (fun q => lmu (setO lv c v q)) n < smK (fun q => lmu (lv q)) n
  | 0, h => absurd h (Nat.not_lt_zero _)
  | n + 1, h => by
    simp only [smK]
    by_cases e : c = n
    · subst e
      rw [smK_cong (f := fun q => lmu (setO lv c v q)) (g := fun q => lmu (lv q)) (fun i hi => by rw [setO_ne lv v (by omega)]), setO_at]
      exact Nat.add_lt_add_left hv _
    · have h1 := smK_less hv n (by omega)
      rw [setO_ne lv v (Ne.symm e)]
      omega
theorem far_nI : (100000000 : Int32) = nI 100000000 := by decide
theorem lvI_nI (o : Option Nat) : lvI o = nI (match o with | none => 100000000 | some x => x) := by cases o <;> first | rfl | exact far_nI
def lkL0 (w h : Nat) (ht : Nat → Nat) (C : Nat → Option Nat) : Nat → Option Nat := fun c => if (C c).isSome = false ∧ edg w h c = true then some (ht c) else none
theorem lkL0_y {w h : Nat} {ht : Nat → Nat} {C : Nat → Option Nat} {c : Nat} (h1 : (C c).isSome = false) (h2 : edg w h c = true) : lkL0 w h ht C c = some (ht c) := if_pos ⟨h1, h2⟩
theorem lkL0_n1 {w h : Nat} {ht : Nat → Nat} {C : Nat → Option Nat} {c : Nat} (h1 : (C c).isSome = true) : lkL0 w h ht C c = none := if_neg (fun z => by rw [h1] at z; cases z.1)
theorem lkL0_n2 {w h : Nat} {ht : Nat → Nat} {C : Nat → Option Nat} {c : Nat} (h1 : edg w h c = false) : lkL0 w h ht C c = none := if_neg (fun z => by rw [h1] at z; cases z.2)
theorem lkL0_of {w h : Nat} {ht : Nat → Nat} {C : Nat → Option Nat} {c x : Nat} (e : lkL0 w h ht C c = some x) : (C c).isSome = false ∧ edg w h c = true ∧ x = ht c := by
  unfold lkL0 at e
  split at e
  · rename_i hy; cases e; exact ⟨hy.1, hy.2, rfl⟩
  · cases e
def lvN (o : Option Nat) : Nat := match o with
  | none => 100000000
  | some x => x
theorem lvI_N (o : Option Nat) : lvI o = nI (lvN o) := by cases o <;> first | rfl | exact far_nI
set_option maxRecDepth 100000 in
set_option maxHeartbeats 4000000 in
theorem m_lakePass {E : vE} {l : Launch} {Q : Option Value → vS → vM → Prop} {L : Nat} {M : vM} {w h : Nat} (H : WH w h) (hw : M 42 0 = nI w) (hh : M 42 1 = nI h) {ht : Nat → Nat} (hH : ∀ c, c < w * h → M 43 c = nI (ht c)) (hht : ∀ c, c < w * h → ht c ≤ 99) {g : Nat} (hg : g < 6) {C : Nat → Option Nat} (hCb : ∀ c x, C c = some x → x ≤ w * h) (hC : ∀ c, c < w * h → M 53 (36 * g + c) = oI (-900009) (C c)) {lv0 : Nat → Option Nat} (kk : ∀ (M1 : vM) (lv : Nat → Option Nat) (m : Nat), Fr [64] M M1 → (∀ c, c < w * h → M1 64 c = nI (lvN (lv c))) → (∀ c, c < w * h → ∀ x, lv c = some x → x ≤ 99 ∧ ∃ k, lkN w h ht (fun c => (C c).isSome) x k c) → (∀ c, c < w * h → (C c).isSome = false → edg w h c = true → ∃ x, lv c = some x ∧ x ≤ ht c) → ((m = 1 ∧ smK (fun q => lmu (lv q)) (w * h) < smK (fun q => lmu (lv0 q)) (w * h)) ∨ (m = 0 ∧ (∀ c, c < w * h → lv c = lv0 c) ∧ ∀ k, k < 4 * (w * h) → ∀ o x, nb w h (k / 4) (k % 4) = some o → (C (k / 4)).isSome = false → lv o = some x → ∃ y, lv (k / 4) = some y ∧ (y ≤ x ∨ y ≤ ht (k / 4)))) → PM E l mX9_layLake 173 [.ref 42, .int (nI g), .int (nI m), .int (nI (4 * (w * h))), .null, .null, .null] [] (S0 L) M1 0 0 Q) : ∀ (M1 : vM) (lv : Nat → Option Nat) (m : Nat), Fr [64] M M1 → (∀ c, c < w * h → M1 64 c = nI (lvN (lv c))) → (∀ c, c < w * h → ∀ x, lv c = some x → x ≤ 99 ∧ ∃ k, lkN w h ht (fun c => (C c).isSome) x k c) → (∀ c, c < w * h → (C c).isSome = false → edg w h c = true → ∃ x, lv c = some x ∧ x ≤ ht c) → ((m = 1 ∧ smK (fun q => lmu (lv q)) (w * h) < smK (fun q => lmu (lv0 q)) (w * h)) ∨ (m = 0 ∧ (∀ c, c < w * h → lv c = lv0 c) ∧ ∀ k, k < 0 → ∀ o x, nb w h (k / 4) (k % 4) = some o → (C (k / 4)).isSome = false → lv o = some x → ∃ y, lv (k / 4) = some y ∧ (y ≤ x ∨ y ≤ ht (k / 4)))) → PM E l mX9_layLake 60 [.ref 42, .int (nI g), .int (nI m), .int (nI 0), .null, .null, .null] [] (S0 L) M1 0 0 Q := by
  have e4 := H.le
  refine lp_up (P := fun i => ∀ (M1 : vM) (lv : Nat → Option Nat) (m : Nat), Fr [64] M M1 → (∀ c, c < w * h → M1 64 c = nI (lvN (lv c))) → (∀ c, c < w * h → ∀ x, lv c = some x → x ≤ 99 ∧ ∃ k, lkN w h ht (fun c => (C c).isSome) x k c) → (∀ c, c < w * h → (C c).isSome = false → edg w h c = true → ∃ x, lv c = some x ∧ x ≤ ht c) → ((m = 1 ∧ smK (fun q => lmu (lv q)) (w * h) < smK (fun q => lmu (lv0 q)) (w * h)) ∨ (m = 0 ∧ (∀ c, c < w * h → lv c = lv0 c) ∧ ∀ k, k < i → ∀ o x, nb w h (k / 4) (k % 4) = some o → (C (k / 4)).isSome = false → lv o = some x → ∃ y, lv (k / 4) = some y ∧ (y ≤ x ∨ y ≤ ht (k / 4)))) → PM E l mX9_layLake 60 [.ref 42, .int (nI g), .int (nI m), .int (nI i), .null, .null, .null] [] (S0 L) M1 0 0 Q) (4 * (w * h)) ?_ ?_ 0 (by omega)
  · intro M1 lv m g1 g3 g4 g5 g6
    refine x_iload_n dX9_layLake_60 rfl ?_
    refine x_iconst dX9_layLake_61 iconst_4 ?_
    refine x_aload_n dX9_layLake_62 rfl ?_
    refine cV0 (mj := mX9_cells) lkX9_103 okX9_cells imX9_cells seX9_cells (s0_42 L) rfl rfl rfl rfl rfl dX9_layLake_63 rfl (m_cells ((congrFun (g1 42 (by decide)) _).trans (hw)) ((congrFun (g1 42 (by decide)) _).trans (hh)) ?_)
    refine n_imul dX9_layLake_66 ?_
    refine n_icmp_ge 173 dX9_layLake_67 rfl (by omega) (by omega) (fun h1 => ?_) (fun h1 => by omega)
    exact kk M1 lv m g1 g3 g4 g5 g6
  · intro i hi ih M1 lv m g1 g3 g4 g5 g6
    refine x_iload_n dX9_layLake_60 rfl ?_
    refine x_iconst dX9_layLake_61 iconst_4 ?_
    refine x_aload_n dX9_layLake_62 rfl ?_
    refine cV0 (mj := mX9_cells) lkX9_103 okX9_cells imX9_cells seX9_cells (s0_42 L) rfl rfl rfl rfl rfl dX9_layLake_63 rfl (m_cells ((congrFun (g1 42 (by decide)) _).trans (hw)) ((congrFun (g1 42 (by decide)) _).trans (hh)) ?_)
    refine n_imul dX9_layLake_66 ?_
    refine n_icmp_ge 173 dX9_layLake_67 rfl (by omega) (by omega) (fun h1 => by omega) (fun h1 => ?_)
    have hq4 : i / 4 < w * h := by omega
    have hh9 := hht (i / 4) hq4
    have hlvb : ∀ c, c < w * h → lvN (lv c) ≤ 100000000 := fun c hc => by cases hx : lv c with | none => exact Nat.le_refl _ | some x => have := (g4 c hc x hx).1; show x ≤ _; omega
    have hl1 := hlvb _ hq4
    refine x_iload_n dX9_layLake_70 rfl ?_
    refine x_iconst dX9_layLake_71 iconst_4 ?_
    refine n_idiv dX9_layLake_72 (by omega) (by omega) (by omega) ?_
    refine x_istore dX9_layLake_73 (by decide) rfl ?_
    refine x_aload_n dX9_layLake_75 rfl ?_
    refine x_iload dX9_layLake_76 rfl ?_
    refine x_iload_n dX9_layLake_78 rfl ?_
    refine x_iconst dX9_layLake_79 iconst_4 ?_
    refine n_irem dX9_layLake_80 (by omega) (by omega) (by omega) ?_
    refine cV2 (mj := mX9_beside) lkX9_139 okX9_beside imX9_beside seX9_beside (s0_42 L) rfl rfl rfl rfl rfl dX9_layLake_81 rfl (m_beside H ((congrFun (g1 42 (by decide)) _).trans (hw)) ((congrFun (g1 42 (by decide)) _).trans (hh)) (c := i / 4) (d := i % 4) (by omega) (by omega) ?_)
    rcases hnb : nb w h (i / 4) (i % 4) with _ | o
    · rw [oI_none]
      refine x_istore dX9_layLake_84 (by decide) rfl ?_
      refine x_iload dX9_layLake_86 rfl ?_
      refine x_ldc kcX9_134 dX9_layLake_88 ?_
      refine x_icmp_eq 103 dX9_layLake_90 rfl (fun z0 => ?_) (fun z0 => by exact absurd rfl z0)
      refine x_ldc kcX9_219 dX9_layLake_103 ?_
      refine x_as far_nI ?_
      refine x_goto 142 dX9_layLake_105 rfl ?_
      refine x_istore dX9_layLake_142 (by decide) rfl ?_
      refine x_iload dX9_layLake_144 rfl ?_
      refine x_aload_n dX9_layLake_146 rfl ?_
      refine g_R (s0_42 L) fkX9_74 rfl rfl rfl dX9_layLake_147 ?_
      refine x_iload dX9_layLake_150 rfl ?_
      refine n_iald (s0_64 L) (by omega) rfl dX9_layLake_152 ?_
      refine x_as (g3 _ hq4) ?_
      refine n_icmp_ge 167 dX9_layLake_153 rfl (by omega) (by omega) (fun z5 => ?_) (fun z5 => by omega)
      refine n_inc dX9_layLake_167 rfl rfl ?_
      refine x_goto 60 dX9_layLake_170 rfl ?_
      refine x_mask [true, true, true, true, false, false, false] ?_
      refine ih M1 lv m g1 g3 g4 g5 ?_
      rcases g6 with g6 | ⟨g6, g7, g8⟩
      · exact Or.inl g6
      · refine Or.inr ⟨g6, g7, fun k hk o2 x ho2 y1 y2 => ?_⟩
        by_cases e : k = i
        · subst e
          rw [hnb] at ho2; cases ho2
        · exact g8 k (by omega) o2 x ho2 y1 y2
    · rw [oI_some]
      have ho := nb_lt H (by omega) hnb
      have hl2 := hlvb o ho
      refine x_istore dX9_layLake_84 (by decide) rfl ?_
      refine x_iload dX9_layLake_86 rfl ?_
      refine x_ldc kcX9_134 dX9_layLake_88 ?_
      refine x_icmp_eq 103 dX9_layLake_90 rfl (fun z0 => by exact absurd z0 (nI_ne_NONE (by omega))) (fun z0 => ?_)
      refine x_aload_n dX9_layLake_93 rfl ?_
      refine x_iload_n dX9_layLake_94 rfl ?_
      refine x_iload dX9_layLake_95 rfl ?_
      refine cV2 (mj := mX9_isCovered) lkX9_153 okX9_isCovered imX9_isCovered seX9_isCovered (s0_42 L) rfl rfl rfl rfl rfl dX9_layLake_97 rfl (m_isCovered hg (by omega) (lt31 (by omega) (hCb _)) ((congrFun (g1 53 (by decide)) _).trans (hC _ (by omega))) ?_)
      refine b_if_eq 108 dX9_layLake_100 rfl (fun z1 => ?_) (fun z1 => ?_)
      · refine x_aload_n dX9_layLake_108 rfl ?_
        refine g_R (s0_42 L) fkX9_74 rfl rfl rfl dX9_layLake_109 ?_
        refine x_iload dX9_layLake_112 rfl ?_
        refine n_iald (s0_64 L) (by omega) rfl dX9_layLake_114 ?_
        refine x_as (g3 _ ho) ?_
        refine x_aload_n dX9_layLake_115 rfl ?_
        refine g_R (s0_42 L) fkX9_7 rfl rfl rfl dX9_layLake_116 ?_
        refine x_iload dX9_layLake_119 rfl ?_
        refine n_iald (s0_43 L) (by omega) rfl dX9_layLake_121 ?_
        refine x_as ((congrFun (g1 43 (by decide)) _).trans (hH _ (by first | assumption | omega))) ?_
        refine n_icmp_le 135 dX9_layLake_122 rfl (by omega) (by omega) (fun z4 => ?_) (fun z4 => ?_)
        · refine x_aload_n dX9_layLake_135 rfl ?_
          refine g_R (s0_42 L) fkX9_7 rfl rfl rfl dX9_layLake_136 ?_
          refine x_iload dX9_layLake_139 rfl ?_
          refine n_iald (s0_43 L) (by omega) rfl dX9_layLake_141 ?_
          refine x_as ((congrFun (g1 43 (by decide)) _).trans (hH _ (by first | assumption | omega))) ?_
          refine x_istore dX9_layLake_142 (by decide) rfl ?_
          refine x_iload dX9_layLake_144 rfl ?_
          refine x_aload_n dX9_layLake_146 rfl ?_
          refine g_R (s0_42 L) fkX9_74 rfl rfl rfl dX9_layLake_147 ?_
          refine x_iload dX9_layLake_150 rfl ?_
          refine n_iald (s0_64 L) (by omega) rfl dX9_layLake_152 ?_
          refine x_as (g3 _ hq4) ?_
          refine n_icmp_ge 167 dX9_layLake_153 rfl (by omega) (by omega) (fun z5 => ?_) (fun z5 => ?_)
          · refine n_inc dX9_layLake_167 rfl rfl ?_
            refine x_goto 60 dX9_layLake_170 rfl ?_
            refine x_mask [true, true, true, true, false, false, false] ?_
            refine ih M1 lv m g1 g3 g4 g5 ?_
            rcases g6 with g6 | ⟨g6, g7, g8⟩
            · exact Or.inl g6
            · refine Or.inr ⟨g6, g7, fun k hk o2 x ho2 y1 y2 => ?_⟩
              by_cases e : k = i
              · subst e
                rw [hnb] at ho2
                cases ho2
                cases hx : lv (k / 4) with
                | none => rw [hx] at z5; have := hht (k / 4) hq4; exact absurd z5 (by show ¬ 100000000 ≤ _; omega)
                | some y => rw [hx] at z5; exact ⟨y, rfl, Or.inr z5⟩
              · exact g8 k (by omega) o2 x ho2 y1 y2
          · refine x_aload_n dX9_layLake_156 rfl ?_
            refine g_R (s0_42 L) fkX9_74 rfl rfl rfl dX9_layLake_157 ?_
            refine x_iload dX9_layLake_160 rfl ?_
            refine x_iload dX9_layLake_162 rfl ?_
            refine n_iast rfl (s0_64 L) (by omega) rfl dX9_layLake_164 ?_
            refine x_iconst dX9_layLake_165 iconst_1 ?_
            refine x_istore_n dX9_layLake_166 (by decide) rfl ?_
            refine n_inc dX9_layLake_167 rfl rfl ?_
            refine x_goto 60 dX9_layLake_170 rfl ?_
            refine x_mask [true, true, true, true, false, false, false] ?_
            have hl7 : ht (i / 4) < lvN (lv (i / 4)) := by omega
            have hv9 : ht (i / 4) ≤ 99 := hht _ hq4
            have hmu : ht (i / 4) < lmu (lv (i / 4)) := by
              cases hx : lv (i / 4) with
              | none => show _ < 100; omega
              | some x => rw [hx] at hl7; exact hl7
            refine ih _ (setO lv (i / 4) (ht (i / 4))) 1 (g1.set _ (by decide)) (fun c hc => ?_) (fun c hc x e => ?_) (fun c hc y1 y2 => ?_) (Or.inl ⟨rfl, ?_⟩)
            · show upd (M1 64) (i / 4) (nI (ht (i / 4))) c = _
              by_cases e : c = i / 4
              · rw [e, setO_at]; exact upd_at _ _ _
              · rw [setO_ne lv _ e]; exact (upd_ne _ _ e).trans (g3 c hc)
            · by_cases e2 : c = i / 4
              · rw [e2, setO_at] at e
                cases e
                rw [e2]
                have hx2 : ∃ x, lv o = some x := by
                  cases hx : lv o with
                  | none => rw [hx] at z4; exact absurd z4 (by have := hht (i / 4) hq4; show ¬ 100000000 ≤ _; omega)
                  | some x => exact ⟨x, rfl⟩
                obtain ⟨x, hx⟩ := hx2
                rw [hx] at z4
                obtain ⟨-, k, hk⟩ := g4 o ho x hx
                exact ⟨by omega, k + 1, Or.inr ⟨z1, Nat.le_refl _, i % 4, o, by omega, hnb, lkN_mono z4 k o hk⟩⟩
              · rw [setO_ne lv _ e2] at e; exact g4 c hc x e
            · by_cases e2 : c = i / 4
              · obtain ⟨x, e3, e4⟩ := g5 c hc y1 y2
                exact ⟨ht (i / 4), by rw [e2]; exact setO_at _ _ _, by rw [e2] at e3 e4; rw [e3] at hl7; have : ht (i / 4) < x := hl7; rw [e2]; omega⟩
              · rw [setO_ne lv _ e2]; exact g5 c hc y1 y2
            · have h7 := smK_less hmu (w * h) hq4
              rcases g6 with g6 | ⟨g6, g7, g8⟩
              · omega
              · rw [smK_cong (f := fun q => lmu (lv q)) (g := fun q => lmu (lv0 q)) (fun c hc => by rw [g7 c hc])] at h7; exact h7
        · refine x_aload_n dX9_layLake_125 rfl ?_
          refine g_R (s0_42 L) fkX9_74 rfl rfl rfl dX9_layLake_126 ?_
          refine x_iload dX9_layLake_129 rfl ?_
          refine n_iald (s0_64 L) (by omega) rfl dX9_layLake_131 ?_
          refine x_as (g3 _ ho) ?_
          refine x_goto 142 dX9_layLake_132 rfl ?_
          refine x_istore dX9_layLake_142 (by decide) rfl ?_
          refine x_iload dX9_layLake_144 rfl ?_
          refine x_aload_n dX9_layLake_146 rfl ?_
          refine g_R (s0_42 L) fkX9_74 rfl rfl rfl dX9_layLake_147 ?_
          refine x_iload dX9_layLake_150 rfl ?_
          refine n_iald (s0_64 L) (by omega) rfl dX9_layLake_152 ?_
          refine x_as (g3 _ hq4) ?_
          refine n_icmp_ge 167 dX9_layLake_153 rfl (by omega) (by omega) (fun z5 => ?_) (fun z5 => ?_)
          · refine n_inc dX9_layLake_167 rfl rfl ?_
            refine x_goto 60 dX9_layLake_170 rfl ?_
            refine x_mask [true, true, true, true, false, false, false] ?_
            refine ih M1 lv m g1 g3 g4 g5 ?_
            rcases g6 with g6 | ⟨g6, g7, g8⟩
            · exact Or.inl g6
            · refine Or.inr ⟨g6, g7, fun k hk o2 x ho2 y1 y2 => ?_⟩
              by_cases e : k = i
              · subst e
                rw [hnb] at ho2
                cases ho2
                rw [y2] at z5
                cases hx : lv (k / 4) with
                | none => rw [hx] at z5; exact absurd z5 (by have := (g4 _ ho x y2).1; show ¬ 100000000 ≤ x; omega)
                | some y => rw [hx] at z5; exact ⟨y, rfl, Or.inl z5⟩
              · exact g8 k (by omega) o2 x ho2 y1 y2
          · refine x_aload_n dX9_layLake_156 rfl ?_
            refine g_R (s0_42 L) fkX9_74 rfl rfl rfl dX9_layLake_157 ?_
            refine x_iload dX9_layLake_160 rfl ?_
            refine x_iload dX9_layLake_162 rfl ?_
            refine n_iast rfl (s0_64 L) (by omega) rfl dX9_layLake_164 ?_
            refine x_iconst dX9_layLake_165 iconst_1 ?_
            refine x_istore_n dX9_layLake_166 (by decide) rfl ?_
            refine n_inc dX9_layLake_167 rfl rfl ?_
            have hx2 : ∃ x, lv o = some x := by
              cases hx : lv o with
              | none => rw [hx] at z5; exact absurd z5 (by cases hy : lv (i / 4) with | none => exact Nat.lt_irrefl _ | some y => have := (g4 _ hq4 y hy).1; show ¬ 100000000 < y; omega)
              | some x => exact ⟨x, rfl⟩
            obtain ⟨x9, hx9⟩ := hx2
            have hx99 := (g4 o ho x9 hx9).1
            rw [hx9] at z4 z5
            rw [hx9]
            have z4b : ht (i / 4) < x9 := z4
            have z5b : x9 < lvN (lv (i / 4)) := z5
            refine x_goto 60 dX9_layLake_170 rfl ?_
            refine x_mask [true, true, true, true, false, false, false] ?_
            have hl7 : x9 < lvN (lv (i / 4)) := by omega
            have hv9 : x9 ≤ 99 := hx99
            have hmu : x9 < lmu (lv (i / 4)) := by
              cases hx : lv (i / 4) with
              | none => show _ < 100; omega
              | some x => rw [hx] at hl7; exact hl7
            refine ih _ (setO lv (i / 4) (x9)) 1 (g1.set _ (by decide)) (fun c hc => ?_) (fun c hc x e => ?_) (fun c hc y1 y2 => ?_) (Or.inl ⟨rfl, ?_⟩)
            · show upd (M1 64) (i / 4) (nI (lvN (some x9))) c = _
              by_cases e : c = i / 4
              · rw [e, setO_at]; exact upd_at _ _ _
              · rw [setO_ne lv _ e]; exact (upd_ne _ _ e).trans (g3 c hc)
            · by_cases e2 : c = i / 4
              · rw [e2, setO_at] at e
                cases e
                rw [e2]
                obtain ⟨-, k, hk⟩ := g4 o ho x9 hx9
                exact ⟨hx99, k + 1, Or.inr ⟨z1, by have : ht (i / 4) < x9 := z4; omega, i % 4, o, by omega, hnb, hk⟩⟩
              · rw [setO_ne lv _ e2] at e; exact g4 c hc x e
            · by_cases e2 : c = i / 4
              · obtain ⟨x, e3, e4⟩ := g5 c hc y1 y2
                exact ⟨x9, by rw [e2]; exact setO_at _ _ _, by rw [e2] at e3 e4; rw [e3] at hl7; have : x9 < x := hl7; rw [e2]; omega⟩
              · rw [setO_ne lv _ e2]; exact g5 c hc y1 y2
            · have h7 := smK_less hmu (w * h) hq4
              rcases g6 with g6 | ⟨g6, g7, g8⟩
              · omega
              · rw [smK_cong (f := fun q => lmu (lv q)) (g := fun q => lmu (lv0 q)) (fun c hc => by rw [g7 c hc])] at h7; exact h7
      · refine x_ldc kcX9_219 dX9_layLake_103 ?_
        refine x_as far_nI ?_
        refine x_goto 142 dX9_layLake_105 rfl ?_
        refine x_istore dX9_layLake_142 (by decide) rfl ?_
        refine x_iload dX9_layLake_144 rfl ?_
        refine x_aload_n dX9_layLake_146 rfl ?_
        refine g_R (s0_42 L) fkX9_74 rfl rfl rfl dX9_layLake_147 ?_
        refine x_iload dX9_layLake_150 rfl ?_
        refine n_iald (s0_64 L) (by omega) rfl dX9_layLake_152 ?_
        refine x_as (g3 _ hq4) ?_
        refine n_icmp_ge 167 dX9_layLake_153 rfl (by omega) (by omega) (fun z5 => ?_) (fun z5 => by omega)
        refine n_inc dX9_layLake_167 rfl rfl ?_
        refine x_goto 60 dX9_layLake_170 rfl ?_
        refine x_mask [true, true, true, true, false, false, false] ?_
        refine ih M1 lv m g1 g3 g4 g5 ?_
        rcases g6 with g6 | ⟨g6, g7, g8⟩
        · exact Or.inl g6
        · refine Or.inr ⟨g6, g7, fun k hk o2 x ho2 y1 y2 => ?_⟩
          by_cases e : k = i
          · subst e
            rw [z1] at y1; cases y1
          · exact g8 k (by omega) o2 x ho2 y1 y2
set_option maxRecDepth 100000 in
set_option maxHeartbeats 4000000 in
theorem m_layLake {E : vE} {l : Launch} {Q : Option Value → vS → vM → Prop} {L : Nat} {M : vM} {w h : Nat} (H : WH w h) (hw : M 42 0 = nI w) (hh : M 42 1 = nI h) {ht : Nat → Nat} (hH : ∀ c, c < w * h → M 43 c = nI (ht c)) (hht : ∀ c, c < w * h → ht c ≤ 99) {g : Nat} (hg : g < 6) {C : Nat → Option Nat} (hCb : ∀ c x, C c = some x → x ≤ w * h) (hC : ∀ c, c < w * h → M 53 (36 * g + c) = oI (-900009) (C c)) (hQ : ∀ (M1 : vM) (lv : Nat → Option Nat), Fr [64] M M1 → (∀ c, c < w * h → M1 64 c = nI (lvN (lv c))) → (∀ c, c < w * h → ∀ x, lv c = some x → x ≤ 99) → IsLk w h ht (fun c => (C c).isSome) lv → Q none (S0 L) M1) : PM E l mX9_layLake 0 [.ref 42, .int (nI g), .null, .null, .null, .null, .null] [] (S0 L) M 0 0 Q := by
  have e4 := H.le
  have e6 := H.pos
  have lw : ∀ N, ∀ (M1 : vM) (lv : Nat → Option Nat), smK (fun q => lmu (lv q)) (w * h) = N → Fr [64] M M1 → (∀ c, c < w * h → M1 64 c = nI (lvN (lv c))) → (∀ c, c < w * h → ∀ x, lv c = some x → x ≤ 99 ∧ ∃ k, lkN w h ht (fun c => (C c).isSome) x k c) → (∀ c, c < w * h → (C c).isSome = false → edg w h c = true → ∃ x, lv c = some x ∧ x ≤ ht c) → PM E l mX9_layLake 52 [.ref 42, .int (nI g), .int (nI 1), .null, .null, .null, .null] [] (S0 L) M1 0 0 Q := by
    intro N
    induction N using Nat.strongRecOn with
    | ind N ihN =>
      intro M1 lv0 hN g1 g3 g4 g5
      refine x_iload_n dX9_layLake_52 rfl ?_
      refine n_if_eq 176 dX9_layLake_53 rfl (by omega) (fun h1 => by omega) (fun h1 => ?_)
      refine x_iconst dX9_layLake_56 iconst_0 ?_
      refine x_istore_n dX9_layLake_57 (by decide) rfl ?_
      refine x_iconst dX9_layLake_58 iconst_0 ?_
      refine x_istore_n dX9_layLake_59 (by decide) rfl ?_
      refine m_lakePass H hw hh hH hht hg hCb hC (lv0 := lv0) ?_ M1 lv0 0 g1 g3 g4 g5 (Or.inr ⟨rfl, fun _ _ => rfl, fun k hk => absurd hk (by omega)⟩)
      intro M1 lv m g1 g3 g4 g5 g6
      refine x_goto 52 dX9_layLake_173 rfl ?_
      refine x_mask [true, true, true, false, false, false, false] ?_
      rcases g6 with ⟨rfl, g6⟩ | ⟨rfl, g6, g7⟩
      · exact ihN _ (by omega) M1 lv rfl g1 g3 g4 g5
      · refine x_iload_n dX9_layLake_52 rfl ?_
        refine n_if_eq 176 dX9_layLake_53 rfl (by omega) (fun z1 => ?_) (fun z1 => absurd rfl z1)
        refine x_vret dX9_layLake_176 rfl ?_
        refine hQ M1 lv g1 g3 (fun c hc x e => (g4 c hc x e).1) (lake_is H (fun c hc x e => (g4 c hc x e).2) g5 (fun c d o x hc hd hn y1 y2 => ?_))
        have := g7 (4 * c + d) (by omega) o x
        rw [show (4 * c + d) / 4 = c by omega, show (4 * c + d) % 4 = d by omega] at this
        exact this hn y1 y2
  have l1 : ∀ M1 : vM, Fr [64] M M1 → (∀ c, c < 0 → M1 64 c = nI (lvN ((lkL0 w h ht C) c))) → PM E l mX9_layLake 2 [.ref 42, .int (nI g), .int (nI 0), .null, .null, .null, .null] [] (S0 L) M1 0 0 Q := by
    refine lp_up (P := fun i => ∀ M1 : vM, Fr [64] M M1 → (∀ c, c < i → M1 64 c = nI (lvN ((lkL0 w h ht C) c))) → PM E l mX9_layLake 2 [.ref 42, .int (nI g), .int (nI i), .null, .null, .null, .null] [] (S0 L) M1 0 0 Q) (w * h) ?_ ?_ (0) (by omega)
    · intro M1 g1 g2
      refine x_iload_n dX9_layLake_2 rfl ?_
      refine x_aload_n dX9_layLake_3 rfl ?_
      refine cV0 (mj := mX9_cells) lkX9_103 okX9_cells imX9_cells seX9_cells (s0_42 L) rfl rfl rfl rfl rfl dX9_layLake_4 rfl (m_cells ((congrFun (g1 42 (by decide)) _).trans (hw)) ((congrFun (g1 42 (by decide)) _).trans (hh)) ?_)
      refine n_icmp_ge 50 dX9_layLake_7 rfl (by omega) (by omega) (fun h1 => ?_) (fun h1 => by omega)
      refine x_iconst dX9_layLake_50 iconst_1 ?_
      refine x_istore_n dX9_layLake_51 (by decide) rfl ?_
      refine lw _ M1 (lkL0 w h ht C) rfl g1 g2 (fun c hc x e => ?_) (fun c hc y1 y2 => ⟨ht c, lkL0_y y1 y2, Nat.le_refl _⟩)
      obtain ⟨y1, y2, rfl⟩ := lkL0_of e
      exact ⟨hht c hc, 0, y1, y2, Nat.le_refl _⟩
    · intro i hi ih M1 g1 g2
      refine x_iload_n dX9_layLake_2 rfl ?_
      refine x_aload_n dX9_layLake_3 rfl ?_
      refine cV0 (mj := mX9_cells) lkX9_103 okX9_cells imX9_cells seX9_cells (s0_42 L) rfl rfl rfl rfl rfl dX9_layLake_4 rfl (m_cells ((congrFun (g1 42 (by decide)) _).trans (hw)) ((congrFun (g1 42 (by decide)) _).trans (hh)) ?_)
      refine n_icmp_ge 50 dX9_layLake_7 rfl (by omega) (by omega) (fun h1 => by omega) (fun h1 => ?_)
      refine x_aload_n dX9_layLake_10 rfl ?_
      refine g_R (s0_42 L) fkX9_74 rfl rfl rfl dX9_layLake_11 ?_
      refine x_iload_n dX9_layLake_14 rfl ?_
      refine x_aload_n dX9_layLake_15 rfl ?_
      refine x_iload_n dX9_layLake_16 rfl ?_
      refine x_iload_n dX9_layLake_17 rfl ?_
      refine cV2 (mj := mX9_isCovered) lkX9_153 okX9_isCovered imX9_isCovered seX9_isCovered (s0_42 L) rfl rfl rfl rfl rfl dX9_layLake_18 rfl (m_isCovered hg (by omega) (lt31 (by omega) (hCb _)) ((congrFun (g1 53 (by decide)) _).trans (hC _ (by omega))) ?_)
      refine b_if_ne 41 dX9_layLake_21 rfl (fun z1 => ?_) (fun z1 => ?_)
      · refine x_ldc kcX9_219 dX9_layLake_41 ?_
        refine n_iast rfl (s0_64 L) (by omega) rfl dX9_layLake_43 ?_
        refine n_inc dX9_layLake_44 rfl rfl ?_
        refine x_goto 2 dX9_layLake_47 rfl ?_
        refine ih _ (g1.set _ (by decide)) (fun c hc => ?_)
        by_cases e : c = i
        · subst e
          refine (upd_at _ _ _).trans ?_
          rw [lkL0_n1 z1]
          exact far_nI
        · exact (upd_ne _ _ e).trans (g2 c (by omega))
      · refine x_aload_n dX9_layLake_24 rfl ?_
        refine x_iload_n dX9_layLake_25 rfl ?_
        refine cV1 (mj := mX9_isEdge) lkX9_143 okX9_isEdge imX9_isEdge seX9_isEdge (s0_42 L) rfl rfl rfl rfl rfl dX9_layLake_26 rfl (m_isEdge H ((congrFun (g1 42 (by decide)) _).trans (hw)) ((congrFun (g1 42 (by decide)) _).trans (hh)) hi ?_)
        refine b_if_eq 41 dX9_layLake_29 rfl (fun z2 => ?_) (fun z2 => ?_)
        · refine x_ldc kcX9_219 dX9_layLake_41 ?_
          refine n_iast rfl (s0_64 L) (by omega) rfl dX9_layLake_43 ?_
          refine n_inc dX9_layLake_44 rfl rfl ?_
          refine x_goto 2 dX9_layLake_47 rfl ?_
          refine ih _ (g1.set _ (by decide)) (fun c hc => ?_)
          by_cases e : c = i
          · subst e
            refine (upd_at _ _ _).trans ?_
            rw [lkL0_n2 z2]
            exact far_nI
          · exact (upd_ne _ _ e).trans (g2 c (by omega))
        · refine x_aload_n dX9_layLake_32 rfl ?_
          refine g_R (s0_42 L) fkX9_7 rfl rfl rfl dX9_layLake_33 ?_
          refine x_iload_n dX9_layLake_36 rfl ?_
          refine n_iald (s0_43 L) (by omega) rfl dX9_layLake_37 ?_
          refine x_as ((congrFun (g1 43 (by decide)) _).trans (hH _ (by first | assumption | omega))) ?_
          refine x_goto 43 dX9_layLake_38 rfl ?_
          refine n_iast rfl (s0_64 L) (by omega) rfl dX9_layLake_43 ?_
          refine n_inc dX9_layLake_44 rfl rfl ?_
          refine x_goto 2 dX9_layLake_47 rfl ?_
          refine ih _ (g1.set _ (by decide)) (fun c hc => ?_)
          by_cases e : c = i
          · subst e
            refine (upd_at _ _ _).trans ?_
            rw [lkL0_y z1 z2]
            rfl
          · exact (upd_ne _ _ e).trans (g2 c (by omega))
  refine x_iconst dX9_layLake_0 iconst_0 ?_
  refine x_istore_n dX9_layLake_1 (by decide) rfl ?_
  exact l1 M Fr.rf (fun c hc => absurd hc (by omega))

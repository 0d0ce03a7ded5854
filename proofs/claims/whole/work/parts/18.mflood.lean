/-- what a flood reaches in k steps -/
def flN (w h : Nat) (ht : Nat → Nat) (tp : Nat) : Nat → Nat → Prop
  | 0, o => edg w h o = true ∧ ht o < tp
  | k + 1, o => flN w h ht tp k o ∨ (ht o < tp ∧ ∃ c d, c < w * h ∧ d < 4 ∧ nb w h c d = some o ∧ flN w h ht tp k c)
noncomputable def floodC (w h : Nat) (ht : Nat → Nat) (tp c : Nat) : Bool := @decide (∃ k, flN w h ht tp k c) (Classical.propDecidable _)
theorem floodC_iff {w h : Nat} {ht : Nat → Nat} {tp c : Nat} : floodC w h ht tp c = true ↔ ∃ k, flN w h ht tp k c := by
  unfold floodC
  exact @decide_eq_true_iff _ (Classical.propDecidable _)
theorem floodC_edge {w h : Nat} {ht : Nat → Nat} {tp c : Nat} (h1 : edg w h c = true) (h2 : ht c < tp) : floodC w h ht tp c = true := floodC_iff.mpr ⟨0, h1, h2⟩
theorem floodC_step {w h : Nat} {ht : Nat → Nat} {tp c d o : Nat} (hc : c < w * h) (hd : d < 4) (hn : nb w h c d = some o) (h2 : ht o < tp) (hf : floodC w h ht tp c = true) : floodC w h ht tp o = true := by
  obtain ⟨k, hk⟩ := floodC_iff.mp hf
  exact floodC_iff.mpr ⟨k + 1, Or.inr ⟨h2, c, d, hc, hd, hn, hk⟩⟩
/-- marks that are sound, hold the start and are closed are the flood -/
theorem flood_all {w h : Nat} {ht : Nat → Nat} {tp : Nat} {D : Nat → Bool} (hi : ∀ c, c < w * h → edg w h c = true → ht c < tp → D c = true)
    (hcl : ∀ c d o, c < w * h → d < 4 → nb w h c d = some o → D c = true → ht o < tp → D o = true) : ∀ k c, c < w * h → flN w h ht tp k c → D c = true
  | 0, c, hc, h => hi c hc h.1 h.2
  | k + 1, c, hc, h => by
    rcases h with h | ⟨h1, c2, d, hc2, hd, hn, h2⟩
    · exact flood_all hi hcl k c hc h
    · exact hcl c2 d c hc2 hd hn (flood_all hi hcl k c2 hc2 h2) h1
theorem flood_eq {w h : Nat} {ht : Nat → Nat} {tp : Nat} {D : Nat → Bool} (hs : ∀ c, c < w * h → D c = true → floodC w h ht tp c = true) (hi : ∀ c, c < w * h → edg w h c = true → ht c < tp → D c = true)
    (hcl : ∀ c d o, c < w * h → d < 4 → nb w h c d = some o → D c = true → ht o < tp → D o = true) : ∀ c, c < w * h → D c = floodC w h ht tp c := by
  intro c hc
  cases hD : D c with
  | true => exact (hs c hc hD).symm
  | false =>
    cases hf : floodC w h ht tp c with
    | false => rfl
    | true =>
      obtain ⟨k, hk⟩ := floodC_iff.mp hf
      rw [flood_all hi hcl k c hc hk] at hD
      cases hD
def mkI (b : Bool) : Int32 := if b then nI 0 else -900009
theorem mkI_0 (b : Bool) : mkI b = 0 ↔ b = true := by cases b <;> decide
theorem mkI_N (b : Bool) : mkI b = -900009 ↔ b = false := by cases b <;> decide
def ctf (D : Nat → Bool) : Nat → Nat
  | 0 => 0
  | n + 1 => ctf D n + if D n then 0 else 1
def setB (D : Nat → Bool) (o : Nat) : Nat → Bool := fun c => if c = o then true else D c
theorem ctf_out {D : Nat → Bool} {o : Nat} : ∀ n, n ≤ o → ctf (setB D o) n = ctf D n
  | 0, _ => rfl
  | n + 1, h => by
    simp only [ctf]
    rw [ctf_out n (by omega)]
    have : setB D o n = D n := if_neg (by omega)
    rw [this]
theorem ctf_set {D : Nat → Bool} {o : Nat} (hD : D o = false) : ∀ n, o < n → ctf (setB D o) n + 1 = ctf D n
  | 0, h => absurd h (by omega)
  | n + 1, h => by
    simp only [ctf]
    by_cases e : o = n
    · subst e
      rw [ctf_out o (Nat.le_refl _), hD]
      have : setB D o o = true := if_pos rfl
      rw [this]
      rfl
    · have h1 := ctf_set hD n (by omega)
      have : setB D o n = D n := if_neg (by omega)
      rw [this]
      omega
theorem ctf_cong {D D2 : Nat → Bool} : ∀ {n : Nat}, (∀ c, c < n → D c = D2 c) → ctf D n = ctf D2 n
  | 0, _ => rfl
  | n + 1, h => by
    simp only [ctf]
    rw [ctf_cong (fun c hc => h c (by omega)), h n (by omega)]
set_option maxRecDepth 100000 in
set_option maxHeartbeats 4000000 in
theorem m_floodPass {E : vE} {l : Launch} {Q : Option Value → vS → vM → Prop} {L : Nat} {M : vM} {w h : Nat} (H : WH w h) (hw : M 42 0 = nI w) (hh : M 42 1 = nI h) {ht : Nat → Nat} (hH : ∀ c, c < w * h → M 43 c = nI (ht c)) (hht : ∀ c, c < w * h → ht c ≤ 99) {g tp : Nat} (hg : g < 6) (h50 : M 50 g = nI tp) (htp : tp ≤ 199) {D0 : Nat → Bool} (kk : ∀ (M1 : vM) (D : Nat → Bool) (m : Nat), Fr [53] M M1 → (∀ j, (j < 36 * g ∨ 36 * g + 36 ≤ j) → M1 53 j = M 53 j) → (∀ c, c < w * h → M1 53 (36 * g + c) = mkI (D c)) → (∀ c, c < w * h → D c = true → floodC w h ht tp c = true) → (∀ c, c < w * h → edg w h c = true → ht c < tp → D c = true) → ((m = 1 ∧ ctf D (w * h) < ctf D0 (w * h)) ∨ (m = 0 ∧ (∀ c, c < w * h → D c = D0 c) ∧ ∀ k, k < 4 * (w * h) → ∀ o, nb w h (k / 4) (k % 4) = some o → D (k / 4) = true → ht o < tp → D o = true)) → PM E l mX9_layFlood 163 [.ref 42, .int (nI g), .int (nI (36 * g)), .int (nI m), .int (nI (4 * (w * h))), .null] [] (S0 L) M1 0 0 Q) : ∀ (M1 : vM) (D : Nat → Bool) (m : Nat), Fr [53] M M1 → (∀ j, (j < 36 * g ∨ 36 * g + 36 ≤ j) → M1 53 j = M 53 j) → (∀ c, c < w * h → M1 53 (36 * g + c) = mkI (D c)) → (∀ c, c < w * h → D c = true → floodC w h ht tp c = true) → (∀ c, c < w * h → edg w h c = true → ht c < tp → D c = true) → ((m = 1 ∧ ctf D (w * h) < ctf D0 (w * h)) ∨ (m = 0 ∧ (∀ c, c < w * h → D c = D0 c) ∧ ∀ k, k < 0 → ∀ o, nb w h (k / 4) (k % 4) = some o → D (k / 4) = true → ht o < tp → D o = true)) → PM E l mX9_layFlood 69 [.ref 42, .int (nI g), .int (nI (36 * g)), .int (nI m), .int (nI 0), .null] [] (S0 L) M1 0 0 Q := by
  have e4 := H.le
  refine lp_up (P := fun i => ∀ (M1 : vM) (D : Nat → Bool) (m : Nat), Fr [53] M M1 → (∀ j, (j < 36 * g ∨ 36 * g + 36 ≤ j) → M1 53 j = M 53 j) → (∀ c, c < w * h → M1 53 (36 * g + c) = mkI (D c)) → (∀ c, c < w * h → D c = true → floodC w h ht tp c = true) → (∀ c, c < w * h → edg w h c = true → ht c < tp → D c = true) → ((m = 1 ∧ ctf D (w * h) < ctf D0 (w * h)) ∨ (m = 0 ∧ (∀ c, c < w * h → D c = D0 c) ∧ ∀ k, k < i → ∀ o, nb w h (k / 4) (k % 4) = some o → D (k / 4) = true → ht o < tp → D o = true)) → PM E l mX9_layFlood 69 [.ref 42, .int (nI g), .int (nI (36 * g)), .int (nI m), .int (nI i), .null] [] (S0 L) M1 0 0 Q) (4 * (w * h)) ?_ ?_ 0 (by omega)
  · intro M1 D m g1 g2 g3 g4 g5 g6
    refine x_iload dX9_layFlood_69 rfl ?_
    refine x_iconst dX9_layFlood_71 iconst_4 ?_
    refine x_aload_n dX9_layFlood_72 rfl ?_
    refine cV0 (mj := mX9_cells) lkX9_103 okX9_cells imX9_cells seX9_cells (s0_42 L) rfl rfl rfl rfl rfl dX9_layFlood_73 rfl (m_cells ((congrFun (g1 42 (by decide)) _).trans (hw)) ((congrFun (g1 42 (by decide)) _).trans (hh)) ?_)
    refine n_imul dX9_layFlood_76 ?_
    refine n_icmp_ge 163 dX9_layFlood_77 rfl (by omega) (by omega) (fun h1 => ?_) (fun h1 => by omega)
    exact kk M1 D m g1 g2 g3 g4 g5 g6
  · intro i hi ih M1 D m g1 g2 g3 g4 g5 g6
    refine x_iload dX9_layFlood_69 rfl ?_
    refine x_iconst dX9_layFlood_71 iconst_4 ?_
    refine x_aload_n dX9_layFlood_72 rfl ?_
    refine cV0 (mj := mX9_cells) lkX9_103 okX9_cells imX9_cells seX9_cells (s0_42 L) rfl rfl rfl rfl rfl dX9_layFlood_73 rfl (m_cells ((congrFun (g1 42 (by decide)) _).trans (hw)) ((congrFun (g1 42 (by decide)) _).trans (hh)) ?_)
    refine n_imul dX9_layFlood_76 ?_
    refine n_icmp_ge 163 dX9_layFlood_77 rfl (by omega) (by omega) (fun h1 => by omega) (fun h1 => ?_)
    have hq4 : i / 4 < w * h := by omega
    refine x_aload_n dX9_layFlood_80 rfl ?_
    refine x_iload dX9_layFlood_81 rfl ?_
    refine x_iconst dX9_layFlood_83 iconst_4 ?_
    refine n_idiv dX9_layFlood_84 (by omega) (by omega) (by omega) ?_
    refine x_iload dX9_layFlood_85 rfl ?_
    refine x_iconst dX9_layFlood_87 iconst_4 ?_
    refine n_irem dX9_layFlood_88 (by omega) (by omega) (by omega) ?_
    refine cV2 (mj := mX9_beside) lkX9_139 okX9_beside imX9_beside seX9_beside (s0_42 L) rfl rfl rfl rfl rfl dX9_layFlood_89 rfl (m_beside H ((congrFun (g1 42 (by decide)) _).trans (hw)) ((congrFun (g1 42 (by decide)) _).trans (hh)) (c := i / 4) (d := i % 4) (by omega) (by omega) ?_)
    rcases hnb : nb w h (i / 4) (i % 4) with _ | o
    · rw [oI_none]
      refine x_istore dX9_layFlood_92 (by decide) rfl ?_
      refine x_iload dX9_layFlood_94 rfl ?_
      refine x_ldc kcX9_134 dX9_layFlood_96 ?_
      refine x_icmp_eq 157 dX9_layFlood_98 rfl (fun z1 => ?_) (fun z1 => by exact absurd rfl z1)
      refine n_inc dX9_layFlood_157 rfl rfl ?_
      refine x_goto 69 dX9_layFlood_160 rfl ?_
      refine x_mask [true, true, true, true, true, false] ?_
      refine ih M1 D m g1 g2 g3 g4 g5 ?_
      rcases g6 with g6 | ⟨g6, g7, g8⟩
      · exact Or.inl g6
      · refine Or.inr ⟨g6, g7, fun k hk o ho y1 y2 => ?_⟩
        by_cases e : k = i
        · subst e
          rw [hnb] at ho; cases ho
        · exact g8 k (by omega) o ho y1 y2
    · rw [oI_some]
      have ho := nb_lt H (by omega) hnb
      have hho := hht o ho
      refine x_istore dX9_layFlood_92 (by decide) rfl ?_
      refine x_iload dX9_layFlood_94 rfl ?_
      refine x_ldc kcX9_134 dX9_layFlood_96 ?_
      refine x_icmp_eq 157 dX9_layFlood_98 rfl (fun z1 => by exact absurd z1 (nI_ne_NONE (by omega))) (fun z1 => ?_)
      refine x_aload_n dX9_layFlood_101 rfl ?_
      refine g_R (s0_42 L) fkX9_41 rfl rfl rfl dX9_layFlood_102 ?_
      refine x_iload_n dX9_layFlood_105 rfl ?_
      refine x_iload dX9_layFlood_106 rfl ?_
      refine x_iconst dX9_layFlood_108 iconst_4 ?_
      refine n_idiv dX9_layFlood_109 (by omega) (by omega) (by omega) ?_
      refine n_iadd dX9_layFlood_110 ?_
      refine n_iald (s0_53 L) (by omega) rfl dX9_layFlood_111 ?_
      refine x_as (g3 _ (by omega)) ?_
      refine x_if_ne 157 dX9_layFlood_112 rfl (fun z3 => ?_) (fun z3 => ?_)
      · refine n_inc dX9_layFlood_157 rfl rfl ?_
        refine x_goto 69 dX9_layFlood_160 rfl ?_
        refine x_mask [true, true, true, true, true, false] ?_
        refine ih M1 D m g1 g2 g3 g4 g5 ?_
        rcases g6 with g6 | ⟨g6, g7, g8⟩
        · exact Or.inl g6
        · refine Or.inr ⟨g6, g7, fun k hk o ho y1 y2 => ?_⟩
          by_cases e : k = i
          · subst e
            exact absurd ((mkI_0 _).mpr y1) z3
          · exact g8 k (by omega) o ho y1 y2
      · refine x_aload_n dX9_layFlood_115 rfl ?_
        refine g_R (s0_42 L) fkX9_41 rfl rfl rfl dX9_layFlood_116 ?_
        refine x_iload_n dX9_layFlood_119 rfl ?_
        refine x_iload dX9_layFlood_120 rfl ?_
        refine n_iadd dX9_layFlood_122 ?_
        refine n_iald (s0_53 L) (by omega) rfl dX9_layFlood_123 ?_
        refine x_as (g3 _ ho) ?_
        refine x_ldc kcX9_134 dX9_layFlood_124 ?_
        refine x_icmp_ne 157 dX9_layFlood_126 rfl (fun z4 => ?_) (fun z4 => ?_)
        · refine n_inc dX9_layFlood_157 rfl rfl ?_
          refine x_goto 69 dX9_layFlood_160 rfl ?_
          refine x_mask [true, true, true, true, true, false] ?_
          refine ih M1 D m g1 g2 g3 g4 g5 ?_
          rcases g6 with g6 | ⟨g6, g7, g8⟩
          · exact Or.inl g6
          · refine Or.inr ⟨g6, g7, fun k hk o ho y1 y2 => ?_⟩
            by_cases e : k = i
            · subst e
              rw [hnb] at ho; cases ho; cases hx : D _ with | true => rfl | false => exact absurd ((mkI_N _).mpr hx) z4
            · exact g8 k (by omega) o ho y1 y2
        · refine x_aload_n dX9_layFlood_129 rfl ?_
          refine g_R (s0_42 L) fkX9_7 rfl rfl rfl dX9_layFlood_130 ?_
          refine x_iload dX9_layFlood_133 rfl ?_
          refine n_iald (s0_43 L) (by omega) rfl dX9_layFlood_135 ?_
          refine x_as ((congrFun (g1 43 (by decide)) _).trans (hH _ (by first | assumption | omega))) ?_
          refine x_aload_n dX9_layFlood_136 rfl ?_
          refine g_R (s0_42 L) fkX9_32 rfl rfl rfl dX9_layFlood_137 ?_
          refine x_iload_n dX9_layFlood_140 rfl ?_
          refine n_iald (s0_50 L) (by omega) rfl dX9_layFlood_141 ?_
          refine x_as ((congrFun (g1 50 (by decide)) _).trans (h50)) ?_
          refine n_icmp_ge 157 dX9_layFlood_142 rfl (by omega) (by omega) (fun z5 => ?_) (fun z5 => ?_)
          · refine n_inc dX9_layFlood_157 rfl rfl ?_
            refine x_goto 69 dX9_layFlood_160 rfl ?_
            refine x_mask [true, true, true, true, true, false] ?_
            refine ih M1 D m g1 g2 g3 g4 g5 ?_
            rcases g6 with g6 | ⟨g6, g7, g8⟩
            · exact Or.inl g6
            · refine Or.inr ⟨g6, g7, fun k hk o ho y1 y2 => ?_⟩
              by_cases e : k = i
              · subst e
                rw [hnb] at ho; cases ho; omega
              · exact g8 k (by omega) o ho y1 y2
          · refine x_aload_n dX9_layFlood_145 rfl ?_
            refine g_R (s0_42 L) fkX9_41 rfl rfl rfl dX9_layFlood_146 ?_
            refine x_iload_n dX9_layFlood_149 rfl ?_
            refine x_iload dX9_layFlood_150 rfl ?_
            refine n_iadd dX9_layFlood_152 ?_
            refine x_iconst dX9_layFlood_153 iconst_0 ?_
            refine n_iast rfl (s0_53 L) (by omega) rfl dX9_layFlood_154 ?_
            refine x_iconst dX9_layFlood_155 iconst_1 ?_
            refine x_istore_n dX9_layFlood_156 (by decide) rfl ?_
            refine n_inc dX9_layFlood_157 rfl rfl ?_
            refine x_goto 69 dX9_layFlood_160 rfl ?_
            refine x_mask [true, true, true, true, true, false] ?_
            have k1 := (mkI_0 _).mp z3
            have k2 := (mkI_N _).mp z4
            refine ih _ (setB D o) 1 (g1.set _ (by decide)) (fun j hj => (upd_ne _ _ (by omega)).trans (g2 j hj)) (fun c hc => ?_) (fun c hc hD => ?_) (fun c hc h1 h2 => ?_) (Or.inl ⟨rfl, ?_⟩)
            · show upd (M1 53) (36 * g + o) (nI 0) (36 * g + c) = mkI (setB D o c)
              by_cases e : c = o
              · subst e; rw [show setB D c c = true from if_pos rfl]; exact upd_at _ _ _
              · rw [show setB D o c = D c from if_neg e]; exact (upd_ne _ _ (by omega)).trans (g3 c hc)
            · by_cases e : c = o
              · subst e; exact floodC_step (by omega) (by omega) hnb (by omega) (g4 _ (by omega) k1)
              · rw [show setB D o c = D c from if_neg e] at hD; exact g4 c hc hD
            · by_cases e : c = o
              · subst e; exact if_pos rfl
              · rw [show setB D o c = D c from if_neg e]; exact g5 c hc h1 h2
            · have h7 := ctf_set k2 (w * h) ho
              rcases g6 with g6 | ⟨g6, g7, g8⟩
              · omega
              · rw [ctf_cong g7] at h7; omega
set_option maxRecDepth 100000 in
set_option maxHeartbeats 4000000 in
theorem m_layFlood {E : vE} {l : Launch} {Q : Option Value → vS → vM → Prop} {L : Nat} {M : vM} {w h : Nat} (H : WH w h) (hw : M 42 0 = nI w) (hh : M 42 1 = nI h) {ht : Nat → Nat} (hH : ∀ c, c < w * h → M 43 c = nI (ht c)) (hht : ∀ c, c < w * h → ht c ≤ 99) {g tp : Nat} (hg : g < 6) (h50 : M 50 g = nI tp) (htp : tp ≤ 199) (hQ : ∀ M1 : vM, Fr [53] M M1 → (∀ j, (j < 36 * g ∨ 36 * g + 36 ≤ j) → M1 53 j = M 53 j) → (∀ c, c < w * h → M1 53 (36 * g + c) = mkI (floodC w h ht tp c)) → Q none (S0 L) M1) : PM E l mX9_layFlood 0 [.ref 42, .int (nI g), .null, .null, .null, .null] [] (S0 L) M 0 0 Q := by
  have e4 := H.le
  have e6 := H.pos
  have lw : ∀ N, ∀ (M1 : vM) (D : Nat → Bool), ctf D (w * h) = N → Fr [53] M M1 → (∀ j, (j < 36 * g ∨ 36 * g + 36 ≤ j) → M1 53 j = M 53 j) → (∀ c, c < w * h → M1 53 (36 * g + c) = mkI (D c)) → (∀ c, c < w * h → D c = true → floodC w h ht tp c = true) → (∀ c, c < w * h → edg w h c = true → ht c < tp → D c = true) → PM E l mX9_layFlood 60 [.ref 42, .int (nI g), .int (nI (36 * g)), .int (nI 1), .null, .null] [] (S0 L) M1 0 0 Q := by
    intro N
    induction N using Nat.strongRecOn with
    | ind N ihN =>
      intro M1 D0 hN g1 g2 g3 g4 g5
      refine x_iload_n dX9_layFlood_60 rfl ?_
      refine n_if_eq 166 dX9_layFlood_61 rfl (by omega) (fun h1 => by omega) (fun h1 => ?_)
      refine x_iconst dX9_layFlood_64 iconst_0 ?_
      refine x_istore_n dX9_layFlood_65 (by decide) rfl ?_
      refine x_iconst dX9_layFlood_66 iconst_0 ?_
      refine x_istore dX9_layFlood_67 (by decide) rfl ?_
      refine m_floodPass H hw hh hH hht hg h50 htp (D0 := D0) ?_ M1 D0 0 g1 g2 g3 g4 g5 (Or.inr ⟨rfl, fun _ _ => rfl, fun k hk => absurd hk (by omega)⟩)
      intro M1 D m g1 g2 g3 g4 g5 g6
      refine x_goto 60 dX9_layFlood_163 rfl ?_
      refine x_mask [true, true, true, true, false, false] ?_
      rcases g6 with ⟨rfl, g6⟩ | ⟨rfl, g6, g7⟩
      · exact ihN _ (by omega) M1 D rfl g1 g2 g3 g4 g5
      · refine x_iload_n dX9_layFlood_60 rfl ?_
        refine n_if_eq 166 dX9_layFlood_61 rfl (by omega) (fun z1 => ?_) (fun z1 => absurd rfl z1)
        refine x_vret dX9_layFlood_166 rfl ?_
        refine hQ M1 g1 g2 (fun c hc => ?_)
        rw [g3 c hc, flood_eq g4 g5 (fun c d o hc hd hn h1 h2 => ?_) c hc]
        refine g7 (4 * c + d) (by omega) o ?_ ?_ h2
        · rw [show (4 * c + d) / 4 = c by omega, show (4 * c + d) % 4 = d by omega]; exact hn
        · rw [show (4 * c + d) / 4 = c by omega]; exact h1
  have l1 : ∀ M1 : vM, Fr [53] M M1 → (∀ j, (j < 36 * g ∨ 36 * g + 36 ≤ j) → M1 53 j = M 53 j) → (∀ c, c < 0 → M1 53 (36 * g + c) = mkI (edg w h c && decide (ht c < tp))) → PM E l mX9_layFlood 7 [.ref 42, .int (nI g), .int (nI (36 * g)), .int (nI 0), .null, .null] [] (S0 L) M1 0 0 Q := by
    refine lp_up (P := fun i => ∀ M1 : vM, Fr [53] M M1 → (∀ j, (j < 36 * g ∨ 36 * g + 36 ≤ j) → M1 53 j = M 53 j) → (∀ c, c < i → M1 53 (36 * g + c) = mkI (edg w h c && decide (ht c < tp))) → PM E l mX9_layFlood 7 [.ref 42, .int (nI g), .int (nI (36 * g)), .int (nI i), .null, .null] [] (S0 L) M1 0 0 Q) (w * h) ?_ ?_ (0) (by omega)
    · intro M1 g1 g2 g3
      refine x_iload_n dX9_layFlood_7 rfl ?_
      refine x_aload_n dX9_layFlood_8 rfl ?_
      refine cV0 (mj := mX9_cells) lkX9_103 okX9_cells imX9_cells seX9_cells (s0_42 L) rfl rfl rfl rfl rfl dX9_layFlood_9 rfl (m_cells ((congrFun (g1 42 (by decide)) _).trans (hw)) ((congrFun (g1 42 (by decide)) _).trans (hh)) ?_)
      refine n_icmp_ge 58 dX9_layFlood_12 rfl (by omega) (by omega) (fun h1 => ?_) (fun h1 => by omega)
      refine x_iconst dX9_layFlood_58 iconst_1 ?_
      refine x_istore_n dX9_layFlood_59 (by decide) rfl ?_
      refine lw _ M1 (fun c => edg w h c && decide (ht c < tp)) rfl g1 g2 g3 (fun c hc h1 => ?_) (fun c hc h1 h2 => ?_)
      · simp only [Bool.and_eq_true, decide_eq_true_eq] at h1
        exact floodC_edge h1.1 h1.2
      · simp only [h1, Bool.true_and, decide_eq_true_eq]; exact h2
    · intro i hi ih M1 g1 g2 g3
      refine x_iload_n dX9_layFlood_7 rfl ?_
      refine x_aload_n dX9_layFlood_8 rfl ?_
      refine cV0 (mj := mX9_cells) lkX9_103 okX9_cells imX9_cells seX9_cells (s0_42 L) rfl rfl rfl rfl rfl dX9_layFlood_9 rfl (m_cells ((congrFun (g1 42 (by decide)) _).trans (hw)) ((congrFun (g1 42 (by decide)) _).trans (hh)) ?_)
      refine n_icmp_ge 58 dX9_layFlood_12 rfl (by omega) (by omega) (fun h1 => by omega) (fun h1 => ?_)
      have hho := hht i hi
      refine x_aload_n dX9_layFlood_15 rfl ?_
      refine g_R (s0_42 L) fkX9_41 rfl rfl rfl dX9_layFlood_16 ?_
      refine x_iload_n dX9_layFlood_19 rfl ?_
      refine x_iload_n dX9_layFlood_20 rfl ?_
      refine n_iadd dX9_layFlood_21 ?_
      refine x_aload_n dX9_layFlood_22 rfl ?_
      refine x_iload_n dX9_layFlood_23 rfl ?_
      refine cV1 (mj := mX9_isEdge) lkX9_143 okX9_isEdge imX9_isEdge seX9_isEdge (s0_42 L) rfl rfl rfl rfl rfl dX9_layFlood_24 rfl (m_isEdge H ((congrFun (g1 42 (by decide)) _).trans (hw)) ((congrFun (g1 42 (by decide)) _).trans (hh)) hi ?_)
      refine b_if_eq 49 dX9_layFlood_27 rfl (fun z1 => ?_) (fun z1 => ?_)
      · refine x_ldc kcX9_134 dX9_layFlood_49 ?_
        refine n_iast rfl (s0_53 L) (by omega) rfl dX9_layFlood_51 ?_
        refine n_inc dX9_layFlood_52 rfl rfl ?_
        refine x_goto 7 dX9_layFlood_55 rfl ?_
        refine ih _ (g1.set _ (by decide)) (fun j hj => (upd_ne _ _ (by omega)).trans (g2 j hj)) (fun c hc => ?_)
        by_cases e : c = i
        · subst e
          refine (upd_at _ _ _).trans ?_
          rw [z1]; rfl
        · exact (upd_ne _ _ (by omega)).trans (g3 c (by omega))
      · refine x_aload_n dX9_layFlood_30 rfl ?_
        refine g_R (s0_42 L) fkX9_7 rfl rfl rfl dX9_layFlood_31 ?_
        refine x_iload_n dX9_layFlood_34 rfl ?_
        refine n_iald (s0_43 L) (by omega) rfl dX9_layFlood_35 ?_
        refine x_as ((congrFun (g1 43 (by decide)) _).trans (hH _ (by first | assumption | omega))) ?_
        refine x_aload_n dX9_layFlood_36 rfl ?_
        refine g_R (s0_42 L) fkX9_32 rfl rfl rfl dX9_layFlood_37 ?_
        refine x_iload_n dX9_layFlood_40 rfl ?_
        refine n_iald (s0_50 L) (by omega) rfl dX9_layFlood_41 ?_
        refine x_as ((congrFun (g1 50 (by decide)) _).trans (h50)) ?_
        refine n_icmp_ge 49 dX9_layFlood_42 rfl (by omega) (by omega) (fun z2 => ?_) (fun z2 => ?_)
        · refine x_ldc kcX9_134 dX9_layFlood_49 ?_
          refine n_iast rfl (s0_53 L) (by omega) rfl dX9_layFlood_51 ?_
          refine n_inc dX9_layFlood_52 rfl rfl ?_
          refine x_goto 7 dX9_layFlood_55 rfl ?_
          refine ih _ (g1.set _ (by decide)) (fun j hj => (upd_ne _ _ (by omega)).trans (g2 j hj)) (fun c hc => ?_)
          by_cases e : c = i
          · subst e
            refine (upd_at _ _ _).trans ?_
            rw [z1, show decide (ht c < tp) = false from decide_eq_false (by omega)]; rfl
          · exact (upd_ne _ _ (by omega)).trans (g3 c (by omega))
        · refine x_iconst dX9_layFlood_45 iconst_0 ?_
          refine x_goto 51 dX9_layFlood_46 rfl ?_
          refine n_iast rfl (s0_53 L) (by omega) rfl dX9_layFlood_51 ?_
          refine n_inc dX9_layFlood_52 rfl rfl ?_
          refine x_goto 7 dX9_layFlood_55 rfl ?_
          refine ih _ (g1.set _ (by decide)) (fun j hj => (upd_ne _ _ (by omega)).trans (g2 j hj)) (fun c hc => ?_)
          by_cases e : c = i
          · subst e
            refine (upd_at _ _ _).trans ?_
            rw [z1, show decide (ht c < tp) = true from decide_eq_true (by omega)]; rfl
          · exact (upd_ne _ _ (by omega)).trans (g3 c (by omega))
  refine x_bipush dX9_layFlood_0 bipush_36 ?_
  refine x_iload_n dX9_layFlood_2 rfl ?_
  refine n_imul dX9_layFlood_3 ?_
  refine x_istore_n dX9_layFlood_4 (by decide) rfl ?_
  refine x_iconst dX9_layFlood_5 iconst_0 ?_
  refine x_istore_n dX9_layFlood_6 (by decide) rfl ?_
  exact l1 M Fr.rf (fun _ _ => rfl) (fun c hc => absurd hc (by omega))

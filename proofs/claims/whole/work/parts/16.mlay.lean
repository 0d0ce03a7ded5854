/-- outside the places ks nothing has changed -/
def Fr (ks : List Nat) (M M' : vM) : Prop := ∀ q, q ∉ ks → M' q = M q
theorem Fr.rf {ks : List Nat} {M : vM} : Fr ks M M := fun _ _ => rfl
theorem Fr.set {ks : List Nat} {M M' : vM} {k : Nat} (f : Nat → Int32) (h : Fr ks M M') (hk : k ∈ ks) : Fr ks M (sM M' k f) := fun q hq => by
  rw [sM_ne _ _ _ (fun e => hq (by rw [e]; exact hk))]
  exact h q hq
theorem Fr.trans {ks : List Nat} {M M' M2 : vM} (h : Fr ks M M') (h2 : Fr ks M' M2) : Fr ks M M2 := fun q hq => (h2 q hq).trans (h q hq)
theorem Fr.sub {ks k2 : List Nat} {M M' : vM} (h : Fr ks M M') (hs : ∀ q ∈ ks, q ∈ k2) : Fr k2 M M' := fun q hq => h q (fun z => hq (hs q z))
theorem upd_at (f : Nat → Int32) (k : Nat) (x : Int32) : upd f k x k = x := by simp [upd]
theorem upd_ne (f : Nat → Int32) {k j : Nat} (x : Int32) (h : j ≠ k) : upd f k x j = f j := by simp [upd, h]
/-- steps from 0 to n -/
def itr {σ : Type} (F : Nat → σ → σ) : Nat → σ → σ
  | 0, s => s
  | n + 1, s => F n (itr F n s)
def edg (w h c : Nat) : Bool := decide (c % w = 0 ∨ c % w + 1 = w ∨ c / w = 0 ∨ c / w + 1 = h)
set_option maxRecDepth 100000 in
set_option maxHeartbeats 4000000 in
theorem m_layLand {E : vE} {l : Launch} {Q : Option Value → vS → vM → Prop} {L : Nat} {M : vM} {w h : Nat} (hQ : ∀ M1 : vM, Fr [42, 43, 44, 55] M M1 → M1 42 0 = nI w → M1 42 1 = nI h → (∀ c, c < 36 → M1 43 c = nI 0 ∧ M1 44 c = nI 0) → M1 42 4 = nI 0 → M1 42 8 = nI 0 → M1 42 20 = nI 0 → (∀ s, s < 3 → M1 55 s = nI 0) → Q none (S0 L) M1) : PM E l mX9_layLand 0 [.ref 42, .int (nI w), .int (nI h), .null] [] (S0 L) M 0 0 Q := by
  have lp2 : ∀ M1 : vM, Fr [42, 43, 44, 55] M M1 → M1 42 0 = nI w → M1 42 1 = nI h → (∀ c, c < 36 → M1 43 c = nI 0 ∧ M1 44 c = nI 0) → M1 42 4 = nI 0 → M1 42 8 = nI 0 → M1 42 20 = nI 0 → (∀ s, s < 0 → M1 55 s = nI 0) → PM E l mX9_layLand 55 [.ref 42, .int (nI w), .int (nI h), .int (nI 0)] [] (S0 L) M1 0 0 Q := by
    refine lp_up (P := fun i => ∀ M1 : vM, Fr [42, 43, 44, 55] M M1 → M1 42 0 = nI w → M1 42 1 = nI h → (∀ c, c < 36 → M1 43 c = nI 0 ∧ M1 44 c = nI 0) → M1 42 4 = nI 0 → M1 42 8 = nI 0 → M1 42 20 = nI 0 → (∀ s, s < i → M1 55 s = nI 0) → PM E l mX9_layLand 55 [.ref 42, .int (nI w), .int (nI h), .int (nI i)] [] (S0 L) M1 0 0 Q) 3 ?_ ?_ 0 (by omega)
    · intro M1 g1 g2 g3 g4 g5 g6 g7 g8
      refine x_iload_n dX9_layLand_55 rfl ?_
      refine x_iconst dX9_layLand_56 iconst_3 ?_
      refine n_icmp_ge 73 dX9_layLand_57 rfl (by omega) (by omega) (fun h1 => ?_) (fun h1 => by omega)
      refine x_vret dX9_layLand_73 rfl ?_
      exact hQ M1 g1 g2 g3 g4 g5 g6 g7 g8
    · intro i hi ih M1 g1 g2 g3 g4 g5 g6 g7 g8
      refine x_iload_n dX9_layLand_55 rfl ?_
      refine x_iconst dX9_layLand_56 iconst_3 ?_
      refine n_icmp_ge 73 dX9_layLand_57 rfl (by omega) (by omega) (fun h1 => by omega) (fun h1 => ?_)
      refine x_aload_n dX9_layLand_60 rfl ?_
      refine g_R (s0_42 L) fkX9_47 rfl rfl rfl dX9_layLand_61 ?_
      refine x_iload_n dX9_layLand_64 rfl ?_
      refine x_iconst dX9_layLand_65 iconst_0 ?_
      refine n_iast rfl (s0_55 L) (by first | assumption | omega) rfl dX9_layLand_66 ?_
      refine n_inc dX9_layLand_67 rfl rfl ?_
      refine x_goto 55 dX9_layLand_70 rfl ?_
      refine ih _ (Fr.set _ g1 (by decide)) g2 g3 g4 g5 g6 g7 (fun s hs => ?_)
      by_cases e : s = i
      · subst e; exact upd_at _ _ _
      · exact (upd_ne _ _ e).trans (g8 s (by omega))
  have lp1 : ∀ M1 : vM, Fr [42, 43, 44, 55] M M1 → M1 42 0 = nI w → M1 42 1 = nI h → (∀ c, c < 0 → M1 43 c = nI 0 ∧ M1 44 c = nI 0) → PM E l mX9_layLand 12 [.ref 42, .int (nI w), .int (nI h), .int (nI 0)] [] (S0 L) M1 0 0 Q := by
    refine lp_up (P := fun i => ∀ M1 : vM, Fr [42, 43, 44, 55] M M1 → M1 42 0 = nI w → M1 42 1 = nI h → (∀ c, c < i → M1 43 c = nI 0 ∧ M1 44 c = nI 0) → PM E l mX9_layLand 12 [.ref 42, .int (nI w), .int (nI h), .int (nI i)] [] (S0 L) M1 0 0 Q) 36 ?_ ?_ 0 (by omega)
    · intro M1 g1 g2 g3 g4
      refine x_iload_n dX9_layLand_12 rfl ?_
      refine x_bipush dX9_layLand_13 bipush_36 ?_
      refine n_icmp_ge 38 dX9_layLand_15 rfl (by omega) (by omega) (fun h1 => ?_) (fun h1 => by omega)
      refine x_aload_n dX9_layLand_38 rfl ?_
      refine x_iconst dX9_layLand_39 iconst_0 ?_
      refine g_P (s0_42 L) fkX9_94 rfl rfl rfl rfl dX9_layLand_40 ?_
      refine x_aload_n dX9_layLand_43 rfl ?_
      refine x_iconst dX9_layLand_44 iconst_0 ?_
      refine g_P (s0_42 L) fkX9_97 rfl rfl rfl rfl dX9_layLand_45 ?_
      refine x_aload_n dX9_layLand_48 rfl ?_
      refine x_iconst dX9_layLand_49 iconst_0 ?_
      refine g_P (s0_42 L) fkX9_100 rfl rfl rfl rfl dX9_layLand_50 ?_
      refine x_iconst dX9_layLand_53 iconst_0 ?_
      refine x_istore_n dX9_layLand_54 (by decide) rfl ?_
      refine lp2 _ (((g1.set _ (by decide)).set _ (by decide)).set _ (by decide)) g2 g3 g4 ?_ ?_ ?_ (fun s hs => absurd hs (by omega))
      · rfl
      · rfl
      · rfl
    · intro i hi ih M1 g1 g2 g3 g4
      refine x_iload_n dX9_layLand_12 rfl ?_
      refine x_bipush dX9_layLand_13 bipush_36 ?_
      refine n_icmp_ge 38 dX9_layLand_15 rfl (by omega) (by omega) (fun h1 => by omega) (fun h1 => ?_)
      refine x_aload_n dX9_layLand_18 rfl ?_
      refine g_R (s0_42 L) fkX9_7 rfl rfl rfl dX9_layLand_19 ?_
      refine x_iload_n dX9_layLand_22 rfl ?_
      refine x_iconst dX9_layLand_23 iconst_0 ?_
      refine n_iast rfl (s0_43 L) (by first | assumption | omega) rfl dX9_layLand_24 ?_
      refine x_aload_n dX9_layLand_25 rfl ?_
      refine g_R (s0_42 L) fkX9_13 rfl rfl rfl dX9_layLand_26 ?_
      refine x_iload_n dX9_layLand_29 rfl ?_
      refine x_iconst dX9_layLand_30 iconst_0 ?_
      refine n_iast rfl (s0_44 L) (by first | assumption | omega) rfl dX9_layLand_31 ?_
      refine n_inc dX9_layLand_32 rfl rfl ?_
      refine x_goto 12 dX9_layLand_35 rfl ?_
      refine ih _ ((g1.set _ (by decide)).set _ (by decide)) g2 g3 (fun c hc => ?_)
      by_cases e : c = i
      · subst e; exact ⟨upd_at _ _ _, upd_at _ _ _⟩
      · exact ⟨(upd_ne _ _ e).trans (g4 c (by omega)).1, (upd_ne _ _ e).trans (g4 c (by omega)).2⟩
  refine x_aload_n dX9_layLand_0 rfl ?_
  refine x_iload_n dX9_layLand_1 rfl ?_
  refine g_P (s0_42 L) fkX9_87 rfl rfl rfl rfl dX9_layLand_2 ?_
  refine x_aload_n dX9_layLand_5 rfl ?_
  refine x_iload_n dX9_layLand_6 rfl ?_
  refine g_P (s0_42 L) fkX9_91 rfl rfl rfl rfl dX9_layLand_7 ?_
  refine x_iconst dX9_layLand_10 iconst_0 ?_
  refine x_istore_n dX9_layLand_11 (by decide) rfl ?_
  refine lp1 _ ((Fr.rf.set _ (by decide)).set _ (by decide)) rfl rfl (fun c hc => absurd hc (by omega))

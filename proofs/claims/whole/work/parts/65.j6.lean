/-! ===== the class beside the reference: frames are given ===== -/
theorem nfr_tak {M M' : Nat → Nat → Int32} {f : Nat} (h : M 2 f = 0) (hv : M' 2 f ≠ 0) (ho : ∀ g, g ≠ f → M' 2 g = M 2 g) : ∀ n, nfr M' n + (if f < n then 1 else 0) = nfr M n
  | 0 => rfl
  | n + 1 => by
    have ih := nfr_tak h hv ho n
    rw [nfr, nfr]
    by_cases e : n = f
    · subst e
      rw [if_neg hv, if_pos h, if_pos (Nat.lt_succ_self _)]
      rw [if_neg (Nat.lt_irrefl _)] at ih
      omega
    · rw [ho n e]
      by_cases h2 : f < n
      · rw [if_pos h2] at ih
        rw [if_pos (show f < n + 1 by omega)]
        omega
      · rw [if_neg h2] at ih
        rw [if_neg (show ¬ f < n + 1 by omega)]
        omega
theorem gv1_row (C : Nat → Nat → Int32) (i k s : Nat) {b : Nat} (h1 : b ≠ 1) (h2 : b ≠ 2) (h3 : b ≠ 3) (h14 : b ≠ 14) (h21 : b ≠ 21) : gv1 C i k s b = C b := by
  rw [gv1, up2_row _ _ _ h14, up2_row _ _ _ h21, clC, upr_row _ _ _ _ h2, up2_row _ _ _ h1, up2_row _ _ _ h3]
theorem RM_gv1 {F i f s : Nat} {C M : Nat → Nat → Int32} (hF : F ≤ 40) (h : RM F C M) (hi : i < 8) (hs : C 14 i = nI s) (hs8 : s < 8) (hf : f < F) (h0 : M 2 f = 0) : RM F (gv1 C i f s) (growM M (i + 1) f s) ∧ nfr (growM M (i + 1) f s) F + 1 = nfr M F := by
  obtain ⟨b1, b2, b3, b4, b5, b6⟩ := h
  obtain ⟨s', hs'8, es, em, hpg⟩ := b4 i hi
  have ess : s' = s := (nI_eq (by omega) (by omega)).mp (es.symm.trans hs)
  subst ess
  have hp0 : nI (i + 1) ≠ 0 := nI_ne0 (by omega) (by omega)
  have m2 : growM M (i + 1) f s' 2 = up2 M 2 f (nI (i + 1)) 2 := by rw [growM, up2_row _ _ _ (by decide), up2_row _ _ _ (by decide), upr_row _ _ _ _ (by decide)]
  have m1 : growM M (i + 1) f s' 1 = upr M 1 (16 * f) 16 (fun _ => 0) 1 := by
    rw [growM, up2_row _ _ _ (by decide), up2_row _ _ _ (by decide)]
    funext j
    simp only [upr]
    rw [up2_row _ _ _ (by decide)]
  have m8 : growM M (i + 1) f s' 8 = up2 M 8 (i + 1) (nI (s' + 1)) 8 := by
    funext j
    simp only [growM, up2, upr]
    simp
  have m10 : growM M (i + 1) f s' 10 = up2 M 10 (8 * (i + 1) + s') (nI f) 10 := by
    funext j
    simp only [growM, up2, upr]
    simp
  have c1 : gv1 C i f s' 1 2 = C 1 2 - 1 := by rw [gv1, up2_row _ _ _ (by decide), up2_row _ _ _ (by decide), clC, upr_row _ _ _ _ (by decide), up2_at]
  have c2 : gv1 C i f s' 2 = upr C 2 (16 * f) 16 (fun _ => 0) 2 := by
    rw [gv1, up2_row _ _ _ (by decide), up2_row _ _ _ (by decide), clC]
    funext j
    simp only [upr]
    rw [up2_row _ _ _ (by decide), up2_row _ _ _ (by decide)]
  have c3 : gv1 C i f s' 3 = up2 C 3 f 1 3 := by
    rw [gv1, up2_row _ _ _ (by decide), up2_row _ _ _ (by decide), clC, upr_row _ _ _ _ (by decide), up2_row _ _ _ (by decide)]
  have c14 : gv1 C i f s' 14 = up2 C 14 i (nI (s' + 1)) 14 := by
    funext j
    simp only [gv1, clC, up2, upr]
    simp
  have c21 : gv1 C i f s' 21 = up2 C 21 (8 * i + s') (nI f) 21 := by
    funext j
    simp only [gv1, clC, up2, upr]
    simp
  have hn := nfr_tak (M := M) (M' := growM M (i + 1) f s') h0 (by rw [m2, up2_at]; exact hp0) (fun g hg => by rw [m2, up2_col _ _ _ hg]) F
  rw [if_pos hf] at hn
  refine ⟨⟨?_, ?_, ?_, ?_, ?_, ?_⟩, hn⟩
  · rw [c1, b1, ← hn]
    have := pk_sub (a := nfr (growM M (i + 1) f s') F + 1) (b := 1) (by omega)
    rw [Nat.add_sub_cancel] at this
    exact this
  · intro g hg
    rw [c3, m2]
    by_cases e : g = f
    · subst e
      rw [up2_at, up2_at]
      exact ⟨fun q => absurd q (by decide), fun q => absurd q hp0⟩
    · rw [up2_col _ _ _ e, up2_col _ _ _ e]
      exact b2 g hg
  · intro x hx
    rw [c2, m1]
    by_cases e : 16 * f ≤ x ∧ x < 16 * f + 16
    · rw [upr_in _ _ _ e.1 e.2, upr_in _ _ _ e.1 e.2]
    · rw [upr_out _ _ _ (by omega), upr_out _ _ _ (by omega)]
      exact b3 x hx
  · intro j hj
    obtain ⟨r, r1, r2, r3, r4⟩ := b4 j hj
    by_cases e : j = i
    · subst e
      have er : r = s' := (nI_eq (by omega) (by omega)).mp (r2.symm.trans hs)
      subst er
      refine ⟨r + 1, by omega, by rw [c14, up2_at], by rw [m8, up2_at], fun k hk => ?_⟩
      by_cases ek : k = r
      · subst ek
        exact ⟨f, hf, by rw [c21, up2_at], by rw [m10, up2_at], by rw [m2, up2_at]⟩
      · obtain ⟨g, hg, g1, g2, g3⟩ := r4 k (by omega)
        exact ⟨g, hg, by rw [c21, up2_col _ _ _ (by omega)]; exact g1, by rw [m10, up2_col _ _ _ (by omega)]; exact g2, by rw [m2, up2_col _ _ _ (fun q => by rw [q, h0] at g3; exact hp0 g3.symm)]; exact g3⟩
    · refine ⟨r, r1, by rw [c14, up2_col _ _ _ e]; exact r2, by rw [m8, up2_col _ _ _ (by omega)]; exact r3, fun k hk => ?_⟩
      obtain ⟨g, hg, g1, g2, g3⟩ := r4 k hk
      exact ⟨g, hg, by rw [c21, up2_col _ _ _ (by omega)]; exact g1, by rw [m10, up2_col _ _ _ (by omega)]; exact g2, by rw [m2, up2_col _ _ _ (fun q => by rw [q, h0] at g3; exact nI_ne0 (by omega) (by omega) g3.symm)]; exact g3⟩
  · intro j hj k k' hk hk'
    rw [m10]
    by_cases e : j = i
    · subst e
      rw [m8, up2_at, nv_nI (by omega)] at hk'
      by_cases ek : k' = s'
      · subst ek
        rw [up2_at, up2_col _ _ _ (by omega)]
        obtain ⟨g, hg, g1, g2, g3⟩ := hpg k hk
        intro q
        have : g = f := (nI_eq (by omega) (by omega)).mp (g2.symm.trans q)
        rw [this, h0] at g3
        exact hp0 g3.symm
      · rw [up2_col _ _ _ (by omega), up2_col _ _ _ (by omega)]
        exact b5 j hj k k' hk (by rw [em, nv_nI (by omega)]; omega)
    · rw [m8, up2_col _ _ _ (by omega)] at hk'
      obtain ⟨r, r1, _, r3, _⟩ := b4 j hj
      have hk2 := hk'
      rw [r3, nv_nI (by omega)] at hk2
      rw [up2_col _ _ _ (by omega), up2_col _ _ _ (by omega)]
      exact b5 j hj k k' hk hk'
  · intro g hg
    rw [m2]
    by_cases e : g = f
    · subst e
      exact Or.inr ⟨i, s', hi, by rw [m8, up2_at, nv_nI (by omega)]; omega, up2_at _ _ _ _, by rw [m10, up2_at]⟩
    · rw [up2_col _ _ _ e]
      rcases b6 g hg with q | ⟨j, k, hj, hk, q1, q2⟩
      · exact Or.inl q
      · obtain ⟨r, r1, _, r3, _⟩ := b4 j hj
        have hk2 := hk
        rw [r3, nv_nI (by omega)] at hk2
        refine Or.inr ⟨j, k, hj, ?_, q1, ?_⟩
        · rw [m8]
          by_cases ej : j = i
          · subst ej
            rw [up2_at, nv_nI (by omega)]
            rw [em, nv_nI (by omega)] at hk
            omega
          · rw [up2_col _ _ _ (by omega)]; exact hk
        · rw [m10, up2_col _ _ _ (fun z => by
            have : j = i := by omega
            subst this
            rw [em, nv_nI (by omega)] at hk
            omega)]
          exact q2
theorem gro_sh (M : Nat → Nat → Int32) (p : Nat) : ∀ k, gro M p (k + 1) = gro (groM M p) p k
  | 0 => rfl
  | k + 1 => by
    show groM (gro M p (k + 1)) p = groM (gro (groM M p) p k) p
    rw [gro_sh M p k]
theorem ff_eq {M : Nat → Nat → Int32} {k : Nat} (hk : k < 40) (h : ∀ f, f < k → M 2 f ≠ 0) (h0 : M 2 k = 0) : ff M = k := by
  have h1 := ff_le h0
  rcases Nat.lt_or_ge (ff M) k with q | q
  · exact absurd (ff_at (show ff M < 40 by omega)) (h _ q)
  · omega
theorem nfr_zero {M : Nat → Nat → Int32} : ∀ n, (∀ f, f < n → M 2 f ≠ 0) → nfr M n = 0
  | 0, _ => rfl
  | n + 1, h => by
    rw [nfr, nfr_zero n (fun f hf => h f (by omega)), if_neg (h n (by omega))]
theorem RM_gvC {F i more : Nat} (hF : F ≤ 40) (hi : i < 8) : ∀ (n : Nat) (C M : Nat → Nat → Int32) (k g s : Nat), k + n = F → RM F C M → C 14 i = nI s → (∀ f, f < k → M 2 f ≠ 0) → g ≤ more → s + (more - g) ≤ 8 → more - g ≤ nfr M F → RM F (gvC i more n C k g s) (gro M (i + 1) (more - g))
  | 0, C, M, k, g, s, hk, h, hs, hu, hg, hs8, hn => by
    have : nfr M F = 0 := nfr_zero F (fun f hf => hu f (by omega))
    have e : more - g = 0 := by omega
    rw [e]
    exact h
  | n + 1, C, M, k, g, s, hk, h, hs, hu, hg, hs8, hn => by
    unfold gvC
    by_cases hgm : g < more
    · rw [if_pos ⟨hgm, by omega⟩]
      have hk3 := h.2.1 k (by omega)
      by_cases h3 : C 3 k = 0
      · rw [if_pos h3]
        have h0 : M 2 k = 0 := hk3.mp h3
        have eff : ff M = k := ff_eq (by omega) hu h0
        obtain ⟨s', hs'8, es, em, _⟩ := h.2.2.2.1 i hi
        have ess : s' = s := (nI_eq (by omega) (by omega)).mp (es.symm.trans hs)
        subst ess
        have egr : groM M (i + 1) = growM M (i + 1) k s' := by rw [groM, eff, em, nv_nI (by omega)]
        obtain ⟨r1, r2⟩ := RM_gv1 hF h hi hs (by omega) (by omega) h0
        have e : more - g = (more - (g + 1)) + 1 := by omega
        rw [e, gro_sh, egr]
        refine RM_gvC hF hi n _ _ (k + 1) (g + 1) (s' + 1) (by omega) r1 ?_ ?_ (by omega) (by omega) (by omega)
        · rw [gv1, up2_at]
        · intro f hf
          rw [growM, up2_row _ _ _ (by decide), up2_row _ _ _ (by decide), upr_row _ _ _ _ (by decide)]
          by_cases ef : f = k
          · subst ef
            rw [up2_at]
            exact nI_ne0 (by omega) (by omega)
          · rw [up2_col _ _ _ ef]
            exact hu f (by omega)
      · rw [if_neg h3]
        refine RM_gvC hF hi n C M (k + 1) g s (by omega) h hs ?_ hg hs8 hn
        intro f hf
        by_cases ef : f = k
        · subst ef
          exact fun q => h3 (hk3.mpr q)
        · exact hu f (by omega)
    · rw [if_neg (fun q => hgm q.1)]
      have e : more - g = 0 := by omega
      rw [e]
      exact h
theorem gvC_row (i more n : Nat) (C : Nat → Nat → Int32) (k g s : Nat) {b : Nat} (h1 : b ≠ 1) (h2 : b ≠ 2) (h3 : b ≠ 3) (h14 : b ≠ 14) (h21 : b ≠ 21) : gvC i more n C k g s b = C b := by
  funext x
  exact gvC_ne i more x h1 h2 h3 h14 h21 n C k g s
theorem gro_row (M : Nat → Nat → Int32) (p k : Nat) {b : Nat} (h1 : b ≠ 1) (h2 : b ≠ 2) (h8 : b ≠ 8) (h10 : b ≠ 10) : gro M p k b = M b := by
  funext x
  exact gro_ne M p x h1 h2 h8 h10 k
theorem gro_8' (M : Nat → Nat → Int32) {p q : Nat} (h : q ≠ p) : ∀ k, gro M p k 8 q = M 8 q
  | 0 => rfl
  | k + 1 => (groM_8' _ h).trans (gro_8' M h k)
theorem PR_c8 {D : Nat → Int32} {C M C' M' : Nat → Nat → Int32} {i : Nat} (h : PR D C M i) (c10 : C' 10 i = C 10 i) (c15 : C' 15 i = C 15 i) (c16 : C' 16 i = C 16 i) (c17 : C' 17 i = C 17 i) (c18 : C' 18 i = C 18 i) (c20 : ∀ k, k < 32 → C' 20 (32 * i + k) = C 20 (32 * i + k)) (c22 : ∀ d, d < 6 → C' 22 (6 * i + d) = C 22 (6 * i + d)) (m4 : M' 4 (i + 1) = M 4 (i + 1)) (m5 : M' 5 (i + 1) = M 5 (i + 1)) (m6 : M' 6 (i + 1) = M 6 (i + 1)) (m7 : M' 7 (i + 1) = M 7 (i + 1)) (h4 : M 4 (i + 1) = 1) (m9 : ∀ k, k < 32 → M' 9 (32 * (i + 1) + k) = M 9 (32 * (i + 1) + k)) (m11 : ∀ d, d < 6 → M' 11 (6 * (i + 1) + d) = M 11 (6 * (i + 1) + d)) : PR D C' M' i := by
  obtain ⟨a1, a2, a3, a4, a5, a6, a7, a8, a9, a10⟩ := h
  have z20 := c20 0 (by decide)
  have z9 := m9 0 (by decide)
  rw [Nat.add_zero] at z20 z9
  refine ⟨by rw [c10]; exact a1, by rw [c15, m4]; exact a2, by rw [m4]; exact a3, ?_, by rw [m4, c18, m5]; exact a5, by rw [z20]; exact a6, by rw [z9]; exact a7, ?_, ?_, SL_c a10 m4 m9 m11⟩
  · rw [m4, c16, c17, m7, m6]
    intro q
    obtain ⟨b1, b2, b3⟩ := a4 q
    exact ⟨b1, b2, fun k hk => by rw [c20 k hk, m9 k hk]; exact b3 k hk⟩
  · intro d hd
    rw [c22 d hd, m11 d hd]
    exact a8 d hd
  · rw [m4, h4]
    exact fun q => q.elim (fun q => absurd q (by decide)) (fun q => absurd q (by decide))
theorem J_grow {D : Nat → Int32} {F t i s a : Nat} {T U V W : Int32} {C M : Nat → Nat → Int32} (h : J F t D T U V W C M) (hi : i < 8) (h4 : M 4 (i + 1) = 1) (hs : C 14 i = nI s) (hsa : s + a ≤ 8) (ha : a ≤ nfr M F) : J F t D T U V W (gvC i a F C 0 0 s) (gro M (i + 1) a) := by
  obtain ⟨⟨hF, g0⟩, g1, g2, g3, g4⟩ := h
  have cr : ∀ b, b ≠ 1 ∧ b ≠ 2 ∧ b ≠ 3 ∧ b ≠ 14 ∧ b ≠ 21 → gvC i a F C 0 0 s b = C b := fun b ⟨q1, q2, q3, q4, q5⟩ => gvC_row i a F C 0 0 s q1 q2 q3 q4 q5
  have mr : ∀ b, b ≠ 1 ∧ b ≠ 2 ∧ b ≠ 8 ∧ b ≠ 10 → gro M (i + 1) a b = M b := fun b ⟨q1, q2, q3, q4⟩ => gro_row M (i + 1) a q1 q2 q3 q4
  have hm := RM_gvC hF hi F C M 0 0 s (by omega) g1 hs (fun f hf => absurd hf (by omega)) (by omega) (by omega) (by omega) (more := a)
  rw [Nat.sub_zero] at hm
  have c0 := cr 0 (by decide)
  have m0 := mr 0 (by decide)
  refine ⟨⟨hF, R0_c g0 (by rw [c0]) (by rw [c0]) (by rw [c0]) (by rw [c0]) (by rw [c0]) (by rw [c0]) (by rw [c0]) (cr _ (by decide)) (cr _ (by decide)) (by rw [m0]) (by rw [m0]) (by rw [m0]) (by rw [m0]) (by rw [m0]) (by rw [m0]) (by rw [m0]) (by rw [m0]) (mr _ (by decide)) (mr _ (by decide))⟩, hm, ?_, fun k hk => RK_c (g3 k hk) (cr _ (by decide)) (cr _ (by decide)) (cr _ (by decide)) (mr _ (by decide)) (mr _ (by decide)) (hel_11 (mr _ (by decide))), RW_c g4 (by rw [cr _ (by decide)]) (cr _ (by decide)) (by rw [m0]) (mr _ (by decide)) (fun q _ e => by rw [mr _ (by decide)]; exact e)⟩
  intro j hj
  by_cases e : j = i
  · subst e
    refine PR_c8 (g2 j hj) ?_ ?_ ?_ ?_ ?_ ?_ ?_ ?_ ?_ ?_ ?_ h4 ?_ ?_
    all_goals first | (intro k' hk'; first | rw [cr _ (by decide)] | rw [mr _ (by decide)]) | (rw [cr _ (by decide)]) | (rw [mr _ (by decide)])
  · refine PR_c (g2 j hj) ?_ ?_ ?_ ?_ ?_ ?_ ?_ ?_ ?_ ?_ ?_ (gro_8' M (by omega) a) ?_ ?_
    all_goals first | (intro k' hk'; first | rw [cr _ (by decide)] | rw [mr _ (by decide)]) | (rw [cr _ (by decide)]) | (rw [mr _ (by decide)])

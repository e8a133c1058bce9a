/-! ===== the class beside the reference: the turn, the end of a process ===== -/
theorem J_pass {D : Nat → Int32} {F i z : Nat} {T U V W : Int32} {C M : Nat → Nat → Int32} (h : J F (i + 1) D T U V W C M) (hi : i < 8) (hz : C 46 1 = nI z) (hz8 : z ≤ 8) (hUW : 0 < U ↔ ¬ W = M 0 1) : (M 4 (i + 1) = 1 ∧ 0 < U ∧ J F (i + 1) D T U V W (ptn C i z) (stp5 M (i + 1)) ∧ stp5 M (i + 1) = M ∧ ptn C i z = C) ∨ J F 0 D 0 U 0 W (ptn C i z) (stp5 M (i + 1)) := by
  have g2 := h.2.2.1
  obtain ⟨_, _, _, _, _, _, _, b8, b9, b10, b11, b12⟩ := h.1.2
  obtain ⟨c10, c15, _⟩ := g2 i hi
  by_cases h1 : M 4 (i + 1) = 1
  · have h1c : C 15 i = 1 := by rw [c15, h1]
    by_cases hc : M 0 19 = 0 ∧ 0 < U
    · left
      have e1 : ptn C i z = C := by rw [ptn, if_pos h1c, b8, b10, if_pos hc]
      have e2 : stp5 M (i + 1) = M := by rw [stp5, if_pos h1, if_pos ⟨hc.1, by rw [b12]; exact hUW.mp hc.2⟩]
      exact ⟨h1, hc.2, by rw [e1, e2]; exact h, e2, e1⟩
    · right
      have hn := RW_not h.2.2.2.2 (p := i + 1) (by omega) hz hz8 (Or.inl rfl)
      obtain ⟨z8, m15, hr⟩ := RW_app (t' := 0) (p := i + 1) h.2.2.2.2 hz hz8 (by omega) (by omega) hn h1 (Or.inr rfl) (by omega)
      have eC : ptn C i z = up2 (up2 (up2 C 47 z (nI (i + 1))) 46 1 (nI (z + 1))) 0 10 0 := by rw [ptn, if_pos h1c, b8, b10, if_neg hc, apC, if_pos z8, c10]
      have e4 : up2 M 4 (i + 1) 1 = M := by
        funext a j
        unfold up2
        split
        · rename_i q
          rw [q.1, q.2, h1]
        · rfl
      have eM : stp5 M (i + 1) = up2 (up2 (up2 M 12 z (nI (i + 1))) 0 15 (nI (z + 1))) 0 17 0 := by
        rw [stp5, if_pos h1, if_neg (fun q => hc ⟨q.1, hUW.mpr (by rw [← b12]; exact q.2)⟩), m15, nv_nI (by omega), wakM, e4]
      have hJ := J_row (t' := 0) (C' := ptn C i z) (M' := stp5 M (i + 1)) h (fun a q0 q46 q47 => by rw [eC, up2_row _ _ _ q0, up2_row _ _ _ q46, up2_row _ _ _ q47]) (fun j q10 _ => by rw [eC, up2_col _ _ _ q10, up2_row _ _ _ (by decide), up2_row _ _ _ (by decide)]) (fun a q0 q12 => by rw [eM, up2_row _ _ _ q0, up2_row _ _ _ q0, up2_row _ _ _ q12]) (fun j _ q15 q17 _ => by rw [eM, up2_col _ _ _ q17, up2_col _ _ _ q15, up2_row _ _ _ (by decide)]) (hr _ _ (by rw [eC, up2_row _ _ _ (by decide), up2_at]) (by rw [eC, up2_row _ _ _ (by decide), up2_row _ _ _ (by decide)]) (by rw [eM, up2_col _ _ _ (by decide), up2_at]) (by rw [eM, up2_row _ _ _ (by decide), up2_row _ _ _ (by decide)]) (by rw [eM, up2_row _ _ _ (by decide), up2_row _ _ _ (by decide), up2_row _ _ _ (by decide)]))
      refine J_vals hJ ?_ ?_ ?_ ?_
      · rw [eC, up2_at]
      · rw [eC, up2_col _ _ _ (by decide), up2_row _ _ _ (by decide), up2_row _ _ _ (by decide)]; exact b10
      · rw [eM, up2_at]
      · rw [eM, up2_col _ _ _ (by decide), up2_col _ _ _ (by decide), up2_row _ _ _ (by decide)]; exact b12
  · right
    have eC : ptn C i z = up2 C 0 10 0 := by rw [ptn, if_neg (by rw [c15]; exact h1)]
    have eM : stp5 M (i + 1) = up2 M 0 17 0 := by rw [stp5, if_neg h1]
    have hr : RW 0 (up2 C 0 10 0) (up2 M 0 17 0) := by
      obtain ⟨L, k1, k2, k3, k4, k5, k6, k7⟩ := h.2.2.2.2
      refine ⟨L, k1, by rw [up2_row _ _ _ (by decide)]; exact k2, by rw [up2_col _ _ _ (by decide)]; exact k3, by rw [up2_row _ _ _ (by decide)]; exact k4, by rw [up2_row _ _ _ (by decide)]; exact k5, k6, fun x hx => ?_⟩
      obtain ⟨q, a, b, c, d, e⟩ := k7 x hx
      exact ⟨q, a, b, by omega, d, by rw [up2_row _ _ _ (by decide)]; exact e⟩
    rw [eC, eM]
    have hJ := J_row (t' := 0) (C' := up2 C 0 10 0) (M' := up2 M 0 17 0) h (fun a q0 _ _ => up2_row _ _ _ q0) (fun j q10 _ => up2_col _ _ _ q10) (fun a q0 _ => up2_row _ _ _ q0) (fun j _ _ q17 _ => up2_col _ _ _ q17) hr
    exact J_vals hJ (up2_at _ _ _ _) (by rw [up2_col _ _ _ (by decide)]; exact b10) (up2_at _ _ _ _) (by rw [up2_col _ _ _ (by decide)]; exact b12)
theorem hel_iff (M : Nat → Nat → Int32) (e : Int32) : hel M e = true ↔ ∃ q d, 1 ≤ q ∧ q ≤ 8 ∧ d < 6 ∧ M 11 (6 * q + d) = e := by
  unfold hel
  rw [List.any_eq_true]
  constructor
  · rintro ⟨j, hj, he⟩
    have := List.mem_range.mp hj
    refine ⟨j / 6 + 1, j % 6, by omega, by omega, by omega, ?_⟩
    rw [show 6 * (j / 6 + 1) + j % 6 = 6 + j by omega]
    exact eq_of_beq he
  · rintro ⟨q, d, h1, h2, h3, h4⟩
    refine ⟨6 * (q - 1) + d, List.mem_range.mpr (by omega), ?_⟩
    rw [show 6 + (6 * (q - 1) + d) = 6 * q + d by omega, h4]
    exact beq_self_eq_true _
theorem RK_tidy {C M C' M' N : Nat → Nat → Int32} {k : Nat} (h : RK C M k) (hk : k < 4) (c25 : C' 25 = C 25) (c26 : C' 26 = C 26) (c27 : C' 27 = C 27) (m13 : M' 13 = M 13) (m14 : M' 14 = tidy N 14) (n14 : N 14 = M 14) (m11 : ∀ e, hel M' e = hel N e) (hsub : ∀ e, e ≠ -1 → hel N e = true → hel M e = true) : RK C' M' k := by
  obtain ⟨a, c, h1, h2, h3, h4, h5, h6⟩ := h
  refine ⟨a, c, h1, h2, by rw [c25]; exact h3, by rw [c26]; exact h4, fun q => ?_, fun q => ?_⟩
  · have hp : pip M k := by
      rcases q with q | q
      · exact Or.inl (hsub _ (nI_nm (by omega)) (by rw [← m11]; exact q))
      · exact Or.inr (hsub _ (nI_nm (by omega)) (by rw [← m11]; exact q))
    obtain ⟨g1, g2⟩ := h5 hp
    refine ⟨?_, fun j hj => by rw [c27, m13]; exact g2 j hj⟩
    rw [m14, tidy, tidk]
    rw [if_neg (fun z => by
      obtain ⟨_, _, z1, z2⟩ := z
      rcases q with q | q
      · rw [m11, z1] at q; exact absurd q (by decide)
      · rw [m11, z2] at q; exact absurd q (by decide)), n14]
    exact g1
  · rw [m14, tidy, tidk]
    refine if_pos ⟨rfl, hk, ?_, ?_⟩
    · cases e : hel N (nI (1 + 2 * k)) with
      | false => rfl
      | true => exact absurd (Or.inl (by rw [m11]; exact e)) q
    · cases e : hel N (nI (2 + 2 * k)) with
      | false => rfl
      | true => exact absurd (Or.inr (by rw [m11]; exact e)) q
/-- the frames of p's first k pages let go -/
def frk (M : Nat → Nat → Int32) (p : Nat) : Nat → Nat → Nat → Int32
  | 0 => M
  | k + 1 => up2 (frk M p k) 2 (nv (M 10 (8 * p + k))) 0
theorem nfr_fre {M : Nat → Nat → Int32} {f : Nat} (h : M 2 f ≠ 0) : ∀ n, nfr (up2 M 2 f 0) n = nfr M n + (if f < n then 1 else 0)
  | 0 => rfl
  | n + 1 => by
    have ih := nfr_fre h n
    rw [nfr, nfr, ih]
    by_cases e : n = f
    · subst e
      rw [up2_at, if_pos rfl, if_neg (Nat.lt_irrefl _), if_neg h, if_pos (Nat.lt_succ_self _)]
    · rw [up2_col _ _ _ e]
      by_cases h2 : f < n
      · rw [if_pos h2, if_pos (show f < n + 1 by omega)]
        omega
      · rw [if_neg h2, if_neg (show ¬ f < n + 1 by omega)]
        omega
theorem RM_end {F i s : Nat} {C M C' M' : Nat → Nat → Int32} (hF : F ≤ 40) (h : RM F C M) (hi : i < 8) (hs : C 14 i = nI s) (hs8 : s ≤ 8) (c1 : C' 1 2 = tbk C i s 1 2) (c2 : C' 2 = C 2) (c3 : C' 3 = tbk C i s 3) (c14 : C' 14 = up2 C 14 i 0 14) (c21 : C' 21 = C 21) (m1 : M' 1 = M 1) (m2 : ∀ f, f < F → M' 2 f = if M 2 f = nI (i + 1) then 0 else M 2 f) (m8 : M' 8 = up2 M 8 (i + 1) 0 8) (m10 : M' 10 = M 10) : RM F C' M' := by
  obtain ⟨b1, b2, b3, b4, b5, b6⟩ := h
  obtain ⟨s', hs'8, es, em, hpg⟩ := b4 i hi
  have ess : s' = s := (nI_eq (by omega) (by omega)).mp (es.symm.trans hs)
  subst ess
  have hp0 : nI (i + 1) ≠ 0 := nI_ne0 (by omega) (by omega)
  have hle := nfr_le M F
  have key : ∀ k, k ≤ s' → nfr (frk M (i + 1) k) F = nfr M F + k ∧ tbk C i k 1 2 = nI (nfr M F + k) ∧ (∀ f, f < F → (tbk C i k 3 f = 0 ↔ frk M (i + 1) k 2 f = 0)) ∧ (∀ f, frk M (i + 1) k 2 f = M 2 f ∨ (frk M (i + 1) k 2 f = 0 ∧ ∃ j, j < k ∧ M 10 (8 * (i + 1) + j) = nI f)) ∧ (∀ f j, j < k → M 10 (8 * (i + 1) + j) = nI f → f < F → frk M (i + 1) k 2 f = 0) := by
    intro k
    induction k with
    | zero => exact fun _ => ⟨rfl, by rw [Nat.add_zero]; exact b1, b2, fun f => Or.inl rfl, fun f j hj => absurd hj (Nat.not_lt_zero _)⟩
    | succ k ih =>
      intro hk
      obtain ⟨i1, i2, i3, i4, i5⟩ := ih (by omega)
      obtain ⟨f, hf, ef, em2, eh⟩ := hpg k (by omega)
      have env : nv (M 10 (8 * (i + 1) + k)) = f := by rw [em2]; exact nv_nI (by omega)
      have enc : nv (C 21 (8 * i + k)) = f := by rw [ef]; exact nv_nI (by omega)
      have hne : frk M (i + 1) k 2 f ≠ 0 := by
        rcases i4 f with q | ⟨_, j, hj, q⟩
        · rw [q, eh]; exact hp0
        · exact absurd (q.trans em2.symm) (b5 i hi j k hj (by rw [em]; rw [nv_nI (by omega)]; omega))
      refine ⟨?_, ?_, ?_, ?_, ?_⟩
      · rw [frk, env, nfr_fre hne F, if_pos hf, i1]; omega
      · rw [tbk, up2_at, i2]
        exact nI_1 _
      · intro g hg
        rw [tbk, frk, env, enc, up2_row _ _ _ (by decide)]
        by_cases e : g = f
        · subst e
          rw [up2_at, up2_at]
        · rw [up2_col _ _ _ e, up2_col _ _ _ e]
          exact i3 g hg
      · intro g
        rw [frk, env]
        by_cases e : g = f
        · subst e
          exact Or.inr ⟨up2_at _ _ _ _, k, by omega, em2⟩
        · rw [up2_col _ _ _ e]
          rcases i4 g with q | ⟨q, j, hj, q2⟩
          · exact Or.inl q
          · exact Or.inr ⟨q, j, by omega, q2⟩
      · intro g j hj ej hg
        rw [frk, env]
        by_cases e : g = f
        · subst e
          exact up2_at _ _ _ _
        · rw [up2_col _ _ _ e]
          refine i5 g j ?_ ej hg
          rcases Nat.lt_succ_iff_lt_or_eq.mp hj with q | q
          · exact q
          · subst q
            exact absurd ((nI_eq (by omega) (by omega)).mp (ej.symm.trans em2)) e
  obtain ⟨k1, k2, k3, k4, k5⟩ := key s' (Nat.le_refl _)
  have hfm : ∀ f, f < F → M' 2 f = frk M (i + 1) s' 2 f := by
    intro f hf
    rw [m2 f hf]
    by_cases e : M 2 f = nI (i + 1)
    · rw [if_pos e]
      rcases b6 f hf with q | ⟨i', k, hi', hk, q1, q2⟩
      · exact absurd (e.symm.trans q) hp0
      · have ei : i' = i := by have := (nI_eq (by omega) (by omega)).mp (q1.symm.trans e); omega
        subst ei
        rw [em, nv_nI (by omega)] at hk
        exact (k5 f k hk q2 hf).symm
    · rw [if_neg e]
      rcases k4 f with q | ⟨_, j, hj, q2⟩
      · exact q.symm
      · obtain ⟨g, hg, _, em2, eh⟩ := hpg j hj
        have : g = f := (nI_eq (by omega) (by omega)).mp (em2.symm.trans q2)
        subst this
        exact absurd eh e
  have hn : nfr M' F = nfr M F + s' := by rw [← k1]; exact nfr_congr (fun f hf => by rw [hfm f hf])
  refine ⟨?_, ?_, ?_, ?_, ?_, ?_⟩
  · rw [c1, k2, hn]
  · intro f hf
    rw [c3, hfm f hf]
    exact k3 f hf
  · rw [c2, m1]; exact b3
  · intro j hj
    by_cases e : j = i
    · subst e
      exact ⟨0, by decide, by rw [c14, up2_at]; rfl, by rw [m8, up2_at]; rfl, fun k hk => absurd hk (Nat.not_lt_zero _)⟩
    · obtain ⟨r, r1, r2, r3, r4⟩ := b4 j hj
      refine ⟨r, r1, by rw [c14, up2_col _ _ _ e]; exact r2, by rw [m8, up2_col _ _ _ (by omega)]; exact r3, fun k hk => ?_⟩
      obtain ⟨f, hf, f1, f2, f3⟩ := r4 k hk
      refine ⟨f, hf, by rw [c21]; exact f1, by rw [m10]; exact f2, ?_⟩
      rw [m2 f hf, if_neg (fun q => by have := (nI_eq (by omega) (by omega)).mp (f3.symm.trans q); omega)]
      exact f3
  · intro j hj k k' hk hk'
    rw [m10]
    by_cases e : j = i
    · subst e
      rw [m8, up2_at] at hk'
      exact absurd hk' (Nat.not_lt_zero _)
    · rw [m8, up2_col _ _ _ (by omega)] at hk'
      exact b5 j hj k k' hk hk'
  · intro f hf
    rw [m2 f hf]
    by_cases e : M 2 f = nI (i + 1)
    · rw [if_pos e]; exact Or.inl rfl
    · rw [if_neg e]
      rcases b6 f hf with q | ⟨j, k, hj, hk, q1, q2⟩
      · exact Or.inl q
      · have hji : j ≠ i := fun q => e (by rw [q1, q])
        exact Or.inr ⟨j, k, hj, by rw [m8, up2_col _ _ _ (by omega)]; exact hk, q1, by rw [m10]; exact q2⟩

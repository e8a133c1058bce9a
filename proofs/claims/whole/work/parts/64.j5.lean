/-! ===== the class beside the reference: the end of a process, second row ===== -/
theorem remv_row (M : Nat → Nat → Int32) (p : Nat) {b : Nat} (h4 : b ≠ 4) (h5 : b ≠ 5) (h6 : b ≠ 6) (h7 : b ≠ 7) (h9 : b ≠ 9) : remv M p b = M b := by
  funext j
  exact remv_ne M p j h4 h5 h6 h7 h9
theorem up2_same {σ : Nat → Nat → Int32} {a j : Nat} {v : Int32} (h : σ a j = v) : up2 σ a j v = σ := by
  funext a' j'
  unfold up2
  split
  · rename_i q
    rw [q.1, q.2, h]
  · rfl
theorem remv_4 (M : Nat → Nat → Int32) (p q : Nat) : remv M p 4 q = if q = p then 0 else M 4 q := by
  simp [remv, upr, up2]
theorem remv_5 (M : Nat → Nat → Int32) (p q : Nat) : remv M p 5 q = if q = p then 0 else M 5 q := by
  simp [remv, upr, up2]
theorem remv_6 (M : Nat → Nat → Int32) (p q : Nat) : remv M p 6 q = if q = p then 0 else M 6 q := by
  simp [remv, upr, up2]
theorem remv_7 (M : Nat → Nat → Int32) (p q : Nat) : remv M p 7 q = if q = p then 0 else M 7 q := by
  simp [remv, upr, up2]
theorem remv_9 (M : Nat → Nat → Int32) (p j : Nat) : remv M p 9 j = if 32 * p ≤ j ∧ j < 32 * p + 32 then 0 else M 9 j := by
  simp [remv, upr, up2]
theorem J_remv {D : Nat → Int32} {F t i : Nat} {T U V W : Int32} {C M : Nat → Nat → Int32} (h : J F t D T U V W C M) (hi : i < 8) (hs : M 4 (i + 1) = 0 ∨ M 4 (i + 1) = 5) : J F t D T U V W (up2 C 15 i 0) (remv M (i + 1)) := by
  have g2 := h.2.2.1
  refine J_pr h (fun a q _ _ _ _ _ => up2_row _ _ _ q) (fun a _ q4 q5 q6 q7 q9 _ => remv_row _ _ q4 q5 q6 q7 q9) (fun j _ => by rw [remv_row _ _ (by decide) (by decide) (by decide) (by decide) (by decide)]) ?_ (hel_11 (remv_row _ _ (by decide) (by decide) (by decide) (by decide) (by decide))) (fun q _ e => by
    rw [remv_4, if_neg (fun z => by
      rw [z] at e
      rcases hs with hs | hs <;> exact absurd (hs.symm.trans e) (by decide))]
    exact e)
  intro j hj
  by_cases hij : j = i
  · subst hij
    obtain ⟨a1, a2, a3, a4, a5, a6, a7, a8, a9, a10⟩ := g2 j hj
    have e4 : remv M (j + 1) 4 (j + 1) = 0 := by rw [remv_4, if_pos rfl]
    refine ⟨?_, ?_, ?_, ?_, ?_, ?_, ?_, ?_, ?_, SL_no (Or.inl e4)⟩
    · rw [up2_row _ _ _ (by decide)]; exact a1
    · rw [up2_at, e4]
    · rw [e4]; exact ⟨0, by decide, rfl⟩
    · rw [e4]; exact fun q => absurd rfl q
    · rw [e4]; exact fun q => absurd q (by decide)
    · rw [up2_row _ _ _ (by decide)]; exact a6
    · rw [remv_9, if_pos (by omega)]
    · rw [up2_row _ _ _ (by decide), remv_row _ _ (by decide) (by decide) (by decide) (by decide) (by decide)]; exact a8
    · rw [remv_row (b := 8) _ _ (by decide) (by decide) (by decide) (by decide) (by decide), remv_row (b := 11) _ _ (by decide) (by decide) (by decide) (by decide) (by decide)]
      exact fun _ => a9 hs
  · refine PR_c (g2 j hj) ?_ ?_ ?_ ?_ ?_ ?_ ?_ ?_ ?_ ?_ ?_ ?_ ?_ ?_
    · rw [up2_row _ _ _ (by decide)]
    · rw [up2_col _ _ _ hij]
    · rw [up2_row _ _ _ (by decide)]
    · rw [up2_row _ _ _ (by decide)]
    · rw [up2_row _ _ _ (by decide)]
    · intro k hk; rw [up2_row _ _ _ (by decide)]
    · intro k hk; rw [up2_row _ _ _ (by decide)]
    · rw [remv_4, if_neg (by omega)]
    · rw [remv_5, if_neg (by omega)]
    · rw [remv_6, if_neg (by omega)]
    · rw [remv_7, if_neg (by omega)]
    · rw [remv_row _ _ (by decide) (by decide) (by decide) (by decide) (by decide)]
    · intro k hk; rw [remv_9, if_neg (by omega)]
    · intro k hk; rw [remv_row _ _ (by decide) (by decide) (by decide) (by decide) (by decide)]
theorem J_par {D : Nat → Int32} {F t i : Nat} {T U V W v : Int32} {C M : Nat → Nat → Int32} (h : J F t D T U V W C M) (hi : i < 8) : J F t D T U V W (up2 C 17 i v) (up2 M 6 (i + 1) v) := by
  have g2 := h.2.2.1
  refine J_pr h (fun a _ _ q _ _ _ => up2_row _ _ _ q) (fun a _ _ _ q _ _ _ => up2_row _ _ _ q) (fun j _ => by rw [up2_row _ _ _ (by decide)]) ?_ (hel_11 (up2_row _ _ _ (by decide))) (fun q _ e => by rw [up2_row _ _ _ (by decide)]; exact e)
  intro j hj
  by_cases hij : j = i
  · subst hij
    obtain ⟨a1, a2, a3, a4, a5, a6, a7, a8, a9, a10⟩ := g2 j hj
    refine ⟨?_, ?_, ?_, ?_, ?_, ?_, ?_, ?_, ?_, ?_⟩
    · rw [up2_row _ _ _ (by decide)]; exact a1
    · rw [up2_row _ _ _ (by decide), up2_row _ _ _ (by decide)]; exact a2
    · rw [up2_row _ _ _ (by decide)]; exact a3
    · rw [up2_row (b := 4) _ _ _ (by decide), up2_at, up2_at, up2_row (b := 16) _ _ _ (by decide), up2_row (b := 7) _ _ _ (by decide), up2_row (b := 20) _ _ _ (by decide), up2_row (b := 9) _ _ _ (by decide)]
      intro q
      obtain ⟨b1, b2, b3⟩ := a4 q
      exact ⟨b1, rfl, b3⟩
    · rw [up2_row _ _ _ (by decide), up2_row _ _ _ (by decide), up2_row _ _ _ (by decide)]; exact a5
    · rw [up2_row _ _ _ (by decide)]; exact a6
    · rw [up2_row _ _ _ (by decide)]; exact a7
    · rw [up2_row _ _ _ (by decide), up2_row _ _ _ (by decide)]; exact a8
    · rw [up2_row _ _ _ (by decide), up2_row _ _ _ (by decide), up2_row _ _ _ (by decide)]; exact a9
    · exact SL_c a10 (by rw [up2_row _ _ _ (by decide)]) (fun _ _ => by rw [up2_row _ _ _ (by decide)]) (fun _ _ => by rw [up2_row _ _ _ (by decide)])
  · refine PR_c (g2 j hj) ?_ ?_ ?_ ?_ ?_ ?_ ?_ ?_ ?_ ?_ ?_ ?_ ?_ ?_
    all_goals first | (intro k' hk'; first | rfl | (rw [up2_row _ _ _ (by decide)]) | (rw [up2_col _ _ _ (by omega)])) | (rw [up2_row _ _ _ (by decide)]) | (rw [up2_col _ _ _ (by omega)]) | rfl
theorem st_pos {D : Nat → Int32} {C M : Nat → Nat → Int32} {i : Nat} (h : PR D C M i) : (0 < M 4 (i + 1) ↔ M 4 (i + 1) ≠ 0) ∧ (M 4 (i + 1) ≤ 0 ↔ M 4 (i + 1) = 0) := by
  obtain ⟨_, _, ⟨s, hs, e⟩, _⟩ := h
  rw [e]
  have a := nI_ltI (a := 0) (b := s) (by decide) (by omega)
  have b := nI_leI (a := s) (b := 0) (by omega) (by decide)
  have c := nI_eq (a := s) (b := 0) (by omega) (by decide)
  constructor
  · exact ⟨fun q z => by have := a.mp q; have := c.mp z; omega, fun q => a.mpr (by
      rcases Nat.eq_zero_or_pos s with z | z
      · exact absurd (c.mpr z) q
      · exact z)⟩
  · exact ⟨fun q => c.mpr (by have := b.mp q; omega), fun q => b.mpr (by have := c.mp q; omega)⟩
theorem chC_eq {D : Nat → Int32} {C M : Nat → Nat → Int32} {i j : Nat} (hi : PR D C M i) (hj : C 10 j = nI (j + 1)) : chC C i j = true ↔ 0 < M 4 (i + 1) ∧ M 6 (i + 1) = nI (j + 1) := by
  obtain ⟨_, a2, _, a4, _⟩ := id hi
  rw [(st_pos hi).1, chC, a2, hj]
  simp only [Bool.and_eq_true, Bool.not_eq_true', decide_eq_false_iff_not, decide_eq_true_eq]
  constructor
  · intro ⟨h1, h2⟩
    exact ⟨h1, by rw [← (a4 h1).2.1]; exact h2⟩
  · intro ⟨h1, h2⟩
    exact ⟨h1, by rw [(a4 h1).2.1]; exact h2⟩
theorem J_hand {D : Nat → Int32} {F t i : Nat} {T U V W one : Int32} {C M : Nat → Nat → Int32} (h : J F t D T U V W C M) (hi : i < 8) : ∀ k, k ≤ 8 → J F t D T U V W (hok C i one k) (rpa M (nI (i + 1)) one k)
  | 0, _ => h
  | k + 1, hk => by
    have ih := J_hand (one := one) h hi k (by omega)
    have hp := ih.2.2.1 k (by omega)
    have hc := chC_eq hp (ih.2.2.1 i hi).1
    unfold hok rpa
    by_cases hch : chC (hok C i one k) k i = true
    · rw [if_pos hch, if_pos (hc.mp hch), hp.2.1]
      have hJ := J_par (i := k) (v := one) ih (by omega)
      by_cases h5 : one = 0 ∧ rpa M (nI (i + 1)) one k 4 (k + 1) = 5
      · rw [if_pos h5, if_pos h5]
        exact J_remv hJ (by omega) (Or.inr (by rw [up2_row _ _ _ (by decide)]; exact h5.2))
      · rw [if_neg h5, if_neg h5]
        exact hJ
    · rw [if_neg hch, if_neg (fun q => hch (hc.mpr q))]
      exact ih
theorem tbC_row (C : Nat → Nat → Int32) (i s : Nat) {b : Nat} (h1 : b ≠ 1) (h3 : b ≠ 3) (h14 : b ≠ 14) : tbC C i s b = C b := by
  funext j
  rw [tbC, up2_ne2 _ _ _ _ h14, tbk_ne C i j h3 h1 s]
theorem hldM_row (M : Nat → Nat → Int32) (p : Int32) (k : Nat) {b : Nat} (h : b ≠ 2) : hldM M p k b = M b := by
  funext j
  exact hldM_ne M p k j h
theorem unrw_row (M : Nat → Nat → Int32) (p : Int32) (k : Nat) {b : Nat} (h0 : b ≠ 0) (h : b ≠ 12) : unrw M p k b = M b := by
  rw [unrw, up2_row _ _ _ h0, upl_row _ _ h]
theorem drC_row (C : Nat → Nat → Int32) (z : Nat) (p : Int32) {b : Nat} (h0 : b ≠ 46) (h : b ≠ 47) : drC C z p b = C b := by
  rw [drC, up2_row _ _ _ h0, upl_row _ _ h]
theorem flt_row {M N : Nat → Nat → Int32} {a : Nat} (h : M a = N a) (q : Int32) (k : Nat) : flt M a q k = flt N a q k := by
  rw [flt, flt, h]
theorem upl_rw {M N : Nat → Nat → Int32} {a : Nat} (h : M a = N a) (l : List Int32) : upl M a l a = upl N a l a := by
  funext j
  simp only [upl]
  rw [h]
theorem en1_row (C : Nat → Nat → Int32) (i s z : Nat) (code : Int32) {b : Nat} (h1 : b ≠ 1) (h3 : b ≠ 3) (h14 : b ≠ 14) (h15 : b ≠ 15) (h18 : b ≠ 18) (h22 : b ≠ 22) (h46 : b ≠ 46) (h47 : b ≠ 47) : en1 C i s z code b = C b := by
  rw [en1, up2_row _ _ _ h18, up2_row _ _ _ h15, drC_row _ _ _ h46 h47, upr_row _ _ _ _ h22, tbC_row _ _ _ h1 h3 h14]
theorem end5_row (M : Nat → Nat → Int32) (p : Nat) (code : Int32) (m : Nat) {b : Nat} (h0 : b ≠ 0) (h2 : b ≠ 2) (h4 : b ≠ 4) (h5 : b ≠ 5) (h8 : b ≠ 8) (h11 : b ≠ 11) (h12 : b ≠ 12) (h14 : b ≠ 14) : end5 M p code m b = M b := by
  rw [end5, unrw_row _ _ _ h0 h12, tidy_row _ h14, upr_row _ _ _ _ h11, hldM_row _ _ _ h2, up2_row _ _ _ h8, up2_row _ _ _ h5, up2_row _ _ _ h4]
theorem J_end1 {D : Nat → Int32} {F t i s z : Nat} {T U V W : Int32} {C M : Nat → Nat → Int32} (code : Int32) (h : J F t D T U V W C M) (hi : i < 8) (h0 : M 4 (i + 1) ≠ 0) (hs : C 14 i = nI s) (hs8 : s ≤ 8) (hz : C 46 1 = nI z) (hz8 : z ≤ 8) : J F t D T U V W (en1 C i s z code) (end5 M (i + 1) code z) := by
  obtain ⟨⟨hF, g0⟩, g1, g2, g3, g4⟩ := h
  have c10 : C 10 i = nI (i + 1) := (g2 i hi).1
  have cr : ∀ b, b ≠ 1 ∧ b ≠ 3 ∧ b ≠ 14 ∧ b ≠ 15 ∧ b ≠ 18 ∧ b ≠ 22 ∧ b ≠ 46 ∧ b ≠ 47 → en1 C i s z code b = C b := fun b ⟨q1, q2, q3, q4, q5, q6, q7, q8⟩ => en1_row C i s z code q1 q2 q3 q4 q5 q6 q7 q8
  have mr : ∀ b, b ≠ 0 ∧ b ≠ 2 ∧ b ≠ 4 ∧ b ≠ 5 ∧ b ≠ 8 ∧ b ≠ 11 ∧ b ≠ 12 ∧ b ≠ 14 → end5 M (i + 1) code z b = M b := fun b ⟨q1, q2, q3, q4, q5, q6, q7, q8⟩ => end5_row M (i + 1) code z q1 q2 q3 q4 q5 q6 q7 q8
  have c0 := cr 0 (by decide)
  have m0 : ∀ j, j ≠ 15 → end5 M (i + 1) code z 0 j = M 0 j := fun j hj => end5_0 _ _ _ _ hj
  have m4 : end5 M (i + 1) code z 4 = up2 M 4 (i + 1) 5 4 := by
    rw [end5, unrw_row _ _ _ (by decide) (by decide), tidy_row _ (by decide), upr_row _ _ _ _ (by decide), hldM_row _ _ _ (by decide), up2_row _ _ _ (by decide), up2_row _ _ _ (by decide)]
  have m5 : end5 M (i + 1) code z 5 = up2 M 5 (i + 1) code 5 := by
    rw [end5, unrw_row _ _ _ (by decide) (by decide), tidy_row _ (by decide), upr_row _ _ _ _ (by decide), hldM_row _ _ _ (by decide), up2_row _ _ _ (by decide)]
    funext j
    simp only [up2]
    simp
  have m8 : end5 M (i + 1) code z 8 = up2 M 8 (i + 1) 0 8 := by
    rw [end5, unrw_row _ _ _ (by decide) (by decide), tidy_row _ (by decide), upr_row _ _ _ _ (by decide), hldM_row _ _ _ (by decide)]
    funext j
    simp only [up2]
    simp
  have m11 : end5 M (i + 1) code z 11 = upr M 11 (6 * (i + 1)) 6 (fun _ => -1) 11 := by
    rw [end5, unrw_row _ _ _ (by decide) (by decide), tidy_row _ (by decide)]
    funext j
    simp only [upr]
    rw [hldM_row _ _ _ (by decide), up2_row _ _ _ (by decide), up2_row _ _ _ (by decide), up2_row _ _ _ (by decide)]
  have m12 : ∀ N : Nat → Nat → Int32, N = tidy (upr (hldM (up2 (up2 (up2 M 4 (i + 1) 5) 5 (i + 1) code) 8 (i + 1) 0) (nI (i + 1)) 40) 11 (6 * (i + 1)) 6 (fun _ => -1)) → N 12 = M 12 := by
    intro N hN
    rw [hN, tidy_row _ (by decide), upr_row _ _ _ _ (by decide), hldM_row _ _ _ (by decide), up2_row _ _ _ (by decide), up2_row _ _ _ (by decide), up2_row _ _ _ (by decide)]
  have c47 : ∀ N : Nat → Nat → Int32, N = upr (tbC C i s) 22 (6 * i) 6 (fun _ => -1) → N 47 = C 47 := by
    intro N hN
    rw [hN, upr_row _ _ _ _ (by decide), tbC_row _ _ _ (by decide) (by decide) (by decide)]
  have c15 : en1 C i s z code 15 = up2 C 15 i 5 15 := by
    rw [en1, up2_row _ _ _ (by decide)]
    funext j
    simp only [up2]
    rw [drC_row _ _ _ (by decide) (by decide), upr_row _ _ _ _ (by decide), tbC_row _ _ _ (by decide) (by decide) (by decide)]
  have c18 : en1 C i s z code 18 = up2 C 18 i code 18 := by
    funext j
    simp only [en1, up2]
    rw [drC_row _ _ _ (by decide) (by decide), upr_row _ _ _ _ (by decide), tbC_row _ _ _ (by decide) (by decide) (by decide)]
    simp
  have c22 : en1 C i s z code 22 = upr C 22 (6 * i) 6 (fun _ => -1) 22 := by
    rw [en1, up2_row _ _ _ (by decide), up2_row _ _ _ (by decide), drC_row _ _ _ (by decide) (by decide)]
    funext j
    simp only [upr]
    rw [tbC_row _ _ _ (by decide) (by decide) (by decide)]
  refine ⟨⟨hF, R0_c g0 (by rw [c0]) (by rw [c0]) (by rw [c0]) (by rw [c0]) (by rw [c0]) (by rw [c0]) (by rw [c0]) (cr _ (by decide)) (cr _ (by decide)) (m0 _ (by decide)) (m0 _ (by decide)) (m0 _ (by decide)) (m0 _ (by decide)) (m0 _ (by decide)) (m0 _ (by decide)) (m0 _ (by decide)) (m0 _ (by decide)) (mr _ (by decide)) (mr _ (by decide))⟩, ?_, ?_, ?_, ?_⟩
  · refine RM_end hF g1 hi hs hs8 ?_ (cr _ (by decide)) ?_ ?_ (cr _ (by decide)) (mr _ (by decide)) ?_ m8 (mr _ (by decide))
    · rw [en1, up2_row _ _ _ (by decide), up2_row _ _ _ (by decide), drC_row _ _ _ (by decide) (by decide), upr_row _ _ _ _ (by decide), tbC, up2_row _ _ _ (by decide)]
    · rw [en1, up2_row _ _ _ (by decide), up2_row _ _ _ (by decide), drC_row _ _ _ (by decide) (by decide), upr_row _ _ _ _ (by decide), tbC, up2_row _ _ _ (by decide)]
    · rw [en1, up2_row _ _ _ (by decide), up2_row _ _ _ (by decide), drC_row _ _ _ (by decide) (by decide), upr_row _ _ _ _ (by decide), tbC]
      funext j
      simp only [up2]
      rw [tbk_ne C i j (by decide) (by decide) s]
    · intro f hf
      rw [end5, unrw_row _ _ _ (by decide) (by decide), tidy_row _ (by decide), upr_row _ _ _ _ (by decide)]
      simp only [hldM, up2]
      by_cases e : M 2 f = nI (i + 1)
      · rw [if_pos e]
        exact if_pos ⟨trivial, by omega, by simpa using e⟩
      · rw [if_neg e, if_neg (fun q => e (by simpa using q.2.2))]
        simp
  · intro j hj
    by_cases hij : j = i
    · subst hij
      obtain ⟨a1, a2, a3, a4, a5, a6, a7, a8, a9, a10⟩ := g2 j hj
      have e4 : end5 M (j + 1) code z 4 (j + 1) = 5 := by rw [m4, up2_at]
      have e11 : ∀ d, d < 6 → end5 M (j + 1) code z 11 (6 * (j + 1) + d) = -1 := fun d hd => by rw [m11, upr_in _ _ _ (by omega) (by omega)]
      refine ⟨?_, ?_, ?_, ?_, ?_, ?_, ?_, ?_, ?_, SL_no (Or.inr (Or.inr e4))⟩
      · rw [cr _ (by decide)]; exact a1
      · rw [c15, up2_at, e4]
      · rw [e4]; exact ⟨5, by decide, rfl⟩
      · intro _
        rw [cr 16 (by decide), cr 17 (by decide), cr 20 (by decide), mr 7 (by decide), mr 6 (by decide), mr 9 (by decide)]
        exact a4 h0
      · intro _
        rw [c18, m5, up2_at, up2_at]
      · rw [cr _ (by decide)]; exact a6
      · rw [mr _ (by decide)]; exact a7
      · intro d hd
        rw [e11 d hd, c22, upr_in _ _ _ (by omega) (by omega)]
        exact ⟨rfl, Or.inl rfl⟩
      · intro _
        exact ⟨by rw [m8, up2_at], e11⟩
    · refine PR_c (g2 j hj) ?_ ?_ ?_ ?_ ?_ ?_ ?_ ?_ ?_ ?_ ?_ ?_ ?_ ?_
      · rw [cr _ (by decide)]
      · rw [c15, up2_col _ _ _ hij]
      · rw [cr _ (by decide)]
      · rw [cr _ (by decide)]
      · rw [c18, up2_col _ _ _ hij]
      · intro k hk; rw [cr _ (by decide)]
      · intro k hk; rw [c22, upr_out _ _ _ (by omega)]
      · rw [m4, up2_col _ _ _ (by omega)]
      · rw [m5, up2_col _ _ _ (by omega)]
      · rw [mr _ (by decide)]
      · rw [mr _ (by decide)]
      · rw [m8, up2_col _ _ _ (by omega)]
      · intro k hk; rw [mr _ (by decide)]
      · intro k hk; rw [m11, upr_out _ _ _ (by omega)]
  · intro k hk
    refine RK_tidy (N := upr (hldM (up2 (up2 (up2 M 4 (i + 1) 5) 5 (i + 1) code) 8 (i + 1) 0) (nI (i + 1)) 40) 11 (6 * (i + 1)) 6 (fun _ => -1)) (g3 k hk) hk (cr _ (by decide)) (cr _ (by decide)) (cr _ (by decide)) (mr _ (by decide)) ?_ ?_ ?_ ?_
    · rw [end5, unrw_row _ _ _ (by decide) (by decide)]
    · rw [upr_row _ _ _ _ (by decide), hldM_row _ _ _ (by decide), up2_row _ _ _ (by decide), up2_row _ _ _ (by decide), up2_row _ _ _ (by decide)]
    · intro e
      refine hel_11 ?_ e
      rw [end5, unrw_row _ _ _ (by decide) (by decide), tidy_row _ (by decide)]
    · intro e he hh
      obtain ⟨q, d, q1, q8, hd, ee⟩ := (hel_iff _ _).mp hh
      refine (hel_iff _ _).mpr ⟨q, d, q1, q8, hd, ?_⟩
      by_cases hq : q = i + 1
      · subst hq
        rw [upr_in _ _ _ (by omega) (by omega)] at ee
        exact absurd ee.symm he
      · rw [upr_out _ _ _ (by omega), hldM_row _ _ _ (by decide), up2_row _ _ _ (by decide), up2_row _ _ _ (by decide), up2_row _ _ _ (by decide)] at ee
        exact ee
  · refine RW_flt (t := t) (q := nI (i + 1)) g4 hz hz8 ?_ ?_ ?_ ?_ ?_
    · rw [en1, up2_row _ _ _ (by decide), up2_row _ _ _ (by decide), drC, up2_at, c10, flt_row (c47 _ rfl)]
    · rw [en1, up2_row _ _ _ (by decide), up2_row _ _ _ (by decide), drC, up2_row _ _ _ (by decide), c10, flt_row (c47 _ rfl), upl_rw (c47 _ rfl)]
    · rw [end5, unrw, up2_at, flt_row (m12 _ rfl)]
    · rw [end5, unrw, up2_row _ _ _ (by decide), flt_row (m12 _ rfl), upl_rw (m12 _ rfl)]
    · intro r hr hr2 hr4
      refine ⟨hr, ?_⟩
      rw [m4, up2_col _ _ _ (fun q => hr2 (by rw [q]))]
      exact hr4
theorem J_end {D : Nat → Int32} {F t i s z : Nat} {T U V W : Int32} {C M : Nat → Nat → Int32} (code : Int32) (h : J F t D T U V W C M) (hi : i < 8) (h0 : M 4 (i + 1) ≠ 0) (hs : C 14 i = nI s) (hs8 : s ≤ 8) (hz : C 46 1 = nI z) (hz8 : z ≤ 8) : J F t D T U V W (enC C i s z code) (endM M (i + 1) code z) := by
  have h1 := J_end1 code h hi h0 hs hs8 hz hz8
  have e1 : (if en1 C i s z code 15 0 = 5 then 0 else 1) = oneM (end5 M (i + 1) code z) := by
    rw [oneM, (h1.2.2.1 0 (by decide)).2.1]
  have h2 : J F t D T U V W (hoC (en1 C i s z code) i) (end6 M (i + 1) code z) := by
    rw [hoC, e1]
    exact J_hand h1 hi 8 (Nat.le_refl _)
  have h3 : J F t D T U V W (enC C i s z code) (end7 M (i + 1) code z) := by
    obtain ⟨a1, a2, a3, a4, a5, a6, a7, a8, a9, a10⟩ := h2.2.2.1 i hi
    have hst : end6 M (i + 1) code z 4 (i + 1) = 0 ∨ end6 M (i + 1) code z 4 (i + 1) = 5 := by
      have key : ∀ (one : Int32) (k : Nat), rpa (end5 M (i + 1) code z) (nI (i + 1)) one k 4 (i + 1) = 0 ∨ rpa (end5 M (i + 1) code z) (nI (i + 1)) one k 4 (i + 1) = 5 := by
        intro one k
        induction k with
        | zero =>
          right
          show end5 M (i + 1) code z 4 (i + 1) = 5
          rw [end5, unrw_row _ _ _ (by decide) (by decide), tidy_row _ (by decide), upr_row _ _ _ _ (by decide), hldM_row _ _ _ (by decide), up2_row _ _ _ (by decide), up2_row _ _ _ (by decide), up2_at]
        | succ k ih =>
          unfold rpa
          split
          · split
            · rw [remv_4]
              split
              · exact Or.inl rfl
              · rw [up2_row _ _ _ (by decide)]; exact ih
            · rw [up2_row _ _ _ (by decide)]; exact ih
          · exact ih
      exact key _ 8
    unfold enC end7
    have hne : (¬ hoC (en1 C i s z code) i 10 i = 1) ↔ i + 1 ≠ 1 := by
      rw [a1]
      constructor
      · intro q z; exact q (by rw [z]; rfl)
      · intro q z; exact q ((nI_eq (b := 1) (by omega) (by decide)).mp z)
    rcases hst with hst | hst
    · have e15 : hoC (en1 C i s z code) i 15 i = 0 := by rw [a2, hst]
      have hr := J_remv h2 hi (Or.inl hst)
      rw [up2_same e15] at hr ⊢
      rw [ite_self]
      split
      · exact hr
      · exact h2
    · have hr := J_remv h2 hi (Or.inr hst)
      obtain ⟨_, b2, _⟩ := a4 (by rw [hst]; decide)
      rw [b2]
      by_cases hc : end6 M (i + 1) code z 6 (i + 1) = 0 ∧ i + 1 ≠ 1
      · rw [if_pos hc, if_pos ⟨hc.1, hne.mpr hc.2⟩]
        exact hr
      · rw [if_neg hc, if_neg (fun q => hc ⟨q.1, hne.mp q.2⟩)]
        exact h2
  unfold endM
  split
  · exact J_scr h3 0 (by decide)
  · exact h3

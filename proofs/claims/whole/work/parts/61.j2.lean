/-! ===== the class beside the reference: single cells ===== -/
theorem J_pr {D : Nat → Int32} {F t : Nat} {T U V W : Int32} {C M C' M' : Nat → Nat → Int32} (h : J F t D T U V W C M) (hC : ∀ a, a ≠ 15 → a ≠ 16 → a ≠ 17 → a ≠ 18 → a ≠ 20 → a ≠ 22 → C' a = C a) (hM : ∀ a, a ≠ 0 → a ≠ 4 → a ≠ 5 → a ≠ 6 → a ≠ 7 → a ≠ 9 → a ≠ 11 → M' a = M a) (h0 : ∀ j, j < 24 → M' 0 j = M 0 j) (hp : ∀ j, j < 8 → PR D C' M' j) (hh : ∀ e, hel M' e = hel M e) (h4 : ∀ q, q ≠ t → M 4 q = 1 → M' 4 q = 1) : J F t D T U V W C' M' := by
  obtain ⟨⟨hF, g0⟩, g1, g2, g3, g4⟩ := h
  have r : ∀ a, a ≠ 15 ∧ a ≠ 16 ∧ a ≠ 17 ∧ a ≠ 18 ∧ a ≠ 20 ∧ a ≠ 22 → C' a = C a := fun a ⟨q1, q2, q3, q4, q5, q6⟩ => hC a q1 q2 q3 q4 q5 q6
  have m : ∀ a, a ≠ 0 ∧ a ≠ 4 ∧ a ≠ 5 ∧ a ≠ 6 ∧ a ≠ 7 ∧ a ≠ 9 ∧ a ≠ 11 → M' a = M a := fun a ⟨q1, q2, q3, q4, q5, q6, q7⟩ => hM a q1 q2 q3 q4 q5 q6 q7
  have c0 := r 0 (by decide)
  refine ⟨⟨hF, R0_c g0 (by rw [c0]) (by rw [c0]) (by rw [c0]) (by rw [c0]) (by rw [c0]) (by rw [c0]) (by rw [c0]) (r _ (by decide)) (r _ (by decide)) (h0 _ (by decide)) (h0 _ (by decide)) (h0 _ (by decide)) (h0 _ (by decide)) (h0 _ (by decide)) (h0 _ (by decide)) (h0 _ (by decide)) (h0 _ (by decide)) (m _ (by decide)) (m _ (by decide))⟩, RM_c g1 (by rw [r 1 (by decide)]) (r _ (by decide)) (r _ (by decide)) (r _ (by decide)) (r _ (by decide)) (m _ (by decide)) (m _ (by decide)) (m _ (by decide)) (m _ (by decide)), hp, fun k hk => RK_c (g3 k hk) (r _ (by decide)) (r _ (by decide)) (r _ (by decide)) (m _ (by decide)) (m _ (by decide)) hh, RW_c g4 (by rw [r 46 (by decide)]) (r _ (by decide)) (h0 _ (by decide)) (m _ (by decide)) h4⟩
theorem J_reg {D : Nat → Int32} {F t : Nat} {T U V W : Int32} {C M : Nat → Nat → Int32} (h : J F t D T U V W C M) {i k : Nat} (hi : i < 8) (hk : k < 32) (v : Int32) (hs : M 4 (i + 1) = 0 ∨ M 4 (i + 1) = 1 ∨ M 4 (i + 1) = 5) : J F t D T U V W (sR C i k v) (setM M (i + 1) k v) := by
  by_cases hk0 : k = 0
  · subst hk0
    have e : setM M (i + 1) 0 v = M := by
      obtain ⟨_, _, g2, _, _⟩ := h
      obtain ⟨_, _, _, _, _, _, a7, _⟩ := g2 i hi
      funext a j
      unfold setM up2
      split
      · rename_i q
        rw [if_pos rfl, q.1, q.2, Nat.add_zero, a7]
      · rfl
    rw [e, show sR C i 0 v = C from if_pos rfl]
    exact h
  · have es : setM M (i + 1) k v = up2 M 9 (32 * (i + 1) + k) v := by rw [setM, if_neg hk0]
    have ec : sR C i k v = up2 C 20 (32 * i + k) v := if_neg hk0
    have g2 := h.2.2.1
    rw [es, ec]
    refine J_pr h (fun a _ _ _ _ q _ => up2_row _ _ _ q) (fun a _ _ _ _ _ q _ => up2_row _ _ _ q) (fun j _ => by rw [up2_row _ _ _ (by decide)]) ?_ (hel_11 (up2_row _ _ _ (by decide))) (fun q _ e => by rw [up2_row _ _ _ (by decide)]; exact e)
    intro j hj
    by_cases hij : j = i
    · subst hij
      obtain ⟨a1, a2, a3, a4, a5, a6, a7, a8, a9, a10⟩ := g2 j hj
      refine ⟨?_, ?_, ?_, ?_, ?_, ?_, ?_, ?_, ?_, ?_⟩
      · rw [up2_row _ _ _ (by decide)]; exact a1
      · rw [up2_row _ _ _ (by decide), up2_row _ _ _ (by decide)]; exact a2
      · rw [up2_row _ _ _ (by decide)]; exact a3
      · rw [up2_row _ _ _ (by decide), up2_row _ _ _ (by decide), up2_row _ _ _ (by decide), up2_row _ _ _ (by decide), up2_row _ _ _ (by decide)]
        intro q
        obtain ⟨b1, b2, b3⟩ := a4 q
        refine ⟨b1, b2, fun k' hk' => ?_⟩
        by_cases hkk : k' = k
        · subst hkk
          rw [up2_at, up2_at]
        · rw [up2_col _ _ _ (by omega), up2_col _ _ _ (by omega)]
          exact b3 k' hk'
      · rw [up2_row _ _ _ (by decide), up2_row _ _ _ (by decide), up2_row _ _ _ (by decide)]; exact a5
      · rw [up2_col _ _ _ (by omega)]; exact a6
      · rw [up2_col _ _ _ (by omega)]; exact a7
      · rw [up2_row _ _ _ (by decide), up2_row _ _ _ (by decide)]; exact a8
      · rw [up2_row _ _ _ (by decide), up2_row _ _ _ (by decide), up2_row _ _ _ (by decide)]; exact a9
      · exact SL_no (by rw [up2_row _ _ _ (by decide)]; exact hs)
    · refine PR_c (g2 j hj) ?_ ?_ ?_ ?_ ?_ ?_ ?_ ?_ ?_ ?_ ?_ ?_ ?_ ?_
      all_goals first | (intro k' hk'; first | rfl | (rw [up2_row _ _ _ (by decide)]) | (rw [up2_col _ _ _ (by omega)])) | (rw [up2_row _ _ _ (by decide)]) | (rw [up2_col _ _ _ (by omega)]) | rfl
theorem J_pc {D D' : Nat → Int32} {F t : Nat} {T U V W : Int32} {C M : Nat → Nat → Int32} (h : J F t D T U V W C M) {i : Nat} (hi : i < 8) {v w : Int32} (hD : ∀ j, j < 8 → j ≠ i → D' j = D j) (hw : w = v + D' i) : J F t D' T U V W (up2 C 16 i w) (up2 M 7 (i + 1) v) := by
  obtain ⟨g0, g1, g2, g3, g4⟩ := h
  have hp : ∀ j, j < 8 → PR D' (up2 C 16 i w) (up2 M 7 (i + 1) v) j := by
    intro j hj
    obtain ⟨a1, a2, a3, a4, a5, a6, a7, a8, a9, a10⟩ := g2 j hj
    refine ⟨?_, ?_, ?_, ?_, ?_, ?_, ?_, ?_, ?_, ?_⟩
    · rw [up2_row _ _ _ (by decide)]; exact a1
    · rw [up2_row _ _ _ (by decide), up2_row _ _ _ (by decide)]; exact a2
    · rw [up2_row _ _ _ (by decide)]; exact a3
    · rw [up2_row (b := 4) _ _ _ (by decide), up2_row (b := 17) _ _ _ (by decide), up2_row (b := 6) _ _ _ (by decide), up2_row (b := 20) _ _ _ (by decide), up2_row (b := 9) _ _ _ (by decide)]
      intro q
      obtain ⟨b1, b2, b3⟩ := a4 q
      refine ⟨?_, b2, b3⟩
      by_cases hij : j = i
      · subst hij
        rw [up2_at, up2_at]
        exact hw
      · rw [up2_col _ _ _ hij, up2_col _ _ _ (by omega), hD j hj hij]
        exact b1
    · rw [up2_row _ _ _ (by decide), up2_row _ _ _ (by decide), up2_row _ _ _ (by decide)]; exact a5
    · rw [up2_row _ _ _ (by decide)]; exact a6
    · rw [up2_row _ _ _ (by decide)]; exact a7
    · rw [up2_row _ _ _ (by decide), up2_row _ _ _ (by decide)]; exact a8
    · rw [up2_row _ _ _ (by decide), up2_row _ _ _ (by decide), up2_row _ _ _ (by decide)]; exact a9
    · exact SL_c a10 (by rw [up2_row _ _ _ (by decide)]) (fun _ _ => by rw [up2_row _ _ _ (by decide)]) (fun _ _ => by rw [up2_row _ _ _ (by decide)])
  have r : ∀ a, a ≠ 16 → up2 C 16 i w a = C a := fun a q => up2_row _ _ _ q
  have m : ∀ a, a ≠ 7 → up2 M 7 (i + 1) v a = M a := fun a q => up2_row _ _ _ q
  refine ⟨⟨g0.1, R0_c g0.2 (by rw [r _ (by decide)]) (by rw [r _ (by decide)]) (by rw [r _ (by decide)]) (by rw [r _ (by decide)]) (by rw [r _ (by decide)]) (by rw [r _ (by decide)]) (by rw [r _ (by decide)]) (r _ (by decide)) (r _ (by decide)) (by rw [m _ (by decide)]) (by rw [m _ (by decide)]) (by rw [m _ (by decide)]) (by rw [m _ (by decide)]) (by rw [m _ (by decide)]) (by rw [m _ (by decide)]) (by rw [m _ (by decide)]) (by rw [m _ (by decide)]) (m _ (by decide)) (m _ (by decide))⟩, RM_c g1 (by rw [r _ (by decide)]) (r _ (by decide)) (r _ (by decide)) (r _ (by decide)) (r _ (by decide)) (m _ (by decide)) (m _ (by decide)) (m _ (by decide)) (m _ (by decide)), hp, fun k hk => RK_c (g3 k hk) (r _ (by decide)) (r _ (by decide)) (r _ (by decide)) (m _ (by decide)) (m _ (by decide)) (hel_11 (m _ (by decide))), RW_c g4 (by rw [r _ (by decide)]) (r _ (by decide)) (by rw [m _ (by decide)]) (m _ (by decide)) (fun q _ e => by rw [m _ (by decide)]; exact e)⟩
/-- the process whose turn it is goes to sleep -/
theorem J_blk {D : Nat → Int32} {F : Nat} {T U V W : Int32} {C M : Nat → Nat → Int32} {i s : Nat} (h : J F (i + 1) D T U V W C M) (hi : i < 8) (hs2 : 2 ≤ s) (hs4 : s ≤ 4) (h1 : M 4 (i + 1) = 1) (hsl : SL (up2 M 4 (i + 1) (nI s)) (i + 1)) : J F (i + 1) D T U V W (up2 C 15 i (nI s)) (up2 M 4 (i + 1) (nI s)) := by
  have g2 := h.2.2.1
  refine J_pr h (fun a q _ _ _ _ _ => up2_row _ _ _ q) (fun a _ q _ _ _ _ _ => up2_row _ _ _ q) (fun j _ => by rw [up2_row _ _ _ (by decide)]) ?_ (hel_11 (up2_row _ _ _ (by decide))) (fun q hq e => by rw [up2_col _ _ _ hq]; exact e)
  intro j hj
  by_cases hij : j = i
  · subst hij
    obtain ⟨a1, a2, a3, a4, a5, a6, a7, a8, a9, a10⟩ := g2 j hj
    have n0 : ¬ nI s = 0 := nI_ne0 (by omega) (by omega)
    have n5 : ¬ nI s = 5 := fun q => by have := (nI_eq (b := 5) (by omega) (by decide)).mp q; omega
    have n1 : M 4 (j + 1) ≠ 0 := by rw [h1]; decide
    refine ⟨?_, ?_, ?_, ?_, ?_, ?_, ?_, ?_, ?_, hsl⟩
    · rw [up2_row _ _ _ (by decide)]; exact a1
    · rw [up2_at, up2_at]
    · rw [up2_at]; exact ⟨s, by omega, rfl⟩
    · intro _
      rw [up2_row _ _ _ (by decide), up2_row _ _ _ (by decide), up2_row _ _ _ (by decide), up2_row _ _ _ (by decide), up2_row _ _ _ (by decide), up2_row _ _ _ (by decide)]
      exact a4 n1
    · rw [up2_at]; exact fun q => absurd q n5
    · rw [up2_row _ _ _ (by decide)]; exact a6
    · rw [up2_row _ _ _ (by decide)]; exact a7
    · rw [up2_row _ _ _ (by decide), up2_row _ _ _ (by decide)]; exact a8
    · rw [up2_at]; exact fun q => q.elim (fun q => absurd q n0) (fun q => absurd q n5)
  · refine PR_c (g2 j hj) ?_ ?_ ?_ ?_ ?_ ?_ ?_ ?_ ?_ ?_ ?_ ?_ ?_ ?_
    all_goals first | (intro k' hk'; first | rfl | (rw [up2_row _ _ _ (by decide)]) | (rw [up2_col _ _ _ (by omega)])) | (rw [up2_row _ _ _ (by decide)]) | (rw [up2_col _ _ _ (by omega)]) | rfl
theorem J_word {D : Nat → Int32} {F t : Nat} {T U V W : Int32} {C M : Nat → Nat → Int32} (h : J F t D T U V W C M) (x : Nat) (v : Int32) : J F t D T U V W (up2 C 2 x v) (up2 M 1 x v) := by
  obtain ⟨⟨hF, g0⟩, g1, g2, g3, g4⟩ := h
  have r : ∀ a, a ≠ 2 → up2 C 2 x v a = C a := fun a q => up2_row _ _ _ q
  have m : ∀ a, a ≠ 1 → up2 M 1 x v a = M a := fun a q => up2_row _ _ _ q
  refine ⟨⟨hF, R0_c g0 (by rw [r _ (by decide)]) (by rw [r _ (by decide)]) (by rw [r _ (by decide)]) (by rw [r _ (by decide)]) (by rw [r _ (by decide)]) (by rw [r _ (by decide)]) (by rw [r _ (by decide)]) (r _ (by decide)) (r _ (by decide)) (by rw [m _ (by decide)]) (by rw [m _ (by decide)]) (by rw [m _ (by decide)]) (by rw [m _ (by decide)]) (by rw [m _ (by decide)]) (by rw [m _ (by decide)]) (by rw [m _ (by decide)]) (by rw [m _ (by decide)]) (m _ (by decide)) (m _ (by decide))⟩, ?_, ?_, fun k hk => RK_c (g3 k hk) (r _ (by decide)) (r _ (by decide)) (r _ (by decide)) (m _ (by decide)) (m _ (by decide)) (hel_11 (m _ (by decide))), RW_c g4 (by rw [r _ (by decide)]) (r _ (by decide)) (by rw [m _ (by decide)]) (m _ (by decide)) (fun q _ e => by rw [m _ (by decide)]; exact e)⟩
  · obtain ⟨b1, b2, b3, b4, b5, b6⟩ := g1
    refine ⟨?_, ?_, ?_, ?_, ?_, ?_⟩
    · rw [r _ (by decide), nfr_2 (M := M) (fun j => by rw [m _ (by decide)])]; exact b1
    · rw [r _ (by decide), m _ (by decide)]; exact b2
    · intro y hy
      by_cases e : y = x
      · subst e
        rw [up2_at, up2_at]
      · rw [up2_col _ _ _ e, up2_col _ _ _ e]
        exact b3 y hy
    · rw [r _ (by decide), r _ (by decide), m _ (by decide), m _ (by decide), m _ (by decide)]; exact b4
    · rw [m _ (by decide), m _ (by decide)]; exact b5
    · rw [m _ (by decide), m _ (by decide), m _ (by decide)]; exact b6
  · intro j hj
    refine PR_c (g2 j hj) ?_ ?_ ?_ ?_ ?_ ?_ ?_ ?_ ?_ ?_ ?_ ?_ ?_ ?_
    all_goals first | (intro k' hk'; first | rfl | (rw [up2_row _ _ _ (by decide)]) | (rw [up2_col _ _ _ (by omega)])) | (rw [up2_row _ _ _ (by decide)]) | (rw [up2_col _ _ _ (by omega)]) | rfl
theorem J_yld {D : Nat → Int32} {F t : Nat} {T U V W : Int32} {C M : Nat → Nat → Int32} (h : J F t D T U V W C M) (v : Int32) : J F t D T U V W (up2 C 0 12 v) (up2 M 0 19 v) := by
  obtain ⟨⟨hF, g0⟩, g1, g2, g3, g4⟩ := h
  have r : ∀ a, a ≠ 0 → up2 C 0 12 v a = C a := fun a q => up2_row _ _ _ q
  have m : ∀ a, a ≠ 0 → up2 M 0 19 v a = M a := fun a q => up2_row _ _ _ q
  refine ⟨⟨hF, ?_⟩, RM_c g1 (by rw [r _ (by decide)]) (r _ (by decide)) (r _ (by decide)) (r _ (by decide)) (r _ (by decide)) (m _ (by decide)) (m _ (by decide)) (m _ (by decide)) (m _ (by decide)), ?_, fun k hk => RK_c (g3 k hk) (r _ (by decide)) (r _ (by decide)) (r _ (by decide)) (m _ (by decide)) (m _ (by decide)) (hel_11 (m _ (by decide))), RW_c g4 (by rw [r _ (by decide)]) (r _ (by decide)) (by rw [up2_col _ _ _ (by decide)]) (m _ (by decide)) (fun q _ e => by rw [m _ (by decide)]; exact e)⟩
  · obtain ⟨b1, b2, b3, b4, b5, b6, b7, b8, b9, b10, b11, b12⟩ := g0
    refine ⟨?_, ?_, ?_, ?_, ?_, ?_, ?_, ?_, ?_, ?_, ?_, ?_⟩
    · rw [up2_col _ _ _ (by decide)]; exact b1
    · rw [up2_col _ _ _ (by decide), up2_col _ _ _ (by decide)]; exact b2
    · rw [up2_col _ _ _ (by decide), up2_col _ _ _ (by decide)]; exact b3
    · rw [r _ (by decide), m _ (by decide)]; exact b4
    · rw [up2_col _ _ _ (by decide), up2_col _ _ _ (by decide)]; exact b5
    · rw [r _ (by decide), m _ (by decide)]; exact b6
    · rw [up2_col _ _ _ (by decide), up2_col _ _ _ (by decide)]; exact b7
    · rw [up2_at, up2_at]
    · rw [up2_col _ _ _ (by decide)]; exact b9
    · rw [up2_col _ _ _ (by decide)]; exact b10
    · rw [up2_col _ _ _ (by decide)]; exact b11
    · rw [up2_col _ _ _ (by decide)]; exact b12
  · intro j hj
    refine PR_c (g2 j hj) ?_ ?_ ?_ ?_ ?_ ?_ ?_ ?_ ?_ ?_ ?_ ?_ ?_ ?_
    all_goals first | (intro k' hk'; first | rfl | (rw [up2_row _ _ _ (by decide)]) | (rw [up2_col _ _ _ (by omega)])) | (rw [up2_row _ _ _ (by decide)]) | (rw [up2_col _ _ _ (by omega)]) | rfl
theorem J_con {D : Nat → Int32} {F t : Nat} {T U V W : Int32} {C M : Nat → Nat → Int32} (h : J F t D T U V W C M) {n : Nat} (hn : n < 200) (v : Int32) : J F t D T U V W (up2 (up2 C 49 n v) 0 8 (nI (n + 1))) (up2 (up2 M 15 n v) 0 22 (nI (n + 1))) := by
  obtain ⟨⟨hF, g0⟩, g1, g2, g3, g4⟩ := h
  have r : ∀ a, a ≠ 0 → a ≠ 49 → up2 (up2 C 49 n v) 0 8 (nI (n + 1)) a = C a := fun a q q2 => by rw [up2_row _ _ _ q, up2_row _ _ _ q2]
  have m : ∀ a, a ≠ 0 → a ≠ 15 → up2 (up2 M 15 n v) 0 22 (nI (n + 1)) a = M a := fun a q q2 => by rw [up2_row _ _ _ q, up2_row _ _ _ q2]
  refine ⟨⟨hF, ?_⟩, RM_c g1 (by rw [r _ (by decide) (by decide)]) (r _ (by decide) (by decide)) (r _ (by decide) (by decide)) (r _ (by decide) (by decide)) (r _ (by decide) (by decide)) (m _ (by decide) (by decide)) (m _ (by decide) (by decide)) (m _ (by decide) (by decide)) (m _ (by decide) (by decide)), ?_, fun k hk => RK_c (g3 k hk) (r _ (by decide) (by decide)) (r _ (by decide) (by decide)) (r _ (by decide) (by decide)) (m _ (by decide) (by decide)) (m _ (by decide) (by decide)) (hel_11 (m _ (by decide) (by decide))), RW_c g4 (by rw [r _ (by decide) (by decide)]) (r _ (by decide) (by decide)) (by rw [up2_col _ _ _ (by decide), up2_row _ _ _ (by decide)]) (m _ (by decide) (by decide)) (fun q _ e => by rw [m _ (by decide) (by decide)]; exact e)⟩
  · obtain ⟨b1, b2, b3, b4, b5, b6, b7, b8, b9, b10, b11, b12⟩ := g0
    have x0 : ∀ j, j ≠ 8 → up2 (up2 C 49 n v) 0 8 (nI (n + 1)) 0 j = C 0 j := fun j q => by rw [up2_col _ _ _ q, up2_row _ _ _ (by decide)]
    have y0 : ∀ j, j ≠ 22 → up2 (up2 M 15 n v) 0 22 (nI (n + 1)) 0 j = M 0 j := fun j q => by rw [up2_col _ _ _ q, up2_row _ _ _ (by decide)]
    refine ⟨?_, ?_, ?_, ?_, ⟨n + 1, by omega, up2_at _ _ _ _, up2_at _ _ _ _⟩, ?_, ?_, ?_, ?_, ?_, ?_, ?_⟩
    · rw [y0 _ (by decide)]; exact b1
    · rw [x0 _ (by decide), y0 _ (by decide)]; exact b2
    · rw [x0 _ (by decide), y0 _ (by decide)]; exact b3
    · rw [r _ (by decide) (by decide), m _ (by decide) (by decide)]; exact b4
    · intro j hj
      rw [up2_row (b := 49) _ _ _ (by decide), up2_row (b := 15) _ _ _ (by decide)]
      by_cases e : j = n
      · subst e
        rw [up2_at, up2_at]
      · rw [up2_col _ _ _ e, up2_col _ _ _ e]
        exact b6 j hj
    · rw [x0 _ (by decide), y0 _ (by decide)]; exact b7
    · rw [x0 _ (by decide), y0 _ (by decide)]; exact b8
    · rw [x0 _ (by decide)]; exact b9
    · rw [x0 _ (by decide)]; exact b10
    · rw [y0 _ (by decide)]; exact b11
    · rw [y0 _ (by decide)]; exact b12
  · intro j hj
    refine PR_c (g2 j hj) ?_ ?_ ?_ ?_ ?_ ?_ ?_ ?_ ?_ ?_ ?_ ?_ ?_ ?_
    all_goals first | (intro k' hk'; first | rw [r _ (by decide) (by decide)] | rw [m _ (by decide) (by decide)]) | (rw [r _ (by decide) (by decide)]) | (rw [m _ (by decide) (by decide)])

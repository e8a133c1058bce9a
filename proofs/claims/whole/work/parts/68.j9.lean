/-! ===== the class beside the reference: descriptors and pipes ===== -/
theorem up2_comm (σ : Nat → Nat → Int32) {a b : Nat} (j j' : Nat) (x y : Int32) (h : a ≠ b) : up2 (up2 σ a j x) b j' y = up2 (up2 σ b j' y) a j x := by
  funext a' k
  simp only [up2]
  by_cases h1 : a' = a ∧ k = j
  · have hb : ¬ (a' = b ∧ k = j') := fun q => h (h1.1.symm.trans q.1)
    rw [if_neg hb, if_pos h1, if_pos h1]
  · rw [if_neg h1, if_neg h1]
theorem upr_comm (σ : Nat → Nat → Int32) {a b : Nat} (j lo n : Nat) (x : Int32) (f : Nat → Int32) (h : a ≠ b) : upr (up2 σ a j x) b lo n f = up2 (upr σ b lo n f) a j x := by
  funext a' k
  simp only [up2, upr]
  by_cases h1 : a' = a ∧ k = j
  · have hb : ¬ (a' = b ∧ lo ≤ k ∧ k < lo + n) := fun q => h (h1.1.symm.trans q.1)
    rw [if_neg hb, if_pos h1, if_pos h1]
  · rw [if_neg h1, if_neg h1]
section HE
variable {D : Nat → Int32} {C M : Nat → Nat → Int32}
theorem he_eq (h : ∀ i, i < 8 → PR D C M i) (e : Int32) : heC C e = hel M e := by
  apply bool_iff
  unfold heC hel
  rw [List.any_eq_true, List.any_eq_true]
  have key : ∀ j, j < 48 → C 22 j = M 11 (6 + j) := fun j hj => by
    have := ((h (j / 6) (by omega)).2.2.2.2.2.2.2.1 (j % 6) (by omega)).1
    rw [show 6 * (j / 6) + j % 6 = j by omega, show 6 * (j / 6 + 1) + j % 6 = 6 + j by omega] at this
    exact this
  constructor
  · rintro ⟨j, hj, he⟩
    exact ⟨j, hj, by rw [← key j (List.mem_range.mp hj)]; exact he⟩
  · rintro ⟨j, hj, he⟩
    exact ⟨j, hj, by rw [key j (List.mem_range.mp hj)]; exact he⟩
theorem eA_eq {i : Nat} (h : PR D C M i) (x : Int32) : eA C i x = dsc M (i + 1) x := by
  unfold eA dsc
  split
  · rename_i hx
    rcases pk_ix x (n := 6) (by decide) with q | q | ⟨k, hk, rfl⟩
    · exact absurd q (Int32.not_lt.mpr hx.1)
    · exact absurd hx.2 (Int32.not_lt.mpr q)
    · rw [nv_nI (by omega), nI_clamp (by omega)]
      exact (h.2.2.2.2.2.2.2.1 k hk).1
  · rfl
theorem edr_neg {x : Int32} (h : edr x) : x < 0 ↔ x = -1 := by
  rcases h with rfl | ⟨e, he, rfl⟩
  · exact ⟨fun _ => rfl, fun _ => by decide⟩
  · exact ⟨fun q => absurd q (nI_pos (by omega)), fun q => absurd q (nI_nm (by omega))⟩
theorem edr_nn {x : Int32} (h : edr x) : 0 ≤ x ↔ x ≠ -1 := by
  exact Int32.not_lt.symm.trans (not_congr (edr_neg h))
theorem ln_eq {i : Nat} (h : PR D C M i) : ∀ n k, k + n ≤ 6 → lnC C i n k = fds M (i + 1) n k
  | 0, k, _ => rfl
  | n + 1, k, hk => by
    obtain ⟨e1, e2⟩ := h.2.2.2.2.2.2.2.1 k (by omega)
    unfold lnC fds
    rw [e1]
    by_cases e : M 11 (6 * (i + 1) + k) = -1
    · rw [if_pos e, if_pos ((edr_neg e2).mpr e)]
    · rw [if_neg e, if_neg (fun q => e ((edr_neg e2).mp q))]
      exact ln_eq h n (k + 1) (by omega)
theorem lf_eq (h : ∀ i, i < 8 → PR D C M i) : ∀ n k, lfC C n k = fps M n k
  | 0, k => rfl
  | n + 1, k => by
    unfold lfC fps frC
    rw [he_eq h, he_eq h, lf_eq h n (k + 1)]
    by_cases e : hel M (nI (1 + 2 * k)) = false ∧ hel M (nI (2 + 2 * k)) = false
    · rw [if_pos e, if_pos (by rw [e.1, e.2]; rfl)]
    · rw [if_neg e, if_neg (fun q => e (by simpa using q))]
end HE
theorem fds_min (M : Nat → Nat → Int32) (p : Nat) : ∀ n k, (fds M p n k < k + n → M 11 (6 * p + fds M p n k) < 0) ∧ ∀ j, k ≤ j → j < fds M p n k → ¬ M 11 (6 * p + j) < 0
  | 0, k => ⟨fun q => absurd q (by unfold fds; omega), fun j h1 h2 => absurd h2 (by unfold fds; omega)⟩
  | n + 1, k => by
    obtain ⟨h1, h2⟩ := fds_min M p n (k + 1)
    unfold fds
    by_cases e : M 11 (6 * p + k) < 0
    · rw [if_pos e]
      exact ⟨fun _ => e, fun j a b => absurd b (by omega)⟩
    · rw [if_neg e]
      refine ⟨fun q => h1 (by omega), fun j a b => ?_⟩
      by_cases ej : j = k
      · rw [ej]; exact e
      · exact h2 j (by omega) b
/-- the second free descriptor is the first behind the first -/
theorem fd2_eq (M : Nat → Nat → Int32) (p : Nat) {l : Nat} (hl : l = fds M p 6 0) (hl6 : l < 6) : fd2 M p = fds M p (6 - (l + 1)) (l + 1) := by
  have key : ∀ n k, k + n = 6 → fds (up2 M 11 (6 * p + l) 99) p n k = if k ≤ l then fds M p (6 - (l + 1)) (l + 1) else fds M p n k := by
    intro n
    induction n with
    | zero =>
      intro k hk
      rw [if_neg (by omega)]
      rfl
    | succ n ih =>
      intro k hk
      show (if up2 M 11 (6 * p + l) 99 11 (6 * p + k) < 0 then k else fds (up2 M 11 (6 * p + l) 99) p n (k + 1)) = _
      rw [ih (k + 1) (by omega)]
      by_cases e : k = l
      · subst e
        rw [up2_at, if_neg (by decide), if_neg (by omega), if_pos (Nat.le_refl _), show 6 - (k + 1) = n by omega]
      · rw [up2_col _ _ _ (by omega)]
        by_cases e2 : k ≤ l
        · have := (fds_min M p 6 0).2 k (by omega) (by rw [← hl]; omega)
          rw [if_neg this, if_pos e2, if_pos (by omega)]
        · rw [if_neg e2, if_neg (show ¬ k + 1 ≤ l by omega)]
          rfl
  rw [fd2, ← hl, key 6 0 rfl, if_pos (Nat.zero_le _)]
theorem J_dk {D : Nat → Int32} {F t i : Nat} {T U V W : Int32} {C M C' M' : Nat → Nat → Int32} (h : J F t D T U V W C M) (hi : i < 8) (h4 : M 4 (i + 1) = 1) (hC : ∀ a, a ≠ 22 → a ≠ 25 → a ≠ 26 → a ≠ 27 → C' a = C a) (hM : ∀ a, a ≠ 11 → a ≠ 13 → a ≠ 14 → M' a = M a) (hk : ∀ k, k < 4 → RK C' M' k) (hd : ∀ d, d < 6 → C' 22 (6 * i + d) = M' 11 (6 * (i + 1) + d) ∧ edr (M' 11 (6 * (i + 1) + d))) (ho : ∀ j, j < 8 → j ≠ i → ∀ d, d < 6 → C' 22 (6 * j + d) = C 22 (6 * j + d) ∧ M' 11 (6 * (j + 1) + d) = M 11 (6 * (j + 1) + d)) : J F t D T U V W C' M' := by
  obtain ⟨⟨hF, g0⟩, g1, g2, g3, g4⟩ := h
  have r : ∀ a, a ≠ 22 ∧ a ≠ 25 ∧ a ≠ 26 ∧ a ≠ 27 → C' a = C a := fun a ⟨x1, x2, x3, x4⟩ => hC a x1 x2 x3 x4
  have m : ∀ a, a ≠ 11 ∧ a ≠ 13 ∧ a ≠ 14 → M' a = M a := fun a ⟨x1, x2, x3⟩ => hM a x1 x2 x3
  have c0 := r 0 (by decide)
  have m0 := m 0 (by decide)
  refine ⟨⟨hF, R0_c g0 (by rw [c0]) (by rw [c0]) (by rw [c0]) (by rw [c0]) (by rw [c0]) (by rw [c0]) (by rw [c0]) (r _ (by decide)) (r _ (by decide)) (by rw [m0]) (by rw [m0]) (by rw [m0]) (by rw [m0]) (by rw [m0]) (by rw [m0]) (by rw [m0]) (by rw [m0]) (m _ (by decide)) (m _ (by decide))⟩, RM_c g1 (by rw [r _ (by decide)]) (r _ (by decide)) (r _ (by decide)) (r _ (by decide)) (r _ (by decide)) (m _ (by decide)) (m _ (by decide)) (m _ (by decide)) (m _ (by decide)), ?_, hk, RW_c g4 (by rw [r _ (by decide)]) (r _ (by decide)) (by rw [m0]) (m _ (by decide)) (fun q _ e => by rw [m _ (by decide)]; exact e)⟩
  intro j hj
  by_cases hij : j = i
  · subst hij
    obtain ⟨a1, a2, a3, a4, a5, a6, a7, a8, a9, a10⟩ := g2 j hj
    refine ⟨by rw [r _ (by decide)]; exact a1, by rw [r _ (by decide), m _ (by decide)]; exact a2, by rw [m _ (by decide)]; exact a3, by rw [r 16 (by decide), r 17 (by decide), r 20 (by decide), m 4 (by decide), m 7 (by decide), m 6 (by decide), m 9 (by decide)]; exact a4, by rw [r 18 (by decide), m 4 (by decide), m 5 (by decide)]; exact a5, by rw [r _ (by decide)]; exact a6, by rw [m _ (by decide)]; exact a7, hd, ?_, SL_no (Or.inr (Or.inl (by rw [m _ (by decide)]; exact h4)))⟩
    rw [m 4 (by decide), h4]
    exact fun q => q.elim (fun q => absurd q (by decide)) (fun q => absurd q (by decide))
  · refine PR_c (g2 j hj) ?_ ?_ ?_ ?_ ?_ ?_ (fun d hd6 => (ho j hj hij d hd6).1) ?_ ?_ ?_ ?_ ?_ ?_ (fun d hd6 => (ho j hj hij d hd6).2)
    all_goals first | (intro k' hk'; first | rw [r _ (by decide)] | rw [m _ (by decide)]) | (rw [r _ (by decide)]) | (rw [m _ (by decide)])
theorem J_close {D : Nat → Int32} {F t i d : Nat} {T U V W : Int32} {C M : Nat → Nat → Int32} (h : J F t D T U V W C M) (hi : i < 8) (hd : d < 6) (h4 : M 4 (i + 1) = 1) : J F t D T U V W (up2 C 22 (6 * i + d) (-1)) (clsM M (i + 1) d) := by
  have g2 := h.2.2.1
  have e11 : clsM M (i + 1) d 11 = up2 M 11 (6 * (i + 1) + d) (-1) 11 := tidy_row _ (by decide)
  refine J_dk h hi h4 (fun a q _ _ _ => up2_row _ _ _ q) (fun a q _ q14 => by rw [clsM, tidy_row _ q14, up2_row _ _ _ q]) ?_ ?_ ?_
  · intro k hk
    refine RK_tidy (N := up2 M 11 (6 * (i + 1) + d) (-1)) (h.2.2.2.1 k hk) hk (up2_row _ _ _ (by decide)) (up2_row _ _ _ (by decide)) (up2_row _ _ _ (by decide)) (by rw [clsM, tidy_row _ (by decide), up2_row _ _ _ (by decide)]) rfl (up2_row _ _ _ (by decide)) (fun e => hel_11 e11 e) ?_
    intro e he hh
    obtain ⟨q, d', q1, q8, hd', ee⟩ := (hel_iff _ _).mp hh
    refine (hel_iff _ _).mpr ⟨q, d', q1, q8, hd', ?_⟩
    by_cases hq : 6 * q + d' = 6 * (i + 1) + d
    · rw [hq, up2_at] at ee
      exact absurd ee.symm he
    · rw [up2_col _ _ _ hq] at ee
      exact ee
  · intro d' hd'
    rw [e11]
    by_cases e : d' = d
    · subst e
      rw [up2_at, up2_at]
      exact ⟨rfl, Or.inl rfl⟩
    · rw [up2_col _ _ _ (by omega), up2_col _ _ _ (by omega)]
      exact (g2 i hi).2.2.2.2.2.2.2.1 d' hd'
  · intro j hj hij d' hd'
    rw [e11, up2_col _ _ _ (by omega), up2_col _ _ _ (by omega)]
    exact ⟨rfl, rfl⟩
theorem J_dup {D : Nat → Int32} {F t i l k0 : Nat} {T U V W : Int32} {C M : Nat → Nat → Int32} (h : J F t D T U V W C M) (hi : i < 8) (hl : l < 6) (hk0 : k0 < 6) (hl1 : M 11 (6 * (i + 1) + l) = -1) (h4 : M 4 (i + 1) = 1) : J F t D T U V W (up2 C 22 (6 * i + l) (M 11 (6 * (i + 1) + k0))) (up2 M 11 (6 * (i + 1) + l) (M 11 (6 * (i + 1) + k0))) := by
  have g2 := h.2.2.1
  refine J_dk h hi h4 (fun a q _ _ _ => up2_row _ _ _ q) (fun a q _ _ => up2_row _ _ _ q) ?_ ?_ ?_
  · intro k hk
    refine RK_c2 hk (h.2.2.2.1 k hk) (up2_row _ _ _ (by decide)) (up2_row _ _ _ (by decide)) (up2_row _ _ _ (by decide)) (up2_row _ _ _ (by decide)) (up2_row _ _ _ (by decide)) ?_
    intro e he
    apply bool_iff
    rw [hel_iff, hel_iff]
    constructor
    · rintro ⟨q, d, q1, q8, hd, ee⟩
      by_cases hq : 6 * q + d = 6 * (i + 1) + l
      · rw [hq, up2_at] at ee
        exact ⟨i + 1, k0, by omega, by omega, hk0, ee⟩
      · rw [up2_col _ _ _ hq] at ee
        exact ⟨q, d, q1, q8, hd, ee⟩
    · rintro ⟨q, d, q1, q8, hd, ee⟩
      refine ⟨q, d, q1, q8, hd, ?_⟩
      rw [up2_col _ _ _ (fun z => by rw [z, hl1] at ee; exact he ee.symm)]
      exact ee
  · intro d' hd'
    by_cases e : d' = l
    · subst e
      rw [up2_at, up2_at]
      exact ⟨rfl, ((g2 i hi).2.2.2.2.2.2.2.1 k0 hk0).2⟩
    · rw [up2_col _ _ _ (by omega), up2_col _ _ _ (by omega)]
      exact (g2 i hi).2.2.2.2.2.2.2.1 d' hd'
  · intro j hj hij d' hd'
    rw [up2_col _ _ _ (by omega), up2_col _ _ _ (by omega)]
    exact ⟨rfl, rfl⟩
theorem J_open {D : Nat → Int32} {F t i l m k0 : Nat} {T U V W : Int32} {C M : Nat → Nat → Int32} (h : J F t D T U V W C M) (hi : i < 8) (hl : l < 6) (hm : m < 6) (hlm : l ≠ m) (hk0 : k0 < 4) (hl1 : M 11 (6 * (i + 1) + l) = -1) (hm1 : M 11 (6 * (i + 1) + m) = -1) (hfr : ¬ pip M k0) (h4 : M 4 (i + 1) = 1) : J F t D T U V W (up2 (up2 (emC C k0) 22 (6 * i + l) (nI (1 + 2 * k0))) 22 (6 * i + m) (nI (2 + 2 * k0))) (up2 (up2 M 11 (6 * (i + 1) + l) (nI (1 + 2 * k0))) 11 (6 * (i + 1) + m) (nI (2 + 2 * k0))) := by
  have g2 := h.2.2.1
  have hem : ∀ a, a ≠ 25 → a ≠ 26 → emC C k0 a = C a := fun a q1 q2 => by rw [emC, up2_row _ _ _ q2, up2_row _ _ _ q1]
  refine J_dk h hi h4 (fun a q q25 q26 _ => by rw [up2_row _ _ _ q, up2_row _ _ _ q, hem a q25 q26]) (fun a q _ _ => by rw [up2_row _ _ _ q, up2_row _ _ _ q]) ?_ ?_ ?_
  · intro k hk
    by_cases ek : k = k0
    · subst ek
      obtain ⟨a, c, h1, h2, h3, h4', h5, h6⟩ := h.2.2.2.1 k hk
      refine ⟨0, 0, by decide, by decide, ?_, ?_, fun _ => ⟨?_, fun j hj => absurd hj (Nat.not_lt_zero _)⟩, fun _ => ?_⟩
      · rw [up2_row _ _ _ (by decide), up2_row _ _ _ (by decide), emC, up2_row _ _ _ (by decide), up2_at]; rfl
      · rw [up2_row _ _ _ (by decide), up2_row _ _ _ (by decide), emC, up2_at]; rfl
      · rw [up2_row _ _ _ (by decide), up2_row _ _ _ (by decide)]; exact h6 hfr
      · rw [up2_row _ _ _ (by decide), up2_row _ _ _ (by decide)]; exact h6 hfr
    · have key : ∀ e : Nat, e ≤ 8 → e ≠ 1 + 2 * k0 → e ≠ 2 + 2 * k0 → hel (up2 (up2 M 11 (6 * (i + 1) + l) (nI (1 + 2 * k0))) 11 (6 * (i + 1) + m) (nI (2 + 2 * k0))) (nI e) = hel M (nI e) := by
        intro e he8 e1 e2
        apply bool_iff
        rw [hel_iff, hel_iff]
        constructor
        · rintro ⟨q, d, q1, q8, hd, ee⟩
          by_cases hq : 6 * q + d = 6 * (i + 1) + m
          · rw [hq, up2_at] at ee
            exact absurd ((nI_eq (by omega) (by omega)).mp ee) (by omega)
          · rw [up2_col _ _ _ hq] at ee
            by_cases hq2 : 6 * q + d = 6 * (i + 1) + l
            · rw [hq2, up2_at] at ee
              exact absurd ((nI_eq (by omega) (by omega)).mp ee) (by omega)
            · rw [up2_col _ _ _ hq2] at ee
              exact ⟨q, d, q1, q8, hd, ee⟩
        · rintro ⟨q, d, q1, q8, hd, ee⟩
          refine ⟨q, d, q1, q8, hd, ?_⟩
          have hne : nI e ≠ -1 := nI_nm (by omega)
          rw [up2_col _ _ _ (fun z => by rw [z, hm1] at ee; exact hne ee.symm), up2_col _ _ _ (fun z => by rw [z, hl1] at ee; exact hne ee.symm)]
          exact ee
      have hk' := h.2.2.2.1 k hk
      unfold RK pip at hk' ⊢
      rw [key (1 + 2 * k) (by omega) (by omega) (by omega), key (2 + 2 * k) (by omega) (by omega) (by omega), up2_row (b := 13) _ _ _ (by decide), up2_row (b := 13) _ _ _ (by decide), up2_row (b := 14) _ _ _ (by decide), up2_row (b := 14) _ _ _ (by decide), up2_row (b := 25) _ _ _ (by decide), up2_row (b := 25) _ _ _ (by decide), up2_row (b := 26) _ _ _ (by decide), up2_row (b := 26) _ _ _ (by decide), up2_row (b := 27) _ _ _ (by decide), up2_row (b := 27) _ _ _ (by decide), emC, up2_row (b := 25) _ _ _ (by decide), up2_col _ _ _ ek, up2_col _ _ _ ek, up2_row (b := 26) _ _ _ (by decide), up2_row (b := 27) _ _ _ (by decide), up2_row (b := 27) _ _ _ (by decide)]
      exact hk'
  · intro d' hd'
    by_cases e : d' = m
    · subst e
      rw [up2_at, up2_at]
      exact ⟨rfl, Or.inr ⟨2 + 2 * k0, by omega, rfl⟩⟩
    · rw [up2_col _ 22 _ (by omega), up2_col _ 11 _ (by omega)]
      by_cases e2 : d' = l
      · subst e2
        rw [up2_at, up2_at]
        exact ⟨rfl, Or.inr ⟨1 + 2 * k0, by omega, rfl⟩⟩
      · rw [up2_col _ _ _ (by omega), up2_col _ _ _ (by omega), hem _ (by decide) (by decide)]
        exact (g2 i hi).2.2.2.2.2.2.2.1 d' hd'
  · intro j hj hij d' hd'
    rw [up2_col _ _ _ (by omega), up2_col _ _ _ (by omega), up2_col _ _ _ (by omega), up2_col _ _ _ (by omega), hem _ (by decide) (by decide)]
    exact ⟨rfl, rfl⟩
theorem J_put {D : Nat → Int32} {F t i k0 a c : Nat} {T U V W b : Int32} {C M : Nat → Nat → Int32} (h : J F t D T U V W C M) (hi : i < 8) (h4 : M 4 (i + 1) = 1) (hk0 : k0 < 4) (hp : pip M k0) (ha : C 25 k0 = nI a) (ha8 : a < 8) (hc : C 26 k0 = nI c) (hc8 : c < 8) : J F t D T U V W (puC C k0 a c b) (up2 (up2 M 13 (8 * k0 + c) b) 14 k0 (nI (c + 1))) := by
  have g2 := h.2.2.1
  have eC : puC C k0 a c b = up2 (up2 C 27 (8 * k0 + (a + c) % 8) b) 26 k0 (nI (c + 1)) := if_pos hc8
  rw [eC]
  have e11 : up2 (up2 M 13 (8 * k0 + c) b) 14 k0 (nI (c + 1)) 11 = M 11 := by rw [up2_row _ _ _ (by decide), up2_row _ _ _ (by decide)]
  refine J_dk h hi h4 (fun a _ _ q26 q27 => by rw [up2_row _ _ _ q26, up2_row _ _ _ q27]) (fun a _ q13 q14 => by rw [up2_row _ _ _ q14, up2_row _ _ _ q13]) ?_ ?_ ?_
  · intro k hk
    obtain ⟨a', c', h1, h2, h3, h4', h5, h6⟩ := h.2.2.2.1 k hk
    have hpip : pip (up2 (up2 M 13 (8 * k0 + c) b) 14 k0 (nI (c + 1))) k ↔ pip M k := by
      unfold pip
      rw [hel_11 e11, hel_11 e11]
    by_cases ek : k = k0
    · subst ek
      have ea : a' = a := (nI_eq (by omega) (by omega)).mp (h3.symm.trans ha)
      have ec : c' = c := (nI_eq (by omega) (by omega)).mp (h4'.symm.trans hc)
      subst ea
      subst ec
      refine ⟨a', c' + 1, h1, by omega, ?_, up2_at _ _ _ _, fun _ => ⟨up2_at _ _ _ _, fun j hj => ?_⟩, fun q => absurd (hpip.mpr hp) q⟩
      · rw [up2_row _ _ _ (by decide), up2_row _ _ _ (by decide)]; exact h3
      · rw [up2_row (b := 27) _ _ _ (by decide), up2_row (b := 13) _ _ _ (by decide)]
        by_cases ej : j = c'
        · subst ej
          rw [up2_at, up2_at]
        · rw [up2_col _ _ _ (by omega), up2_col _ _ _ (by omega)]
          exact (h5 hp).2 j (by omega)
    · refine ⟨a', c', h1, h2, ?_, ?_, fun q => ?_, fun q => ?_⟩
      · rw [up2_row _ _ _ (by decide), up2_row _ _ _ (by decide)]; exact h3
      · rw [up2_col _ _ _ ek, up2_row _ _ _ (by decide)]; exact h4'
      · obtain ⟨x1, x2⟩ := h5 (hpip.mp q)
        refine ⟨by rw [up2_col _ _ _ ek, up2_row _ _ _ (by decide)]; exact x1, fun j hj => ?_⟩
        rw [up2_row (b := 27) _ _ _ (by decide), up2_row (b := 13) _ _ _ (by decide), up2_col _ _ _ (by omega), up2_col _ _ _ (by omega)]
        exact x2 j hj
      · rw [up2_col _ _ _ ek, up2_row _ _ _ (by decide)]
        exact h6 (fun z => q (hpip.mpr z))
  · intro d hd
    rw [e11, up2_row _ _ _ (by decide), up2_row _ _ _ (by decide)]
    exact (g2 i hi).2.2.2.2.2.2.2.1 d hd
  · intro j hj hij d hd
    rw [e11, up2_row _ _ _ (by decide), up2_row _ _ _ (by decide)]
    exact ⟨rfl, rfl⟩
theorem J_tak {D : Nat → Int32} {F t i k0 a c : Nat} {T U V W : Int32} {C M : Nat → Nat → Int32} (h : J F t D T U V W C M) (hi : i < 8) (h4 : M 4 (i + 1) = 1) (hk0 : k0 < 4) (hp : pip M k0) (ha : C 25 k0 = nI a) (ha8 : a < 8) (hc : C 26 k0 = nI c) (hc0 : c ≠ 0) (hc8 : c ≤ 8) : J F t D T U V W (taC C k0 a c) (up2 (upr M 13 (8 * k0) 7 (fun j => M 13 (8 * k0 + j + 1))) 14 k0 (nI (c - 1))) ∧ C 27 (8 * k0 + a) = M 13 (8 * k0) := by
  have g2 := h.2.2.1
  have eC : taC C k0 a c = up2 (up2 C 25 k0 (nI ((a + 1) % 8))) 26 k0 (nI (c - 1)) := if_neg hc0
  rw [eC]
  have e11 : up2 (upr M 13 (8 * k0) 7 (fun j => M 13 (8 * k0 + j + 1))) 14 k0 (nI (c - 1)) 11 = M 11 := by rw [up2_row _ _ _ (by decide), upr_row _ _ _ _ (by decide)]
  refine ⟨J_dk h hi h4 (fun a _ q25 q26 q27 => by rw [up2_row _ _ _ q26, up2_row _ _ _ q25]) (fun a _ q13 q14 => by rw [up2_row _ _ _ q14, upr_row _ _ _ _ q13]) ?_ ?_ ?_, ?_⟩
  · intro k hk
    obtain ⟨a', c', h1, h2, h3, h4', h5, h6⟩ := h.2.2.2.1 k hk
    have hpip : pip (up2 (upr M 13 (8 * k0) 7 (fun j => M 13 (8 * k0 + j + 1))) 14 k0 (nI (c - 1))) k ↔ pip M k := by
      unfold pip
      rw [hel_11 e11, hel_11 e11]
    by_cases ek : k = k0
    · subst ek
      have ea : a' = a := (nI_eq (by omega) (by omega)).mp (h3.symm.trans ha)
      have ec : c' = c := (nI_eq (by omega) (by omega)).mp (h4'.symm.trans hc)
      subst ea
      subst ec
      refine ⟨(a' + 1) % 8, c' - 1, by omega, by omega, ?_, up2_at _ _ _ _, fun _ => ⟨up2_at _ _ _ _, fun j hj => ?_⟩, fun q => absurd (hpip.mpr hp) q⟩
      · rw [up2_row _ _ _ (by decide), up2_at]
      · rw [up2_row (b := 27) _ _ _ (by decide), up2_row (b := 27) _ _ _ (by decide), up2_row (b := 13) _ _ _ (by decide), upr_in _ _ _ (by omega) (by omega), Nat.add_sub_cancel_left]
        have := (h5 hp).2 (j + 1) (by omega)
        rw [show ((a' + 1) % 8 + j) % 8 = (a' + (j + 1)) % 8 by omega]
        exact this
    · refine ⟨a', c', h1, h2, ?_, ?_, fun q => ?_, fun q => ?_⟩
      · rw [up2_row _ _ _ (by decide), up2_col _ _ _ ek]; exact h3
      · rw [up2_col _ _ _ ek, up2_row _ _ _ (by decide)]; exact h4'
      · obtain ⟨x1, x2⟩ := h5 (hpip.mp q)
        refine ⟨by rw [up2_col _ _ _ ek, upr_row _ _ _ _ (by decide)]; exact x1, fun j hj => ?_⟩
        rw [up2_row (b := 27) _ _ _ (by decide), up2_row (b := 27) _ _ _ (by decide), up2_row (b := 13) _ _ _ (by decide), upr_out _ _ _ (by omega)]
        exact x2 j hj
      · rw [up2_col _ _ _ ek, upr_row _ _ _ _ (by decide)]
        exact h6 (fun z => q (hpip.mpr z))
  · intro d hd
    rw [e11, up2_row _ _ _ (by decide), up2_row _ _ _ (by decide)]
    exact (g2 i hi).2.2.2.2.2.2.2.1 d hd
  · intro j hj hij d hd
    rw [e11, up2_row _ _ _ (by decide), up2_row _ _ _ (by decide)]
    exact ⟨rfl, rfl⟩
  · obtain ⟨a', c', h1, h2, h3, h4', h5, h6⟩ := h.2.2.2.1 k0 hk0
    have ea : a' = a := (nI_eq (by omega) (by omega)).mp (h3.symm.trans ha)
    have ec : c' = c := (nI_eq (by omega) (by omega)).mp (h4'.symm.trans hc)
    subst ea
    subst ec
    have := (h5 hp).2 0 (by omega)
    rw [Nat.add_zero, Nat.add_zero, Nat.mod_eq_of_lt h1] at this
    exact this

/-! ===== the class beside the reference ===== -/
theorem up2_row (σ : Nat → Nat → Int32) {a b : Nat} (j : Nat) (x : Int32) (h : b ≠ a) : up2 σ a j x b = σ b := up2_ne σ j x h
theorem up2_at (σ : Nat → Nat → Int32) (a j : Nat) (x : Int32) : up2 σ a j x a j = x := if_pos ⟨rfl, rfl⟩
theorem up2_col (σ : Nat → Nat → Int32) (a : Nat) {j j' : Nat} (x : Int32) (h : j' ≠ j) : up2 σ a j x a j' = σ a j' := if_neg (fun q => h q.2)
theorem upr_row (σ : Nat → Nat → Int32) {a b : Nat} (lo n : Nat) (f : Nat → Int32) (h : b ≠ a) : upr σ a lo n f b = σ b := by
  funext j
  exact upr_ne σ lo n j f h
theorem upr_in (σ : Nat → Nat → Int32) (a : Nat) {lo n j : Nat} (f : Nat → Int32) (h1 : lo ≤ j) (h2 : j < lo + n) : upr σ a lo n f a j = f (j - lo) := if_pos ⟨rfl, h1, h2⟩
theorem upr_out (σ : Nat → Nat → Int32) (a : Nat) {lo n j : Nat} (f : Nat → Int32) (h : j < lo ∨ lo + n ≤ j) : upr σ a lo n f a j = σ a j := if_neg (fun q => by omega)
theorem upl_row (σ : Nat → Nat → Int32) {a b : Nat} (l : List Int32) (h : b ≠ a) : upl σ a l b = σ b := by
  funext j
  exact upl_ne σ l j h
theorem sR_row (C : Nat → Nat → Int32) (i k : Nat) (v : Int32) {b : Nat} (h : b ≠ 20) : sR C i k v b = C b := by
  funext j
  exact sR_ne C i k v j h
theorem setM_row (M : Nat → Nat → Int32) (p k : Nat) (v : Int32) {b : Nat} (h : b ≠ 9) : setM M p k v b = M b := up2_row _ _ _ h
theorem tidy_row (M : Nat → Nat → Int32) {b : Nat} (h : b ≠ 14) : tidy M b = M b := by
  funext j
  exact tidy_at M j h
/-- the misc cells; T U: the class's turn and stepsLeft, V W: the reference's turn and used -/
def R0 (F : Nat) (T U V W : Int32) (C M : Nat → Nat → Int32) : Prop :=
  M 0 0 = nI F ∧ (∃ q, 1 ≤ q ∧ q ≤ 9 ∧ C 0 4 = nI q ∧ M 0 1 = nI q) ∧ (∃ n, n ≤ 64 ∧ C 0 7 = nI n ∧ M 0 4 = nI n) ∧ (∀ j, j < 64 → C 48 j = M 3 j) ∧ (∃ n, n ≤ 200 ∧ C 0 8 = nI n ∧ M 0 22 = nI n) ∧ (∀ j, j < 200 → C 49 j = M 15 j) ∧ C 0 9 = M 0 6 ∧ C 0 12 = M 0 19 ∧ C 0 10 = T ∧ C 0 11 = U ∧ M 0 17 = V ∧ M 0 18 = W
theorem R0_c {F : Nat} {T U V W : Int32} {C M C' M' : Nat → Nat → Int32} (h : R0 F T U V W C M) (c4 : C' 0 4 = C 0 4) (c7 : C' 0 7 = C 0 7) (c8 : C' 0 8 = C 0 8) (c9 : C' 0 9 = C 0 9) (c10 : C' 0 10 = C 0 10) (c11 : C' 0 11 = C 0 11) (c12 : C' 0 12 = C 0 12) (c48 : C' 48 = C 48) (c49 : C' 49 = C 49) (m0 : M' 0 0 = M 0 0) (m1 : M' 0 1 = M 0 1) (m4 : M' 0 4 = M 0 4) (m6 : M' 0 6 = M 0 6) (m17 : M' 0 17 = M 0 17) (m18 : M' 0 18 = M 0 18) (m19 : M' 0 19 = M 0 19) (m22 : M' 0 22 = M 0 22) (m3 : M' 3 = M 3) (m15 : M' 15 = M 15) : R0 F T U V W C' M' := by
  unfold R0 at h ⊢
  rw [c4, c7, c8, c9, c10, c11, c12, c48, c49, m0, m1, m4, m6, m17, m18, m19, m22, m3, m15]
  exact h
/-- the frames -/
def RM (F : Nat) (C M : Nat → Nat → Int32) : Prop :=
  C 1 2 = nI (nfr M F) ∧ (∀ f, f < F → (C 3 f = 0 ↔ M 2 f = 0)) ∧ (∀ x, x < 16 * F → C 2 x = M 1 x) ∧
  (∀ i, i < 8 → ∃ s, s ≤ 8 ∧ C 14 i = nI s ∧ M 8 (i + 1) = nI s ∧ ∀ k, k < s → ∃ f, f < F ∧ C 21 (8 * i + k) = nI f ∧ M 10 (8 * (i + 1) + k) = nI f ∧ M 2 f = nI (i + 1)) ∧
  (∀ i, i < 8 → ∀ k k', k < k' → k' < nv (M 8 (i + 1)) → M 10 (8 * (i + 1) + k) ≠ M 10 (8 * (i + 1) + k')) ∧
  (∀ f, f < F → M 2 f = 0 ∨ ∃ i k, i < 8 ∧ k < nv (M 8 (i + 1)) ∧ M 2 f = nI (i + 1) ∧ M 10 (8 * (i + 1) + k) = nI f)
theorem RM_c {F : Nat} {C M C' M' : Nat → Nat → Int32} (h : RM F C M) (c1 : C' 1 2 = C 1 2) (c2 : C' 2 = C 2) (c3 : C' 3 = C 3) (c14 : C' 14 = C 14) (c21 : C' 21 = C 21) (m1 : M' 1 = M 1) (m2 : M' 2 = M 2) (m8 : M' 8 = M 8) (m10 : M' 10 = M 10) : RM F C' M' := by
  unfold RM at h ⊢
  rw [c1, c2, c3, c14, c21, m1, m2, m8, m10, nfr_2 (M := M) (M' := M') (fun j => by rw [m2])]
  exact h
/-- what a sleeper waits for stands in its registers -/
def SL (M : Nat → Nat → Int32) (p : Nat) : Prop := (M 4 p = 2 → M 9 (32 * p + 17) = 7 ∧ ∃ k, k < 4 ∧ dsc M p (M 9 (32 * p + 10)) = nI (1 + 2 * k)) ∧ (M 4 p = 3 → M 9 (32 * p + 17) = 6 ∧ ∃ k, k < 4 ∧ dsc M p (M 9 (32 * p + 10)) = nI (2 + 2 * k)) ∧ (M 4 p = 4 → M 9 (32 * p + 17) = 4)
theorem dsc_c {M M' : Nat → Nat → Int32} {p : Nat} (h : ∀ d, d < 6 → M' 11 (6 * p + d) = M 11 (6 * p + d)) (x : Int32) : dsc M' p x = dsc M p x := by
  unfold dsc
  split
  · rename_i hx
    rcases pk_ix x (n := 6) (by decide) with q | q | ⟨k, hk, rfl⟩
    · exact absurd q (Int32.not_lt.mpr hx.1)
    · exact absurd hx.2 (Int32.not_lt.mpr q)
    · rw [nI_clamp (by omega)]
      exact h k hk
  · rfl
theorem SL_c {M M' : Nat → Nat → Int32} {p : Nat} (h : SL M p) (m4 : M' 4 p = M 4 p) (m9 : ∀ k, k < 32 → M' 9 (32 * p + k) = M 9 (32 * p + k)) (m11 : ∀ d, d < 6 → M' 11 (6 * p + d) = M 11 (6 * p + d)) : SL M' p := by
  unfold SL at h ⊢
  rw [m4, m9 17 (by decide), m9 10 (by decide), dsc_c m11]
  exact h
theorem SL_no {M : Nat → Nat → Int32} {p : Nat} (h : M 4 p = 0 ∨ M 4 p = 1 ∨ M 4 p = 5) : SL M p := by
  rcases h with h | h | h <;> exact ⟨fun q => absurd (h.symm.trans q) (by decide), fun q => absurd (h.symm.trans q) (by decide), fun q => absurd (h.symm.trans q) (by decide)⟩
/-- a process -/
def PR (D : Nat → Int32) (C M : Nat → Nat → Int32) (i : Nat) : Prop :=
  C 10 i = nI (i + 1) ∧ C 15 i = M 4 (i + 1) ∧ (∃ s, s ≤ 5 ∧ M 4 (i + 1) = nI s) ∧
  (M 4 (i + 1) ≠ 0 → C 16 i = M 7 (i + 1) + D i ∧ C 17 i = M 6 (i + 1) ∧ ∀ k, k < 32 → C 20 (32 * i + k) = M 9 (32 * (i + 1) + k)) ∧
  (M 4 (i + 1) = 5 → C 18 i = M 5 (i + 1)) ∧ C 20 (32 * i) = 0 ∧ M 9 (32 * (i + 1)) = 0 ∧
  (∀ d, d < 6 → C 22 (6 * i + d) = M 11 (6 * (i + 1) + d) ∧ edr (M 11 (6 * (i + 1) + d))) ∧
  (M 4 (i + 1) = 0 ∨ M 4 (i + 1) = 5 → M 8 (i + 1) = 0 ∧ ∀ d, d < 6 → M 11 (6 * (i + 1) + d) = -1) ∧ SL M (i + 1)
theorem PR_c {D : Nat → Int32} {C M C' M' : Nat → Nat → Int32} {i : Nat} (h : PR D C M i) (c10 : C' 10 i = C 10 i) (c15 : C' 15 i = C 15 i) (c16 : C' 16 i = C 16 i) (c17 : C' 17 i = C 17 i) (c18 : C' 18 i = C 18 i) (c20 : ∀ k, k < 32 → C' 20 (32 * i + k) = C 20 (32 * i + k)) (c22 : ∀ d, d < 6 → C' 22 (6 * i + d) = C 22 (6 * i + d)) (m4 : M' 4 (i + 1) = M 4 (i + 1)) (m5 : M' 5 (i + 1) = M 5 (i + 1)) (m6 : M' 6 (i + 1) = M 6 (i + 1)) (m7 : M' 7 (i + 1) = M 7 (i + 1)) (m8 : M' 8 (i + 1) = M 8 (i + 1)) (m9 : ∀ k, k < 32 → M' 9 (32 * (i + 1) + k) = M 9 (32 * (i + 1) + k)) (m11 : ∀ d, d < 6 → M' 11 (6 * (i + 1) + d) = M 11 (6 * (i + 1) + d)) : PR D C' M' i := by
  obtain ⟨a1, a2, a3, a4, a5, a6, a7, a8, a9, a10⟩ := h
  have z20 := c20 0 (by decide)
  have z9 := m9 0 (by decide)
  rw [Nat.add_zero] at z20 z9
  refine ⟨by rw [c10]; exact a1, by rw [c15, m4]; exact a2, by rw [m4]; exact a3, ?_, by rw [m4, c18, m5]; exact a5, by rw [z20]; exact a6, by rw [z9]; exact a7, ?_, ?_, SL_c a10 m4 m9 m11⟩
  · rw [m4, c16, c17, m7, m6]
    intro q
    obtain ⟨b1, b2, b3⟩ := a4 q
    exact ⟨b1, b2, fun k hk => by rw [c20 k hk, m9 k hk]; exact b3 k hk⟩
  · intro d hd
    rw [c22 d hd, m11 d hd]
    exact a8 d hd
  · rw [m4, m8]
    intro q
    obtain ⟨b1, b2⟩ := a9 q
    exact ⟨b1, fun d hd => by rw [m11 d hd]; exact b2 d hd⟩
def pip (M : Nat → Nat → Int32) (k : Nat) : Prop := hel M (nI (1 + 2 * k)) = true ∨ hel M (nI (2 + 2 * k)) = true
/-- a pipe -/
def RK (C M : Nat → Nat → Int32) (k : Nat) : Prop := ∃ a c, a < 8 ∧ c ≤ 8 ∧ C 25 k = nI a ∧ C 26 k = nI c ∧ (pip M k → M 14 k = nI c ∧ ∀ j, j < c → C 27 (8 * k + (a + j) % 8) = M 13 (8 * k + j)) ∧ (¬ pip M k → M 14 k = 0)
theorem RK_c {C M C' M' : Nat → Nat → Int32} {k : Nat} (h : RK C M k) (c25 : C' 25 = C 25) (c26 : C' 26 = C 26) (c27 : C' 27 = C 27) (m13 : M' 13 = M 13) (m14 : M' 14 = M 14) (m11 : ∀ e, hel M' e = hel M e) : RK C' M' k := by
  unfold RK pip at h ⊢
  rw [c25, c26, c27, m13, m14, m11, m11]
  exact h
/-- the row; t: the process whose turn it is, or 0 -/
def RW (t : Nat) (C M : Nat → Nat → Int32) : Prop := ∃ L : List Int32, L.length ≤ 8 ∧ C 46 1 = nI L.length ∧ M 0 15 = nI L.length ∧ (List.range L.length).map (C 47) = L ∧ (List.range L.length).map (M 12) = L ∧ L.Nodup ∧ ∀ x, x ∈ L → ∃ q, 1 ≤ q ∧ q ≤ 8 ∧ q ≠ t ∧ x = nI q ∧ M 4 q = 1
theorem RW_c {t : Nat} {C M C' M' : Nat → Nat → Int32} (h : RW t C M) (c46 : C' 46 1 = C 46 1) (c47 : C' 47 = C 47) (m15 : M' 0 15 = M 0 15) (m12 : M' 12 = M 12) (m4 : ∀ q, q ≠ t → M 4 q = 1 → M' 4 q = 1) : RW t C' M' := by
  obtain ⟨L, h1, h2, h3, h4, h5, h6, h7⟩ := h
  refine ⟨L, h1, by rw [c46]; exact h2, by rw [m15]; exact h3, by rw [c47]; exact h4, by rw [m12]; exact h5, h6, fun x hx => ?_⟩
  obtain ⟨q, a, b, c, d, e⟩ := h7 x hx
  exact ⟨q, a, b, c, d, m4 q c e⟩
/-- all of it -/
def J (F t : Nat) (D : Nat → Int32) (T U V W : Int32) (C M : Nat → Nat → Int32) : Prop := (F ≤ 40 ∧ R0 F T U V W C M) ∧ RM F C M ∧ (∀ i, i < 8 → PR D C M i) ∧ (∀ k, k < 4 → RK C M k) ∧ RW t C M

theorem hel_11 {M M' : Nat → Nat → Int32} (h : M' 11 = M 11) (e : Int32) : hel M' e = hel M e := hel_congr (fun j _ => by rw [h]) e
theorem J_scr {D : Nat → Int32} {F t : Nat} {T U V W : Int32} {C M : Nat → Nat → Int32} (h : J F t D T U V W C M) {j : Nat} (v : Int32) (hj : 24 ≤ j) : J F t D T U V W C (up2 M 0 j v) := by
  obtain ⟨⟨hF, h0⟩, h1, h2, h3, h4⟩ := h
  have e : ∀ x, x < 24 → up2 M 0 j v 0 x = M 0 x := fun x hx => up2_col M 0 v (by omega)
  have r : ∀ a, a ≠ 0 → up2 M 0 j v a = M a := fun a ha => up2_row M j v ha
  refine ⟨⟨hF, R0_c h0 rfl rfl rfl rfl rfl rfl rfl rfl rfl (e _ (by decide)) (e _ (by decide)) (e _ (by decide)) (e _ (by decide)) (e _ (by decide)) (e _ (by decide)) (e _ (by decide)) (e _ (by decide)) (r _ (by decide)) (r _ (by decide))⟩, RM_c h1 rfl rfl rfl rfl rfl (r _ (by decide)) (r _ (by decide)) (r _ (by decide)) (r _ (by decide)), fun i hi => PR_c (h2 i hi) rfl rfl rfl rfl rfl (fun _ _ => rfl) (fun _ _ => rfl) (by rw [r _ (by decide)]) (by rw [r _ (by decide)]) (by rw [r _ (by decide)]) (by rw [r _ (by decide)]) (by rw [r _ (by decide)]) (fun _ _ => by rw [r _ (by decide)]) (fun _ _ => by rw [r _ (by decide)]), fun k hk => RK_c (h3 k hk) rfl rfl rfl (r _ (by decide)) (r _ (by decide)) (hel_11 (r _ (by decide))), RW_c h4 rfl rfl (e _ (by decide)) (r _ (by decide)) (fun q _ e4 => by rw [r _ (by decide)]; exact e4)⟩


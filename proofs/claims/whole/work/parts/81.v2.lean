/-! ===== boot, on both sides ===== -/
theorem bt_all {M : Nat → Nat → Int32} {n nd : Nat} (h8 : M 8 1 = 0) (hall : ∀ f, f < nd → M 2 f = 0) (hnd : nd ≤ 8) : ∀ k, k ≤ nd → (∀ x, btp M n k 1 x = if x < 16 * k then (if x < n then M 3 x else 0) else M 1 x) ∧ (∀ x, gro M 1 k 1 x = if x < 16 * k then 0 else M 1 x) ∧ (∀ f, gro M 1 k 2 f = if f < k then 1 else M 2 f) ∧ btp M n k 2 = gro M 1 k 2 ∧ btp M n k 8 = gro M 1 k 8 ∧ btp M n k 10 = gro M 1 k 10 ∧ gro M 1 k 8 1 = nI k ∧ (∀ j, j < k → gro M 1 k 10 (8 + j) = nI j)
  | 0, _ => ⟨fun x => by rw [if_neg (by omega)]; rfl, fun x => by rw [if_neg (by omega)]; rfl, fun f => by rw [if_neg (by omega)]; rfl, rfl, rfl, rfl, h8, fun j hj => by omega⟩
  | k + 1, hk => by
    obtain ⟨i1, i2, i3, i4, i5, i6, i7, i8⟩ := bt_all (n := n) h8 hall hnd k (by omega)
    have n2 : ∀ f, f < k → gro M 1 k 2 f ≠ 0 := fun f hf => by rw [i3 f, if_pos hf]; decide
    have z2 : gro M 1 k 2 k = 0 := by rw [i3 k, if_neg (by omega)]; exact hall k (by omega)
    have fg : ff (gro M 1 k) = k := ff_eq (by omega) n2 z2
    have fb : ff (btp M n k) = k := ff_eq (by omega) (by rw [i4]; exact n2) (by rw [i4]; exact z2)
    have eg : gro M 1 (k + 1) = groM (gro M 1 k) 1 := rfl
    have eb : ∀ b, b ≠ 1 → btp M n (k + 1) b = groM (btp M n k) 1 b := fun b hb => by rw [btp, upr_row _ _ _ _ hb]
    refine ⟨fun x => ?_, fun x => ?_, fun f => ?_, ?_, ?_, ?_, ?_, fun j hj => ?_⟩
    · rw [btp, fb]
      by_cases c1 : 16 * k ≤ x ∧ x < 16 * k + min 16 (n - 16 * k)
      · rw [upr_in _ _ _ c1.1 c1.2, if_pos (by omega), if_pos (by omega)]
        show M 3 (16 * k + (x - 16 * k)) = M 3 x
        rw [show 16 * k + (x - 16 * k) = x by omega]
      · rw [upr_out _ _ _ (by omega), groM_1, fb, i1]
        by_cases c2 : x / 16 = k
        · rw [if_pos c2, if_pos (by omega), if_neg (by omega)]
        · rw [if_neg c2]
          by_cases c3 : x < 16 * k
          · rw [if_pos c3, if_pos (show x < 16 * (k + 1) by omega)]
          · rw [if_neg c3, if_neg (by omega)]
    · rw [eg, groM_1, fg, i2]
      by_cases c2 : x / 16 = k
      · rw [if_pos c2, if_pos (by omega)]
      · rw [if_neg c2]
        by_cases c3 : x < 16 * k
        · rw [if_pos c3, if_pos (by omega)]
        · rw [if_neg c3, if_neg (by omega)]
    · rw [eg, groM_2, fg, i3]
      by_cases c2 : f = k
      · rw [if_pos c2, if_pos (by omega)]
        rfl
      · rw [if_neg c2]
        by_cases c3 : f < k
        · rw [if_pos c3, if_pos (by omega)]
        · rw [if_neg c3, if_neg (by omega)]
    · rw [eb 2 (by decide), eg, groM_2r, groM_2r, fb, fg]
      exact up2_rw i4 _ _
    · rw [eb 8 (by decide), eg, groM_8r, groM_8r, i5]
      exact up2_rw i5 _ _
    · rw [eb 10 (by decide), eg, groM_10r, groM_10r, fb, fg, i5]
      exact up2_rw i6 _ _
    · rw [eg]
      exact groM_8 i7 (by omega)
    · rw [eg, groM_10r, fg, i7, nv_nI (by omega)]
      by_cases c : j = k
      · rw [c, show 8 + k = 8 * 1 + k by omega, up2_at]
      · rw [up2_col _ _ _ (by omega)]
        exact i8 j (by omega)
theorem nfr_full {M : Nat → Nat → Int32} : ∀ n, nfr M n = n → ∀ f, f < n → M 2 f = 0
  | 0, _, _, hf => absurd hf (by omega)
  | n + 1, h, f, hf => by
    rw [nfr] at h
    have hle := nfr_le M n
    by_cases h0 : M 2 n = 0
    · rw [if_pos h0] at h
      rcases (by omega : f < n ∨ f = n) with q | q
      · exact nfr_full n (by omega) f q
      · rw [q]; exact h0
    · rw [if_neg h0] at h
      omega
theorem cpr_2 {C : Nat → Nat → Int32} {nd : Nat} (h : ∀ j, j < nd → C 21 j = nI j) (hnd : nd ≤ 8) (x : Nat) : ∀ k, k ≤ 16 * nd → cpr C 0 k 2 x = if x < k then C 48 x else C 2 x
  | 0, _ => by rw [if_neg (by omega)]; rfl
  | k + 1, hk => by
    have e : 16 * nv (C 21 (8 * 0 + k / 16)) + k % 16 = k := by
      rw [show 8 * 0 + k / 16 = k / 16 by omega, h _ (by omega), nv_nI (by omega)]
      omega
    rw [cpr, e]
    by_cases c : x = k
    · rw [c, up2_at, if_pos (by omega)]
    · rw [up2_col _ _ _ c, cpr_2 h hnd x k (by omega)]
      by_cases c2 : x < k
      · rw [if_pos c2, if_pos (by omega)]
      · rw [if_neg c2, if_neg (by omega)]
section BOOT
variable {F n nd : Nat} {U W : Int32} {C M : Nat → Nat → Int32}
theorem bt_mem (h : J F 0 D0 0 U 0 W C M) (hf : FR F C M) (hnd : nd ≤ 8) (hF : nd ≤ F) : C 14 0 = 0 ∧ M 8 1 = 0 ∧ RM F (gvC 0 nd F (up2 C 0 9 1) 0 0 0) (gro (up2 M 0 6 1) 1 nd) ∧ gvC 0 nd F (up2 C 0 9 1) 0 0 0 14 0 = nI nd ∧ ∀ k, k < nd → gvC 0 nd F (up2 C 0 9 1) 0 0 0 21 k = nI k := by
  obtain ⟨f1, f2, _⟩ := hf
  have h40 := h.1.1
  have h8 : M 8 1 = 0 := ((h.2.2.1 0 (by decide)).2.2.2.2.2.2.2.2.1 (Or.inl (f1 0 (by decide)))).1
  obtain ⟨s, hs, e1, e2, _⟩ := h.2.1.2.2.2.1 0 (by decide)
  have es : s = 0 := (nI_eq (b := 0) (by omega) (by decide)).mp (e2.symm.trans h8)
  subst es
  have h14 : C 14 0 = 0 := e1
  have hM : RM F (up2 C 0 9 1) (up2 M 0 6 1) := RM_c h.2.1 (by rw [up2_row _ _ _ (by decide)]) (up2_row _ _ _ (by decide)) (up2_row _ _ _ (by decide)) (up2_row _ _ _ (by decide)) (up2_row _ _ _ (by decide)) (up2_row _ _ _ (by decide)) (up2_row _ _ _ (by decide)) (up2_row _ _ _ (by decide)) (up2_row _ _ _ (by decide))
  have en : nfr (up2 M 0 6 1) F = F := by rw [nfr_2 (M := M) (fun j => by rw [up2_row _ _ _ (by decide)])]; exact f2
  have hG := RM_gvC (more := nd) h40 (i := 0) (by decide) F (up2 C 0 9 1) (up2 M 0 6 1) 0 0 0 (by omega) hM (by rw [up2_row _ _ _ (by decide)]; exact h14) (fun f hf => by omega) (by omega) (by omega) (by omega)
  have hG : RM F (gvC 0 nd F (up2 C 0 9 1) 0 0 0) (gro (up2 M 0 6 1) 1 nd) := hG
  obtain ⟨_, _, _, _, _, _, i7, i8⟩ := bt_all (M := up2 M 0 6 1) (n := 0) (nd := nd) (by rw [up2_row _ _ _ (by decide)]; exact h8) (fun f hf => by rw [up2_row _ _ _ (by decide)]; exact nfr_full F f2 f (by omega)) hnd nd (Nat.le_refl _)
  obtain ⟨s, hs, g1, g2, hp⟩ := hG.2.2.2.1 0 (by decide)
  have es : s = nd := (nI_eq (by omega) (by omega)).mp (g2.symm.trans i7)
  subst es
  refine ⟨h14, h8, hG, g1, fun k hk => ?_⟩
  obtain ⟨f, hf, p1, p2, _⟩ := hp k hk
  have p1' : gvC 0 s F (up2 C 0 9 1) 0 0 0 21 k = nI f := by rw [show 8 * 0 + k = k by omega] at p1; exact p1
  have p2' : gro (up2 M 0 6 1) 1 s 10 (8 + k) = nI f := by rw [show 8 * (0 + 1) + k = 8 + k by omega] at p2; exact p2
  rw [p1', ← p2']
  exact i8 k hk
theorem J_boot (h : J F 0 D0 0 U 0 W C M) (hf : FR F C M) (hn64 : n ≤ 64) (hnd : nd = (n + 15) / 16 + 1) (hF : nd ≤ F) : J F 0 D0 0 U 0 W (mrC (up2 (sR (cpr (gvC 0 nd F (up2 C 0 9 1) 0 0 0) 0 n) 0 2 (nI (64 * nd))) 22 1 0) 0 0) (botM M n nd) := by
  obtain ⟨h14, h8, hG, g14, g21⟩ := bt_mem (nd := nd) h hf (by omega) hF
  obtain ⟨f1, f2, f3, f4, f5, f6, f7, f8, f9⟩ := hf
  obtain ⟨⟨h40, g0⟩, _, g2, g3, g4⟩ := h
  obtain ⟨b1, b2, b3, b4, b5, b6, b7, b8, b9, b10, b11, b12⟩ := g0
  obtain ⟨i1, i2, i3, i4, i5, i6, i7, i8⟩ := bt_all (M := up2 M 0 6 1) (n := n) (nd := nd) (by rw [up2_row _ _ _ (by decide)]; exact h8) (fun f hf => by rw [up2_row _ _ _ (by decide)]; exact nfr_full F f2 f (by omega)) (by omega) nd (Nat.le_refl _)
  obtain ⟨CG, eCG⟩ : ∃ CG, CG = gvC 0 nd F (up2 C 0 9 1) 0 0 0 := ⟨_, rfl⟩
  obtain ⟨v, ev⟩ : ∃ v, v = nI (64 * nd) := ⟨_, rfl⟩
  obtain ⟨B, eB⟩ : ∃ B, B = btp (up2 M 0 6 1) n nd := ⟨_, rfl⟩
  rw [botM, ← eCG, ← ev, ← eB]
  rw [← eCG] at hG g14 g21
  rw [← eB] at i1 i4 i5 i6
  have cg : ∀ b, b ≠ 1 → b ≠ 2 → b ≠ 3 → b ≠ 14 → b ≠ 21 → CG b = up2 C 0 9 1 b := fun b q1 q2 q3 q4 q5 => by rw [eCG, gvC_row _ _ _ _ _ _ _ q1 q2 q3 q4 q5]
  have cp : ∀ b, b ≠ 2 → cpr CG 0 n b = CG b := fun b q => by
    funext x
    exact cpr_ne CG 0 x q n
  have eX : mrC (up2 (sR (cpr CG 0 n) 0 2 v) 22 1 0) 0 0 = up2 (up2 (up2 (up2 (up2 (cpr CG 0 n) 20 2 v) 22 1 0) 15 0 1) 47 0 (nI 1)) 46 1 (nI 1) := by
    rw [mrC, apC, if_pos (by decide)]
    have e10 : up2 (sR (cpr CG 0 n) 0 2 v) 22 1 0 10 0 = nI 1 := by
      rw [up2_row _ _ _ (by decide), sR_row _ _ _ _ (by decide), cp _ (by decide), cg _ (by decide) (by decide) (by decide) (by decide) (by decide), up2_row _ _ _ (by decide)]
      exact (g2 0 (by decide)).1
    rw [e10]
    rfl
  obtain ⟨X, hX⟩ : ∃ X, X = mrC (up2 (sR (cpr CG 0 n) 0 2 v) 22 1 0) 0 0 := ⟨_, rfl⟩
  obtain ⟨Y, hY⟩ : ∃ Y, Y = wakM (up2 (up2 B 9 34 v) 11 7 0) 1 0 := ⟨_, rfl⟩
  rw [← hX, ← hY]
  rw [← hX] at eX
  have xr : ∀ b, b ≠ 0 ∧ b ≠ 1 ∧ b ≠ 2 ∧ b ≠ 3 ∧ b ≠ 14 ∧ b ≠ 15 ∧ b ≠ 20 ∧ b ≠ 21 ∧ b ≠ 22 ∧ b ≠ 46 ∧ b ≠ 47 → X b = C b := fun b ⟨q0, q1, q2, q3, q14, q15, q20, q21, q22, q46, q47⟩ => by
    rw [eX, up2_row _ _ _ q46, up2_row _ _ _ q47, up2_row _ _ _ q15, up2_row _ _ _ q22, up2_row _ _ _ q20, cp _ q2, cg _ q1 q2 q3 q14 q21, up2_row _ _ _ q0]
  have xg : ∀ b, b ≠ 2 ∧ b ≠ 15 ∧ b ≠ 20 ∧ b ≠ 22 ∧ b ≠ 46 ∧ b ≠ 47 → X b = CG b := fun b ⟨q2, q15, q20, q22, q46, q47⟩ => by
    rw [eX, up2_row _ _ _ q46, up2_row _ _ _ q47, up2_row _ _ _ q15, up2_row _ _ _ q22, up2_row _ _ _ q20, cp _ q2]
  have x0 : X 0 = up2 C 0 9 1 0 := by rw [xg _ (by decide), cg _ (by decide) (by decide) (by decide) (by decide) (by decide)]
  have x0n : ∀ j, j ≠ 9 → X 0 j = C 0 j := fun j q => by rw [x0, up2_col _ _ _ q]
  have x2 : X 2 = cpr CG 0 n 2 := by rw [eX, up2_row _ _ _ (by decide), up2_row _ _ _ (by decide), up2_row _ _ _ (by decide), up2_row _ _ _ (by decide), up2_row _ _ _ (by decide)]
  have x15 : X 15 = up2 C 15 0 1 15 := by
    rw [eX, up2_row _ _ _ (by decide), up2_row _ _ _ (by decide)]
    refine up2_rw ?_ _ _
    rw [up2_row _ _ _ (by decide), up2_row _ _ _ (by decide), cp _ (by decide), cg _ (by decide) (by decide) (by decide) (by decide) (by decide), up2_row _ _ _ (by decide)]
  have x20 : X 20 = up2 C 20 2 v 20 := by
    rw [eX, up2_row _ _ _ (by decide), up2_row _ _ _ (by decide), up2_row _ _ _ (by decide), up2_row _ _ _ (by decide)]
    refine up2_rw ?_ _ _
    rw [cp _ (by decide), cg _ (by decide) (by decide) (by decide) (by decide) (by decide), up2_row _ _ _ (by decide)]
  have x22 : X 22 = up2 C 22 1 0 22 := by
    rw [eX, up2_row _ _ _ (by decide), up2_row _ _ _ (by decide), up2_row _ _ _ (by decide)]
    refine up2_rw ?_ _ _
    rw [up2_row _ _ _ (by decide), cp _ (by decide), cg _ (by decide) (by decide) (by decide) (by decide) (by decide), up2_row _ _ _ (by decide)]
  have x46 : X 46 1 = nI 1 := by rw [eX, up2_at]
  have x47 : X 47 0 = nI 1 := by rw [eX, up2_row _ _ _ (by decide), up2_at]
  have br : ∀ b, b ≠ 1 → b ≠ 2 → b ≠ 8 → b ≠ 10 → B b = up2 M 0 6 1 b := fun b q1 q2 q8 q10 => by
    rw [eB]
    funext x
    exact btp_ne _ n x q1 q2 q8 q10 nd
  have eY : Y = up2 (up2 (up2 (up2 (up2 B 9 34 v) 11 7 0) 4 1 1) 12 0 (nI 1)) 0 15 (nI 1) := hY
  have yr : ∀ b, b ≠ 0 ∧ b ≠ 1 ∧ b ≠ 2 ∧ b ≠ 4 ∧ b ≠ 8 ∧ b ≠ 9 ∧ b ≠ 10 ∧ b ≠ 11 ∧ b ≠ 12 → Y b = M b := fun b ⟨q0, q1, q2, q4, q8, q9, q10, q11, q12⟩ => by
    rw [eY, up2_row _ _ _ q0, up2_row _ _ _ q12, up2_row _ _ _ q4, up2_row _ _ _ q11, up2_row _ _ _ q9, br _ q1 q2 q8 q10, up2_row _ _ _ q0]
  have yb : ∀ b, b ≠ 0 ∧ b ≠ 4 ∧ b ≠ 9 ∧ b ≠ 11 ∧ b ≠ 12 → Y b = B b := fun b ⟨q0, q4, q9, q11, q12⟩ => by
    rw [eY, up2_row _ _ _ q0, up2_row _ _ _ q12, up2_row _ _ _ q4, up2_row _ _ _ q11, up2_row _ _ _ q9]
  have y0n : ∀ j, j ≠ 6 → j ≠ 15 → Y 0 j = M 0 j := fun j q6 q15 => by
    rw [eY, up2_col _ _ _ q15, up2_row _ _ _ (by decide), up2_row _ _ _ (by decide), up2_row _ _ _ (by decide), up2_row _ _ _ (by decide), br _ (by decide) (by decide) (by decide) (by decide), up2_col _ _ _ q6]
  have y06 : Y 0 6 = 1 := by
    rw [eY, up2_col _ _ _ (by decide), up2_row _ _ _ (by decide), up2_row _ _ _ (by decide), up2_row _ _ _ (by decide), up2_row _ _ _ (by decide), br _ (by decide) (by decide) (by decide) (by decide), up2_at]
  have y015 : Y 0 15 = nI 1 := by rw [eY, up2_at]
  have y4 : Y 4 = up2 M 4 1 1 4 := by
    rw [eY, up2_row _ _ _ (by decide), up2_row _ _ _ (by decide)]
    refine up2_rw ?_ _ _
    rw [up2_row _ _ _ (by decide), up2_row _ _ _ (by decide), br _ (by decide) (by decide) (by decide) (by decide), up2_row _ _ _ (by decide)]
  have y9 : Y 9 = up2 M 9 34 v 9 := by
    rw [eY, up2_row _ _ _ (by decide), up2_row _ _ _ (by decide), up2_row _ _ _ (by decide), up2_row _ _ _ (by decide)]
    refine up2_rw ?_ _ _
    rw [br _ (by decide) (by decide) (by decide) (by decide), up2_row _ _ _ (by decide)]
  have y11 : Y 11 = up2 M 11 7 0 11 := by
    rw [eY, up2_row _ _ _ (by decide), up2_row _ _ _ (by decide), up2_row _ _ _ (by decide)]
    refine up2_rw ?_ _ _
    rw [up2_row _ _ _ (by decide), br _ (by decide) (by decide) (by decide) (by decide), up2_row _ _ _ (by decide)]
  have y12 : Y 12 0 = nI 1 := by rw [eY, up2_row _ _ _ (by decide), up2_at]
  have all1 : ∀ j, j < 48 → M 11 (6 + j) = -1 := fun j hj => by
    have := ((g2 (j / 6) (by omega)).2.2.2.2.2.2.2.2.1 (Or.inl (f1 _ (by omega)))).2 (j % 6) (by omega)
    rw [show 6 * (j / 6 + 1) + j % 6 = 6 + j by omega] at this
    exact this
  have nh : ∀ e, 1 ≤ e → e ≤ 8 → ¬ hel M (nI e) = true ∧ ¬ hel Y (nI e) = true := fun e h1 h2 => by
    have nm : (-1 : Int32) ≠ nI e := by
      rcases (by omega : e = 1 ∨ e = 2 ∨ e = 3 ∨ e = 4 ∨ e = 5 ∨ e = 6 ∨ e = 7 ∨ e = 8) with rfl | rfl | rfl | rfl | rfl | rfl | rfl | rfl <;> decide
    have nz : (0 : Int32) ≠ nI e := fun q => nI_ne0 (by omega) (by omega) q.symm
    refine ⟨fun q => ?_, fun q => ?_⟩
    · obtain ⟨j, hj, w⟩ := List.any_eq_true.mp q
      have w : M 11 (6 + j) = nI e := eq_of_beq w
      rw [all1 j (List.mem_range.mp hj)] at w
      exact nm w
    · obtain ⟨j, hj, w⟩ := List.any_eq_true.mp q
      have w : Y 11 (6 + j) = nI e := eq_of_beq w
      rw [y11] at w
      by_cases c : 6 + j = 7
      · rw [c, up2_at] at w
        exact nz w
      · rw [up2_col _ _ _ c, all1 j (List.mem_range.mp hj)] at w
        exact nm w
  refine ⟨⟨h40, ?_⟩, ?_, ?_, ?_, ?_⟩
  · refine ⟨?_, ?_, ?_, ?_, ?_, ?_, ?_, ?_, ?_, ?_, ?_, ?_⟩
    · rw [y0n _ (by decide) (by decide)]; exact b1
    · rw [x0n _ (by decide), y0n _ (by decide) (by decide)]; exact b2
    · rw [x0n _ (by decide), y0n _ (by decide) (by decide)]; exact b3
    · rw [xr _ (by decide), yr _ (by decide)]; exact b4
    · rw [x0n _ (by decide), y0n _ (by decide) (by decide)]; exact b5
    · rw [xr _ (by decide), yr _ (by decide)]; exact b6
    · rw [x0, up2_at, y06]
    · rw [x0n _ (by decide), y0n _ (by decide) (by decide)]; exact b8
    · rw [x0n _ (by decide)]; exact b9
    · rw [x0n _ (by decide)]; exact b10
    · rw [y0n _ (by decide) (by decide)]; exact b11
    · rw [y0n _ (by decide) (by decide)]; exact b12
  · refine RM_w hG (by rw [xg _ (by decide)]) (fun x hx => ?_) (xg _ (by decide)) (xg _ (by decide)) (xg _ (by decide)) ((yb _ (by decide)).trans i4) ((yb _ (by decide)).trans i5) ((yb _ (by decide)).trans i6)
    rw [x2, cpr_2 g21 (by omega) x n (by omega), yb _ (by decide), i1 x]
    by_cases c : x < n
    · rw [if_pos c, if_pos (by omega), if_pos c, cg _ (by decide) (by decide) (by decide) (by decide) (by decide), up2_row _ _ _ (by decide), up2_row _ _ _ (by decide)]
      exact b4 x (by omega)
    · rw [if_neg c, hG.2.2.1 x hx, i2 x]
      by_cases c2 : x < 16 * nd
      · rw [if_pos c2, if_pos c2, if_neg c]
      · rw [if_neg c2, if_neg c2]
  · intro i hi
    by_cases hi0 : i = 0
    · subst hi0
      obtain ⟨a1, a2, a3, a4, a5, a6, a7, a8, a9, a10⟩ := g2 0 (by decide)
      have e4 : Y 4 (0 + 1) = 1 := by rw [y4, show 0 + 1 = 1 from rfl, up2_at]
      refine ⟨?_, ?_, ⟨1, by decide, e4⟩, fun _ => ⟨?_, ?_, fun k hk => ?_⟩, fun q => absurd (e4.symm.trans q) (by decide), ?_, ?_, fun d hd => ?_, fun q => ?_, SL_no (Or.inr (Or.inl e4))⟩
      · rw [xr _ (by decide)]; exact a1
      · rw [e4, x15, up2_at]
      · rw [xr _ (by decide), yr _ (by decide), f4, show 0 + 1 = 1 from rfl, f7]
        rfl
      · rw [xr _ (by decide), yr _ (by decide), f5, show 0 + 1 = 1 from rfl, f8]
      · rw [x20, y9, show 32 * 0 + k = k by omega, show 32 * (0 + 1) + k = 32 + k by omega]
        by_cases c : k = 2
        · rw [c, up2_at, show 32 + 2 = 34 from rfl, up2_at]
        · rw [up2_col _ _ _ c, up2_col _ _ _ (by omega), f6 k hk, f9 k hk]
      · rw [x20, up2_col _ _ _ (by decide)]; exact a6
      · rw [y9, up2_col _ _ _ (by decide)]; exact a7
      · rw [x22, y11, show 6 * 0 + d = d by omega, show 6 * (0 + 1) + d = 6 + d by omega]
        by_cases c : d = 1
        · rw [c, up2_at, show 6 + 1 = 7 from rfl, up2_at]
          exact ⟨rfl, Or.inr ⟨0, by decide, rfl⟩⟩
        · rw [up2_col _ _ _ c, up2_col _ _ _ (by omega)]
          have := a8 d hd
          rw [show 6 * 0 + d = d by omega, show 6 * (0 + 1) + d = 6 + d by omega] at this
          exact this
      · rcases q with q | q <;> exact absurd (e4.symm.trans q) (by decide)
    · refine PR_c (g2 i hi) ?_ ?_ ?_ ?_ ?_ (fun k hk => ?_) (fun d hd => ?_) ?_ ?_ ?_ ?_ ?_ (fun k hk => ?_) (fun d hd => ?_)
      · rw [xr _ (by decide)]
      · rw [x15, up2_col _ _ _ hi0]
      · rw [xr _ (by decide)]
      · rw [xr _ (by decide)]
      · rw [xr _ (by decide)]
      · rw [x20, up2_col _ _ _ (by omega)]
      · rw [x22, up2_col _ _ _ (by omega)]
      · rw [y4, up2_col _ _ _ (by omega)]
      · rw [yr _ (by decide)]
      · rw [yr _ (by decide)]
      · rw [yr _ (by decide)]
      · rw [yb _ (by decide), i5, gro_8' _ (by omega), up2_row _ _ _ (by decide)]
      · rw [y9, up2_col _ _ _ (by omega)]
      · rw [y11, up2_col _ _ _ (by omega)]
  · intro k hk
    obtain ⟨a, c, ha, hc, e1, e2, _, k2⟩ := g3 k hk
    refine ⟨a, c, ha, hc, by rw [xr _ (by decide)]; exact e1, by rw [xr _ (by decide)]; exact e2, fun q => ?_, fun _ => ?_⟩
    · rcases q with q | q
      · exact absurd q (nh _ (by omega) (by omega)).2
      · exact absurd q (nh _ (by omega) (by omega)).2
    · rw [yr _ (by decide)]
      refine k2 (fun q => ?_)
      rcases q with q | q
      · exact absurd q (nh _ (by omega) (by omega)).1
      · exact absurd q (nh _ (by omega) (by omega)).1
  · refine ⟨[nI 1], by decide, x46, y015, ?_, ?_, by simp, fun x hx => ⟨1, by decide, by decide, by decide, List.mem_singleton.mp hx, by rw [y4, up2_at]⟩⟩
    · show [X 47 0] = [nI 1]
      rw [x47]
    · show [Y 12 0] = [nI 1]
      rw [y12]
theorem jt_boot {G : iG} (h : JI F C M) : JT G F C M m_K_boot 2 m_MOD_boot 1 [] := by
  obtain ⟨t, T, U, W, hJ, htu, hb, hfr⟩ := id h
  obtain ⟨n, hn64, hnc, hnm⟩ := hJ.1.2.2.2.1
  have b7 : C 0 9 = M 0 6 := hJ.1.2.2.2.2.2.2.2.1
  have hF := hJ.1.1
  have hu : C 1 2 = nI (nfr M F) := hJ.2.1.1
  have hle := nfr_le M F
  have hM0 : M 0 0 = nI F := hJ.1.2.1
  rcases hb with w | w
  · have f := hfr w
    have f1 := f.1
    have f2 := f.2.1
    have hT : T = 0 ∧ t = 0 := by
      rcases htu with q | ⟨_, h1, h8, h4, _⟩
      · exact q
      · have := f1 (t - 1) (by omega)
        rw [show t - 1 + 1 = t by omega, h4] at this
        exact absurd this (by decide)
    obtain ⟨hT0, ht0⟩ := hT
    subst hT0
    subst ht0
    have w9 : C 0 9 = 0 := b7.trans w
    have h8 : M 8 1 = 0 := ((hJ.2.2.1 0 (by decide)).2.2.2.2.2.2.2.2.1 (Or.inl (f1 0 (by decide)))).1
    have h46 : C 46 1 = 0 := f.2.2.1
    have h15 : M 0 15 = 0 := by
      obtain ⟨z, hz8, hz, hm⟩ := RW_z hJ.2.2.2.2
      rw [hm, ← hz]
      exact h46
    have hk := c_K_boot (G := G) (F := F) (C := C) (M := M) (n := n) (u := F) hnc hn64 hF (by rw [hu, f2]) hF (Or.inl w9) (fun _ q => by
      obtain ⟨m1, m2, m3, m4, m5⟩ := bt_mem (nd := (n + 15) / 16 + 1) hJ f (by omega) q
      exact ⟨m1, h46, m4, fun k hk => ⟨k, by omega, by rw [show 8 * 0 + k = k by omega]; exact m5 k hk⟩⟩)
    have hm := fun C0 => c_MOD_boot (G := G) (F := F) (C := C0) (M := M) (n := n) (fr := F) hnm hn64 hM0 hF (Or.inl w) (fun _ => ⟨h8, f2, h15⟩)
    by_cases c : n = 0 ∨ F < (n + 15) / 16 + 1
    · rw [if_pos w9, if_pos c, if_neg (fun q => q.2 c)] at hk
      have hm := hm C
      rw [if_pos w, if_pos c, if_neg (fun q => q.2 c)] at hm
      exact ⟨2, C, M, h, hk, hm⟩
    · rw [if_pos w9, if_neg c, if_pos ⟨w9, c⟩] at hk
      have hJ' := J_boot (n := n) (nd := (n + 15) / 16 + 1) hJ f hn64 rfl (by omega)
      refine ⟨0, _, botM M n ((n + 15) / 16 + 1), ⟨0, 0, U, W, hJ', Or.inl ⟨rfl, rfl⟩, Or.inr ?_, fun q => ?_⟩, hk, ?_⟩
      · have := hJ'.1.2.2.2.2.2.2.2.1
        rw [← this, mrC_row _ _ _ (by decide) (by decide) (by decide), up2_row _ _ _ (by decide), sR_row _ _ _ _ (by decide), cpr_ne _ _ _ (by decide), gvC_row _ _ _ _ _ _ _ (by decide) (by decide) (by decide) (by decide) (by decide), up2_at]
      · exfalso
        have := hJ'.1.2.2.2.2.2.2.2.1
        rw [← this, mrC_row _ _ _ (by decide) (by decide) (by decide), up2_row _ _ _ (by decide), sR_row _ _ _ _ (by decide), cpr_ne _ _ _ (by decide), gvC_row _ _ _ _ _ _ _ (by decide) (by decide) (by decide) (by decide) (by decide), up2_at] at q
        exact absurd q (by decide)
      · have hm := hm (mrC (up2 (sR (cpr (gvC 0 ((n + 15) / 16 + 1) F (up2 C 0 9 1) 0 0 0) 0 n) 0 2 (nI (64 * ((n + 15) / 16 + 1)))) 22 1 0) 0 0)
        rw [if_pos w, if_neg c, if_pos ⟨w, c⟩] at hm
        exact hm
  · have w9 : C 0 9 = 1 := b7.trans w
    have n0 : ¬ M 0 6 = 0 := fun q => absurd (w.symm.trans q) (by decide)
    have n9 : ¬ C 0 9 = 0 := fun q => absurd (w9.symm.trans q) (by decide)
    have hk := c_K_boot (G := G) (F := F) (C := C) (M := M) (n := n) (u := nfr M F) hnc hn64 hF hu (by omega) (Or.inr w9) (fun q => absurd q n9)
    have hm := c_MOD_boot (G := G) (F := F) (C := C) (M := M) (n := n) (fr := F) hnm hn64 hM0 hF (Or.inr w) (fun q => absurd q n0)
    rw [if_neg n9, if_neg (fun q => n9 q.1)] at hk
    rw [if_neg n0, if_neg (fun q => n0 q.1)] at hm
    exact ⟨1, C, M, h, hk, hm⟩
end BOOT

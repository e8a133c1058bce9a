/-! ===== the class beside the reference: fork ===== -/
theorem fas_la {D : Nat → Int32} {C M : Nat → Nat → Int32} (h : ∀ i, i < 8 → PR D C M i) : ∀ n k, k + n = 8 → fas M n (k + 1) = laC C n k + 1
  | 0, k, _ => rfl
  | n + 1, k, hk => by
    have hp := h k (by omega)
    unfold fas laC
    by_cases e : C 15 k = 0
    · rw [if_pos e, if_pos ((st_pos hp).2.mpr (by rw [← hp.2.1]; exact e))]
    · rw [if_neg e, if_neg (fun q => e (by rw [hp.2.1]; exact (st_pos hp).2.mp q))]
      exact fas_la h n (k + 1) (by omega)
theorem ffs_row {M N : Nat → Nat → Int32} (h : M 2 = N 2) : ∀ n k, ffs M n k = ffs N n k
  | 0, k => rfl
  | n + 1, k => by
    unfold ffs
    rw [h, ffs_row h n (k + 1)]
theorem ff_row {M N : Nat → Nat → Int32} (h : M 2 = N 2) : ff M = ff N := ffs_row h 40 0
theorem groM_1 (M : Nat → Nat → Int32) (p x : Nat) : groM M p 1 x = if x / 16 = ff M then 0 else M 1 x := by
  rw [groM, growM, up2_row _ _ _ (by decide), up2_row _ _ _ (by decide)]
  by_cases e : x / 16 = ff M
  · rw [if_pos e, upr_in _ _ _ (by omega) (by omega)]
  · rw [if_neg e, upr_out _ _ _ (by omega), up2_row _ _ _ (by decide)]
theorem groM_2r (M : Nat → Nat → Int32) (p : Nat) : groM M p 2 = up2 M 2 (ff M) (nI p) 2 := by
  rw [groM, growM, up2_row _ _ _ (by decide), up2_row _ _ _ (by decide), upr_row _ _ _ _ (by decide)]
theorem groM_8r (M : Nat → Nat → Int32) (p : Nat) : groM M p 8 = up2 M 8 p (nI (nv (M 8 p) + 1)) 8 := by
  funext j
  simp only [groM, growM, up2, upr]
  simp
theorem groM_10r (M : Nat → Nat → Int32) (p : Nat) : groM M p 10 = up2 M 10 (8 * p + nv (M 8 p)) (nI (ff M)) 10 := by
  funext j
  simp only [groM, growM, up2, upr]
  simp
theorem up2_rw {M N : Nat → Nat → Int32} {a : Nat} (h : M a = N a) (j : Nat) (x : Int32) : up2 M a j x a = up2 N a j x a := by
  funext k
  simp only [up2]
  rw [h]
theorem fkp_gro (M : Nat → Nat → Int32) (p c : Nat) (h : M 8 c = 0) : ∀ k, fkp M p c k 2 = gro M c k 2 ∧ fkp M p c k 8 = gro M c k 8 ∧ fkp M p c k 10 = gro M c k 10
  | 0 => by
    have e : up2 M 8 c 0 = M := up2_same h
    exact ⟨by rw [fkp, e]; rfl, by rw [fkp, e]; rfl, by rw [fkp, e]; rfl⟩
  | k + 1 => by
    obtain ⟨h1, h2, h3⟩ := fkp_gro M p c h k
    have hf := ff_row h1
    have cw : ∀ (N : Nat → Nat → Int32) (a b n : Nat) {r : Nat}, r ≠ 1 → cpw N a b n r = N r := fun N a b n r hr => by
      funext x
      exact cpw_ne N a b x hr n
    refine ⟨?_, ?_, ?_⟩
    · rw [fkp, cw _ _ _ _ (by decide), gro, groM_2r, groM_2r, hf, up2_rw h1]
    · rw [fkp, cw _ _ _ _ (by decide), gro, groM_8r, groM_8r, h2, up2_rw h2]
    · rw [fkp, cw _ _ _ _ (by decide), gro, groM_10r, groM_10r, hf, h2, up2_rw h3]
theorem gro_10 {M : Nat → Nat → Int32} {c fr : Nat} (hc : 1 ≤ c) (hc8 : c ≤ 8) (h : M 8 c = 0) (hfr : fr ≤ 40) : ∀ k, k ≤ nfr M fr → k ≤ 8 → ∀ j, j < k → gro M c k 10 (8 * c + j) = nI (ff (gro M c j))
  | 0, _, _, j, hj => absurd hj (Nat.not_lt_zero _)
  | k + 1, hk, hk8, j, hj => by
    have e8 := (gro_spec hc hc8 (show M 8 c = nI 0 from h) (by decide) hfr (k := k) (by omega)).1
    rw [Nat.zero_add] at e8
    rw [gro, groM_10r, e8, nv_nI (by omega)]
    by_cases e : j = k
    · subst e
      rw [up2_at]
    · rw [up2_col _ _ _ (by omega)]
      exact gro_10 hc hc8 h hfr k (by omega) (by omega) j (by omega)
theorem gro_1 (M : Nat → Nat → Int32) (c x : Nat) : ∀ k, (∀ j, j < k → x / 16 ≠ ff (gro M c j)) → gro M c k 1 x = M 1 x
  | 0, _ => rfl
  | k + 1, h => by
    rw [gro, groM_1, if_neg (h k (by omega))]
    exact gro_1 M c x k (fun j hj => h j (by omega))
theorem cpw_at (M : Nat → Nat → Int32) (src dst : Nat) : ∀ n, (src + n ≤ dst ∨ dst + n ≤ src) → (∀ y, y < n → cpw M src dst n 1 (dst + y) = M 1 (src + y)) ∧ ∀ x, (x < dst ∨ dst + n ≤ x) → cpw M src dst n 1 x = M 1 x
  | 0, _ => ⟨fun y hy => absurd hy (Nat.not_lt_zero _), fun x _ => rfl⟩
  | n + 1, h => by
    obtain ⟨h1, h2⟩ := cpw_at M src dst n (by omega)
    refine ⟨fun y hy => ?_, fun x hx => ?_⟩
    · rw [cpw]
      by_cases e : y = n
      · subst e
        rw [up2_at]
        exact h2 _ (by omega)
      · rw [up2_col _ _ _ (by omega)]
        exact h1 y (by omega)
    · rw [cpw, up2_col _ _ _ (by omega)]
      exact h2 x (by omega)
/-- the words of a fork, in the reference -/
theorem fkp_1 {M : Nat → Nat → Int32} {p c s : Nat} {g : Nat → Nat} (h8 : M 8 c = 0) (hg : ∀ k, k < s → nv (M 10 (8 * p + k)) = g k) (hgf : ∀ k j, k < s → j < s → g k ≠ ff (gro M c j)) (hff : ∀ k j, k < j → j < s → ff (gro M c k) ≠ ff (gro M c j)) : ∀ k, k ≤ s → (∀ j y, j < k → y < 16 → fkp M p c k 1 (16 * ff (gro M c j) + y) = M 1 (16 * g j + y)) ∧ ∀ x, (∀ j, j < k → x / 16 ≠ ff (gro M c j)) → fkp M p c k 1 x = M 1 x
  | 0, _ => ⟨fun j y hj => absurd hj (Nat.not_lt_zero _), fun x _ => up2_ne2 _ _ _ _ (by decide)⟩
  | k + 1, hk => by
    obtain ⟨h1, h2⟩ := fkp_1 h8 hg hgf hff k (by omega)
    have ef : ff (fkp M p c k) = ff (gro M c k) := ff_row (fkp_gro M p c h8 k).1
    have hd := hgf k k (by omega) (by omega)
    have hcp := cpw_at (groM (fkp M p c k) c) (16 * g k) (16 * ff (gro M c k)) 16 (by omega)
    have e : fkp M p c (k + 1) = cpw (groM (fkp M p c k) c) (16 * g k) (16 * ff (gro M c k)) 16 := by rw [fkp, hg k (by omega), ef]
    rw [e]
    refine ⟨fun j y hj hy => ?_, fun x hx => ?_⟩
    · by_cases ej : j = k
      · subst ej
        rw [hcp.1 y hy, groM_1, ef, if_neg (by omega)]
        exact h2 _ (fun j' hj' => by have := hgf j j' (by omega) (by omega); omega)
      · have hne := hff j k (by omega) (by omega)
        rw [hcp.2 _ (by omega), groM_1, ef, if_neg (by omega)]
        exact h1 j y (by omega) hy
    · have := hx k (by omega)
      rw [hcp.2 _ (by omega), groM_1, ef, if_neg this]
      exact h2 x (fun j hj => hx j (by omega))
/-- the words of a fork, in the class -/
theorem cpg_2 {G : Nat → Nat → Int32} {i c s : Nat} {g f : Nat → Nat} (hg : ∀ k, k < s → nv (G 21 (8 * i + k)) = g k) (hf : ∀ k, k < s → nv (G 21 (8 * c + k)) = f k) (hgf : ∀ k j, k < s → j < s → g k ≠ f j) (hff : ∀ k j, k < j → j < s → f k ≠ f j) : ∀ k, k ≤ s → (∀ j y, j < k → y < 16 → cpg G i c k 2 (16 * f j + y) = G 2 (16 * g j + y)) ∧ ∀ x, (∀ j, j < k → x / 16 ≠ f j) → cpg G i c k 2 x = G 2 x
  | 0, _ => ⟨fun j y hj => absurd hj (Nat.not_lt_zero _), fun x _ => rfl⟩
  | k + 1, hk => by
    obtain ⟨h1, h2⟩ := cpg_2 hg hf hgf hff k (by omega)
    have e : cpg G i c (k + 1) = upr (cpg G i c k) 2 (16 * f k) 16 (fun x => cpg G i c k 2 (16 * g k + x)) := by rw [cpg, hg k (by omega), hf k (by omega)]
    rw [e]
    refine ⟨fun j y hj hy => ?_, fun x hx => ?_⟩
    · by_cases ej : j = k
      · subst ej
        rw [upr_in _ _ _ (by omega) (by omega), Nat.add_sub_cancel_left]
        exact h2 _ (fun j' hj' => by have := hgf j j' (by omega) (by omega); omega)
      · have hne := hff j k (by omega) (by omega)
        rw [upr_out _ _ _ (by omega)]
        exact h1 j y (by omega) hy
    · have := hx k (by omega)
      rw [upr_out _ _ _ (by omega)]
      exact h2 x (fun j hj => hx j (by omega))
theorem cpg_row (C : Nat → Nat → Int32) (i j k : Nat) {b : Nat} (h : b ≠ 2) : cpg C i j k b = C b := by
  funext x
  exact cpg_ne C i j x h k
theorem fk1_row (C : Nat → Nat → Int32) (i c : Nat) {b : Nat} (h16 : b ≠ 16) (h17 : b ≠ 17) (h20 : b ≠ 20) (h22 : b ≠ 22) : fk1 C i c b = C b := by
  funext x
  exact fk1_ne C i c x h16 h17 h20 h22
theorem mrC_row (C : Nat → Nat → Int32) (i z : Nat) {b : Nat} (h15 : b ≠ 15) (h46 : b ≠ 46) (h47 : b ≠ 47) : mrC C i z b = C b := by
  funext x
  exact mrC_ne C i z x h15 h46 h47
theorem fkp_row (M : Nat → Nat → Int32) (p c k : Nat) {b : Nat} (h1 : b ≠ 1) (h2 : b ≠ 2) (h8 : b ≠ 8) (h10 : b ≠ 10) : fkp M p c k b = M b := by
  funext x
  exact fkp_ne M p c x h1 h2 h8 h10 k
theorem RM_w {F : Nat} {C M C' M' : Nat → Nat → Int32} (h : RM F C M) (c1 : C' 1 2 = C 1 2) (c2 : ∀ x, x < 16 * F → C' 2 x = M' 1 x) (c3 : C' 3 = C 3) (c14 : C' 14 = C 14) (c21 : C' 21 = C 21) (m2 : M' 2 = M 2) (m8 : M' 8 = M 8) (m10 : M' 10 = M 10) : RM F C' M' := by
  unfold RM at h ⊢
  rw [c1, c3, c14, c21, m2, m8, m10, nfr_2 (M := M) (M' := M') (fun j => by rw [m2])]
  exact ⟨h.1, h.2.1, c2, h.2.2.2⟩
/-- what the frames are once the child has got its own -/
theorem fk_mem {F i c s : Nat} {C M : Nat → Nat → Int32} (hF : F ≤ 40) (h : RM F C M) (hi : i < 8) (hc : c < 8) (hic : i ≠ c) (hs : C 14 i = nI s) (hs8 : s ≤ 8) (hc0 : M 8 (c + 1) = 0) (hn : s ≤ nfr M F) : C 14 c = 0 ∧ RM F (fkG C i c s F) (gro M (c + 1) s) ∧ fkG C i c s F 14 i = nI s ∧ fkG C i c s F 14 c = nI s ∧ pgC (fkG C i c s F) i s F ∧ pgC (fkG C i c s F) c s F ∧ ∀ x, x < 16 * F → cpg (fkG C i c s F) i c s 2 x = fkp M (i + 1) (c + 1) s 1 x := by
  obtain ⟨b1, b2, b3, b4, b5, b6⟩ := id h
  obtain ⟨sc, _, ec, em, _⟩ := b4 c hc
  have esc : sc = 0 := (nI_eq (a := sc) (b := 0) (by omega) (by decide)).mp (em.symm.trans hc0)
  subst esc
  have hc14 : C 14 c = nI 0 := ec
  obtain ⟨s', _, es, emi, hpgi⟩ := b4 i hi
  have ess : s' = s := (nI_eq (by omega) (by omega)).mp (es.symm.trans hs)
  subst ess
  have r : ∀ b, b ≠ 16 ∧ b ≠ 17 ∧ b ≠ 20 ∧ b ≠ 22 → fk1 C i c b = C b := fun b ⟨q1, q2, q3, q4⟩ => fk1_row C i c q1 q2 q3 q4
  have h1 : RM F (fk1 C i c) M := RM_c h (by rw [r _ (by decide)]) (r _ (by decide)) (r _ (by decide)) (r _ (by decide)) (r _ (by decide)) rfl rfl rfl rfl
  have hG := RM_gvC (more := s') hF hc F (fk1 C i c) M 0 0 0 (by omega) h1 (by rw [r _ (by decide)]; exact hc14) (fun f hf => absurd hf (by omega)) (by omega) (by omega) (by omega)
  rw [Nat.sub_zero] at hG
  have hG' : RM F (fkG C i c s' F) (gro M (c + 1) s') := hG
  obtain ⟨d1, d2, d3, d4, d5, d6⟩ := id hG'
  have n8 : gro M (c + 1) s' 8 (c + 1) = nI s' := by
    have := (gro_spec (p := c + 1) (s := 0) (fr := F) (by omega) (by omega) hc0 (by decide) hF (k := s') hn).1
    rw [Nat.zero_add] at this
    exact this
  have n8i : gro M (c + 1) s' 8 (i + 1) = nI s' := by rw [gro_8' M (by omega)]; exact emi
  obtain ⟨si, hsi8, gi1, gi2, gi3⟩ := d4 i hi
  have esi : si = s' := (nI_eq (by omega) (by omega)).mp (gi2.symm.trans n8i)
  subst esi
  obtain ⟨sc', hsc8, gc1, gc2, gc3⟩ := d4 c hc
  have escc : sc' = si := (nI_eq (by omega) (by omega)).mp (gc2.symm.trans n8)
  subst escc
  refine ⟨hc14, hG', gi1, gc1, fun k hk => ?_, fun k hk => ?_, ?_⟩
  · obtain ⟨f, hf, f1, _⟩ := gi3 k hk
    exact ⟨f, hf, f1⟩
  · obtain ⟨f, hf, f1, _⟩ := gc3 k hk
    exact ⟨f, hf, f1⟩
  · have e10 := gro_10 (c := c + 1) (fr := F) (by omega) (by omega) hc0 hF sc' hn hs8
    -- frames of the new pages
    have hfc : ∀ k, k < sc' → nv (fkG C i c sc' F 21 (8 * c + k)) = ff (gro M (c + 1) k) ∧ ff (gro M (c + 1) k) < F ∧ gro M (c + 1) sc' 2 (ff (gro M (c + 1) k)) = nI (c + 1) := by
      intro k hk
      obtain ⟨f, hf, f1, f2, f3⟩ := gc3 k hk
      have hlt : ff (gro M (c + 1) k) < 40 := by
        have := (gro_spec (p := c + 1) (s := 0) (fr := F) (by omega) (by omega) hc0 (by decide) hF (k := k) (by omega)).2
        have := ff_lt (M := gro M (c + 1) k) (n := F) (by omega)
        omega
      have e : ff (gro M (c + 1) k) = f := (nI_eq (by omega) (by omega)).mp ((e10 k hk).symm.trans f2)
      rw [e]
      exact ⟨by rw [f1]; exact nv_nI (by omega), hf, f3⟩
    have hgi : ∀ k, k < sc' → ∃ g, g < F ∧ fkG C i c sc' F 21 (8 * i + k) = nI g ∧ M 10 (8 * (i + 1) + k) = nI g ∧ gro M (c + 1) sc' 2 g = nI (i + 1) := by
      intro k hk
      obtain ⟨g, hg, g1, g2, g3⟩ := gi3 k hk
      obtain ⟨g', hg', _, g2', _⟩ := hpgi k hk
      refine ⟨g, hg, g1, ?_, g3⟩
      have : gro M (c + 1) sc' 10 (8 * (i + 1) + k) = M 10 (8 * (i + 1) + k) := by
        have key : ∀ n, n ≤ sc' → gro M (c + 1) n 10 (8 * (i + 1) + k) = M 10 (8 * (i + 1) + k) := by
          intro n
          induction n with
          | zero => exact fun _ => rfl
          | succ n ih =>
            intro hn'
            have e8 := (gro_spec (p := c + 1) (s := 0) (fr := F) (by omega) (by omega) hc0 (by decide) hF (k := n) (by omega)).1
            rw [Nat.zero_add] at e8
            rw [gro, groM_10r, e8, nv_nI (by omega), up2_col _ _ _ (by omega)]
            exact ih (by omega)
        exact key sc' (Nat.le_refl _)
      rw [← this]
      exact g2
    have hgf : ∀ k j, k < sc' → j < sc' → nv (M 10 (8 * (i + 1) + k)) ≠ ff (gro M (c + 1) j) := by
      intro k j hk hj q
      obtain ⟨g, hg, _, g2, g3⟩ := hgi k hk
      obtain ⟨_, _, f3⟩ := hfc j hj
      rw [g2, nv_nI (by omega)] at q
      rw [← q, g3] at f3
      have := (nI_eq (by omega) (by omega)).mp f3
      omega
    have hff : ∀ k j, k < j → j < sc' → ff (gro M (c + 1) k) ≠ ff (gro M (c + 1) j) := by
      intro k j hk hj q
      have := d5 c hc k j hk (by rw [n8, nv_nI (by omega)]; exact hj)
      exact this (by rw [e10 k (by omega), e10 j hj, q])
    have hA := fkp_1 (p := i + 1) (g := fun k => nv (M 10 (8 * (i + 1) + k))) hc0 (fun k _ => rfl) hgf hff sc' (Nat.le_refl _)
    have hB := cpg_2 (G := fkG C i c sc' F) (i := i) (c := c) (g := fun k => nv (M 10 (8 * (i + 1) + k))) (f := fun k => ff (gro M (c + 1) k)) (fun k hk => by
      obtain ⟨g, hg, g1, g2, _⟩ := hgi k hk
      rw [g1, g2]) (fun k hk => (hfc k hk).1) hgf hff sc' (Nat.le_refl _)
    intro x hx
    by_cases hex : ∃ j, j < sc' ∧ x / 16 = ff (gro M (c + 1) j)
    · obtain ⟨j, hj, ej⟩ := hex
      have exx : x = 16 * ff (gro M (c + 1) j) + x % 16 := by omega
      rw [exx, hB.1 j (x % 16) hj (by omega), hA.1 j (x % 16) hj (by omega)]
      obtain ⟨g, hg, _, g2, _⟩ := hgi j hj
      have eg : nv (M 10 (8 * (i + 1) + j)) = g := by rw [g2]; exact nv_nI (by omega)
      have hg2 := hgf j
      simp only [eg] at hg2 ⊢
      rw [d3 _ (by omega)]
      exact gro_1 M (c + 1) _ sc' (fun j' hj' => by have := hg2 j' hj hj'; omega)
    · have hno : ∀ j, j < sc' → x / 16 ≠ ff (gro M (c + 1) j) := fun j hj q => hex ⟨j, hj, q⟩
      rw [hB.2 x hno, hA.2 x hno, d3 x hx]
      exact gro_1 M (c + 1) x sc' hno

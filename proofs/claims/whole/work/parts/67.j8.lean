/-! ===== the class beside the reference: fork, second row ===== -/
theorem RK_c2 {C M C' M' : Nat → Nat → Int32} {k : Nat} (hk : k < 4) (h : RK C M k) (c25 : C' 25 = C 25) (c26 : C' 26 = C 26) (c27 : C' 27 = C 27) (m13 : M' 13 = M 13) (m14 : M' 14 = M 14) (m11 : ∀ e, e ≠ -1 → hel M' e = hel M e) : RK C' M' k := by
  unfold RK pip at h ⊢
  rw [c25, c26, c27, m13, m14, m11 _ (nI_nm (by omega)), m11 _ (nI_nm (by omega))]
  exact h
theorem bool_iff {a b : Bool} (h : a = true ↔ b = true) : a = b := Bool.eq_iff_iff.mpr h
theorem fk3_row (M : Nat → Nat → Int32) (p c s : Nat) {b : Nat} (h1 : b ≠ 1) (h2 : b ≠ 2) (h5 : b ≠ 5) (h6 : b ≠ 6) (h7 : b ≠ 7) (h8 : b ≠ 8) (h9 : b ≠ 9) (h10 : b ≠ 10) (h11 : b ≠ 11) : fk3 M p c s b = M b := by
  rw [fk3, up2_row _ _ _ h5, up2_row _ _ _ h6, up2_row _ _ _ h7, up2_row _ _ _ h9, fk2, upr_row _ _ _ _ h11, upr_row _ _ _ _ h9, fkp_row _ _ _ _ h1 h2 h8 h10]
theorem fk3_mem (M : Nat → Nat → Int32) (p c s : Nat) {b : Nat} (h5 : b ≠ 5) (h6 : b ≠ 6) (h7 : b ≠ 7) (h9 : b ≠ 9) (h11 : b ≠ 11) : fk3 M p c s b = fkp M p c s b := by
  rw [fk3, up2_row _ _ _ h5, up2_row _ _ _ h6, up2_row _ _ _ h7, up2_row _ _ _ h9, fk2, upr_row _ _ _ _ h11, upr_row _ _ _ _ h9]
theorem wakM_row (M : Nat → Nat → Int32) (p m : Nat) {b : Nat} (h0 : b ≠ 0) (h4 : b ≠ 4) (h12 : b ≠ 12) : wakM M p m b = M b := by
  rw [wakM, up2_row _ _ _ h0, up2_row _ _ _ h12, up2_row _ _ _ h4]
theorem J_fork {D : Nat → Int32} {F t i c s z : Nat} {T U V W : Int32} {C M : Nat → Nat → Int32} (h : J F t D T U V W C M) (hi : i < 8) (hc : c < 8) (h4 : M 4 (i + 1) = 1) (hc4 : M 4 (c + 1) = 0) (hs : C 14 i = nI s) (hs8 : s ≤ 8) (hn : s ≤ nfr M F) (hz : C 46 1 = nI z) (hz8 : z ≤ 8) (hDc : D c = 0) (hDi : D i = 4) (ht : c + 1 ≠ t) : J F t D T U V W (mrC (cpg (fkG C i c s F) i c s) c z) (frkM M (i + 1) (c + 1) s z) := by
  obtain ⟨⟨hF, g0⟩, g1, g2, g3, g4⟩ := h
  have hic : i ≠ c := fun q => by rw [q, hc4] at h4; exact absurd h4 (by decide)
  obtain ⟨ca1, ca2, ca3, ca4, ca5, ca6, ca7, ca8, ca9, ca10⟩ := g2 c hc
  obtain ⟨c80, c11⟩ := ca9 (Or.inl hc4)
  obtain ⟨hc14, hG, _, _, _, _, hW⟩ := fk_mem hF g1 hi hc hic hs hs8 c80 hn
  obtain ⟨f2, f8, f10⟩ := fkp_gro M (i + 1) (c + 1) c80 s
  have hcr : ∀ b, b ≠ 1 ∧ b ≠ 2 ∧ b ≠ 3 ∧ b ≠ 14 ∧ b ≠ 15 ∧ b ≠ 16 ∧ b ≠ 17 ∧ b ≠ 20 ∧ b ≠ 21 ∧ b ≠ 22 ∧ b ≠ 46 ∧ b ≠ 47 → mrC (cpg (fkG C i c s F) i c s) c z b = C b := fun b ⟨q1, q2, q3, q4, q5, q6, q7, q8, q9, q10, q11, q12⟩ => by
    rw [mrC_row _ _ _ q5 q11 q12, cpg_row _ _ _ _ q2, fkG, gvC_row _ _ _ _ _ _ _ q1 q2 q3 q4 q9, fk1_row _ _ _ q6 q7 q8 q10]
  have hc1 : ∀ b, b ≠ 1 ∧ b ≠ 2 ∧ b ≠ 3 ∧ b ≠ 14 ∧ b ≠ 15 ∧ b ≠ 21 ∧ b ≠ 46 ∧ b ≠ 47 → mrC (cpg (fkG C i c s F) i c s) c z b = fk1 C i c b := fun b ⟨q1, q2, q3, q4, q5, q9, q11, q12⟩ => by
    rw [mrC_row _ _ _ q5 q11 q12, cpg_row _ _ _ _ q2, fkG, gvC_row _ _ _ _ _ _ _ q1 q2 q3 q4 q9]
  have hcg : ∀ b, b ≠ 2 ∧ b ≠ 15 ∧ b ≠ 46 ∧ b ≠ 47 → mrC (cpg (fkG C i c s F) i c s) c z b = fkG C i c s F b := fun b ⟨q2, q5, q11, q12⟩ => by
    rw [mrC_row _ _ _ q5 q11 q12, cpg_row _ _ _ _ q2]
  have c2 : mrC (cpg (fkG C i c s F) i c s) c z 2 = cpg (fkG C i c s F) i c s 2 := mrC_row _ _ _ (by decide) (by decide) (by decide)
  have c15 : mrC (cpg (fkG C i c s F) i c s) c z 15 = up2 C 15 c 1 15 := by
    rw [mrC]
    have e : ∀ (X : Nat → Nat → Int32) (w : Int32), apC X z w 15 = X 15 := fun X w => by
      funext x
      exact apC_ne X z w x (by decide) (by decide)
    rw [e]
    exact up2_rw (by rw [cpg_row _ _ _ _ (by decide), fkG, gvC_row _ _ _ _ _ _ _ (by decide) (by decide) (by decide) (by decide) (by decide), fk1_row _ _ _ (by decide) (by decide) (by decide) (by decide)]) c 1
  have hm : ∀ b, b ≠ 0 ∧ b ≠ 1 ∧ b ≠ 2 ∧ b ≠ 4 ∧ b ≠ 5 ∧ b ≠ 6 ∧ b ≠ 7 ∧ b ≠ 8 ∧ b ≠ 9 ∧ b ≠ 10 ∧ b ≠ 11 ∧ b ≠ 12 → frkM M (i + 1) (c + 1) s z b = M b := fun b ⟨q0, q1, q2, q4, q5, q6, q7, q8, q9, q10, q11, q12⟩ => by
    rw [frkM, wakM_row _ _ _ q0 q4 q12, fk3_row _ _ _ _ q1 q2 q5 q6 q7 q8 q9 q10 q11]
  have hm3 : ∀ b, b ≠ 0 ∧ b ≠ 4 ∧ b ≠ 12 → frkM M (i + 1) (c + 1) s z b = fk3 M (i + 1) (c + 1) s b := fun b ⟨q0, q4, q12⟩ => by rw [frkM, wakM_row _ _ _ q0 q4 q12]
  have m0 : ∀ j, j ≠ 15 → frkM M (i + 1) (c + 1) s z 0 j = M 0 j := fun j hj => frkM_0 _ _ hj
  have m4 : frkM M (i + 1) (c + 1) s z 4 = up2 M 4 (c + 1) 1 4 := by
    rw [frkM, wakM, up2_row _ _ _ (by decide), up2_row _ _ _ (by decide)]
    exact up2_rw (fk3_row _ _ _ _ (by decide) (by decide) (by decide) (by decide) (by decide) (by decide) (by decide) (by decide) (by decide)) _ _
  have m5 : frkM M (i + 1) (c + 1) s z 5 = up2 M 5 (c + 1) 0 5 := by
    rw [hm3 _ (by decide), fk3]
    refine up2_rw ?_ _ _
    rw [up2_row _ _ _ (by decide), up2_row _ _ _ (by decide), up2_row _ _ _ (by decide), fk2, upr_row _ _ _ _ (by decide), upr_row _ _ _ _ (by decide), fkp_row _ _ _ _ (by decide) (by decide) (by decide) (by decide)]
  have m6 : frkM M (i + 1) (c + 1) s z 6 = up2 M 6 (c + 1) (nI (i + 1)) 6 := by
    rw [hm3 _ (by decide), fk3, up2_row _ _ _ (by decide)]
    refine up2_rw ?_ _ _
    rw [up2_row _ _ _ (by decide), up2_row _ _ _ (by decide), fk2, upr_row _ _ _ _ (by decide), upr_row _ _ _ _ (by decide), fkp_row _ _ _ _ (by decide) (by decide) (by decide) (by decide)]
  have m7 : frkM M (i + 1) (c + 1) s z 7 = up2 M 7 (c + 1) (M 7 (i + 1) + 4) 7 := by
    rw [hm3 _ (by decide), fk3, up2_row _ _ _ (by decide), up2_row _ _ _ (by decide)]
    refine up2_rw ?_ _ _
    rw [up2_row _ _ _ (by decide), fk2, upr_row _ _ _ _ (by decide), upr_row _ _ _ _ (by decide), fkp_row _ _ _ _ (by decide) (by decide) (by decide) (by decide)]
  have m9 : ∀ x, frkM M (i + 1) (c + 1) s z 9 x = if x = 32 * (c + 1) + 10 then 0 else if 32 * (c + 1) ≤ x ∧ x < 32 * (c + 1) + 32 then M 9 (32 * (i + 1) + (x - 32 * (c + 1))) else M 9 x := by
    intro x
    rw [hm3 _ (by decide), fk3, up2_row _ _ _ (by decide), up2_row _ _ _ (by decide), up2_row _ _ _ (by decide)]
    by_cases e : x = 32 * (c + 1) + 10
    · rw [if_pos e, e, up2_at]
    · rw [if_neg e, up2_col _ _ _ e, fk2, upr_row _ _ _ _ (by decide)]
      by_cases e2 : 32 * (c + 1) ≤ x ∧ x < 32 * (c + 1) + 32
      · rw [if_pos e2, upr_in _ _ _ e2.1 e2.2]
      · rw [if_neg e2, upr_out _ _ _ (by omega), fkp_row _ _ _ _ (by decide) (by decide) (by decide) (by decide)]
  have m11 : ∀ x, frkM M (i + 1) (c + 1) s z 11 x = if 6 * (c + 1) ≤ x ∧ x < 6 * (c + 1) + 6 then M 11 (6 * (i + 1) + (x - 6 * (c + 1))) else M 11 x := by
    intro x
    rw [hm3 _ (by decide), fk3, up2_row _ _ _ (by decide), up2_row _ _ _ (by decide), up2_row _ _ _ (by decide), up2_row _ _ _ (by decide), fk2]
    by_cases e2 : 6 * (c + 1) ≤ x ∧ x < 6 * (c + 1) + 6
    · rw [if_pos e2, upr_in _ _ _ e2.1 e2.2]
    · rw [if_neg e2, upr_out _ _ _ (by omega), upr_row _ _ _ _ (by decide), fkp_row _ _ _ _ (by decide) (by decide) (by decide) (by decide)]
  have c16 : mrC (cpg (fkG C i c s F) i c s) c z 16 = up2 C 16 c (C 16 i) 16 := by
    rw [hc1 _ (by decide), fk1, sR_row _ _ _ _ (by decide), up2_row _ _ _ (by decide), cfC, upr_row _ _ _ _ (by decide), upr_row _ _ _ _ (by decide)]
  have c17 : mrC (cpg (fkG C i c s F) i c s) c z 17 = up2 C 17 c (C 10 i) 17 := by
    rw [hc1 _ (by decide), fk1, sR_row _ _ _ _ (by decide)]
    refine up2_rw ?_ _ _
    rw [cfC, upr_row _ _ _ _ (by decide), upr_row _ _ _ _ (by decide), up2_row _ _ _ (by decide)]
  have c20 : ∀ x, mrC (cpg (fkG C i c s F) i c s) c z 20 x = if x = 32 * c + 10 then 0 else if 32 * c ≤ x ∧ x < 32 * c + 32 then C 20 (32 * i + (x - 32 * c)) else C 20 x := by
    intro x
    rw [hc1 _ (by decide), fk1, sR, if_neg (by decide)]
    by_cases e : x = 32 * c + 10
    · rw [if_pos e, e, up2_at]
    · rw [if_neg e, up2_col _ _ _ e, up2_row _ _ _ (by decide), cfC, upr_row _ _ _ _ (by decide)]
      by_cases e2 : 32 * c ≤ x ∧ x < 32 * c + 32
      · rw [if_pos e2, upr_in _ _ _ e2.1 e2.2]
      · rw [if_neg e2, upr_out _ _ _ (by omega), up2_row _ _ _ (by decide)]
  have c22 : ∀ x, mrC (cpg (fkG C i c s F) i c s) c z 22 x = if 6 * c ≤ x ∧ x < 6 * c + 6 then C 22 (6 * i + (x - 6 * c)) else C 22 x := by
    intro x
    rw [hc1 _ (by decide), fk1, sR_row _ _ _ _ (by decide), up2_row _ _ _ (by decide), cfC]
    by_cases e2 : 6 * c ≤ x ∧ x < 6 * c + 6
    · rw [if_pos e2, upr_in _ _ _ e2.1 e2.2]
    · rw [if_neg e2, upr_out _ _ _ (by omega), upr_row _ _ _ _ (by decide), up2_row _ _ _ (by decide)]
  have c0 := hcr 0 (by decide)
  obtain ⟨pa1, pa2, pa3, pa4, pa5, pa6, pa7, pa8, pa9, pa10⟩ := g2 i hi
  obtain ⟨pb1, pb2, pb3⟩ := pa4 (by rw [h4]; decide)
  refine ⟨⟨hF, R0_c g0 (by rw [c0]) (by rw [c0]) (by rw [c0]) (by rw [c0]) (by rw [c0]) (by rw [c0]) (by rw [c0]) (hcr _ (by decide)) (hcr _ (by decide)) (m0 _ (by decide)) (m0 _ (by decide)) (m0 _ (by decide)) (m0 _ (by decide)) (m0 _ (by decide)) (m0 _ (by decide)) (m0 _ (by decide)) (m0 _ (by decide)) (hm _ (by decide)) (hm _ (by decide))⟩, ?_, ?_, ?_, ?_⟩
  · refine RM_w hG (by rw [hcg _ (by decide)]) ?_ (hcg _ (by decide)) (hcg _ (by decide)) (hcg _ (by decide)) ?_ ?_ ?_
    · intro x hx
      rw [c2, hm3 _ (by decide), fk3_mem _ _ _ _ (by decide) (by decide) (by decide) (by decide) (by decide)]
      exact hW x hx
    · rw [hm3 _ (by decide), fk3_mem _ _ _ _ (by decide) (by decide) (by decide) (by decide) (by decide)]; exact f2
    · rw [hm3 _ (by decide), fk3_mem _ _ _ _ (by decide) (by decide) (by decide) (by decide) (by decide)]; exact f8
    · rw [hm3 _ (by decide), fk3_mem _ _ _ _ (by decide) (by decide) (by decide) (by decide) (by decide)]; exact f10
  · intro j hj
    by_cases e : j = c
    · subst e
      have e4 : frkM M (i + 1) (j + 1) s z 4 (j + 1) = 1 := by rw [m4, up2_at]
      refine ⟨?_, ?_, ?_, ?_, ?_, ?_, ?_, ?_, ?_, SL_no (Or.inr (Or.inl e4))⟩
      · rw [hcr _ (by decide)]; exact ca1
      · rw [c15, up2_at, e4]
      · rw [e4]; exact ⟨1, by decide, rfl⟩
      · intro _
        refine ⟨?_, ?_, fun k hk => ?_⟩
        · rw [c16, up2_at, m7, up2_at, pb1, hDi, hDc]
          exact (Int32.add_zero _).symm
        · rw [c17, up2_at, m6, up2_at]; exact pa1
        · rw [c20, m9]
          by_cases e10 : k = 10
          · subst e10
            rw [if_pos rfl, if_pos rfl]
          · rw [if_neg (by omega), if_pos ⟨by omega, by omega⟩, if_neg (by omega), if_pos ⟨by omega, by omega⟩, Nat.add_sub_cancel_left, Nat.add_sub_cancel_left]
            exact pb3 k hk
      · rw [e4]; exact fun q => absurd q (by decide)
      · rw [c20, if_neg (by omega), if_pos ⟨by omega, by omega⟩, Nat.sub_self, Nat.add_zero]; exact pa6
      · rw [m9, if_neg (by omega), if_pos ⟨by omega, by omega⟩, Nat.sub_self, Nat.add_zero]; exact pa7
      · intro d hd
        rw [c22, m11, if_pos ⟨by omega, by omega⟩, if_pos ⟨by omega, by omega⟩, Nat.add_sub_cancel_left, Nat.add_sub_cancel_left]
        exact pa8 d hd
      · rw [e4]; exact fun q => q.elim (fun q => absurd q (by decide)) (fun q => absurd q (by decide))
    · refine PR_c (g2 j hj) ?_ ?_ ?_ ?_ ?_ ?_ ?_ ?_ ?_ ?_ ?_ ?_ ?_ ?_
      · rw [hcr _ (by decide)]
      · rw [c15, up2_col _ _ _ e]
      · rw [c16, up2_col _ _ _ e]
      · rw [c17, up2_col _ _ _ e]
      · rw [hcr _ (by decide)]
      · intro k hk; rw [c20, if_neg (by omega), if_neg (by omega)]
      · intro k hk; rw [c22, if_neg (by omega)]
      · rw [m4, up2_col _ _ _ (by omega)]
      · rw [m5, up2_col _ _ _ (by omega)]
      · rw [m6, up2_col _ _ _ (by omega)]
      · rw [m7, up2_col _ _ _ (by omega)]
      · rw [hm3 _ (by decide), fk3_mem _ _ _ _ (by decide) (by decide) (by decide) (by decide) (by decide), f8]
        exact gro_8' M (by omega) s
      · intro k hk; rw [m9, if_neg (by omega), if_neg (by omega)]
      · intro k hk; rw [m11, if_neg (by omega)]
  · intro k hk
    refine RK_c2 hk (g3 k hk) (hcr _ (by decide)) (hcr _ (by decide)) (hcr _ (by decide)) (hm _ (by decide)) (hm _ (by decide)) ?_
    intro e he
    apply bool_iff
    rw [hel_iff, hel_iff]
    constructor
    · rintro ⟨q, d, q1, q8, hd, ee⟩
      rw [m11] at ee
      by_cases hq : 6 * (c + 1) ≤ 6 * q + d ∧ 6 * q + d < 6 * (c + 1) + 6
      · rw [if_pos hq] at ee
        exact ⟨i + 1, 6 * q + d - 6 * (c + 1), by omega, by omega, by omega, ee⟩
      · rw [if_neg hq] at ee
        exact ⟨q, d, q1, q8, hd, ee⟩
    · rintro ⟨q, d, q1, q8, hd, ee⟩
      refine ⟨q, d, q1, q8, hd, ?_⟩
      have hq : q ≠ c + 1 := fun z => by
        rw [z, c11 d hd] at ee
        exact he ee.symm
      rw [m11, if_neg (by omega)]
      exact ee
  · have hn12 := RW_not g4 (p := c + 1) (by omega) hz hz8 (Or.inr (by rw [hc4]; decide))
    have h1 : RW t (up2 (cpg (fkG C i c s F) i c s) 15 c 1) (up2 (fk3 M (i + 1) (c + 1) s) 4 (c + 1) 1) := by
      refine RW_c g4 ?_ ?_ ?_ ?_ ?_
      · rw [up2_row _ _ _ (by decide), cpg_row _ _ _ _ (by decide), fkG, gvC_row _ _ _ _ _ _ _ (by decide) (by decide) (by decide) (by decide) (by decide), fk1_row _ _ _ (by decide) (by decide) (by decide) (by decide)]
      · rw [up2_row _ _ _ (by decide), cpg_row _ _ _ _ (by decide), fkG, gvC_row _ _ _ _ _ _ _ (by decide) (by decide) (by decide) (by decide) (by decide), fk1_row _ _ _ (by decide) (by decide) (by decide) (by decide)]
      · rw [up2_row _ _ _ (by decide), fk3_row _ _ _ _ (by decide) (by decide) (by decide) (by decide) (by decide) (by decide) (by decide) (by decide) (by decide)]
      · rw [up2_row _ _ _ (by decide), fk3_row _ _ _ _ (by decide) (by decide) (by decide) (by decide) (by decide) (by decide) (by decide) (by decide) (by decide)]
      · intro q _ e
        by_cases hq : q = c + 1
        · rw [hq, up2_at]
        · rw [up2_col _ _ _ hq, fk3_row _ _ _ _ (by decide) (by decide) (by decide) (by decide) (by decide) (by decide) (by decide) (by decide) (by decide)]
          exact e
    have hz' : up2 (cpg (fkG C i c s F) i c s) 15 c 1 46 1 = nI z := by
      rw [up2_row _ _ _ (by decide), cpg_row _ _ _ _ (by decide), fkG, gvC_row _ _ _ _ _ _ _ (by decide) (by decide) (by decide) (by decide) (by decide), fk1_row _ _ _ (by decide) (by decide) (by decide) (by decide)]
      exact hz
    obtain ⟨z8, m15, hr⟩ := RW_app (t' := t) (p := c + 1) h1 hz' hz8 (by omega) (by omega) (fun j hj => by
      rw [up2_row _ _ _ (by decide), fk3_row _ _ _ _ (by decide) (by decide) (by decide) (by decide) (by decide) (by decide) (by decide) (by decide) (by decide)]
      exact hn12 j hj) (up2_at _ _ _ _) (Or.inl rfl) ht
    have e10 : cpg (fkG C i c s F) i c s 10 c = nI (c + 1) := by
      rw [cpg_row _ _ _ _ (by decide), fkG, gvC_row _ _ _ _ _ _ _ (by decide) (by decide) (by decide) (by decide) (by decide), fk1_row _ _ _ (by decide) (by decide) (by decide) (by decide)]
      exact ca1
    have eC : mrC (cpg (fkG C i c s F) i c s) c z = up2 (up2 (up2 (cpg (fkG C i c s F) i c s) 15 c 1) 47 z (nI (c + 1))) 46 1 (nI (z + 1)) := by rw [mrC, apC, if_pos z8, e10]
    refine hr _ _ (by rw [eC, up2_at]) (by rw [eC, up2_row _ _ _ (by decide)]) (by rw [frkM, wakM, up2_at]) (by rw [frkM, wakM, up2_row _ _ _ (by decide)]) (by rw [frkM, wakM, up2_row _ _ _ (by decide), up2_row _ _ _ (by decide)])

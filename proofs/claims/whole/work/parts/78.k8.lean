/-! ===== a step, on both sides ===== -/
theorem an_0 (B : Nat → Nat → Int32) (i F s u z n : Nat) (a : Int32) {j : Nat} (h8 : j ≠ 8) (h12 : j ≠ 12) : (anC B i F s u z n a).2 0 j = B 0 j := by
  have en : ∀ i s z code, enC B i s z code 0 = B 0 := fun i s z code => enC_row _ _ _ _ _ (by decide) (by decide) (by decide) (by decide) (by decide) (by decide) (by decide) (by decide) (by decide)
  have hun := anC.eq_1 B i F s u z n a
  obtain ⟨r, hr⟩ : ∃ r, r = B 20 (32 * i + 17) := ⟨_, rfl⟩
  rw [← hr] at hun
  by_cases h0 : r = 0
  · rw [if_pos h0] at hun
    rw [hun]
    dsimp only
    exact up2_col _ _ _ h12
  rw [if_neg h0] at hun
  by_cases h1 : r = 1
  · rw [if_pos h1] at hun
    rw [hun]
    dsimp only
    rw [en]
  rw [if_neg h1] at hun
  by_cases h2 : r = 2
  · rw [if_pos h2] at hun
    rw [hun]
  rw [if_neg h2] at hun
  by_cases h3 : r = 3
  · rw [if_pos h3] at hun
    rw [hun]
    unfold fkC
    split
    · dsimp only
      rw [mrC_row _ _ _ (by decide) (by decide) (by decide), cpg_row _ _ _ _ (by decide), fkG, gvC_row _ _ _ _ _ _ _ (by decide) (by decide) (by decide) (by decide) (by decide), fk1_row _ _ _ (by decide) (by decide) (by decide) (by decide)]
    · rfl
  rw [if_neg h3] at hun
  by_cases h4 : r = 4
  · rw [if_pos h4] at hun
    rw [hun]
    unfold coC
    split
    · dsimp only
      rw [sR_row _ _ _ _ (by decide), up2_row _ _ _ (by decide)]
    · rfl
  rw [if_neg h4] at hun
  by_cases h5 : r = 5
  · rw [if_pos h5] at hun
    rw [hun]
    unfold grC
    split
    · dsimp only
      rw [gvC_row _ _ _ _ _ _ _ (by decide) (by decide) (by decide) (by decide) (by decide)]
    · rfl
  rw [if_neg h5] at hun
  by_cases h6 : r = 6
  · rw [if_pos h6] at hun
    rw [hun]
    unfold wtC
    split
    · unfold prC
      split
      · dsimp only
        rw [up2_col _ _ _ h8, up2_row _ _ _ (by decide)]
      · rfl
    split
    · dsimp only
      unfold puC
      split
      · rw [up2_row _ _ _ (by decide), up2_row _ _ _ (by decide)]
      · rfl
    · rfl
  rw [if_neg h6] at hun
  by_cases h7 : r = 7
  · rw [if_pos h7] at hun
    rw [hun]
    unfold rdC
    split
    · dsimp only
      unfold taC
      split
      · rfl
      · rw [up2_row _ _ _ (by decide), up2_row _ _ _ (by decide)]
    · rfl
  rw [if_neg h7] at hun
  by_cases h8 : r = 8
  · rw [if_pos h8] at hun
    rw [hun]
    unfold opC
    split
    · dsimp only
      rw [sR_row _ _ _ _ (by decide), up2_row _ _ _ (by decide), up2_row _ _ _ (by decide), emC, up2_row _ _ _ (by decide), up2_row _ _ _ (by decide)]
    · rfl
  rw [if_neg h8] at hun
  by_cases h9 : r = 9
  · rw [if_pos h9] at hun
    rw [hun]
    unfold csC
    split
    · rfl
    · dsimp only
      rw [up2_row _ _ _ (by decide)]
  rw [if_neg h9] at hun
  by_cases h10 : r = 10
  · rw [if_pos h10] at hun
    rw [hun]
    unfold duC
    split
    · dsimp only
      rw [up2_row _ _ _ (by decide)]
    · rfl
  rw [if_neg h10] at hun
  by_cases h11 : r = 11
  · rw [if_pos h11] at hun
    rw [hun]
    unfold kiC
    split
    · dsimp only
      rw [en]
    · rfl
  rw [if_neg h11] at hun
  rw [hun]
theorem ms3_0 (C : Nat → Nat → Int32) (i F s u z n : Nat) (o : Int32) {j : Nat} (h8 : j ≠ 8) (h12 : j ≠ 12) : ms3 C i F s u z n o 0 j = C 0 j := by
  have bc : bcC C i 0 = C 0 := by
    unfold bcC
    split
    · rw [up2_row _ _ _ (by decide), up2_row _ _ _ (by decide)]
    · rw [up2_row _ _ _ (by decide)]
  unfold ms3
  split
  · split
    · rw [sR_row _ _ _ _ (by decide), an_0 _ _ _ _ _ _ _ _ h8 h12, bc]
    · rw [bc]
  split
  · rfl
  · rw [enC_row _ _ _ _ _ (by decide) (by decide) (by decide) (by decide) (by decide) (by decide) (by decide) (by decide) (by decide)]
theorem ptn_0 (C : Nat → Nat → Int32) (i z : Nat) {j : Nat} (h : j ≠ 10) : ptn C i z 0 j = C 0 j := by
  unfold ptn
  repeat' split
  · rfl
  · rw [up2_col _ _ _ h]; exact apC_ne _ _ _ _ (by decide) (by decide)
  · exact up2_col _ _ _ h
theorem step_go {G : iG} {F : Nat} {C M : Nat → Nat → Int32} (h : JI F C M) (hgo : M 0 17 ≠ 0 ∨ M 0 15 ≠ 0) : livk M 8 = true ∧ ∃ p C' M', 1 ≤ p ∧ p ≤ 8 ∧ JI F C' M' ∧ (∀ M0, MI G m_K_makeStep 5 [vR 0] (HW F C M0) (fun x h' => x = nI p ∧ h' = HW F C' M0)) ∧ (∀ C0, MI G m_MOD_step 7 [vR 50] (HW F C0 M) (fun x h' => x = nI p ∧ h' = HW F C0 M')) := by
  obtain ⟨t, T, U, W, hJ, htu, hb, hfr⟩ := h
  obtain ⟨z, hz8, hz, hm⟩ := RW_z hJ.2.2.2.2
  have hF := hJ.1.1
  obtain ⟨b1, ⟨q0, hq1, hq9, hqc, hqm⟩, _, _, _, _, b7, _, b9, b10, b11, b12⟩ := id hJ.1.2
  have liv : ∀ p, 1 ≤ p → p ≤ 8 → M 4 p = 1 → livk M 8 = true := fun p hp1 hp8 h4 => any_of (k := p - 1) (by omega) (by
    show (decide (0 < M 4 (p - 1 + 1)) && !decide (M 4 (p - 1 + 1) = 5)) = true
    rw [show p - 1 + 1 = p by omega, h4]
    decide)
  -- the turn
  have st1 : ∃ p U1 W1 a, 1 ≤ p ∧ p ≤ 8 ∧ J F p D0 (nI p) U1 (nI p) W1 (ms1 C z) (stp1 M) ∧ stp1 M 4 p = 1 ∧ a < q0 ∧ U1 = nI (q0 - a) ∧ W1 = nI a ∧ M 4 p = 1 ∧ (M 0 17 = 0 → 1 ≤ z) := by
    rcases htu with ⟨hT, ht⟩ | ⟨hT, ht1, ht8, h4, a, q, haq, hq, eq1, eU, eW⟩
    · subst hT
      subst ht
      have hz1 : 1 ≤ z := by
        rcases hgo with q | q
        · exact absurd b11 q
        · rcases Nat.eq_zero_or_pos z with w | w
          · subst w
            exact absurd hm q
          · exact w
      obtain ⟨p, hp1, hp8, h4, e1, e2, hJ1⟩ := J_take hJ hz hz8 hz1
      refine ⟨p, C 0 4, 0, 0, hp1, hp8, hJ1, ?_, by omega, by rw [hqc, Nat.sub_zero], rfl, h4, fun _ => hz1⟩
      rw [stp1, if_pos b11, up2_row _ _ _ (by decide), unrw_row _ _ _ (by decide) (by decide), up2_row _ _ _ (by decide)]
      exact h4
    · have n0 : ¬ T = 0 := by rw [hT]; exact nI_ne0 (by omega) (by omega)
      have eq : q0 = q := (nI_eq (by omega) (by omega)).mp (hqm.symm.trans eq1)
      subst eq
      subst hT
      refine ⟨t, U, W, a, ht1, ht8, ?_, ?_, haq, eU, eW, h4, fun w => absurd (b11.symm.trans w) n0⟩
      · rw [ms1, if_neg (by rw [b9]; exact n0), stp1, if_neg (by rw [b11]; exact n0)]
        exact hJ
      · rw [stp1, if_neg (by rw [b11]; exact n0)]; exact h4
  obtain ⟨p, U1, W1, a, hp1, hp8, hJ1, h41, haq, eU, eW, h4M, hz1⟩ := st1
  have hl := liv p hp1 hp8 h4M
  refine ⟨hl, ?_⟩
  obtain ⟨i, rfl⟩ : ∃ i, p = i + 1 := ⟨p - 1, by omega⟩
  have hi : i < 8 := by omega
  obtain ⟨_, _, _, _, _, _, _, _, d9, d10, d11, d12⟩ := id hJ1.1.2
  -- the instruction
  obtain ⟨C1, eC1⟩ : ∃ C1, C1 = ms1 C z := ⟨_, rfl⟩
  obtain ⟨M2, eM2⟩ : ∃ M2, M2 = stp2 M := ⟨_, rfl⟩
  have eM2' : M2 = up2 (stp1 M) 0 24 (nI (i + 1)) := by rw [eM2, stp2, d11]
  have h24 : M2 0 24 = nI (i + 1) := by rw [eM2', up2_at]
  have h42 : M2 4 (i + 1) = 1 := by rw [eM2', up2_row _ _ _ (by decide)]; exact h41
  have hJ2 : J F (i + 1) D0 (nI (i + 1)) U1 (nI (i + 1)) W1 C1 M2 := by rw [eM2', eC1]; exact J_scr hJ1 _ (by decide)
  have ems2 : ms2 C1 = up2 (up2 C1 0 12 0) 0 11 (U1 - 1) := by rw [ms2, eC1, d10]
  have hJ3 : J F (i + 1) D0 (nI (i + 1)) (U1 - 1) (nI (i + 1)) W1 (ms2 C1) (ins1 M2 (i + 1)) := by
    rw [ems2, ins1]
    exact J_lft (J_scr (J_yld (J_scr hJ2 1 (by decide)) 0) _ (by decide)) _
  obtain ⟨z1, hz18, hz1c, hz1m⟩ := RW_z hJ3.2.2.2.2
  obtain ⟨s, hs8, hs, hpg⟩ := pg_of hJ3 i hi
  obtain ⟨n, hn2, hn, _⟩ := hJ3.1.2.2.2.2.2.1
  obtain ⟨hJ4, hcb⟩ := J_ins hi hJ3 h42 h24 hs hs8 hz1c hz18 hn hn2
  obtain ⟨z3, hz38, hz3c, hz3m⟩ := RW_z hJ4.2.2.2.2
  obtain ⟨C3, eC3⟩ : ∃ C3, C3 = ms3 (exC (ms2 C1) i s).2 i F s (nfr M2 F) z1 n (exC (ms2 C1) i s).1 := ⟨_, rfl⟩
  obtain ⟨N3, eN3⟩ : ∃ N3, N3 = insM M2 (i + 1) z1 s F := ⟨_, rfl⟩
  rw [← eC3, ← eN3] at hJ4
  have c0 : ∀ j, j ≠ 8 → j ≠ 12 → j ≠ 10 → j ≠ 11 → C3 0 j = C 0 j := fun j q8 q12 q10 q11 => by
    rw [eC3, ms3_0 _ _ _ _ _ _ _ _ q8 q12, exC_row _ _ _ (by decide) (by decide) (by decide), ems2, up2_col _ _ _ q11, up2_col _ _ _ q12, eC1]
    unfold ms1
    split
    · rw [up2_col _ _ _ q11, up2_col _ _ _ q10, drC_row _ _ _ (by decide) (by decide)]
    · rfl
  -- the turn is passed
  have hW : W1 + 1 = nI (a + 1) := by rw [eW]; exact nI_1 a
  have hU : U1 - 1 = nI (q0 - (a + 1)) := by
    rw [eU]
    have := pk_sub (a := q0 - a) (b := 1) (by omega)
    rw [show q0 - (a + 1) = q0 - a - 1 by omega]
    exact this
  have hJ5 : J F (i + 1) D0 (nI (i + 1)) (U1 - 1) (nI (i + 1)) (W1 + 1) C3 (stp4 N3) := by
    have := J_usd hJ4 (W1 + 1)
    rw [stp4, hJ4.1.2.2.2.2.2.2.2.2.2.2.2.2]
    exact this
  have qn : ∀ {t T U V W C' M'}, J F t D0 T U V W C' M' → C' 0 4 = C 0 4 → M' 0 1 = nI q0 := fun hj e => by
    obtain ⟨_, ⟨q', _, hq9', e1, e2⟩, _⟩ := hj.1.2
    have : q' = q0 := (nI_eq (by omega) (by omega)).mp (e1.symm.trans (e.trans hqc))
    rw [e2, this]
  have e1 : stp4 N3 0 1 = nI q0 := qn hJ5 (c0 4 (by decide) (by decide) (by decide) (by decide))
  have hUW : 0 < U1 - 1 ↔ ¬ W1 + 1 = stp4 N3 0 1 := by
    rw [hU, hW, e1]
    have x1 := nI_ltI (a := 0) (b := q0 - (a + 1)) (by decide) (by omega)
    have x2 := nI_eq (a := a + 1) (b := q0) (by omega) (by omega)
    constructor
    · intro w1 w2
      have := x1.mp w1
      have := x2.mp w2
      omega
    · intro w
      refine x1.mpr ?_
      rcases Nat.lt_or_ge (a + 1) q0 with w2 | w2
      · omega
      · exact absurd (x2.mpr (by omega)) w
  have hz3' : C3 46 1 = nI z3 := by rw [eC3]; exact hz3c
  have hpass := J_pass hJ5 hi hz3' hz38 hUW
  obtain ⟨C5, eC5⟩ : ∃ C5, C5 = ptn C3 i z3 := ⟨_, rfl⟩
  obtain ⟨N5, eN5⟩ : ∃ N5, N5 = stp5 (stp4 N3) (i + 1) := ⟨_, rfl⟩
  rw [← eC5, ← eN5] at hpass
  have eC' : ms4 C3 i = wsk C5 8 := by rw [ms4, hz3', nv_nI (by omega), eC5]
  have eM' : stpM M (i + 1) z1 s F = wkl N5 8 := by rw [stpM, ← eM2, ← eN3, eN5]
  have c05 : ∀ j, j ≠ 8 → j ≠ 12 → j ≠ 10 → j ≠ 11 → wsk C5 8 0 j = C 0 j := fun j q8 q12 q10 q11 => by
    rw [wsk_ne C5 j (by decide) (by decide) (by decide) 8, eC5, ptn_0 _ _ _ q10]
    exact c0 j q8 q12 q10 q11
  -- before the boot nobody can go
  have hbt : M 0 6 = 1 := by
    rcases hb with w | w
    · obtain ⟨f1, _⟩ := hfr w
      exact absurd (h4M.symm.trans (f1 i hi)) (by decide)
    · exact w
  have fin6 : ∀ {t T U V W M'}, J F t D0 T U V W (wsk C5 8) M' → M' 0 6 = 1 := fun hj => by
    obtain ⟨_, _, _, _, _, _, x7, _⟩ := hj.1.2
    rw [← x7, c05 9 (by decide) (by decide) (by decide) (by decide), b7]
    exact hbt
  have hJI : JI F (wsk C5 8) (wkl N5 8) ∧ (∀ k, k < 8 → wkok (wkl N5 k) (k + 1)) := by
    rcases hpass with ⟨p4, pU, hJp, es, _⟩ | hJp
    · have h4N : N5 4 (i + 1) = 1 := by
        rw [es]
        exact p4
      obtain ⟨hk, hk4⟩ := J_wake hJp (Or.inr h4N) 8 (Nat.le_refl _)
      refine ⟨⟨i + 1, nI (i + 1), U1 - 1, W1 + 1, hk, Or.inr ⟨rfl, by omega, by omega, ?_, a + 1, q0, ?_, hq9, qn hk (c05 4 (by decide) (by decide) (by decide) (by decide)), hU, hW⟩, Or.inr (fin6 hk), fun w => absurd (w.symm.trans (fin6 hk)) (by decide)⟩, fun k hk8 => wkok_of (J_wake hJp (Or.inr h4N) k (by omega)).1 hk8⟩
      · rcases hk4 with w | w
        · omega
        · exact w
      · rw [hU] at pU
        have := (nI_ltI (a := 0) (by decide) (by omega)).mp pU
        omega
    · obtain ⟨hk, hk4⟩ := J_wake hJp (Or.inl rfl) 8 (Nat.le_refl _)
      exact ⟨⟨0, 0, U1 - 1, W1 + 1, hk, Or.inl ⟨rfl, rfl⟩, Or.inr (fin6 hk), fun w => absurd (w.symm.trans (fin6 hk)) (by decide)⟩, fun k hk8 => wkok_of (J_wake hJp (Or.inl rfl) k (by omega)).1 hk8⟩
  refine ⟨i + 1, wsk C5 8, wkl N5 8, by omega, by omega, hJI.1, fun M0 => ?_, fun C0 => ?_⟩
  · have hcl := c_makeStep_go (G := G) (F := F) (C := C) (M := M0) (z := z) (i := i) (s := s) (u := nfr M2 F) (z1 := z1) (n := n) hz hz8 hi d9 (by rw [(hJ1.2.2.1 i hi).2.1, h41]; decide) hF (by rw [← eC1]; exact hs) hs8 (by rw [← eC1]; exact hpg) (by
      rw [← eC1]
      intro w
      rw [exC_m2 _ _ _ w]
      refine ⟨dsE_of hJ3 i hi, fun ho => ?_⟩
      have := KW_of (CB_bc (hcb w) ho).2
      rw [nfr_2 (M := M2) (fun j => by rw [ins2, up2_row _ _ _ (by decide), ins1, up2_row _ _ _ (by decide), up2_row _ _ _ (by decide), up2_row _ _ _ (by decide)])] at this
      exact this) (by
      rw [← eC1]
      intro _
      have er : ∀ b, b ≠ 2 ∧ b ≠ 16 ∧ b ≠ 20 → (exC (ms2 C1) i s).2 b = ms2 C1 b := fun b ⟨x, y, w⟩ => exC_row _ _ _ x y w
      refine ⟨hF, by rw [er _ (by decide)]; exact hs, hs8, ?_, by rw [er _ (by decide)]; exact hz1c, hz18⟩
      intro k hk
      rw [er _ (by decide)]
      exact hpg k hk) (by rw [← eC1]; exact ⟨z3, hz38, hz3c⟩) (by rw [← eC1, ← eC3]; exact dsE_of hJ4)
    rw [← eC1, ← eC3, eC'] at hcl
    exact hcl
  · have hrf := c_step_go (G := G) (F := F) (C := C0) (M := M) (p := i + 1) (m := z1) (s := s) (fr := F) hl (fun w => ⟨z, hm, hz1 w, by omega⟩) (by
      rw [← eM2]
      exact CW_of hJ2 hi h24 h42 (by rw [ems2, up2_row _ _ _ (by decide), up2_row _ _ _ (by decide)] at hs; exact hs) hs8 (by rw [ems2, up2_row _ _ _ (by decide), up2_row _ _ _ (by decide)] at hz1c; exact hz1c) hz18) (by
      rw [← eM2]
      exact ⟨z3, by omega, hz3m⟩) (by
      rw [← eM2, ← eN3, ← eN5]
      exact hJI.2)
    rw [eM'] at hrf
    exact hrf

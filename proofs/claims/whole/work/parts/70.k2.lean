/-! ===== the class beside the reference: the calls, second row ===== -/
theorem up2_c {σ σ' : Nat → Nat → Int32} {b : Nat} (h : σ b = σ' b) (a j : Nat) (x : Int32) : up2 σ a j x b = up2 σ' a j x b := by
  funext k
  simp only [up2]
  rw [h]
theorem upr_c {σ σ' : Nat → Nat → Int32} {b : Nat} (h : σ b = σ' b) (a lo n : Nat) (f : Nat → Int32) : upr σ a lo n f b = upr σ' a lo n f b := by
  funext k
  simp only [upr]
  rw [h]
theorem upl_c {σ σ' : Nat → Nat → Int32} {b : Nat} (h : σ b = σ' b) (a : Nat) (l : List Int32) : upl σ a l b = upl σ' a l b := by
  funext k
  simp only [upl]
  rw [h]
theorem tbk_c {C C' : Nat → Nat → Int32} (h : ∀ b, b ≠ 20 → C' b = C b) (i : Nat) {b : Nat} (hb : b ≠ 20) : ∀ k, tbk C' i k b = tbk C i k b
  | 0 => h b hb
  | k + 1 => by
    unfold tbk
    rw [h 21 (by decide), tbk_c h i (by decide : (1 : Nat) ≠ 20) k]
    exact up2_c (up2_c (tbk_c h i hb k) _ _ _) _ _ _
theorem hok_c {C C' : Nat → Nat → Int32} (h : ∀ b, b ≠ 20 → C' b = C b) (i : Nat) (heir : Int32) : ∀ k b, b ≠ 20 → hok C' i heir k b = hok C i heir k b
  | 0, b, hb => h b hb
  | k + 1, b, hb => by
    have ih := hok_c h i heir k
    have hch : chC (hok C' i heir k) k i = chC (hok C i heir k) k i := by rw [chC, chC, ih 15 (by decide), ih 17 (by decide), ih 10 (by decide)]
    unfold hok
    rw [hch, ih 15 (by decide)]
    split
    · split
      · exact up2_c (up2_c (ih b hb) _ _ _) _ _ _
      · exact up2_c (ih b hb) _ _ _
    · exact ih b hb
theorem en1_c {C C' : Nat → Nat → Int32} (h : ∀ b, b ≠ 20 → C' b = C b) (i s z : Nat) (code : Int32) {b : Nat} (hb : b ≠ 20) : en1 C' i s z code b = en1 C i s z code b := by
  have e : ∀ b, b ≠ 20 → upr (tbC C' i s) 22 (6 * i) 6 (fun _ => -1) b = upr (tbC C i s) 22 (6 * i) 6 (fun _ => -1) b := fun b hb => upr_c (up2_c (tbk_c h i hb s) _ _ _) _ _ _ _
  have ef : flt (upr (tbC C' i s) 22 (6 * i) 6 (fun _ => -1)) 47 (C i.succ.pred.succ.pred 0) z = flt (upr (tbC C i s) 22 (6 * i) 6 (fun _ => -1)) 47 (C i.succ.pred.succ.pred 0) z := flt_row (e 47 (by decide)) _ _
  unfold en1 drC
  rw [h 10 (by decide), flt_row (e 47 (by decide))]
  exact up2_c (up2_c (up2_c (upl_c (e b hb) _ _) _ _ _) _ _ _) _ _ _
theorem enC_c {C C' : Nat → Nat → Int32} (h : ∀ b, b ≠ 20 → C' b = C b) (i s z : Nat) (code : Int32) {b : Nat} (hb : b ≠ 20) : enC C' i s z code b = enC C i s z code b := by
  have h1 : ∀ b, b ≠ 20 → en1 C' i s z code b = en1 C i s z code b := fun b hb => en1_c h i s z code hb
  have h2 : ∀ b, b ≠ 20 → hoC (en1 C' i s z code) i b = hoC (en1 C i s z code) i b := fun b hb => by
    rw [hoC, hoC, h1 15 (by decide)]
    exact hok_c h1 i _ 8 b hb
  unfold enC
  rw [h2 17 (by decide), h2 10 (by decide)]
  split
  · exact up2_c (h2 b hb) _ _ _
  · exact h2 b hb
theorem enC_sR (C : Nat → Nat → Int32) (j s z : Nat) (code : Int32) (i k : Nat) (v : Int32) : enC (sR C i k v) j s z code = sR (enC C j s z code) i k v := by
  unfold sR
  split
  · rfl
  · funext b
    by_cases hb : b = 20
    · subst hb
      rw [enC_row _ _ _ _ _ (by decide) (by decide) (by decide) (by decide) (by decide) (by decide) (by decide) (by decide) (by decide)]
      refine up2_c ?_ _ _ _
      rw [enC_row _ _ _ _ _ (by decide) (by decide) (by decide) (by decide) (by decide) (by decide) (by decide) (by decide) (by decide)]
    · rw [enC_c (C := C) (fun b hb => up2_row _ _ _ hb) j s z code hb, up2_row _ _ _ hb]
theorem endM_27' {M : Nat → Nat → Int32} {q : Nat} (code : Int32) (m : Nat) (hq : nI q ≠ M 0 24) : endM M q code m 0 27 = M 0 27 := by
  rw [endM, end7_0 _ _ _ _ (by decide), if_neg hq, end7_0 _ _ _ _ (by decide)]
section CALLS2
variable {F i z s n : Nat} {T U V W : Int32} {B N : Nat → Nat → Int32}
theorem J_c11 (h : CX F i z s n T U V W B N) (a : Int32) : J F (i + 1) D0 T U V W (sR (kiC B z a).2 i 10 (kiC B z a).1) (fin (kilM N (i + 1) a z) (i + 1)) := by
  have h' := h
  obtain ⟨hi, hJ, h4, h16, h27, h24, hs, hs8, hz, hz8, _⟩ := h
  unfold kiC kilM
  by_cases hc : isbC B a = true ∧ ¬ B 15 (nv a - 1) = 5
  · obtain ⟨j, hj, rfl, h15, e⟩ := isbC_of hc.1
    have hpj := hJ.2.2.1 j hj
    rw [e] at hc
    have n0 : N 4 (j + 1) ≠ 0 := by rw [← hpj.2.1]; exact h15
    have n5 : N 4 (j + 1) ≠ 5 := by rw [← hpj.2.1]; exact hc.2
    have hk : klv N (nI (j + 1)) = true := by
      have k1 : decide ((1 : Int32) ≤ nI (j + 1)) = true := decide_eq_true (nI_le (a := 1) (by omega) (by omega))
      have k2 : decide (nI (j + 1) ≤ (8 : Int32)) = true := decide_eq_true (nI_le (b := 8) (by omega) (by decide))
      rw [klv, nv_nI (by omega), k1, k2, decide_eq_true ((st_pos hpj).1.mpr n0), decide_eq_false n5]
      rfl
    obtain ⟨sj, hsj8, r1, r2, _⟩ := hJ.2.1.2.2.2.1 j hj
    rw [e, if_pos hc, if_pos hk, r1, nv_nI (by omega), nv_nI (by omega)]
    simp only
    rw [← enC_sR]
    have hg := J_reg hJ hi (k := 10) (by decide) 0 (Or.inr (Or.inl h4))
    by_cases hij : j = i
    · subst hij
      rw [if_pos rfl]
      have hJ2 := J_pc (D' := D0) (v := N 0 26) (w := sR B j 10 0 16 j) hg hj (fun j' _ hj' => by rw [D0, D4, if_neg hj']) (by rw [sR_row _ _ _ _ (by decide), h16]; exact (Int32.add_zero _).symm)
      rw [up2_same rfl] at hJ2
      have e := J_end 137 hJ2 hj (by rw [up2_row _ _ _ (by decide), setM_row _ _ _ _ (by decide)]; exact n0) (s := sj) (by rw [sR_row _ _ _ _ (by decide)]; exact r1) hsj8 (by rw [sR_row _ _ _ _ (by decide)]; exact hz) hz8
      rw [fin, if_pos (endM_27 _ _ (by rw [up2_row _ _ _ (by decide), setM_row _ _ _ _ (by decide)]; exact h24))]
      exact e
    · rw [if_neg (fun q => hij (by have := (nI_eq (by omega) (by omega)).mp q; omega))]
      have e := J_end 137 hg hj (by rw [setM_row _ _ _ _ (by decide)]; exact n0) (s := sj) (by rw [sR_row _ _ _ _ (by decide)]; exact r1) hsj8 (by rw [sR_row _ _ _ _ (by decide)]; exact hz) hz8
      refine J_fin e hi ?_ ?_
      · rw [enC_row _ _ _ _ _ (by decide) (by decide) (by decide) (by decide) (by decide) (by decide) (by decide) (by decide) (by decide), sR_row _ _ _ _ (by decide), endM_0 _ _ _ _ (by decide) (by decide), setM_row _ _ _ _ (by decide)]
        exact h16
      · rw [endM_27' _ _ (by rw [setM_row _ _ _ _ (by decide), h24]; exact fun q => hij (by have := (nI_eq (by omega) (by omega)).mp q; omega)), setM_row _ _ _ _ (by decide), h27]
        decide
  · have hk : ¬ klv N a = true := fun q => hc (by
      simp only [klv, Bool.and_eq_true, decide_eq_true_eq, Bool.not_eq_true', decide_eq_false_iff_not] at q
      obtain ⟨⟨⟨q1, q8⟩, q0⟩, q5⟩ := q
      obtain ⟨p, p1, p8, rfl⟩ := in18 q1 q8
      obtain ⟨j, rfl⟩ : ∃ j, p = j + 1 := ⟨p - 1, by omega⟩
      have hpj := hJ.2.2.1 j (by omega)
      rw [nv_nI (by omega)] at q0 q5 ⊢
      rw [isbC_nI B (show j < 8 by omega), Nat.add_sub_cancel, hpj.2.1]
      exact ⟨by simpa using (st_pos hpj).1.mp q0, q5⟩)
    rw [if_neg hc, if_neg hk]
    exact J_ans h' (-1)
/-- the reference's lostChild beside the class's search -/
theorem lcf_eq {D : Nat → Int32} {C M : Nat → Nat → Int32} (h : ∀ i, i < 8 → PR D C M i) {i : Nat} (hi : i < 8) : ∀ k, k ≤ 8 → (ecC C i k (8 - k) < 8 → lcf M (nI (i + 1)) k = nI (ecC C i k (8 - k) + 1)) ∧ (¬ ecC C i k (8 - k) < 8 → ((∃ j, 8 - k ≤ j ∧ j < 8 ∧ chC C j i = true) → lcf M (nI (i + 1)) k = 0) ∧ ((¬ ∃ j, 8 - k ≤ j ∧ j < 8 ∧ chC C j i = true) → lcf M (nI (i + 1)) k = -1))
  | 0, _ => ⟨fun q => absurd q (by unfold ecC; omega), fun _ => ⟨fun ⟨j, a, b, _⟩ => absurd b (by omega), fun _ => rfl⟩⟩
  | k + 1, hk => by
    obtain ⟨i1, i2⟩ := lcf_eq h hi k (by omega)
    obtain ⟨j, hj⟩ : ∃ j, j = 8 - (k + 1) := ⟨_, rfl⟩
    have e8 : 8 - k = j + 1 := by omega
    have hj8 : j < 8 := by omega
    rw [← hj]
    rw [e8] at i1 i2
    have hc := chC_eq (h j hj8) (h i hi).1
    have h15 := (h j hj8).2.1
    have hec : ecC C i (k + 1) j = if chC C j i = true ∧ C 15 j = 5 then j else ecC C i k (j + 1) := rfl
    have hlc : lcf M (nI (i + 1)) (k + 1) = if (0 < M 4 (j + 1) ∧ M 6 (j + 1) = nI (i + 1)) ∧ M 4 (j + 1) = 5 then nI (j + 1) else if (0 < M 4 (j + 1) ∧ M 6 (j + 1) = nI (i + 1)) ∧ lcf M (nI (i + 1)) k < 0 then 0 else lcf M (nI (i + 1)) k := by rw [lcf, e8]
    rw [hec, hlc]
    by_cases h1 : chC C j i = true ∧ C 15 j = 5
    · rw [if_pos h1, if_pos ⟨hc.mp h1.1, by rw [← h15]; exact h1.2⟩]
      exact ⟨fun _ => rfl, fun q => absurd hj8 q⟩
    · rw [if_neg h1, if_neg (fun q => h1 ⟨hc.mpr q.1, by rw [h15]; exact q.2⟩)]
      constructor
      · intro q
        rw [i1 q, if_neg (fun w => absurd w.2 (nI_pos (by have := ecC_spec C i k (j + 1); omega)))]
      · intro q
        obtain ⟨i3, i4⟩ := i2 q
        by_cases hex : ∃ j', j + 1 ≤ j' ∧ j' < 8 ∧ chC C j' i = true
        · rw [i3 hex, if_neg (fun w => absurd w.2 (by decide))]
          obtain ⟨j', a, b, c⟩ := hex
          exact ⟨fun _ => rfl, fun w => absurd ⟨j', by omega, b, c⟩ w⟩
        · rw [i4 hex]
          by_cases hcj : chC C j i = true
          · rw [if_pos ⟨hc.mp hcj, by decide⟩]
            exact ⟨fun _ => rfl, fun w => absurd ⟨j, Nat.le_refl _, hj8, hcj⟩ w⟩
          · rw [if_neg (fun w => hcj (hc.mpr w.1))]
            refine ⟨fun ⟨j', a, b, c⟩ => ?_, fun _ => rfl⟩
            by_cases e : j' = j
            · rw [e] at c; exact absurd c hcj
            · exact absurd ⟨j', by omega, b, c⟩ hex
theorem hcC_iff (C : Nat → Nat → Int32) (i : Nat) : hcC C i = true ↔ ∃ j, j < 8 ∧ chC C j i = true := by
  unfold hcC
  rw [List.any_eq_true]
  exact ⟨fun ⟨j, a, b⟩ => ⟨j, List.mem_range.mp a, b⟩, fun ⟨j, a, b⟩ => ⟨j, List.mem_range.mpr a, b⟩⟩
theorem lcf_0 {D : Nat → Int32} {C M : Nat → Nat → Int32} (h : ∀ i, i < 8 → PR D C M i) {i : Nat} (hi : i < 8) : (lcf M (nI (i + 1)) 8 = 0 ↔ hcC C i = true ∧ ¬ ecC C i 8 0 < 8) ∧ (ecC C i 8 0 < 8 → lcf M (nI (i + 1)) 8 = nI (ecC C i 8 0 + 1)) ∧ (¬ ecC C i 8 0 < 8 → ¬ hcC C i = true → lcf M (nI (i + 1)) 8 = -1) := by
  obtain ⟨h1, h2⟩ := lcf_eq h hi 8 (Nat.le_refl _)
  rw [Nat.sub_self] at h1 h2
  refine ⟨⟨fun q => ?_, fun q => ?_⟩, h1, fun q1 q2 => ?_⟩
  · have hn : ¬ ecC C i 8 0 < 8 := fun w => by
      rw [h1 w] at q
      exact nI_ne0 (by omega) (by omega) q
    refine ⟨?_, hn⟩
    by_cases hex : ∃ j, 0 ≤ j ∧ j < 8 ∧ chC C j i = true
    · obtain ⟨j, _, b, c⟩ := hex
      exact (hcC_iff C i).mpr ⟨j, b, c⟩
    · rw [(h2 hn).2 hex] at q
      exact absurd q (by decide)
  · obtain ⟨j, b, c⟩ := (hcC_iff C i).mp q.1
    exact (h2 q.2).1 ⟨j, Nat.zero_le _, b, c⟩
  · exact (h2 q1).2 (fun ⟨j, _, b, c⟩ => q2 ((hcC_iff C i).mpr ⟨j, b, c⟩))
theorem J_c4 (h : CX F i z s n T U V W B N) (hl : lcf N (nI (i + 1)) 8 ≠ 0) : J F (i + 1) D0 T U V W (sR (coC B i).2 i 10 (coC B i).1) (fin (waiM N (i + 1)) (i + 1)) := by
  have h' := h
  obtain ⟨hi, hJ, h4, h16, h27, h24, hs, hs8, hz, hz8, _⟩ := h
  obtain ⟨l0, l1, l2⟩ := lcf_0 hJ.2.2.1 hi
  unfold coC waiM
  rw [if_neg hl]
  by_cases he : ecC B i 8 0 < 8
  · obtain ⟨e, ee⟩ : ∃ e, e = ecC B i 8 0 := ⟨_, rfl⟩
    have hsp := (ecC_spec B i 8 0).2.2 (by omega)
    have hx := l1 he
    rw [← ee] at hx he hsp ⊢
    rw [hx]
    have hpe := hJ.2.2.1 e he
    have h5 : N 4 (e + 1) = 5 := by rw [← hpe.2.1]; exact hsp.2
    have hie : i ≠ e := fun q => by rw [q, h5] at h4; exact absurd h4 (by decide)
    rw [if_pos he, if_pos (show (0 : Int32) < nI (e + 1) from (nI_ltI (a := 0) (by decide) (by omega)).mpr (by omega)), nv_nI (by omega)]
    simp only
    have hg := J_reg hJ hi (k := 10) (by decide) (nI (e + 1)) (Or.inr (Or.inl h4))
    have hg2 := J_reg hg hi (k := 11) (by decide) (N 5 (e + 1)) (Or.inr (Or.inl (by rw [setM_row _ _ _ _ (by decide)]; exact h4)))
    have hg3 := J_remv hg2 he (Or.inr (by rw [setM_row _ _ _ _ (by decide), setM_row _ _ _ _ (by decide)]; exact h5))
    have eB : sR (sR (up2 B 15 e 0) i 11 (B 18 e)) i 10 (B 10 e) = up2 (sR (sR B i 10 (nI (e + 1))) i 11 (N 5 (e + 1))) 15 e 0 := by
      rw [hpe.2.2.2.2.1 h5, hpe.1, sR, sR, sR, sR, if_neg (by decide), if_neg (by decide), if_neg (by decide), if_neg (by decide)]
      funext a x
      simp only [up2]
      by_cases q10 : a = 20 ∧ x = 32 * i + 10
      · rw [if_pos q10, if_neg (fun w => by omega), if_neg (fun w => by omega), if_pos q10]
      · rw [if_neg q10]
        by_cases q11 : a = 20 ∧ x = 32 * i + 11
        · rw [if_pos q11, if_neg (fun w => by omega), if_pos q11]
        · rw [if_neg q11]
          by_cases q15 : a = 15 ∧ x = e
          · rw [if_pos q15, if_pos q15]
          · rw [if_neg q15, if_neg q15, if_neg q11, if_neg q10]
    rw [eB]
    refine J_fin hg3 hi ?_ ?_
    · rw [up2_row _ _ _ (by decide), sR_row _ _ _ _ (by decide), sR_row _ _ _ _ (by decide), remv_row _ _ (by decide) (by decide) (by decide) (by decide) (by decide), setM_row _ _ _ _ (by decide), setM_row _ _ _ _ (by decide)]
      exact h16
    · rw [remv_row _ _ (by decide) (by decide) (by decide) (by decide) (by decide), setM_row _ _ _ _ (by decide), setM_row _ _ _ _ (by decide), h27]
      decide
  · have hx := l2 he (fun q => hl (l0.mpr ⟨q, he⟩))
    rw [if_neg he, hx, if_neg (by decide)]
    exact J_ans h' (-1)
end CALLS2

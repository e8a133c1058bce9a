/-! ===== the class beside the reference: the calls ===== -/
def D0 : Nat → Int32 := fun _ => 0
def D4 (i : Nat) : Nat → Int32 := fun j => if j = i then 4 else 0
/-- a call of process i + 1 has begun: B is the class behind beginCall, N the reference -/
def CX (F i z s n : Nat) (T U V W : Int32) (B N : Nat → Nat → Int32) : Prop := i < 8 ∧ J F (i + 1) (D4 i) T U V W B N ∧ N 4 (i + 1) = 1 ∧ B 16 i = N 0 26 ∧ N 0 27 = 1 ∧ N 0 24 = nI (i + 1) ∧ B 14 i = nI s ∧ s ≤ 8 ∧ B 46 1 = nI z ∧ z ≤ 8 ∧ B 0 8 = nI n ∧ n ≤ 200
section CALLS
variable {F i z s n : Nat} {T U V W : Int32} {B N : Nat → Nat → Int32}
theorem J_fin {B' N' : Nat → Nat → Int32} (h : J F (i + 1) (D4 i) T U V W B' N') (hi : i < 8) (h16 : B' 16 i = N' 0 26) (h27 : N' 0 27 ≠ 0) : J F (i + 1) D0 T U V W B' (fin N' (i + 1)) := by
  have hJ := J_pc (D' := D0) (v := N' 0 26) (w := B' 16 i) h hi (fun j _ hj => by rw [D0, D4, if_neg hj]) (by rw [h16]; exact (Int32.add_zero _).symm)
  rw [up2_same rfl] at hJ
  rw [fin, if_neg h27]
  exact hJ
theorem sR_same {C : Nat → Nat → Int32} {i k : Nat} {v : Int32} (h : C 20 (32 * i + k) = v) : sR C i k v = C := by
  unfold sR
  split
  · rfl
  · exact up2_same h
theorem CX_reg (h : CX F i z s n T U V W B N) {k : Nat} (hk : k < 32) : B 20 (32 * i + k) = N 9 (32 * (i + 1) + k) := ((h.2.1.2.2.1 i h.1).2.2.2.1 (by rw [h.2.2.1]; decide)).2.2 k hk
theorem CX_num (h : CX F i z s n T U V W B N) : B 10 i = nI (i + 1) := (h.2.1.2.2.1 i h.1).1
theorem CX_fr (h : CX F i z s n T U V W B N) : B 1 2 = nI (nfr N F) := h.2.1.2.1.1
theorem CX_row (h : CX F i z s n T U V W B N) : N 0 15 = nI z := by
  obtain ⟨z', h1, h2, h3⟩ := RW_z h.2.1.2.2.2.2
  have e : z' = z := (nI_eq (by omega) (by have := h.2.2.2.2.2.2.2.2.2.1; omega)).mp (h2.symm.trans h.2.2.2.2.2.2.2.2.1)
  rw [h3, e]
/-- nothing but the answer -/
theorem J_ans (h : CX F i z s n T U V W B N) (v : Int32) : J F (i + 1) D0 T U V W (sR B i 10 v) (fin (setM N (i + 1) 10 v) (i + 1)) := by
  obtain ⟨hi, hJ, h4, h16, h27, _⟩ := h
  refine J_fin (J_reg hJ hi (k := 10) (by decide) v (Or.inr (Or.inl h4))) hi ?_ ?_
  · rw [sR_row _ _ _ _ (by decide), setM_row _ _ _ _ (by decide)]; exact h16
  · rw [setM_row _ _ _ _ (by decide), h27]; decide
theorem J_c0 (h : CX F i z s n T U V W B N) : J F (i + 1) D0 T U V W (sR (up2 B 0 12 1) i 10 (B 20 (32 * i + 10))) (fin (up2 N 0 19 1) (i + 1)) := by
  obtain ⟨hi, hJ, h4, h16, h27, _⟩ := h
  rw [sR_same (C := up2 B 0 12 1) (by rw [up2_row _ _ _ (by decide)])]
  refine J_fin (J_yld hJ 1) hi ?_ ?_
  · rw [up2_row _ _ _ (by decide), up2_col _ _ _ (by decide)]; exact h16
  · rw [up2_col _ _ _ (by decide), h27]; decide
theorem hok_row (C : Nat → Nat → Int32) (i : Nat) (heir : Int32) {b : Nat} (h15 : b ≠ 15) (h17 : b ≠ 17) : ∀ k, hok C i heir k b = C b
  | 0 => rfl
  | k + 1 => by
    have ih := hok_row C i heir h15 h17 k
    unfold hok
    split
    · split
      · rw [up2_row _ _ _ h15, up2_row _ _ _ h17, ih]
      · rw [up2_row _ _ _ h17, ih]
    · exact ih
theorem enC_row (C : Nat → Nat → Int32) (i s z : Nat) (code : Int32) {b : Nat} (h1 : b ≠ 1) (h3 : b ≠ 3) (h14 : b ≠ 14) (h15 : b ≠ 15) (h17 : b ≠ 17) (h18 : b ≠ 18) (h22 : b ≠ 22) (h46 : b ≠ 46) (h47 : b ≠ 47) : enC C i s z code b = C b := by
  have e : hoC (en1 C i s z code) i b = C b := by rw [hoC, hok_row _ _ _ h15 h17, en1_row _ _ _ _ _ h1 h3 h14 h15 h18 h22 h46 h47]
  unfold enC
  split
  · rw [up2_row _ _ _ h15, e]
  · exact e
theorem J_c1 (h : CX F i z s n T U V W B N) (a : Int32) (ha : B 20 (32 * i + 10) = a) : J F (i + 1) D0 T U V W (sR (enC B i s z a) i 10 a) (fin (endM (up2 N 7 (i + 1) (N 0 26)) (i + 1) a z) (i + 1)) := by
  obtain ⟨hi, hJ, h4, h16, h27, h24, hs, hs8, hz, hz8, _⟩ := h
  rw [sR_same (C := enC B i s z a) (by rw [enC_row _ _ _ _ _ (by decide) (by decide) (by decide) (by decide) (by decide) (by decide) (by decide) (by decide) (by decide)]; exact ha)]
  have hJ2 := J_pc (D' := D0) (v := N 0 26) (w := B 16 i) hJ hi (fun j _ hj => by rw [D0, D4, if_neg hj]) (by rw [h16]; exact (Int32.add_zero _).symm)
  rw [up2_same rfl] at hJ2
  have e := J_end a hJ2 hi (by rw [up2_row _ _ _ (by decide), h4]; decide) hs hs8 hz hz8
  rw [fin, if_pos (endM_27 _ _ (by rw [up2_row _ _ _ (by decide)]; exact h24))]
  exact e
theorem J_c3 (h : CX F i z s n T U V W B N) : J F (i + 1) D0 T U V W (sR (fkC B i s (nfr N F) z F).2 i 10 (fkC B i s (nfr N F) z F).1) (fin (setM (frkA N (i + 1) z s F) (i + 1) 10 (frkx N s F)) (i + 1)) := by
  have h' := h
  obtain ⟨hi, hJ, h4, h16, h27, h24, hs, hs8, hz, hz8, _⟩ := h
  have ef : fas N 8 1 = laC B 8 0 + 1 := fas_la hJ.2.2.1 8 0 rfl
  unfold fkC frkA frkx
  by_cases hc : laC B 8 0 < 8 ∧ s ≤ nfr N F
  · have hb : frkb N s F = true := by rw [frkb, ef, decide_eq_true hc.2, decide_eq_true (show laC B 8 0 + 1 ≤ 8 by omega)]; rfl
    rw [if_pos hc, if_pos hb, if_pos hb, ef]
    obtain ⟨c, ec⟩ : ∃ c, c = laC B 8 0 := ⟨_, rfl⟩
    have hc15 : B 15 c = 0 := by
      rw [ec]
      exact (laC_spec B 8 0).2.2 (by omega)
    rw [← ec] at hc ⊢
    have hc4 : N 4 (c + 1) = 0 := by rw [← (hJ.2.2.1 c hc.1).2.1]; exact hc15
    have hic : i ≠ c := fun q => by rw [q, hc4] at h4; exact absurd h4 (by decide)
    have hf := J_fork hJ hi hc.1 h4 hc4 hs hs8 hc.2 hz hz8 (by rw [D4, if_neg (fun q => hic q.symm)]) (by rw [D4, if_pos rfl]) (by omega)
    have e10 : mrC (cpg (fkG B i c s F) i c s) c z 10 c = nI (c + 1) := (hf.2.2.1 c hc.1).1
    simp only
    rw [e10]
    have e4 : frkM N (i + 1) (c + 1) s z 4 (i + 1) = 1 := by
      rw [frkM, wakM, up2_row _ _ _ (by decide), up2_row _ _ _ (by decide), up2_col _ _ _ (by omega), fk3_row _ _ _ _ (by decide) (by decide) (by decide) (by decide) (by decide) (by decide) (by decide) (by decide) (by decide)]
      exact h4
    refine J_fin (J_reg hf hi (k := 10) (by decide) (nI (c + 1)) (Or.inr (Or.inl e4))) hi ?_ ?_
    · rw [sR_row _ _ _ _ (by decide), setM_row _ _ _ _ (by decide), frkM_0 _ _ (by decide), ← h16, mrC_row _ _ _ (by decide) (by decide) (by decide), cpg_row _ _ _ _ (by decide), fkG, gvC_row _ _ _ _ _ _ _ (by decide) (by decide) (by decide) (by decide) (by decide), fk1, sR_row _ _ _ _ (by decide), up2_row _ _ _ (by decide), cfC, upr_row _ _ _ _ (by decide), upr_row _ _ _ _ (by decide), up2_col _ _ _ hic]
    · rw [setM_row _ _ _ _ (by decide), frkM_0 _ _ (by decide), h27]; decide
  · have hb : ¬ frkb N s F = true := fun q => by
      rw [frkb, ef, Bool.and_eq_true, decide_eq_true_eq, decide_eq_true_eq] at q
      exact hc ⟨by omega, q.2⟩
    rw [if_neg hc, if_neg hb, if_neg hb]
    exact J_ans h' (-1)
theorem J_c5 (h : CX F i z s n T U V W B N) (a : Int32) : J F (i + 1) D0 T U V W (sR (grC B i s (nfr N F) F a).2 i 10 (grC B i s (nfr N F) F a).1) (fin (setM (morA N (i + 1) s F a) (i + 1) 10 (morx N s F a)) (i + 1)) := by
  have h' := h
  obtain ⟨hi, hJ, h4, h16, h27, h24, hs, hs8, hz, hz8, _⟩ := h
  have hnf := nfr_le N F
  have hF := hJ.1.1
  unfold grC morA morx
  by_cases hb : morb a s (nfr N F) = true
  · rw [if_pos hb, if_pos hb]
    simp only [morb, Bool.and_eq_true, decide_eq_true_eq] at hb
    obtain ⟨⟨⟨b1, b2⟩, b3⟩, b4⟩ := hb
    obtain ⟨k, k1, k8, rfl⟩ := in18 b1 b2
    rw [nv_nI (by omega)] at b3 b4 ⊢
    have e8 : (8 : Int32) - nI s = nI (8 - s) := pk_sub (a := 8) hs8
    rw [if_pos ⟨b1, by rw [e8]; exact nI_le (by omega) (by omega), nI_le (by omega) (by omega)⟩]
    have hg := J_grow hJ hi h4 hs b3 b4
    have e14 : gvC i k F B 0 0 s 14 i = nI (s + k) := by
      obtain ⟨s', hs'8, r1, r2, _⟩ := hg.2.1.2.2.2.1 i hi
      obtain ⟨s2, hs28, q1, q2, _⟩ := hJ.2.1.2.2.2.1 i hi
      have es : s2 = s := (nI_eq (by omega) (by omega)).mp (q1.symm.trans hs)
      rw [r1, ← r2]
      exact (gro_spec (p := i + 1) (s := s) (fr := F) (by omega) (by omega) (by rw [q2, es]) hs8 hF (k := k) b4).1
    simp only
    rw [e14]
    refine J_fin (J_reg hg hi (k := 10) (by decide) _ (Or.inr (Or.inl (by rw [gro_row _ _ _ (by decide) (by decide) (by decide) (by decide)]; exact h4)))) hi ?_ ?_
    · rw [sR_row _ _ _ _ (by decide), setM_row _ _ _ _ (by decide), gvC_row _ _ _ _ _ _ _ (by decide) (by decide) (by decide) (by decide) (by decide), gro_row _ _ _ (by decide) (by decide) (by decide) (by decide)]
      exact h16
    · rw [setM_row _ _ _ _ (by decide), gro_row _ _ _ (by decide) (by decide) (by decide) (by decide), h27]; decide
  · rw [if_neg hb, if_neg hb, if_neg (fun q => hb (by
      obtain ⟨q1, q2, q3⟩ := q
      have e8 : (8 : Int32) - nI s = nI (8 - s) := pk_sub (a := 8) hs8
      rw [e8] at q2
      have q8 : a ≤ 8 := Int32.le_trans q2 (nI_le (b := 8) (by omega) (by decide))
      obtain ⟨k, k1, k8, rfl⟩ := in18 q1 q8
      have w2 := (nI_leI (a := k) (b := 8 - s) (by omega) (by omega)).mp q2
      have w3 := (nI_leI (a := k) (b := nfr N F) (by omega) (by omega)).mp q3
      rw [morb, nv_nI (by omega), decide_eq_true q1, decide_eq_true q8, decide_eq_true (show s + k ≤ 8 by omega), decide_eq_true w3]
      rfl))]
    exact J_ans h' (-1)
theorem J_c9 (h : CX F i z s n T U V W B N) (a : Int32) : J F (i + 1) D0 T U V W (sR (csC B i a).2 i 10 (csC B i a).1) (fin (setM (cloA N (i + 1) a) (i + 1) 10 (clox N (i + 1) a)) (i + 1)) := by
  have h' := h
  obtain ⟨hi, hJ, h4, h16, h27, h24, hs, hs8, hz, hz8, _⟩ := h
  have hp := hJ.2.2.1 i hi
  unfold csC cloA clox
  by_cases he : eA B i a = -1
  · have hc : ¬ (0 ≤ a ∧ a < 6 ∧ 0 ≤ N 11 (6 * (i + 1) + nv a)) := fun ⟨q1, q2, q3⟩ => by
      rw [eA_eq hp, dsc, if_pos ⟨q1, q2⟩] at he
      change N 11 (6 * (i + 1) + nv a) = -1 at he
      rw [he] at q3
      exact absurd q3 (by decide)
    rw [if_pos he, if_neg hc, if_neg hc]
    exact J_ans h' (-1)
  · obtain ⟨k, hk, rfl, ek⟩ := eA_in he
    obtain ⟨e1, e2⟩ := hp.2.2.2.2.2.2.2.1 k hk
    have hc : 0 ≤ nI k ∧ nI k < 6 ∧ 0 ≤ N 11 (6 * (i + 1) + nv (nI k)) := ⟨nI_pos' (by omega), nI_lt (b := 6) hk (by decide), by
      rw [nv_nI (by omega)]
      exact (edr_nn e2).mpr (fun q => he (by rw [ek, e1, q]))⟩
    rw [if_neg he, if_pos hc, if_pos hc, nv_nI (by omega)]
    have hg := J_close hJ hi hk h4
    simp only
    refine J_fin (J_reg hg hi (k := 10) (by decide) 0 (Or.inr (Or.inl (by rw [clsM, tidy_row _ (by decide), up2_row _ _ _ (by decide)]; exact h4)))) hi ?_ ?_
    · rw [sR_row _ _ _ _ (by decide), setM_row _ _ _ _ (by decide), up2_row _ _ _ (by decide), clsM, tidy_row _ (by decide), up2_row _ _ _ (by decide)]
      exact h16
    · rw [setM_row _ _ _ _ (by decide), clsM, tidy_row _ (by decide), up2_row _ _ _ (by decide), h27]; decide
theorem J_c10 (h : CX F i z s n T U V W B N) (a : Int32) : J F (i + 1) D0 T U V W (sR (duC B i a).2 i 10 (duC B i a).1) (fin (setM (dupA N (i + 1) (dsc N (i + 1) a)) (i + 1) 10 (dupx N (i + 1) (dsc N (i + 1) a))) (i + 1)) := by
  have h' := h
  obtain ⟨hi, hJ, h4, h16, h27, h24, hs, hs8, hz, hz8, _⟩ := h
  have hp := hJ.2.2.1 i hi
  have el := ln_eq hp 6 0 (by decide)
  have hed : edr (dsc N (i + 1) a) := dsc_edr (fun d hd => (hp.2.2.2.2.2.2.2.1 d hd).2) a
  unfold duC dupA dupx
  rw [el, eA_eq hp]
  by_cases hc : ¬ dsc N (i + 1) a = -1 ∧ fds N (i + 1) 6 0 < 6
  · have hc2 : 0 ≤ dsc N (i + 1) a ∧ fds N (i + 1) 6 0 < 6 := ⟨(edr_nn hed).mpr hc.1, hc.2⟩
    rw [if_pos hc, if_pos hc2, if_pos hc2]
    have hea := hc.1
    rw [← eA_eq hp] at hea
    obtain ⟨k, hk, rfl, ek⟩ := eA_in hea
    rw [eA_eq hp, (hp.2.2.2.2.2.2.2.1 k hk).1] at ek
    rw [ek]
    have hl1 : N 11 (6 * (i + 1) + fds N (i + 1) 6 0) = -1 := (edr_neg (hp.2.2.2.2.2.2.2.1 _ hc.2).2).mp ((fds_min N (i + 1) 6 0).1 (by rw [Nat.zero_add]; exact hc.2))
    have hg := J_dup hJ hi hc.2 hk hl1 h4
    simp only
    refine J_fin (J_reg hg hi (k := 10) (by decide) _ (Or.inr (Or.inl (by rw [up2_row _ _ _ (by decide)]; exact h4)))) hi ?_ ?_
    · rw [sR_row _ _ _ _ (by decide), setM_row _ _ _ _ (by decide), up2_row _ _ _ (by decide), up2_row _ _ _ (by decide)]
      exact h16
    · rw [setM_row _ _ _ _ (by decide), up2_row _ _ _ (by decide), h27]; decide
  · have hc2 : ¬ (0 ≤ dsc N (i + 1) a ∧ fds N (i + 1) 6 0 < 6) := fun q => hc ⟨(edr_nn hed).mp q.1, q.2⟩
    rw [if_neg hc, if_neg hc2, if_neg hc2]
    exact J_ans h' (-1)
theorem J_c8 (h : CX F i z s n T U V W B N) : J F (i + 1) D0 T U V W (sR (opC B i).2 i 10 (opC B i).1) (fin (pipM N (i + 1)) (i + 1)) := by
  have h' := h
  obtain ⟨hi, hJ, h4, h16, h27, h24, hs, hs8, hz, hz8, _⟩ := h
  have hp := hJ.2.2.1 i hi
  have el := ln_eq hp 6 0 (by decide)
  have ef := lf_eq hJ.2.2.1 4 0
  unfold opC pipM
  rw [el, ef]
  obtain ⟨l, hl⟩ : ∃ l, l = fds N (i + 1) 6 0 := ⟨_, rfl⟩
  obtain ⟨k, hk⟩ : ∃ k, k = fps N 4 0 := ⟨_, rfl⟩
  rw [← hl, ← hk]
  by_cases hl6 : l < 6
  · have hl1 : N 11 (6 * (i + 1) + l) = -1 := by
      rw [hl] at hl6 ⊢
      exact (edr_neg (hp.2.2.2.2.2.2.2.1 _ hl6).2).mp ((fds_min N (i + 1) 6 0).1 (by rw [Nat.zero_add]; exact hl6))
    have e2 := fd2_eq N (i + 1) hl hl6
    have el2 := ln_eq hp (6 - (l + 1)) (l + 1) (by omega)
    have epn : pipN N (i + 1) = N := by
      rw [pipN, ← hl]
      funext a j
      simp only [up2]
      by_cases q : a = 11 ∧ j = 6 * (i + 1) + l
      · rw [if_pos q, q.1, q.2, hl1]
      · rw [if_neg q, if_neg q]
    rw [el2, e2, epn, if_pos hl6]
    obtain ⟨m, hm⟩ : ∃ m, m = fds N (i + 1) (6 - (l + 1)) (l + 1) := ⟨_, rfl⟩
    rw [← hm]
    by_cases hc : k < 4 ∧ m < 6
    · rw [if_pos ⟨hc.1, hl6, hc.2⟩, if_pos hc]
      have hmge : l + 1 ≤ m := by rw [hm]; exact (fds_le N (i + 1) _ _).1
      have hm1 : N 11 (6 * (i + 1) + m) = -1 := by
        refine (edr_neg (hp.2.2.2.2.2.2.2.1 _ hc.2).2).mp ?_
        have := (fds_min N (i + 1) (6 - (l + 1)) (l + 1)).1 (by rw [← hm]; omega)
        rw [← hm] at this
        exact this
      have hfr : ¬ pip N k := by
        have key : ∀ n k', fps N n k' < k' + n → hel N (nI (1 + 2 * fps N n k')) = false ∧ hel N (nI (2 + 2 * fps N n k')) = false := by
          intro n
          induction n with
          | zero => intro k' q; exact absurd q (by unfold fps; omega)
          | succ n ih =>
            intro k' q
            unfold fps at q ⊢
            by_cases e : hel N (nI (1 + 2 * k')) = false ∧ hel N (nI (2 + 2 * k')) = false
            · rw [if_pos e]; exact e
            · rw [if_neg e] at q ⊢
              exact ih (k' + 1) (by omega)
        have := key 4 0 (by rw [← hk]; omega)
        rw [← hk] at this
        rintro (q | q)
        · rw [this.1] at q; exact absurd q (by decide)
        · rw [this.2] at q; exact absurd q (by decide)
      have hg := J_open hJ hi hl6 hc.2 (by omega) hc.1 hl1 hm1 hfr h4
      have hg2 := J_reg hg hi (k := 11) (by decide) (nI m) (Or.inr (Or.inl (by rw [up2_row _ _ _ (by decide), up2_row _ _ _ (by decide)]; exact h4)))
      have hg3 := J_reg hg2 hi (k := 10) (by decide) (nI l) (Or.inr (Or.inl (by rw [setM_row _ _ _ _ (by decide), up2_row _ _ _ (by decide), up2_row _ _ _ (by decide)]; exact h4)))
      have ecm : ∀ M : Nat → Nat → Int32, setM (setM M (i + 1) 10 (nI l)) (i + 1) 11 (nI m) = setM (setM M (i + 1) 11 (nI m)) (i + 1) 10 (nI l) := by
        intro M
        rw [setM, setM, setM, setM, if_neg (by decide), if_neg (by decide)]
        funext a j
        simp only [up2]
        by_cases q : a = 9 ∧ j = 32 * (i + 1) + 11
        · rw [if_pos q, if_neg (fun w => by omega), if_pos q]
        · rw [if_neg q]
          by_cases q2 : a = 9 ∧ j = 32 * (i + 1) + 10
          · rw [if_pos q2, if_pos q2]
          · rw [if_neg q2, if_neg q2, if_neg q]
      rw [ecm]
      have e12 : nI (1 + 2 * k + 1) = nI (2 + 2 * k) := by rw [show 1 + 2 * k + 1 = 2 + 2 * k by omega]
      simp only
      rw [e12]
      refine J_fin hg3 hi ?_ ?_
      · rw [sR_row _ _ _ _ (by decide), sR_row _ _ _ _ (by decide), setM_row _ _ _ _ (by decide), setM_row _ _ _ _ (by decide), up2_row _ _ _ (by decide), up2_row _ _ _ (by decide), emC, up2_row _ _ _ (by decide), up2_row _ _ _ (by decide), up2_row _ _ _ (by decide), up2_row _ _ _ (by decide)]
        exact h16
      · rw [setM_row _ _ _ _ (by decide), setM_row _ _ _ _ (by decide), up2_row _ _ _ (by decide), up2_row _ _ _ (by decide), h27]; decide
    · rw [if_neg (fun q => hc ⟨q.1, q.2.2⟩), if_neg hc]
      exact J_ans h' (-1)
  · rw [if_neg hl6, if_neg (fun q => hl6 q.2.1)]
    exact J_ans h' (-1)
end CALLS

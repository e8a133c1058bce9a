/-! ===== the class beside the reference: instructions ===== -/
section INS
variable {F i z s n u : Nat} {T U V W : Int32} {C N : Nat → Nat → Int32}
theorem CB_pc (h : CB F i z s n T U V W C N) : C 16 i = N 7 (i + 1) := by
  obtain ⟨hi, hJ, h4, _⟩ := h
  rw [((hJ.2.2.1 i hi).2.2.2.1 (by rw [h4]; decide)).1]
  exact Int32.add_zero _
theorem CB_reg (h : CB F i z s n T U V W C N) {k : Nat} (hk : k < 32) : C 20 (32 * i + k) = N 9 (32 * (i + 1) + k) := ((h.2.1.2.2.1 i h.1).2.2.2.1 (by rw [h.2.2.1]; decide)).2.2 k hk
theorem J_adv {C' N' : Nat → Nat → Int32} (hi : i < 8) (h : J F (i + 1) D0 T U V W C' N') (to : Int32) (h26 : N' 0 26 = to) (h27 : N' 0 27 = 1) : J F (i + 1) D0 T U V W (up2 C' 16 i to) (fin N' (i + 1)) := by
  have hJ := J_pc (D' := D0) (v := to) (w := to) h hi (fun j _ hj => rfl) (Int32.add_zero _).symm
  rw [fin, if_neg (by rw [h27]; decide), h26]
  exact hJ
theorem J_sg (h : CB F i z s n T U V W C N) {d : Nat} (hd : d < 32) (v : Int32) : J F (i + 1) D0 T U V W (goC (sR C i d v) i) (fin (setM N (i + 1) d v) (i + 1)) := by
  have e := CB_pc h
  obtain ⟨hi, hJ, h4, h26, h27, _⟩ := h
  rw [goC, sR_row _ _ _ _ (by decide), e]
  exact J_adv hi (J_reg hJ hi hd v (Or.inr (Or.inl h4))) _ (by rw [setM_row _ _ _ _ (by decide)]; exact h26) (by rw [setM_row _ _ _ _ (by decide)]; exact h27)
theorem J_go (h : CB F i z s n T U V W C N) : J F (i + 1) D0 T U V W (goC C i) (fin N (i + 1)) := by
  have e := CB_pc h
  obtain ⟨hi, hJ, h4, h26, h27, _⟩ := h
  rw [goC, e]
  exact J_adv hi hJ _ h26 h27
theorem J_flt (h : CB F i z s n T U V W C N) (code : Int32) : J F (i + 1) D0 T U V W (enC C i s z code) (fin (endM N (i + 1) code z) (i + 1)) := by
  obtain ⟨hi, hJ, h4, h26, h27, h24, hs, hs8, hz, hz8, _⟩ := h
  rw [fin, if_pos (endM_27 _ _ h24)]
  exact J_end code hJ hi (by rw [h4]; decide) hs hs8 hz hz8
theorem J_bra (h : CB F i z s n T U V W C N) (to : Int32) : J F (i + 1) D0 T U V W (up2 C 16 i to) (fin (up2 N 0 26 to) (i + 1)) := by
  obtain ⟨hi, hJ, h4, h26, h27, _⟩ := h
  exact J_adv hi (J_scr hJ to (by decide)) _ (up2_at _ _ _ _) (by rw [up2_col _ _ _ (by decide)]; exact h27)
theorem J_jmp (h : CB F i z s n T U V W C N) {d : Nat} (hd : d < 32) (to : Int32) : J F (i + 1) D0 T U V W (up2 (sR C i d (C 16 i + 4)) 16 i to) (fin (up2 (setM N (i + 1) d (N 7 (i + 1) + 4)) 0 26 to) (i + 1)) := by
  have e := CB_pc h
  obtain ⟨hi, hJ, h4, h26, h27, _⟩ := h
  rw [e]
  exact J_adv hi (J_scr (J_reg hJ hi hd _ (Or.inr (Or.inl h4))) to (by decide)) _ (up2_at _ _ _ _) (by rw [up2_col _ _ _ (by decide), setM_row _ _ _ _ (by decide)]; exact h27)
theorem ms3_go (X : Nat → Nat → Int32) : ms3 X i F s u z n (-1) = X := by rw [ms3, if_neg (by decide), if_pos (by decide)]
theorem ms3_flt (X : Nat → Nat → Int32) {k : Nat} (hk : k < 8) : ms3 X i F s u z n (nI k) = enC X i s z (128 + nI k) := by
  rw [ms3, if_neg (fun q => by
    have := nI_pos' (n := k) (by omega)
    rw [q] at this
    exact absurd this (by decide)), if_neg (nI_pos (by omega))]
/-- what comes of an instruction in the class -/
def msX (i F s u z n : Nat) (r : iX) : Nat → Nat → Int32 := ms3 r.2 i F s u z n r.1
theorem J_jpC (h : CB F i z s n T U V W C N) {w : Int32} (hw : N 0 25 = w) (to : Int32) : J F (i + 1) D0 T U V W (msX i F s u z n (jpC C i w to)) (fin (jmpM N (i + 1) to z) (i + 1)) := by
  unfold jpC jmpM msX
  rw [hw]
  by_cases e : to &&& 3 = 0
  · rw [if_pos e, if_pos ((al4 to).mpr e)]
    simp only
    rw [ms3_go]
    exact J_jmp h (bf_lt _ _ 5) to
  · rw [if_neg e, if_neg (fun q => e ((al4 to).mp q))]
    simp only
    rw [show (0 : Int32) = nI 0 from rfl, ms3_flt _ (by decide)]
    exact J_flt h _
theorem J_f2 (h : CB F i z s n T U V W C N) : J F (i + 1) D0 T U V W (msX i F s u z n (2, C)) (fin (endM N (i + 1) (128 + 2) z) (i + 1)) := by
  unfold msX
  simp only
  rw [show (2 : Int32) = nI 2 from rfl, ms3_flt _ (by decide)]
  exact J_flt h _
theorem J_bnC (h : CB F i z s n T U V W C N) {w : Int32} (hw : N 0 25 = w) : J F (i + 1) D0 T U V W (msX i F s u z n (bnC C i w)) (fin (brM N (i + 1) z (N 7 (i + 1))) (i + 1)) := by
  unfold bnC brM brF
  rw [hw, r1, r2, CB_reg h (bf_lt _ _ 5), CB_reg h (bf_lt _ _ 5), CB_pc h]
  by_cases e : bf w 12 3 = 2 ∨ bf w 12 3 = 3
  · rw [if_pos e, if_pos e]
    exact J_f2 h
  · rw [if_neg e, if_neg e]
    by_cases c : bcd (bf w 12 3) (N 9 (32 * (i + 1) + bf w 15 5)) (N 9 (32 * (i + 1) + bf w 20 5)) = true
    · rw [if_pos c, if_pos c]
      by_cases a : (N 7 (i + 1) + bim w) &&& 3 = 0
      · rw [if_pos a, if_pos ((al4 _).mpr a), msX]
        simp only
        rw [ms3_go]
        exact J_bra h _
      · rw [if_neg a, if_neg (fun q => a ((al4 _).mp q)), msX]
        simp only
        rw [show (0 : Int32) = nI 0 from rfl, ms3_flt _ (by decide)]
        exact J_flt h _
    · rw [if_neg c, if_neg c, msX]
      simp only
      rw [ms3_go]
      exact J_go h
theorem sh5 (w : Int32) : (w >>> (20 &&& 31)) &&& 31 = nI (bf w 20 5) := bf_s w 20 5 (s := 20) (m := 31) (by decide) (by decide) (by decide)
theorem J_sgx (h : CB F i z s n T U V W C N) {w : Int32} (hw : N 0 25 = w) {v v' : Int32} (hv : v = v') : J F (i + 1) D0 T U V W (msX i F s u z n (-1, sgC C i w v)) (fin (setM N (i + 1) (bf (N 0 25) 7 5) v') (i + 1)) := by
  rw [hw, hv, msX]
  simp only
  rw [ms3_go]
  exact J_sg h (bf_lt _ _ 5) v'
theorem J_cnC (h : CB F i z s n T U V W C N) {w : Int32} (hw : N 0 25 = w) : J F (i + 1) D0 T U V W (msX i F s u z n (cnC C i w)) (fin (cmpM N (i + 1) z false) (i + 1)) := by
  unfold cnC cmpM
  have e1 : r1 C i w = N 9 (32 * (i + 1) + bf w 15 5) := CB_reg h (bf_lt _ _ 5)
  have ecb : cb N (i + 1) false = w >>> (20 &&& 31) := by rw [cb, if_neg (by decide), hw]
  have ecy : cy N (i + 1) false = (w >>> (20 &&& 31)) &&& 31 := by rw [cy, if_neg (by decide), hw, sh5]
  rw [ecb, ecy, cnF, cmpF, e1, hw]
  have hf := bf_lt w 12 3
  generalize bf w 12 3 = f at hf ⊢
  generalize bf w 25 7 = g
  generalize N 9 (32 * (i + 1) + bf w 15 5) = a
  generalize w >>> (20 &&& 31) = b
  by_cases c1 : f = 5 ∧ g = 32
  · rw [if_pos c1, if_neg (by rw [c1.1, c1.2]; decide)]
    rw [← hw]
    exact J_sgx h rfl (by rw [c1.1, c1.2]; rfl)
  · rw [if_neg c1]
    by_cases c2 : (f = 1 ∨ f = 5) ∧ ¬ g = 0
    · rw [if_pos c2, if_pos (by
        simp only [cbad]
        have h2 := c2.2
        rcases c2.1 with q | q
        · subst q; simp [h2]
        · subst q
          have : g ≠ 32 := fun w => c1 ⟨rfl, w⟩
          simp [h2, this])]
      exact J_f2 h
    · rw [if_neg c2, if_neg (by
        simp only [cbad]
        intro q
        simp at q
        exact c2 ⟨q.2, q.1.1⟩)]
      rw [← hw]
      refine J_sgx h rfl ?_
      rcases (by omega : f = 0 ∨ f = 1 ∨ f = 2 ∨ f = 3 ∨ f = 4 ∨ f = 5 ∨ f = 6 ∨ f = 7) with rfl | rfl | rfl | rfl | rfl | rfl | rfl | rfl
      all_goals first | rfl | skip
      show ush a (b &&& 31) = if (g == 32) = true then a >>> (b &&& 31 &&& 31) else ush a (b &&& 31)
      rw [if_neg (fun q => c1 ⟨rfl, by simpa using q⟩)]
theorem J_crC (h : CB F i z s n T U V W C N) {w : Int32} (hw : N 0 25 = w) : J F (i + 1) D0 T U V W (msX i F s u z n (crC C i w)) (fin (cmpM N (i + 1) z true) (i + 1)) := by
  unfold crC cmpM
  have e1 : r1 C i w = N 9 (32 * (i + 1) + bf w 15 5) := CB_reg h (bf_lt _ _ 5)
  have e2 : r2 C i w = N 9 (32 * (i + 1) + bf w 20 5) := CB_reg h (bf_lt _ _ 5)
  have ecb : cb N (i + 1) true = N 9 (32 * (i + 1) + bf w 20 5) := by rw [cb, if_pos rfl, hw]
  have ecy : cy N (i + 1) true = N 9 (32 * (i + 1) + bf w 20 5) &&& 31 := by rw [cy, if_pos rfl, ecb]
  rw [ecb, ecy, crF, cmpF, e1, e2, hw]
  have hf := bf_lt w 12 3
  generalize bf w 12 3 = f at hf ⊢
  generalize bf w 25 7 = g
  generalize N 9 (32 * (i + 1) + bf w 15 5) = a
  generalize N 9 (32 * (i + 1) + bf w 20 5) = b
  by_cases c0 : g = 0
  · rw [if_pos c0, if_neg (by rw [c0]; simp [cbad])]
    rw [← hw]
    refine J_sgx h rfl ?_
    subst c0
    rcases (by omega : f = 0 ∨ f = 1 ∨ f = 2 ∨ f = 3 ∨ f = 4 ∨ f = 5 ∨ f = 6 ∨ f = 7) with rfl | rfl | rfl | rfl | rfl | rfl | rfl | rfl
    all_goals rfl
  · rw [if_neg c0]
    by_cases c1 : g = 32 ∧ f = 0
    · rw [if_pos c1, if_neg (by rw [c1.1, c1.2]; decide)]
      rw [← hw]
      exact J_sgx h rfl (by rw [c1.1, c1.2]; rfl)
    · rw [if_neg c1]
      by_cases c2 : g = 32 ∧ f = 5
      · rw [if_pos c2, if_neg (by rw [c2.1, c2.2]; decide)]
        rw [← hw]
        exact J_sgx h rfl (by rw [c2.1, c2.2]; rfl)
      · rw [if_neg c2, if_pos (by
          simp only [cbad]
          by_cases g32 : g = 32
          · have n0 : f ≠ 0 := fun q => c1 ⟨g32, q⟩
            have n5 : f ≠ 5 := fun q => c2 ⟨g32, q⟩
            simp [g32, n0, n5]
          · simp [c0, g32])]
        exact J_f2 h
end INS

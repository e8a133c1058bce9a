/-! ===== the class beside the reference: a step ===== -/
section STEP
variable {F t : Nat} {D : Nat → Int32} {T U V W : Int32} {C M : Nat → Nat → Int32}
theorem J_lft (h : J F t D T U V W C M) (v : Int32) : J F t D T v V W (up2 C 0 11 v) M := by
  obtain ⟨_, _, _, _, _, _, _, _, b9, b10, b11, b12⟩ := h.1.2
  have hJ := J_row (t' := t) (C' := up2 C 0 11 v) (M' := M) h (fun a q _ _ => up2_row _ _ _ q) (fun j _ q => up2_col _ _ _ q) (fun a _ _ => rfl) (fun j _ _ _ _ => rfl) (RW_c h.2.2.2.2 (by rw [up2_row _ _ _ (by decide)]) (up2_row _ _ _ (by decide)) rfl rfl (fun q _ e => e))
  exact J_vals hJ (by rw [up2_col _ _ _ (by decide)]; exact b9) (up2_at _ _ _ _) b11 b12
theorem J_usd (h : J F t D T U V W C M) (v : Int32) : J F t D T U V v C (up2 M 0 18 v) := by
  obtain ⟨_, _, _, _, _, _, _, _, b9, b10, b11, b12⟩ := h.1.2
  have hJ := J_row (t' := t) (C' := C) (M' := up2 M 0 18 v) h (fun a _ _ _ => rfl) (fun j _ _ => rfl) (fun a q _ => up2_row _ _ _ q) (fun j _ _ _ q => up2_col _ _ _ q) (RW_c h.2.2.2.2 rfl rfl (up2_col _ _ _ (by decide)) (up2_row _ _ _ (by decide)) (fun q _ e => by rw [up2_row _ _ _ (by decide)]; exact e))
  exact J_vals hJ b9 b10 (by rw [up2_col _ _ _ (by decide)]; exact b11) (up2_at _ _ _ _)
end STEP
theorem sR2 (C : Nat → Nat → Int32) (i k : Nat) (v : Int32) {b : Nat} (h : b ≠ 20) : sR C i k v b = C b := sR_row C i k v h
theorem exW_row (C : Nat → Nat → Int32) (i s : Nat) (w : Int32) (o : Nat) {b : Nat} (h2 : b ≠ 2) (h16 : b ≠ 16) (h20 : b ≠ 20) : (exW C i s w o).2 b = C b := by
  have sg : ∀ v, sgC C i w v b = C b := fun v => by rw [sgC, goC, up2_row _ _ _ h16, sR_row _ _ _ _ h20]
  have go : goC C i b = C b := by rw [goC, up2_row _ _ _ h16]
  have jp : ∀ to, (jpC C i w to).2 b = C b := fun to => by
    unfold jpC
    split
    · show up2 (sR C i (bf w 7 5) (C 16 i + 4)) 16 i to b = C b
      rw [up2_row _ _ _ h16, sR_row _ _ _ _ h20]
    · rfl
  unfold exW
  split
  · unfold ftC ftF
    repeat' split
    all_goals first | rfl | exact sg _
  split
  · split
    · exact go
    · rfl
  split
  · unfold cnC cnF
    repeat' split
    all_goals first | rfl | exact sg _
  split
  · exact sg _
  split
  · unfold ptC ptF
    repeat' split
    all_goals first | rfl | skip
    show goC (up2 C 2 _ _) i b = C b
    rw [goC, up2_row _ _ _ h16, up2_row _ _ _ h2]
  split
  · unfold crC crF
    repeat' split
    all_goals first | rfl | exact sg _
  split
  · exact sg _
  split
  · unfold bnC
    repeat' split
    all_goals first | rfl | exact go | exact up2_row _ _ _ h16
  split
  · unfold jrC
    split
    · exact jp _
    · rfl
  split
  · exact jp _
  split
  · rfl
  · rfl
theorem m12 : ¬ ((-1 : Int32) = -2) := by decide
theorem exW_m2 (C : Nat → Nat → Int32) (i s : Nat) (w : Int32) (o : Nat) (h : (exW C i s w o).1 = -2) : (exW C i s w o).2 = C := by
  have jp : ∀ to, (jpC C i w to).1 = -2 → (jpC C i w to).2 = C := fun to => by
    unfold jpC
    split
    · intro q; exact absurd q m12
    · intro _; rfl
  revert h
  unfold exW
  split
  · unfold ftC ftF
    repeat' split
    all_goals first | (intro _; rfl) | (intro q; exact absurd q m12)
  split
  · split
    · intro q; exact absurd q m12
    · intro _; rfl
  split
  · unfold cnC cnF
    repeat' split
    all_goals first | (intro q; exact absurd q m12) | (intro _; rfl)
  split
  · intro q; exact absurd q m12
  split
  · unfold ptC ptF
    repeat' split
    all_goals first | (intro q; exact absurd q m12) | (intro _; rfl)
  split
  · unfold crC crF
    repeat' split
    all_goals first | (intro q; exact absurd q m12) | (intro _; rfl)
  split
  · intro q; exact absurd q m12
  split
  · unfold bnC
    repeat' split
    all_goals first | (intro q; exact absurd q m12) | (intro _; rfl)
  split
  · unfold jrC
    split
    · exact jp _
    · intro _; rfl
  split
  · exact jp _
  split
  · intro _; rfl
  · intro _; rfl
theorem exC_row (C : Nat → Nat → Int32) (i s : Nat) {b : Nat} (h2 : b ≠ 2) (h16 : b ≠ 16) (h20 : b ≠ 20) : (exC C i s).2 b = C b := by
  unfold exC
  split
  · exact exW_row _ _ _ _ _ h2 h16 h20
  · rfl
theorem exC_m2 (C : Nat → Nat → Int32) (i s : Nat) (h : (exC C i s).1 = -2) : (exC C i s).2 = C := by
  revert h
  unfold exC
  split
  · exact exW_m2 _ _ _ _ _
  · intro _; rfl
/-- the reference's state as the instruction begins -/
theorem J_ins {F i z s n : Nat} {T U V W : Int32} {C M : Nat → Nat → Int32} (hi : i < 8) (h : J F (i + 1) D0 T U V W C (ins1 M (i + 1))) (h4 : M 4 (i + 1) = 1) (h24 : M 0 24 = nI (i + 1)) (hs : C 14 i = nI s) (hs8 : s ≤ 8) (hz : C 46 1 = nI z) (hz8 : z ≤ 8) (hn : C 0 8 = nI n) (hn2 : n ≤ 200) : J F (i + 1) D0 T U V W (ms3 (exC C i s).2 i F s (nfr M F) z n (exC C i s).1) (insM M (i + 1) z s F) ∧ ((exC C i s).1 = -2 → CB F i z s n T U V W C (ins2 M (i + 1) (nv (M 7 (i + 1))))) := by
  have r : ∀ b, b ≠ 0 → ins1 M (i + 1) b = M b := fun b hb => by rw [ins1, up2_row _ _ _ hb, up2_row _ _ _ hb, up2_row _ _ _ hb]
  have r2 : ∀ a b, b ≠ 0 → ins2 M (i + 1) a b = M b := fun a b hb => by rw [ins2, up2_row _ _ _ hb, r b hb]
  have i26 : ins1 M (i + 1) 0 26 = M 7 (i + 1) + 4 := by rw [ins1, up2_at]
  have i27 : ins1 M (i + 1) 0 27 = 1 := by rw [ins1, up2_col _ _ _ (by decide), up2_col _ _ _ (by decide), up2_at]
  have i24 : ins1 M (i + 1) 0 24 = nI (i + 1) := by rw [ins1, up2_col _ _ _ (by decide), up2_col _ _ _ (by decide), up2_col _ _ _ (by decide)]; exact h24
  have cb : ∀ v, CB F i z s n T U V W C (up2 (ins1 M (i + 1)) 0 25 v) := fun v => ⟨hi, J_scr h v (by decide), by rw [up2_row _ _ _ (by decide), r _ (by decide)]; exact h4, by rw [up2_col _ _ _ (by decide), up2_row (b := 7) _ _ _ (by decide), r 7 (by decide)]; exact i26, by rw [up2_col _ _ _ (by decide)]; exact i27, by rw [up2_col _ _ _ (by decide)]; exact i24, hs, hs8, hz, hz8, hn, hn2⟩
  have cb1 : CB F i z s n T U V W C (ins1 M (i + 1)) := ⟨hi, h, by rw [r _ (by decide)]; exact h4, by rw [r 7 (by decide)]; exact i26, i27, i24, hs, hs8, hz, hz8, hn, hn2⟩
  have ep : C 16 i = M 7 (i + 1) := by rw [CB_pc cb1, r _ (by decide)]
  refine ⟨?_, fun _ => cb _⟩
  unfold exC insM
  rw [ep]
  by_cases hr : (M 7 (i + 1)).toBitVec.toNat / 64 < s
  · rw [if_pos hr, if_pos ((rng_iff _ hs8).mpr hr)]
    obtain ⟨b, hb, eb, hbe⟩ := of_rng hr hs8
    have hbs : b / 64 < s := by omega
    have e7 : nv (M 7 (i + 1)) = b := by rw [eb]; exact nv_nI (by omega)
    rw [e7]
    have hcb := cb (M 1 (cel M (i + 1) b))
    have ecel : cel (up2 (ins1 M (i + 1)) 0 25 (M 1 (cel M (i + 1) b))) (i + 1) b = cel M (i + 1) b := by rw [cel, cel, up2_row _ _ _ (by decide), r _ (by decide)]
    have ew : C 2 (plN C i (M 7 (i + 1))) = M 1 (cel M (i + 1) b) := by
      have := (pl_cel hcb hbs).2.2
      rw [ecel, up2_row _ _ _ (by decide), r _ (by decide), ← eb] at this
      exact this
    rw [ew]
    have hx := J_exW hcb (w := M 1 (cel M (i + 1) b)) (up2_at _ _ _ _)
    rw [up2_row (b := 7) _ _ _ (by decide), r 7 (by decide), nfr_2 (M := M) (fun j => by rw [up2_row _ _ _ (by decide), r _ (by decide)])] at hx
    exact hx
  · rw [if_neg hr, if_neg (fun q => hr ((rng_iff _ hs8).mp q))]
    simp only
    rw [show (1 : Int32) = nI 1 from rfl, ms3_flt _ (by decide)]
    have := J_flt cb1 (128 + nI 1)
    rw [fin, if_pos (endM_27 _ _ i24)] at this
    exact this

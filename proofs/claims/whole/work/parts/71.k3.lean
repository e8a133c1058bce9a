/-! ===== the class beside the reference: the calls, third row ===== -/
theorem wr_t : ∀ k, k < 4 → wrE (nI (2 + 2 * k)) = true := by decide
theorem wr_f : ∀ k, k < 4 → wrE (nI (1 + 2 * k)) = false := by decide
theorem re_t : ∀ k, k < 4 → reE (nI (1 + 2 * k)) = true := by decide
theorem re_f : ∀ k, k < 4 → reE (nI (2 + 2 * k)) = false := by decide
theorem e_m1 : ∀ k, k < 4 → nI (2 + 2 * k) - 1 = nI (1 + 2 * k) := by decide
theorem e_p1 : ∀ k, k < 4 → nI (1 + 2 * k) + 1 = nI (2 + 2 * k) := by decide
theorem edr_cases {x : Int32} (h : edr x) : x = -1 ∨ x = 0 ∨ (∃ k, k < 4 ∧ x = nI (1 + 2 * k)) ∨ ∃ k, k < 4 ∧ x = nI (2 + 2 * k) := by
  rcases h with h | ⟨e, he, h⟩
  · exact Or.inl h
  · by_cases h0 : e = 0
    · subst h0
      exact Or.inr (Or.inl h)
    · by_cases h2 : e % 2 = 1
      · exact Or.inr (Or.inr (Or.inl ⟨e / 2, by omega, by rw [h, show 1 + 2 * (e / 2) = e by omega]⟩))
      · exact Or.inr (Or.inr (Or.inr ⟨e / 2 - 1, by omega, by rw [h, show 2 + 2 * (e / 2 - 1) = e by omega]⟩))
theorem snd_e (M : Nat → Nat → Int32) (p : Nat) {k : Nat} (hk : k < 4) : sndM M p (nI (2 + 2 * k)) = sndP M p k (nv (M 14 k)) := by
  rcases (by omega : k = 0 ∨ k = 1 ∨ k = 2 ∨ k = 3) with rfl | rfl | rfl | rfl
  · rw [sndM, if_neg (by decide), if_pos (by decide)]
  · rw [sndM, if_neg (by decide), if_neg (by decide), if_pos (by decide)]
  · rw [sndM, if_neg (by decide), if_neg (by decide), if_neg (by decide), if_pos (by decide)]
  · rw [sndM, if_neg (by decide), if_neg (by decide), if_neg (by decide), if_neg (by decide), if_pos (by decide)]
theorem snd_o (M : Nat → Nat → Int32) (p : Nat) {k : Nat} (hk : k < 4) : sndM M p (nI (1 + 2 * k)) = refM M p := by
  rcases (by omega : k = 0 ∨ k = 1 ∨ k = 2 ∨ k = 3) with rfl | rfl | rfl | rfl <;> rw [sndM, if_neg (by decide), if_neg (by decide), if_neg (by decide), if_neg (by decide), if_neg (by decide)]
theorem snd_m (M : Nat → Nat → Int32) (p : Nat) : sndM M p (-1) = refM M p := by
  rw [sndM, if_neg (by decide), if_neg (by decide), if_neg (by decide), if_neg (by decide), if_neg (by decide)]
theorem tak_o (M : Nat → Nat → Int32) (p : Nat) {k : Nat} (hk : k < 4) : takM M p (nI (1 + 2 * k)) = takP M p k (nv (M 14 k)) := by
  rcases (by omega : k = 0 ∨ k = 1 ∨ k = 2 ∨ k = 3) with rfl | rfl | rfl | rfl
  · rw [takM, if_pos (by decide)]
  · rw [takM, if_neg (by decide), if_pos (by decide)]
  · rw [takM, if_neg (by decide), if_neg (by decide), if_pos (by decide)]
  · rw [takM, if_neg (by decide), if_neg (by decide), if_neg (by decide), if_pos (by decide)]
theorem tak_e (M : Nat → Nat → Int32) (p : Nat) {k : Nat} (hk : k < 4) : takM M p (nI (2 + 2 * k)) = refM M p := by
  rcases (by omega : k = 0 ∨ k = 1 ∨ k = 2 ∨ k = 3) with rfl | rfl | rfl | rfl <;> rw [takM, if_neg (by decide), if_neg (by decide), if_neg (by decide), if_neg (by decide)]
theorem tak_m (M : Nat → Nat → Int32) (p : Nat) : takM M p (-1) = refM M p := by
  rw [takM, if_neg (by decide), if_neg (by decide), if_neg (by decide), if_neg (by decide)]
theorem tak_0 (M : Nat → Nat → Int32) (p : Nat) : takM M p 0 = refM M p := by
  rw [takM, if_neg (by decide), if_neg (by decide), if_neg (by decide), if_neg (by decide)]
/-- an end that a process has is held -/
theorem dsc_hel {M : Nat → Nat → Int32} {p e : Nat} {a : Int32} (hp1 : 1 ≤ p) (hp8 : p ≤ 8) (he : e < 2 ^ 31) (h : dsc M p a = nI e) : hel M (nI e) = true := by
  unfold dsc at h
  split at h
  · rename_i hx
    rcases pk_ix a (n := 6) (by decide) with q | q | ⟨k, hk, rfl⟩
    · exact absurd q (Int32.not_lt.mpr hx.1)
    · exact absurd hx.2 (Int32.not_lt.mpr q)
    · rw [nI_clamp (by omega)] at h
      exact (hel_iff _ _).mpr ⟨p, k, hp1, hp8, hk, h⟩
  · exact absurd h.symm (nI_nm he)
section CALLS3
variable {F i z s n : Nat} {T U V W : Int32} {B N : Nat → Nat → Int32}
theorem J_c6 (h : CX F i z s n T U V W B N) (a : Int32) (hno : obW B (dsc N (i + 1) a) = 1) : J F (i + 1) D0 T U V W (sR (wtC B n (dsc N (i + 1) a) (N 9 (32 * (i + 1) + 11) &&& 255)).2 i 10 (wtC B n (dsc N (i + 1) a) (N 9 (32 * (i + 1) + 11) &&& 255)).1) (fin (sndM N (i + 1) (dsc N (i + 1) a)) (i + 1)) := by
  have h' := h
  obtain ⟨hi, hJ, h4, h16, h27, h24, hs, hs8, hz, hz8, hn, hn2⟩ := h
  have hp := hJ.2.2.1 i hi
  have hed : edr (dsc N (i + 1) a) := dsc_edr (fun d hd => (hp.2.2.2.2.2.2.2.1 d hd).2) a
  obtain ⟨b, hb⟩ : ∃ b, b = N 9 (32 * (i + 1) + 11) &&& 255 := ⟨_, rfl⟩
  rw [← hb]
  rcases edr_cases hed with hx | hx | ⟨k, hk, hx⟩ | ⟨k, hk, hx⟩
  · rw [hx, snd_m, wtC, if_neg (by decide), if_neg (fun q => absurd q.1 (by decide))]
    exact J_ans h' (-1)
  · rw [hx, wtC, if_pos rfl, sndM, if_pos rfl, sndC, prC]
    obtain ⟨n', _, e1, e2⟩ := hJ.1.2.2.2.2.2.1
    have en : n' = n := (nI_eq (by omega) (by omega)).mp (e1.symm.trans hn)
    rw [e2, nv_nI (by omega), en, ← hb]
    by_cases h2 : n < 200
    · rw [if_pos h2, if_pos h2]
      simp only
      have hg := J_con hJ h2 b
      have hg2 := J_reg hg hi (k := 10) (by decide) b (Or.inr (Or.inl (by rw [up2_row _ _ _ (by decide), up2_row _ _ _ (by decide)]; exact h4)))
      have e : up2 (up2 (setM N (i + 1) 10 b) 15 n b) 0 22 (nI (n + 1)) = setM (up2 (up2 N 15 n b) 0 22 (nI (n + 1))) (i + 1) 10 b := by
        rw [setM, setM, up2_comm _ _ _ _ _ (by decide : (9 : Nat) ≠ 15), up2_comm _ _ _ _ _ (by decide : (9 : Nat) ≠ 0)]
      rw [e]
      refine J_fin hg2 hi ?_ ?_
      · rw [sR_row _ _ _ _ (by decide), setM_row _ _ _ _ (by decide), up2_row _ _ _ (by decide), up2_row _ _ _ (by decide), up2_col _ _ _ (by decide), up2_row _ _ _ (by decide)]
        exact h16
      · rw [setM_row _ _ _ _ (by decide), up2_col _ _ _ (by decide), up2_row _ _ _ (by decide), h27]
        decide
    · rw [if_neg h2, if_neg h2]
      exact J_ans h' (-1)
  · rw [hx, snd_o _ _ hk, wtC, if_neg (nI_ne0 (by omega) (by omega)), if_neg (fun q => absurd q.1 (by rw [wr_f k hk]; decide))]
    exact J_ans h' (-1)
  · have hpp : pip N k := Or.inr (dsc_hel (by omega) (by omega) (by omega) hx)
    obtain ⟨pa, pc, ha8, hc8, ea, ec, hk5, _⟩ := hJ.2.2.2.1 k hk
    have e14 := (hk5 hpp).1
    have ek : (nv (nI (2 + 2 * k)) - 1) / 2 = k := by rw [nv_nI (by omega)]; omega
    rw [hx] at hno ⊢
    rw [obW, ek, wr_t k hk, e_m1 k hk, he_eq hJ.2.2.1, ec] at hno
    rw [snd_e _ _ hk, e14, nv_nI (by omega), wtC, if_neg (nI_ne0 (by omega) (by omega)), ek, wr_t k hk, e_m1 k hk, he_eq hJ.2.2.1, ea, ec, nv_nI (by omega), nv_nI (by omega), sndP, ← hb]
    by_cases hh : hel N (nI (1 + 2 * k)) = true
    · have c8 : pc < 8 := by
        rcases Nat.lt_or_ge pc 8 with q | q
        · exact q
        · rw [if_pos ⟨rfl, nI_le (a := 8) q (by omega), hh⟩] at hno
          exact absurd hno (by decide)
      rw [if_pos ⟨rfl, hh⟩, if_pos hh, if_neg (by omega)]
      simp only
      have hg := J_put (b := b) hJ hi h4 hk hpp ea ha8 ec c8
      have hg2 := J_reg hg hi (k := 10) (by decide) b (Or.inr (Or.inl (by rw [up2_row _ _ _ (by decide), up2_row _ _ _ (by decide)]; exact h4)))
      have e : up2 (up2 (setM N (i + 1) 10 b) 13 (8 * k + pc) b) 14 k (nI (pc + 1)) = setM (up2 (up2 N 13 (8 * k + pc) b) 14 k (nI (pc + 1))) (i + 1) 10 b := by
        rw [setM, setM, up2_comm _ _ _ _ _ (by decide : (9 : Nat) ≠ 13), up2_comm _ _ _ _ _ (by decide : (9 : Nat) ≠ 14)]
      rw [e]
      refine J_fin hg2 hi ?_ ?_
      · rw [sR_row _ _ _ _ (by decide), setM_row _ _ _ _ (by decide), puC, if_pos c8, up2_row _ _ _ (by decide), up2_row _ _ _ (by decide), up2_row _ _ _ (by decide), up2_row _ _ _ (by decide)]
        exact h16
      · rw [setM_row _ _ _ _ (by decide), up2_row _ _ _ (by decide), up2_row _ _ _ (by decide), h27]
        decide
    · rw [if_neg (fun q => hh q.2), if_neg hh]
      exact J_ans h' (-1)
theorem J_c7 (h : CX F i z s n T U V W B N) (a : Int32) (hno : obR B (dsc N (i + 1) a) = 1) : J F (i + 1) D0 T U V W (sR (rdC B (dsc N (i + 1) a)).2 i 10 (rdC B (dsc N (i + 1) a)).1) (fin (takM N (i + 1) (dsc N (i + 1) a)) (i + 1)) := by
  have h' := h
  obtain ⟨hi, hJ, h4, h16, h27, h24, hs, hs8, hz, hz8, hn, hn2⟩ := h
  have hp := hJ.2.2.1 i hi
  have hed : edr (dsc N (i + 1) a) := dsc_edr (fun d hd => (hp.2.2.2.2.2.2.2.1 d hd).2) a
  rcases edr_cases hed with hx | hx | ⟨k, hk, hx⟩ | ⟨k, hk, hx⟩
  · rw [hx, tak_m, rdC, if_neg (by decide)]
    exact J_ans h' (-1)
  · rw [hx, tak_0, rdC, if_neg (by decide)]
    exact J_ans h' (-1)
  · have hpp : pip N k := Or.inl (dsc_hel (by omega) (by omega) (by omega) hx)
    obtain ⟨pa, pc, ha8, hc8, ea, ec, hk5, _⟩ := hJ.2.2.2.1 k hk
    have e14 := (hk5 hpp).1
    have ek : (nv (nI (1 + 2 * k)) - 1) / 2 = k := by rw [nv_nI (by omega)]; omega
    rw [hx] at hno ⊢
    rw [obR, ek, re_t k hk, e_p1 k hk, he_eq hJ.2.2.1, ec] at hno
    rw [tak_o _ _ hk, e14, nv_nI (by omega), rdC, re_t k hk, if_pos rfl, ek, ea, ec, nv_nI (by omega), nv_nI (by omega), takP]
    by_cases hc0 : pc = 0
    · have hh : ¬ hel N (nI (2 + 2 * k)) = true := fun q => by
        rw [if_pos ⟨rfl, by rw [hc0]; rfl, q⟩] at hno
        exact absurd hno (by decide)
      rw [if_pos hc0, if_pos hc0, if_neg hh, taC, if_pos hc0]
      exact J_ans h' (-1)
    · rw [if_neg hc0, if_neg hc0]
      obtain ⟨hg, ev⟩ := J_tak hJ hi h4 hk hpp ea ha8 ec hc0 hc8
      simp only
      rw [ev]
      have hg2 := J_reg hg hi (k := 10) (by decide) (N 13 (8 * k)) (Or.inr (Or.inl (by rw [up2_row _ _ _ (by decide), upr_row _ _ _ _ (by decide)]; exact h4)))
      have e : up2 (upr (setM N (i + 1) 10 (N 13 (8 * k))) 13 (8 * k) 7 (fun j => N 13 (8 * k + j + 1))) 14 k (nI (pc - 1)) = setM (up2 (upr N 13 (8 * k) 7 (fun j => N 13 (8 * k + j + 1))) 14 k (nI (pc - 1))) (i + 1) 10 (N 13 (8 * k)) := by
        rw [setM, setM, upr_comm _ _ _ _ _ _ (by decide : (9 : Nat) ≠ 13), up2_comm _ _ _ _ _ (by decide : (9 : Nat) ≠ 14)]
      rw [e]
      refine J_fin hg2 hi ?_ ?_
      · rw [sR_row _ _ _ _ (by decide), setM_row _ _ _ _ (by decide), taC, if_neg hc0, up2_row _ _ _ (by decide), up2_row _ _ _ (by decide), up2_row _ _ _ (by decide), upr_row _ _ _ _ (by decide)]
        exact h16
      · rw [setM_row _ _ _ _ (by decide), up2_row _ _ _ (by decide), upr_row _ _ _ _ (by decide), h27]
        decide
  · rw [hx, tak_e _ _ hk, rdC, if_neg (by rw [re_f k hk]; decide)]
    exact J_ans h' (-1)
end CALLS3
/-- a call of process i + 1 begins: C is the class behind execute, N the reference -/
def CB (F i z s n : Nat) (T U V W : Int32) (C N : Nat → Nat → Int32) : Prop := i < 8 ∧ J F (i + 1) D0 T U V W C N ∧ N 4 (i + 1) = 1 ∧ N 0 26 = N 7 (i + 1) + 4 ∧ N 0 27 = 1 ∧ N 0 24 = nI (i + 1) ∧ C 14 i = nI s ∧ s ≤ 8 ∧ C 46 1 = nI z ∧ z ≤ 8 ∧ C 0 8 = nI n ∧ n ≤ 200
section CALLS4
variable {F i z s n : Nat} {T U V W : Int32} {C N : Nat → Nat → Int32}
theorem CB_bc (h : CB F i z s n T U V W C N) (ho : obC C i = 1) : bcC C i = up2 C 16 i (C 16 i + 4) ∧ CX F i z s n T U V W (bcC C i) N := by
  obtain ⟨hi, hJ, h4, h26, h27, h24, hs, hs8, hz, hz8, hn, hn2⟩ := h
  have hp := hJ.2.2.1 i hi
  have e15 : up2 C 15 i 1 = C := up2_same (by rw [hp.2.1]; exact h4)
  have e : bcC C i = up2 C 16 i (C 16 i + 4) := by rw [bcC, if_pos ho, e15]
  have e16 : C 16 i = N 7 (i + 1) := by rw [(hp.2.2.2.1 (by rw [h4]; decide)).1]; exact Int32.add_zero _
  refine ⟨e, ?_⟩
  have hJ2 := J_pc (D' := D4 i) (v := N 7 (i + 1)) (w := C 16 i + 4) hJ hi (fun j _ hj => by rw [D0, D4, if_neg hj]) (by rw [e16, D4, if_pos rfl])
  rw [up2_same (σ := N) rfl] at hJ2
  rw [e]
  refine ⟨hi, hJ2, h4, ?_, h27, h24, ?_, hs8, ?_, hz8, ?_, hn2⟩
  · rw [up2_at, h26, e16]
  · rw [up2_row _ _ _ (by decide)]; exact hs
  · rw [up2_row _ _ _ (by decide)]; exact hz
  · rw [up2_row _ _ _ (by decide)]; exact hn
/-- the process goes to sleep -/
theorem J_slp (h : CB F i z s n T U V W C N) {k : Nat} (hk2 : 2 ≤ k) (hk4 : k ≤ 4) (ho : obC C i = nI k) (hsl : SL (up2 N 4 (i + 1) (nI k)) (i + 1)) : J F (i + 1) D0 T U V W (bcC C i) (fin (blkM N (i + 1) (nI k)) (i + 1)) := by
  obtain ⟨hi, hJ, h4, h26, h27, h24, hs, hs8, hz, hz8, hn, hn2⟩ := h
  have hne : ¬ obC C i = 1 := by
    rw [ho]
    exact fun q => by have := (nI_eq (b := 1) (by omega) (by decide)).mp q; omega
  have e : bcC C i = up2 C 15 i (nI k) := by rw [bcC, if_neg hne, ho]
  rw [e, fin, blkM, if_pos (up2_at _ _ _ _)]
  exact J_scr (J_blk hJ hi hk2 hk4 h4 hsl) 0 (by decide)
theorem obW_row {C C' : Nat → Nat → Int32} (h26 : C' 26 = C 26) (h22 : C' 22 = C 22) (x : Int32) : obW C' x = obW C x := by
  unfold obW heC
  rw [h26, h22]
theorem obR_row {C C' : Nat → Nat → Int32} (h26 : C' 26 = C 26) (h22 : C' 22 = C 22) (x : Int32) : obR C' x = obR C x := by
  unfold obR heC
  rw [h26, h22]
theorem J_call (h : CB F i z s n T U V W C N) : J F (i + 1) D0 T U V W (ms3 C i F s (nfr N F) z n (-2)) (fin (calM N (i + 1) z s F) (i + 1)) := by
  have h' := h
  obtain ⟨hi, hJ, h4, h26, h27, h24, hs, hs8, hz, hz8, hn, hn2⟩ := h
  have hp := hJ.2.2.1 i hi
  have hreg := (hp.2.2.2.1 (by rw [h4]; decide)).2.2
  have e17 := hreg 17 (by decide)
  have e10 := hreg 10 (by decide)
  have hed : edr (dsc N (i + 1) (N 9 (32 * (i + 1) + 10))) := dsc_edr (fun d hd => (hp.2.2.2.2.2.2.2.1 d hd).2) _
  rw [ms3, if_pos rfl]
  obtain ⟨r, hr⟩ : ∃ r, r = N 9 (32 * (i + 1) + 17) := ⟨_, rfl⟩
  obtain ⟨a, ha⟩ : ∃ a, a = N 9 (32 * (i + 1) + 10) := ⟨_, rfl⟩
  have hob : obC C i = if r = 4 then obK C i else if r = 6 then obW C (dsc N (i + 1) a) else if r = 7 then obR C (dsc N (i + 1) a) else 1 := by
    rw [obC, e17, e10, ← hr, ← ha, eA_eq hp]
  unfold calM
  rw [← hr, ← ha]
  rw [← ha] at hed
  -- once the call has begun
  have go : obC C i = 1 → bcC C i 20 (32 * i + 17) = r ∧ bcC C i 20 (32 * i + 10) = a ∧ bcC C i 20 (32 * i + 11) = N 9 (32 * (i + 1) + 11) ∧ CX F i z s n T U V W (bcC C i) N ∧ bcC C i 26 = C 26 ∧ bcC C i 22 = C 22 ∧ PR (D4 i) (bcC C i) N i := by
    intro ho
    obtain ⟨e, hx⟩ := CB_bc h' ho
    exact ⟨by rw [CX_reg hx (by decide), hr], by rw [CX_reg hx (by decide), ha], CX_reg hx (by decide), hx, by rw [e, up2_row _ _ _ (by decide)], by rw [e, up2_row _ _ _ (by decide)], hx.2.1.2.2.1 i hi⟩
  by_cases h0 : r = 0
  · have ho : obC C i = 1 := by rw [hob, h0]; rfl
    obtain ⟨g17, g10, g11, gx, g26, g22, gp⟩ := go ho
    rw [if_pos ho, if_pos h0, g10, anC, g17, if_pos h0]
    have := J_c0 gx
    rw [g10] at this
    exact this
  rw [if_neg h0]
  by_cases h1 : r = 1
  · have ho : obC C i = 1 := by rw [hob, h1]; rfl
    obtain ⟨g17, g10, g11, gx, g26, g22, gp⟩ := go ho
    rw [if_pos ho, if_pos h1, g10, anC, g17, if_neg h0, if_pos h1]
    simp only
    exact J_c1 gx a g10
  rw [if_neg h1]
  by_cases h2 : r = 2
  · have ho : obC C i = 1 := by rw [hob, h2]; rfl
    obtain ⟨g17, g10, g11, gx, g26, g22, gp⟩ := go ho
    rw [if_pos ho, if_pos h2, g10, anC, g17, if_neg h0, if_neg h1, if_pos h2]
    simp only
    rw [CX_num gx]
    exact J_ans gx _
  rw [if_neg h2]
  by_cases h3 : r = 3
  · have ho : obC C i = 1 := by rw [hob, h3]; rfl
    obtain ⟨g17, g10, g11, gx, g26, g22, gp⟩ := go ho
    rw [if_pos ho, if_pos h3, g10, anC, g17, if_neg h0, if_neg h1, if_neg h2, if_pos h3]
    exact J_c3 gx
  rw [if_neg h3]
  by_cases h4r : r = 4
  · rw [if_pos h4r] at hob
    rw [if_pos h4r]
    obtain ⟨l0, _, _⟩ := lcf_0 hJ.2.2.1 hi
    by_cases hl : lcf N (nI (i + 1)) 8 = 0
    · have ho : obC C i = nI 4 := by rw [hob, obK, if_pos (l0.mp hl)]; rfl
      rw [if_neg (by rw [ho]; decide), waiM, if_pos hl]
      refine J_slp h' (k := 4) (by decide) (by decide) ho ⟨fun q => ?_, fun q => ?_, fun _ => ?_⟩
      · rw [up2_at] at q; exact absurd q (by decide)
      · rw [up2_at] at q; exact absurd q (by decide)
      · rw [up2_row _ _ _ (by decide), ← hr]; exact h4r
    · have ho : obC C i = 1 := by rw [hob, obK, if_neg (fun q => hl (l0.mpr q))]
      obtain ⟨g17, g10, g11, gx, g26, g22, gp⟩ := go ho
      rw [if_pos ho, g10, anC, g17, if_neg h0, if_neg h1, if_neg h2, if_neg h3, if_pos h4r]
      exact J_c4 gx hl
  rw [if_neg h4r] at hob ⊢
  by_cases h5 : r = 5
  · have ho : obC C i = 1 := by rw [hob, h5]; rfl
    obtain ⟨g17, g10, g11, gx, g26, g22, gp⟩ := go ho
    rw [if_pos ho, if_pos h5, g10, anC, g17, if_neg h0, if_neg h1, if_neg h2, if_neg h3, if_neg h4r, if_pos h5]
    exact J_c5 gx a
  rw [if_neg h5]
  by_cases h6 : r = 6
  · rw [if_pos h6] at hob ⊢
    by_cases hw : obW C (dsc N (i + 1) a) = 1
    · rw [hw] at hob
      obtain ⟨g17, g10, g11, gx, g26, g22, gp⟩ := go hob
      rw [if_pos hob, g10, anC, g17, if_neg h0, if_neg h1, if_neg h2, if_neg h3, if_neg h4r, if_neg h5, if_pos h6, eA_eq gp, g11]
      exact J_c6 gx a (by rw [obW_row g26 g22]; exact hw)
    · have hx : ∃ k, k < 4 ∧ dsc N (i + 1) a = nI (2 + 2 * k) := by
        rcases edr_cases hed with hx | hx | ⟨k, hk, hx⟩ | ⟨k, hk, hx⟩
        · rw [hx, obW, if_neg (fun q => absurd q.1 (by decide))] at hw; exact absurd rfl hw
        · rw [hx, obW, if_neg (fun q => absurd q.1 (by decide))] at hw; exact absurd rfl hw
        · rw [hx, obW, if_neg (fun q => absurd q.1 (by rw [wr_f k hk]; decide))] at hw; exact absurd rfl hw
        · exact ⟨k, hk, hx⟩
      obtain ⟨k, hk, hx⟩ := hx
      have hpp : pip N k := Or.inr (dsc_hel (by omega) (by omega) (by omega) hx)
      obtain ⟨pa, pc, ha8, hc8, ea, ec, hk5, _⟩ := hJ.2.2.2.1 k hk
      have e14 := (hk5 hpp).1
      have ek : (nv (nI (2 + 2 * k)) - 1) / 2 = k := by rw [nv_nI (by omega)]; omega
      have hw2 : obW C (dsc N (i + 1) a) = 3 := by
        unfold obW at hw ⊢
        by_cases q : wrE (dsc N (i + 1) a) = true ∧ 8 ≤ C 26 ((nv (dsc N (i + 1) a) - 1) / 2) ∧ heC C (dsc N (i + 1) a - 1) = true
        · rw [if_pos q]
        · rw [if_neg q] at hw; exact absurd rfl hw
      have hcond : 8 ≤ nI pc ∧ hel N (nI (1 + 2 * k)) = true := by
        rw [obW, hx, ek, e_m1 k hk, he_eq hJ.2.2.1, ec] at hw
        by_cases q : 8 ≤ nI pc ∧ hel N (nI (1 + 2 * k)) = true
        · exact q
        · rw [if_neg (fun w => q w.2)] at hw; exact absurd rfl hw
      have c8 : pc = 8 := by have := (nI_leI (a := 8) (by decide) (by omega)).mp hcond.1; omega
      have ho : obC C i = nI 3 := by rw [hob, hw2]; rfl
      rw [if_neg (by rw [ho]; decide), hx, snd_e _ _ hk, e14, nv_nI (by omega), sndP, if_pos hcond.2, if_pos c8]
      refine J_slp h' (k := 3) (by decide) (by decide) ho ⟨fun q => ?_, fun _ => ⟨?_, k, hk, ?_⟩, fun q => ?_⟩
      · rw [up2_at] at q; exact absurd q (by decide)
      · rw [up2_row _ _ _ (by decide), ← hr]; exact h6
      · rw [up2_row _ _ _ (by decide), ← ha, dsc_c (M := N) (fun d _ => by rw [up2_row _ _ _ (by decide)])]; exact hx
      · rw [up2_at] at q; exact absurd q (by decide)
  rw [if_neg h6] at hob ⊢
  by_cases h7 : r = 7
  · rw [if_pos h7] at hob ⊢
    by_cases hw : obR C (dsc N (i + 1) a) = 1
    · rw [hw] at hob
      obtain ⟨g17, g10, g11, gx, g26, g22, gp⟩ := go hob
      rw [if_pos hob, g10, anC, g17, if_neg h0, if_neg h1, if_neg h2, if_neg h3, if_neg h4r, if_neg h5, if_neg h6, if_pos h7, eA_eq gp]
      exact J_c7 gx a (by rw [obR_row g26 g22]; exact hw)
    · have hx : ∃ k, k < 4 ∧ dsc N (i + 1) a = nI (1 + 2 * k) := by
        rcases edr_cases hed with hx | hx | ⟨k, hk, hx⟩ | ⟨k, hk, hx⟩
        · rw [hx, obR, if_neg (fun q => absurd q.1 (by decide))] at hw; exact absurd rfl hw
        · rw [hx, obR, if_neg (fun q => absurd q.1 (by decide))] at hw; exact absurd rfl hw
        · exact ⟨k, hk, hx⟩
        · rw [hx, obR, if_neg (fun q => absurd q.1 (by rw [re_f k hk]; decide))] at hw; exact absurd rfl hw
      obtain ⟨k, hk, hx⟩ := hx
      have hpp : pip N k := Or.inl (dsc_hel (by omega) (by omega) (by omega) hx)
      obtain ⟨pa, pc, ha8, hc8, ea, ec, hk5, _⟩ := hJ.2.2.2.1 k hk
      have e14 := (hk5 hpp).1
      have ek : (nv (nI (1 + 2 * k)) - 1) / 2 = k := by rw [nv_nI (by omega)]; omega
      have hw2 : obR C (dsc N (i + 1) a) = 2 := by
        unfold obR at hw ⊢
        by_cases q : reE (dsc N (i + 1) a) = true ∧ C 26 ((nv (dsc N (i + 1) a) - 1) / 2) = 0 ∧ heC C (dsc N (i + 1) a + 1) = true
        · rw [if_pos q]
        · rw [if_neg q] at hw; exact absurd rfl hw
      have hcond : nI pc = 0 ∧ hel N (nI (2 + 2 * k)) = true := by
        rw [obR, hx, ek, e_p1 k hk, he_eq hJ.2.2.1, ec] at hw
        by_cases q : nI pc = 0 ∧ hel N (nI (2 + 2 * k)) = true
        · exact q
        · rw [if_neg (fun w => q w.2)] at hw; exact absurd rfl hw
      have c0 : pc = 0 := (nI_eq (b := 0) (by omega) (by decide)).mp hcond.1
      have ho : obC C i = nI 2 := by rw [hob, hw2]; rfl
      rw [if_neg (by rw [ho]; decide), hx, tak_o _ _ hk, e14, nv_nI (by omega), takP, if_pos c0, if_pos hcond.2]
      refine J_slp h' (k := 2) (by decide) (by decide) ho ⟨fun _ => ⟨?_, k, hk, ?_⟩, fun q => ?_, fun q => ?_⟩
      · rw [up2_row _ _ _ (by decide), ← hr]; exact h7
      · rw [up2_row _ _ _ (by decide), ← ha, dsc_c (M := N) (fun d _ => by rw [up2_row _ _ _ (by decide)])]; exact hx
      · rw [up2_at] at q; exact absurd q (by decide)
      · rw [up2_at] at q; exact absurd q (by decide)
  rw [if_neg h7] at hob ⊢
  obtain ⟨g17, g10, g11, gx, g26, g22, gp⟩ := go hob
  rw [if_pos hob, g10, anC, g17, if_neg h0, if_neg h1, if_neg h2, if_neg h3, if_neg h4r, if_neg h5, if_neg h6, if_neg h7]
  by_cases h8 : r = 8
  · rw [if_pos h8, if_pos h8]
    exact J_c8 gx
  rw [if_neg h8, if_neg h8]
  by_cases h9 : r = 9
  · rw [if_pos h9, if_pos h9]
    exact J_c9 gx a
  rw [if_neg h9, if_neg h9]
  by_cases h10 : r = 10
  · rw [if_pos h10, if_pos h10]
    exact J_c10 gx a
  rw [if_neg h10, if_neg h10]
  by_cases h11 : r = 11
  · rw [if_pos h11, if_pos h11]
    exact J_c11 gx a
  rw [if_neg h11, if_neg h11]
  exact J_ans gx (-1)
end CALLS4

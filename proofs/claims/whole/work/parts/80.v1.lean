/-! ===== the views and load, on both sides ===== -/
theorem JT_v {G : iG} {F : Nat} {C M : Nat → Nat → Int32} {mk mm : iM} {dk dm : Nat} {As : List iV} {x y : Int32} (h : JI F C M) (e : y = x) (hk : MI G mk dk (vR 0 :: As) (HW F C M) (fun z h' => z = x ∧ h' = HW F C M)) (hm : MI G mm dm (vR 50 :: As) (HW F C M) (fun z h' => z = y ∧ h' = HW F C M)) : JT G F C M mk dk mm dm As := by
  subst e
  exact ⟨y, C, M, h, hk, hm⟩
theorem is_case {D : Nat → Int32} {C M : Nat → Nat → Int32} (hp : ∀ i, i < 8 → PR D C M i) (x : Int32) : (¬ isbC C x = true ∧ ¬ isb M x = true) ∨ ∃ i, i < 8 ∧ isbC C x = true ∧ isb M x = true ∧ nv x = i + 1 ∧ nv x - 1 = i ∧ M 4 (i + 1) ≠ 0 := by
  by_cases ha : 1 ≤ x ∧ x ≤ 8
  · obtain ⟨q, hq1, hq8, rfl⟩ := in18 ha.1 ha.2
    obtain ⟨i, rfl⟩ : ∃ i, q = i + 1 := ⟨q - 1, by omega⟩
    have hi : i < 8 := by omega
    obtain ⟨_, a2, ⟨s, hs, e⟩, _⟩ := hp i hi
    have ev : nv (nI (i + 1)) = i + 1 := nv_nI (by omega)
    rw [isbC_nI C hi, isb_nI hq1 hq8, a2]
    by_cases h0 : M 4 (i + 1) = 0
    · left
      rw [h0]
      exact ⟨by decide, by decide⟩
    · right
      refine ⟨i, hi, by simp [h0], ?_, ev, by omega, h0⟩
      rw [e] at h0 ⊢
      rcases (by omega : s = 0 ∨ s = 1 ∨ s = 2 ∨ s = 3 ∨ s = 4 ∨ s = 5) with rfl | rfl | rfl | rfl | rfl | rfl
      · exact absurd rfl h0
      all_goals decide
  · left
    refine ⟨fun q => ?_, fun q => ?_⟩
    · obtain ⟨i, hi, e, _⟩ := isbC_of q
      subst e
      exact ha ⟨(nI_leI (a := 1) (by decide) (by omega)).mpr (by omega), (nI_leI (b := 8) (by omega) (by decide)).mpr (by omega)⟩
    · obtain ⟨p, h1, h8, e, _⟩ := isb_of q
      subst e
      exact ha ⟨(nI_leI (a := 1) (by decide) (by omega)).mpr (by omega), (nI_leI (b := 8) (by omega) (by decide)).mpr (by omega)⟩
section VIEWS
variable {G : iG} {F : Nat} {C M : Nat → Nat → Int32}
theorem jt_stateOf (h : JI F C M) (x0 : Int32) : JT G F C M m_K_stateOf 1 m_MOD_stateOf 1 [vI x0] := by
  refine JT_v h ?_ c_K_stateOf c_MOD_stateOf
  obtain ⟨t, T, U, W, ⟨_, g1, g2, g3, g4⟩, _⟩ := h
  rcases is_case g2 x0 with ⟨n1, n2⟩ | ⟨i, hi, p1, p2, e1, e2, h0⟩
  · rw [if_neg n1, if_neg n2]
  · rw [if_pos p1, if_pos p2, e2, e1]
    exact (g2 i hi).2.1.symm
theorem jt_parentOf (h : JI F C M) (x0 : Int32) : JT G F C M m_K_parentOf 1 m_MOD_parentOf 1 [vI x0] := by
  refine JT_v h ?_ c_K_parentOf c_MOD_parentOf
  obtain ⟨t, T, U, W, ⟨_, g1, g2, g3, g4⟩, _⟩ := h
  rcases is_case g2 x0 with ⟨n1, n2⟩ | ⟨i, hi, p1, p2, e1, e2, h0⟩
  · rw [if_neg n1, if_neg n2]
  · rw [if_pos p1, if_pos p2, e2, e1]
    exact ((g2 i hi).2.2.2.1 h0).2.1.symm
theorem jt_pages (h : JI F C M) (x0 : Int32) : JT G F C M m_K_pages 1 m_MOD_pages 1 [vI x0] := by
  refine JT_v h ?_ c_K_pages c_MOD_pages
  obtain ⟨t, T, U, W, ⟨_, g1, g2, g3, g4⟩, _⟩ := h
  rcases is_case g2 x0 with ⟨n1, n2⟩ | ⟨i, hi, p1, p2, e1, e2, h0⟩
  · rw [if_neg n1, if_neg n2]
  · rw [if_pos p1, if_pos p2, e2, e1]
    obtain ⟨s, _, q1, q2, _⟩ := g1.2.2.2.1 i hi
    rw [q1, q2]
theorem jt_pc (h : JI F C M) (x0 : Int32) : JT G F C M m_K_pc 1 m_MOD_pc 1 [vI x0] := by
  refine JT_v h ?_ c_K_pc c_MOD_pc
  obtain ⟨t, T, U, W, ⟨_, g1, g2, g3, g4⟩, _⟩ := h
  rcases is_case g2 x0 with ⟨n1, n2⟩ | ⟨i, hi, p1, p2, e1, e2, h0⟩
  · rw [if_neg n1, if_neg n2]
  · rw [if_pos p1, if_pos p2, e2, e1, ((g2 i hi).2.2.2.1 h0).1]
    exact (Int32.add_zero _).symm
theorem jt_exitOf (h : JI F C M) (x0 : Int32) : JT G F C M m_K_exitOf 1 m_MOD_exitOf 1 [vI x0] := by
  refine JT_v h ?_ c_K_exitOf c_MOD_exitOf
  obtain ⟨t, T, U, W, ⟨_, g1, g2, g3, g4⟩, _⟩ := h
  rcases is_case g2 x0 with ⟨n1, n2⟩ | ⟨i, hi, p1, p2, e1, e2, h0⟩
  · rw [if_neg n1, if_neg (fun q => n2 q.1)]
  · rw [if_pos p1, e2, e1, (g2 i hi).2.1]
    by_cases h5 : M 4 (i + 1) = 5
    · rw [if_pos ⟨p2, h5⟩, if_pos h5]
      exact ((g2 i hi).2.2.2.2.1 h5).symm
    · rw [if_neg (fun q => h5 q.2), if_neg h5]
theorem jt_register (h : JI F C M) (x0 y0 : Int32) : JT G F C M m_K_register 1 m_MOD_register 1 [vI x0, vI y0] := by
  refine JT_v h ?_ c_K_register c_MOD_register
  obtain ⟨t, T, U, W, ⟨_, g1, g2, g3, g4⟩, _⟩ := h
  rcases is_case g2 x0 with ⟨n1, n2⟩ | ⟨i, hi, p1, p2, e1, e2, h0⟩
  · rw [if_neg n1, if_neg (fun q => n2 q.1)]
  · rw [if_pos p1, e2, e1, gR]
    by_cases hy : 0 ≤ y0 ∧ y0 < 32
    · rw [if_pos ⟨p2, hy⟩, if_pos hy]
      rcases pk_ix y0 (n := 32) (by decide) with q | q | ⟨k, hk, rfl⟩
      · exact absurd q (Int32.not_lt.mpr hy.1)
      · exact absurd hy.2 (Int32.not_lt.mpr q)
      · rw [nv_nI (by omega)]
        exact (((g2 i hi).2.2.2.1 h0).2.2 k hk).symm
    · rw [if_neg (fun q => hy q.2), if_neg hy]
theorem jt_descriptor (h : JI F C M) (x0 y0 : Int32) : JT G F C M m_K_descriptor 1 m_MOD_descriptor 1 [vI x0, vI y0] := by
  refine JT_v h ?_ c_K_descriptor c_MOD_descriptor
  obtain ⟨t, T, U, W, ⟨_, g1, g2, g3, g4⟩, _⟩ := h
  rcases is_case g2 x0 with ⟨n1, n2⟩ | ⟨i, hi, p1, p2, e1, e2, h0⟩
  · rw [if_neg n1, if_neg n2]
  · rw [if_pos p1, if_pos p2, e2, e1]
    exact (eA_eq (g2 i hi) y0).symm
theorem jt_word (h : JI F C M) (x0 y0 : Int32) : JT G F C M m_K_word 1 m_MOD_word 1 [vI x0, vI y0] := by
  obtain ⟨t, T, U, W, hJ, _⟩ := id h
  have hF := hJ.1.1
  refine JT_v h ?_ (c_K_word hF (pg_of hJ)) (c_MOD_word ?_)
  · obtain ⟨_, g1, g2, g3, g4⟩ := hJ
    rcases is_case g2 x0 with ⟨n1, n2⟩ | ⟨i, hi, p1, p2, e1, e2, h0⟩
    · rw [if_neg (fun q => n2 q.1), if_neg (fun q => n1 q.1)]
    · obtain ⟨s, hs8, q1, q2, hpg⟩ := g1.2.2.2.1 i hi
      have er := rng_iff y0 hs8
      have ea := al4 y0
      rw [e2, e1, q1, q2, nv_nI (by omega), pk_mul]
      by_cases c : y0 &&& 3 = 0 ∧ y0.toBitVec.toNat / 64 < s
      · rw [if_pos ⟨p2, er.mpr c.2, ea.mpr c.1⟩, if_pos ⟨p1, c⟩]
        have hy := er.mpr c.2
        rcases pk_ix y0 (n := 64 * s) (by omega) with q | q | ⟨b, hb, rfl⟩
        · exact absurd q (Int32.not_lt.mpr hy.1)
        · exact absurd hy.2 (Int32.not_lt.mpr q)
        · have et : (nI b).toBitVec.toNat = b := pk_tn (by omega)
          obtain ⟨f, hf, f1, f2, f3⟩ := hpg (b / 64) (by omega)
          rw [nv_nI (by omega), plN, cel, et, f1, f2, nv_nI (by omega), show f * 16 + b / 4 % 16 = 16 * f + b % 64 / 4 by omega]
          exact (g1.2.2.1 _ (by omega)).symm
      · rw [if_neg (fun q => c ⟨ea.mp q.2.2, er.mp q.2.1⟩), if_neg (fun q => c q.2)]
  · intro p hp1 hp8
    obtain ⟨i, rfl⟩ : ∃ i, p = i + 1 := ⟨p - 1, by omega⟩
    obtain ⟨s, hs8, q1, q2, hpg⟩ := hJ.2.1.2.2.2.1 i (by omega)
    refine ⟨s, hs8, q2, fun k hk => ?_⟩
    obtain ⟨f, hf, _, f2, _⟩ := hpg k hk
    exact ⟨f, by omega, f2⟩
theorem jt_held (h : JI F C M) (x0 : Int32) : JT G F C M m_K_held 2 m_MOD_held 0 [vI x0] := by
  refine JT_v h ?_ c_K_held c_MOD_held
  obtain ⟨t, T, U, W, ⟨_, g1, g2, g3, g4⟩, _⟩ := h
  by_cases hx : 0 ≤ x0 ∧ x0 < 4
  · rw [if_pos hx]
    rcases pk_ix x0 (n := 4) (by decide) with q | q | ⟨k, hk, rfl⟩
    · exact absurd q (Int32.not_lt.mpr hx.1)
    · exact absurd hx.2 (Int32.not_lt.mpr q)
    · rw [nv_nI (by omega)]
      obtain ⟨a, c, ha, hc, e1, e2, k1, k2⟩ := g3 k hk
      by_cases hp : pip M k
      · have : frC C k = false := by
          unfold frC
          rw [he_eq g2, he_eq g2]
          rcases hp with w | w
          · rw [w]; rfl
          · rw [w, Bool.not_true, Bool.and_false]
        rw [if_pos ⟨hx.1, hx.2, this⟩, e2]
        exact (k1 hp).1
      · have : ¬ frC C k = false := by
          unfold frC
          rw [he_eq g2, he_eq g2]
          intro w
          have w2 : (!hel M (nI (1 + 2 * k)) && !hel M (nI (2 + 2 * k))) = true := by
            have n1 : hel M (nI (1 + 2 * k)) = false := Bool.eq_false_iff.mpr (fun q => hp (Or.inl q))
            have n2 : hel M (nI (2 + 2 * k)) = false := Bool.eq_false_iff.mpr (fun q => hp (Or.inr q))
            rw [n1, n2]
            rfl
          exact absurd (w2.symm.trans w) (by decide)
        rw [if_neg (fun q => this q.2.2)]
        exact k2 hp
  · rw [if_neg hx, if_neg (fun q => hx ⟨q.1, q.2.1⟩)]
theorem jt_console (h : JI F C M) (x0 : Int32) : JT G F C M m_K_console 0 m_MOD_console 0 [vI x0] := by
  obtain ⟨t, T, U, W, hJ, _⟩ := id h
  obtain ⟨n, hn, e1, e2⟩ := hJ.1.2.2.2.2.2.1
  refine JT_v h ?_ (c_K_console e1 hn) (c_MOD_console e2 hn)
  by_cases hx : 0 ≤ x0 ∧ x0 < nI n
  · rw [if_pos hx, if_pos hx]
    rcases pk_ix x0 (n := n) (by omega) with q | q | ⟨k, hk, rfl⟩
    · exact absurd q (Int32.not_lt.mpr hx.1)
    · exact absurd hx.2 (Int32.not_lt.mpr q)
    · rw [nv_nI (by omega)]
      exact (hJ.1.2.2.2.2.2.2.1 k (by omega)).symm
  · rw [if_neg hx, if_neg hx]
theorem jt_waitingTurn (h : JI F C M) (x0 : Int32) : JT G F C M m_K_waitingTurn 1 m_MOD_waitingTurn 0 [vI x0] := by
  obtain ⟨t, T, U, W, hJ, _⟩ := id h
  obtain ⟨L, hL, e1, e2, l1, l2, _⟩ := hJ.2.2.2.2
  refine JT_v h ?_ (c_K_waitingTurn e1 hL) (c_MOD_waitingTurn e2 (by omega))
  rw [atC]
  by_cases hx : 0 ≤ x0 ∧ x0 < nI L.length
  · rw [if_pos hx, if_pos hx]
    rcases pk_ix x0 (n := L.length) (by omega) with q | q | ⟨k, hk, rfl⟩
    · exact absurd q (Int32.not_lt.mpr hx.1)
    · exact absurd hx.2 (Int32.not_lt.mpr q)
    · rw [nv_nI (by omega)]
      exact List.map_inj_left.mp (l2.trans l1.symm) k (List.mem_range.mpr hk)
  · rw [if_neg hx, if_neg hx]
theorem jt_current (h : JI F C M) : JT G F C M m_K_current 0 m_MOD_current 0 [] := by
  refine JT_v h ?_ c_K_current c_MOD_current
  obtain ⟨t, T, U, W, hJ, _⟩ := id h
  obtain ⟨_, _, _, _, _, _, _, _, b9, _, b11, _⟩ := hJ.1.2
  exact b11.trans b9.symm
theorem jt_consoleLength (h : JI F C M) : JT G F C M m_K_consoleLength 0 m_MOD_consoleLength 0 [] := by
  refine JT_v h ?_ c_K_consoleLength c_MOD_consoleLength
  obtain ⟨t, T, U, W, hJ, _⟩ := id h
  obtain ⟨n, hn, e1, e2⟩ := hJ.1.2.2.2.2.2.1
  exact e2.trans e1.symm
theorem jt_freeFrames (h : JI F C M) : JT G F C M m_K_freeFrames 0 m_MOD_freeFrames 0 [] := by
  obtain ⟨t, T, U, W, hJ, _⟩ := id h
  exact JT_v h hJ.2.1.1.symm c_K_freeFrames (c_MOD_freeFrames hJ.1.2.1 hJ.1.1)
theorem J_load {t : Nat} {D : Nat → Int32} {T U V W : Int32} (h : J F t D T U V W C M) {n : Nat} (hn : n < 64) (v : Int32) : J F t D T U V W (up2 (up2 C 48 n v) 0 7 (nI (n + 1))) (up2 (up2 M 3 n v) 0 4 (nI (n + 1))) := by
  obtain ⟨⟨hF, g0⟩, g1, g2, g3, g4⟩ := h
  have r : ∀ a, a ≠ 0 → a ≠ 48 → up2 (up2 C 48 n v) 0 7 (nI (n + 1)) a = C a := fun a q q2 => by rw [up2_row _ _ _ q, up2_row _ _ _ q2]
  have m : ∀ a, a ≠ 0 → a ≠ 3 → up2 (up2 M 3 n v) 0 4 (nI (n + 1)) a = M a := fun a q q2 => by rw [up2_row _ _ _ q, up2_row _ _ _ q2]
  refine ⟨⟨hF, ?_⟩, RM_c g1 (by rw [r _ (by decide) (by decide)]) (r _ (by decide) (by decide)) (r _ (by decide) (by decide)) (r _ (by decide) (by decide)) (r _ (by decide) (by decide)) (m _ (by decide) (by decide)) (m _ (by decide) (by decide)) (m _ (by decide) (by decide)) (m _ (by decide) (by decide)), ?_, fun k hk => RK_c (g3 k hk) (r _ (by decide) (by decide)) (r _ (by decide) (by decide)) (r _ (by decide) (by decide)) (m _ (by decide) (by decide)) (m _ (by decide) (by decide)) (hel_11 (m _ (by decide) (by decide))), RW_c g4 (by rw [r _ (by decide) (by decide)]) (r _ (by decide) (by decide)) (by rw [up2_col _ _ _ (by decide), up2_row _ _ _ (by decide)]) (m _ (by decide) (by decide)) (fun q _ e => by rw [m _ (by decide) (by decide)]; exact e)⟩
  · obtain ⟨b1, b2, b3, b4, b5, b6, b7, b8, b9, b10, b11, b12⟩ := g0
    have x0 : ∀ j, j ≠ 7 → up2 (up2 C 48 n v) 0 7 (nI (n + 1)) 0 j = C 0 j := fun j q => by rw [up2_col _ _ _ q, up2_row _ _ _ (by decide)]
    have y0 : ∀ j, j ≠ 4 → up2 (up2 M 3 n v) 0 4 (nI (n + 1)) 0 j = M 0 j := fun j q => by rw [up2_col _ _ _ q, up2_row _ _ _ (by decide)]
    refine ⟨?_, ?_, ⟨n + 1, by omega, up2_at _ _ _ _, up2_at _ _ _ _⟩, ?_, ?_, ?_, ?_, ?_, ?_, ?_, ?_, ?_⟩
    · rw [y0 _ (by decide)]; exact b1
    · rw [x0 _ (by decide), y0 _ (by decide)]; exact b2
    · intro j hj
      rw [up2_row (b := 48) _ _ _ (by decide), up2_row (b := 3) _ _ _ (by decide)]
      by_cases e : j = n
      · rw [e, up2_at, up2_at]
      · rw [up2_col _ _ _ e, up2_col _ _ _ e]
        exact b4 j hj
    · rw [x0 _ (by decide), y0 _ (by decide)]; exact b5
    · rw [r _ (by decide) (by decide), m _ (by decide) (by decide)]; exact b6
    · rw [x0 _ (by decide), y0 _ (by decide)]; exact b7
    · rw [x0 _ (by decide), y0 _ (by decide)]; exact b8
    · rw [x0 _ (by decide)]; exact b9
    · rw [x0 _ (by decide)]; exact b10
    · rw [y0 _ (by decide)]; exact b11
    · rw [y0 _ (by decide)]; exact b12
  · intro i hi
    refine PR_c (g2 i hi) ?_ ?_ ?_ ?_ ?_ ?_ ?_ ?_ ?_ ?_ ?_ ?_ ?_ ?_
    all_goals first | (intro k' hk'; first | rw [r _ (by decide) (by decide)] | rw [m _ (by decide) (by decide)]) | rw [r _ (by decide) (by decide)] | rw [m _ (by decide) (by decide)]
theorem jt_load (h : JI F C M) (w : Int32) : JT G F C M m_K_load 0 m_MOD_load 0 [vI w] := by
  obtain ⟨t, T, U, W, hJ, htu, hb, hfr⟩ := id h
  obtain ⟨n, hn, e1, e2⟩ := hJ.1.2.2.2.1
  have b7 : C 0 9 = M 0 6 := hJ.1.2.2.2.2.2.2.2.1
  have hk := c_K_load (G := G) (F := F) (M := M) (w := w) e1 hn
  by_cases c : M 0 6 = 0 ∧ n < 64
  · have c' : C 0 9 = 0 ∧ n < 64 := ⟨b7.trans c.1, c.2⟩
    have hm := c_MOD_load (G := G) (F := F) (C := up2 (up2 C 48 n w) 0 7 (nI (n + 1))) (w := w) e2 hn
    rw [if_pos c', if_pos c'] at hk
    rw [if_pos c, if_pos c] at hm
    refine ⟨1, _, _, ⟨t, T, U, W, J_load hJ c.2 w, ?_, ?_, fun q => ?_⟩, hk, hm⟩
    · rw [up2_row (b := 4) _ _ _ (by decide), up2_row (b := 4) _ _ _ (by decide), up2_col _ _ _ (by decide), up2_row (b := 0) _ _ _ (by decide)]
      exact htu
    · rw [up2_col _ _ _ (by decide), up2_row (b := 0) _ _ _ (by decide)]
      exact hb
    · obtain ⟨f1, f2, f3, f4, f5, f6, f7, f8, f9⟩ := hfr c.1
      refine ⟨fun i hi => ?_, ?_, ?_, ?_, ?_, fun k hk => ?_, ?_, ?_, fun k hk => ?_⟩
      · rw [up2_row _ _ _ (by decide), up2_row _ _ _ (by decide)]; exact f1 i hi
      · rw [nfr_2 (M := M) (fun j => by rw [up2_row _ _ _ (by decide), up2_row _ _ _ (by decide)])]; exact f2
      · rw [up2_row _ _ _ (by decide), up2_row _ _ _ (by decide)]; exact f3
      · rw [up2_row _ _ _ (by decide), up2_row _ _ _ (by decide)]; exact f4
      · rw [up2_row _ _ _ (by decide), up2_row _ _ _ (by decide)]; exact f5
      · rw [up2_row _ _ _ (by decide), up2_row _ _ _ (by decide)]; exact f6 k hk
      · rw [up2_row _ _ _ (by decide), up2_row _ _ _ (by decide)]; exact f7
      · rw [up2_row _ _ _ (by decide), up2_row _ _ _ (by decide)]; exact f8
      · rw [up2_row _ _ _ (by decide), up2_row _ _ _ (by decide)]; exact f9 k hk
  · have c' : ¬ (C 0 9 = 0 ∧ n < 64) := fun q => c ⟨b7.symm.trans q.1, q.2⟩
    have hm := c_MOD_load (G := G) (F := F) (C := C) (w := w) e2 hn
    rw [if_neg c', if_neg c'] at hk
    rw [if_neg c, if_neg c] at hm
    exact ⟨0, C, M, h, hk, hm⟩
end VIEWS

/-! ===== the class beside the reference: the row ===== -/
theorem nd_filter (a : Int32) : ∀ L : List Int32, L.Nodup → L.length ≤ (L.filter (fun v => v != a)).length + 1
  | [], _ => by simp
  | x :: l, h => by
    rw [List.nodup_cons] at h
    have ih := nd_filter a l h.2
    by_cases e : x = a
    · subst e
      have hf : l.filter (fun v => v != x) = l := List.filter_eq_self.mpr (fun v hv => by
        have : v ≠ x := fun q => h.1 (q ▸ hv)
        simp [this])
      rw [List.filter_cons_of_neg (by simp), hf, List.length_cons]
      exact Nat.le_refl _
    · rw [List.filter_cons_of_pos (by simp [e]), List.length_cons, List.length_cons]
      omega
theorem nd_len : ∀ (n : Nat) (L : List Int32), L.Nodup → (∀ x, x ∈ L → ∃ q, 1 ≤ q ∧ q ≤ n ∧ x = nI q) → L.length ≤ n
  | 0, L, _, h => by
    cases L with
    | nil => exact Nat.le_refl _
    | cons x l =>
      obtain ⟨q, h1, h2, _⟩ := h x (List.mem_cons_self ..)
      omega
  | n + 1, L, hn, h => by
    have h1 := nd_filter (nI (n + 1)) L hn
    have h2 := nd_len n (L.filter (fun v => v != nI (n + 1))) (List.Nodup.sublist List.filter_sublist hn) (fun x hx => by
      obtain ⟨hx1, hx2⟩ := List.mem_filter.mp hx
      obtain ⟨q, a, b, e⟩ := h x hx1
      refine ⟨q, a, ?_, e⟩
      have : q ≠ n + 1 := fun z => by
        subst z
        rw [e] at hx2
        simp at hx2
      omega)
    omega
theorem map_upl (M : Nat → Nat → Int32) (a : Nat) (l : List Int32) : (List.range l.length).map (upl M a l a) = l := by
  apply List.ext_getElem
  · simp
  · intro j h1 h2
    simp only [List.getElem_map, List.getElem_range, upl, if_true]
    rw [List.getD_eq_getElem?_getD, List.getElem?_eq_getElem h2]
    rfl
theorem map_app {f g : Nat → Int32} {n : Nat} {v : Int32} {L : List Int32} (h : (List.range n).map f = L) (hg : ∀ j, j < n → g j = f j) (hv : g n = v) : (List.range (n + 1)).map g = L ++ [v] := by
  rw [List.range_succ, List.map_append, ← h]
  congr 1
  · apply List.map_congr_left
    intro j hj
    exact hg j (List.mem_range.mp hj)
  · simp [hv]
theorem RW_z {t : Nat} {C M : Nat → Nat → Int32} (h : RW t C M) : ∃ z, z ≤ 8 ∧ C 46 1 = nI z ∧ M 0 15 = nI z := by
  obtain ⟨L, h1, h2, h3, _⟩ := h
  exact ⟨L.length, h1, h2, h3⟩
theorem RW_not {t : Nat} {C M : Nat → Nat → Int32} (h : RW t C M) {p z : Nat} (hp8 : p ≤ 8) (hz : C 46 1 = nI z) (hz8 : z ≤ 8) (hp : p = t ∨ M 4 p ≠ 1) : ∀ j, j < z → M 12 j ≠ nI p := by
  obtain ⟨L, h1, h2, h3, h4, h5, h6, h7⟩ := h
  have e : z = L.length := (nI_eq (by omega) (by omega)).mp (hz.symm.trans h2)
  subst e
  intro j hj q
  have hm : M 12 j ∈ L := by
    rw [← h5]
    exact List.mem_map.mpr ⟨j, List.mem_range.mpr hj, rfl⟩
  obtain ⟨r, a, b, c, d, f⟩ := h7 _ hm
  have er : r = p := (nI_eq (by omega) (by omega)).mp (d.symm.trans q)
  subst er
  rcases hp with hp | hp
  · exact c hp
  · exact hp f
theorem RW_app {t t' p z : Nat} {C M : Nat → Nat → Int32} (h : RW t C M) (hz : C 46 1 = nI z) (hz8 : z ≤ 8) (hp1 : 1 ≤ p) (hp8 : p ≤ 8) (hn : ∀ j, j < z → M 12 j ≠ nI p) (h4 : M 4 p = 1) (ht : t' = t ∨ t' = 0) (hne : p ≠ t') : z < 8 ∧ M 0 15 = nI z ∧ ∀ C' M' : Nat → Nat → Int32, C' 46 1 = nI (z + 1) → C' 47 = up2 C 47 z (nI p) 47 → M' 0 15 = nI (z + 1) → M' 12 = up2 M 12 z (nI p) 12 → M' 4 = M 4 → RW t' C' M' := by
  obtain ⟨L, h1, h2, h3, h4', h5, h6, h7⟩ := h
  have e : z = L.length := (nI_eq (by omega) (by omega)).mp (hz.symm.trans h2)
  subst e
  have hnot : nI p ∉ L := fun q => by
    rw [← h5] at q
    obtain ⟨j, hj, e⟩ := List.mem_map.mp q
    exact hn j (List.mem_range.mp hj) e
  have hnd : (nI p :: L).Nodup := List.nodup_cons.mpr ⟨hnot, h6⟩
  have hlen := nd_len 8 (nI p :: L) hnd (fun x hx => by
    rcases List.mem_cons.mp hx with q | q
    · exact ⟨p, hp1, hp8, q⟩
    · obtain ⟨r, a, b, _, d, _⟩ := h7 x q
      exact ⟨r, a, b, d⟩)
  rw [List.length_cons] at hlen
  refine ⟨by omega, h3, fun C' M' g1 g2 g3 g4 g5 => ⟨L ++ [nI p], by simp; omega, by simp [g1], by simp [g3], ?_, ?_, ?_, ?_⟩⟩
  · rw [List.length_append, List.length_singleton, g2]
    exact map_app h4' (fun j hj => up2_col _ _ _ (by omega)) (up2_at _ _ _ _)
  · rw [List.length_append, List.length_singleton, g4]
    exact map_app h5 (fun j hj => up2_col _ _ _ (by omega)) (up2_at _ _ _ _)
  · rw [List.nodup_append]
    refine ⟨h6, by simp, ?_⟩
    intro a ha b hb q
    rw [List.mem_singleton] at hb
    subst hb
    subst q
    exact hnot ha
  · intro x hx
    rw [g5]
    rcases List.mem_append.mp hx with q | q
    · obtain ⟨r, a, b, c, d, f⟩ := h7 x q
      refine ⟨r, a, b, ?_, d, f⟩
      rcases ht with ht | ht
      · rw [ht]; exact c
      · rw [ht]; omega
    · rw [List.mem_singleton] at q
      exact ⟨p, hp1, hp8, hne, q, h4⟩
theorem RW_flt {t t' z : Nat} {q : Int32} {C M C' M' : Nat → Nat → Int32} (h : RW t C M) (hz : C 46 1 = nI z) (hz8 : z ≤ 8) (c46 : C' 46 1 = nI (flt C 47 q z).length) (c47 : C' 47 = upl C 47 (flt C 47 q z) 47) (m15 : M' 0 15 = nI (flt M 12 q z).length) (m12 : M' 12 = upl M 12 (flt M 12 q z) 12) (hq : ∀ r, r ≠ t → nI r ≠ q → M 4 r = 1 → r ≠ t' ∧ M' 4 r = 1) : RW t' C' M' := by
  obtain ⟨L, h1, h2, h3, h4, h5, h6, h7⟩ := h
  have e : z = L.length := (nI_eq (by omega) (by omega)).mp (hz.symm.trans h2)
  subst e
  have e1 : flt C 47 q L.length = L.filter (fun v => v != q) := by rw [flt, h4]
  have e2 : flt M 12 q L.length = L.filter (fun v => v != q) := by rw [flt, h5]
  rw [e1] at c46 c47
  rw [e2] at m15 m12
  refine ⟨L.filter (fun v => v != q), Nat.le_trans (List.length_filter_le _ _) h1, c46, m15, ?_, ?_, List.Nodup.sublist List.filter_sublist h6, ?_⟩
  · rw [c47]; exact map_upl _ _ _
  · rw [m12]; exact map_upl _ _ _
  · intro x hx
    obtain ⟨hx1, hx2⟩ := List.mem_filter.mp hx
    obtain ⟨r, a, b, c, d, f⟩ := h7 x hx1
    have hr : nI r ≠ q := fun y => by
      rw [d, y] at hx2
      simp at hx2
    obtain ⟨g1, g2⟩ := hq r c hr f
    exact ⟨r, a, b, g1, d, g2⟩
theorem R0_t {F : Nat} {T U V W : Int32} {C M C' M' : Nat → Nat → Int32} (h : R0 F T U V W C M) (c0 : ∀ j, j ≠ 10 → j ≠ 11 → C' 0 j = C 0 j) (c48 : C' 48 = C 48) (c49 : C' 49 = C 49) (m0 : ∀ j, j < 24 → j ≠ 15 → j ≠ 17 → j ≠ 18 → M' 0 j = M 0 j) (m3 : M' 3 = M 3) (m15 : M' 15 = M 15) : R0 F (C' 0 10) (C' 0 11) (M' 0 17) (M' 0 18) C' M' := by
  obtain ⟨b1, b2, b3, b4, b5, b6, b7, b8, _, _, _, _⟩ := h
  unfold R0
  rw [c0 4 (by decide) (by decide), c0 7 (by decide) (by decide), c0 8 (by decide) (by decide), c0 9 (by decide) (by decide), c0 12 (by decide) (by decide), c48, c49, m0 0 (by decide) (by decide) (by decide) (by decide), m0 1 (by decide) (by decide) (by decide) (by decide), m0 4 (by decide) (by decide) (by decide) (by decide), m0 22 (by decide) (by decide) (by decide) (by decide), m0 6 (by decide) (by decide) (by decide) (by decide), m0 19 (by decide) (by decide) (by decide) (by decide), m3, m15]
  exact ⟨b1, b2, b3, b4, b5, b6, b7, b8, rfl, rfl, rfl, rfl⟩
theorem J_row {D : Nat → Int32} {F t t' : Nat} {T U V W : Int32} {C M C' M' : Nat → Nat → Int32} (h : J F t D T U V W C M) (hC : ∀ a, a ≠ 0 → a ≠ 46 → a ≠ 47 → C' a = C a) (c0 : ∀ j, j ≠ 10 → j ≠ 11 → C' 0 j = C 0 j) (hM : ∀ a, a ≠ 0 → a ≠ 12 → M' a = M a) (m0 : ∀ j, j < 24 → j ≠ 15 → j ≠ 17 → j ≠ 18 → M' 0 j = M 0 j) (hr : RW t' C' M') : J F t' D (C' 0 10) (C' 0 11) (M' 0 17) (M' 0 18) C' M' := by
  obtain ⟨⟨hF, g0⟩, g1, g2, g3, g4⟩ := h
  have r : ∀ a, a ≠ 0 ∧ a ≠ 46 ∧ a ≠ 47 → C' a = C a := fun a ⟨x, y, z⟩ => hC a x y z
  have m : ∀ a, a ≠ 0 ∧ a ≠ 12 → M' a = M a := fun a ⟨x, y⟩ => hM a x y
  refine ⟨⟨hF, R0_t g0 c0 (r _ (by decide)) (r _ (by decide)) m0 (m _ (by decide)) (m _ (by decide))⟩, RM_c g1 (by rw [r _ (by decide)]) (r _ (by decide)) (r _ (by decide)) (r _ (by decide)) (r _ (by decide)) (m _ (by decide)) (m _ (by decide)) (m _ (by decide)) (m _ (by decide)), ?_, fun k hk => RK_c (g3 k hk) (r _ (by decide)) (r _ (by decide)) (r _ (by decide)) (m _ (by decide)) (m _ (by decide)) (hel_11 (m _ (by decide))), hr⟩
  intro j hj
  refine PR_c (g2 j hj) ?_ ?_ ?_ ?_ ?_ ?_ ?_ ?_ ?_ ?_ ?_ ?_ ?_ ?_
  all_goals first | (intro k' hk'; first | rw [r _ (by decide)] | rw [m _ (by decide)]) | (rw [r _ (by decide)]) | (rw [m _ (by decide)])
theorem J_vals {D : Nat → Int32} {F t : Nat} {T U V W T' U' V' W' : Int32} {C M : Nat → Nat → Int32} (h : J F t D T U V W C M) (h1 : T = T') (h2 : U = U') (h3 : V = V') (h4 : W = W') : J F t D T' U' V' W' C M := by
  subst h1 h2 h3 h4
  exact h
/-- a sleeper is made ready -/
theorem J_wak {D : Nat → Int32} {F t i z : Nat} {T U V W : Int32} {C M : Nat → Nat → Int32} (h : J F t D T U V W C M) (hi : i < 8) (h0 : M 4 (i + 1) ≠ 0) (h1 : M 4 (i + 1) ≠ 1) (h5 : M 4 (i + 1) ≠ 5) (ht : i + 1 ≠ t) (hz : C 46 1 = nI z) (hz8 : z ≤ 8) : J F t D T U V W (mrC C i z) (wakM M (i + 1) z) := by
  have g2 := h.2.2.1
  have hn := RW_not h.2.2.2.2 (p := i + 1) (by omega) hz hz8 (Or.inr h1)
  have hJ1 : J F t D T U V W (up2 C 15 i 1) (up2 M 4 (i + 1) 1) := by
    refine J_pr h (fun a q _ _ _ _ _ => up2_row _ _ _ q) (fun a _ q _ _ _ _ _ => up2_row _ _ _ q) (fun j _ => by rw [up2_row _ _ _ (by decide)]) ?_ (hel_11 (up2_row _ _ _ (by decide))) (fun q _ e => by
      by_cases eq : q = i + 1
      · rw [eq, up2_at]
      · rw [up2_col _ _ _ eq]; exact e)
    intro j hj
    by_cases hij : j = i
    · subst hij
      obtain ⟨a1, a2, a3, a4, a5, a6, a7, a8, a9, a10⟩ := g2 j hj
      refine ⟨?_, ?_, ?_, ?_, ?_, ?_, ?_, ?_, ?_, SL_no (Or.inr (Or.inl (up2_at _ _ _ _)))⟩
      · rw [up2_row _ _ _ (by decide)]; exact a1
      · rw [up2_at, up2_at]
      · rw [up2_at]; exact ⟨1, by decide, rfl⟩
      · intro _
        rw [up2_row _ _ _ (by decide), up2_row _ _ _ (by decide), up2_row _ _ _ (by decide), up2_row _ _ _ (by decide), up2_row _ _ _ (by decide), up2_row _ _ _ (by decide)]
        exact a4 h0
      · rw [up2_at]; exact fun q => absurd q (by decide)
      · rw [up2_row _ _ _ (by decide)]; exact a6
      · rw [up2_row _ _ _ (by decide)]; exact a7
      · rw [up2_row _ _ _ (by decide), up2_row _ _ _ (by decide)]; exact a8
      · rw [up2_at]; exact fun q => q.elim (fun q => absurd q (by decide)) (fun q => absurd q (by decide))
    · refine PR_c (g2 j hj) ?_ ?_ ?_ ?_ ?_ ?_ ?_ ?_ ?_ ?_ ?_ ?_ ?_ ?_
      all_goals first | (intro k' hk'; first | rfl | (rw [up2_row _ _ _ (by decide)]) | (rw [up2_col _ _ _ (by omega)])) | (rw [up2_row _ _ _ (by decide)]) | (rw [up2_col _ _ _ (by omega)]) | rfl
  have c10 : C 10 i = nI (i + 1) := (g2 i hi).1
  obtain ⟨z8, m15, hr⟩ := RW_app (t' := t) (p := i + 1) hJ1.2.2.2.2 (z := z) ((up2_ne2 _ _ _ _ (by decide)).trans hz) hz8 (by omega) (by omega) (fun j hj => by rw [up2_row _ _ _ (by decide)]; exact hn j hj) (up2_at _ _ _ _) (Or.inl rfl) ht
  have eC : mrC C i z = up2 (up2 (up2 C 15 i 1) 47 z (nI (i + 1))) 46 1 (nI (z + 1)) := by rw [mrC, apC, if_pos z8, c10]
  have hJ2 := J_row (t' := t) (C' := mrC C i z) (M' := wakM M (i + 1) z) hJ1 (fun a q0 q46 q47 => by rw [eC, up2_row _ _ _ q46, up2_row _ _ _ q47]) (fun j _ _ => by rw [eC, up2_row _ _ _ (by decide), up2_row _ _ _ (by decide)]) (fun a q0 q12 => by rw [wakM, up2_row _ _ _ q0, up2_row _ _ _ q12]) (fun j _ q15 _ _ => by rw [wakM, up2_col _ _ _ q15, up2_row _ _ _ (by decide)]) (hr _ _ (by rw [eC, up2_at]) (by rw [eC, up2_row _ _ _ (by decide)]) (by rw [wakM, up2_at]) (by rw [wakM, up2_row _ _ _ (by decide)]) (by rw [wakM, up2_row _ _ _ (by decide), up2_row _ _ _ (by decide)]))
  obtain ⟨_, _, _, _, _, _, _, _, b9, b10, b11, b12⟩ := h.1.2
  refine J_vals hJ2 ?_ ?_ ?_ ?_
  · rw [eC, up2_row _ _ _ (by decide), up2_row _ _ _ (by decide), up2_row _ _ _ (by decide)]; exact b9
  · rw [eC, up2_row _ _ _ (by decide), up2_row _ _ _ (by decide), up2_row _ _ _ (by decide)]; exact b10
  · rw [wakM, up2_col _ _ _ (by decide), up2_row _ _ _ (by decide), up2_row _ _ _ (by decide)]; exact b11
  · rw [wakM, up2_col _ _ _ (by decide), up2_row _ _ _ (by decide), up2_row _ _ _ (by decide)]; exact b12
/-- the turn is taken from the row -/
theorem J_take {D : Nat → Int32} {F z : Nat} {U W : Int32} {C M : Nat → Nat → Int32} (h : J F 0 D 0 U 0 W C M) (hz : C 46 1 = nI z) (hz8 : z ≤ 8) (hz1 : 1 ≤ z) : ∃ p, 1 ≤ p ∧ p ≤ 8 ∧ M 4 p = 1 ∧ atC C z 0 = nI p ∧ M 12 0 = nI p ∧ J F p D (nI p) (C 0 4) (nI p) 0 (ms1 C z) (stp1 M) := by
  obtain ⟨L, h1, h2, h3, h4, h5, h6, h7⟩ := id h.2.2.2.2
  have e : z = L.length := (nI_eq (by omega) (by omega)).mp (hz.symm.trans h2)
  have hm : M 12 0 ∈ L := by
    rw [← h5]
    exact List.mem_map.mpr ⟨0, List.mem_range.mpr (by omega), rfl⟩
  have hcm : C 47 0 = M 12 0 := by
    have q1 : (List.range L.length).map (C 47) = (List.range L.length).map (M 12) := h4.trans h5.symm
    have := List.map_inj_left.mp q1 0 (List.mem_range.mpr (by omega))
    exact this
  obtain ⟨p, hp1, hp8, hpt, ep, e4⟩ := h7 _ hm
  have hat : atC C z 0 = nI p := by
    rw [atC, if_pos ⟨Int32.le_refl _, nI_lt (a := 0) (by omega) (by omega)⟩]
    show C 47 0 = nI p
    rw [hcm, ep]
  obtain ⟨_, _, _, _, _, _, _, _, b9, b10, b11, b12⟩ := h.1.2
  have hm15 : M 0 15 = nI z := by rw [h3, e]
  have eC : ms1 C z = up2 (up2 (drC C z (nI p)) 0 10 (nI p)) 0 11 (C 0 4) := by rw [ms1, if_pos b9, hat]
  have eM : stp1 M = up2 (unrw (up2 M 0 17 (nI p)) (nI p) z) 0 18 0 := by rw [stp1, if_pos b11, hm15, nv_nI (by omega), ep]
  refine ⟨p, hp1, hp8, e4, hat, ep, ?_⟩
  have ef : flt (up2 M 0 17 (nI p)) 12 (nI p) z = flt M 12 (nI p) z := by rw [flt, up2_row _ _ _ (by decide)]; rfl
  have hr : RW p (ms1 C z) (stp1 M) := by
    refine RW_flt (t := 0) (q := nI p) h.2.2.2.2 hz hz8 ?_ ?_ ?_ ?_ ?_
    · rw [eC, up2_row _ _ _ (by decide), up2_row _ _ _ (by decide), drC, up2_at]
    · rw [eC, up2_row _ _ _ (by decide), up2_row _ _ _ (by decide), drC, up2_row _ _ _ (by decide)]
    · rw [eM, up2_col _ _ _ (by decide), unrw, up2_at, ef]
    · rw [eM, up2_row _ _ _ (by decide), unrw, up2_row _ _ _ (by decide), ef]
      funext j
      simp only [upl]
      rw [up2_row _ _ _ (by decide)]
    · intro r _ hr hr4
      refine ⟨fun q => hr (by rw [q]), ?_⟩
      rw [eM, up2_row _ _ _ (by decide), unrw, up2_row _ _ _ (by decide), upl_row _ _ (by decide), up2_row _ _ _ (by decide)]
      exact hr4
  have hJ := J_row (t' := p) (C' := ms1 C z) (M' := stp1 M) h (fun a q0 q46 q47 => by rw [eC, up2_row _ _ _ q0, up2_row _ _ _ q0, drC, up2_row _ _ _ q46, upl_row _ _ q47]) (fun j q10 q11 => by rw [eC, up2_col _ _ _ q11, up2_col _ _ _ q10, drC, up2_row _ _ _ (by decide), upl_row _ _ (by decide)]) (fun a q0 q12 => by rw [eM, up2_row _ _ _ q0, unrw, up2_row _ _ _ q0, upl_row _ _ q12, up2_row _ _ _ q0]) (fun j _ q15 q17 q18 => by rw [eM, up2_col _ _ _ q18, unrw, up2_col _ _ _ q15, upl_row _ _ (by decide), up2_col _ _ _ q17]) hr
  refine J_vals hJ ?_ ?_ ?_ ?_
  · rw [eC, up2_col _ _ _ (by decide), up2_at]
  · rw [eC, up2_at]
  · rw [eM, up2_col _ _ _ (by decide), unrw, up2_col _ _ _ (by decide), upl_row _ _ (by decide), up2_at]
  · rw [eM, up2_at]

/-! ===== step and run, on both sides ===== -/
theorem liv_eq {F t : Nat} {D : Nat → Int32} {T U V W : Int32} {C M : Nat → Nat → Int32} (h : J F t D T U V W C M) : aeC C = livk M 8 := by
  unfold aeC livk
  rw [Bool.eq_iff_iff, List.any_eq_true, List.any_eq_true]
  have key : ∀ i, i < 8 → ((!decide (C 15 i = 0) && !decide (C 15 i = 5)) = true ↔ (decide (0 < M 4 (i + 1)) && !decide (M 4 (i + 1) = 5)) = true) := fun i hi => by
    obtain ⟨_, a2, ⟨s, hs, e⟩, _⟩ := h.2.2.1 i hi
    rw [a2, e]
    rcases (by omega : s = 0 ∨ s = 1 ∨ s = 2 ∨ s = 3 ∨ s = 4 ∨ s = 5) with rfl | rfl | rfl | rfl | rfl | rfl <;> decide
  constructor
  · rintro ⟨i, hi, q⟩
    exact ⟨i, hi, (key i (List.mem_range.mp hi)).mp q⟩
  · rintro ⟨i, hi, q⟩
    exact ⟨i, hi, (key i (List.mem_range.mp hi)).mpr q⟩
theorem step_no {G : iG} {F : Nat} {C M : Nat → Nat → Int32} (h : JI F C M) (h17 : M 0 17 = 0) (h15 : M 0 15 = 0) : ∃ C', JI F C' M ∧ (∀ M0, MI G m_K_makeStep 5 [vR 0] (HW F C M0) (fun x h' => x = 0 ∧ h' = HW F C' M0)) := by
  obtain ⟨t, T, U, W, hJ, htu, hb, hfr⟩ := h
  obtain ⟨z, hz8, hz, hm⟩ := RW_z hJ.2.2.2.2
  have z0 : z = 0 := (nI_eq (b := 0) (by omega) (by decide)).mp (hm.symm.trans h15)
  subst z0
  obtain ⟨_, _, _, _, _, _, _, _, b9, b10, b11, b12⟩ := id hJ.1.2
  have hT : T = 0 ∧ t = 0 := by
    rcases htu with w | ⟨hT, h1, h8, _⟩
    · exact w
    · exact absurd (hT.symm.trans (b11.symm.trans h17)) (nI_ne0 (by omega) (by omega))
  obtain ⟨hT0, ht0⟩ := hT
  subst hT0
  subst ht0
  have ea : atC C 0 0 = 0 := if_neg (fun q => absurd q.2 (by decide))
  have ef : flt C 47 0 0 = [] := rfl
  have e1 : ms1 C 0 = up2 (up2 (drC C 0 0) 0 10 0) 0 11 (C 0 4) := by rw [ms1, if_pos b9, ea]
  have r : ∀ a, a ≠ 0 → a ≠ 46 → a ≠ 47 → ms1 C 0 a = C a := fun a x y w => by rw [e1, up2_row _ _ _ x, up2_row _ _ _ x, drC_row _ _ _ y w]
  have c0 : ∀ j, j ≠ 10 → j ≠ 11 → ms1 C 0 0 j = C 0 j := fun j x y => by rw [e1, up2_col _ _ _ y, up2_col _ _ _ x, drC_row _ _ _ (by decide) (by decide)]
  have c46 : ms1 C 0 46 1 = 0 := by
    rw [e1, up2_row _ _ _ (by decide), up2_row _ _ _ (by decide), drC, up2_at, ef]
    rfl
  have c10 : ms1 C 0 0 10 = 0 := by rw [e1, up2_col _ _ _ (by decide), up2_at]
  have hJ' := J_row (t' := 0) (C' := ms1 C 0) (M' := M) hJ r c0 (fun _ _ _ => rfl) (fun _ _ _ _ _ => rfl) ⟨[], by decide, c46, h15, rfl, rfl, List.nodup_nil, fun x hx => absurd hx List.not_mem_nil⟩
  refine ⟨ms1 C 0, ⟨0, 0, ms1 C 0 0 11, W, J_vals hJ' c10 rfl h17 b12, Or.inl ⟨rfl, rfl⟩, hb, fun w => ?_⟩, fun M0 => c_makeStep_none hz (by decide) ?_⟩
  · obtain ⟨f1, f2, f3, f4, f5, f6, f7⟩ := hfr w
    exact ⟨f1, f2, c46, by rw [r _ (by decide) (by decide) (by decide)]; exact f4, by rw [r _ (by decide) (by decide) (by decide)]; exact f5, fun k hk => by rw [r _ (by decide) (by decide) (by decide)]; exact f6 k hk, f7⟩
  · rw [c10]
    intro q
    obtain ⟨i, hi, e, _⟩ := isbC_of q
    exact absurd e.symm (nI_ne0 (by omega) (by omega))
/-- a call on the class and the same call on the reference -/
def JT (G : iG) (F : Nat) (C M : Nat → Nat → Int32) (mk : iM) (dk : Nat) (mm : iM) (dm : Nat) (As : List iV) : Prop := ∃ x C' M', JI F C' M' ∧ MI G mk dk (vR 0 :: As) (HW F C M) (fun y h' => y = x ∧ h' = HW F C' M) ∧ MI G mm dm (vR 50 :: As) (HW F C' M) (fun y h' => y = x ∧ h' = HW F C' M')
theorem nI_gt0 {p : Nat} (h1 : 1 ≤ p) (h : p < 2 ^ 31) : ¬ nI p ≤ 0 := fun q => by
  have := (nI_leI (a := p) (b := 0) h (by decide)).mp q
  omega
theorem step_val {F : Nat} {C M : Nat → Nat → Int32} (h : JI F C M) : aeC C = livk M 8 := by
  obtain ⟨t, T, U, W, hJ, _⟩ := h
  exact liv_eq hJ
theorem c_K_step_go {G : iG} {F : Nat} {C M : Nat → Nat → Int32} {x : Int32} {C' : Nat → Nat → Int32} (hx : x ≠ 0) (hs : MI G m_K_makeStep 5 [vR 0] (HW F C M) (fun y h' => y = x ∧ h' = HW F C' M)) : MI G m_K_step 6 [vR 0] (HW F C M) (fun y h' => y = x ∧ h' = HW F C' M) := by
  refine Mt.of' (Ls := [some (vR 0), none]) (by decide) (by simp [ct]) (Nat.le_of_ble_eq_true rfl) rfl ?_
  refine E_aload_n d_K_step_0 rfl rfl ?_
  refine E_V0i d_K_step_1 w_K_83 rfl (by decide) (Nat.le_of_ble_eq_true rfl) (hs) ?_
  rintro _ _ ⟨rfl, rfl⟩
  refine E_istore_n d_K_step_4 (by decide) ?_
  refine E_iload_n d_K_step_5 rfl ?_
  refine E_if_eq (tgt := 11) d_K_step_6 (by decide) (fun c => absurd c hx) (fun _ => ?_)
  refine E_iload_n d_K_step_9 rfl ?_
  exact E_ireturn d_K_step_10 (Or.inl rfl) rfl ⟨_, rfl, rfl, rfl⟩
theorem c_K_step_no {G : iG} {F : Nat} {C M : Nat → Nat → Int32} {C' : Nat → Nat → Int32} (hs : MI G m_K_makeStep 5 [vR 0] (HW F C M) (fun y h' => y = 0 ∧ h' = HW F C' M)) : MI G m_K_step 6 [vR 0] (HW F C M) (fun y h' => y = (if aeC C' = true then 0 else -1) ∧ h' = HW F C' M) := by
  refine Mt.of' (Ls := [some (vR 0), none]) (by decide) (by simp [ct]) (Nat.le_of_ble_eq_true rfl) rfl ?_
  refine E_aload_n d_K_step_0 rfl rfl ?_
  refine E_V0i d_K_step_1 w_K_83 rfl (by decide) (Nat.le_of_ble_eq_true rfl) (hs) ?_
  rintro _ _ ⟨rfl, rfl⟩
  refine E_istore_n d_K_step_4 (by decide) ?_
  refine E_iload_n d_K_step_5 rfl ?_
  refine E_if_eq (tgt := 11) d_K_step_6 (by decide) (fun _ => ?_) (fun c => absurd (by decide) c)
  refine E_aload_n d_K_step_11 rfl rfl ?_
  refine E_V0i d_K_step_12 w_K_87 rfl (by decide) (Nat.le_of_ble_eq_true rfl) (c_K_allHaveEnded) ?_
  rintro _ _ ⟨rfl, rfl⟩
  refine E_if_eq (tgt := 22) d_K_step_15 (by decide) (fun c15 => ?_) (fun c15 => ?_)
  · have c := b2i_eq0 c15
    refine E_iconst (v := 0) d_K_step_22 (by decide) ?_
    exact E_ireturn d_K_step_23 (Or.inl rfl) rfl ⟨_, rfl, by rw [if_pos (by simpa using c)], rfl⟩
  · have c := b2i_ne0 c15
    refine E_iconst (v := -1) d_K_step_18 (by decide) ?_
    refine E_goto (tgt := 23) d_K_step_19 (by decide) ?_
    exact E_ireturn d_K_step_23 (Or.inl rfl) rfl ⟨_, rfl, by rw [if_neg (by simpa using c)], rfl⟩
theorem jt_step {G : iG} {F : Nat} {C M : Nat → Nat → Int32} (h : JI F C M) : JT G F C M m_K_step 6 m_MOD_step 7 [] := by
  by_cases hgo : M 0 17 ≠ 0 ∨ M 0 15 ≠ 0
  · obtain ⟨_, p, C', M', hp1, hp8, hJI, hc, hr⟩ := step_go (G := G) h hgo
    exact ⟨nI p, C', M', hJI, c_K_step_go (nI_ne0 (by omega) (by omega)) (hc M), hr C'⟩
  · have h17 : M 0 17 = 0 := Decidable.byContradiction fun q => hgo (Or.inl q)
    have h15 : M 0 15 = 0 := Decidable.byContradiction fun q => hgo (Or.inr q)
    obtain ⟨C', hJI, hc⟩ := step_no (G := G) h h17 h15
    have hv := step_val hJI
    cases hl : livk M 8 with
    | false => exact ⟨-1, C', M, hJI, by have := c_K_step_no (hc M); rw [hv, hl] at this; exact this, c_step_none hl⟩
    | true => exact ⟨0, C', M, hJI, by have := c_K_step_no (hc M); rw [hv, hl] at this; exact this, c_step_zero hl h17 h15⟩
theorem lp_run {G : iG} {F n : Nat} (hn : n ≤ 100) : ∀ (r k : Nat) (C M : Nat → Nat → Int32), JI F C M → k + r = n → ∃ x C' M', JI F C' M' ∧ (∀ (M0 : Nat → Nat → Int32) (Q : Option iV → iH → Prop), Q (some (vI x)) (HW F C' M0) → Ev G m_K_run 6 0 0 15 [some (vR 0), some (vI (nI n)), some (vI (nI k))] [] (HW F C M0) Q) ∧ (∀ (C0 : Nat → Nat → Int32) (Q : Option iV → iH → Prop), Q (some (vI x)) (HW F C0 M') → Ev G m_MOD_run 8 0 0 15 [some (vR 50), some (vI (nI n)), some (vI (nI k))] [] (HW F C0 M) Q) := by
  intro r
  induction r with
  | zero =>
    intro k C M h hk
    have e : k = n := by omega
    subst e
    refine ⟨nI k, C, M, h, fun M0 Q hQ => ?_, fun C0 Q hQ => ?_⟩
    · refine E_iload_n d_K_run_15 rfl ?_
      refine E_iload_n d_K_run_16 rfl ?_
      refine E_icmp_ge (tgt := 35) d_K_run_17 (by decide) (fun _ => ?_) (fun c => absurd (Int32.le_refl _) c)
      refine E_iload_n d_K_run_35 rfl ?_
      exact E_ireturn d_K_run_36 (Or.inl rfl) rfl hQ
    · refine E_iload_n d_MOD_run_15 rfl ?_
      refine E_iload_n d_MOD_run_16 rfl ?_
      refine E_icmp_ge (tgt := 33) d_MOD_run_17 (by decide) (fun _ => ?_) (fun c => absurd (Int32.le_refl _) c)
      refine E_iload_n d_MOD_run_33 rfl ?_
      exact E_ireturn d_MOD_run_34 (Or.inl rfl) rfl hQ
  | succ r ih =>
    intro k C M h hk
    by_cases hgo : M 0 17 ≠ 0 ∨ M 0 15 ≠ 0
    · obtain ⟨_, p, C1, M1, hp1, hp8, hJI, hc, hr⟩ := step_go (G := G) h hgo
      obtain ⟨x, C', M', hJI', hK, hM⟩ := ih (k + 1) C1 M1 hJI (by omega)
      refine ⟨x, C', M', hJI', fun M0 Q hQ => ?_, fun C0 Q hQ => ?_⟩
      · refine E_iload_n d_K_run_15 rfl ?_
        refine E_iload_n d_K_run_16 rfl ?_
        refine E_icmp_ge (tgt := 35) d_K_run_17 (by decide) (fun c => absurd c (nI_ge (by omega) (by omega))) (fun _ => ?_)
        refine E_aload_n d_K_run_20 rfl rfl ?_
        refine E_V0i d_K_run_21 w_K_83 rfl (by decide) (Nat.le_of_ble_eq_true rfl) (hc M0) ?_
        rintro _ _ ⟨rfl, rfl⟩
        refine E_if_ne (tgt := 29) d_K_run_24 (by decide) (fun _ => ?_) (fun c => absurd c (nI_ne0 (by omega) (by omega)))
        refine E_iinc (v := nI (k + 1)) d_K_run_29 rfl (nI_1 _) (by decide) ?_
        refine E_goto (tgt := 15) d_K_run_32 (by decide) ?_
        exact hK M0 Q hQ
      · refine E_iload_n d_MOD_run_15 rfl ?_
        refine E_iload_n d_MOD_run_16 rfl ?_
        refine E_icmp_ge (tgt := 33) d_MOD_run_17 (by decide) (fun c => absurd c (nI_ge (by omega) (by omega))) (fun _ => ?_)
        refine E_aload_n d_MOD_run_20 rfl rfl ?_
        refine E_V0i d_MOD_run_21 w_MOD_239 rfl (by decide) (Nat.le_of_ble_eq_true rfl) (hr C0) ?_
        rintro _ _ ⟨rfl, rfl⟩
        refine E_if_le (tgt := 33) d_MOD_run_24 (by decide) (fun c => absurd c (nI_gt0 hp1 (by omega))) (fun _ => ?_)
        refine E_iinc (v := nI (k + 1)) d_MOD_run_27 rfl (nI_1 _) (by decide) ?_
        refine E_goto (tgt := 15) d_MOD_run_30 (by decide) ?_
        exact hM C0 Q hQ
    · have h17 : M 0 17 = 0 := Decidable.byContradiction fun q => hgo (Or.inl q)
      have h15 : M 0 15 = 0 := Decidable.byContradiction fun q => hgo (Or.inr q)
      obtain ⟨C', hJI, hc⟩ := step_no (G := G) h h17 h15
      obtain ⟨y, hy, hr⟩ : ∃ y : Int32, y ≤ 0 ∧ ∀ C0 : Nat → Nat → Int32, MI G m_MOD_step 7 [vR 50] (HW F C0 M) (fun x h' => x = y ∧ h' = HW F C0 M) := by
        cases hl : livk M 8 with
        | false => exact ⟨-1, by decide, fun C0 => c_step_none hl⟩
        | true => exact ⟨0, by decide, fun C0 => c_step_zero hl h17 h15⟩
      refine ⟨nI k, C', M, hJI, fun M0 Q hQ => ?_, fun C0 Q hQ => ?_⟩
      · refine E_iload_n d_K_run_15 rfl ?_
        refine E_iload_n d_K_run_16 rfl ?_
        refine E_icmp_ge (tgt := 35) d_K_run_17 (by decide) (fun c => absurd c (nI_ge (by omega) (by omega))) (fun _ => ?_)
        refine E_aload_n d_K_run_20 rfl rfl ?_
        refine E_V0i d_K_run_21 w_K_83 rfl (by decide) (Nat.le_of_ble_eq_true rfl) (hc M0) ?_
        rintro _ _ ⟨rfl, rfl⟩
        refine E_if_ne (tgt := 29) d_K_run_24 (by decide) (fun c => absurd (by decide) c) (fun _ => ?_)
        refine E_iload_n d_K_run_27 rfl ?_
        exact E_ireturn d_K_run_28 (Or.inl rfl) rfl hQ
      · refine E_iload_n d_MOD_run_15 rfl ?_
        refine E_iload_n d_MOD_run_16 rfl ?_
        refine E_icmp_ge (tgt := 33) d_MOD_run_17 (by decide) (fun c => absurd c (nI_ge (by omega) (by omega))) (fun _ => ?_)
        refine E_aload_n d_MOD_run_20 rfl rfl ?_
        refine E_V0i d_MOD_run_21 w_MOD_239 rfl (by decide) (Nat.le_of_ble_eq_true rfl) (hr C0) ?_
        rintro _ _ ⟨rfl, rfl⟩
        refine E_if_le (tgt := 33) d_MOD_run_24 (by decide) (fun _ => ?_) (fun c => absurd hy c)
        refine E_iload_n d_MOD_run_33 rfl ?_
        exact E_ireturn d_MOD_run_34 (Or.inl rfl) rfl hQ
theorem c_K_run_out {G : iG} {F : Nat} {C M : Nat → Nat → Int32} {x0 : Int32} (h : x0 < 1 ∨ 100 < x0) : MI G m_K_run 6 [vR 0, vI x0] (HW F C M) (fun x h' => x = -1 ∧ h' = HW F C M) := by
  refine Mt.of' (Ls := [some (vR 0), some (vI x0), none]) (by decide) (by simp [ct]) (Nat.le_of_ble_eq_true rfl) rfl ?_
  refine E_iload_n d_K_run_0 rfl ?_
  refine E_iconst (v := 1) d_K_run_1 (by decide) ?_
  refine E_icmp_lt (tgt := 11) d_K_run_2 (by decide) (fun c2 => ?_) (fun c2 => ?_)
  · refine E_iconst (v := -1) d_K_run_11 (by decide) ?_
    exact E_ireturn d_K_run_12 (Or.inl rfl) rfl ⟨_, rfl, rfl, rfl⟩
  · refine E_iload_n d_K_run_5 rfl ?_
    refine E_bipush (v := 100) d_K_run_6 (by decide) ?_
    refine E_icmp_le (tgt := 13) d_K_run_8 (by decide) (fun c8 => ?_) (fun c8 => ?_)
    · exact absurd h (fun q => q.elim c2 (Int32.not_lt.mpr c8))
    · refine E_iconst (v := -1) d_K_run_11 (by decide) ?_
      exact E_ireturn d_K_run_12 (Or.inl rfl) rfl ⟨_, rfl, rfl, rfl⟩
theorem c_K_run_in {G : iG} {F : Nat} {C M : Nat → Nat → Int32} {n : Nat} {x : Int32} {C' : Nat → Nat → Int32} (h1 : 1 ≤ n) (h2 : n ≤ 100) (hl : ∀ Q : Option iV → iH → Prop, Q (some (vI x)) (HW F C' M) → Ev G m_K_run 6 0 0 15 [some (vR 0), some (vI (nI n)), some (vI (nI 0))] [] (HW F C M) Q) : MI G m_K_run 6 [vR 0, vI (nI n)] (HW F C M) (fun y h' => y = x ∧ h' = HW F C' M) := by
  refine Mt.of' (Ls := [some (vR 0), some (vI (nI n)), none]) (by decide) (by simp [ct]) (Nat.le_of_ble_eq_true rfl) rfl ?_
  refine E_iload_n d_K_run_0 rfl ?_
  refine E_iconst (v := 1) d_K_run_1 (by decide) ?_
  refine E_icmp_lt (tgt := 11) d_K_run_2 (by decide) (fun c => absurd c (fun q => by have := (nI_ltI (a := n) (b := 1) (by omega) (by decide)).mp q; omega)) (fun _ => ?_)
  refine E_iload_n d_K_run_5 rfl ?_
  refine E_bipush (v := 100) d_K_run_6 (by decide) ?_
  refine E_icmp_le (tgt := 13) d_K_run_8 (by decide) (fun _ => ?_) (fun c => absurd ((nI_leI (a := n) (b := 100) (by omega) (by decide)).mpr h2) c)
  refine E_iconst (v := 0) d_K_run_13 (by decide) ?_
  refine E_istore_n d_K_run_14 (by decide) ?_
  exact hl _ ⟨_, rfl, rfl, rfl⟩
theorem c_MOD_run_out {G : iG} {F : Nat} {C M : Nat → Nat → Int32} {x0 : Int32} (h : x0 < 1 ∨ 100 < x0) : MI G m_MOD_run 8 [vR 50, vI x0] (HW F C M) (fun x h' => x = -1 ∧ h' = HW F C M) := by
  refine Mt.of' (Ls := [some (vR 50), some (vI x0), none]) (by decide) (by simp [ct]) (Nat.le_of_ble_eq_true rfl) rfl ?_
  refine E_iload_n d_MOD_run_0 rfl ?_
  refine E_iconst (v := 1) d_MOD_run_1 (by decide) ?_
  refine E_icmp_lt (tgt := 11) d_MOD_run_2 (by decide) (fun c2 => ?_) (fun c2 => ?_)
  · refine E_iconst (v := -1) d_MOD_run_11 (by decide) ?_
    exact E_ireturn d_MOD_run_12 (Or.inl rfl) rfl ⟨_, rfl, rfl, rfl⟩
  · refine E_iload_n d_MOD_run_5 rfl ?_
    refine E_bipush (v := 100) d_MOD_run_6 (by decide) ?_
    refine E_icmp_le (tgt := 13) d_MOD_run_8 (by decide) (fun c8 => ?_) (fun c8 => ?_)
    · exact absurd h (fun q => q.elim c2 (Int32.not_lt.mpr c8))
    · refine E_iconst (v := -1) d_MOD_run_11 (by decide) ?_
      exact E_ireturn d_MOD_run_12 (Or.inl rfl) rfl ⟨_, rfl, rfl, rfl⟩
theorem c_MOD_run_in {G : iG} {F : Nat} {C M : Nat → Nat → Int32} {n : Nat} {x : Int32} {M' : Nat → Nat → Int32} (h1 : 1 ≤ n) (h2 : n ≤ 100) (hl : ∀ Q : Option iV → iH → Prop, Q (some (vI x)) (HW F C M') → Ev G m_MOD_run 8 0 0 15 [some (vR 50), some (vI (nI n)), some (vI (nI 0))] [] (HW F C M) Q) : MI G m_MOD_run 8 [vR 50, vI (nI n)] (HW F C M) (fun y h' => y = x ∧ h' = HW F C M') := by
  refine Mt.of' (Ls := [some (vR 50), some (vI (nI n)), none]) (by decide) (by simp [ct]) (Nat.le_of_ble_eq_true rfl) rfl ?_
  refine E_iload_n d_MOD_run_0 rfl ?_
  refine E_iconst (v := 1) d_MOD_run_1 (by decide) ?_
  refine E_icmp_lt (tgt := 11) d_MOD_run_2 (by decide) (fun c => absurd c (fun q => by have := (nI_ltI (a := n) (b := 1) (by omega) (by decide)).mp q; omega)) (fun _ => ?_)
  refine E_iload_n d_MOD_run_5 rfl ?_
  refine E_bipush (v := 100) d_MOD_run_6 (by decide) ?_
  refine E_icmp_le (tgt := 13) d_MOD_run_8 (by decide) (fun _ => ?_) (fun c => absurd ((nI_leI (a := n) (b := 100) (by omega) (by decide)).mpr h2) c)
  refine E_iconst (v := 0) d_MOD_run_13 (by decide) ?_
  refine E_istore_n d_MOD_run_14 (by decide) ?_
  exact hl _ ⟨_, rfl, rfl, rfl⟩
theorem jt_run {G : iG} {F : Nat} {C M : Nat → Nat → Int32} (h : JI F C M) (x0 : Int32) : JT G F C M m_K_run 6 m_MOD_run 8 [vI x0] := by
  by_cases ho : x0 < 1 ∨ 100 < x0
  · exact ⟨-1, C, M, h, c_K_run_out ho, c_MOD_run_out ho⟩
  · obtain ⟨n, hn, rfl⟩ : ∃ n : Nat, n < 101 ∧ x0 = nI n := by
      rcases pk_ix x0 (n := 101) (by decide) with q | q | q
      · exact absurd (Or.inl (Int32.lt_trans q (by decide))) ho
      · exact absurd (Or.inr (Int32.lt_of_lt_of_le (by decide) q)) ho
      · exact q
    have h1 : 1 ≤ n := by
      rcases Nat.eq_zero_or_pos n with q | q
      · subst q
        exact absurd (Or.inl (by decide)) ho
      · exact q
    obtain ⟨x, C', M', hJI, hK, hM⟩ := lp_run (G := G) (F := F) (n := n) (by omega) n 0 C M h (by omega)
    exact ⟨x, C', M', hJI, c_K_run_in h1 (by omega) (hK M), c_MOD_run_in h1 (by omega) (hM C')⟩

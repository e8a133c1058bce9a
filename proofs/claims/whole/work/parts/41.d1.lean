/-! ===== the class: Task, Row, Pipe, Memory ===== -/
theorem c_T_getRegister {G : iG} {F : Nat} {C M : Nat → Nat → Int32} {i : Nat} (hi : i < 8) {x0 : Int32} : MI G m_T_getRegister 0 [vR (tk i), vI x0] (HW F C M) (fun x h' => x = gR C i x0 ∧ h' = HW F C M) := by
  refine Mt.of' (Ls := [some (vR (tk i)), some (vI x0)]) (by decide) (by simp [ct]) (Nat.le_of_ble_eq_true rfl) rfl ?_
  refine E_iload_n d_T_getRegister_0 rfl ?_
  refine E_if_lt (tgt := 10) d_T_getRegister_1 (by decide) (fun c1 => ?_) (fun c1 => ?_)
  · refine E_iconst (v := 0) d_T_getRegister_10 (by decide) ?_
    refine E_goto (tgt := 20) d_T_getRegister_11 (by decide) ?_
    exact E_ireturn d_T_getRegister_20 (Or.inl rfl) rfl ⟨_, rfl, by rw [gR, if_neg (fun q => absurd c1 (Int32.not_lt.mpr q.1))], rfl⟩
  · refine E_iload_n d_T_getRegister_4 rfl ?_
    refine E_bipush (v := 32) d_T_getRegister_5 (by decide) ?_
    refine E_icmp_lt (tgt := 14) d_T_getRegister_7 (by decide) (fun c7 => ?_) (fun c7 => ?_)
    · obtain ⟨k, hk, rfl⟩ : ∃ k : Nat, k < 32 ∧ x0 = nI k := by rcases pk_ix x0 (n := 32) (by decide) with q | q | q; exact absurd q c1; exact absurd c7 (Int32.not_lt.mpr q); exact q
      refine E_aload_n d_T_getRegister_14 rfl rfl ?_
      refine L_gr d_T_getRegister_15 f_T_9 (SH_T0 hi) (by decide) rfl (RH_T 1 hi) ?_
      refine E_iload_n d_T_getRegister_18 rfl ?_
      refine L_ld (j := k) d_T_getRegister_19 (SH_T1 hi) rfl (by omega) (by decide) (fr_R hi (by omega)) ?_
      exact E_ireturn d_T_getRegister_20 (Or.inl rfl) rfl ⟨_, rfl, by rw [gR, if_pos ⟨Int32.not_lt.mp c1, c7⟩, nv_nI (by omega)], rfl⟩
    · refine E_iconst (v := 0) d_T_getRegister_10 (by decide) ?_
      refine E_goto (tgt := 20) d_T_getRegister_11 (by decide) ?_
      exact E_ireturn d_T_getRegister_20 (Or.inl rfl) rfl ⟨_, rfl, by rw [gR, if_neg (fun q => c7 q.2)], rfl⟩
theorem c_T_endAt {G : iG} {F : Nat} {C M : Nat → Nat → Int32} {i : Nat} (hi : i < 8) {x0 : Int32} : MI G m_T_endAt 0 [vR (tk i), vI x0] (HW F C M) (fun x h' => x = eA C i x0 ∧ h' = HW F C M) := by
  refine Mt.of' (Ls := [some (vR (tk i)), some (vI x0)]) (by decide) (by simp [ct]) (Nat.le_of_ble_eq_true rfl) rfl ?_
  refine E_iload_n d_T_endAt_0 rfl ?_
  refine E_if_lt (tgt := 10) d_T_endAt_1 (by decide) (fun c1 => ?_) (fun c1 => ?_)
  · refine E_iconst (v := -1) d_T_endAt_10 (by decide) ?_
    refine E_goto (tgt := 20) d_T_endAt_11 (by decide) ?_
    exact E_ireturn d_T_endAt_20 (Or.inl rfl) rfl ⟨_, rfl, by rw [eA, if_neg (fun q => absurd c1 (Int32.not_lt.mpr q.1))], rfl⟩
  · refine E_iload_n d_T_endAt_4 rfl ?_
    refine E_bipush (v := 6) d_T_endAt_5 (by decide) ?_
    refine E_icmp_lt (tgt := 14) d_T_endAt_7 (by decide) (fun c7 => ?_) (fun c7 => ?_)
    · obtain ⟨k, hk, rfl⟩ : ∃ k : Nat, k < 6 ∧ x0 = nI k := by rcases pk_ix x0 (n := 6) (by decide) with q | q | q; exact absurd q c1; exact absurd c7 (Int32.not_lt.mpr q); exact q
      refine E_aload_n d_T_endAt_14 rfl rfl ?_
      refine L_gr d_T_endAt_15 f_T_18 (SH_T0 hi) (by decide) rfl (RH_T 3 hi) ?_
      refine E_iload_n d_T_endAt_18 rfl ?_
      refine L_ld (j := k) d_T_endAt_19 (SH_T3 hi) rfl (by omega) (by decide) (fr_D hi (by omega)) ?_
      exact E_ireturn d_T_endAt_20 (Or.inl rfl) rfl ⟨_, rfl, by rw [eA, if_pos ⟨Int32.not_lt.mp c1, c7⟩, nv_nI (by omega)], rfl⟩
    · refine E_iconst (v := -1) d_T_endAt_10 (by decide) ?_
      refine E_goto (tgt := 20) d_T_endAt_11 (by decide) ?_
      exact E_ireturn d_T_endAt_20 (Or.inl rfl) rfl ⟨_, rfl, by rw [eA, if_neg (fun q => c7 q.2)], rfl⟩
theorem c_T_setRegister {G : iG} {F : Nat} {C M : Nat → Nat → Int32} {i : Nat} (hi : i < 8) {k : Nat} {v : Int32} (hk : k < 32) : MV G m_T_setRegister 0 [vR (tk i), vI (nI k), vI v] (HW F C M) (fun h' => h' = HW F (sR C i k v) M) := by
  refine Mt.of' (Ls := [some (vR (tk i)), some (vI (nI k)), some (vI v)]) (by decide) (by simp [ct]) (Nat.le_of_ble_eq_true rfl) rfl ?_
  refine E_iload_n d_T_setRegister_0 rfl ?_
  refine E_if_le (tgt := 17) d_T_setRegister_1 (by decide) (fun c1 => ?_) (fun c1 => ?_)
  · have c : k = 0 := by have := (nI_leI (a := k) (b := 0) (by omega) (by decide)).mp c1; omega
    exact E_return d_T_setRegister_17 rfl rfl ⟨rfl, by rw [sR, if_pos c]⟩
  · have c : ¬ k = 0 := fun q => c1 (by rw [q]; decide)
    refine E_iload_n d_T_setRegister_4 rfl ?_
    refine E_bipush (v := 32) d_T_setRegister_5 (by decide) ?_
    refine E_icmp_ge (tgt := 17) d_T_setRegister_7 (by decide) (fun c => absurd c (nI_ge (b := 32) hk (by decide))) (fun _ => ?_)
    refine E_aload_n d_T_setRegister_10 rfl rfl ?_
    refine L_gr d_T_setRegister_11 f_T_9 (SH_T0 hi) (by decide) rfl (RH_T 1 hi) ?_
    refine E_iload_n d_T_setRegister_14 rfl ?_
    refine E_iload_n d_T_setRegister_15 rfl ?_
    refine L_st (j := k) d_T_setRegister_16 (SH_T1 hi) rfl (by omega) (by decide) (fu_R _ hi (by omega)) ?_
    exact E_return d_T_setRegister_17 rfl rfl ⟨rfl, by rw [sR, if_neg c]⟩
theorem lp_T_leastNothing {G : iG} {F : Nat} {C M : Nat → Nat → Int32} {Q : Option iV → iH → Prop} {i : Nat} (hi : i < 8) {f : Nat} {x1 : iV} (hf : f ≤ 6) (hQ : Q (some (vI (lnx C i f))) (HW F C M)) : ∀ (n k : Nat), k + n = 6 → lnC C i n k = lnC C i (6 - f) f → Ev G m_T_leastNothing 0 0 0 2 [some (vR (tk i)), some x1, some (vI (nI k))] [] (HW F C M) Q := by
  intro n
  induction n with
  | zero =>
    intro k hk hl
    have e : k = 6 := by omega
    subst e
    have e6 : lnC C i (6 - f) f = 6 := hl.symm
    refine E_iload_n d_T_leastNothing_2 rfl ?_
    refine E_bipush (v := 6) d_T_leastNothing_3 (by decide) ?_
    refine E_icmp_ge (tgt := 30) d_T_leastNothing_5 (by decide) (fun _ => ?_) (fun c => absurd (by decide) c)
    refine E_iconst (v := -1) d_T_leastNothing_30 (by decide) ?_
    exact E_ireturn d_T_leastNothing_31 (Or.inl rfl) rfl (by have := hQ; rw [lnx, e6] at this; exact this)
  | succ n ih =>
    intro k hk hl
    refine E_iload_n d_T_leastNothing_2 rfl ?_
    refine E_bipush (v := 6) d_T_leastNothing_3 (by decide) ?_
    refine E_icmp_ge (tgt := 30) d_T_leastNothing_5 (by decide) (fun c => absurd c (nI_ge (b := 6) (by omega) (by decide))) (fun _ => ?_)
    refine E_iload_n d_T_leastNothing_8 rfl ?_
    refine E_if_lt (tgt := 24) d_T_leastNothing_9 (by decide) (fun c => absurd c (nI_pos (by omega))) (fun _ => ?_)
    refine E_aload_n d_T_leastNothing_12 rfl rfl ?_
    refine L_gr d_T_leastNothing_13 f_T_18 (SH_T0 hi) (by decide) rfl (RH_T 3 hi) ?_
    refine E_iload_n d_T_leastNothing_16 rfl ?_
    refine L_ld (j := k) d_T_leastNothing_17 (SH_T3 hi) rfl (by omega) (by decide) (fr_D hi (by omega)) ?_
    refine E_iconst (v := -1) d_T_leastNothing_18 (by decide) ?_
    refine E_icmp_ne (tgt := 24) d_T_leastNothing_19 (by decide) (fun c19 => ?_) (fun c19 => ?_)
    · refine E_iinc (v := nI (k + 1)) d_T_leastNothing_24 rfl (nI_1 _) (by decide) ?_
      refine E_goto (tgt := 2) d_T_leastNothing_27 (by decide) ?_
      exact ih (k + 1) (by omega) (by rw [← hl, lnC, if_neg c19])
    · refine E_iload_n d_T_leastNothing_22 rfl ?_
      exact E_ireturn d_T_leastNothing_23 (Or.inl rfl) rfl (by rw [lnC, if_pos c19] at hl; have := hQ; rw [lnx, ← hl, if_pos (by omega)] at this; exact this)
theorem c_T_leastNothing {G : iG} {F : Nat} {C M : Nat → Nat → Int32} {i : Nat} (hi : i < 8) {f : Nat} (hf : f ≤ 6) : MI G m_T_leastNothing 0 [vR (tk i), vI (nI f)] (HW F C M) (fun x h' => x = lnx C i f ∧ h' = HW F C M) := by
  refine Mt.of' (Ls := [some (vR (tk i)), some (vI (nI f)), none]) (by decide) (by simp [ct]) (Nat.le_of_ble_eq_true rfl) rfl ?_
  refine E_iload_n d_T_leastNothing_0 rfl ?_
  refine E_istore_n d_T_leastNothing_1 (by decide) ?_
  exact lp_T_leastNothing hi hf ⟨_, rfl, rfl, rfl⟩ (6 - f) f (by omega) rfl
theorem lp_T_forgetDescriptors {G : iG} {F : Nat} {C M : Nat → Nat → Int32} {Q : Option iV → iH → Prop} {i : Nat} (hi : i < 8) (hQ : Q none (HW F (upr C 22 (6 * i) 6 (fun _ => -1)) M)) : ∀ (n k : Nat), k + n = 6 → Ev G m_T_forgetDescriptors 0 0 0 2 [some (vR (tk i)), some (vI (nI k))] [] (HW F (upr C 22 (6 * i) k (fun _ => -1)) M) Q := by
  intro n
  induction n with
  | zero =>
    intro k hk
    have e : k = 6 := by omega
    subst e
    refine E_iload_n d_T_forgetDescriptors_2 rfl ?_
    refine E_bipush (v := 6) d_T_forgetDescriptors_3 (by decide) ?_
    refine E_icmp_ge (tgt := 21) d_T_forgetDescriptors_5 (by decide) (fun _ => ?_) (fun c => absurd (by decide) c)
    exact E_return d_T_forgetDescriptors_21 rfl rfl hQ
  | succ n ih =>
    intro k hk
    refine E_iload_n d_T_forgetDescriptors_2 rfl ?_
    refine E_bipush (v := 6) d_T_forgetDescriptors_3 (by decide) ?_
    refine E_icmp_ge (tgt := 21) d_T_forgetDescriptors_5 (by decide) (fun c => absurd c (nI_ge (b := 6) (by omega) (by decide))) (fun _ => ?_)
    refine E_aload_n d_T_forgetDescriptors_8 rfl rfl ?_
    refine L_gr d_T_forgetDescriptors_9 f_T_18 (SH_T0 hi) (by decide) rfl (RH_T 3 hi) ?_
    refine E_iload_n d_T_forgetDescriptors_12 rfl ?_
    refine E_iconst (v := -1) d_T_forgetDescriptors_13 (by decide) ?_
    refine L_st (j := k) d_T_forgetDescriptors_14 (SH_T3 hi) rfl (by omega) (by decide) (fu_D _ hi (by omega)) ?_
    refine E_iinc (v := nI (k + 1)) d_T_forgetDescriptors_15 rfl (nI_1 _) (by decide) ?_
    refine E_goto (tgt := 2) d_T_forgetDescriptors_18 (by decide) ?_
    rw [upr_succ _ 22 (6 * i) k (fun _ => -1)]
    exact ih (k + 1) (by omega)
theorem c_T_forgetDescriptors {G : iG} {F : Nat} {C M : Nat → Nat → Int32} {i : Nat} (hi : i < 8) : MV G m_T_forgetDescriptors 0 [vR (tk i)] (HW F C M) (fun h' => h' = HW F (upr C 22 (6 * i) 6 (fun _ => -1)) M) := by
  refine Mt.of' (Ls := [some (vR (tk i)), none]) (by decide) (by simp [ct]) (Nat.le_of_ble_eq_true rfl) rfl ?_
  refine E_iconst (v := 0) d_T_forgetDescriptors_0 (by decide) ?_
  refine E_istore_n d_T_forgetDescriptors_1 (by decide) ?_
  rw [← upr_zero C 22 (6 * i) (fun _ => -1)]
  exact lp_T_forgetDescriptors hi ⟨rfl, by rw [upr_zero]⟩ 6 0 rfl
theorem c_T_isChildOf {G : iG} {F : Nat} {C M : Nat → Nat → Int32} {i : Nat} (hi : i < 8) {j : Nat} (hj : j < 8) : MI G m_T_isChildOf 0 [vR (tk i), vR (tk j)] (HW F C M) (fun x h' => x = b2i (chC C i j) ∧ h' = HW F C M) := by
  refine Mt.of' (Ls := [some (vR (tk i)), some (vR (tk j))]) (by decide) (by simp [ct]) (Nat.le_of_ble_eq_true rfl) rfl ?_
  refine E_aload_n d_T_isChildOf_0 rfl rfl ?_
  refine L_gi d_T_isChildOf_1 f_T_25 (SH_T0 hi) (by decide) rfl (fr_T5 hi) ?_
  refine E_if_eq (tgt := 22) d_T_isChildOf_4 (by decide) (fun c4 => ?_) (fun c4 => ?_)
  · refine E_iconst (v := 0) d_T_isChildOf_22 (by decide) ?_
    exact E_ireturn d_T_isChildOf_23 (Or.inr ⟨rfl, (by decide)⟩) rfl ⟨_, rfl, by rw [chC, decide_eq_true c4]; rfl, rfl⟩
  · refine E_aload_n d_T_isChildOf_7 rfl rfl ?_
    refine L_gi d_T_isChildOf_8 f_T_28 (SH_T0 hi) (by decide) rfl (fr_T7 hi) ?_
    refine E_aload_n d_T_isChildOf_11 rfl rfl ?_
    refine L_gi d_T_isChildOf_12 f_T_21 (SH_T0 hj) (by decide) rfl (fr_T0 hj) ?_
    refine E_icmp_ne (tgt := 22) d_T_isChildOf_15 (by decide) (fun c15 => ?_) (fun c15 => ?_)
    · refine E_iconst (v := 0) d_T_isChildOf_22 (by decide) ?_
      exact E_ireturn d_T_isChildOf_23 (Or.inr ⟨rfl, (by decide)⟩) rfl ⟨_, rfl, by rw [chC, decide_eq_false c15]; simp [b2i], rfl⟩
    · refine E_iconst (v := 1) d_T_isChildOf_18 (by decide) ?_
      refine E_goto (tgt := 23) d_T_isChildOf_19 (by decide) ?_
      exact E_ireturn d_T_isChildOf_23 (Or.inr ⟨rfl, (by decide)⟩) rfl ⟨_, rfl, by rw [chC, decide_eq_false c4, decide_eq_true c15]; rfl, rfl⟩
theorem c_T_sleeps {G : iG} {F : Nat} {C M : Nat → Nat → Int32} {i : Nat} (hi : i < 8) : MI G m_T_sleeps 0 [vR (tk i)] (HW F C M) (fun x h' => x = b2i (slC C i) ∧ h' = HW F C M) := by
  refine Mt.of' (Ls := [some (vR (tk i))]) (by decide) (by simp [ct]) (Nat.le_of_ble_eq_true rfl) rfl ?_
  refine E_aload_n d_T_sleeps_0 rfl rfl ?_
  refine L_gi d_T_sleeps_1 f_T_25 (SH_T0 hi) (by decide) rfl (fr_T5 hi) ?_
  refine E_iconst (v := 2) d_T_sleeps_4 (by decide) ?_
  refine E_icmp_eq (tgt := 24) d_T_sleeps_5 (by decide) (fun c5 => ?_) (fun c5 => ?_)
  · refine E_iconst (v := 1) d_T_sleeps_24 (by decide) ?_
    refine E_goto (tgt := 29) d_T_sleeps_25 (by decide) ?_
    exact E_ireturn d_T_sleeps_29 (Or.inr ⟨rfl, (by decide)⟩) rfl ⟨_, rfl, by simp [slC, c5, b2i], rfl⟩
  · refine E_aload_n d_T_sleeps_8 rfl rfl ?_
    refine L_gi d_T_sleeps_9 f_T_25 (SH_T0 hi) (by decide) rfl (fr_T5 hi) ?_
    refine E_iconst (v := 3) d_T_sleeps_12 (by decide) ?_
    refine E_icmp_eq (tgt := 24) d_T_sleeps_13 (by decide) (fun c13 => ?_) (fun c13 => ?_)
    · refine E_iconst (v := 1) d_T_sleeps_24 (by decide) ?_
      refine E_goto (tgt := 29) d_T_sleeps_25 (by decide) ?_
      exact E_ireturn d_T_sleeps_29 (Or.inr ⟨rfl, (by decide)⟩) rfl ⟨_, rfl, by simp [slC, c13, b2i], rfl⟩
    · refine E_aload_n d_T_sleeps_16 rfl rfl ?_
      refine L_gi d_T_sleeps_17 f_T_25 (SH_T0 hi) (by decide) rfl (fr_T5 hi) ?_
      refine E_iconst (v := 4) d_T_sleeps_20 (by decide) ?_
      refine E_icmp_ne (tgt := 28) d_T_sleeps_21 (by decide) (fun c21 => ?_) (fun c21 => ?_)
      · refine E_iconst (v := 0) d_T_sleeps_28 (by decide) ?_
        exact E_ireturn d_T_sleeps_29 (Or.inr ⟨rfl, (by decide)⟩) rfl ⟨_, rfl, by simp [slC, c5, c13, c21, b2i], rfl⟩
      · refine E_iconst (v := 1) d_T_sleeps_24 (by decide) ?_
        refine E_goto (tgt := 29) d_T_sleeps_25 (by decide) ?_
        exact E_ireturn d_T_sleeps_29 (Or.inr ⟨rfl, (by decide)⟩) rfl ⟨_, rfl, by simp [slC, c5, c13, c21, b2i], rfl⟩
theorem c_T_copyFrom {G : iG} {F : Nat} {C M : Nat → Nat → Int32} {i : Nat} (hi : i < 8) {j : Nat} (hj : j < 8) : MV G m_T_copyFrom 1 [vR (tk i), vR (tk j)] (HW F C M) (fun h' => h' = HW F (cfC C i j) M) := by
  refine Mt.of' (Ls := [some (vR (tk i)), some (vR (tk j))]) (by decide) (by simp [ct]) (Nat.le_of_ble_eq_true rfl) rfl ?_
  refine E_aload_n d_T_copyFrom_0 rfl rfl ?_
  refine E_aload_n d_T_copyFrom_1 rfl rfl ?_
  refine L_gi d_T_copyFrom_2 f_T_31 (SH_T0 hj) (by decide) rfl (fr_T6 hj) ?_
  refine L_pi d_T_copyFrom_5 f_T_31 (SH_T0 hi) (by decide) (Or.inl rfl) rfl (fu_T6 _ hi) ?_
  refine E_aload_n d_T_copyFrom_8 rfl rfl ?_
  refine L_gr d_T_copyFrom_9 f_T_9 (SH_T0 hj) (by decide) rfl (RH_T 1 hj) ?_
  refine E_iconst (v := 0) d_T_copyFrom_12 (by decide) ?_
  refine E_aload_n d_T_copyFrom_13 rfl rfl ?_
  refine L_gr d_T_copyFrom_14 f_T_9 (SH_T0 hi) (by decide) rfl (RH_T 1 hi) ?_
  refine E_iconst (v := 0) d_T_copyFrom_17 (by decide) ?_
  refine E_bipush (v := 32) d_T_copyFrom_18 (by decide) ?_
  refine L_cp (a := 0) (b := 0) (n := 32) d_T_copyFrom_20 w_T_34 (by decide) (Nat.le_of_ble_eq_true rfl) (SH_T1 hj) (SH_T1 hi) rfl rfl rfl (by omega) (by omega) (by decide) (by decide) (fk_R hi hj) ?_
  refine E_aload_n d_T_copyFrom_23 rfl rfl ?_
  refine L_gr d_T_copyFrom_24 f_T_18 (SH_T0 hj) (by decide) rfl (RH_T 3 hj) ?_
  refine E_iconst (v := 0) d_T_copyFrom_27 (by decide) ?_
  refine E_aload_n d_T_copyFrom_28 rfl rfl ?_
  refine L_gr d_T_copyFrom_29 f_T_18 (SH_T0 hi) (by decide) rfl (RH_T 3 hi) ?_
  refine E_iconst (v := 0) d_T_copyFrom_32 (by decide) ?_
  refine E_bipush (v := 6) d_T_copyFrom_33 (by decide) ?_
  refine L_cp (a := 0) (b := 0) (n := 6) d_T_copyFrom_35 w_T_34 (by decide) (Nat.le_of_ble_eq_true rfl) (SH_T3 hj) (SH_T3 hi) rfl rfl rfl (by omega) (by omega) (by decide) (by decide) (fk_D hi hj) ?_
  exact E_return d_T_copyFrom_38 rfl rfl ⟨rfl, by rw [cfC]; congr 1⟩
theorem c_ROW_append {G : iG} {F : Nat} {C M : Nat → Nat → Int32} {z : Nat} (hz : C 46 1 = nI z) (hz8 : z ≤ 8) {v : Int32} : MV G m_ROW_append 0 [vR 46, vI v] (HW F C M) (fun h' => h' = HW F (apC C z v) M) := by
  refine Mt.of' (Ls := [some (vR 46), some (vI v)]) (by decide) (by simp [ct]) (Nat.le_of_ble_eq_true rfl) rfl ?_
  refine E_aload_n d_ROW_append_0 rfl rfl ?_
  refine L_gi d_ROW_append_1 f_ROW_15 rfl (by decide) rfl (fr_K 1 (by decide)) ?_
  refine E_tp (y := nI (z)) hz ?_
  refine E_bipush (v := 8) d_ROW_append_4 (by decide) ?_
  refine E_icmp_ge (tgt := 29) d_ROW_append_6 (by decide) (fun c6 => ?_) (fun c6 => ?_)
  · exact E_return d_ROW_append_29 rfl rfl ⟨rfl, by rw [apC, if_neg (by have := (nI_leI (a := 8) (by decide) (by omega)).mp c6; omega)]⟩
  · have z8 : z < 8 := by have := (not_congr (nI_leI (a := 8) (b := z) (by decide) (by omega))).mp c6; omega
    refine E_aload_n d_ROW_append_9 rfl rfl ?_
    refine L_gr d_ROW_append_10 f_ROW_9 rfl (by decide) rfl rfl ?_
    refine E_aload_n d_ROW_append_13 rfl rfl ?_
    refine L_gi d_ROW_append_14 f_ROW_15 rfl (by decide) rfl (fr_K 1 (by decide)) ?_
    refine E_tp (y := nI (z)) hz ?_
    refine E_iload_n d_ROW_append_17 rfl ?_
    refine L_st (j := z) d_ROW_append_18 rfl rfl (by omega) (by decide) (fu_K _ _ (by decide)) ?_
    refine E_aload_n d_ROW_append_19 rfl rfl ?_
    refine E_dup d_ROW_append_20 rfl ?_
    refine L_gi d_ROW_append_21 f_ROW_15 rfl (by decide) rfl (fr_K 1 (by decide)) ?_
    refine E_tp (y := nI (z)) (by simp [up2, hz]) ?_
    refine E_iconst (v := 1) d_ROW_append_24 (by decide) ?_
    refine E_iadd d_ROW_append_25 ?_
    refine E_tp (y := nI (z + 1)) (nI_add z 1) ?_
    refine L_pi d_ROW_append_26 f_ROW_15 rfl (by decide) (Or.inl rfl) rfl (fu_K 1 _ (by decide)) ?_
    exact E_return d_ROW_append_29 rfl rfl ⟨rfl, by rw [apC, if_pos (by have := (not_congr (nI_leI (a := 8) (b := z) (by decide) (by omega))).mp c6; omega)]⟩
theorem c_ROW_at {G : iG} {F : Nat} {C M : Nat → Nat → Int32} {z : Nat} (hz : C 46 1 = nI z) (hz8 : z ≤ 8) {x0 : Int32} : MI G m_ROW_at 0 [vR 46, vI x0] (HW F C M) (fun x h' => x = atC C z x0 ∧ h' = HW F C M) := by
  refine Mt.of' (Ls := [some (vR 46), some (vI x0)]) (by decide) (by simp [ct]) (Nat.le_of_ble_eq_true rfl) rfl ?_
  refine E_iload_n d_ROW_at_0 rfl ?_
  refine E_if_lt (tgt := 12) d_ROW_at_1 (by decide) (fun c1 => ?_) (fun c1 => ?_)
  · refine E_iconst (v := 0) d_ROW_at_12 (by decide) ?_
    refine E_goto (tgt := 22) d_ROW_at_13 (by decide) ?_
    exact E_ireturn d_ROW_at_22 (Or.inl rfl) rfl ⟨_, rfl, by rw [atC, if_neg (fun q => absurd c1 (Int32.not_lt.mpr q.1))], rfl⟩
  · refine E_iload_n d_ROW_at_4 rfl ?_
    refine E_aload_n d_ROW_at_5 rfl rfl ?_
    refine L_gi d_ROW_at_6 f_ROW_15 rfl (by decide) rfl (fr_K 1 (by decide)) ?_
    refine E_tp (y := nI (z)) hz ?_
    refine E_icmp_lt (tgt := 16) d_ROW_at_9 (by decide) (fun c9 => ?_) (fun c9 => ?_)
    · obtain ⟨k, hk, rfl⟩ : ∃ k : Nat, k < z ∧ x0 = nI k := by rcases pk_ix x0 (n := z) (by omega) with q | q | q; exact absurd q c1; exact absurd c9 (Int32.not_lt.mpr q); exact q
      refine E_aload_n d_ROW_at_16 rfl rfl ?_
      refine L_gr d_ROW_at_17 f_ROW_9 rfl (by decide) rfl rfl ?_
      refine E_iload_n d_ROW_at_20 rfl ?_
      refine L_ld (j := k) d_ROW_at_21 rfl rfl (by omega) (by decide) (fr_K _ (by decide)) ?_
      exact E_ireturn d_ROW_at_22 (Or.inl rfl) rfl ⟨_, rfl, by rw [atC, if_pos ⟨Int32.not_lt.mp c1, c9⟩, nv_nI (by omega)], rfl⟩
    · refine E_iconst (v := 0) d_ROW_at_12 (by decide) ?_
      refine E_goto (tgt := 22) d_ROW_at_13 (by decide) ?_
      exact E_ireturn d_ROW_at_22 (Or.inl rfl) rfl ⟨_, rfl, by rw [atC, if_neg (fun q => c9 q.2)], rfl⟩
theorem lp_ROW_drop {G : iG} {F : Nat} {C M : Nat → Nat → Int32} {Q : Option iV → iH → Prop} {q : Int32} {z : Nat} (hz : C 46 1 = nI z) (hz8 : z ≤ 8) (hQ : Q none (HW F (drC C z q) M)) : ∀ (n k : Nat) (l : List Int32), k + n = z → l = flt C 47 q k → Ev G m_ROW_drop 0 0 0 4 [some (vR 46), some (vI q), some (vI (nI l.length)), some (vI (nI k))] [] (HW F (upl C 47 l) M) Q := by
  intro n
  induction n with
  | zero =>
    intro k l hk hl
    have hlen := flt_len C 47 q k
    rw [← hl] at hlen
    refine E_iload_n d_ROW_drop_4 rfl ?_
    refine E_aload_n d_ROW_drop_5 rfl rfl ?_
    refine L_gi d_ROW_drop_6 f_ROW_15 rfl (by decide) rfl (fr_K 1 (by decide)) ?_
    refine E_tp (y := nI (z)) ((upl_ne C l 1 (by decide)).trans hz) ?_
    refine E_icmp_ge (tgt := 43) d_ROW_drop_9 (by decide) (fun _ => ?_) (fun c => absurd (nI_le (by omega) (by omega)) c)
    refine E_aload_n d_ROW_drop_43 rfl rfl ?_
    refine E_iload_n d_ROW_drop_44 rfl ?_
    refine L_pi d_ROW_drop_45 f_ROW_15 rfl (by decide) (Or.inl rfl) rfl (fu_K 1 _ (by decide)) ?_
    exact E_return d_ROW_drop_48 rfl rfl (by rw [hl, show k = z by omega]; exact hQ)
  | succ n ih =>
    intro k l hk hl
    have hlen := flt_len C 47 q k
    rw [← hl] at hlen
    have e : (l ++ [C 47 k]).length = l.length + 1 := by simp
    refine E_iload_n d_ROW_drop_4 rfl ?_
    refine E_aload_n d_ROW_drop_5 rfl rfl ?_
    refine L_gi d_ROW_drop_6 f_ROW_15 rfl (by decide) rfl (fr_K 1 (by decide)) ?_
    refine E_tp (y := nI (z)) ((upl_ne C l 1 (by decide)).trans hz) ?_
    refine E_icmp_ge (tgt := 43) d_ROW_drop_9 (by decide) (fun c => absurd c (nI_ge (by omega) (by omega))) (fun _ => ?_)
    refine E_aload_n d_ROW_drop_12 rfl rfl ?_
    refine L_gr d_ROW_drop_13 f_ROW_9 rfl (by decide) rfl rfl ?_
    refine E_iload_n d_ROW_drop_16 rfl ?_
    refine L_ld (j := k) d_ROW_drop_17 rfl rfl (by omega) (by decide) (fr_K _ (by decide)) ?_
    refine E_tp (y := C 47 k) (upl_out C 47 l hlen) ?_
    refine E_iload_n d_ROW_drop_18 rfl ?_
    refine E_icmp_eq (tgt := 37) d_ROW_drop_19 (by decide) (fun c19 => ?_) (fun c19 => ?_)
    · refine E_iinc (v := nI (k + 1)) d_ROW_drop_37 rfl (nI_1 _) (by decide) ?_
      refine E_goto (tgt := 4) d_ROW_drop_40 (by decide) ?_
      exact ih (k + 1) l (by omega) (by rw [flt_succ, if_pos c19, List.append_nil]; exact hl)
    · refine E_aload_n d_ROW_drop_22 rfl rfl ?_
      refine L_gr d_ROW_drop_23 f_ROW_9 rfl (by decide) rfl rfl ?_
      refine E_iload_n d_ROW_drop_26 rfl ?_
      refine E_aload_n d_ROW_drop_27 rfl rfl ?_
      refine L_gr d_ROW_drop_28 f_ROW_9 rfl (by decide) rfl rfl ?_
      refine E_iload_n d_ROW_drop_31 rfl ?_
      refine L_ld (j := k) d_ROW_drop_32 rfl rfl (by omega) (by decide) (fr_K _ (by decide)) ?_
      refine E_tp (y := C 47 k) (upl_out C 47 l hlen) ?_
      refine L_st (j := l.length) d_ROW_drop_33 rfl rfl (by omega) (by decide) (fu_K _ _ (by decide)) ?_
      refine E_iinc (v := nI (l.length + 1)) d_ROW_drop_34 rfl (nI_1 _) (by decide) ?_
      refine E_iinc (v := nI (k + 1)) d_ROW_drop_37 rfl (nI_1 _) (by decide) ?_
      refine E_goto (tgt := 4) d_ROW_drop_40 (by decide) ?_
      rw [upl_app, ← e]
      exact ih (k + 1) (l ++ [C 47 k]) (by omega) (by rw [flt_succ, if_neg c19, ← hl])
theorem c_ROW_drop {G : iG} {F : Nat} {C M : Nat → Nat → Int32} {q : Int32} {z : Nat} (hz : C 46 1 = nI z) (hz8 : z ≤ 8) : MV G m_ROW_drop 0 [vR 46, vI q] (HW F C M) (fun h' => h' = HW F (drC C z q) M) := by
  refine Mt.of' (Ls := [some (vR 46), some (vI q), none, none]) (by decide) (by simp [ct]) (Nat.le_of_ble_eq_true rfl) rfl ?_
  refine E_iconst (v := 0) d_ROW_drop_0 (by decide) ?_
  refine E_istore_n d_ROW_drop_1 (by decide) ?_
  refine E_iconst (v := 0) d_ROW_drop_2 (by decide) ?_
  refine E_istore_n d_ROW_drop_3 (by decide) ?_
  rw [← upl_nil C 47]
  exact lp_ROW_drop hz hz8 ⟨rfl, by rw [upl_nil]⟩ z 0 [] (by omega) rfl
theorem c_ROW_takeFirst {G : iG} {F : Nat} {C M : Nat → Nat → Int32} {z : Nat} (hz : C 46 1 = nI z) (hz8 : z ≤ 8) : MI G m_ROW_takeFirst 1 [vR 46] (HW F C M) (fun x h' => x = atC C z 0 ∧ h' = HW F (drC C z (atC C z 0)) M) := by
  refine Mt.of' (Ls := [some (vR 46), none]) (by decide) (by simp [ct]) (Nat.le_of_ble_eq_true rfl) rfl ?_
  refine E_aload_n d_ROW_takeFirst_0 rfl rfl ?_
  refine E_iconst (v := 0) d_ROW_takeFirst_1 (by decide) ?_
  refine E_V1i d_ROW_takeFirst_2 w_ROW_19 rfl (by decide) (Nat.le_of_ble_eq_true rfl) (c_ROW_at hz hz8) ?_
  rintro _ _ ⟨rfl, rfl⟩
  refine E_istore_n d_ROW_takeFirst_5 (by decide) ?_
  refine E_aload_n d_ROW_takeFirst_6 rfl rfl ?_
  refine E_iload_n d_ROW_takeFirst_7 rfl ?_
  refine E_V1v d_ROW_takeFirst_8 w_ROW_23 rfl (by decide) (Nat.le_of_ble_eq_true rfl) (c_ROW_drop hz hz8) ?_
  rintro _ rfl
  refine E_iload_n d_ROW_takeFirst_11 rfl ?_
  exact E_ireturn d_ROW_takeFirst_12 (Or.inl rfl) rfl ⟨_, rfl, rfl, rfl⟩
theorem c_P_isEmpty {G : iG} {F : Nat} {C M : Nat → Nat → Int32} {k : Nat} (hk : k < 4) : MI G m_P_isEmpty 0 [vR (pp k)] (HW F C M) (fun x h' => x = b2i (decide (C 26 k = 0)) ∧ h' = HW F C M) := by
  refine Mt.of' (Ls := [some (vR (pp k))]) (by decide) (by simp [ct]) (Nat.le_of_ble_eq_true rfl) rfl ?_
  refine E_aload_n d_P_isEmpty_0 rfl rfl ?_
  refine L_gi d_P_isEmpty_1 f_P_15 (SH_P0 hk) (by decide) rfl (fr_P2 hk) ?_
  refine E_if_ne (tgt := 11) d_P_isEmpty_4 (by decide) (fun c4 => ?_) (fun c4 => ?_)
  · refine E_iconst (v := 0) d_P_isEmpty_11 (by decide) ?_
    exact E_ireturn d_P_isEmpty_12 (Or.inr ⟨rfl, (by decide)⟩) rfl ⟨_, rfl, by simp [c4, b2i], rfl⟩
  · refine E_iconst (v := 1) d_P_isEmpty_7 (by decide) ?_
    refine E_goto (tgt := 12) d_P_isEmpty_8 (by decide) ?_
    exact E_ireturn d_P_isEmpty_12 (Or.inr ⟨rfl, (by decide)⟩) rfl ⟨_, rfl, by simp [c4, b2i], rfl⟩
theorem c_P_isFull {G : iG} {F : Nat} {C M : Nat → Nat → Int32} {k : Nat} (hk : k < 4) : MI G m_P_isFull 0 [vR (pp k)] (HW F C M) (fun x h' => x = b2i (decide (8 ≤ C 26 k)) ∧ h' = HW F C M) := by
  refine Mt.of' (Ls := [some (vR (pp k))]) (by decide) (by simp [ct]) (Nat.le_of_ble_eq_true rfl) rfl ?_
  refine E_aload_n d_P_isFull_0 rfl rfl ?_
  refine L_gi d_P_isFull_1 f_P_15 (SH_P0 hk) (by decide) rfl (fr_P2 hk) ?_
  refine E_bipush (v := 8) d_P_isFull_4 (by decide) ?_
  refine E_icmp_lt (tgt := 13) d_P_isFull_6 (by decide) (fun c6 => ?_) (fun c6 => ?_)
  · refine E_iconst (v := 0) d_P_isFull_13 (by decide) ?_
    exact E_ireturn d_P_isFull_14 (Or.inr ⟨rfl, (by decide)⟩) rfl ⟨_, rfl, by rw [decide_eq_false (Int32.not_le.mpr c6)]; rfl, rfl⟩
  · refine E_iconst (v := 1) d_P_isFull_9 (by decide) ?_
    refine E_goto (tgt := 14) d_P_isFull_10 (by decide) ?_
    exact E_ireturn d_P_isFull_14 (Or.inr ⟨rfl, (by decide)⟩) rfl ⟨_, rfl, by rw [decide_eq_true (Int32.not_lt.mp c6)]; rfl, rfl⟩
theorem c_P_put {G : iG} {F : Nat} {C M : Nat → Nat → Int32} {k : Nat} (hk : k < 4) {a c : Nat} (ha : C 25 k = nI a) (ha8 : a < 8) (hc : C 26 k = nI c) (hc8 : c ≤ 8) {b : Int32} : MV G m_P_put 1 [vR (pp k), vI b] (HW F C M) (fun h' => h' = HW F (puC C k a c b) M) := by
  refine Mt.of' (Ls := [some (vR (pp k)), some (vI b)]) (by decide) (by simp [ct]) (Nat.le_of_ble_eq_true rfl) rfl ?_
  refine E_aload_n d_P_put_0 rfl rfl ?_
  refine E_V0i d_P_put_1 w_P_19 (SH_P0 hk) (by decide) (Nat.le_of_ble_eq_true rfl) (c_P_isFull hk) ?_
  rintro _ _ ⟨rfl, rfl⟩
  rw [hc]
  refine E_if_ne (tgt := 35) d_P_put_4 (by decide) (fun c4 => ?_) (fun c4 => ?_)
  · have q : ¬ c < 8 := by have := b2i_ne0 c4; have h2 := of_decide_eq_true this; have := (nI_leI (a := 8) (by decide) (by omega)).mp h2; omega
    exact E_return d_P_put_35 rfl rfl ⟨rfl, by rw [puC, if_neg q]⟩
  · have q : c < 8 := by have := b2i_eq0 c4; have h2 := of_decide_eq_false this; have := (not_congr (nI_leI (a := 8) (b := c) (by decide) (by omega))).mp h2; omega
    refine E_aload_n d_P_put_7 rfl rfl ?_
    refine L_gr d_P_put_8 f_P_9 (SH_P0 hk) (by decide) rfl (RH_P hk) ?_
    refine E_aload_n d_P_put_11 rfl rfl ?_
    refine L_gi d_P_put_12 f_P_23 (SH_P0 hk) (by decide) rfl (fr_P1 hk) ?_
    refine E_tp (y := nI (a)) ha ?_
    refine E_aload_n d_P_put_15 rfl rfl ?_
    refine L_gi d_P_put_16 f_P_15 (SH_P0 hk) (by decide) rfl (fr_P2 hk) ?_
    refine E_tp (y := nI (c)) hc ?_
    refine E_iadd d_P_put_19 ?_
    refine E_tp (y := nI (a + c)) (nI_add a c) ?_
    refine E_bipush (v := 8) d_P_put_20 (by decide) ?_
    refine E_irem d_P_put_22 (by decide) ?_
    refine E_tp (y := nI ((a + c) % 8)) (pk_rem (d := 8) (by omega) (by decide) (by decide)) ?_
    refine E_iload_n d_P_put_23 rfl ?_
    refine L_st (j := (a + c) % 8) d_P_put_24 (SH_P1 hk) rfl (by omega) (by decide) (fu_B _ hk (by omega)) ?_
    refine E_aload_n d_P_put_25 rfl rfl ?_
    refine E_dup d_P_put_26 rfl ?_
    refine L_gi d_P_put_27 f_P_15 (SH_P0 hk) (by decide) rfl (fr_P2 hk) ?_
    refine E_tp (y := nI (c)) (by simp [up2, hc]) ?_
    refine E_iconst (v := 1) d_P_put_30 (by decide) ?_
    refine E_iadd d_P_put_31 ?_
    refine E_tp (y := nI (c + 1)) (nI_add c 1) ?_
    refine L_pi d_P_put_32 f_P_15 (SH_P0 hk) (by decide) (Or.inl rfl) rfl (fu_P2 _ hk) ?_
    exact E_return d_P_put_35 rfl rfl ⟨rfl, by rw [puC, if_pos q]⟩
theorem c_P_take {G : iG} {F : Nat} {C M : Nat → Nat → Int32} {k : Nat} (hk : k < 4) {a c : Nat} (ha : C 25 k = nI a) (ha8 : a < 8) (hc : C 26 k = nI c) (hc8 : c ≤ 8) : MI G m_P_take 1 [vR (pp k)] (HW F C M) (fun x h' => (x = if c = 0 then -1 else C 27 (8 * k + a)) ∧ h' = HW F (taC C k a c) M) := by
  refine Mt.of' (Ls := [some (vR (pp k)), none]) (by decide) (by simp [ct]) (Nat.le_of_ble_eq_true rfl) rfl ?_
  refine E_aload_n d_P_take_0 rfl rfl ?_
  refine E_V0i d_P_take_1 w_P_26 (SH_P0 hk) (by decide) (Nat.le_of_ble_eq_true rfl) (c_P_isEmpty hk) ?_
  rintro _ _ ⟨rfl, rfl⟩
  rw [hc]
  refine E_if_eq (tgt := 9) d_P_take_4 (by decide) (fun c4 => ?_) (fun c4 => ?_)
  · have q : ¬ c = 0 := fun q => of_decide_eq_false (b2i_eq0 c4) (by rw [q]; rfl)
    refine E_aload_n d_P_take_9 rfl rfl ?_
    refine L_gr d_P_take_10 f_P_9 (SH_P0 hk) (by decide) rfl (RH_P hk) ?_
    refine E_aload_n d_P_take_13 rfl rfl ?_
    refine L_gi d_P_take_14 f_P_23 (SH_P0 hk) (by decide) rfl (fr_P1 hk) ?_
    refine E_tp (y := nI (a)) ha ?_
    refine L_ld (j := a) d_P_take_17 (SH_P1 hk) rfl (by omega) (by decide) (fr_B hk (by omega)) ?_
    refine E_istore_n d_P_take_18 (by decide) ?_
    refine E_aload_n d_P_take_19 rfl rfl ?_
    refine E_aload_n d_P_take_20 rfl rfl ?_
    refine L_gi d_P_take_21 f_P_23 (SH_P0 hk) (by decide) rfl (fr_P1 hk) ?_
    refine E_tp (y := nI (a)) ha ?_
    refine E_iconst (v := 1) d_P_take_24 (by decide) ?_
    refine E_iadd d_P_take_25 ?_
    refine E_tp (y := nI (a + 1)) (nI_add a 1) ?_
    refine E_bipush (v := 8) d_P_take_26 (by decide) ?_
    refine E_irem d_P_take_28 (by decide) ?_
    refine E_tp (y := nI ((a + 1) % 8)) (pk_rem (d := 8) (by omega) (by decide) (by decide)) ?_
    refine L_pi d_P_take_29 f_P_23 (SH_P0 hk) (by decide) (Or.inl rfl) rfl (fu_P1 _ hk) ?_
    refine E_aload_n d_P_take_32 rfl rfl ?_
    refine E_dup d_P_take_33 rfl ?_
    refine L_gi d_P_take_34 f_P_15 (SH_P0 hk) (by decide) rfl (fr_P2 hk) ?_
    refine E_tp (y := nI (c)) (by simp [up2, hc]) ?_
    refine E_iconst (v := 1) d_P_take_37 (by decide) ?_
    refine E_isub d_P_take_38 ?_
    refine E_tp (y := nI (c - 1)) (pk_sub (b := 1) (by omega)) ?_
    refine L_pi d_P_take_39 f_P_15 (SH_P0 hk) (by decide) (Or.inl rfl) rfl (fu_P2 _ hk) ?_
    refine E_iload_n d_P_take_42 rfl ?_
    exact E_ireturn d_P_take_43 (Or.inl rfl) rfl ⟨_, rfl, by rw [if_neg q], by rw [taC, if_neg q]⟩
  · have q : c = 0 := (nI_eq (b := 0) (by omega) (by decide)).mp (of_decide_eq_true (b2i_ne0 c4))
    refine E_iconst (v := -1) d_P_take_7 (by decide) ?_
    exact E_ireturn d_P_take_8 (Or.inl rfl) rfl ⟨_, rfl, by rw [if_pos q], by rw [taC, if_pos q]⟩
theorem c_P_empty {G : iG} {F : Nat} {C M : Nat → Nat → Int32} {k : Nat} (hk : k < 4) : MV G m_P_empty 0 [vR (pp k)] (HW F C M) (fun h' => h' = HW F (emC C k) M) := by
  refine Mt.of' (Ls := [some (vR (pp k))]) (by decide) (by simp [ct]) (Nat.le_of_ble_eq_true rfl) rfl ?_
  refine E_aload_n d_P_empty_0 rfl rfl ?_
  refine E_iconst (v := 0) d_P_empty_1 (by decide) ?_
  refine L_pi d_P_empty_2 f_P_23 (SH_P0 hk) (by decide) (Or.inl rfl) rfl (fu_P1 _ hk) ?_
  refine E_aload_n d_P_empty_5 rfl rfl ?_
  refine E_iconst (v := 0) d_P_empty_6 (by decide) ?_
  refine L_pi d_P_empty_7 f_P_15 (SH_P0 hk) (by decide) (Or.inl rfl) rfl (fu_P2 _ hk) ?_
  exact E_return d_P_empty_10 rfl rfl ⟨rfl, rfl⟩

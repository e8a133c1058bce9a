/-! ===== the class's kernel, second row ===== -/
def obW (C : Nat → Nat → Int32) (x : Int32) : Int32 := if wrE x = true ∧ 8 ≤ C 26 ((nv x - 1) / 2) ∧ heC C (x - 1) = true then 3 else 1
def obR (C : Nat → Nat → Int32) (x : Int32) : Int32 := if reE x = true ∧ C 26 ((nv x - 1) / 2) = 0 ∧ heC C (x + 1) = true then 2 else 1
def obK (C : Nat → Nat → Int32) (i : Nat) : Int32 := if hcC C i = true ∧ ¬ ecC C i 8 0 < 8 then 4 else 1
def obC (C : Nat → Nat → Int32) (i : Nat) : Int32 := if C 20 (32 * i + 17) = 4 then obK C i else if C 20 (32 * i + 17) = 6 then obW C (eA C i (C 20 (32 * i + 10))) else if C 20 (32 * i + 17) = 7 then obR C (eA C i (C 20 (32 * i + 10))) else 1
def dsE (C : Nat → Nat → Int32) (i : Nat) : Prop := ∀ d, d < 6 → edr (C 22 (6 * i + d))
theorem eA_edr {C : Nat → Nat → Int32} {i : Nat} (h : dsE C i) (x : Int32) : edr (eA C i x) := by
  unfold eA
  split
  · rename_i hx
    rcases pk_ix x (n := 6) (by decide) with q | q | ⟨k, hk, rfl⟩
    · exact absurd q (Int32.not_lt.mpr hx.1)
    · exact absurd hx.2 (Int32.not_lt.mpr q)
    · rw [nv_nI (by omega)]
      exact h k hk
  · exact Or.inl rfl
theorem wrE_of {x : Int32} (hx : edr x) (h : wrE x = true) : ∃ e : Nat, 1 ≤ e ∧ e ≤ 8 ∧ x = nI e := by
  rcases hx with rfl | ⟨e, he, rfl⟩
  · exact absurd h (by decide)
  · refine ⟨e, ?_, he, rfl⟩
    rcases Nat.eq_zero_or_pos e with rfl | q
    · exact absurd h (by decide)
    · exact q
theorem reE_of {x : Int32} (hx : edr x) (h : reE x = true) : ∃ e : Nat, 1 ≤ e ∧ e ≤ 8 ∧ x = nI e := by
  rcases hx with rfl | ⟨e, he, rfl⟩
  · exact absurd h (by decide)
  · refine ⟨e, ?_, he, rfl⟩
    rcases Nat.eq_zero_or_pos e with rfl | q
    · exact absurd h (by decide)
    · exact q
def bcC (C : Nat → Nat → Int32) (i : Nat) : Nat → Nat → Int32 := if obC C i = 1 then up2 (up2 C 15 i 1) 16 i (C 16 i + 4) else up2 C 15 i (obC C i)
def coC (C : Nat → Nat → Int32) (i : Nat) : iX := if ecC C i 8 0 < 8 then (C 10 (ecC C i 8 0), sR (up2 C 15 (ecC C i 8 0) 0) i 11 (C 18 (ecC C i 8 0))) else (-1, C)
def prC (C : Nat → Nat → Int32) (n : Nat) (b : Int32) : iX := if n < 200 then (b, up2 (up2 C 49 n b) 0 8 (nI (n + 1))) else (-1, C)
def wtC (C : Nat → Nat → Int32) (n : Nat) (x b : Int32) : iX := if x = 0 then prC C n b else if wrE x = true ∧ heC C (x - 1) = true then (b, puC C ((nv x - 1) / 2) (nv (C 25 ((nv x - 1) / 2))) (nv (C 26 ((nv x - 1) / 2))) b) else (-1, C)
def rdC (C : Nat → Nat → Int32) (x : Int32) : iX := if reE x = true then ((if nv (C 26 ((nv x - 1) / 2)) = 0 then -1 else C 27 (8 * ((nv x - 1) / 2) + nv (C 25 ((nv x - 1) / 2)))), taC C ((nv x - 1) / 2) (nv (C 25 ((nv x - 1) / 2))) (nv (C 26 ((nv x - 1) / 2)))) else (-1, C)
/-- the pipes' numbers are in their bounds -/
def piB (C : Nat → Nat → Int32) : Prop := ∀ k, k < 4 → (∃ a, a < 8 ∧ C 25 k = nI a) ∧ ∃ c, c ≤ 8 ∧ C 26 k = nI c
def opC (C : Nat → Nat → Int32) (i : Nat) : iX :=
  if lfC C 4 0 < 4 ∧ lnC C i 6 0 < 6 ∧ lnC C i (6 - (lnC C i 6 0 + 1)) (lnC C i 6 0 + 1) < 6 then
    (nI (lnC C i 6 0), sR (up2 (up2 (emC C (lfC C 4 0)) 22 (6 * i + lnC C i 6 0) (nI (1 + 2 * lfC C 4 0))) 22 (6 * i + lnC C i (6 - (lnC C i 6 0 + 1)) (lnC C i 6 0 + 1)) (nI (1 + 2 * lfC C 4 0 + 1))) i 11 (nI (lnC C i (6 - (lnC C i 6 0 + 1)) (lnC C i 6 0 + 1))))
  else (-1, C)
def csC (C : Nat → Nat → Int32) (i : Nat) (x : Int32) : iX := if eA C i x = -1 then (-1, C) else (0, up2 C 22 (6 * i + nv x) (-1))
def duC (C : Nat → Nat → Int32) (i : Nat) (x : Int32) : iX := if ¬ eA C i x = -1 ∧ lnC C i 6 0 < 6 then (nI (lnC C i 6 0), up2 C 22 (6 * i + lnC C i 6 0) (eA C i x)) else (-1, C)
theorem eA_in {C : Nat → Nat → Int32} {i : Nat} {x : Int32} (h : ¬ eA C i x = -1) : ∃ k : Nat, k < 6 ∧ x = nI k ∧ eA C i x = C 22 (6 * i + k) := by
  unfold eA at h ⊢
  split at h
  · rename_i hx
    rcases pk_ix x (n := 6) (by decide) with q | q | ⟨k, hk, rfl⟩
    · exact absurd q (Int32.not_lt.mpr hx.1)
    · exact absurd hx.2 (Int32.not_lt.mpr q)
    · exact ⟨k, hk, rfl, by rw [if_pos hx, nv_nI (by omega)]⟩
  · exact absurd rfl h
theorem c_K_load {G : iG} {F : Nat} {C M : Nat → Nat → Int32} {n : Nat} {w : Int32} (hn : C 0 7 = nI n) (hn64 : n ≤ 64) : MI G m_K_load 0 [vR 0, vI w] (HW F C M) (fun x h' => (x = if C 0 9 = 0 ∧ n < 64 then 1 else 0) ∧ h' = HW F (if C 0 9 = 0 ∧ n < 64 then up2 (up2 C 48 n w) 0 7 (nI (n + 1)) else C) M) := by
  refine Mt.of' (Ls := [some (vR 0), some (vI w)]) (by decide) (by simp [ct]) (Nat.le_of_ble_eq_true rfl) rfl ?_
  refine E_aload_n d_K_load_0 rfl rfl ?_
  refine L_gi d_K_load_1 f_K_54 rfl (by decide) rfl (fr_K 9 (by decide)) ?_
  refine E_if_ne (tgt := 16) d_K_load_4 (by decide) (fun c4 => ?_) (fun c4 => ?_)
  · refine E_iconst (v := 0) d_K_load_16 (by decide) ?_
    exact E_ireturn d_K_load_17 (Or.inr ⟨rfl, (by decide)⟩) rfl ⟨_, rfl, by rw [if_neg (fun q => c4 q.1)], by rw [if_neg (fun q => c4 q.1)]⟩
  · refine E_aload_n d_K_load_7 rfl rfl ?_
    refine L_gi d_K_load_8 f_K_58 rfl (by decide) rfl (fr_K 7 (by decide)) ?_
    refine E_tp (y := nI (n)) hn ?_
    refine E_bipush (v := 64) d_K_load_11 (by decide) ?_
    refine E_icmp_lt (tgt := 18) d_K_load_13 (by decide) (fun c13 => ?_) (fun c13 => ?_)
    · have c : n < 64 := (nI_ltI (b := 64) (by omega) (by decide)).mp c13
      refine E_aload_n d_K_load_18 rfl rfl ?_
      refine L_gr d_K_load_19 f_K_47 rfl (by decide) rfl rfl ?_
      refine E_aload_n d_K_load_22 rfl rfl ?_
      refine L_gi d_K_load_23 f_K_58 rfl (by decide) rfl (fr_K 7 (by decide)) ?_
      refine E_tp (y := nI (n)) hn ?_
      refine E_iload_n d_K_load_26 rfl ?_
      refine L_st (j := n) d_K_load_27 rfl rfl (by omega) (by decide) (fu_K _ _ (by decide)) ?_
      refine E_aload_n d_K_load_28 rfl rfl ?_
      refine E_dup d_K_load_29 rfl ?_
      refine L_gi d_K_load_30 f_K_58 rfl (by decide) rfl (fr_K 7 (by decide)) ?_
      refine E_tp (y := nI (n)) (by simp [up2, hn]) ?_
      refine E_iconst (v := 1) d_K_load_33 (by decide) ?_
      refine E_iadd d_K_load_34 ?_
      refine E_tp (y := nI (n + 1)) (nI_add n 1) ?_
      refine L_pi d_K_load_35 f_K_58 rfl (by decide) (Or.inl rfl) rfl (fu_K 7 _ (by decide)) ?_
      refine E_iconst (v := 1) d_K_load_38 (by decide) ?_
      exact E_ireturn d_K_load_39 (Or.inr ⟨rfl, (by decide)⟩) rfl ⟨_, rfl, by rw [if_pos ⟨c4, c⟩], by rw [if_pos ⟨c4, c⟩]⟩
    · have c : ¬ n < 64 := (not_congr (nI_ltI (a := n) (b := 64) (by omega) (by decide))).mp c13
      refine E_iconst (v := 0) d_K_load_16 (by decide) ?_
      exact E_ireturn d_K_load_17 (Or.inr ⟨rfl, (by decide)⟩) rfl ⟨_, rfl, by rw [if_neg (fun q => c q.2)], by rw [if_neg (fun q => c q.2)]⟩
theorem c_K_stateOf {G : iG} {F : Nat} {C M : Nat → Nat → Int32} {x0 : Int32} : MI G m_K_stateOf 1 [vR 0, vI x0] (HW F C M) (fun x h' => (x = if isbC C x0 = true then C 15 (nv x0 - 1) else 0) ∧ h' = HW F C M) := by
  refine Mt.of' (Ls := [some (vR 0), some (vI x0), none]) (by decide) (by simp [ct]) (Nat.le_of_ble_eq_true rfl) rfl ?_
  by_cases hb : isbC C x0 = true
  · obtain ⟨i, hi, rfl, h15, e⟩ := isbC_of hb
    rw [if_pos hb, e]
    refine E_aload_n d_K_stateOf_0 rfl rfl ?_
    refine E_iload_n d_K_stateOf_1 rfl ?_
    refine E_V1q d_K_stateOf_2 w_K_94 rfl (by decide) (Nat.le_of_ble_eq_true rfl) (c_find_some hi h15) ?_
    rintro _ _ ⟨rfl, rfl⟩
    refine E_astore_n d_K_stateOf_5 (by decide) rfl ?_
    refine E_aload_n d_K_stateOf_6 rfl rfl ?_
    refine E_ifnonnull d_K_stateOf_7 (tgt := 14) (by decide) (fun _ _ => ?_) (fun c => by cases c)
    refine E_aload_n d_K_stateOf_14 rfl rfl ?_
    refine L_gi d_K_stateOf_15 f_K_98 (SH_T0 hi) (by decide) rfl (fr_T5 hi) ?_
    exact E_ireturn d_K_stateOf_18 (Or.inl rfl) rfl ⟨_, rfl, rfl, rfl⟩
  · rw [if_neg hb]
    refine E_aload_n d_K_stateOf_0 rfl rfl ?_
    refine E_iload_n d_K_stateOf_1 rfl ?_
    refine E_V1q d_K_stateOf_2 w_K_94 rfl (by decide) (Nat.le_of_ble_eq_true rfl) (c_find_none hb) ?_
    rintro _ _ ⟨rfl, rfl⟩
    refine E_astore_n d_K_stateOf_5 (by decide) rfl ?_
    refine E_aload_n d_K_stateOf_6 rfl rfl ?_
    refine E_ifnonnull d_K_stateOf_7 (tgt := 14) (by decide) (fun _ c => by cases c) (fun _ => ?_)
    refine E_iconst (v := 0) d_K_stateOf_10 (by decide) ?_
    refine E_goto (tgt := 18) d_K_stateOf_11 (by decide) ?_
    exact E_ireturn d_K_stateOf_18 (Or.inl rfl) rfl ⟨_, rfl, rfl, rfl⟩
theorem c_K_parentOf {G : iG} {F : Nat} {C M : Nat → Nat → Int32} {x0 : Int32} : MI G m_K_parentOf 1 [vR 0, vI x0] (HW F C M) (fun x h' => (x = if isbC C x0 = true then C 17 (nv x0 - 1) else -1) ∧ h' = HW F C M) := by
  refine Mt.of' (Ls := [some (vR 0), some (vI x0), none]) (by decide) (by simp [ct]) (Nat.le_of_ble_eq_true rfl) rfl ?_
  by_cases hb : isbC C x0 = true
  · obtain ⟨i, hi, rfl, h15, e⟩ := isbC_of hb
    rw [if_pos hb, e]
    refine E_aload_n d_K_parentOf_0 rfl rfl ?_
    refine E_iload_n d_K_parentOf_1 rfl ?_
    refine E_V1q d_K_parentOf_2 w_K_94 rfl (by decide) (Nat.le_of_ble_eq_true rfl) (c_find_some hi h15) ?_
    rintro _ _ ⟨rfl, rfl⟩
    refine E_astore_n d_K_parentOf_5 (by decide) rfl ?_
    refine E_aload_n d_K_parentOf_6 rfl rfl ?_
    refine E_ifnonnull d_K_parentOf_7 (tgt := 14) (by decide) (fun _ _ => ?_) (fun c => by cases c)
    refine E_aload_n d_K_parentOf_14 rfl rfl ?_
    refine L_gi d_K_parentOf_15 f_K_104 (SH_T0 hi) (by decide) rfl (fr_T7 hi) ?_
    exact E_ireturn d_K_parentOf_18 (Or.inl rfl) rfl ⟨_, rfl, rfl, rfl⟩
  · rw [if_neg hb]
    refine E_aload_n d_K_parentOf_0 rfl rfl ?_
    refine E_iload_n d_K_parentOf_1 rfl ?_
    refine E_V1q d_K_parentOf_2 w_K_94 rfl (by decide) (Nat.le_of_ble_eq_true rfl) (c_find_none hb) ?_
    rintro _ _ ⟨rfl, rfl⟩
    refine E_astore_n d_K_parentOf_5 (by decide) rfl ?_
    refine E_aload_n d_K_parentOf_6 rfl rfl ?_
    refine E_ifnonnull d_K_parentOf_7 (tgt := 14) (by decide) (fun _ c => by cases c) (fun _ => ?_)
    refine E_iconst (v := -1) d_K_parentOf_10 (by decide) ?_
    refine E_goto (tgt := 18) d_K_parentOf_11 (by decide) ?_
    exact E_ireturn d_K_parentOf_18 (Or.inl rfl) rfl ⟨_, rfl, rfl, rfl⟩
theorem c_K_pages {G : iG} {F : Nat} {C M : Nat → Nat → Int32} {x0 : Int32} : MI G m_K_pages 1 [vR 0, vI x0] (HW F C M) (fun x h' => (x = if isbC C x0 = true then C 14 (nv x0 - 1) else 0) ∧ h' = HW F C M) := by
  refine Mt.of' (Ls := [some (vR 0), some (vI x0), none]) (by decide) (by simp [ct]) (Nat.le_of_ble_eq_true rfl) rfl ?_
  by_cases hb : isbC C x0 = true
  · obtain ⟨i, hi, rfl, h15, e⟩ := isbC_of hb
    rw [if_pos hb, e]
    refine E_aload_n d_K_pages_0 rfl rfl ?_
    refine E_iload_n d_K_pages_1 rfl ?_
    refine E_V1q d_K_pages_2 w_K_94 rfl (by decide) (Nat.le_of_ble_eq_true rfl) (c_find_some hi h15) ?_
    rintro _ _ ⟨rfl, rfl⟩
    refine E_astore_n d_K_pages_5 (by decide) rfl ?_
    refine E_aload_n d_K_pages_6 rfl rfl ?_
    refine E_ifnonnull d_K_pages_7 (tgt := 14) (by decide) (fun _ _ => ?_) (fun c => by cases c)
    refine E_aload_n d_K_pages_14 rfl rfl ?_
    refine L_gi d_K_pages_15 f_K_107 (SH_T0 hi) (by decide) rfl (fr_T4 hi) ?_
    exact E_ireturn d_K_pages_18 (Or.inl rfl) rfl ⟨_, rfl, rfl, rfl⟩
  · rw [if_neg hb]
    refine E_aload_n d_K_pages_0 rfl rfl ?_
    refine E_iload_n d_K_pages_1 rfl ?_
    refine E_V1q d_K_pages_2 w_K_94 rfl (by decide) (Nat.le_of_ble_eq_true rfl) (c_find_none hb) ?_
    rintro _ _ ⟨rfl, rfl⟩
    refine E_astore_n d_K_pages_5 (by decide) rfl ?_
    refine E_aload_n d_K_pages_6 rfl rfl ?_
    refine E_ifnonnull d_K_pages_7 (tgt := 14) (by decide) (fun _ c => by cases c) (fun _ => ?_)
    refine E_iconst (v := 0) d_K_pages_10 (by decide) ?_
    refine E_goto (tgt := 18) d_K_pages_11 (by decide) ?_
    exact E_ireturn d_K_pages_18 (Or.inl rfl) rfl ⟨_, rfl, rfl, rfl⟩
theorem c_K_pc {G : iG} {F : Nat} {C M : Nat → Nat → Int32} {x0 : Int32} : MI G m_K_pc 1 [vR 0, vI x0] (HW F C M) (fun x h' => (x = if isbC C x0 = true then C 16 (nv x0 - 1) else 0) ∧ h' = HW F C M) := by
  refine Mt.of' (Ls := [some (vR 0), some (vI x0), none]) (by decide) (by simp [ct]) (Nat.le_of_ble_eq_true rfl) rfl ?_
  by_cases hb : isbC C x0 = true
  · obtain ⟨i, hi, rfl, h15, e⟩ := isbC_of hb
    rw [if_pos hb, e]
    refine E_aload_n d_K_pc_0 rfl rfl ?_
    refine E_iload_n d_K_pc_1 rfl ?_
    refine E_V1q d_K_pc_2 w_K_94 rfl (by decide) (Nat.le_of_ble_eq_true rfl) (c_find_some hi h15) ?_
    rintro _ _ ⟨rfl, rfl⟩
    refine E_astore_n d_K_pc_5 (by decide) rfl ?_
    refine E_aload_n d_K_pc_6 rfl rfl ?_
    refine E_ifnonnull d_K_pc_7 (tgt := 14) (by decide) (fun _ _ => ?_) (fun c => by cases c)
    refine E_aload_n d_K_pc_14 rfl rfl ?_
    refine L_gi d_K_pc_15 f_K_114 (SH_T0 hi) (by decide) rfl (fr_T6 hi) ?_
    exact E_ireturn d_K_pc_18 (Or.inl rfl) rfl ⟨_, rfl, rfl, rfl⟩
  · rw [if_neg hb]
    refine E_aload_n d_K_pc_0 rfl rfl ?_
    refine E_iload_n d_K_pc_1 rfl ?_
    refine E_V1q d_K_pc_2 w_K_94 rfl (by decide) (Nat.le_of_ble_eq_true rfl) (c_find_none hb) ?_
    rintro _ _ ⟨rfl, rfl⟩
    refine E_astore_n d_K_pc_5 (by decide) rfl ?_
    refine E_aload_n d_K_pc_6 rfl rfl ?_
    refine E_ifnonnull d_K_pc_7 (tgt := 14) (by decide) (fun _ c => by cases c) (fun _ => ?_)
    refine E_iconst (v := 0) d_K_pc_10 (by decide) ?_
    refine E_goto (tgt := 18) d_K_pc_11 (by decide) ?_
    exact E_ireturn d_K_pc_18 (Or.inl rfl) rfl ⟨_, rfl, rfl, rfl⟩
theorem c_K_exitOf {G : iG} {F : Nat} {C M : Nat → Nat → Int32} {x0 : Int32} : MI G m_K_exitOf 1 [vR 0, vI x0] (HW F C M) (fun x h' => (x = if isbC C x0 = true then (if C 15 (nv x0 - 1) = 5 then C 18 (nv x0 - 1) else -1) else -1) ∧ h' = HW F C M) := by
  refine Mt.of' (Ls := [some (vR 0), some (vI x0), none]) (by decide) (by simp [ct]) (Nat.le_of_ble_eq_true rfl) rfl ?_
  by_cases hb : isbC C x0 = true
  · obtain ⟨i, hi, rfl, h15, e⟩ := isbC_of hb
    rw [if_pos hb, e]
    refine E_aload_n d_K_exitOf_0 rfl rfl ?_
    refine E_iload_n d_K_exitOf_1 rfl ?_
    refine E_V1q d_K_exitOf_2 w_K_94 rfl (by decide) (Nat.le_of_ble_eq_true rfl) (c_find_some hi h15) ?_
    rintro _ _ ⟨rfl, rfl⟩
    refine E_astore_n d_K_exitOf_5 (by decide) rfl ?_
    refine E_aload_n d_K_exitOf_6 rfl rfl ?_
    refine E_ifnull d_K_exitOf_7 (tgt := 18) (by decide) (fun c => by cases c) (fun _ _ => ?_)
    refine E_aload_n d_K_exitOf_10 rfl rfl ?_
    refine L_gi d_K_exitOf_11 f_K_98 (SH_T0 hi) (by decide) rfl (fr_T5 hi) ?_
    refine E_iconst (v := 5) d_K_exitOf_14 (by decide) ?_
    refine E_icmp_eq (tgt := 22) d_K_exitOf_15 (by decide) (fun c15 => ?_) (fun c15 => ?_)
    · refine E_aload_n d_K_exitOf_22 rfl rfl ?_
      refine L_gi d_K_exitOf_23 f_K_101 (SH_T0 hi) (by decide) rfl (fr_T8 hi) ?_
      exact E_ireturn d_K_exitOf_26 (Or.inl rfl) rfl ⟨_, rfl, by rw [if_pos c15], rfl⟩
    · refine E_iconst (v := -1) d_K_exitOf_18 (by decide) ?_
      refine E_goto (tgt := 26) d_K_exitOf_19 (by decide) ?_
      exact E_ireturn d_K_exitOf_26 (Or.inl rfl) rfl ⟨_, rfl, by rw [if_neg c15], rfl⟩
  · rw [if_neg hb]
    refine E_aload_n d_K_exitOf_0 rfl rfl ?_
    refine E_iload_n d_K_exitOf_1 rfl ?_
    refine E_V1q d_K_exitOf_2 w_K_94 rfl (by decide) (Nat.le_of_ble_eq_true rfl) (c_find_none hb) ?_
    rintro _ _ ⟨rfl, rfl⟩
    refine E_astore_n d_K_exitOf_5 (by decide) rfl ?_
    refine E_aload_n d_K_exitOf_6 rfl rfl ?_
    refine E_ifnull d_K_exitOf_7 (tgt := 18) (by decide) (fun _ => ?_) (fun _ c => by cases c)
    refine E_iconst (v := -1) d_K_exitOf_18 (by decide) ?_
    refine E_goto (tgt := 26) d_K_exitOf_19 (by decide) ?_
    exact E_ireturn d_K_exitOf_26 (Or.inl rfl) rfl ⟨_, rfl, rfl, rfl⟩
theorem c_K_register {G : iG} {F : Nat} {C M : Nat → Nat → Int32} {x0 y0 : Int32} : MI G m_K_register 1 [vR 0, vI x0, vI y0] (HW F C M) (fun x h' => (x = if isbC C x0 = true then gR C (nv x0 - 1) y0 else 0) ∧ h' = HW F C M) := by
  refine Mt.of' (Ls := [some (vR 0), some (vI x0), some (vI y0), none]) (by decide) (by simp [ct]) (Nat.le_of_ble_eq_true rfl) rfl ?_
  by_cases hb : isbC C x0 = true
  · obtain ⟨i, hi, rfl, h15, e⟩ := isbC_of hb
    rw [if_pos hb, e]
    refine E_aload_n d_K_register_0 rfl rfl ?_
    refine E_iload_n d_K_register_1 rfl ?_
    refine E_V1q d_K_register_2 w_K_94 rfl (by decide) (Nat.le_of_ble_eq_true rfl) (c_find_some hi h15) ?_
    rintro _ _ ⟨rfl, rfl⟩
    refine E_astore_n d_K_register_5 (by decide) rfl ?_
    refine E_aload_n d_K_register_6 rfl rfl ?_
    refine E_ifnonnull d_K_register_7 (tgt := 14) (by decide) (fun _ _ => ?_) (fun c => by cases c)
    refine E_aload_n d_K_register_14 rfl rfl ?_
    refine E_iload_n d_K_register_15 rfl ?_
    refine E_V1i d_K_register_16 w_K_110 (SH_T0 hi) (by decide) (Nat.le_of_ble_eq_true rfl) (c_T_getRegister hi) ?_
    rintro _ _ ⟨rfl, rfl⟩
    exact E_ireturn d_K_register_19 (Or.inl rfl) rfl ⟨_, rfl, rfl, rfl⟩
  · rw [if_neg hb]
    refine E_aload_n d_K_register_0 rfl rfl ?_
    refine E_iload_n d_K_register_1 rfl ?_
    refine E_V1q d_K_register_2 w_K_94 rfl (by decide) (Nat.le_of_ble_eq_true rfl) (c_find_none hb) ?_
    rintro _ _ ⟨rfl, rfl⟩
    refine E_astore_n d_K_register_5 (by decide) rfl ?_
    refine E_aload_n d_K_register_6 rfl rfl ?_
    refine E_ifnonnull d_K_register_7 (tgt := 14) (by decide) (fun _ c => by cases c) (fun _ => ?_)
    refine E_iconst (v := 0) d_K_register_10 (by decide) ?_
    refine E_goto (tgt := 19) d_K_register_11 (by decide) ?_
    exact E_ireturn d_K_register_19 (Or.inl rfl) rfl ⟨_, rfl, rfl, rfl⟩
theorem c_K_descriptor {G : iG} {F : Nat} {C M : Nat → Nat → Int32} {x0 y0 : Int32} : MI G m_K_descriptor 1 [vR 0, vI x0, vI y0] (HW F C M) (fun x h' => (x = if isbC C x0 = true then eA C (nv x0 - 1) y0 else -1) ∧ h' = HW F C M) := by
  refine Mt.of' (Ls := [some (vR 0), some (vI x0), some (vI y0), none]) (by decide) (by simp [ct]) (Nat.le_of_ble_eq_true rfl) rfl ?_
  by_cases hb : isbC C x0 = true
  · obtain ⟨i, hi, rfl, h15, e⟩ := isbC_of hb
    rw [if_pos hb, e]
    refine E_aload_n d_K_descriptor_0 rfl rfl ?_
    refine E_iload_n d_K_descriptor_1 rfl ?_
    refine E_V1q d_K_descriptor_2 w_K_94 rfl (by decide) (Nat.le_of_ble_eq_true rfl) (c_find_some hi h15) ?_
    rintro _ _ ⟨rfl, rfl⟩
    refine E_astore_n d_K_descriptor_5 (by decide) rfl ?_
    refine E_aload_n d_K_descriptor_6 rfl rfl ?_
    refine E_ifnonnull d_K_descriptor_7 (tgt := 14) (by decide) (fun _ _ => ?_) (fun c => by cases c)
    refine E_aload_n d_K_descriptor_14 rfl rfl ?_
    refine E_iload_n d_K_descriptor_15 rfl ?_
    refine E_V1i d_K_descriptor_16 w_K_124 (SH_T0 hi) (by decide) (Nat.le_of_ble_eq_true rfl) (c_T_endAt hi) ?_
    rintro _ _ ⟨rfl, rfl⟩
    exact E_ireturn d_K_descriptor_19 (Or.inl rfl) rfl ⟨_, rfl, rfl, rfl⟩
  · rw [if_neg hb]
    refine E_aload_n d_K_descriptor_0 rfl rfl ?_
    refine E_iload_n d_K_descriptor_1 rfl ?_
    refine E_V1q d_K_descriptor_2 w_K_94 rfl (by decide) (Nat.le_of_ble_eq_true rfl) (c_find_none hb) ?_
    rintro _ _ ⟨rfl, rfl⟩
    refine E_astore_n d_K_descriptor_5 (by decide) rfl ?_
    refine E_aload_n d_K_descriptor_6 rfl rfl ?_
    refine E_ifnonnull d_K_descriptor_7 (tgt := 14) (by decide) (fun _ c => by cases c) (fun _ => ?_)
    refine E_iconst (v := -1) d_K_descriptor_10 (by decide) ?_
    refine E_goto (tgt := 19) d_K_descriptor_11 (by decide) ?_
    exact E_ireturn d_K_descriptor_19 (Or.inl rfl) rfl ⟨_, rfl, rfl, rfl⟩
theorem c_K_word {G : iG} {F : Nat} {C M : Nat → Nat → Int32} {x0 y0 : Int32} (hF : F ≤ 40) (hpg : ∀ i, i < 8 → ∃ s, s ≤ 8 ∧ C 14 i = nI s ∧ pgC C i s F) : MI G m_K_word 1 [vR 0, vI x0, vI y0] (HW F C M) (fun x h' => (x = if isbC C x0 = true ∧ y0 &&& 3 = 0 ∧ y0.toBitVec.toNat / 64 < nv (C 14 (nv x0 - 1)) then C 2 (plN C (nv x0 - 1) y0) else 0) ∧ h' = HW F C M) := by
  refine Mt.of' (Ls := [some (vR 0), some (vI x0), some (vI y0), none, none]) (by decide) (by simp [ct]) (Nat.le_of_ble_eq_true rfl) rfl ?_
  by_cases hb : isbC C x0 = true
  · obtain ⟨i, hi, rfl, h15, e⟩ := isbC_of hb
    obtain ⟨s, hs8, hs, hpp⟩ := hpg i hi
    have hx := y0.toBitVec.isLt
    rw [e, hs, nv_nI (by omega)]
    by_cases hpl : y0.toBitVec.toNat / 64 < s
    · obtain ⟨fr, hfr, efr⟩ := hpp _ hpl
      have epl : plN C i y0 = fr * 16 + y0.toBitVec.toNat / 4 % 16 := by rw [plN, efr, nv_nI (by omega)]
      refine E_aload_n d_K_word_0 rfl rfl ?_
      refine E_iload_n d_K_word_1 rfl ?_
      refine E_V1q d_K_word_2 w_K_94 rfl (by decide) (Nat.le_of_ble_eq_true rfl) (c_find_some hi h15) ?_
      rintro _ _ ⟨rfl, rfl⟩
      refine E_astore_n d_K_word_5 (by decide) rfl ?_
      refine E_aload_n d_K_word_6 rfl rfl ?_
      refine E_ifnull d_K_word_7 (tgt := 16) (by decide) (fun c => by cases c) (fun _ _ => ?_)
      refine E_iload_n d_K_word_10 rfl ?_
      refine E_iconst (v := 3) d_K_word_11 (by decide) ?_
      refine E_iand d_K_word_12 ?_
      refine E_if_eq (tgt := 18) d_K_word_13 (by decide) (fun c13 => ?_) (fun c13 => ?_)
      · refine E_aload_n d_K_word_18 rfl rfl ?_
        refine L_gr d_K_word_19 f_K_18 rfl (by decide) rfl rfl ?_
        refine E_aload_n d_K_word_22 rfl rfl ?_
        refine E_iload_n d_K_word_23 rfl ?_
        refine E_V2i d_K_word_24 w_K_117 rfl (by decide) (Nat.le_of_ble_eq_true rfl) (c_MEM_placeOf hi hs hs8) ?_
        rintro _ _ ⟨rfl, rfl⟩
        refine E_tp (y := nI (fr * 16 + y0.toBitVec.toNat / 4 % 16)) (by rw [plC, if_pos hpl, efr, show (16 : Int32) = nI 16 from rfl, pk_mul, nI_add]) ?_
        refine E_istore d_K_word_27 (by decide) ?_
        refine E_iload d_K_word_29 rfl ?_
        refine E_iconst (v := -1) d_K_word_31 (by decide) ?_
        refine E_icmp_ne (tgt := 39) d_K_word_32 (by decide) (fun _ => ?_) (fun c => absurd c (fun q => by have := nI_pos' (n := fr * 16 + y0.toBitVec.toNat / 4 % 16) (by omega); rw [q] at this; exact absurd this (by decide)))
        refine E_aload_n d_K_word_39 rfl rfl ?_
        refine L_gr d_K_word_40 f_K_18 rfl (by decide) rfl rfl ?_
        refine L_gr d_K_word_43 f_K_121 rfl (by decide) rfl rfl ?_
        refine E_iload d_K_word_46 rfl ?_
        refine L_ld (j := fr * 16 + y0.toBitVec.toNat / 4 % 16) d_K_word_48 rfl rfl (by omega) (by omega) (fr_K _ (by decide)) ?_
        exact E_ireturn d_K_word_49 (Or.inl rfl) rfl ⟨_, rfl, by rw [if_pos ⟨hb, c13, hpl⟩, epl], rfl⟩
      · refine E_iconst (v := 0) d_K_word_16 (by decide) ?_
        exact E_ireturn d_K_word_17 (Or.inl rfl) rfl ⟨_, rfl, by rw [if_neg (fun q => c13 q.2.1)], rfl⟩
    · refine E_aload_n d_K_word_0 rfl rfl ?_
      refine E_iload_n d_K_word_1 rfl ?_
      refine E_V1q d_K_word_2 w_K_94 rfl (by decide) (Nat.le_of_ble_eq_true rfl) (c_find_some hi h15) ?_
      rintro _ _ ⟨rfl, rfl⟩
      refine E_astore_n d_K_word_5 (by decide) rfl ?_
      refine E_aload_n d_K_word_6 rfl rfl ?_
      refine E_ifnull d_K_word_7 (tgt := 16) (by decide) (fun c => by cases c) (fun _ _ => ?_)
      refine E_iload_n d_K_word_10 rfl ?_
      refine E_iconst (v := 3) d_K_word_11 (by decide) ?_
      refine E_iand d_K_word_12 ?_
      refine E_if_eq (tgt := 18) d_K_word_13 (by decide) (fun c13 => ?_) (fun c13 => ?_)
      · refine E_aload_n d_K_word_18 rfl rfl ?_
        refine L_gr d_K_word_19 f_K_18 rfl (by decide) rfl rfl ?_
        refine E_aload_n d_K_word_22 rfl rfl ?_
        refine E_iload_n d_K_word_23 rfl ?_
        refine E_V2i d_K_word_24 w_K_117 rfl (by decide) (Nat.le_of_ble_eq_true rfl) (c_MEM_placeOf hi hs hs8) ?_
        rintro _ _ ⟨rfl, rfl⟩
        rw [plC, if_neg hpl]
        refine E_istore d_K_word_27 (by decide) ?_
        refine E_iload d_K_word_29 rfl ?_
        refine E_iconst (v := -1) d_K_word_31 (by decide) ?_
        refine E_icmp_ne (tgt := 39) d_K_word_32 (by decide) (fun c => absurd (by decide) c) (fun _ => ?_)
        refine E_iconst (v := 0) d_K_word_35 (by decide) ?_
        refine E_goto (tgt := 49) d_K_word_36 (by decide) ?_
        exact E_ireturn d_K_word_49 (Or.inl rfl) rfl ⟨_, rfl, by rw [if_neg (fun q => hpl q.2.2)], rfl⟩
      · refine E_iconst (v := 0) d_K_word_16 (by decide) ?_
        exact E_ireturn d_K_word_17 (Or.inl rfl) rfl ⟨_, rfl, by rw [if_neg (fun q => hpl q.2.2)], rfl⟩
  · rw [if_neg (fun q => hb q.1)]
    refine E_aload_n d_K_word_0 rfl rfl ?_
    refine E_iload_n d_K_word_1 rfl ?_
    refine E_V1q d_K_word_2 w_K_94 rfl (by decide) (Nat.le_of_ble_eq_true rfl) (c_find_none hb) ?_
    rintro _ _ ⟨rfl, rfl⟩
    refine E_astore_n d_K_word_5 (by decide) rfl ?_
    refine E_aload_n d_K_word_6 rfl rfl ?_
    refine E_ifnull d_K_word_7 (tgt := 16) (by decide) (fun _ => ?_) (fun _ c => by cases c)
    refine E_iconst (v := 0) d_K_word_16 (by decide) ?_
    exact E_ireturn d_K_word_17 (Or.inl rfl) rfl ⟨_, rfl, rfl, rfl⟩
theorem c_K_held {G : iG} {F : Nat} {C M : Nat → Nat → Int32} {x0 : Int32} : MI G m_K_held 2 [vR 0, vI x0] (HW F C M) (fun x h' => (x = if 0 ≤ x0 ∧ x0 < 4 ∧ frC C (nv x0) = false then C 26 (nv x0) else 0) ∧ h' = HW F C M) := by
  refine Mt.of' (Ls := [some (vR 0), some (vI x0)]) (by decide) (by simp [ct]) (Nat.le_of_ble_eq_true rfl) rfl ?_
  refine E_iload_n d_K_held_0 rfl ?_
  refine E_if_lt (tgt := 17) d_K_held_1 (by decide) (fun c1 => ?_) (fun c1 => ?_)
  · refine E_iconst (v := 0) d_K_held_17 (by decide) ?_
    refine E_goto (tgt := 30) d_K_held_18 (by decide) ?_
    exact E_ireturn d_K_held_30 (Or.inl rfl) rfl ⟨_, rfl, by rw [if_neg (fun q => absurd c1 (Int32.not_lt.mpr q.1))], rfl⟩
  · refine E_iload_n d_K_held_4 rfl ?_
    refine E_iconst (v := 4) d_K_held_5 (by decide) ?_
    refine E_icmp_ge (tgt := 17) d_K_held_6 (by decide) (fun c6 => ?_) (fun c6 => ?_)
    · refine E_iconst (v := 0) d_K_held_17 (by decide) ?_
      refine E_goto (tgt := 30) d_K_held_18 (by decide) ?_
      exact E_ireturn d_K_held_30 (Or.inl rfl) rfl ⟨_, rfl, by rw [if_neg (fun q => absurd q.2.1 (Int32.not_lt.mpr c6))], rfl⟩
    · obtain ⟨k, hk, rfl⟩ : ∃ k : Nat, k < 4 ∧ x0 = nI k := by rcases pk_ix x0 (n := 4) (by decide) with q | q | q; exact absurd q c1; exact absurd q c6; exact q
      have e : nv (nI k) = k := nv_nI (by omega)
      refine E_aload_n d_K_held_9 rfl rfl ?_
      refine E_iload_n d_K_held_10 rfl ?_
      refine E_V1i d_K_held_11 w_K_127 rfl (by decide) (Nat.le_of_ble_eq_true rfl) (c_K_isFreePipe hk) ?_
      rintro _ _ ⟨rfl, rfl⟩
      refine E_if_eq (tgt := 21) d_K_held_14 (by decide) (fun c14 => ?_) (fun c14 => ?_)
      · refine E_aload_n d_K_held_21 rfl rfl ?_
        refine L_gr d_K_held_22 f_K_35 rfl (by decide) rfl rfl ?_
        refine E_iload_n d_K_held_25 rfl ?_
        refine L_ar3 (j := k) d_K_held_26 rfl rfl (by omega) (by decide) rfl ?_
        refine L_gi d_K_held_27 f_K_131 (SH_P0 (by omega)) (by decide) rfl (fr_P2 (by omega)) ?_
        exact E_ireturn d_K_held_30 (Or.inl rfl) rfl ⟨_, rfl, by rw [e, if_pos ⟨Int32.not_lt.mp c1, Int32.not_le.mp c6, b2i_eq0 c14⟩], rfl⟩
      · refine E_iconst (v := 0) d_K_held_17 (by decide) ?_
        refine E_goto (tgt := 30) d_K_held_18 (by decide) ?_
        exact E_ireturn d_K_held_30 (Or.inl rfl) rfl ⟨_, rfl, by rw [e, if_neg (fun q => absurd q.2.2 (by rw [b2i_ne0 c14]; decide))], rfl⟩
theorem c_K_console {G : iG} {F : Nat} {C M : Nat → Nat → Int32} {x0 : Int32} {n : Nat} (hn : C 0 8 = nI n) (hb : n ≤ 200) : MI G m_K_console 0 [vR 0, vI x0] (HW F C M) (fun x h' => (x = if 0 ≤ x0 ∧ x0 < nI n then C 49 (nv x0) else -1) ∧ h' = HW F C M) := by
  refine Mt.of' (Ls := [some (vR 0), some (vI x0)]) (by decide) (by simp [ct]) (Nat.le_of_ble_eq_true rfl) rfl ?_
  refine E_iload_n d_K_console_0 rfl ?_
  refine E_if_lt (tgt := 12) d_K_console_1 (by decide) (fun c1 => ?_) (fun c1 => ?_)
  · refine E_iconst (v := -1) d_K_console_12 (by decide) ?_
    refine E_goto (tgt := 22) d_K_console_13 (by decide) ?_
    exact E_ireturn d_K_console_22 (Or.inl rfl) rfl ⟨_, rfl, by rw [if_neg (fun q => absurd c1 (Int32.not_lt.mpr q.1))], rfl⟩
  · refine E_iload_n d_K_console_4 rfl ?_
    refine E_aload_n d_K_console_5 rfl rfl ?_
    refine L_gi d_K_console_6 f_K_134 rfl (by decide) rfl (fr_K 8 (by decide)) ?_
    refine E_tp (y := nI (n)) hn ?_
    refine E_icmp_lt (tgt := 16) d_K_console_9 (by decide) (fun c9 => ?_) (fun c9 => ?_)
    · obtain ⟨k, hk, rfl⟩ : ∃ k : Nat, k < n ∧ x0 = nI k := by rcases pk_ix x0 (n := n) (by omega) with q | q | q; exact absurd q c1; exact absurd c9 (Int32.not_lt.mpr q); exact q
      refine E_aload_n d_K_console_16 rfl rfl ?_
      refine L_gr d_K_console_17 f_K_51 rfl (by decide) rfl rfl ?_
      refine E_iload_n d_K_console_20 rfl ?_
      refine L_ld (j := k) d_K_console_21 rfl rfl (by omega) (by decide) (fr_K _ (by decide)) ?_
      exact E_ireturn d_K_console_22 (Or.inl rfl) rfl ⟨_, rfl, by rw [if_pos ⟨Int32.not_lt.mp c1, c9⟩, nv_nI (by omega)], rfl⟩
    · refine E_iconst (v := -1) d_K_console_12 (by decide) ?_
      refine E_goto (tgt := 22) d_K_console_13 (by decide) ?_
      exact E_ireturn d_K_console_22 (Or.inl rfl) rfl ⟨_, rfl, by rw [if_neg (fun q => c9 q.2)], rfl⟩
theorem c_K_waitingTurn {G : iG} {F : Nat} {C M : Nat → Nat → Int32} {x0 : Int32} {z : Nat} (hz : C 46 1 = nI z) (hz8 : z ≤ 8) : MI G m_K_waitingTurn 1 [vR 0, vI x0] (HW F C M) (fun x h' => x = atC C z x0 ∧ h' = HW F C M) := by
  refine Mt.of' (Ls := [some (vR 0), some (vI x0)]) (by decide) (by simp [ct]) (Nat.le_of_ble_eq_true rfl) rfl ?_
  refine E_aload_n d_K_waitingTurn_0 rfl rfl ?_
  refine L_gr d_K_waitingTurn_1 f_K_43 rfl (by decide) rfl rfl ?_
  refine E_iload_n d_K_waitingTurn_4 rfl ?_
  refine E_V1i d_K_waitingTurn_5 w_K_137 rfl (by decide) (Nat.le_of_ble_eq_true rfl) (c_ROW_at hz hz8) ?_
  rintro _ _ ⟨rfl, rfl⟩
  exact E_ireturn d_K_waitingTurn_8 (Or.inl rfl) rfl ⟨_, rfl, rfl, rfl⟩
theorem c_K_current {G : iG} {F : Nat} {C M : Nat → Nat → Int32}  : MI G m_K_current 0 [vR 0] (HW F C M) (fun x h' => x = C 0 10 ∧ h' = HW F C M) := by
  refine Mt.of' (Ls := [some (vR 0)]) (by decide) (by simp [ct]) (Nat.le_of_ble_eq_true rfl) rfl ?_
  refine E_aload_n d_K_current_0 rfl rfl ?_
  refine L_gi d_K_current_1 f_K_91 rfl (by decide) rfl (fr_K 10 (by decide)) ?_
  exact E_ireturn d_K_current_4 (Or.inl rfl) rfl ⟨_, rfl, rfl, rfl⟩
theorem c_K_consoleLength {G : iG} {F : Nat} {C M : Nat → Nat → Int32}  : MI G m_K_consoleLength 0 [vR 0] (HW F C M) (fun x h' => x = C 0 8 ∧ h' = HW F C M) := by
  refine Mt.of' (Ls := [some (vR 0)]) (by decide) (by simp [ct]) (Nat.le_of_ble_eq_true rfl) rfl ?_
  refine E_aload_n d_K_consoleLength_0 rfl rfl ?_
  refine L_gi d_K_consoleLength_1 f_K_134 rfl (by decide) rfl (fr_K 8 (by decide)) ?_
  exact E_ireturn d_K_consoleLength_4 (Or.inl rfl) rfl ⟨_, rfl, rfl, rfl⟩
theorem c_K_freeFrames {G : iG} {F : Nat} {C M : Nat → Nat → Int32}  : MI G m_K_freeFrames 0 [vR 0] (HW F C M) (fun x h' => x = C 1 2 ∧ h' = HW F C M) := by
  refine Mt.of' (Ls := [some (vR 0)]) (by decide) (by simp [ct]) (Nat.le_of_ble_eq_true rfl) rfl ?_
  refine E_aload_n d_K_freeFrames_0 rfl rfl ?_
  refine L_gr d_K_freeFrames_1 f_K_18 rfl (by decide) rfl rfl ?_
  refine L_gi d_K_freeFrames_4 f_K_61 rfl (by decide) rfl (fr_K 2 (by decide)) ?_
  exact E_ireturn d_K_freeFrames_7 (Or.inl rfl) rfl ⟨_, rfl, rfl, rfl⟩
theorem md_K_obstacleOf {G : iG} {F : Nat} {C M : Nat → Nat → Int32} {Q : Option iV → iH → Prop} {i : Nat} (hi : i < 8) {x : Int32} (hx : edr x) (hQ : Q (some (vI (if C 20 (32 * i + 17) = 4 then obK C i else if C 20 (32 * i + 17) = 6 then obW C x else if C 20 (32 * i + 17) = 7 then obR C x else 1))) (HW F C M)) : Ev G m_K_obstacleOf 2 0 0 17 [some (vR 0), some (vR (tk i)), some (vI x)] [vI (C 20 (32 * i + 17))] (HW F C M) Q := by
  obtain ⟨r, hr⟩ : ∃ r, r = C 20 (32 * i + 17) := ⟨_, rfl⟩
  rw [← hr] at hQ ⊢
  by_cases h4 : r = 4
  · subst h4
    rw [if_pos rfl] at hQ
    obtain ⟨E, hE⟩ : ∃ E, E = ecC C i 8 0 := ⟨_, rfl⟩
    refine E_tsIn (tgt := 48) (off := 31) d_K_obstacleOf_17 (by decide) (by decide) (by decide) (by decide) ?_
    refine E_aload_n d_K_obstacleOf_48 rfl rfl ?_
    refine E_aload_n d_K_obstacleOf_49 rfl rfl ?_
    refine E_V1i d_K_obstacleOf_50 w_K_184 rfl (by decide) (Nat.le_of_ble_eq_true rfl) (c_K_hasChild hi) ?_
    rintro _ _ ⟨rfl, rfl⟩
    refine E_if_eq (tgt := 68) d_K_obstacleOf_53 (by decide) (fun c53 => ?_) (fun c53 => ?_)
    · refine E_iconst (v := 1) d_K_obstacleOf_68 (by decide) ?_
      exact E_ireturn d_K_obstacleOf_69 (Or.inl rfl) rfl (by rw [obK, if_neg (fun q => absurd q.1 (by rw [b2i_eq0 c53]; decide))] at hQ; exact hQ)
    · refine E_aload_n d_K_obstacleOf_56 rfl rfl ?_
      refine E_aload_n d_K_obstacleOf_57 rfl rfl ?_
      refine E_V1q d_K_obstacleOf_58 w_K_187 rfl (by decide) (Nat.le_of_ble_eq_true rfl) (c_K_endedChildOf hi) ?_
      rintro _ _ ⟨rfl, rfl⟩
      refine E_ifnonnull d_K_obstacleOf_61 (tgt := 68) (by decide) (fun q61 c61 => ?_) (fun c61 => ?_)
      · refine E_iconst (v := 1) d_K_obstacleOf_68 (by decide) ?_
        exact E_ireturn d_K_obstacleOf_69 (Or.inl rfl) rfl (by have q61 : ecC C i 8 0 < 8 := Decidable.byContradiction (fun q => by rw [if_neg q] at c61; cases c61); rw [obK, if_neg (fun q => q.2 q61)] at hQ; exact hQ)
      · refine E_iconst (v := 4) d_K_obstacleOf_64 (by decide) ?_
        refine E_goto (tgt := 69) d_K_obstacleOf_65 (by decide) ?_
        exact E_ireturn d_K_obstacleOf_69 (Or.inl rfl) rfl (by have q61 : ¬ ecC C i 8 0 < 8 := (fun q => by (rw [if_pos q] at c61; cases c61)); rw [obK, if_pos ⟨b2i_ne0 c53, q61⟩] at hQ; exact hQ)
  rw [if_neg h4] at hQ
  by_cases h6 : r = 6
  · subst h6
    rw [if_pos rfl] at hQ
    refine E_tsIn (tgt := 70) (off := 53) d_K_obstacleOf_17 (by decide) (by decide) (by decide) (by decide) ?_
    refine E_iload_n d_K_obstacleOf_70 rfl ?_
    refine E_S1i d_K_obstacleOf_71 w_K_191 (by decide) (Nat.le_of_ble_eq_true rfl) (c_K_isWritingEnd) ?_
    rintro _ _ ⟨rfl, rfl⟩
    refine E_if_eq (tgt := 102) d_K_obstacleOf_74 (by decide) (fun c74 => ?_) (fun c74 => ?_)
    · refine E_iconst (v := 1) d_K_obstacleOf_102 (by decide) ?_
      exact E_ireturn d_K_obstacleOf_103 (Or.inl rfl) rfl (by rw [obW, if_neg (fun q => absurd q.1 (by rw [b2i_eq0 c74]; decide))] at hQ; exact hQ)
    · obtain ⟨e, he1, he8, rfl⟩ := wrE_of hx (b2i_ne0 c74)
      have e2 : nv (nI e) = e := nv_nI (by omega)
      refine E_aload_n d_K_obstacleOf_77 rfl rfl ?_
      refine E_iload_n d_K_obstacleOf_78 rfl ?_
      refine E_V1q d_K_obstacleOf_79 w_K_194 rfl (by decide) (Nat.le_of_ble_eq_true rfl) (c_K_pipeOf he1 he8) ?_
      rintro _ _ ⟨rfl, rfl⟩
      refine E_V0i d_K_obstacleOf_82 w_K_198 (SH_P0 (by omega)) (by decide) (Nat.le_of_ble_eq_true rfl) (c_P_isFull (by omega)) ?_
      rintro _ _ ⟨rfl, rfl⟩
      refine E_if_eq (tgt := 102) d_K_obstacleOf_85 (by decide) (fun c85 => ?_) (fun c85 => ?_)
      · refine E_iconst (v := 1) d_K_obstacleOf_102 (by decide) ?_
        exact E_ireturn d_K_obstacleOf_103 (Or.inl rfl) rfl (by rw [obW, e2, if_neg (fun q => of_decide_eq_false (b2i_eq0 c85) q.2.1)] at hQ; exact hQ)
      · refine E_aload_n d_K_obstacleOf_88 rfl rfl ?_
        refine E_iload_n d_K_obstacleOf_89 rfl ?_
        refine E_iconst (v := 1) d_K_obstacleOf_90 (by decide) ?_
        refine E_isub d_K_obstacleOf_91 ?_
        refine E_V1i d_K_obstacleOf_92 w_K_201 rfl (by decide) (Nat.le_of_ble_eq_true rfl) (c_K_isHeld) ?_
        rintro _ _ ⟨rfl, rfl⟩
        refine E_if_eq (tgt := 102) d_K_obstacleOf_95 (by decide) (fun c95 => ?_) (fun c95 => ?_)
        · refine E_iconst (v := 1) d_K_obstacleOf_102 (by decide) ?_
          exact E_ireturn d_K_obstacleOf_103 (Or.inl rfl) rfl (by rw [obW, e2, if_neg (fun q => absurd q.2.2 (by rw [b2i_eq0 c95]; decide))] at hQ; exact hQ)
        · refine E_iconst (v := 3) d_K_obstacleOf_98 (by decide) ?_
          refine E_goto (tgt := 103) d_K_obstacleOf_99 (by decide) ?_
          exact E_ireturn d_K_obstacleOf_103 (Or.inl rfl) rfl (by rw [obW, e2, if_pos ⟨b2i_ne0 c74, of_decide_eq_true (b2i_ne0 c85), b2i_ne0 c95⟩] at hQ; exact hQ)
  rw [if_neg h6] at hQ
  by_cases h7 : r = 7
  · subst h7
    rw [if_pos rfl] at hQ
    refine E_tsIn (tgt := 104) (off := 87) d_K_obstacleOf_17 (by decide) (by decide) (by decide) (by decide) ?_
    refine E_iload_n d_K_obstacleOf_104 rfl ?_
    refine E_S1i d_K_obstacleOf_105 w_K_204 (by decide) (Nat.le_of_ble_eq_true rfl) (c_K_isReadingEnd) ?_
    rintro _ _ ⟨rfl, rfl⟩
    refine E_if_eq (tgt := 136) d_K_obstacleOf_108 (by decide) (fun c108 => ?_) (fun c108 => ?_)
    · refine E_iconst (v := 1) d_K_obstacleOf_136 (by decide) ?_
      exact E_ireturn d_K_obstacleOf_137 (Or.inl rfl) rfl (by rw [obR, if_neg (fun q => absurd q.1 (by rw [b2i_eq0 c108]; decide))] at hQ; exact hQ)
    · obtain ⟨e, he1, he8, rfl⟩ := reE_of hx (b2i_ne0 c108)
      have e2 : nv (nI e) = e := nv_nI (by omega)
      refine E_aload_n d_K_obstacleOf_111 rfl rfl ?_
      refine E_iload_n d_K_obstacleOf_112 rfl ?_
      refine E_V1q d_K_obstacleOf_113 w_K_194 rfl (by decide) (Nat.le_of_ble_eq_true rfl) (c_K_pipeOf he1 he8) ?_
      rintro _ _ ⟨rfl, rfl⟩
      refine E_V0i d_K_obstacleOf_116 w_K_207 (SH_P0 (by omega)) (by decide) (Nat.le_of_ble_eq_true rfl) (c_P_isEmpty (by omega)) ?_
      rintro _ _ ⟨rfl, rfl⟩
      refine E_if_eq (tgt := 136) d_K_obstacleOf_119 (by decide) (fun c119 => ?_) (fun c119 => ?_)
      · refine E_iconst (v := 1) d_K_obstacleOf_136 (by decide) ?_
        exact E_ireturn d_K_obstacleOf_137 (Or.inl rfl) rfl (by rw [obR, e2, if_neg (fun q => of_decide_eq_false (b2i_eq0 c119) q.2.1)] at hQ; exact hQ)
      · refine E_aload_n d_K_obstacleOf_122 rfl rfl ?_
        refine E_iload_n d_K_obstacleOf_123 rfl ?_
        refine E_iconst (v := 1) d_K_obstacleOf_124 (by decide) ?_
        refine E_iadd d_K_obstacleOf_125 ?_
        refine E_V1i d_K_obstacleOf_126 w_K_201 rfl (by decide) (Nat.le_of_ble_eq_true rfl) (c_K_isHeld) ?_
        rintro _ _ ⟨rfl, rfl⟩
        refine E_if_eq (tgt := 136) d_K_obstacleOf_129 (by decide) (fun c129 => ?_) (fun c129 => ?_)
        · refine E_iconst (v := 1) d_K_obstacleOf_136 (by decide) ?_
          exact E_ireturn d_K_obstacleOf_137 (Or.inl rfl) rfl (by rw [obR, e2, if_neg (fun q => absurd q.2.2 (by rw [b2i_eq0 c129]; decide))] at hQ; exact hQ)
        · refine E_iconst (v := 2) d_K_obstacleOf_132 (by decide) ?_
          refine E_goto (tgt := 137) d_K_obstacleOf_133 (by decide) ?_
          exact E_ireturn d_K_obstacleOf_137 (Or.inl rfl) rfl (by rw [obR, e2, if_pos ⟨b2i_ne0 c108, of_decide_eq_true (b2i_ne0 c119), b2i_ne0 c129⟩] at hQ; exact hQ)
  rw [if_neg h7] at hQ
  by_cases h5 : r = 5
  · subst h5
    refine E_tsIn (tgt := 138) (off := 121) d_K_obstacleOf_17 (by decide) (by decide) (by decide) (by decide) ?_
    refine E_iconst (v := 1) d_K_obstacleOf_138 (by decide) ?_
    exact E_ireturn d_K_obstacleOf_139 (Or.inl rfl) rfl hQ
  refine E_tsOut (tgt := 138) d_K_obstacleOf_17 ?_ (by decide) ?_
  · have n4 : r.toInt ≠ 4 := fun q => h4 (Int32.toInt_inj.mp (q.trans (by decide)))
    have n5 : r.toInt ≠ 5 := fun q => h5 (Int32.toInt_inj.mp (q.trans (by decide)))
    have n6 : r.toInt ≠ 6 := fun q => h6 (Int32.toInt_inj.mp (q.trans (by decide)))
    have n7 : r.toInt ≠ 7 := fun q => h7 (Int32.toInt_inj.mp (q.trans (by decide)))
    omega
  refine E_iconst (v := 1) d_K_obstacleOf_138 (by decide) ?_
  exact E_ireturn d_K_obstacleOf_139 (Or.inl rfl) rfl hQ
theorem c_K_obstacleOf {G : iG} {F : Nat} {C M : Nat → Nat → Int32} {i : Nat} (hi : i < 8) (hd : dsE C i) : MI G m_K_obstacleOf 2 [vR 0, vR (tk i)] (HW F C M) (fun x h' => x = obC C i ∧ h' = HW F C M) := by
  refine Mt.of' (Ls := [some (vR 0), some (vR (tk i)), none]) (by decide) (by simp [ct]) (Nat.le_of_ble_eq_true rfl) rfl ?_
  refine E_aload_n d_K_obstacleOf_0 rfl rfl ?_
  refine E_aload_n d_K_obstacleOf_1 rfl rfl ?_
  refine E_bipush (v := 10) d_K_obstacleOf_2 (by decide) ?_
  refine E_V1i d_K_obstacleOf_4 w_K_110 (SH_T0 hi) (by decide) (Nat.le_of_ble_eq_true rfl) (c_T_getRegister hi) ?_
  rintro _ _ ⟨rfl, rfl⟩
  refine E_tp (y := C 20 (32 * i + 10)) (gR_nI C i (k := 10) (by decide)) ?_
  refine E_V1i d_K_obstacleOf_7 w_K_124 (SH_T0 hi) (by decide) (Nat.le_of_ble_eq_true rfl) (c_T_endAt hi) ?_
  rintro _ _ ⟨rfl, rfl⟩
  refine E_istore_n d_K_obstacleOf_10 (by decide) ?_
  refine E_aload_n d_K_obstacleOf_11 rfl rfl ?_
  refine E_bipush (v := 17) d_K_obstacleOf_12 (by decide) ?_
  refine E_V1i d_K_obstacleOf_14 w_K_110 (SH_T0 hi) (by decide) (Nat.le_of_ble_eq_true rfl) (c_T_getRegister hi) ?_
  rintro _ _ ⟨rfl, rfl⟩
  refine E_tp (y := C 20 (32 * i + 17)) (gR_nI C i (k := 17) (by decide)) ?_
  exact md_K_obstacleOf hi (eA_edr hd _) ⟨_, rfl, rfl, rfl⟩

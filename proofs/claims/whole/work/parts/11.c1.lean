/-! ===== the law's cell; the reference's small methods ===== -/
theorem c_LAW_cell {G : iG} {h : iH} {k : Nat} (hL : G.2.2.2.2.1 < 2 ^ 31) (hk : k < 2 ^ 31) : MI G m_LAW_cell 0 [vS, vI (nI k)] (h) (fun x h' => x = (if k < G.2.2.2.2.1 then G.2.2.2.2.2 k else 0) ∧ h' = h) := by
  refine Mt.of' (Ls := [some (vS), some (vI (nI k))]) (by decide) (by simp [ct]) (Nat.le_of_ble_eq_true rfl) rfl ?_
  refine E_iload_n d_LAW_cell_0 rfl ?_
  refine E_aload_n d_LAW_cell_1 rfl rfl ?_
  refine E_slen d_LAW_cell_2 ?_
  refine E_icmp_ge (tgt := 12) d_LAW_cell_3 (by decide) (fun c3 => ?_) (fun c3 => ?_)
  · have c := (nI_leI hL hk).mp c3
    refine E_iconst (v := 0) d_LAW_cell_12 (by decide) ?_
    exact E_ireturn d_LAW_cell_13 (Or.inl rfl) rfl ⟨_, rfl, by first | rw [if_pos (by omega)] | rw [if_neg (by omega)], rfl⟩
  · have c : ¬ G.2.2.2.2.1 ≤ k := fun q => c3 ((nI_leI hL hk).mpr q)
    refine E_aload_n d_LAW_cell_6 rfl rfl ?_
    refine E_iload_n d_LAW_cell_7 rfl ?_
    refine E_sld (j := k) d_LAW_cell_8 rfl (by omega) (by omega) ?_
    refine E_goto (tgt := 13) d_LAW_cell_9 (by decide) ?_
    exact E_ireturn d_LAW_cell_13 (Or.inl rfl) rfl ⟨_, rfl, by first | rw [if_pos (by omega)] | rw [if_neg (by omega)], rfl⟩
theorem c_MOD_bits {G : iG} {F : Nat} {C M : Nat → Nat → Int32} {a k : Nat} (ha : a < 32) (hk : k < 32) (hak : a + k ≤ 32) : MI G m_MOD_bits 0 [vR 50, vI (nI a), vI (nI k)] (HW F C M) (fun x h' => x = nI (bf (M 0 25) a k) ∧ h' = HW F C M) := by
  refine Mt.of' (Ls := [some (vR 50), some (vI (nI a)), some (vI (nI k))]) (by decide) (by simp [ct]) (Nat.le_of_ble_eq_true rfl) rfl ?_
  refine E_aload_n d_MOD_bits_0 rfl rfl ?_
  refine L_gi d_MOD_bits_1 f_MOD_107 rfl (by decide) rfl (fr_M 0 25) ?_
  refine E_iload_n d_MOD_bits_4 rfl ?_
  refine E_ishr d_MOD_bits_5 ?_
  refine E_iconst (v := 1) d_MOD_bits_6 (by decide) ?_
  refine E_iload_n d_MOD_bits_7 rfl ?_
  refine E_ishl d_MOD_bits_8 ?_
  refine E_iconst (v := 1) d_MOD_bits_9 (by decide) ?_
  refine E_isub d_MOD_bits_10 ?_
  refine E_iand d_MOD_bits_11 ?_
  exact E_ireturn d_MOD_bits_12 (Or.inl rfl) rfl ⟨_, rfl, bits_eq _ ha hk hak, rfl⟩
theorem c_MOD_get {G : iG} {F : Nat} {C M : Nat → Nat → Int32} {p k : Nat} (hp : M 0 24 = nI p) (hp8 : p ≤ 8) (hk : k < 32) : MI G m_MOD_get 0 [vR 50, vI (nI k)] (HW F C M) (fun x h' => x = M 9 (32 * p + k) ∧ h' = HW F C M) := by
  refine Mt.of' (Ls := [some (vR 50), some (vI (nI k))]) (by decide) (by simp [ct]) (Nat.le_of_ble_eq_true rfl) rfl ?_
  refine E_aload_n d_MOD_get_0 rfl rfl ?_
  refine L_gr d_MOD_get_1 f_MOD_34 rfl (by decide) rfl rfl ?_
  refine E_bipush (v := 32) d_MOD_get_4 (by decide) ?_
  refine E_aload_n d_MOD_get_6 rfl rfl ?_
  refine L_gi d_MOD_get_7 f_MOD_97 rfl (by decide) rfl (fr_M 0 24) ?_
  refine E_tp (y := nI (p)) hp ?_
  refine E_imul d_MOD_get_10 ?_
  refine E_tp (y := nI (32 * p)) (pk_mul 32 p) ?_
  refine E_iload_n d_MOD_get_11 rfl ?_
  refine E_iadd d_MOD_get_12 ?_
  refine E_tp (y := nI (32 * p + k)) (nI_add (32 * p) k) ?_
  refine L_ld (j := 32 * p + k) d_MOD_get_13 rfl rfl (by omega) (by decide) (fr_M 9 _) ?_
  exact E_ireturn d_MOD_get_14 (Or.inl rfl) rfl ⟨_, rfl, rfl, rfl⟩
theorem c_MOD_set {G : iG} {F : Nat} {C M : Nat → Nat → Int32} {p k : Nat} {v : Int32} (hp : M 0 24 = nI p) (hp8 : p ≤ 8) (hk : k < 32) : MV G m_MOD_set 0 [vR 50, vI (nI k), vI v] (HW F C M) (fun h' => h' = HW F C (up2 M 9 (32 * p + k) (if k = 0 then 0 else v))) := by
  refine Mt.of' (Ls := [some (vR 50), some (vI (nI k)), some (vI v)]) (by decide) (by simp [ct]) (Nat.le_of_ble_eq_true rfl) rfl ?_
  refine E_aload_n d_MOD_set_0 rfl rfl ?_
  refine L_gr d_MOD_set_1 f_MOD_34 rfl (by decide) rfl rfl ?_
  refine E_bipush (v := 32) d_MOD_set_4 (by decide) ?_
  refine E_aload_n d_MOD_set_6 rfl rfl ?_
  refine L_gi d_MOD_set_7 f_MOD_97 rfl (by decide) rfl (fr_M 0 24) ?_
  refine E_tp (y := nI (p)) hp ?_
  refine E_imul d_MOD_set_10 ?_
  refine E_tp (y := nI (32 * p)) (pk_mul 32 p) ?_
  refine E_iload_n d_MOD_set_11 rfl ?_
  refine E_iadd d_MOD_set_12 ?_
  refine E_tp (y := nI (32 * p + k)) (nI_add (32 * p) k) ?_
  refine E_iload_n d_MOD_set_13 rfl ?_
  refine E_if_ne (tgt := 21) d_MOD_set_14 (by decide) (fun c14 => ?_) (fun c14 => ?_)
  · have c : k ≠ 0 := fun q => c14 (by rw [q]; rfl)
    refine E_iload_n d_MOD_set_21 rfl ?_
    refine L_st (j := 32 * p + k) d_MOD_set_22 rfl rfl (by omega) (by decide) (fu_M 9 _ _) ?_
    exact E_return d_MOD_set_23 rfl rfl ⟨rfl, by simp [c]⟩
  · have c : k = 0 := (nI_eq (b := 0) (by omega) (by omega)).mp c14
    refine E_iconst (v := 0) d_MOD_set_17 (by decide) ?_
    refine E_goto (tgt := 22) d_MOD_set_18 (by decide) ?_
    refine L_st (j := 32 * p + k) d_MOD_set_22 rfl rfl (by omega) (by decide) (fu_M 9 _ _) ?_
    exact E_return d_MOD_set_23 rfl rfl ⟨rfl, by simp [c]⟩
theorem c_MOD_there {G : iG} {F : Nat} {C M : Nat → Nat → Int32} {p s : Nat} {a : Int32} (hp : p ≤ 8) (hs : M 8 p = nI s) : MI G m_MOD_there 0 [vR 50, vI (nI p), vI a] (HW F C M) (fun x h' => x = b2i (decide (0 ≤ a ∧ a < nI (64 * s))) ∧ h' = HW F C M) := by
  refine Mt.of' (Ls := [some (vR 50), some (vI (nI p)), some (vI a)]) (by decide) (by simp [ct]) (Nat.le_of_ble_eq_true rfl) rfl ?_
  refine E_iload_n d_MOD_there_0 rfl ?_
  refine E_if_lt (tgt := 21) d_MOD_there_1 (by decide) (fun c1 => ?_) (fun c1 => ?_)
  · have c : ¬ (0 ≤ a ∧ a < nI (64 * s)) := fun q => absurd c1 (Int32.not_lt.mpr q.1)
    refine E_iconst (v := 0) d_MOD_there_21 (by decide) ?_
    exact E_ireturn d_MOD_there_22 (Or.inr ⟨rfl, (by decide)⟩) rfl ⟨_, rfl, by simp [c, b2i], rfl⟩
  · refine E_iload_n d_MOD_there_4 rfl ?_
    refine E_bipush (v := 64) d_MOD_there_5 (by decide) ?_
    refine E_aload_n d_MOD_there_7 rfl rfl ?_
    refine L_gr d_MOD_there_8 f_MOD_31 rfl (by decide) rfl rfl ?_
    refine E_iload_n d_MOD_there_11 rfl ?_
    refine L_ld (j := p) d_MOD_there_12 rfl rfl (by omega) (by decide) (fr_M 8 _) ?_
    rw [hs]
    refine E_imul d_MOD_there_13 ?_
    rw [show (64 : Int32) * nI s = nI (64 * s) from pk_mul 64 s]
    refine E_icmp_ge (tgt := 21) d_MOD_there_14 (by decide) (fun c14 => ?_) (fun c14 => ?_)
    · have c : ¬ (0 ≤ a ∧ a < nI (64 * s)) := fun q => absurd q.2 (Int32.not_lt.mpr c14)
      refine E_iconst (v := 0) d_MOD_there_21 (by decide) ?_
      exact E_ireturn d_MOD_there_22 (Or.inr ⟨rfl, (by decide)⟩) rfl ⟨_, rfl, by simp [c, b2i], rfl⟩
    · have c : (0 ≤ a ∧ a < nI (64 * s)) := ⟨Int32.not_lt.mp c1, Int32.not_le.mp c14⟩
      refine E_iconst (v := 1) d_MOD_there_17 (by decide) ?_
      refine E_goto (tgt := 22) d_MOD_there_18 (by decide) ?_
      exact E_ireturn d_MOD_there_22 (Or.inr ⟨rfl, (by decide)⟩) rfl ⟨_, rfl, by simp [c, b2i], rfl⟩
theorem c_MOD_cellOf {G : iG} {F : Nat} {C M : Nat → Nat → Int32} {p s a : Nat} (hp : p ≤ 8) (hs : s ≤ 8) (ha : a < 64 * s) : MI G m_MOD_cellOf 0 [vR 50, vI (nI p), vI (nI a)] (HW F C M) (fun x h' => x = nI 16 * M 10 (8 * p + a / 64) + nI (a % 64 / 4) ∧ h' = HW F C M) := by
  refine Mt.of' (Ls := [some (vR 50), some (vI (nI p)), some (vI (nI a))]) (by decide) (by simp [ct]) (Nat.le_of_ble_eq_true rfl) rfl ?_
  refine E_bipush (v := 16) d_MOD_cellOf_0 (by decide) ?_
  refine E_aload_n d_MOD_cellOf_2 rfl rfl ?_
  refine L_gr d_MOD_cellOf_3 f_MOD_37 rfl (by decide) rfl rfl ?_
  refine E_bipush (v := 8) d_MOD_cellOf_6 (by decide) ?_
  refine E_iload_n d_MOD_cellOf_8 rfl ?_
  refine E_imul d_MOD_cellOf_9 ?_
  refine E_tp (y := nI (8 * p)) (pk_mul 8 p) ?_
  refine E_iload_n d_MOD_cellOf_10 rfl ?_
  refine E_bipush (v := 64) d_MOD_cellOf_11 (by decide) ?_
  refine E_idiv d_MOD_cellOf_13 (by decide) ?_
  refine E_tp (y := nI (a / 64)) (pk_div (d := 64) (by omega) (by decide) (by decide)) ?_
  refine E_iadd d_MOD_cellOf_14 ?_
  refine E_tp (y := nI (8 * p + (a / 64))) (nI_add (8 * p) (a / 64)) ?_
  refine L_ld (j := 8 * p + (a / 64)) d_MOD_cellOf_15 rfl rfl (by omega) (by decide) (fr_M 10 _) ?_
  refine E_imul d_MOD_cellOf_16 ?_
  refine E_iload_n d_MOD_cellOf_17 rfl ?_
  refine E_bipush (v := 64) d_MOD_cellOf_18 (by decide) ?_
  refine E_irem d_MOD_cellOf_20 (by decide) ?_
  refine E_tp (y := nI (a % 64)) (pk_rem (d := 64) (by omega) (by decide) (by decide)) ?_
  refine E_iconst (v := 4) d_MOD_cellOf_21 (by decide) ?_
  refine E_idiv d_MOD_cellOf_22 (by decide) ?_
  refine E_tp (y := nI (a % 64 / 4)) (pk_div (d := 4) (by omega) (by decide) (by decide)) ?_
  refine E_iadd d_MOD_cellOf_23 ?_
  exact E_ireturn d_MOD_cellOf_24 (Or.inl rfl) rfl ⟨_, rfl, rfl, rfl⟩

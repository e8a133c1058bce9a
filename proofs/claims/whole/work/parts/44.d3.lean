/-! ===== the class: Machine ===== -/
theorem c_X_selector {G : iG} {h : iH} {w : Int32} : MI G m_X_selector 0 [vI w] (h) (fun x h' => x = nI (bf w 12 3) ∧ h' = h) := by
  refine Mt.of' (Ls := [some (vI w)]) (by decide) (by simp [ct]) (Nat.le_of_ble_eq_true rfl) rfl ?_
  refine E_iload_n d_X_selector_0 rfl ?_
  refine E_bipush (v := 12) d_X_selector_1 (by decide) ?_
  refine E_iushr d_X_selector_3 ?_
  refine E_bipush (v := 7) d_X_selector_4 (by decide) ?_
  refine E_iand d_X_selector_6 ?_
  exact E_ireturn d_X_selector_7 (Or.inl rfl) rfl ⟨_, rfl, bf_u w 12 3 (by decide) (by decide), rfl⟩
theorem c_X_variant {G : iG} {h : iH} {w : Int32} : MI G m_X_variant 0 [vI w] (h) (fun x h' => x = nI (bf w 25 7) ∧ h' = h) := by
  refine Mt.of' (Ls := [some (vI w)]) (by decide) (by simp [ct]) (Nat.le_of_ble_eq_true rfl) rfl ?_
  refine E_iload_n d_X_variant_0 rfl ?_
  refine E_bipush (v := 25) d_X_variant_1 (by decide) ?_
  refine E_iushr d_X_variant_3 ?_
  exact E_ireturn d_X_variant_4 (Or.inl rfl) rfl ⟨_, rfl, variant_eq w, rfl⟩
theorem c_X_shortNumber {G : iG} {h : iH} {w : Int32} : MI G m_X_shortNumber 0 [vI w] (h) (fun x h' => x = w >>> (20 &&& 31) ∧ h' = h) := by
  refine Mt.of' (Ls := [some (vI w)]) (by decide) (by simp [ct]) (Nat.le_of_ble_eq_true rfl) rfl ?_
  refine E_iload_n d_X_shortNumber_0 rfl ?_
  refine E_bipush (v := 20) d_X_shortNumber_1 (by decide) ?_
  refine E_ishr d_X_shortNumber_3 ?_
  exact E_ireturn d_X_shortNumber_4 (Or.inl rfl) rfl ⟨_, rfl, rfl, rfl⟩
theorem c_X_putNumber {G : iG} {h : iH} {w : Int32} : MI G m_X_putNumber 0 [vI w] (h) (fun x h' => x = ((w >>> (25 &&& 31)) <<< (5 &&& 31)) ||| nI (bf w 7 5) ∧ h' = h) := by
  refine Mt.of' (Ls := [some (vI w)]) (by decide) (by simp [ct]) (Nat.le_of_ble_eq_true rfl) rfl ?_
  refine E_iload_n d_X_putNumber_0 rfl ?_
  refine E_bipush (v := 25) d_X_putNumber_1 (by decide) ?_
  refine E_ishr d_X_putNumber_3 ?_
  refine E_iconst (v := 5) d_X_putNumber_4 (by decide) ?_
  refine E_ishl d_X_putNumber_5 ?_
  refine E_iload_n d_X_putNumber_6 rfl ?_
  refine E_bipush (v := 7) d_X_putNumber_7 (by decide) ?_
  refine E_iushr d_X_putNumber_9 ?_
  refine E_bipush (v := 31) d_X_putNumber_10 (by decide) ?_
  refine E_iand d_X_putNumber_12 ?_
  refine E_ior d_X_putNumber_13 ?_
  exact E_ireturn d_X_putNumber_14 (Or.inl rfl) rfl ⟨_, rfl, by rw [bf_u w 7 5 (by decide) (by decide)], rfl⟩
theorem c_X_branchNumber {G : iG} {h : iH} {w : Int32} : MI G m_X_branchNumber 0 [vI w] (h) (fun x h' => x = bim w ∧ h' = h) := by
  refine Mt.of' (Ls := [some (vI w), none]) (by decide) (by simp [ct]) (Nat.le_of_ble_eq_true rfl) rfl ?_
  refine E_iload_n d_X_branchNumber_0 rfl ?_
  refine E_bipush (v := 31) d_X_branchNumber_1 (by decide) ?_
  refine E_ishr d_X_branchNumber_3 ?_
  refine E_bipush (v := 12) d_X_branchNumber_4 (by decide) ?_
  refine E_ishl d_X_branchNumber_6 ?_
  refine E_iload_n d_X_branchNumber_7 rfl ?_
  refine E_bipush (v := 7) d_X_branchNumber_8 (by decide) ?_
  refine E_iushr d_X_branchNumber_10 ?_
  refine E_iconst (v := 1) d_X_branchNumber_11 (by decide) ?_
  refine E_iand d_X_branchNumber_12 ?_
  refine E_bipush (v := 11) d_X_branchNumber_13 (by decide) ?_
  refine E_ishl d_X_branchNumber_15 ?_
  refine E_ior d_X_branchNumber_16 ?_
  refine E_istore_n d_X_branchNumber_17 (by decide) ?_
  refine E_iload_n d_X_branchNumber_18 rfl ?_
  refine E_iload_n d_X_branchNumber_19 rfl ?_
  refine E_bipush (v := 25) d_X_branchNumber_20 (by decide) ?_
  refine E_iushr d_X_branchNumber_22 ?_
  refine E_bipush (v := 63) d_X_branchNumber_23 (by decide) ?_
  refine E_iand d_X_branchNumber_25 ?_
  refine E_iconst (v := 5) d_X_branchNumber_26 (by decide) ?_
  refine E_ishl d_X_branchNumber_27 ?_
  refine E_ior d_X_branchNumber_28 ?_
  refine E_iload_n d_X_branchNumber_29 rfl ?_
  refine E_bipush (v := 8) d_X_branchNumber_30 (by decide) ?_
  refine E_iushr d_X_branchNumber_32 ?_
  refine E_bipush (v := 15) d_X_branchNumber_33 (by decide) ?_
  refine E_iand d_X_branchNumber_35 ?_
  refine E_iconst (v := 1) d_X_branchNumber_36 (by decide) ?_
  refine E_ishl d_X_branchNumber_37 ?_
  refine E_ior d_X_branchNumber_38 ?_
  exact E_ireturn d_X_branchNumber_39 (Or.inl rfl) rfl ⟨_, rfl, by rw [bf_u w 7 1 (by decide) (by decide), bf_u w 25 6 (by decide) (by decide), bf_u w 8 4 (by decide) (by decide)]; rfl, rfl⟩
theorem c_X_jumpNumber {G : iG} {h : iH} {w : Int32} : MI G m_X_jumpNumber 0 [vI w] (h) (fun x h' => x = jnC w ∧ h' = h) := by
  refine Mt.of' (Ls := [some (vI w), none]) (by decide) (by simp [ct]) (Nat.le_of_ble_eq_true rfl) rfl ?_
  refine E_iload_n d_X_jumpNumber_0 rfl ?_
  refine E_bipush (v := 31) d_X_jumpNumber_1 (by decide) ?_
  refine E_ishr d_X_jumpNumber_3 ?_
  refine E_bipush (v := 20) d_X_jumpNumber_4 (by decide) ?_
  refine E_ishl d_X_jumpNumber_6 ?_
  refine E_iload_n d_X_jumpNumber_7 rfl ?_
  refine E_ldc (v := 1044480) d_X_jumpNumber_8 (by decide +kernel) ?_
  refine E_iand d_X_jumpNumber_10 ?_
  refine E_ior d_X_jumpNumber_11 ?_
  refine E_istore_n d_X_jumpNumber_12 (by decide) ?_
  refine E_iload_n d_X_jumpNumber_13 rfl ?_
  refine E_iload_n d_X_jumpNumber_14 rfl ?_
  refine E_bipush (v := 20) d_X_jumpNumber_15 (by decide) ?_
  refine E_iushr d_X_jumpNumber_17 ?_
  refine E_iconst (v := 1) d_X_jumpNumber_18 (by decide) ?_
  refine E_iand d_X_jumpNumber_19 ?_
  refine E_bipush (v := 11) d_X_jumpNumber_20 (by decide) ?_
  refine E_ishl d_X_jumpNumber_22 ?_
  refine E_ior d_X_jumpNumber_23 ?_
  refine E_iload_n d_X_jumpNumber_24 rfl ?_
  refine E_bipush (v := 21) d_X_jumpNumber_25 (by decide) ?_
  refine E_iushr d_X_jumpNumber_27 ?_
  refine E_sipush (v := 1023) d_X_jumpNumber_28 (by decide) ?_
  refine E_iand d_X_jumpNumber_31 ?_
  refine E_iconst (v := 1) d_X_jumpNumber_32 (by decide) ?_
  refine E_ishl d_X_jumpNumber_33 ?_
  refine E_ior d_X_jumpNumber_34 ?_
  exact E_ireturn d_X_jumpNumber_35 (Or.inl rfl) rfl ⟨_, rfl, by rw [bf_u w 20 1 (by decide) (by decide), bf_u w 21 10 (by decide) (by decide)]; rfl, rfl⟩
theorem c_X_upperNumber {G : iG} {h : iH} {w : Int32} : MI G m_X_upperNumber 0 [vI w] (h) (fun x h' => x = w &&& -4096 ∧ h' = h) := by
  refine Mt.of' (Ls := [some (vI w)]) (by decide) (by simp [ct]) (Nat.le_of_ble_eq_true rfl) rfl ?_
  refine E_iload_n d_X_upperNumber_0 rfl ?_
  refine E_sipush (v := -4096) d_X_upperNumber_1 (by decide) ?_
  refine E_iand d_X_upperNumber_4 ?_
  exact E_ireturn d_X_upperNumber_5 (Or.inl rfl) rfl ⟨_, rfl, rfl, rfl⟩
theorem c_X_special {G : iG} {h : iH} {w : Int32} : MI G m_X_special 0 [vI w] (h) (fun x h' => x = spC w ∧ h' = h) := by
  refine Mt.of' (Ls := [some (vI w)]) (by decide) (by simp [ct]) (Nat.le_of_ble_eq_true rfl) rfl ?_
  refine E_iload_n d_X_special_0 rfl ?_
  refine E_bipush (v := 115) d_X_special_1 (by decide) ?_
  refine E_icmp_ne (tgt := 9) d_X_special_3 (by decide) (fun c3 => ?_) (fun c3 => ?_)
  · refine E_iload_n d_X_special_9 rfl ?_
    refine E_ldc (v := 1048691) d_X_special_10 (by decide +kernel) ?_
    refine E_icmp_ne (tgt := 19) d_X_special_12 (by decide) (fun c12 => ?_) (fun c12 => ?_)
    · refine E_iconst (v := 2) d_X_special_19 (by decide) ?_
      exact E_ireturn d_X_special_20 (Or.inl rfl) rfl ⟨_, rfl, by rw [spC, if_neg c3, if_neg c12], rfl⟩
    · refine E_iconst (v := 3) d_X_special_15 (by decide) ?_
      refine E_goto (tgt := 20) d_X_special_16 (by decide) ?_
      exact E_ireturn d_X_special_20 (Or.inl rfl) rfl ⟨_, rfl, by rw [spC, if_neg c3, if_pos c12], rfl⟩
  · refine E_bipush (v := -2) d_X_special_6 (by decide) ?_
    exact E_ireturn d_X_special_8 (Or.inl rfl) rfl ⟨_, rfl, by rw [spC, if_pos c3], rfl⟩
theorem c_X_isBelow {G : iG} {h : iH} {a b : Int32} : MI G m_X_isBelow 0 [vI a, vI b] (h) (fun x h' => x = b2i (lss a b false) ∧ h' = h) := by
  refine Mt.of' (Ls := [some (vI a), some (vI b)]) (by decide) (by simp [ct]) (Nat.le_of_ble_eq_true rfl) rfl ?_
  refine E_iload_n d_X_isBelow_0 rfl ?_
  refine E_ldc (v := -2147483648) d_X_isBelow_1 (by decide +kernel) ?_
  refine E_ixor d_X_isBelow_3 ?_
  refine E_iload_n d_X_isBelow_4 rfl ?_
  refine E_ldc (v := -2147483648) d_X_isBelow_5 (by decide +kernel) ?_
  refine E_ixor d_X_isBelow_7 ?_
  refine E_icmp_ge (tgt := 15) d_X_isBelow_8 (by decide) (fun c8 => ?_) (fun c8 => ?_)
  · refine E_iconst (v := 0) d_X_isBelow_15 (by decide) ?_
    exact E_ireturn d_X_isBelow_16 (Or.inr ⟨rfl, (by decide)⟩) rfl ⟨_, rfl, by rw [show lss a b false = false from decide_eq_false (fun q => absurd ((below_iff a b).mpr q) (Int32.not_lt.mpr c8))]; rfl, rfl⟩
  · refine E_iconst (v := 1) d_X_isBelow_11 (by decide) ?_
    refine E_goto (tgt := 16) d_X_isBelow_12 (by decide) ?_
    exact E_ireturn d_X_isBelow_16 (Or.inr ⟨rfl, (by decide)⟩) rfl ⟨_, rfl, by rw [show lss a b false = true from decide_eq_true ((below_iff a b).mp (Int32.not_le.mp c8))]; rfl, rfl⟩
theorem c_X_isCrooked {G : iG} {h : iH} {a : Int32} {k : Nat} : MI G m_X_isCrooked 0 [vI a, vI (nI k)] (h) (fun x h' => x = b2i (crk a k) ∧ h' = h) := by
  refine Mt.of' (Ls := [some (vI a), some (vI (nI k))]) (by decide) (by simp [ct]) (Nat.le_of_ble_eq_true rfl) rfl ?_
  refine E_iload_n d_X_isCrooked_0 rfl ?_
  refine E_iconst (v := 1) d_X_isCrooked_1 (by decide) ?_
  refine E_iload_n d_X_isCrooked_2 rfl ?_
  refine E_ishl d_X_isCrooked_3 ?_
  refine E_iconst (v := 1) d_X_isCrooked_4 (by decide) ?_
  refine E_isub d_X_isCrooked_5 ?_
  refine E_iand d_X_isCrooked_6 ?_
  refine E_if_eq (tgt := 14) d_X_isCrooked_7 (by decide) (fun c7 => ?_) (fun c7 => ?_)
  · refine E_iconst (v := 0) d_X_isCrooked_14 (by decide) ?_
    exact E_ireturn d_X_isCrooked_15 (Or.inr ⟨rfl, (by decide)⟩) rfl ⟨_, rfl, by rw [crk, decide_eq_true c7]; rfl, rfl⟩
  · refine E_iconst (v := 1) d_X_isCrooked_10 (by decide) ?_
    refine E_goto (tgt := 15) d_X_isCrooked_11 (by decide) ?_
    exact E_ireturn d_X_isCrooked_15 (Or.inr ⟨rfl, (by decide)⟩) rfl ⟨_, rfl, by rw [crk, decide_eq_false c7]; rfl, rfl⟩
theorem c_holdsTrue_0 {G : iG} {h : iH} {a b : Int32} : MI G m_X_holdsTrue 1 [vI (nI 0), vI a, vI b] (h) (fun x h' => x = b2i (bcd 0 a b) ∧ h' = h) := by
  refine Mt.of' (Ls := [some (vI (nI 0)), some (vI a), some (vI b)]) (by decide) (by simp [ct]) (Nat.le_of_ble_eq_true rfl) rfl ?_
  refine E_iload_n d_X_holdsTrue_0 rfl ?_
  refine E_tsIn (tgt := 44) (off := 43) d_X_holdsTrue_1 (by decide) (by decide) (by decide) (by decide) ?_
  refine E_iload_n d_X_holdsTrue_44 rfl ?_
  refine E_iload_n d_X_holdsTrue_45 rfl ?_
  refine E_icmp_ne (tgt := 53) d_X_holdsTrue_46 (by decide) (fun c46 => ?_) (fun c46 => ?_)
  · refine E_iconst (v := 0) d_X_holdsTrue_53 (by decide) ?_
    exact E_ireturn d_X_holdsTrue_54 (Or.inr ⟨rfl, (by decide)⟩) rfl ⟨_, rfl, by simp [bcd, c46, b2i], rfl⟩
  · refine E_iconst (v := 1) d_X_holdsTrue_49 (by decide) ?_
    refine E_goto (tgt := 54) d_X_holdsTrue_50 (by decide) ?_
    exact E_ireturn d_X_holdsTrue_54 (Or.inr ⟨rfl, (by decide)⟩) rfl ⟨_, rfl, by simp [bcd, c46, b2i], rfl⟩
theorem c_widen_0 {G : iG} {h : iH} {y : Int32} : MI G m_X_widen 0 [vI (nI 0), vI y] (h) (fun x h' => x = wid 0 y ∧ h' = h) := by
  refine Mt.of' (Ls := [some (vI (nI 0)), some (vI y)]) (by decide) (by simp [ct]) (Nat.le_of_ble_eq_true rfl) rfl ?_
  refine E_iload_n d_X_widen_0 rfl ?_
  refine E_tsIn (tgt := 40) (off := 39) d_X_widen_1 (by decide) (by decide) (by decide) (by decide) ?_
  refine E_iload_n d_X_widen_40 rfl ?_
  refine E_bipush (v := 24) d_X_widen_41 (by decide) ?_
  refine E_ishl d_X_widen_43 ?_
  refine E_bipush (v := 24) d_X_widen_44 (by decide) ?_
  refine E_ishr d_X_widen_46 ?_
  exact E_ireturn d_X_widen_47 (Or.inl rfl) rfl ⟨_, rfl, rfl, rfl⟩
theorem c_compute_0 {G : iG} {h : iH} {a b : Int32} : MI G m_X_compute 1 [vI (nI 0), vI a, vI b] (h) (fun x h' => x = cvC 0 a b ∧ h' = h) := by
  refine Mt.of' (Ls := [some (vI (nI 0)), some (vI a), some (vI b)]) (by decide) (by simp [ct]) (Nat.le_of_ble_eq_true rfl) rfl ?_
  refine E_iload_n d_X_compute_0 rfl ?_
  refine E_tsIn (tgt := 44) (off := 43) d_X_compute_1 (by decide) (by decide) (by decide) (by decide) ?_
  refine E_iload_n d_X_compute_44 rfl ?_
  refine E_iload_n d_X_compute_45 rfl ?_
  refine E_iadd d_X_compute_46 ?_
  exact E_ireturn d_X_compute_47 (Or.inl rfl) rfl ⟨_, rfl, rfl, rfl⟩
theorem c_maskOf_0 {G : iG} {h : iH}  : MI G m_X_maskOf 0 [vI (nI 0)] (h) (fun x h' => x = msk 0 ∧ h' = h) := by
  refine Mt.of' (Ls := [some (vI (nI 0))]) (by decide) (by simp [ct]) (Nat.le_of_ble_eq_true rfl) rfl ?_
  refine E_iload_n d_X_maskOf_0 rfl ?_
  refine E_if_ne (tgt := 8) d_X_maskOf_1 (by decide) (fun c => absurd (by decide) c) (fun _ => ?_)
  refine E_sipush (v := 255) d_X_maskOf_4 (by decide) ?_
  exact E_ireturn d_X_maskOf_7 (Or.inl rfl) rfl ⟨_, rfl, rfl, rfl⟩
theorem c_holdsTrue_1 {G : iG} {h : iH} {a b : Int32} : MI G m_X_holdsTrue 1 [vI (nI 1), vI a, vI b] (h) (fun x h' => x = b2i (bcd 1 a b) ∧ h' = h) := by
  refine Mt.of' (Ls := [some (vI (nI 1)), some (vI a), some (vI b)]) (by decide) (by simp [ct]) (Nat.le_of_ble_eq_true rfl) rfl ?_
  refine E_iload_n d_X_holdsTrue_0 rfl ?_
  refine E_tsIn (tgt := 55) (off := 54) d_X_holdsTrue_1 (by decide) (by decide) (by decide) (by decide) ?_
  refine E_iload_n d_X_holdsTrue_55 rfl ?_
  refine E_iload_n d_X_holdsTrue_56 rfl ?_
  refine E_icmp_eq (tgt := 64) d_X_holdsTrue_57 (by decide) (fun c57 => ?_) (fun c57 => ?_)
  · refine E_iconst (v := 0) d_X_holdsTrue_64 (by decide) ?_
    exact E_ireturn d_X_holdsTrue_65 (Or.inr ⟨rfl, (by decide)⟩) rfl ⟨_, rfl, by simp [bcd, c57, b2i], rfl⟩
  · refine E_iconst (v := 1) d_X_holdsTrue_60 (by decide) ?_
    refine E_goto (tgt := 65) d_X_holdsTrue_61 (by decide) ?_
    exact E_ireturn d_X_holdsTrue_65 (Or.inr ⟨rfl, (by decide)⟩) rfl ⟨_, rfl, by simp [bcd, c57, b2i], rfl⟩
theorem c_widen_1 {G : iG} {h : iH} {y : Int32} : MI G m_X_widen 0 [vI (nI 1), vI y] (h) (fun x h' => x = wid 1 y ∧ h' = h) := by
  refine Mt.of' (Ls := [some (vI (nI 1)), some (vI y)]) (by decide) (by simp [ct]) (Nat.le_of_ble_eq_true rfl) rfl ?_
  refine E_iload_n d_X_widen_0 rfl ?_
  refine E_tsIn (tgt := 48) (off := 47) d_X_widen_1 (by decide) (by decide) (by decide) (by decide) ?_
  refine E_iload_n d_X_widen_48 rfl ?_
  refine E_bipush (v := 16) d_X_widen_49 (by decide) ?_
  refine E_ishl d_X_widen_51 ?_
  refine E_bipush (v := 16) d_X_widen_52 (by decide) ?_
  refine E_ishr d_X_widen_54 ?_
  exact E_ireturn d_X_widen_55 (Or.inl rfl) rfl ⟨_, rfl, rfl, rfl⟩
theorem c_compute_1 {G : iG} {h : iH} {a b : Int32} : MI G m_X_compute 1 [vI (nI 1), vI a, vI b] (h) (fun x h' => x = cvC 1 a b ∧ h' = h) := by
  refine Mt.of' (Ls := [some (vI (nI 1)), some (vI a), some (vI b)]) (by decide) (by simp [ct]) (Nat.le_of_ble_eq_true rfl) rfl ?_
  refine E_iload_n d_X_compute_0 rfl ?_
  refine E_tsIn (tgt := 48) (off := 47) d_X_compute_1 (by decide) (by decide) (by decide) (by decide) ?_
  refine E_iload_n d_X_compute_48 rfl ?_
  refine E_iload_n d_X_compute_49 rfl ?_
  refine E_bipush (v := 31) d_X_compute_50 (by decide) ?_
  refine E_iand d_X_compute_52 ?_
  refine E_ishl d_X_compute_53 ?_
  exact E_ireturn d_X_compute_54 (Or.inl rfl) rfl ⟨_, rfl, rfl, rfl⟩
theorem c_maskOf_1 {G : iG} {h : iH}  : MI G m_X_maskOf 0 [vI (nI 1)] (h) (fun x h' => x = msk 1 ∧ h' = h) := by
  refine Mt.of' (Ls := [some (vI (nI 1))]) (by decide) (by simp [ct]) (Nat.le_of_ble_eq_true rfl) rfl ?_
  refine E_iload_n d_X_maskOf_0 rfl ?_
  refine E_if_ne (tgt := 8) d_X_maskOf_1 (by decide) (fun _ => ?_) (fun c => absurd c (by decide))
  refine E_iload_n d_X_maskOf_8 rfl ?_
  refine E_iconst (v := 1) d_X_maskOf_9 (by decide) ?_
  refine E_icmp_ne (tgt := 18) d_X_maskOf_10 (by decide) (fun c => absurd (by decide) c) (fun _ => ?_)
  refine E_ldc (v := 65535) d_X_maskOf_13 (by decide +kernel) ?_
  refine E_goto (tgt := 19) d_X_maskOf_15 (by decide) ?_
  exact E_ireturn d_X_maskOf_19 (Or.inl rfl) rfl ⟨_, rfl, rfl, rfl⟩
theorem c_holdsTrue_2 {G : iG} {h : iH} {a b : Int32} : MI G m_X_holdsTrue 1 [vI (nI 2), vI a, vI b] (h) (fun x h' => x = b2i (bcd 2 a b) ∧ h' = h) := by
  refine Mt.of' (Ls := [some (vI (nI 2)), some (vI a), some (vI b)]) (by decide) (by simp [ct]) (Nat.le_of_ble_eq_true rfl) rfl ?_
  refine E_iload_n d_X_holdsTrue_0 rfl ?_
  refine E_tsIn (tgt := 94) (off := 93) d_X_holdsTrue_1 (by decide) (by decide) (by decide) (by decide) ?_
  refine E_iload_n d_X_holdsTrue_94 rfl ?_
  refine E_iload_n d_X_holdsTrue_95 rfl ?_
  refine E_S2i d_X_holdsTrue_96 w_X_91 (by decide) (Nat.le_of_ble_eq_true rfl) (c_X_isBelow) ?_
  rintro _ _ ⟨rfl, rfl⟩
  refine E_if_ne (tgt := 106) d_X_holdsTrue_99 (by decide) (fun c99 => ?_) (fun c99 => ?_)
  · refine E_iconst (v := 0) d_X_holdsTrue_106 (by decide) ?_
    exact E_ireturn d_X_holdsTrue_107 (Or.inr ⟨rfl, (by decide)⟩) rfl ⟨_, rfl, by rw [show bcd 2 a b = !lss a b false from rfl, b2i_ne0 c99]; rfl, rfl⟩
  · refine E_iconst (v := 1) d_X_holdsTrue_102 (by decide) ?_
    refine E_goto (tgt := 107) d_X_holdsTrue_103 (by decide) ?_
    exact E_ireturn d_X_holdsTrue_107 (Or.inr ⟨rfl, (by decide)⟩) rfl ⟨_, rfl, by rw [show bcd 2 a b = !lss a b false from rfl, b2i_eq0 c99]; rfl, rfl⟩
theorem c_widen_2 {G : iG} {h : iH} {y : Int32} : MI G m_X_widen 0 [vI (nI 2), vI y] (h) (fun x h' => x = wid 2 y ∧ h' = h) := by
  refine Mt.of' (Ls := [some (vI (nI 2)), some (vI y)]) (by decide) (by simp [ct]) (Nat.le_of_ble_eq_true rfl) rfl ?_
  refine E_iload_n d_X_widen_0 rfl ?_
  refine E_tsIn (tgt := 67) (off := 66) d_X_widen_1 (by decide) (by decide) (by decide) (by decide) ?_
  refine E_iload_n d_X_widen_67 rfl ?_
  exact E_ireturn d_X_widen_68 (Or.inl rfl) rfl ⟨_, rfl, rfl, rfl⟩
theorem c_compute_2 {G : iG} {h : iH} {a b : Int32} : MI G m_X_compute 1 [vI (nI 2), vI a, vI b] (h) (fun x h' => x = cvC 2 a b ∧ h' = h) := by
  refine Mt.of' (Ls := [some (vI (nI 2)), some (vI a), some (vI b)]) (by decide) (by simp [ct]) (Nat.le_of_ble_eq_true rfl) rfl ?_
  refine E_iload_n d_X_compute_0 rfl ?_
  refine E_tsIn (tgt := 55) (off := 54) d_X_compute_1 (by decide) (by decide) (by decide) (by decide) ?_
  refine E_iload_n d_X_compute_55 rfl ?_
  refine E_iload_n d_X_compute_56 rfl ?_
  refine E_icmp_ge (tgt := 64) d_X_compute_57 (by decide) (fun c57 => ?_) (fun c57 => ?_)
  · refine E_iconst (v := 0) d_X_compute_64 (by decide) ?_
    exact E_ireturn d_X_compute_65 (Or.inl rfl) rfl ⟨_, rfl, by rw [show cvC 2 a b = b2i (decide (a < b)) from rfl]; rw [decide_eq_false (Int32.not_lt.mpr c57)]; rfl, rfl⟩
  · refine E_iconst (v := 1) d_X_compute_60 (by decide) ?_
    refine E_goto (tgt := 65) d_X_compute_61 (by decide) ?_
    exact E_ireturn d_X_compute_65 (Or.inl rfl) rfl ⟨_, rfl, by rw [show cvC 2 a b = b2i (decide (a < b)) from rfl]; rw [decide_eq_true (Int32.not_le.mp c57)]; rfl, rfl⟩
theorem c_maskOf_2 {G : iG} {h : iH}  : MI G m_X_maskOf 0 [vI (nI 2)] (h) (fun x h' => x = msk 2 ∧ h' = h) := by
  refine Mt.of' (Ls := [some (vI (nI 2))]) (by decide) (by simp [ct]) (Nat.le_of_ble_eq_true rfl) rfl ?_
  refine E_iload_n d_X_maskOf_0 rfl ?_
  refine E_if_ne (tgt := 8) d_X_maskOf_1 (by decide) (fun _ => ?_) (fun c => absurd c (by decide))
  refine E_iload_n d_X_maskOf_8 rfl ?_
  refine E_iconst (v := 1) d_X_maskOf_9 (by decide) ?_
  refine E_icmp_ne (tgt := 18) d_X_maskOf_10 (by decide) (fun _ => ?_) (fun c => absurd c (by decide))
  refine E_iconst (v := -1) d_X_maskOf_18 (by decide) ?_
  exact E_ireturn d_X_maskOf_19 (Or.inl rfl) rfl ⟨_, rfl, rfl, rfl⟩
theorem c_holdsTrue_3 {G : iG} {h : iH} {a b : Int32} : MI G m_X_holdsTrue 1 [vI (nI 3), vI a, vI b] (h) (fun x h' => x = b2i (bcd 3 a b) ∧ h' = h) := by
  refine Mt.of' (Ls := [some (vI (nI 3)), some (vI a), some (vI b)]) (by decide) (by simp [ct]) (Nat.le_of_ble_eq_true rfl) rfl ?_
  refine E_iload_n d_X_holdsTrue_0 rfl ?_
  refine E_tsIn (tgt := 94) (off := 93) d_X_holdsTrue_1 (by decide) (by decide) (by decide) (by decide) ?_
  refine E_iload_n d_X_holdsTrue_94 rfl ?_
  refine E_iload_n d_X_holdsTrue_95 rfl ?_
  refine E_S2i d_X_holdsTrue_96 w_X_91 (by decide) (Nat.le_of_ble_eq_true rfl) (c_X_isBelow) ?_
  rintro _ _ ⟨rfl, rfl⟩
  refine E_if_ne (tgt := 106) d_X_holdsTrue_99 (by decide) (fun c99 => ?_) (fun c99 => ?_)
  · refine E_iconst (v := 0) d_X_holdsTrue_106 (by decide) ?_
    exact E_ireturn d_X_holdsTrue_107 (Or.inr ⟨rfl, (by decide)⟩) rfl ⟨_, rfl, by rw [show bcd 3 a b = !lss a b false from rfl, b2i_ne0 c99]; rfl, rfl⟩
  · refine E_iconst (v := 1) d_X_holdsTrue_102 (by decide) ?_
    refine E_goto (tgt := 107) d_X_holdsTrue_103 (by decide) ?_
    exact E_ireturn d_X_holdsTrue_107 (Or.inr ⟨rfl, (by decide)⟩) rfl ⟨_, rfl, by rw [show bcd 3 a b = !lss a b false from rfl, b2i_eq0 c99]; rfl, rfl⟩
theorem c_widen_3 {G : iG} {h : iH} {y : Int32} : MI G m_X_widen 0 [vI (nI 3), vI y] (h) (fun x h' => x = wid 3 y ∧ h' = h) := by
  refine Mt.of' (Ls := [some (vI (nI 3)), some (vI y)]) (by decide) (by simp [ct]) (Nat.le_of_ble_eq_true rfl) rfl ?_
  refine E_iload_n d_X_widen_0 rfl ?_
  refine E_tsIn (tgt := 67) (off := 66) d_X_widen_1 (by decide) (by decide) (by decide) (by decide) ?_
  refine E_iload_n d_X_widen_67 rfl ?_
  exact E_ireturn d_X_widen_68 (Or.inl rfl) rfl ⟨_, rfl, rfl, rfl⟩
theorem c_compute_3 {G : iG} {h : iH} {a b : Int32} : MI G m_X_compute 1 [vI (nI 3), vI a, vI b] (h) (fun x h' => x = cvC 3 a b ∧ h' = h) := by
  refine Mt.of' (Ls := [some (vI (nI 3)), some (vI a), some (vI b)]) (by decide) (by simp [ct]) (Nat.le_of_ble_eq_true rfl) rfl ?_
  refine E_iload_n d_X_compute_0 rfl ?_
  refine E_tsIn (tgt := 66) (off := 65) d_X_compute_1 (by decide) (by decide) (by decide) (by decide) ?_
  refine E_iload_n d_X_compute_66 rfl ?_
  refine E_iload_n d_X_compute_67 rfl ?_
  refine E_S2i d_X_compute_68 w_X_91 (by decide) (Nat.le_of_ble_eq_true rfl) (c_X_isBelow) ?_
  rintro _ _ ⟨rfl, rfl⟩
  refine E_if_eq (tgt := 78) d_X_compute_71 (by decide) (fun c71 => ?_) (fun c71 => ?_)
  · refine E_iconst (v := 0) d_X_compute_78 (by decide) ?_
    exact E_ireturn d_X_compute_79 (Or.inl rfl) rfl ⟨_, rfl, by rw [show cvC 3 a b = b2i (lss a b false) from rfl, b2i_eq0 c71]; rfl, rfl⟩
  · refine E_iconst (v := 1) d_X_compute_74 (by decide) ?_
    refine E_goto (tgt := 79) d_X_compute_75 (by decide) ?_
    exact E_ireturn d_X_compute_79 (Or.inl rfl) rfl ⟨_, rfl, by rw [show cvC 3 a b = b2i (lss a b false) from rfl, b2i_ne0 c71]; rfl, rfl⟩
theorem c_maskOf_3 {G : iG} {h : iH}  : MI G m_X_maskOf 0 [vI (nI 3)] (h) (fun x h' => x = msk 3 ∧ h' = h) := by
  refine Mt.of' (Ls := [some (vI (nI 3))]) (by decide) (by simp [ct]) (Nat.le_of_ble_eq_true rfl) rfl ?_
  refine E_iload_n d_X_maskOf_0 rfl ?_
  refine E_if_ne (tgt := 8) d_X_maskOf_1 (by decide) (fun _ => ?_) (fun c => absurd c (by decide))
  refine E_iload_n d_X_maskOf_8 rfl ?_
  refine E_iconst (v := 1) d_X_maskOf_9 (by decide) ?_
  refine E_icmp_ne (tgt := 18) d_X_maskOf_10 (by decide) (fun _ => ?_) (fun c => absurd c (by decide))
  refine E_iconst (v := -1) d_X_maskOf_18 (by decide) ?_
  exact E_ireturn d_X_maskOf_19 (Or.inl rfl) rfl ⟨_, rfl, rfl, rfl⟩
theorem c_holdsTrue_4 {G : iG} {h : iH} {a b : Int32} : MI G m_X_holdsTrue 1 [vI (nI 4), vI a, vI b] (h) (fun x h' => x = b2i (bcd 4 a b) ∧ h' = h) := by
  refine Mt.of' (Ls := [some (vI (nI 4)), some (vI a), some (vI b)]) (by decide) (by simp [ct]) (Nat.le_of_ble_eq_true rfl) rfl ?_
  refine E_iload_n d_X_holdsTrue_0 rfl ?_
  refine E_tsIn (tgt := 66) (off := 65) d_X_holdsTrue_1 (by decide) (by decide) (by decide) (by decide) ?_
  refine E_iload_n d_X_holdsTrue_66 rfl ?_
  refine E_iload_n d_X_holdsTrue_67 rfl ?_
  refine E_icmp_ge (tgt := 75) d_X_holdsTrue_68 (by decide) (fun c68 => ?_) (fun c68 => ?_)
  · refine E_iconst (v := 0) d_X_holdsTrue_75 (by decide) ?_
    exact E_ireturn d_X_holdsTrue_76 (Or.inr ⟨rfl, (by decide)⟩) rfl ⟨_, rfl, by rw [show bcd 4 a b = decide (a < b) from rfl]; rw [decide_eq_false (Int32.not_lt.mpr c68)]; rfl, rfl⟩
  · refine E_iconst (v := 1) d_X_holdsTrue_71 (by decide) ?_
    refine E_goto (tgt := 76) d_X_holdsTrue_72 (by decide) ?_
    exact E_ireturn d_X_holdsTrue_76 (Or.inr ⟨rfl, (by decide)⟩) rfl ⟨_, rfl, by rw [show bcd 4 a b = decide (a < b) from rfl]; rw [decide_eq_true (Int32.not_le.mp c68)]; rfl, rfl⟩
theorem c_widen_4 {G : iG} {h : iH} {y : Int32} : MI G m_X_widen 0 [vI (nI 4), vI y] (h) (fun x h' => x = wid 4 y ∧ h' = h) := by
  refine Mt.of' (Ls := [some (vI (nI 4)), some (vI y)]) (by decide) (by simp [ct]) (Nat.le_of_ble_eq_true rfl) rfl ?_
  refine E_iload_n d_X_widen_0 rfl ?_
  refine E_tsIn (tgt := 56) (off := 55) d_X_widen_1 (by decide) (by decide) (by decide) (by decide) ?_
  refine E_iload_n d_X_widen_56 rfl ?_
  refine E_sipush (v := 255) d_X_widen_57 (by decide) ?_
  refine E_iand d_X_widen_60 ?_
  exact E_ireturn d_X_widen_61 (Or.inl rfl) rfl ⟨_, rfl, rfl, rfl⟩
theorem c_compute_4 {G : iG} {h : iH} {a b : Int32} : MI G m_X_compute 1 [vI (nI 4), vI a, vI b] (h) (fun x h' => x = cvC 4 a b ∧ h' = h) := by
  refine Mt.of' (Ls := [some (vI (nI 4)), some (vI a), some (vI b)]) (by decide) (by simp [ct]) (Nat.le_of_ble_eq_true rfl) rfl ?_
  refine E_iload_n d_X_compute_0 rfl ?_
  refine E_tsIn (tgt := 80) (off := 79) d_X_compute_1 (by decide) (by decide) (by decide) (by decide) ?_
  refine E_iload_n d_X_compute_80 rfl ?_
  refine E_iload_n d_X_compute_81 rfl ?_
  refine E_ixor d_X_compute_82 ?_
  exact E_ireturn d_X_compute_83 (Or.inl rfl) rfl ⟨_, rfl, rfl, rfl⟩
theorem c_maskOf_4 {G : iG} {h : iH}  : MI G m_X_maskOf 0 [vI (nI 4)] (h) (fun x h' => x = msk 4 ∧ h' = h) := by
  refine Mt.of' (Ls := [some (vI (nI 4))]) (by decide) (by simp [ct]) (Nat.le_of_ble_eq_true rfl) rfl ?_
  refine E_iload_n d_X_maskOf_0 rfl ?_
  refine E_if_ne (tgt := 8) d_X_maskOf_1 (by decide) (fun _ => ?_) (fun c => absurd c (by decide))
  refine E_iload_n d_X_maskOf_8 rfl ?_
  refine E_iconst (v := 1) d_X_maskOf_9 (by decide) ?_
  refine E_icmp_ne (tgt := 18) d_X_maskOf_10 (by decide) (fun _ => ?_) (fun c => absurd c (by decide))
  refine E_iconst (v := -1) d_X_maskOf_18 (by decide) ?_
  exact E_ireturn d_X_maskOf_19 (Or.inl rfl) rfl ⟨_, rfl, rfl, rfl⟩
theorem c_holdsTrue_5 {G : iG} {h : iH} {a b : Int32} : MI G m_X_holdsTrue 1 [vI (nI 5), vI a, vI b] (h) (fun x h' => x = b2i (bcd 5 a b) ∧ h' = h) := by
  refine Mt.of' (Ls := [some (vI (nI 5)), some (vI a), some (vI b)]) (by decide) (by simp [ct]) (Nat.le_of_ble_eq_true rfl) rfl ?_
  refine E_iload_n d_X_holdsTrue_0 rfl ?_
  refine E_tsIn (tgt := 77) (off := 76) d_X_holdsTrue_1 (by decide) (by decide) (by decide) (by decide) ?_
  refine E_iload_n d_X_holdsTrue_77 rfl ?_
  refine E_iload_n d_X_holdsTrue_78 rfl ?_
  refine E_icmp_lt (tgt := 86) d_X_holdsTrue_79 (by decide) (fun c79 => ?_) (fun c79 => ?_)
  · refine E_iconst (v := 0) d_X_holdsTrue_86 (by decide) ?_
    exact E_ireturn d_X_holdsTrue_87 (Or.inr ⟨rfl, (by decide)⟩) rfl ⟨_, rfl, by rw [show bcd 5 a b = !decide (a < b) from rfl]; rw [decide_eq_true c79]; rfl, rfl⟩
  · refine E_iconst (v := 1) d_X_holdsTrue_82 (by decide) ?_
    refine E_goto (tgt := 87) d_X_holdsTrue_83 (by decide) ?_
    exact E_ireturn d_X_holdsTrue_87 (Or.inr ⟨rfl, (by decide)⟩) rfl ⟨_, rfl, by rw [show bcd 5 a b = !decide (a < b) from rfl]; rw [decide_eq_false c79]; rfl, rfl⟩
theorem c_widen_5 {G : iG} {h : iH} {y : Int32} : MI G m_X_widen 0 [vI (nI 5), vI y] (h) (fun x h' => x = wid 5 y ∧ h' = h) := by
  refine Mt.of' (Ls := [some (vI (nI 5)), some (vI y)]) (by decide) (by simp [ct]) (Nat.le_of_ble_eq_true rfl) rfl ?_
  refine E_iload_n d_X_widen_0 rfl ?_
  refine E_tsIn (tgt := 62) (off := 61) d_X_widen_1 (by decide) (by decide) (by decide) (by decide) ?_
  refine E_iload_n d_X_widen_62 rfl ?_
  refine E_ldc (v := 65535) d_X_widen_63 (by decide +kernel) ?_
  refine E_iand d_X_widen_65 ?_
  exact E_ireturn d_X_widen_66 (Or.inl rfl) rfl ⟨_, rfl, rfl, rfl⟩
theorem c_compute_5 {G : iG} {h : iH} {a b : Int32} : MI G m_X_compute 1 [vI (nI 5), vI a, vI b] (h) (fun x h' => x = cvC 5 a b ∧ h' = h) := by
  refine Mt.of' (Ls := [some (vI (nI 5)), some (vI a), some (vI b)]) (by decide) (by simp [ct]) (Nat.le_of_ble_eq_true rfl) rfl ?_
  refine E_iload_n d_X_compute_0 rfl ?_
  refine E_tsIn (tgt := 84) (off := 83) d_X_compute_1 (by decide) (by decide) (by decide) (by decide) ?_
  refine E_iload_n d_X_compute_84 rfl ?_
  refine E_iload_n d_X_compute_85 rfl ?_
  refine E_bipush (v := 31) d_X_compute_86 (by decide) ?_
  refine E_iand d_X_compute_88 ?_
  refine E_iushr d_X_compute_89 ?_
  exact E_ireturn d_X_compute_90 (Or.inl rfl) rfl ⟨_, rfl, rfl, rfl⟩
theorem c_maskOf_5 {G : iG} {h : iH}  : MI G m_X_maskOf 0 [vI (nI 5)] (h) (fun x h' => x = msk 5 ∧ h' = h) := by
  refine Mt.of' (Ls := [some (vI (nI 5))]) (by decide) (by simp [ct]) (Nat.le_of_ble_eq_true rfl) rfl ?_
  refine E_iload_n d_X_maskOf_0 rfl ?_
  refine E_if_ne (tgt := 8) d_X_maskOf_1 (by decide) (fun _ => ?_) (fun c => absurd c (by decide))
  refine E_iload_n d_X_maskOf_8 rfl ?_
  refine E_iconst (v := 1) d_X_maskOf_9 (by decide) ?_
  refine E_icmp_ne (tgt := 18) d_X_maskOf_10 (by decide) (fun _ => ?_) (fun c => absurd c (by decide))
  refine E_iconst (v := -1) d_X_maskOf_18 (by decide) ?_
  exact E_ireturn d_X_maskOf_19 (Or.inl rfl) rfl ⟨_, rfl, rfl, rfl⟩
theorem c_holdsTrue_6 {G : iG} {h : iH} {a b : Int32} : MI G m_X_holdsTrue 1 [vI (nI 6), vI a, vI b] (h) (fun x h' => x = b2i (bcd 6 a b) ∧ h' = h) := by
  refine Mt.of' (Ls := [some (vI (nI 6)), some (vI a), some (vI b)]) (by decide) (by simp [ct]) (Nat.le_of_ble_eq_true rfl) rfl ?_
  refine E_iload_n d_X_holdsTrue_0 rfl ?_
  refine E_tsIn (tgt := 88) (off := 87) d_X_holdsTrue_1 (by decide) (by decide) (by decide) (by decide) ?_
  refine E_iload_n d_X_holdsTrue_88 rfl ?_
  refine E_iload_n d_X_holdsTrue_89 rfl ?_
  refine E_S2i d_X_holdsTrue_90 w_X_91 (by decide) (Nat.le_of_ble_eq_true rfl) (c_X_isBelow) ?_
  rintro _ _ ⟨rfl, rfl⟩
  exact E_ireturn d_X_holdsTrue_93 (Or.inr ⟨rfl, (b2i_01 _)⟩) rfl ⟨_, rfl, rfl, rfl⟩
theorem c_widen_6 {G : iG} {h : iH} {y : Int32} : MI G m_X_widen 0 [vI (nI 6), vI y] (h) (fun x h' => x = wid 6 y ∧ h' = h) := by
  refine Mt.of' (Ls := [some (vI (nI 6)), some (vI y)]) (by decide) (by simp [ct]) (Nat.le_of_ble_eq_true rfl) rfl ?_
  refine E_iload_n d_X_widen_0 rfl ?_
  refine E_tsOut (tgt := 67) d_X_widen_1 (by decide) (by decide) ?_
  refine E_iload_n d_X_widen_67 rfl ?_
  exact E_ireturn d_X_widen_68 (Or.inl rfl) rfl ⟨_, rfl, rfl, rfl⟩
theorem c_compute_6 {G : iG} {h : iH} {a b : Int32} : MI G m_X_compute 1 [vI (nI 6), vI a, vI b] (h) (fun x h' => x = cvC 6 a b ∧ h' = h) := by
  refine Mt.of' (Ls := [some (vI (nI 6)), some (vI a), some (vI b)]) (by decide) (by simp [ct]) (Nat.le_of_ble_eq_true rfl) rfl ?_
  refine E_iload_n d_X_compute_0 rfl ?_
  refine E_tsIn (tgt := 91) (off := 90) d_X_compute_1 (by decide) (by decide) (by decide) (by decide) ?_
  refine E_iload_n d_X_compute_91 rfl ?_
  refine E_iload_n d_X_compute_92 rfl ?_
  refine E_ior d_X_compute_93 ?_
  exact E_ireturn d_X_compute_94 (Or.inl rfl) rfl ⟨_, rfl, rfl, rfl⟩
theorem c_maskOf_6 {G : iG} {h : iH}  : MI G m_X_maskOf 0 [vI (nI 6)] (h) (fun x h' => x = msk 6 ∧ h' = h) := by
  refine Mt.of' (Ls := [some (vI (nI 6))]) (by decide) (by simp [ct]) (Nat.le_of_ble_eq_true rfl) rfl ?_
  refine E_iload_n d_X_maskOf_0 rfl ?_
  refine E_if_ne (tgt := 8) d_X_maskOf_1 (by decide) (fun _ => ?_) (fun c => absurd c (by decide))
  refine E_iload_n d_X_maskOf_8 rfl ?_
  refine E_iconst (v := 1) d_X_maskOf_9 (by decide) ?_
  refine E_icmp_ne (tgt := 18) d_X_maskOf_10 (by decide) (fun _ => ?_) (fun c => absurd c (by decide))
  refine E_iconst (v := -1) d_X_maskOf_18 (by decide) ?_
  exact E_ireturn d_X_maskOf_19 (Or.inl rfl) rfl ⟨_, rfl, rfl, rfl⟩
theorem c_holdsTrue_7 {G : iG} {h : iH} {a b : Int32} : MI G m_X_holdsTrue 1 [vI (nI 7), vI a, vI b] (h) (fun x h' => x = b2i (bcd 7 a b) ∧ h' = h) := by
  refine Mt.of' (Ls := [some (vI (nI 7)), some (vI a), some (vI b)]) (by decide) (by simp [ct]) (Nat.le_of_ble_eq_true rfl) rfl ?_
  refine E_iload_n d_X_holdsTrue_0 rfl ?_
  refine E_tsOut (tgt := 94) d_X_holdsTrue_1 (by decide) (by decide) ?_
  refine E_iload_n d_X_holdsTrue_94 rfl ?_
  refine E_iload_n d_X_holdsTrue_95 rfl ?_
  refine E_S2i d_X_holdsTrue_96 w_X_91 (by decide) (Nat.le_of_ble_eq_true rfl) (c_X_isBelow) ?_
  rintro _ _ ⟨rfl, rfl⟩
  refine E_if_ne (tgt := 106) d_X_holdsTrue_99 (by decide) (fun c99 => ?_) (fun c99 => ?_)
  · refine E_iconst (v := 0) d_X_holdsTrue_106 (by decide) ?_
    exact E_ireturn d_X_holdsTrue_107 (Or.inr ⟨rfl, (by decide)⟩) rfl ⟨_, rfl, by rw [show bcd 7 a b = !lss a b false from rfl, b2i_ne0 c99]; rfl, rfl⟩
  · refine E_iconst (v := 1) d_X_holdsTrue_102 (by decide) ?_
    refine E_goto (tgt := 107) d_X_holdsTrue_103 (by decide) ?_
    exact E_ireturn d_X_holdsTrue_107 (Or.inr ⟨rfl, (by decide)⟩) rfl ⟨_, rfl, by rw [show bcd 7 a b = !lss a b false from rfl, b2i_eq0 c99]; rfl, rfl⟩
theorem c_widen_7 {G : iG} {h : iH} {y : Int32} : MI G m_X_widen 0 [vI (nI 7), vI y] (h) (fun x h' => x = wid 7 y ∧ h' = h) := by
  refine Mt.of' (Ls := [some (vI (nI 7)), some (vI y)]) (by decide) (by simp [ct]) (Nat.le_of_ble_eq_true rfl) rfl ?_
  refine E_iload_n d_X_widen_0 rfl ?_
  refine E_tsOut (tgt := 67) d_X_widen_1 (by decide) (by decide) ?_
  refine E_iload_n d_X_widen_67 rfl ?_
  exact E_ireturn d_X_widen_68 (Or.inl rfl) rfl ⟨_, rfl, rfl, rfl⟩
theorem c_compute_7 {G : iG} {h : iH} {a b : Int32} : MI G m_X_compute 1 [vI (nI 7), vI a, vI b] (h) (fun x h' => x = cvC 7 a b ∧ h' = h) := by
  refine Mt.of' (Ls := [some (vI (nI 7)), some (vI a), some (vI b)]) (by decide) (by simp [ct]) (Nat.le_of_ble_eq_true rfl) rfl ?_
  refine E_iload_n d_X_compute_0 rfl ?_
  refine E_tsOut (tgt := 95) d_X_compute_1 (by decide) (by decide) ?_
  refine E_iload_n d_X_compute_95 rfl ?_
  refine E_iload_n d_X_compute_96 rfl ?_
  refine E_iand d_X_compute_97 ?_
  exact E_ireturn d_X_compute_98 (Or.inl rfl) rfl ⟨_, rfl, rfl, rfl⟩
theorem c_maskOf_7 {G : iG} {h : iH}  : MI G m_X_maskOf 0 [vI (nI 7)] (h) (fun x h' => x = msk 7 ∧ h' = h) := by
  refine Mt.of' (Ls := [some (vI (nI 7))]) (by decide) (by simp [ct]) (Nat.le_of_ble_eq_true rfl) rfl ?_
  refine E_iload_n d_X_maskOf_0 rfl ?_
  refine E_if_ne (tgt := 8) d_X_maskOf_1 (by decide) (fun _ => ?_) (fun c => absurd c (by decide))
  refine E_iload_n d_X_maskOf_8 rfl ?_
  refine E_iconst (v := 1) d_X_maskOf_9 (by decide) ?_
  refine E_icmp_ne (tgt := 18) d_X_maskOf_10 (by decide) (fun _ => ?_) (fun c => absurd c (by decide))
  refine E_iconst (v := -1) d_X_maskOf_18 (by decide) ?_
  exact E_ireturn d_X_maskOf_19 (Or.inl rfl) rfl ⟨_, rfl, rfl, rfl⟩
theorem c_holdsTrue {G : iG} {h : iH} {f : Nat} (hf : f < 8) {a b : Int32} : MI G m_X_holdsTrue 1 [vI (nI f), vI a, vI b] h (fun x h' => x = b2i (bcd f a b) ∧ h' = h) := by
  rcases (show f = 0 ∨ f = 1 ∨ f = 2 ∨ f = 3 ∨ f = 4 ∨ f = 5 ∨ f = 6 ∨ f = 7 by omega) with rfl | rfl | rfl | rfl | rfl | rfl | rfl | rfl
  · exact c_holdsTrue_0
  · exact c_holdsTrue_1
  · exact c_holdsTrue_2
  · exact c_holdsTrue_3
  · exact c_holdsTrue_4
  · exact c_holdsTrue_5
  · exact c_holdsTrue_6
  · exact c_holdsTrue_7
theorem c_widen {G : iG} {h : iH} {f : Nat} (hf : f < 8) {y : Int32} : MI G m_X_widen 0 [vI (nI f), vI y] h (fun x h' => x = wid f y ∧ h' = h) := by
  rcases (show f = 0 ∨ f = 1 ∨ f = 2 ∨ f = 3 ∨ f = 4 ∨ f = 5 ∨ f = 6 ∨ f = 7 by omega) with rfl | rfl | rfl | rfl | rfl | rfl | rfl | rfl
  · exact c_widen_0
  · exact c_widen_1
  · exact c_widen_2
  · exact c_widen_3
  · exact c_widen_4
  · exact c_widen_5
  · exact c_widen_6
  · exact c_widen_7
theorem c_compute {G : iG} {h : iH} {f : Nat} (hf : f < 8) {a b : Int32} : MI G m_X_compute 1 [vI (nI f), vI a, vI b] h (fun x h' => x = cvC f a b ∧ h' = h) := by
  rcases (show f = 0 ∨ f = 1 ∨ f = 2 ∨ f = 3 ∨ f = 4 ∨ f = 5 ∨ f = 6 ∨ f = 7 by omega) with rfl | rfl | rfl | rfl | rfl | rfl | rfl | rfl
  · exact c_compute_0
  · exact c_compute_1
  · exact c_compute_2
  · exact c_compute_3
  · exact c_compute_4
  · exact c_compute_5
  · exact c_compute_6
  · exact c_compute_7
theorem c_X_first {G : iG} {F : Nat} {C M : Nat → Nat → Int32} {i : Nat} (hi : i < 8) {w : Int32} : MI G m_X_first 1 [vR (tk i), vI w] (HW F C M) (fun x h' => x = r1 C i w ∧ h' = HW F C M) := by
  refine Mt.of' (Ls := [some (vR (tk i)), some (vI w)]) (by decide) (by simp [ct]) (Nat.le_of_ble_eq_true rfl) rfl ?_
  refine E_aload_n d_X_first_0 rfl rfl ?_
  refine E_iload_n d_X_first_1 rfl ?_
  refine E_bipush (v := 15) d_X_first_2 (by decide) ?_
  refine E_iushr d_X_first_4 ?_
  refine E_bipush (v := 31) d_X_first_5 (by decide) ?_
  refine E_iand d_X_first_7 ?_
  refine E_tp (y := nI (bf w 15 5)) (bf_u w 15 5 (by decide) (by decide)) ?_
  refine E_V1i d_X_first_8 w_X_117 (SH_T0 hi) (by decide) (Nat.le_of_ble_eq_true rfl) (c_T_getRegister hi) ?_
  rintro _ _ ⟨rfl, rfl⟩
  exact E_ireturn d_X_first_11 (Or.inl rfl) rfl ⟨_, rfl, gR_nI C i (bf_lt w 15 5), rfl⟩
theorem c_X_second {G : iG} {F : Nat} {C M : Nat → Nat → Int32} {i : Nat} (hi : i < 8) {w : Int32} : MI G m_X_second 1 [vR (tk i), vI w] (HW F C M) (fun x h' => x = r2 C i w ∧ h' = HW F C M) := by
  refine Mt.of' (Ls := [some (vR (tk i)), some (vI w)]) (by decide) (by simp [ct]) (Nat.le_of_ble_eq_true rfl) rfl ?_
  refine E_aload_n d_X_second_0 rfl rfl ?_
  refine E_iload_n d_X_second_1 rfl ?_
  refine E_bipush (v := 20) d_X_second_2 (by decide) ?_
  refine E_iushr d_X_second_4 ?_
  refine E_bipush (v := 31) d_X_second_5 (by decide) ?_
  refine E_iand d_X_second_7 ?_
  refine E_tp (y := nI (bf w 20 5)) (bf_u w 20 5 (by decide) (by decide)) ?_
  refine E_V1i d_X_second_8 w_X_117 (SH_T0 hi) (by decide) (Nat.le_of_ble_eq_true rfl) (c_T_getRegister hi) ?_
  rintro _ _ ⟨rfl, rfl⟩
  exact E_ireturn d_X_second_11 (Or.inl rfl) rfl ⟨_, rfl, gR_nI C i (bf_lt w 20 5), rfl⟩
theorem c_X_go {G : iG} {F : Nat} {C M : Nat → Nat → Int32} {i : Nat} (hi : i < 8) : MI G m_X_go 0 [vR (tk i)] (HW F C M) (fun x h' => x = -1 ∧ h' = HW F (goC C i) M) := by
  refine Mt.of' (Ls := [some (vR (tk i))]) (by decide) (by simp [ct]) (Nat.le_of_ble_eq_true rfl) rfl ?_
  refine E_aload_n d_X_go_0 rfl rfl ?_
  refine E_dup d_X_go_1 rfl ?_
  refine L_gi d_X_go_2 f_X_9 (SH_T0 hi) (by decide) rfl (fr_T6 hi) ?_
  refine E_iconst (v := 4) d_X_go_5 (by decide) ?_
  refine E_iadd d_X_go_6 ?_
  refine L_pi d_X_go_7 f_X_9 (SH_T0 hi) (by decide) (Or.inl rfl) rfl (fu_T6 _ hi) ?_
  refine E_iconst (v := -1) d_X_go_10 (by decide) ?_
  exact E_ireturn d_X_go_11 (Or.inl rfl) rfl ⟨_, rfl, rfl, rfl⟩
theorem c_X_setAndGo {G : iG} {F : Nat} {C M : Nat → Nat → Int32} {i : Nat} (hi : i < 8) {w v : Int32} : MI G m_X_setAndGo 1 [vR (tk i), vI w, vI v] (HW F C M) (fun x h' => x = -1 ∧ h' = HW F (sgC C i w v) M) := by
  refine Mt.of' (Ls := [some (vR (tk i)), some (vI w), some (vI v)]) (by decide) (by simp [ct]) (Nat.le_of_ble_eq_true rfl) rfl ?_
  refine E_aload_n d_X_setAndGo_0 rfl rfl ?_
  refine E_iload_n d_X_setAndGo_1 rfl ?_
  refine E_bipush (v := 7) d_X_setAndGo_2 (by decide) ?_
  refine E_iushr d_X_setAndGo_4 ?_
  refine E_bipush (v := 31) d_X_setAndGo_5 (by decide) ?_
  refine E_iand d_X_setAndGo_7 ?_
  refine E_tp (y := nI (bf w 7 5)) (bf_u w 7 5 (by decide) (by decide)) ?_
  refine E_iload_n d_X_setAndGo_8 rfl ?_
  refine E_V2v d_X_setAndGo_9 w_X_71 (SH_T0 hi) (by decide) (Nat.le_of_ble_eq_true rfl) (c_T_setRegister hi (bf_lt w 7 5)) ?_
  rintro _ rfl
  refine E_aload_n d_X_setAndGo_12 rfl rfl ?_
  refine E_S1i d_X_setAndGo_13 w_X_63 (by decide) (Nat.le_of_ble_eq_true rfl) (c_X_go hi) ?_
  rintro _ _ ⟨rfl, rfl⟩
  exact E_ireturn d_X_setAndGo_16 (Or.inl rfl) rfl ⟨_, rfl, rfl, rfl⟩
theorem c_X_jump {G : iG} {F : Nat} {C M : Nat → Nat → Int32} {i : Nat} (hi : i < 8) {w to : Int32} : MI G m_X_jump 1 [vR (tk i), vI w, vI to] (HW F C M) (fun x h' => x = (jpC C i w to).1 ∧ h' = HW F (jpC C i w to).2 M) := by
  refine Mt.of' (Ls := [some (vR (tk i)), some (vI w), some (vI to)]) (by decide) (by simp [ct]) (Nat.le_of_ble_eq_true rfl) rfl ?_
  refine E_iload_n d_X_jump_0 rfl ?_
  refine E_iconst (v := 3) d_X_jump_1 (by decide) ?_
  refine E_iand d_X_jump_2 ?_
  refine E_if_eq (tgt := 8) d_X_jump_3 (by decide) (fun c3 => ?_) (fun c3 => ?_)
  · refine E_aload_n d_X_jump_8 rfl rfl ?_
    refine E_iload_n d_X_jump_9 rfl ?_
    refine E_bipush (v := 7) d_X_jump_10 (by decide) ?_
    refine E_iushr d_X_jump_12 ?_
    refine E_bipush (v := 31) d_X_jump_13 (by decide) ?_
    refine E_iand d_X_jump_15 ?_
    refine E_tp (y := nI (bf w 7 5)) (bf_u w 7 5 (by decide) (by decide)) ?_
    refine E_aload_n d_X_jump_16 rfl rfl ?_
    refine L_gi d_X_jump_17 f_X_9 (SH_T0 hi) (by decide) rfl (fr_T6 hi) ?_
    refine E_iconst (v := 4) d_X_jump_20 (by decide) ?_
    refine E_iadd d_X_jump_21 ?_
    refine E_V2v d_X_jump_22 w_X_71 (SH_T0 hi) (by decide) (Nat.le_of_ble_eq_true rfl) (c_T_setRegister hi (bf_lt w 7 5)) ?_
    rintro _ rfl
    refine E_aload_n d_X_jump_25 rfl rfl ?_
    refine E_iload_n d_X_jump_26 rfl ?_
    refine L_pi d_X_jump_27 f_X_9 (SH_T0 hi) (by decide) (Or.inl rfl) rfl (fu_T6 _ hi) ?_
    refine E_iconst (v := -1) d_X_jump_30 (by decide) ?_
    exact E_ireturn d_X_jump_31 (Or.inl rfl) rfl ⟨_, rfl, by rw [jpC, if_pos c3], by rw [jpC, if_pos c3]⟩
  · refine E_iconst (v := 0) d_X_jump_6 (by decide) ?_
    exact E_ireturn d_X_jump_7 (Or.inl rfl) rfl ⟨_, rfl, by rw [jpC, if_neg c3], by rw [jpC, if_neg c3]⟩
theorem c_X_jumpByRegister {G : iG} {F : Nat} {C M : Nat → Nat → Int32} {i : Nat} (hi : i < 8) {w : Int32} : MI G m_X_jumpByRegister 2 [vR (tk i), vI w] (HW F C M) (fun x h' => x = (jrC C i w).1 ∧ h' = HW F (jrC C i w).2 M) := by
  refine Mt.of' (Ls := [some (vR (tk i)), some (vI w)]) (by decide) (by simp [ct]) (Nat.le_of_ble_eq_true rfl) rfl ?_
  have hf := bf_lt w 12 3
  refine E_iload_n d_X_jumpByRegister_0 rfl ?_
  refine E_S1i d_X_jumpByRegister_1 w_X_60 (by decide) (Nat.le_of_ble_eq_true rfl) (c_X_selector) ?_
  rintro _ _ ⟨rfl, rfl⟩
  refine E_if_eq (tgt := 9) d_X_jumpByRegister_4 (by decide) (fun c4 => ?_) (fun c4 => ?_)
  · have c : bf w 12 3 = 0 := (nI_eq (b := 0) (by omega) (by decide)).mp c4
    refine E_aload_n d_X_jumpByRegister_9 rfl rfl ?_
    refine E_iload_n d_X_jumpByRegister_10 rfl ?_
    refine E_aload_n d_X_jumpByRegister_11 rfl rfl ?_
    refine E_iload_n d_X_jumpByRegister_12 rfl ?_
    refine E_S2i d_X_jumpByRegister_13 w_X_75 (by decide) (Nat.le_of_ble_eq_true rfl) (c_X_first hi) ?_
    rintro _ _ ⟨rfl, rfl⟩
    refine E_iload_n d_X_jumpByRegister_16 rfl ?_
    refine E_S1i d_X_jumpByRegister_17 w_X_78 (by decide) (Nat.le_of_ble_eq_true rfl) (c_X_shortNumber) ?_
    rintro _ _ ⟨rfl, rfl⟩
    refine E_iadd d_X_jumpByRegister_20 ?_
    refine E_bipush (v := -2) d_X_jumpByRegister_21 (by decide) ?_
    refine E_iand d_X_jumpByRegister_23 ?_
    refine E_S3i d_X_jumpByRegister_24 w_X_38 (by decide) (Nat.le_of_ble_eq_true rfl) (c_X_jump hi) ?_
    rintro _ _ ⟨rfl, rfl⟩
    exact E_ireturn d_X_jumpByRegister_27 (Or.inl rfl) rfl ⟨_, rfl, by rw [jrC, if_pos c], by rw [jrC, if_pos c]⟩
  · have c : ¬ bf w 12 3 = 0 := fun q => c4 (by rw [q]; rfl)
    refine E_iconst (v := 2) d_X_jumpByRegister_7 (by decide) ?_
    exact E_ireturn d_X_jumpByRegister_8 (Or.inl rfl) rfl ⟨_, rfl, by rw [jrC, if_neg c], by rw [jrC, if_neg c]⟩
theorem c_X_branch {G : iG} {F : Nat} {C M : Nat → Nat → Int32} {i : Nat} (hi : i < 8) {w : Int32} : MI G m_X_branch 2 [vR (tk i), vI w] (HW F C M) (fun x h' => x = (bnC C i w).1 ∧ h' = HW F (bnC C i w).2 M) := by
  refine Mt.of' (Ls := [some (vR (tk i)), some (vI w), none, none]) (by decide) (by simp [ct]) (Nat.le_of_ble_eq_true rfl) rfl ?_
  have hf := bf_lt w 12 3
  refine E_iload_n d_X_branch_0 rfl ?_
  refine E_S1i d_X_branch_1 w_X_60 (by decide) (Nat.le_of_ble_eq_true rfl) (c_X_selector) ?_
  rintro _ _ ⟨rfl, rfl⟩
  refine E_istore_n d_X_branch_4 (by decide) ?_
  refine E_iload_n d_X_branch_5 rfl ?_
  refine E_iconst (v := 2) d_X_branch_6 (by decide) ?_
  refine E_icmp_eq (tgt := 15) d_X_branch_7 (by decide) (fun c7 => ?_) (fun c7 => ?_)
  · have c : bf w 12 3 = 2 ∨ bf w 12 3 = 3 := Or.inl ((nI_eq (b := 2) (by omega) (by decide)).mp c7)
    refine E_iconst (v := 2) d_X_branch_15 (by decide) ?_
    exact E_ireturn d_X_branch_16 (Or.inl rfl) rfl ⟨_, rfl, by rw [bnC, if_pos c], by rw [bnC, if_pos c]⟩
  · refine E_iload_n d_X_branch_10 rfl ?_
    refine E_iconst (v := 3) d_X_branch_11 (by decide) ?_
    refine E_icmp_ne (tgt := 17) d_X_branch_12 (by decide) (fun c12 => ?_) (fun c12 => ?_)
    · have c : ¬ (bf w 12 3 = 2 ∨ bf w 12 3 = 3) := fun q => by rcases q with q | q; exact c7 (by rw [q]; rfl); exact c12 (by rw [q]; rfl)
      refine E_iload_n d_X_branch_17 rfl ?_
      refine E_aload_n d_X_branch_18 rfl rfl ?_
      refine E_iload_n d_X_branch_19 rfl ?_
      refine E_S2i d_X_branch_20 w_X_75 (by decide) (Nat.le_of_ble_eq_true rfl) (c_X_first hi) ?_
      rintro _ _ ⟨rfl, rfl⟩
      refine E_aload_n d_X_branch_23 rfl rfl ?_
      refine E_iload_n d_X_branch_24 rfl ?_
      refine E_S2i d_X_branch_25 w_X_81 (by decide) (Nat.le_of_ble_eq_true rfl) (c_X_second hi) ?_
      rintro _ _ ⟨rfl, rfl⟩
      refine E_S3i d_X_branch_28 w_X_84 (by decide) (Nat.le_of_ble_eq_true rfl) (c_holdsTrue hf) ?_
      rintro _ _ ⟨rfl, rfl⟩
      refine E_if_ne (tgt := 39) d_X_branch_31 (by decide) (fun c31 => ?_) (fun c31 => ?_)
      · refine E_aload_n d_X_branch_39 rfl rfl ?_
        refine L_gi d_X_branch_40 f_X_9 (SH_T0 hi) (by decide) rfl (fr_T6 hi) ?_
        refine E_iload_n d_X_branch_43 rfl ?_
        refine E_S1i d_X_branch_44 w_X_88 (by decide) (Nat.le_of_ble_eq_true rfl) (c_X_branchNumber) ?_
        rintro _ _ ⟨rfl, rfl⟩
        refine E_iadd d_X_branch_47 ?_
        refine E_istore_n d_X_branch_48 (by decide) ?_
        refine E_iload_n d_X_branch_49 rfl ?_
        refine E_iconst (v := 3) d_X_branch_50 (by decide) ?_
        refine E_iand d_X_branch_51 ?_
        refine E_if_eq (tgt := 57) d_X_branch_52 (by decide) (fun c52 => ?_) (fun c52 => ?_)
        · refine E_aload_n d_X_branch_57 rfl rfl ?_
          refine E_iload_n d_X_branch_58 rfl ?_
          refine L_pi d_X_branch_59 f_X_9 (SH_T0 hi) (by decide) (Or.inl rfl) rfl (fu_T6 _ hi) ?_
          refine E_iconst (v := -1) d_X_branch_62 (by decide) ?_
          exact E_ireturn d_X_branch_63 (Or.inl rfl) rfl ⟨_, rfl, by rw [bnC, if_neg c, if_pos (b2i_ne0 c31), if_pos c52], by rw [bnC, if_neg c, if_pos (b2i_ne0 c31), if_pos c52]⟩
        · refine E_iconst (v := 0) d_X_branch_55 (by decide) ?_
          exact E_ireturn d_X_branch_56 (Or.inl rfl) rfl ⟨_, rfl, by rw [bnC, if_neg c, if_pos (b2i_ne0 c31), if_neg c52], by rw [bnC, if_neg c, if_pos (b2i_ne0 c31), if_neg c52]⟩
      · refine E_aload_n d_X_branch_34 rfl rfl ?_
        refine E_S1i d_X_branch_35 w_X_63 (by decide) (Nat.le_of_ble_eq_true rfl) (c_X_go hi) ?_
        rintro _ _ ⟨rfl, rfl⟩
        exact E_ireturn d_X_branch_38 (Or.inl rfl) rfl ⟨_, rfl, by rw [bnC, if_neg c, if_neg (by rw [b2i_eq0 c31]; decide)], by rw [bnC, if_neg c, if_neg (by rw [b2i_eq0 c31]; decide)]⟩
    · have c : bf w 12 3 = 2 ∨ bf w 12 3 = 3 := Or.inr ((nI_eq (b := 3) (by omega) (by decide)).mp c12)
      refine E_iconst (v := 2) d_X_branch_15 (by decide) ?_
      exact E_ireturn d_X_branch_16 (Or.inl rfl) rfl ⟨_, rfl, by rw [bnC, if_pos c], by rw [bnC, if_pos c]⟩
theorem c_X_fetch {G : iG} {F : Nat} {C M : Nat → Nat → Int32} {i : Nat} (hi : i < 8) {w : Int32} {s : Nat} (hF : F ≤ 40) (hs : C 14 i = nI s) (hs8 : s ≤ 8) (hpg : pgC C i s F) : MI G m_X_fetch 2 [vR 1, vR (tk i), vI w] (HW F C M) (fun x h' => x = (ftC C i s w).1 ∧ h' = HW F (ftC C i s w).2 M) := by
  refine Mt.of' (Ls := [some (vR 1), some (vR (tk i)), some (vI w), none, none, none]) (by decide) (by simp [ct]) (Nat.le_of_ble_eq_true rfl) rfl ?_
  obtain ⟨f, hf⟩ : ∃ f, f = bf w 12 3 := ⟨_, rfl⟩
  have hf8 : f < 8 := by rw [hf]; exact bf_lt _ _ 3
  obtain ⟨a, ea⟩ : ∃ a, a = r1 C i w + (w >>> (20 &&& 31)) := ⟨_, rfl⟩
  have eq : ftC C i s w = ftF C i s w f a := by rw [hf, ea]; rfl
  have hx := a.toBitVec.isLt
  have h3 : a &&& 3 = nI (a.toBitVec.toNat % 4) := pk_and a 2 (by decide)
  refine E_iload_n d_X_fetch_0 rfl ?_
  refine E_S1i d_X_fetch_1 w_X_60 (by decide) (Nat.le_of_ble_eq_true rfl) (c_X_selector) ?_
  rintro _ _ ⟨rfl, rfl⟩
  rw [← hf]
  refine E_istore_n d_X_fetch_4 (by decide) ?_
  rcases (show f = 0 ∨ f = 1 ∨ f = 2 ∨ f = 3 ∨ f = 4 ∨ f = 5 ∨ f = 6 ∨ f = 7 by omega) with rfl | rfl | rfl | rfl | rfl | rfl | rfl | rfl
  · refine E_iload_n d_X_fetch_5 rfl ?_
    refine E_iconst (v := 3) d_X_fetch_6 (by decide) ?_
    refine E_icmp_eq (tgt := 15) d_X_fetch_7 (by decide) (fun c => absurd c (by decide)) (fun _ => ?_)
    refine E_iload_n d_X_fetch_10 rfl ?_
    refine E_iconst (v := 5) d_X_fetch_11 (by decide) ?_
    refine E_icmp_le (tgt := 17) d_X_fetch_12 (by decide) (fun _ => ?_) (fun c => absurd (by decide) c)
    refine E_aload_n d_X_fetch_17 rfl rfl ?_
    refine E_iload_n d_X_fetch_18 rfl ?_
    refine E_S2i d_X_fetch_19 w_X_75 (by decide) (Nat.le_of_ble_eq_true rfl) (c_X_first hi) ?_
    rintro _ _ ⟨rfl, rfl⟩
    refine E_iload_n d_X_fetch_22 rfl ?_
    refine E_S1i d_X_fetch_23 w_X_78 (by decide) (Nat.le_of_ble_eq_true rfl) (c_X_shortNumber) ?_
    rintro _ _ ⟨rfl, rfl⟩
    refine E_iadd d_X_fetch_26 ?_
    refine E_tp (y := a) ea.symm ?_
    refine E_istore d_X_fetch_27 (by decide) ?_
    refine E_iload d_X_fetch_29 rfl ?_
    refine E_iload_n d_X_fetch_31 rfl ?_
    refine E_iconst (v := 3) d_X_fetch_32 (by decide) ?_
    refine E_iand d_X_fetch_33 ?_
    refine E_tp (y := nI (0)) (by decide) ?_
    refine E_S2i d_X_fetch_34 w_X_95 (by decide) (Nat.le_of_ble_eq_true rfl) (c_X_isCrooked) ?_
    rintro _ _ ⟨rfl, rfl⟩
    refine E_if_eq (tgt := 42) d_X_fetch_37 (by decide) (fun c37 => ?_) (fun c37 => ?_)
    · have hc := b2i_eq0 c37
      by_cases hpl : a.toBitVec.toNat / 64 < s
      · obtain ⟨fr, hfr, efr⟩ := hpg _ hpl
        have epl : plN C i a = fr * 16 + a.toBitVec.toNat / 4 % 16 := by rw [plN, efr, nv_nI (by omega)]
        refine E_aload_n d_X_fetch_42 rfl rfl ?_
        refine E_aload_n d_X_fetch_43 rfl rfl ?_
        refine E_iload d_X_fetch_44 rfl ?_
        refine E_V2i d_X_fetch_46 w_X_15 rfl (by decide) (Nat.le_of_ble_eq_true rfl) (c_MEM_placeOf hi hs hs8) ?_
        rintro _ _ ⟨rfl, rfl⟩
        refine E_tp (y := nI (fr * 16 + a.toBitVec.toNat / 4 % 16)) (by rw [plC, if_pos hpl, efr, show (16 : Int32) = nI 16 from rfl, pk_mul, nI_add]) ?_
        refine E_istore d_X_fetch_49 (by decide) ?_
        refine E_iload d_X_fetch_51 rfl ?_
        refine E_iconst (v := -1) d_X_fetch_53 (by decide) ?_
        refine E_icmp_ne (tgt := 59) d_X_fetch_54 (by decide) (fun _ => ?_) (fun c => absurd c (fun q => by have := nI_pos' (n := fr * 16 + a.toBitVec.toNat / 4 % 16) (by omega); rw [q] at this; exact absurd this (by decide)))
        refine E_aload_n d_X_fetch_59 rfl rfl ?_
        refine E_iload_n d_X_fetch_60 rfl ?_
        refine E_iload_n d_X_fetch_61 rfl ?_
        refine E_aload_n d_X_fetch_62 rfl rfl ?_
        refine L_gr d_X_fetch_63 f_X_21 rfl (by decide) rfl rfl ?_
        refine E_iload d_X_fetch_66 rfl ?_
        refine L_ld (j := fr * 16 + a.toBitVec.toNat / 4 % 16) d_X_fetch_68 rfl rfl (by omega) (by omega) (fr_K _ (by decide)) ?_
        refine E_bipush (v := 8) d_X_fetch_69 (by decide) ?_
        refine E_iload d_X_fetch_71 rfl ?_
        refine E_iconst (v := 3) d_X_fetch_73 (by decide) ?_
        refine E_iand d_X_fetch_74 ?_
        refine E_imul d_X_fetch_75 ?_
        refine E_iushr d_X_fetch_76 ?_
        refine E_S2i d_X_fetch_77 w_X_98 (by decide) (Nat.le_of_ble_eq_true rfl) (c_widen (by decide)) ?_
        rintro _ _ ⟨rfl, rfl⟩
        refine E_S3i d_X_fetch_80 w_X_31 (by decide) (Nat.le_of_ble_eq_true rfl) (c_X_setAndGo hi) ?_
        rintro _ _ ⟨rfl, rfl⟩
        exact E_ireturn d_X_fetch_83 (Or.inl rfl) rfl ⟨_, rfl, by rw [eq, ftF, if_neg (by decide), if_neg (by rw [hc]; decide), if_pos hpl], by rw [eq, ftF, if_neg (by decide), if_neg (by rw [hc]; decide), if_pos hpl, epl]; try rfl⟩
      · refine E_aload_n d_X_fetch_42 rfl rfl ?_
        refine E_aload_n d_X_fetch_43 rfl rfl ?_
        refine E_iload d_X_fetch_44 rfl ?_
        refine E_V2i d_X_fetch_46 w_X_15 rfl (by decide) (Nat.le_of_ble_eq_true rfl) (c_MEM_placeOf hi hs hs8) ?_
        rintro _ _ ⟨rfl, rfl⟩
        rw [plC, if_neg hpl]
        refine E_istore d_X_fetch_49 (by decide) ?_
        refine E_iload d_X_fetch_51 rfl ?_
        refine E_iconst (v := -1) d_X_fetch_53 (by decide) ?_
        refine E_icmp_ne (tgt := 59) d_X_fetch_54 (by decide) (fun c => absurd (by decide) c) (fun _ => ?_)
        refine E_iconst (v := 5) d_X_fetch_57 (by decide) ?_
        exact E_ireturn d_X_fetch_58 (Or.inl rfl) rfl ⟨_, rfl, by rw [eq, ftF, if_neg (by decide), if_neg (by rw [hc]; decide), if_neg hpl], by rw [eq, ftF, if_neg (by decide), if_neg (by rw [hc]; decide), if_neg hpl]⟩
    · have hc := b2i_ne0 c37
      refine E_iconst (v := 4) d_X_fetch_40 (by decide) ?_
      exact E_ireturn d_X_fetch_41 (Or.inl rfl) rfl ⟨_, rfl, by rw [eq, ftF, if_neg (by decide), if_pos hc], by rw [eq, ftF, if_neg (by decide), if_pos hc]⟩
  · refine E_iload_n d_X_fetch_5 rfl ?_
    refine E_iconst (v := 3) d_X_fetch_6 (by decide) ?_
    refine E_icmp_eq (tgt := 15) d_X_fetch_7 (by decide) (fun c => absurd c (by decide)) (fun _ => ?_)
    refine E_iload_n d_X_fetch_10 rfl ?_
    refine E_iconst (v := 5) d_X_fetch_11 (by decide) ?_
    refine E_icmp_le (tgt := 17) d_X_fetch_12 (by decide) (fun _ => ?_) (fun c => absurd (by decide) c)
    refine E_aload_n d_X_fetch_17 rfl rfl ?_
    refine E_iload_n d_X_fetch_18 rfl ?_
    refine E_S2i d_X_fetch_19 w_X_75 (by decide) (Nat.le_of_ble_eq_true rfl) (c_X_first hi) ?_
    rintro _ _ ⟨rfl, rfl⟩
    refine E_iload_n d_X_fetch_22 rfl ?_
    refine E_S1i d_X_fetch_23 w_X_78 (by decide) (Nat.le_of_ble_eq_true rfl) (c_X_shortNumber) ?_
    rintro _ _ ⟨rfl, rfl⟩
    refine E_iadd d_X_fetch_26 ?_
    refine E_tp (y := a) ea.symm ?_
    refine E_istore d_X_fetch_27 (by decide) ?_
    refine E_iload d_X_fetch_29 rfl ?_
    refine E_iload_n d_X_fetch_31 rfl ?_
    refine E_iconst (v := 3) d_X_fetch_32 (by decide) ?_
    refine E_iand d_X_fetch_33 ?_
    refine E_tp (y := nI (1)) (by decide) ?_
    refine E_S2i d_X_fetch_34 w_X_95 (by decide) (Nat.le_of_ble_eq_true rfl) (c_X_isCrooked) ?_
    rintro _ _ ⟨rfl, rfl⟩
    refine E_if_eq (tgt := 42) d_X_fetch_37 (by decide) (fun c37 => ?_) (fun c37 => ?_)
    · have hc := b2i_eq0 c37
      by_cases hpl : a.toBitVec.toNat / 64 < s
      · obtain ⟨fr, hfr, efr⟩ := hpg _ hpl
        have epl : plN C i a = fr * 16 + a.toBitVec.toNat / 4 % 16 := by rw [plN, efr, nv_nI (by omega)]
        refine E_aload_n d_X_fetch_42 rfl rfl ?_
        refine E_aload_n d_X_fetch_43 rfl rfl ?_
        refine E_iload d_X_fetch_44 rfl ?_
        refine E_V2i d_X_fetch_46 w_X_15 rfl (by decide) (Nat.le_of_ble_eq_true rfl) (c_MEM_placeOf hi hs hs8) ?_
        rintro _ _ ⟨rfl, rfl⟩
        refine E_tp (y := nI (fr * 16 + a.toBitVec.toNat / 4 % 16)) (by rw [plC, if_pos hpl, efr, show (16 : Int32) = nI 16 from rfl, pk_mul, nI_add]) ?_
        refine E_istore d_X_fetch_49 (by decide) ?_
        refine E_iload d_X_fetch_51 rfl ?_
        refine E_iconst (v := -1) d_X_fetch_53 (by decide) ?_
        refine E_icmp_ne (tgt := 59) d_X_fetch_54 (by decide) (fun _ => ?_) (fun c => absurd c (fun q => by have := nI_pos' (n := fr * 16 + a.toBitVec.toNat / 4 % 16) (by omega); rw [q] at this; exact absurd this (by decide)))
        refine E_aload_n d_X_fetch_59 rfl rfl ?_
        refine E_iload_n d_X_fetch_60 rfl ?_
        refine E_iload_n d_X_fetch_61 rfl ?_
        refine E_aload_n d_X_fetch_62 rfl rfl ?_
        refine L_gr d_X_fetch_63 f_X_21 rfl (by decide) rfl rfl ?_
        refine E_iload d_X_fetch_66 rfl ?_
        refine L_ld (j := fr * 16 + a.toBitVec.toNat / 4 % 16) d_X_fetch_68 rfl rfl (by omega) (by omega) (fr_K _ (by decide)) ?_
        refine E_bipush (v := 8) d_X_fetch_69 (by decide) ?_
        refine E_iload d_X_fetch_71 rfl ?_
        refine E_iconst (v := 3) d_X_fetch_73 (by decide) ?_
        refine E_iand d_X_fetch_74 ?_
        refine E_imul d_X_fetch_75 ?_
        refine E_iushr d_X_fetch_76 ?_
        refine E_S2i d_X_fetch_77 w_X_98 (by decide) (Nat.le_of_ble_eq_true rfl) (c_widen (by decide)) ?_
        rintro _ _ ⟨rfl, rfl⟩
        refine E_S3i d_X_fetch_80 w_X_31 (by decide) (Nat.le_of_ble_eq_true rfl) (c_X_setAndGo hi) ?_
        rintro _ _ ⟨rfl, rfl⟩
        exact E_ireturn d_X_fetch_83 (Or.inl rfl) rfl ⟨_, rfl, by rw [eq, ftF, if_neg (by decide), if_neg (by rw [hc]; decide), if_pos hpl], by rw [eq, ftF, if_neg (by decide), if_neg (by rw [hc]; decide), if_pos hpl, epl]; try rfl⟩
      · refine E_aload_n d_X_fetch_42 rfl rfl ?_
        refine E_aload_n d_X_fetch_43 rfl rfl ?_
        refine E_iload d_X_fetch_44 rfl ?_
        refine E_V2i d_X_fetch_46 w_X_15 rfl (by decide) (Nat.le_of_ble_eq_true rfl) (c_MEM_placeOf hi hs hs8) ?_
        rintro _ _ ⟨rfl, rfl⟩
        rw [plC, if_neg hpl]
        refine E_istore d_X_fetch_49 (by decide) ?_
        refine E_iload d_X_fetch_51 rfl ?_
        refine E_iconst (v := -1) d_X_fetch_53 (by decide) ?_
        refine E_icmp_ne (tgt := 59) d_X_fetch_54 (by decide) (fun c => absurd (by decide) c) (fun _ => ?_)
        refine E_iconst (v := 5) d_X_fetch_57 (by decide) ?_
        exact E_ireturn d_X_fetch_58 (Or.inl rfl) rfl ⟨_, rfl, by rw [eq, ftF, if_neg (by decide), if_neg (by rw [hc]; decide), if_neg hpl], by rw [eq, ftF, if_neg (by decide), if_neg (by rw [hc]; decide), if_neg hpl]⟩
    · have hc := b2i_ne0 c37
      refine E_iconst (v := 4) d_X_fetch_40 (by decide) ?_
      exact E_ireturn d_X_fetch_41 (Or.inl rfl) rfl ⟨_, rfl, by rw [eq, ftF, if_neg (by decide), if_pos hc], by rw [eq, ftF, if_neg (by decide), if_pos hc]⟩
  · refine E_iload_n d_X_fetch_5 rfl ?_
    refine E_iconst (v := 3) d_X_fetch_6 (by decide) ?_
    refine E_icmp_eq (tgt := 15) d_X_fetch_7 (by decide) (fun c => absurd c (by decide)) (fun _ => ?_)
    refine E_iload_n d_X_fetch_10 rfl ?_
    refine E_iconst (v := 5) d_X_fetch_11 (by decide) ?_
    refine E_icmp_le (tgt := 17) d_X_fetch_12 (by decide) (fun _ => ?_) (fun c => absurd (by decide) c)
    refine E_aload_n d_X_fetch_17 rfl rfl ?_
    refine E_iload_n d_X_fetch_18 rfl ?_
    refine E_S2i d_X_fetch_19 w_X_75 (by decide) (Nat.le_of_ble_eq_true rfl) (c_X_first hi) ?_
    rintro _ _ ⟨rfl, rfl⟩
    refine E_iload_n d_X_fetch_22 rfl ?_
    refine E_S1i d_X_fetch_23 w_X_78 (by decide) (Nat.le_of_ble_eq_true rfl) (c_X_shortNumber) ?_
    rintro _ _ ⟨rfl, rfl⟩
    refine E_iadd d_X_fetch_26 ?_
    refine E_tp (y := a) ea.symm ?_
    refine E_istore d_X_fetch_27 (by decide) ?_
    refine E_iload d_X_fetch_29 rfl ?_
    refine E_iload_n d_X_fetch_31 rfl ?_
    refine E_iconst (v := 3) d_X_fetch_32 (by decide) ?_
    refine E_iand d_X_fetch_33 ?_
    refine E_tp (y := nI (2)) (by decide) ?_
    refine E_S2i d_X_fetch_34 w_X_95 (by decide) (Nat.le_of_ble_eq_true rfl) (c_X_isCrooked) ?_
    rintro _ _ ⟨rfl, rfl⟩
    refine E_if_eq (tgt := 42) d_X_fetch_37 (by decide) (fun c37 => ?_) (fun c37 => ?_)
    · have hc := b2i_eq0 c37
      by_cases hpl : a.toBitVec.toNat / 64 < s
      · obtain ⟨fr, hfr, efr⟩ := hpg _ hpl
        have epl : plN C i a = fr * 16 + a.toBitVec.toNat / 4 % 16 := by rw [plN, efr, nv_nI (by omega)]
        refine E_aload_n d_X_fetch_42 rfl rfl ?_
        refine E_aload_n d_X_fetch_43 rfl rfl ?_
        refine E_iload d_X_fetch_44 rfl ?_
        refine E_V2i d_X_fetch_46 w_X_15 rfl (by decide) (Nat.le_of_ble_eq_true rfl) (c_MEM_placeOf hi hs hs8) ?_
        rintro _ _ ⟨rfl, rfl⟩
        refine E_tp (y := nI (fr * 16 + a.toBitVec.toNat / 4 % 16)) (by rw [plC, if_pos hpl, efr, show (16 : Int32) = nI 16 from rfl, pk_mul, nI_add]) ?_
        refine E_istore d_X_fetch_49 (by decide) ?_
        refine E_iload d_X_fetch_51 rfl ?_
        refine E_iconst (v := -1) d_X_fetch_53 (by decide) ?_
        refine E_icmp_ne (tgt := 59) d_X_fetch_54 (by decide) (fun _ => ?_) (fun c => absurd c (fun q => by have := nI_pos' (n := fr * 16 + a.toBitVec.toNat / 4 % 16) (by omega); rw [q] at this; exact absurd this (by decide)))
        refine E_aload_n d_X_fetch_59 rfl rfl ?_
        refine E_iload_n d_X_fetch_60 rfl ?_
        refine E_iload_n d_X_fetch_61 rfl ?_
        refine E_aload_n d_X_fetch_62 rfl rfl ?_
        refine L_gr d_X_fetch_63 f_X_21 rfl (by decide) rfl rfl ?_
        refine E_iload d_X_fetch_66 rfl ?_
        refine L_ld (j := fr * 16 + a.toBitVec.toNat / 4 % 16) d_X_fetch_68 rfl rfl (by omega) (by omega) (fr_K _ (by decide)) ?_
        refine E_bipush (v := 8) d_X_fetch_69 (by decide) ?_
        refine E_iload d_X_fetch_71 rfl ?_
        refine E_iconst (v := 3) d_X_fetch_73 (by decide) ?_
        refine E_iand d_X_fetch_74 ?_
        refine E_imul d_X_fetch_75 ?_
        refine E_iushr d_X_fetch_76 ?_
        refine E_S2i d_X_fetch_77 w_X_98 (by decide) (Nat.le_of_ble_eq_true rfl) (c_widen (by decide)) ?_
        rintro _ _ ⟨rfl, rfl⟩
        refine E_S3i d_X_fetch_80 w_X_31 (by decide) (Nat.le_of_ble_eq_true rfl) (c_X_setAndGo hi) ?_
        rintro _ _ ⟨rfl, rfl⟩
        exact E_ireturn d_X_fetch_83 (Or.inl rfl) rfl ⟨_, rfl, by rw [eq, ftF, if_neg (by decide), if_neg (by rw [hc]; decide), if_pos hpl], by rw [eq, ftF, if_neg (by decide), if_neg (by rw [hc]; decide), if_pos hpl, epl]; try rfl⟩
      · refine E_aload_n d_X_fetch_42 rfl rfl ?_
        refine E_aload_n d_X_fetch_43 rfl rfl ?_
        refine E_iload d_X_fetch_44 rfl ?_
        refine E_V2i d_X_fetch_46 w_X_15 rfl (by decide) (Nat.le_of_ble_eq_true rfl) (c_MEM_placeOf hi hs hs8) ?_
        rintro _ _ ⟨rfl, rfl⟩
        rw [plC, if_neg hpl]
        refine E_istore d_X_fetch_49 (by decide) ?_
        refine E_iload d_X_fetch_51 rfl ?_
        refine E_iconst (v := -1) d_X_fetch_53 (by decide) ?_
        refine E_icmp_ne (tgt := 59) d_X_fetch_54 (by decide) (fun c => absurd (by decide) c) (fun _ => ?_)
        refine E_iconst (v := 5) d_X_fetch_57 (by decide) ?_
        exact E_ireturn d_X_fetch_58 (Or.inl rfl) rfl ⟨_, rfl, by rw [eq, ftF, if_neg (by decide), if_neg (by rw [hc]; decide), if_neg hpl], by rw [eq, ftF, if_neg (by decide), if_neg (by rw [hc]; decide), if_neg hpl]⟩
    · have hc := b2i_ne0 c37
      refine E_iconst (v := 4) d_X_fetch_40 (by decide) ?_
      exact E_ireturn d_X_fetch_41 (Or.inl rfl) rfl ⟨_, rfl, by rw [eq, ftF, if_neg (by decide), if_pos hc], by rw [eq, ftF, if_neg (by decide), if_pos hc]⟩
  · refine E_iload_n d_X_fetch_5 rfl ?_
    refine E_iconst (v := 3) d_X_fetch_6 (by decide) ?_
    refine E_icmp_eq (tgt := 15) d_X_fetch_7 (by decide) (fun _ => ?_) (fun c => absurd (by decide) c)
    refine E_iconst (v := 2) d_X_fetch_15 (by decide) ?_
    exact E_ireturn d_X_fetch_16 (Or.inl rfl) rfl ⟨_, rfl, by rw [eq, ftF, if_pos (by decide)], by rw [eq, ftF, if_pos (by decide)]⟩
  · refine E_iload_n d_X_fetch_5 rfl ?_
    refine E_iconst (v := 3) d_X_fetch_6 (by decide) ?_
    refine E_icmp_eq (tgt := 15) d_X_fetch_7 (by decide) (fun c => absurd c (by decide)) (fun _ => ?_)
    refine E_iload_n d_X_fetch_10 rfl ?_
    refine E_iconst (v := 5) d_X_fetch_11 (by decide) ?_
    refine E_icmp_le (tgt := 17) d_X_fetch_12 (by decide) (fun _ => ?_) (fun c => absurd (by decide) c)
    refine E_aload_n d_X_fetch_17 rfl rfl ?_
    refine E_iload_n d_X_fetch_18 rfl ?_
    refine E_S2i d_X_fetch_19 w_X_75 (by decide) (Nat.le_of_ble_eq_true rfl) (c_X_first hi) ?_
    rintro _ _ ⟨rfl, rfl⟩
    refine E_iload_n d_X_fetch_22 rfl ?_
    refine E_S1i d_X_fetch_23 w_X_78 (by decide) (Nat.le_of_ble_eq_true rfl) (c_X_shortNumber) ?_
    rintro _ _ ⟨rfl, rfl⟩
    refine E_iadd d_X_fetch_26 ?_
    refine E_tp (y := a) ea.symm ?_
    refine E_istore d_X_fetch_27 (by decide) ?_
    refine E_iload d_X_fetch_29 rfl ?_
    refine E_iload_n d_X_fetch_31 rfl ?_
    refine E_iconst (v := 3) d_X_fetch_32 (by decide) ?_
    refine E_iand d_X_fetch_33 ?_
    refine E_tp (y := nI (0)) (by decide) ?_
    refine E_S2i d_X_fetch_34 w_X_95 (by decide) (Nat.le_of_ble_eq_true rfl) (c_X_isCrooked) ?_
    rintro _ _ ⟨rfl, rfl⟩
    refine E_if_eq (tgt := 42) d_X_fetch_37 (by decide) (fun c37 => ?_) (fun c37 => ?_)
    · have hc := b2i_eq0 c37
      by_cases hpl : a.toBitVec.toNat / 64 < s
      · obtain ⟨fr, hfr, efr⟩ := hpg _ hpl
        have epl : plN C i a = fr * 16 + a.toBitVec.toNat / 4 % 16 := by rw [plN, efr, nv_nI (by omega)]
        refine E_aload_n d_X_fetch_42 rfl rfl ?_
        refine E_aload_n d_X_fetch_43 rfl rfl ?_
        refine E_iload d_X_fetch_44 rfl ?_
        refine E_V2i d_X_fetch_46 w_X_15 rfl (by decide) (Nat.le_of_ble_eq_true rfl) (c_MEM_placeOf hi hs hs8) ?_
        rintro _ _ ⟨rfl, rfl⟩
        refine E_tp (y := nI (fr * 16 + a.toBitVec.toNat / 4 % 16)) (by rw [plC, if_pos hpl, efr, show (16 : Int32) = nI 16 from rfl, pk_mul, nI_add]) ?_
        refine E_istore d_X_fetch_49 (by decide) ?_
        refine E_iload d_X_fetch_51 rfl ?_
        refine E_iconst (v := -1) d_X_fetch_53 (by decide) ?_
        refine E_icmp_ne (tgt := 59) d_X_fetch_54 (by decide) (fun _ => ?_) (fun c => absurd c (fun q => by have := nI_pos' (n := fr * 16 + a.toBitVec.toNat / 4 % 16) (by omega); rw [q] at this; exact absurd this (by decide)))
        refine E_aload_n d_X_fetch_59 rfl rfl ?_
        refine E_iload_n d_X_fetch_60 rfl ?_
        refine E_iload_n d_X_fetch_61 rfl ?_
        refine E_aload_n d_X_fetch_62 rfl rfl ?_
        refine L_gr d_X_fetch_63 f_X_21 rfl (by decide) rfl rfl ?_
        refine E_iload d_X_fetch_66 rfl ?_
        refine L_ld (j := fr * 16 + a.toBitVec.toNat / 4 % 16) d_X_fetch_68 rfl rfl (by omega) (by omega) (fr_K _ (by decide)) ?_
        refine E_bipush (v := 8) d_X_fetch_69 (by decide) ?_
        refine E_iload d_X_fetch_71 rfl ?_
        refine E_iconst (v := 3) d_X_fetch_73 (by decide) ?_
        refine E_iand d_X_fetch_74 ?_
        refine E_imul d_X_fetch_75 ?_
        refine E_iushr d_X_fetch_76 ?_
        refine E_S2i d_X_fetch_77 w_X_98 (by decide) (Nat.le_of_ble_eq_true rfl) (c_widen (by decide)) ?_
        rintro _ _ ⟨rfl, rfl⟩
        refine E_S3i d_X_fetch_80 w_X_31 (by decide) (Nat.le_of_ble_eq_true rfl) (c_X_setAndGo hi) ?_
        rintro _ _ ⟨rfl, rfl⟩
        exact E_ireturn d_X_fetch_83 (Or.inl rfl) rfl ⟨_, rfl, by rw [eq, ftF, if_neg (by decide), if_neg (by rw [hc]; decide), if_pos hpl], by rw [eq, ftF, if_neg (by decide), if_neg (by rw [hc]; decide), if_pos hpl, epl]; try rfl⟩
      · refine E_aload_n d_X_fetch_42 rfl rfl ?_
        refine E_aload_n d_X_fetch_43 rfl rfl ?_
        refine E_iload d_X_fetch_44 rfl ?_
        refine E_V2i d_X_fetch_46 w_X_15 rfl (by decide) (Nat.le_of_ble_eq_true rfl) (c_MEM_placeOf hi hs hs8) ?_
        rintro _ _ ⟨rfl, rfl⟩
        rw [plC, if_neg hpl]
        refine E_istore d_X_fetch_49 (by decide) ?_
        refine E_iload d_X_fetch_51 rfl ?_
        refine E_iconst (v := -1) d_X_fetch_53 (by decide) ?_
        refine E_icmp_ne (tgt := 59) d_X_fetch_54 (by decide) (fun c => absurd (by decide) c) (fun _ => ?_)
        refine E_iconst (v := 5) d_X_fetch_57 (by decide) ?_
        exact E_ireturn d_X_fetch_58 (Or.inl rfl) rfl ⟨_, rfl, by rw [eq, ftF, if_neg (by decide), if_neg (by rw [hc]; decide), if_neg hpl], by rw [eq, ftF, if_neg (by decide), if_neg (by rw [hc]; decide), if_neg hpl]⟩
    · have hc := b2i_ne0 c37
      refine E_iconst (v := 4) d_X_fetch_40 (by decide) ?_
      exact E_ireturn d_X_fetch_41 (Or.inl rfl) rfl ⟨_, rfl, by rw [eq, ftF, if_neg (by decide), if_pos hc], by rw [eq, ftF, if_neg (by decide), if_pos hc]⟩
  · refine E_iload_n d_X_fetch_5 rfl ?_
    refine E_iconst (v := 3) d_X_fetch_6 (by decide) ?_
    refine E_icmp_eq (tgt := 15) d_X_fetch_7 (by decide) (fun c => absurd c (by decide)) (fun _ => ?_)
    refine E_iload_n d_X_fetch_10 rfl ?_
    refine E_iconst (v := 5) d_X_fetch_11 (by decide) ?_
    refine E_icmp_le (tgt := 17) d_X_fetch_12 (by decide) (fun _ => ?_) (fun c => absurd (by decide) c)
    refine E_aload_n d_X_fetch_17 rfl rfl ?_
    refine E_iload_n d_X_fetch_18 rfl ?_
    refine E_S2i d_X_fetch_19 w_X_75 (by decide) (Nat.le_of_ble_eq_true rfl) (c_X_first hi) ?_
    rintro _ _ ⟨rfl, rfl⟩
    refine E_iload_n d_X_fetch_22 rfl ?_
    refine E_S1i d_X_fetch_23 w_X_78 (by decide) (Nat.le_of_ble_eq_true rfl) (c_X_shortNumber) ?_
    rintro _ _ ⟨rfl, rfl⟩
    refine E_iadd d_X_fetch_26 ?_
    refine E_tp (y := a) ea.symm ?_
    refine E_istore d_X_fetch_27 (by decide) ?_
    refine E_iload d_X_fetch_29 rfl ?_
    refine E_iload_n d_X_fetch_31 rfl ?_
    refine E_iconst (v := 3) d_X_fetch_32 (by decide) ?_
    refine E_iand d_X_fetch_33 ?_
    refine E_tp (y := nI (1)) (by decide) ?_
    refine E_S2i d_X_fetch_34 w_X_95 (by decide) (Nat.le_of_ble_eq_true rfl) (c_X_isCrooked) ?_
    rintro _ _ ⟨rfl, rfl⟩
    refine E_if_eq (tgt := 42) d_X_fetch_37 (by decide) (fun c37 => ?_) (fun c37 => ?_)
    · have hc := b2i_eq0 c37
      by_cases hpl : a.toBitVec.toNat / 64 < s
      · obtain ⟨fr, hfr, efr⟩ := hpg _ hpl
        have epl : plN C i a = fr * 16 + a.toBitVec.toNat / 4 % 16 := by rw [plN, efr, nv_nI (by omega)]
        refine E_aload_n d_X_fetch_42 rfl rfl ?_
        refine E_aload_n d_X_fetch_43 rfl rfl ?_
        refine E_iload d_X_fetch_44 rfl ?_
        refine E_V2i d_X_fetch_46 w_X_15 rfl (by decide) (Nat.le_of_ble_eq_true rfl) (c_MEM_placeOf hi hs hs8) ?_
        rintro _ _ ⟨rfl, rfl⟩
        refine E_tp (y := nI (fr * 16 + a.toBitVec.toNat / 4 % 16)) (by rw [plC, if_pos hpl, efr, show (16 : Int32) = nI 16 from rfl, pk_mul, nI_add]) ?_
        refine E_istore d_X_fetch_49 (by decide) ?_
        refine E_iload d_X_fetch_51 rfl ?_
        refine E_iconst (v := -1) d_X_fetch_53 (by decide) ?_
        refine E_icmp_ne (tgt := 59) d_X_fetch_54 (by decide) (fun _ => ?_) (fun c => absurd c (fun q => by have := nI_pos' (n := fr * 16 + a.toBitVec.toNat / 4 % 16) (by omega); rw [q] at this; exact absurd this (by decide)))
        refine E_aload_n d_X_fetch_59 rfl rfl ?_
        refine E_iload_n d_X_fetch_60 rfl ?_
        refine E_iload_n d_X_fetch_61 rfl ?_
        refine E_aload_n d_X_fetch_62 rfl rfl ?_
        refine L_gr d_X_fetch_63 f_X_21 rfl (by decide) rfl rfl ?_
        refine E_iload d_X_fetch_66 rfl ?_
        refine L_ld (j := fr * 16 + a.toBitVec.toNat / 4 % 16) d_X_fetch_68 rfl rfl (by omega) (by omega) (fr_K _ (by decide)) ?_
        refine E_bipush (v := 8) d_X_fetch_69 (by decide) ?_
        refine E_iload d_X_fetch_71 rfl ?_
        refine E_iconst (v := 3) d_X_fetch_73 (by decide) ?_
        refine E_iand d_X_fetch_74 ?_
        refine E_imul d_X_fetch_75 ?_
        refine E_iushr d_X_fetch_76 ?_
        refine E_S2i d_X_fetch_77 w_X_98 (by decide) (Nat.le_of_ble_eq_true rfl) (c_widen (by decide)) ?_
        rintro _ _ ⟨rfl, rfl⟩
        refine E_S3i d_X_fetch_80 w_X_31 (by decide) (Nat.le_of_ble_eq_true rfl) (c_X_setAndGo hi) ?_
        rintro _ _ ⟨rfl, rfl⟩
        exact E_ireturn d_X_fetch_83 (Or.inl rfl) rfl ⟨_, rfl, by rw [eq, ftF, if_neg (by decide), if_neg (by rw [hc]; decide), if_pos hpl], by rw [eq, ftF, if_neg (by decide), if_neg (by rw [hc]; decide), if_pos hpl, epl]; try rfl⟩
      · refine E_aload_n d_X_fetch_42 rfl rfl ?_
        refine E_aload_n d_X_fetch_43 rfl rfl ?_
        refine E_iload d_X_fetch_44 rfl ?_
        refine E_V2i d_X_fetch_46 w_X_15 rfl (by decide) (Nat.le_of_ble_eq_true rfl) (c_MEM_placeOf hi hs hs8) ?_
        rintro _ _ ⟨rfl, rfl⟩
        rw [plC, if_neg hpl]
        refine E_istore d_X_fetch_49 (by decide) ?_
        refine E_iload d_X_fetch_51 rfl ?_
        refine E_iconst (v := -1) d_X_fetch_53 (by decide) ?_
        refine E_icmp_ne (tgt := 59) d_X_fetch_54 (by decide) (fun c => absurd (by decide) c) (fun _ => ?_)
        refine E_iconst (v := 5) d_X_fetch_57 (by decide) ?_
        exact E_ireturn d_X_fetch_58 (Or.inl rfl) rfl ⟨_, rfl, by rw [eq, ftF, if_neg (by decide), if_neg (by rw [hc]; decide), if_neg hpl], by rw [eq, ftF, if_neg (by decide), if_neg (by rw [hc]; decide), if_neg hpl]⟩
    · have hc := b2i_ne0 c37
      refine E_iconst (v := 4) d_X_fetch_40 (by decide) ?_
      exact E_ireturn d_X_fetch_41 (Or.inl rfl) rfl ⟨_, rfl, by rw [eq, ftF, if_neg (by decide), if_pos hc], by rw [eq, ftF, if_neg (by decide), if_pos hc]⟩
  · refine E_iload_n d_X_fetch_5 rfl ?_
    refine E_iconst (v := 3) d_X_fetch_6 (by decide) ?_
    refine E_icmp_eq (tgt := 15) d_X_fetch_7 (by decide) (fun c => absurd c (by decide)) (fun _ => ?_)
    refine E_iload_n d_X_fetch_10 rfl ?_
    refine E_iconst (v := 5) d_X_fetch_11 (by decide) ?_
    refine E_icmp_le (tgt := 17) d_X_fetch_12 (by decide) (fun c => absurd c (by decide)) (fun _ => ?_)
    refine E_iconst (v := 2) d_X_fetch_15 (by decide) ?_
    exact E_ireturn d_X_fetch_16 (Or.inl rfl) rfl ⟨_, rfl, by rw [eq, ftF, if_pos (by decide)], by rw [eq, ftF, if_pos (by decide)]⟩
  · refine E_iload_n d_X_fetch_5 rfl ?_
    refine E_iconst (v := 3) d_X_fetch_6 (by decide) ?_
    refine E_icmp_eq (tgt := 15) d_X_fetch_7 (by decide) (fun c => absurd c (by decide)) (fun _ => ?_)
    refine E_iload_n d_X_fetch_10 rfl ?_
    refine E_iconst (v := 5) d_X_fetch_11 (by decide) ?_
    refine E_icmp_le (tgt := 17) d_X_fetch_12 (by decide) (fun c => absurd c (by decide)) (fun _ => ?_)
    refine E_iconst (v := 2) d_X_fetch_15 (by decide) ?_
    exact E_ireturn d_X_fetch_16 (Or.inl rfl) rfl ⟨_, rfl, by rw [eq, ftF, if_pos (by decide)], by rw [eq, ftF, if_pos (by decide)]⟩
theorem c_X_put {G : iG} {F : Nat} {C M : Nat → Nat → Int32} {i : Nat} (hi : i < 8) {w : Int32} {s : Nat} (hF : F ≤ 40) (hs : C 14 i = nI s) (hs8 : s ≤ 8) (hpg : pgC C i s F) : MI G m_X_put 2 [vR 1, vR (tk i), vI w] (HW F C M) (fun x h' => x = (ptC C i s w).1 ∧ h' = HW F (ptC C i s w).2 M) := by
  refine Mt.of' (Ls := [some (vR 1), some (vR (tk i)), some (vI w), none, none, none, none, none]) (by decide) (by simp [ct]) (Nat.le_of_ble_eq_true rfl) rfl ?_
  obtain ⟨f, hf⟩ : ∃ f, f = bf w 12 3 := ⟨_, rfl⟩
  have hf8 : f < 8 := by rw [hf]; exact bf_lt _ _ 3
  obtain ⟨a, ea⟩ : ∃ a, a = r1 C i w + (((w >>> (25 &&& 31)) <<< (5 &&& 31)) ||| nI (bf w 7 5)) := ⟨_, rfl⟩
  have eq : ptC C i s w = ptF C i s w f a := by rw [hf, ea]; rfl
  have hx := a.toBitVec.isLt
  refine E_iload_n d_X_put_0 rfl ?_
  refine E_S1i d_X_put_1 w_X_60 (by decide) (Nat.le_of_ble_eq_true rfl) (c_X_selector) ?_
  rintro _ _ ⟨rfl, rfl⟩
  rw [← hf]
  refine E_istore_n d_X_put_4 (by decide) ?_
  rcases (show f = 0 ∨ f = 1 ∨ f = 2 ∨ 2 < f by omega) with rfl | rfl | rfl | hbad
  · refine E_iload_n d_X_put_5 rfl ?_
    refine E_iconst (v := 2) d_X_put_6 (by decide) ?_
    refine E_icmp_le (tgt := 12) d_X_put_7 (by decide) (fun _ => ?_) (fun c => absurd (by decide) c)
    refine E_aload_n d_X_put_12 rfl rfl ?_
    refine E_iload_n d_X_put_13 rfl ?_
    refine E_S2i d_X_put_14 w_X_75 (by decide) (Nat.le_of_ble_eq_true rfl) (c_X_first hi) ?_
    rintro _ _ ⟨rfl, rfl⟩
    refine E_iload_n d_X_put_17 rfl ?_
    refine E_S1i d_X_put_18 w_X_103 (by decide) (Nat.le_of_ble_eq_true rfl) (c_X_putNumber) ?_
    rintro _ _ ⟨rfl, rfl⟩
    refine E_iadd d_X_put_21 ?_
    refine E_tp (y := a) ea.symm ?_
    refine E_istore d_X_put_22 (by decide) ?_
    refine E_iload d_X_put_24 rfl ?_
    refine E_iload_n d_X_put_26 rfl ?_
    refine E_S2i d_X_put_27 w_X_95 (by decide) (Nat.le_of_ble_eq_true rfl) (c_X_isCrooked) ?_
    rintro _ _ ⟨rfl, rfl⟩
    refine E_if_eq (tgt := 36) d_X_put_30 (by decide) (fun c30 => ?_) (fun c30 => ?_)
    · have hc := b2i_eq0 c30
      by_cases hpl : a.toBitVec.toNat / 64 < s
      · obtain ⟨fr, hfr, efr⟩ := hpg _ hpl
        have epl : plN C i a = fr * 16 + a.toBitVec.toNat / 4 % 16 := by rw [plN, efr, nv_nI (by omega)]
        refine E_aload_n d_X_put_36 rfl rfl ?_
        refine E_aload_n d_X_put_37 rfl rfl ?_
        refine E_iload d_X_put_38 rfl ?_
        refine E_V2i d_X_put_40 w_X_15 rfl (by decide) (Nat.le_of_ble_eq_true rfl) (c_MEM_placeOf hi hs hs8) ?_
        rintro _ _ ⟨rfl, rfl⟩
        refine E_tp (y := nI (fr * 16 + a.toBitVec.toNat / 4 % 16)) (by rw [plC, if_pos hpl, efr, show (16 : Int32) = nI 16 from rfl, pk_mul, nI_add]) ?_
        refine E_istore d_X_put_43 (by decide) ?_
        refine E_iload d_X_put_45 rfl ?_
        refine E_iconst (v := -1) d_X_put_47 (by decide) ?_
        refine E_icmp_ne (tgt := 54) d_X_put_48 (by decide) (fun _ => ?_) (fun c => absurd c (fun q => by have := nI_pos' (n := fr * 16 + a.toBitVec.toNat / 4 % 16) (by omega); rw [q] at this; exact absurd this (by decide)))
        refine E_bipush (v := 8) d_X_put_54 (by decide) ?_
        refine E_iload d_X_put_56 rfl ?_
        refine E_iconst (v := 3) d_X_put_58 (by decide) ?_
        refine E_iand d_X_put_59 ?_
        refine E_imul d_X_put_60 ?_
        refine E_istore d_X_put_61 (by decide) ?_
        refine E_iload_n d_X_put_63 rfl ?_
        refine E_S1i d_X_put_64 w_X_106 (by decide) (Nat.le_of_ble_eq_true rfl) (c_maskOf_0) ?_
        rintro _ _ ⟨rfl, rfl⟩
        refine E_iload d_X_put_67 rfl ?_
        refine E_ishl d_X_put_69 ?_
        refine E_istore d_X_put_70 (by decide) ?_
        refine E_aload_n d_X_put_72 rfl rfl ?_
        refine L_gr d_X_put_73 f_X_21 rfl (by decide) rfl rfl ?_
        refine E_iload d_X_put_76 rfl ?_
        refine E_aload_n d_X_put_78 rfl rfl ?_
        refine L_gr d_X_put_79 f_X_21 rfl (by decide) rfl rfl ?_
        refine E_iload d_X_put_82 rfl ?_
        refine L_ld (j := fr * 16 + a.toBitVec.toNat / 4 % 16) d_X_put_84 rfl rfl (by omega) (by omega) (fr_K _ (by decide)) ?_
        refine E_iload d_X_put_85 rfl ?_
        refine E_iconst (v := -1) d_X_put_87 (by decide) ?_
        refine E_ixor d_X_put_88 ?_
        refine E_iand d_X_put_89 ?_
        refine E_aload_n d_X_put_90 rfl rfl ?_
        refine E_iload_n d_X_put_91 rfl ?_
        refine E_S2i d_X_put_92 w_X_81 (by decide) (Nat.le_of_ble_eq_true rfl) (c_X_second hi) ?_
        rintro _ _ ⟨rfl, rfl⟩
        refine E_iload d_X_put_95 rfl ?_
        refine E_ishl d_X_put_97 ?_
        refine E_iload d_X_put_98 rfl ?_
        refine E_iand d_X_put_100 ?_
        refine E_ior d_X_put_101 ?_
        refine L_st (j := fr * 16 + a.toBitVec.toNat / 4 % 16) d_X_put_102 rfl rfl (by omega) (by omega) (fu_K _ _ (by decide)) ?_
        refine E_aload_n d_X_put_103 rfl rfl ?_
        refine E_S1i d_X_put_104 w_X_63 (by decide) (Nat.le_of_ble_eq_true rfl) (c_X_go hi) ?_
        rintro _ _ ⟨rfl, rfl⟩
        exact E_ireturn d_X_put_107 (Or.inl rfl) rfl ⟨_, rfl, by rw [eq, ptF, if_neg (by decide), if_neg (by rw [hc]; decide), if_pos hpl], by rw [eq, ptF, if_neg (by decide), if_neg (by rw [hc]; decide), if_pos hpl, epl]; try rfl⟩
      · refine E_aload_n d_X_put_36 rfl rfl ?_
        refine E_aload_n d_X_put_37 rfl rfl ?_
        refine E_iload d_X_put_38 rfl ?_
        refine E_V2i d_X_put_40 w_X_15 rfl (by decide) (Nat.le_of_ble_eq_true rfl) (c_MEM_placeOf hi hs hs8) ?_
        rintro _ _ ⟨rfl, rfl⟩
        rw [plC, if_neg hpl]
        refine E_istore d_X_put_43 (by decide) ?_
        refine E_iload d_X_put_45 rfl ?_
        refine E_iconst (v := -1) d_X_put_47 (by decide) ?_
        refine E_icmp_ne (tgt := 54) d_X_put_48 (by decide) (fun c => absurd (by decide) c) (fun _ => ?_)
        refine E_bipush (v := 7) d_X_put_51 (by decide) ?_
        exact E_ireturn d_X_put_53 (Or.inl rfl) rfl ⟨_, rfl, by rw [eq, ptF, if_neg (by decide), if_neg (by rw [hc]; decide), if_neg hpl], by rw [eq, ptF, if_neg (by decide), if_neg (by rw [hc]; decide), if_neg hpl]⟩
    · have hc := b2i_ne0 c30
      refine E_bipush (v := 6) d_X_put_33 (by decide) ?_
      exact E_ireturn d_X_put_35 (Or.inl rfl) rfl ⟨_, rfl, by rw [eq, ptF, if_neg (by decide), if_pos hc], by rw [eq, ptF, if_neg (by decide), if_pos hc]⟩
  · refine E_iload_n d_X_put_5 rfl ?_
    refine E_iconst (v := 2) d_X_put_6 (by decide) ?_
    refine E_icmp_le (tgt := 12) d_X_put_7 (by decide) (fun _ => ?_) (fun c => absurd (by decide) c)
    refine E_aload_n d_X_put_12 rfl rfl ?_
    refine E_iload_n d_X_put_13 rfl ?_
    refine E_S2i d_X_put_14 w_X_75 (by decide) (Nat.le_of_ble_eq_true rfl) (c_X_first hi) ?_
    rintro _ _ ⟨rfl, rfl⟩
    refine E_iload_n d_X_put_17 rfl ?_
    refine E_S1i d_X_put_18 w_X_103 (by decide) (Nat.le_of_ble_eq_true rfl) (c_X_putNumber) ?_
    rintro _ _ ⟨rfl, rfl⟩
    refine E_iadd d_X_put_21 ?_
    refine E_tp (y := a) ea.symm ?_
    refine E_istore d_X_put_22 (by decide) ?_
    refine E_iload d_X_put_24 rfl ?_
    refine E_iload_n d_X_put_26 rfl ?_
    refine E_S2i d_X_put_27 w_X_95 (by decide) (Nat.le_of_ble_eq_true rfl) (c_X_isCrooked) ?_
    rintro _ _ ⟨rfl, rfl⟩
    refine E_if_eq (tgt := 36) d_X_put_30 (by decide) (fun c30 => ?_) (fun c30 => ?_)
    · have hc := b2i_eq0 c30
      by_cases hpl : a.toBitVec.toNat / 64 < s
      · obtain ⟨fr, hfr, efr⟩ := hpg _ hpl
        have epl : plN C i a = fr * 16 + a.toBitVec.toNat / 4 % 16 := by rw [plN, efr, nv_nI (by omega)]
        refine E_aload_n d_X_put_36 rfl rfl ?_
        refine E_aload_n d_X_put_37 rfl rfl ?_
        refine E_iload d_X_put_38 rfl ?_
        refine E_V2i d_X_put_40 w_X_15 rfl (by decide) (Nat.le_of_ble_eq_true rfl) (c_MEM_placeOf hi hs hs8) ?_
        rintro _ _ ⟨rfl, rfl⟩
        refine E_tp (y := nI (fr * 16 + a.toBitVec.toNat / 4 % 16)) (by rw [plC, if_pos hpl, efr, show (16 : Int32) = nI 16 from rfl, pk_mul, nI_add]) ?_
        refine E_istore d_X_put_43 (by decide) ?_
        refine E_iload d_X_put_45 rfl ?_
        refine E_iconst (v := -1) d_X_put_47 (by decide) ?_
        refine E_icmp_ne (tgt := 54) d_X_put_48 (by decide) (fun _ => ?_) (fun c => absurd c (fun q => by have := nI_pos' (n := fr * 16 + a.toBitVec.toNat / 4 % 16) (by omega); rw [q] at this; exact absurd this (by decide)))
        refine E_bipush (v := 8) d_X_put_54 (by decide) ?_
        refine E_iload d_X_put_56 rfl ?_
        refine E_iconst (v := 3) d_X_put_58 (by decide) ?_
        refine E_iand d_X_put_59 ?_
        refine E_imul d_X_put_60 ?_
        refine E_istore d_X_put_61 (by decide) ?_
        refine E_iload_n d_X_put_63 rfl ?_
        refine E_S1i d_X_put_64 w_X_106 (by decide) (Nat.le_of_ble_eq_true rfl) (c_maskOf_1) ?_
        rintro _ _ ⟨rfl, rfl⟩
        refine E_iload d_X_put_67 rfl ?_
        refine E_ishl d_X_put_69 ?_
        refine E_istore d_X_put_70 (by decide) ?_
        refine E_aload_n d_X_put_72 rfl rfl ?_
        refine L_gr d_X_put_73 f_X_21 rfl (by decide) rfl rfl ?_
        refine E_iload d_X_put_76 rfl ?_
        refine E_aload_n d_X_put_78 rfl rfl ?_
        refine L_gr d_X_put_79 f_X_21 rfl (by decide) rfl rfl ?_
        refine E_iload d_X_put_82 rfl ?_
        refine L_ld (j := fr * 16 + a.toBitVec.toNat / 4 % 16) d_X_put_84 rfl rfl (by omega) (by omega) (fr_K _ (by decide)) ?_
        refine E_iload d_X_put_85 rfl ?_
        refine E_iconst (v := -1) d_X_put_87 (by decide) ?_
        refine E_ixor d_X_put_88 ?_
        refine E_iand d_X_put_89 ?_
        refine E_aload_n d_X_put_90 rfl rfl ?_
        refine E_iload_n d_X_put_91 rfl ?_
        refine E_S2i d_X_put_92 w_X_81 (by decide) (Nat.le_of_ble_eq_true rfl) (c_X_second hi) ?_
        rintro _ _ ⟨rfl, rfl⟩
        refine E_iload d_X_put_95 rfl ?_
        refine E_ishl d_X_put_97 ?_
        refine E_iload d_X_put_98 rfl ?_
        refine E_iand d_X_put_100 ?_
        refine E_ior d_X_put_101 ?_
        refine L_st (j := fr * 16 + a.toBitVec.toNat / 4 % 16) d_X_put_102 rfl rfl (by omega) (by omega) (fu_K _ _ (by decide)) ?_
        refine E_aload_n d_X_put_103 rfl rfl ?_
        refine E_S1i d_X_put_104 w_X_63 (by decide) (Nat.le_of_ble_eq_true rfl) (c_X_go hi) ?_
        rintro _ _ ⟨rfl, rfl⟩
        exact E_ireturn d_X_put_107 (Or.inl rfl) rfl ⟨_, rfl, by rw [eq, ptF, if_neg (by decide), if_neg (by rw [hc]; decide), if_pos hpl], by rw [eq, ptF, if_neg (by decide), if_neg (by rw [hc]; decide), if_pos hpl, epl]; try rfl⟩
      · refine E_aload_n d_X_put_36 rfl rfl ?_
        refine E_aload_n d_X_put_37 rfl rfl ?_
        refine E_iload d_X_put_38 rfl ?_
        refine E_V2i d_X_put_40 w_X_15 rfl (by decide) (Nat.le_of_ble_eq_true rfl) (c_MEM_placeOf hi hs hs8) ?_
        rintro _ _ ⟨rfl, rfl⟩
        rw [plC, if_neg hpl]
        refine E_istore d_X_put_43 (by decide) ?_
        refine E_iload d_X_put_45 rfl ?_
        refine E_iconst (v := -1) d_X_put_47 (by decide) ?_
        refine E_icmp_ne (tgt := 54) d_X_put_48 (by decide) (fun c => absurd (by decide) c) (fun _ => ?_)
        refine E_bipush (v := 7) d_X_put_51 (by decide) ?_
        exact E_ireturn d_X_put_53 (Or.inl rfl) rfl ⟨_, rfl, by rw [eq, ptF, if_neg (by decide), if_neg (by rw [hc]; decide), if_neg hpl], by rw [eq, ptF, if_neg (by decide), if_neg (by rw [hc]; decide), if_neg hpl]⟩
    · have hc := b2i_ne0 c30
      refine E_bipush (v := 6) d_X_put_33 (by decide) ?_
      exact E_ireturn d_X_put_35 (Or.inl rfl) rfl ⟨_, rfl, by rw [eq, ptF, if_neg (by decide), if_pos hc], by rw [eq, ptF, if_neg (by decide), if_pos hc]⟩
  · refine E_iload_n d_X_put_5 rfl ?_
    refine E_iconst (v := 2) d_X_put_6 (by decide) ?_
    refine E_icmp_le (tgt := 12) d_X_put_7 (by decide) (fun _ => ?_) (fun c => absurd (by decide) c)
    refine E_aload_n d_X_put_12 rfl rfl ?_
    refine E_iload_n d_X_put_13 rfl ?_
    refine E_S2i d_X_put_14 w_X_75 (by decide) (Nat.le_of_ble_eq_true rfl) (c_X_first hi) ?_
    rintro _ _ ⟨rfl, rfl⟩
    refine E_iload_n d_X_put_17 rfl ?_
    refine E_S1i d_X_put_18 w_X_103 (by decide) (Nat.le_of_ble_eq_true rfl) (c_X_putNumber) ?_
    rintro _ _ ⟨rfl, rfl⟩
    refine E_iadd d_X_put_21 ?_
    refine E_tp (y := a) ea.symm ?_
    refine E_istore d_X_put_22 (by decide) ?_
    refine E_iload d_X_put_24 rfl ?_
    refine E_iload_n d_X_put_26 rfl ?_
    refine E_S2i d_X_put_27 w_X_95 (by decide) (Nat.le_of_ble_eq_true rfl) (c_X_isCrooked) ?_
    rintro _ _ ⟨rfl, rfl⟩
    refine E_if_eq (tgt := 36) d_X_put_30 (by decide) (fun c30 => ?_) (fun c30 => ?_)
    · have hc := b2i_eq0 c30
      by_cases hpl : a.toBitVec.toNat / 64 < s
      · obtain ⟨fr, hfr, efr⟩ := hpg _ hpl
        have epl : plN C i a = fr * 16 + a.toBitVec.toNat / 4 % 16 := by rw [plN, efr, nv_nI (by omega)]
        refine E_aload_n d_X_put_36 rfl rfl ?_
        refine E_aload_n d_X_put_37 rfl rfl ?_
        refine E_iload d_X_put_38 rfl ?_
        refine E_V2i d_X_put_40 w_X_15 rfl (by decide) (Nat.le_of_ble_eq_true rfl) (c_MEM_placeOf hi hs hs8) ?_
        rintro _ _ ⟨rfl, rfl⟩
        refine E_tp (y := nI (fr * 16 + a.toBitVec.toNat / 4 % 16)) (by rw [plC, if_pos hpl, efr, show (16 : Int32) = nI 16 from rfl, pk_mul, nI_add]) ?_
        refine E_istore d_X_put_43 (by decide) ?_
        refine E_iload d_X_put_45 rfl ?_
        refine E_iconst (v := -1) d_X_put_47 (by decide) ?_
        refine E_icmp_ne (tgt := 54) d_X_put_48 (by decide) (fun _ => ?_) (fun c => absurd c (fun q => by have := nI_pos' (n := fr * 16 + a.toBitVec.toNat / 4 % 16) (by omega); rw [q] at this; exact absurd this (by decide)))
        refine E_bipush (v := 8) d_X_put_54 (by decide) ?_
        refine E_iload d_X_put_56 rfl ?_
        refine E_iconst (v := 3) d_X_put_58 (by decide) ?_
        refine E_iand d_X_put_59 ?_
        refine E_imul d_X_put_60 ?_
        refine E_istore d_X_put_61 (by decide) ?_
        refine E_iload_n d_X_put_63 rfl ?_
        refine E_S1i d_X_put_64 w_X_106 (by decide) (Nat.le_of_ble_eq_true rfl) (c_maskOf_2) ?_
        rintro _ _ ⟨rfl, rfl⟩
        refine E_iload d_X_put_67 rfl ?_
        refine E_ishl d_X_put_69 ?_
        refine E_istore d_X_put_70 (by decide) ?_
        refine E_aload_n d_X_put_72 rfl rfl ?_
        refine L_gr d_X_put_73 f_X_21 rfl (by decide) rfl rfl ?_
        refine E_iload d_X_put_76 rfl ?_
        refine E_aload_n d_X_put_78 rfl rfl ?_
        refine L_gr d_X_put_79 f_X_21 rfl (by decide) rfl rfl ?_
        refine E_iload d_X_put_82 rfl ?_
        refine L_ld (j := fr * 16 + a.toBitVec.toNat / 4 % 16) d_X_put_84 rfl rfl (by omega) (by omega) (fr_K _ (by decide)) ?_
        refine E_iload d_X_put_85 rfl ?_
        refine E_iconst (v := -1) d_X_put_87 (by decide) ?_
        refine E_ixor d_X_put_88 ?_
        refine E_iand d_X_put_89 ?_
        refine E_aload_n d_X_put_90 rfl rfl ?_
        refine E_iload_n d_X_put_91 rfl ?_
        refine E_S2i d_X_put_92 w_X_81 (by decide) (Nat.le_of_ble_eq_true rfl) (c_X_second hi) ?_
        rintro _ _ ⟨rfl, rfl⟩
        refine E_iload d_X_put_95 rfl ?_
        refine E_ishl d_X_put_97 ?_
        refine E_iload d_X_put_98 rfl ?_
        refine E_iand d_X_put_100 ?_
        refine E_ior d_X_put_101 ?_
        refine L_st (j := fr * 16 + a.toBitVec.toNat / 4 % 16) d_X_put_102 rfl rfl (by omega) (by omega) (fu_K _ _ (by decide)) ?_
        refine E_aload_n d_X_put_103 rfl rfl ?_
        refine E_S1i d_X_put_104 w_X_63 (by decide) (Nat.le_of_ble_eq_true rfl) (c_X_go hi) ?_
        rintro _ _ ⟨rfl, rfl⟩
        exact E_ireturn d_X_put_107 (Or.inl rfl) rfl ⟨_, rfl, by rw [eq, ptF, if_neg (by decide), if_neg (by rw [hc]; decide), if_pos hpl], by rw [eq, ptF, if_neg (by decide), if_neg (by rw [hc]; decide), if_pos hpl, epl]; try rfl⟩
      · refine E_aload_n d_X_put_36 rfl rfl ?_
        refine E_aload_n d_X_put_37 rfl rfl ?_
        refine E_iload d_X_put_38 rfl ?_
        refine E_V2i d_X_put_40 w_X_15 rfl (by decide) (Nat.le_of_ble_eq_true rfl) (c_MEM_placeOf hi hs hs8) ?_
        rintro _ _ ⟨rfl, rfl⟩
        rw [plC, if_neg hpl]
        refine E_istore d_X_put_43 (by decide) ?_
        refine E_iload d_X_put_45 rfl ?_
        refine E_iconst (v := -1) d_X_put_47 (by decide) ?_
        refine E_icmp_ne (tgt := 54) d_X_put_48 (by decide) (fun c => absurd (by decide) c) (fun _ => ?_)
        refine E_bipush (v := 7) d_X_put_51 (by decide) ?_
        exact E_ireturn d_X_put_53 (Or.inl rfl) rfl ⟨_, rfl, by rw [eq, ptF, if_neg (by decide), if_neg (by rw [hc]; decide), if_neg hpl], by rw [eq, ptF, if_neg (by decide), if_neg (by rw [hc]; decide), if_neg hpl]⟩
    · have hc := b2i_ne0 c30
      refine E_bipush (v := 6) d_X_put_33 (by decide) ?_
      exact E_ireturn d_X_put_35 (Or.inl rfl) rfl ⟨_, rfl, by rw [eq, ptF, if_neg (by decide), if_pos hc], by rw [eq, ptF, if_neg (by decide), if_pos hc]⟩
  · refine E_iload_n d_X_put_5 rfl ?_
    refine E_iconst (v := 2) d_X_put_6 (by decide) ?_
    refine E_icmp_le (tgt := 12) d_X_put_7 (by decide) (fun c => absurd c (nI_ge (a := 2) (by omega) (by omega))) (fun _ => ?_)
    refine E_iconst (v := 2) d_X_put_10 (by decide) ?_
    exact E_ireturn d_X_put_11 (Or.inl rfl) rfl ⟨_, rfl, by rw [eq, ptF, if_pos hbad], by rw [eq, ptF, if_pos hbad]⟩

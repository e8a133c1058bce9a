/-! ===== the reference's methods, second row ===== -/
theorem c_MOD_d {G : iG} {F : Nat} {C M : Nat → Nat → Int32}  : MI G m_MOD_d 1 [vR 50] (HW F C M) (fun x h' => x = nI (bf (M 0 25) 7 5) ∧ h' = HW F C M) := by
  refine Mt.of' (Ls := [some (vR 50)]) (by decide) (by simp [ct]) (Nat.le_of_ble_eq_true rfl) rfl ?_
  refine E_aload_n d_MOD_d_0 rfl rfl ?_
  refine E_bipush (v := 7) d_MOD_d_1 (by decide) ?_
  refine E_iconst (v := 5) d_MOD_d_3 (by decide) ?_
  refine E_V2i d_MOD_d_4 w_MOD_110 rfl (by decide) (Nat.le_of_ble_eq_true rfl) (c_MOD_bits (a := 7) (k := 5) (by decide) (by decide) (by decide)) ?_
  rintro _ _ ⟨rfl, rfl⟩
  exact E_ireturn d_MOD_d_7 (Or.inl rfl) rfl ⟨_, rfl, rfl, rfl⟩
theorem c_MOD_s {G : iG} {F : Nat} {C M : Nat → Nat → Int32} {p : Nat} (hp : M 0 24 = nI p) (hp8 : p ≤ 8) : MI G m_MOD_s 1 [vR 50] (HW F C M) (fun x h' => x = M 9 (32 * p + bf (M 0 25) 15 5) ∧ h' = HW F C M) := by
  refine Mt.of' (Ls := [some (vR 50)]) (by decide) (by simp [ct]) (Nat.le_of_ble_eq_true rfl) rfl ?_
  refine E_aload_n d_MOD_s_0 rfl rfl ?_
  refine E_aload_n d_MOD_s_1 rfl rfl ?_
  refine E_bipush (v := 15) d_MOD_s_2 (by decide) ?_
  refine E_iconst (v := 5) d_MOD_s_4 (by decide) ?_
  refine E_V2i d_MOD_s_5 w_MOD_110 rfl (by decide) (Nat.le_of_ble_eq_true rfl) (c_MOD_bits (a := 15) (k := 5) (by decide) (by decide) (by decide)) ?_
  rintro _ _ ⟨rfl, rfl⟩
  refine E_V1i d_MOD_s_8 w_MOD_113 rfl (by decide) (Nat.le_of_ble_eq_true rfl) (c_MOD_get hp hp8 (bf_lt _ _ 5)) ?_
  rintro _ _ ⟨rfl, rfl⟩
  exact E_ireturn d_MOD_s_11 (Or.inl rfl) rfl ⟨_, rfl, rfl, rfl⟩
theorem c_MOD_t {G : iG} {F : Nat} {C M : Nat → Nat → Int32} {p : Nat} (hp : M 0 24 = nI p) (hp8 : p ≤ 8) : MI G m_MOD_t 1 [vR 50] (HW F C M) (fun x h' => x = M 9 (32 * p + bf (M 0 25) 20 5) ∧ h' = HW F C M) := by
  refine Mt.of' (Ls := [some (vR 50)]) (by decide) (by simp [ct]) (Nat.le_of_ble_eq_true rfl) rfl ?_
  refine E_aload_n d_MOD_t_0 rfl rfl ?_
  refine E_aload_n d_MOD_t_1 rfl rfl ?_
  refine E_bipush (v := 20) d_MOD_t_2 (by decide) ?_
  refine E_iconst (v := 5) d_MOD_t_4 (by decide) ?_
  refine E_V2i d_MOD_t_5 w_MOD_110 rfl (by decide) (Nat.le_of_ble_eq_true rfl) (c_MOD_bits (a := 20) (k := 5) (by decide) (by decide) (by decide)) ?_
  rintro _ _ ⟨rfl, rfl⟩
  refine E_V1i d_MOD_t_8 w_MOD_113 rfl (by decide) (Nat.le_of_ble_eq_true rfl) (c_MOD_get hp hp8 (bf_lt _ _ 5)) ?_
  rintro _ _ ⟨rfl, rfl⟩
  exact E_ireturn d_MOD_t_11 (Or.inl rfl) rfl ⟨_, rfl, rfl, rfl⟩
theorem c_MOD_byteAt {G : iG} {F : Nat} {C M : Nat → Nat → Int32} {p s a f : Nat} (hp : p ≤ 8) (hs : s ≤ 8) (ha : a < 64 * s) (hf : M 10 (8 * p + a / 64) = nI f) (hf40 : f < 40) : MI G m_MOD_byteAt 1 [vR 50, vI (nI p), vI (nI a)] (HW F C M) (fun x h' => x = (M 1 (16 * f + a % 64 / 4) >>> (nI (8 * (a % 4)) &&& 31)) &&& 255 ∧ h' = HW F C M) := by
  refine Mt.of' (Ls := [some (vR 50), some (vI (nI p)), some (vI (nI a))]) (by decide) (by simp [ct]) (Nat.le_of_ble_eq_true rfl) rfl ?_
  refine E_aload_n d_MOD_byteAt_0 rfl rfl ?_
  refine L_gr d_MOD_byteAt_1 f_MOD_7 rfl (by decide) rfl rfl ?_
  refine E_aload_n d_MOD_byteAt_4 rfl rfl ?_
  refine E_iload_n d_MOD_byteAt_5 rfl ?_
  refine E_iload_n d_MOD_byteAt_6 rfl ?_
  refine E_V2i d_MOD_byteAt_7 w_MOD_80 rfl (by decide) (Nat.le_of_ble_eq_true rfl) (c_MOD_cellOf hp hs ha) ?_
  rintro _ _ ⟨rfl, rfl⟩
  refine E_tp (y := nI (16 * f + a % 64 / 4)) (by rw [hf, pk_mul, nI_add]) ?_
  refine L_ld (j := 16 * f + a % 64 / 4) d_MOD_byteAt_10 rfl rfl (by omega) (by decide) (fr_M 1 _) ?_
  refine E_bipush (v := 8) d_MOD_byteAt_11 (by decide) ?_
  refine E_iload_n d_MOD_byteAt_13 rfl ?_
  refine E_iconst (v := 4) d_MOD_byteAt_14 (by decide) ?_
  refine E_irem d_MOD_byteAt_15 (by decide) ?_
  refine E_tp (y := nI (a % 4)) (pk_rem (d := 4) (by omega) (by decide) (by decide)) ?_
  refine E_imul d_MOD_byteAt_16 ?_
  refine E_tp (y := nI (8 * (a % 4))) (pk_mul 8 (a % 4)) ?_
  refine E_ishr d_MOD_byteAt_17 ?_
  refine E_sipush (v := 255) d_MOD_byteAt_18 (by decide) ?_
  refine E_iand d_MOD_byteAt_21 ?_
  exact E_ireturn d_MOD_byteAt_22 (Or.inl rfl) rfl ⟨_, rfl, rfl, rfl⟩
theorem c_MOD_putByte {G : iG} {F : Nat} {C M : Nat → Nat → Int32} {p s a f : Nat} {b : Int32} (hp : p ≤ 8) (hs : s ≤ 8) (ha : a < 64 * s) (hf : M 10 (8 * p + a / 64) = nI f) (hf40 : f < 40) : MV G m_MOD_putByte 1 [vR 50, vI (nI p), vI (nI a), vI b] (HW F C M) (fun h' => h' = HW F C (up2 M 1 (16 * f + a % 64 / 4) ((M 1 (16 * f + a % 64 / 4) &&& (((255 : Int32) <<< (nI (8 * (a % 4)) &&& 31)) ^^^ -1)) ||| ((b &&& 255) <<< (nI (8 * (a % 4)) &&& 31))))) := by
  refine Mt.of' (Ls := [some (vR 50), some (vI (nI p)), some (vI (nI a)), some (vI b), none, none]) (by decide) (by simp [ct]) (Nat.le_of_ble_eq_true rfl) rfl ?_
  refine E_aload_n d_MOD_putByte_0 rfl rfl ?_
  refine E_iload_n d_MOD_putByte_1 rfl ?_
  refine E_iload_n d_MOD_putByte_2 rfl ?_
  refine E_V2i d_MOD_putByte_3 w_MOD_80 rfl (by decide) (Nat.le_of_ble_eq_true rfl) (c_MOD_cellOf hp hs ha) ?_
  rintro _ _ ⟨rfl, rfl⟩
  refine E_tp (y := nI (16 * f + a % 64 / 4)) (by rw [hf, pk_mul, nI_add]) ?_
  refine E_istore d_MOD_putByte_6 (by decide) ?_
  refine E_bipush (v := 8) d_MOD_putByte_8 (by decide) ?_
  refine E_iload_n d_MOD_putByte_10 rfl ?_
  refine E_iconst (v := 4) d_MOD_putByte_11 (by decide) ?_
  refine E_irem d_MOD_putByte_12 (by decide) ?_
  refine E_tp (y := nI (a % 4)) (pk_rem (d := 4) (by omega) (by decide) (by decide)) ?_
  refine E_imul d_MOD_putByte_13 ?_
  refine E_tp (y := nI (8 * (a % 4))) (pk_mul 8 (a % 4)) ?_
  refine E_istore d_MOD_putByte_14 (by decide) ?_
  refine E_aload_n d_MOD_putByte_16 rfl rfl ?_
  refine L_gr d_MOD_putByte_17 f_MOD_7 rfl (by decide) rfl rfl ?_
  refine E_iload d_MOD_putByte_20 rfl ?_
  refine E_aload_n d_MOD_putByte_22 rfl rfl ?_
  refine L_gr d_MOD_putByte_23 f_MOD_7 rfl (by decide) rfl rfl ?_
  refine E_iload d_MOD_putByte_26 rfl ?_
  refine L_ld (j := 16 * f + a % 64 / 4) d_MOD_putByte_28 rfl rfl (by omega) (by decide) (fr_M 1 _) ?_
  refine E_sipush (v := 255) d_MOD_putByte_29 (by decide) ?_
  refine E_iload d_MOD_putByte_32 rfl ?_
  refine E_ishl d_MOD_putByte_34 ?_
  refine E_iconst (v := -1) d_MOD_putByte_35 (by decide) ?_
  refine E_ixor d_MOD_putByte_36 ?_
  refine E_iand d_MOD_putByte_37 ?_
  refine E_iload_n d_MOD_putByte_38 rfl ?_
  refine E_sipush (v := 255) d_MOD_putByte_39 (by decide) ?_
  refine E_iand d_MOD_putByte_42 ?_
  refine E_iload d_MOD_putByte_43 rfl ?_
  refine E_ishl d_MOD_putByte_45 ?_
  refine E_ior d_MOD_putByte_46 ?_
  refine L_st (j := 16 * f + a % 64 / 4) d_MOD_putByte_47 rfl rfl (by omega) (by decide) (fu_M 1 _ _) ?_
  exact E_return d_MOD_putByte_48 rfl rfl ⟨rfl, rfl⟩
theorem c_MOD_descriptorOf {G : iG} {F : Nat} {C M : Nat → Nat → Int32} {p : Nat} {x0 : Int32} (hp : p ≤ 8) : MI G m_MOD_descriptorOf 0 [vR 50, vI (nI p), vI x0] (HW F C M) (fun x h' => x = (if 0 ≤ x0 ∧ x0 < 6 then M 11 (6 * p + x0.toNatClampNeg) else -1) ∧ h' = HW F C M) := by
  refine Mt.of' (Ls := [some (vR 50), some (vI (nI p)), some (vI x0)]) (by decide) (by simp [ct]) (Nat.le_of_ble_eq_true rfl) rfl ?_
  refine E_iload_n d_MOD_descriptorOf_0 rfl ?_
  refine E_if_lt (tgt := 24) d_MOD_descriptorOf_1 (by decide) (fun c1 => ?_) (fun c1 => ?_)
  · have c : ¬ (0 ≤ x0 ∧ x0 < 6) := fun q => absurd c1 (Int32.not_lt.mpr q.1)
    refine E_iconst (v := -1) d_MOD_descriptorOf_24 (by decide) ?_
    exact E_ireturn d_MOD_descriptorOf_25 (Or.inl rfl) rfl ⟨_, rfl, by first | rw [if_neg c] | (rw [if_pos c, nI_clamp (by omega)]), rfl⟩
  · refine E_iload_n d_MOD_descriptorOf_4 rfl ?_
    refine E_bipush (v := 6) d_MOD_descriptorOf_5 (by decide) ?_
    refine E_icmp_ge (tgt := 24) d_MOD_descriptorOf_7 (by decide) (fun c7 => ?_) (fun c7 => ?_)
    · have c : ¬ (0 ≤ x0 ∧ x0 < 6) := fun q => absurd q.2 (Int32.not_lt.mpr c7)
      refine E_iconst (v := -1) d_MOD_descriptorOf_24 (by decide) ?_
      exact E_ireturn d_MOD_descriptorOf_25 (Or.inl rfl) rfl ⟨_, rfl, by first | rw [if_neg c] | (rw [if_pos c, nI_clamp (by omega)]), rfl⟩
    · have c : 0 ≤ x0 ∧ x0 < 6 := ⟨Int32.not_lt.mp c1, Int32.not_le.mp c7⟩
      obtain ⟨k, hk, rfl⟩ : ∃ k : Nat, k < 6 ∧ x0 = nI k := by rcases pk_ix x0 (n := 6) (by decide) with q | q | q; exact absurd q c1; exact absurd q c7; exact q
      refine E_aload_n d_MOD_descriptorOf_10 rfl rfl ?_
      refine L_gr d_MOD_descriptorOf_11 f_MOD_40 rfl (by decide) rfl rfl ?_
      refine E_bipush (v := 6) d_MOD_descriptorOf_14 (by decide) ?_
      refine E_iload_n d_MOD_descriptorOf_16 rfl ?_
      refine E_imul d_MOD_descriptorOf_17 ?_
      refine E_tp (y := nI (6 * p)) (pk_mul 6 p) ?_
      refine E_iload_n d_MOD_descriptorOf_18 rfl ?_
      refine E_iadd d_MOD_descriptorOf_19 ?_
      refine L_ld (j := 6 * p + k) d_MOD_descriptorOf_20 rfl (nI_add (6 * p) k) (by omega) (by decide) (fr_M 11 _) ?_
      refine E_goto (tgt := 25) d_MOD_descriptorOf_21 (by decide) ?_
      exact E_ireturn d_MOD_descriptorOf_25 (Or.inl rfl) rfl ⟨_, rfl, by first | rw [if_neg c] | (rw [if_pos c, nI_clamp (by omega)]), rfl⟩
theorem lp_MOD_isHeld {G : iG} {F : Nat} {C M : Nat → Nat → Int32} {e : Int32} {Q : Option iV → iH → Prop} (hQ : Q (some (vI (b2i (hel M e)))) (HW F C M)) : ∀ (n k : Nat) (x : Int32), k + n = 48 → x = b2i ((List.range k).any (fun j => M 11 (6 + j) == e)) → Ev G m_MOD_isHeld 0 0 0 5 [some (vR 50), some (vI e), some (vI x), some (vI (nI (6 + k)))] [] (HW F C M) Q := by
  intro n
  induction n with
  | zero =>
    intro k x hk hx
    refine E_iload_n d_MOD_isHeld_5 rfl ?_
    refine E_bipush (v := 54) d_MOD_isHeld_6 (by decide) ?_
    refine E_icmp_ge (tgt := 37) d_MOD_isHeld_8 (by decide) (fun _ => ?_) (fun c => absurd (nI_le (a := 54) (by omega) (by omega)) c)
    refine E_iload_n d_MOD_isHeld_37 rfl ?_
    exact E_ireturn d_MOD_isHeld_38 (Or.inr ⟨rfl, (by rw [hx]; exact b2i_01 _)⟩) rfl (by rw [hx, show k = 48 by omega]; exact hQ)
  | succ n ih =>
    intro k x hk hx
    refine E_iload_n d_MOD_isHeld_5 rfl ?_
    refine E_bipush (v := 54) d_MOD_isHeld_6 (by decide) ?_
    refine E_icmp_ge (tgt := 37) d_MOD_isHeld_8 (by decide) (fun c => absurd c (nI_ge (a := 6 + k) (b := 54) (by omega) (by decide))) (fun _ => ?_)
    refine E_iload_n d_MOD_isHeld_11 rfl ?_
    refine E_if_ne (tgt := 25) d_MOD_isHeld_12 (by decide) (fun c12 => ?_) (fun c12 => ?_)
    · have c : (List.range k).any (fun j => M 11 (6 + j) == e) = true := by cases h : (List.range k).any (fun j => M 11 (6 + j) == e) with | true => rfl | false => exact absurd (by rw [hx, h]; rfl) c12
      have r : b2i ((List.range (k + 1)).any (fun j => M 11 (6 + j) == e)) = 1 := by rw [any_succ, c]; rfl
      refine E_iconst (v := 1) d_MOD_isHeld_25 (by decide) ?_
      refine E_goto (tgt := 30) d_MOD_isHeld_26 (by decide) ?_
      refine E_istore_n d_MOD_isHeld_30 (by decide) ?_
      refine E_iinc (v := nI (6 + k + 1)) d_MOD_isHeld_31 rfl (nI_1 _) (by decide) ?_
      refine E_goto (tgt := 5) d_MOD_isHeld_34 (by decide) ?_
      exact ih (k + 1) _ (by omega) r.symm
    · have c : (List.range k).any (fun j => M 11 (6 + j) == e) = false := by cases h : (List.range k).any (fun j => M 11 (6 + j) == e) with | false => rfl | true => rw [hx, h] at c12; exact absurd c12 (by decide)
      refine E_aload_n d_MOD_isHeld_15 rfl rfl ?_
      refine L_gr d_MOD_isHeld_16 f_MOD_40 rfl (by decide) rfl rfl ?_
      refine E_iload_n d_MOD_isHeld_19 rfl ?_
      refine L_ld (j := 6 + k) d_MOD_isHeld_20 rfl rfl (by omega) (by decide) (fr_M 11 _) ?_
      refine E_iload_n d_MOD_isHeld_21 rfl ?_
      refine E_icmp_ne (tgt := 29) d_MOD_isHeld_22 (by decide) (fun c22 => ?_) (fun c22 => ?_)
      · have r : b2i ((List.range (k + 1)).any (fun j => M 11 (6 + j) == e)) = 0 := by rw [any_succ, c]; simp [c22, b2i]
        refine E_iconst (v := 0) d_MOD_isHeld_29 (by decide) ?_
        refine E_istore_n d_MOD_isHeld_30 (by decide) ?_
        refine E_iinc (v := nI (6 + k + 1)) d_MOD_isHeld_31 rfl (nI_1 _) (by decide) ?_
        refine E_goto (tgt := 5) d_MOD_isHeld_34 (by decide) ?_
        exact ih (k + 1) _ (by omega) r.symm
      · have r : b2i ((List.range (k + 1)).any (fun j => M 11 (6 + j) == e)) = 1 := by rw [any_succ, c]; simp [c22, b2i]
        refine E_iconst (v := 1) d_MOD_isHeld_25 (by decide) ?_
        refine E_goto (tgt := 30) d_MOD_isHeld_26 (by decide) ?_
        refine E_istore_n d_MOD_isHeld_30 (by decide) ?_
        refine E_iinc (v := nI (6 + k + 1)) d_MOD_isHeld_31 rfl (nI_1 _) (by decide) ?_
        refine E_goto (tgt := 5) d_MOD_isHeld_34 (by decide) ?_
        exact ih (k + 1) _ (by omega) r.symm
theorem c_MOD_isHeld {G : iG} {F : Nat} {C M : Nat → Nat → Int32} {e : Int32} : MI G m_MOD_isHeld 0 [vR 50, vI e] (HW F C M) (fun x h' => x = b2i (hel M e) ∧ h' = HW F C M) := by
  refine Mt.of' (Ls := [some (vR 50), some (vI e), none, none]) (by decide) (by simp [ct]) (Nat.le_of_ble_eq_true rfl) rfl ?_
  refine E_iconst (v := 0) d_MOD_isHeld_0 (by decide) ?_
  refine E_istore_n d_MOD_isHeld_1 (by decide) ?_
  refine E_bipush (v := 6) d_MOD_isHeld_2 (by decide) ?_
  refine E_istore_n d_MOD_isHeld_4 (by decide) ?_
  exact lp_MOD_isHeld ⟨_, rfl, rfl, rfl⟩ 48 0 0 rfl rfl
theorem lp_MOD_freeFrames {G : iG} {F : Nat} {C M : Nat → Nat → Int32} {Q : Option iV → iH → Prop} {fr : Nat} (hfr : M 0 0 = nI fr) (h40 : fr ≤ 40) (hQ : Q (some (vI (nI (nfr M fr)))) (HW F C M)) : ∀ (n k : Nat), k + n = fr → Ev G m_MOD_freeFrames 0 0 0 4 [some (vR 50), some (vI (nI (nfr M k))), some (vI (nI k))] [] (HW F C M) Q := by
  intro n
  induction n with
  | zero =>
    intro k hk
    refine E_iload_n d_MOD_freeFrames_4 rfl ?_
    refine E_aload_n d_MOD_freeFrames_5 rfl rfl ?_
    refine L_gi d_MOD_freeFrames_6 f_MOD_55 rfl (by decide) rfl (fr_M 0 0) ?_
    refine E_tp (y := nI (fr)) hfr ?_
    refine E_icmp_ge (tgt := 35) d_MOD_freeFrames_9 (by decide) (fun _ => ?_) (fun c => absurd (nI_le (by omega) (by omega)) c)
    refine E_iload_n d_MOD_freeFrames_35 rfl ?_
    exact E_ireturn d_MOD_freeFrames_36 (Or.inl rfl) rfl (by rw [show k = fr by omega]; exact hQ)
  | succ n ih =>
    intro k hk
    have hn := nfr_le M k
    refine E_iload_n d_MOD_freeFrames_4 rfl ?_
    refine E_aload_n d_MOD_freeFrames_5 rfl rfl ?_
    refine L_gi d_MOD_freeFrames_6 f_MOD_55 rfl (by decide) rfl (fr_M 0 0) ?_
    refine E_tp (y := nI (fr)) hfr ?_
    refine E_icmp_ge (tgt := 35) d_MOD_freeFrames_9 (by decide) (fun c => absurd c (nI_ge (by omega) (by omega))) (fun _ => ?_)
    refine E_aload_n d_MOD_freeFrames_12 rfl rfl ?_
    refine L_gr d_MOD_freeFrames_13 f_MOD_13 rfl (by decide) rfl rfl ?_
    refine E_iload_n d_MOD_freeFrames_16 rfl ?_
    refine L_ld (j := k) d_MOD_freeFrames_17 rfl rfl (by omega) (by decide) (fr_M 2 _) ?_
    refine E_if_ne (tgt := 27) d_MOD_freeFrames_18 (by decide) (fun c18 => ?_) (fun c18 => ?_)
    · refine E_iload_n d_MOD_freeFrames_27 rfl ?_
      try rw [show nI (nfr M k) = nI (nfr M (k + 1)) by rw [nfr, if_neg c18]; rfl]
      try rw [show nI (nfr M k + 1) = nI (nfr M (k + 1)) by rw [nfr, if_pos c18]]
      refine E_istore_n d_MOD_freeFrames_28 (by decide) ?_
      refine E_iinc (v := nI (k + 1)) d_MOD_freeFrames_29 rfl (nI_1 _) (by decide) ?_
      refine E_goto (tgt := 4) d_MOD_freeFrames_32 (by decide) ?_
      exact ih (k + 1) (by omega)
    · refine E_iload_n d_MOD_freeFrames_21 rfl ?_
      refine E_iconst (v := 1) d_MOD_freeFrames_22 (by decide) ?_
      refine E_iadd d_MOD_freeFrames_23 ?_
      refine E_tp (y := nI (nfr M k + 1)) (nI_add (nfr M k) 1) ?_
      refine E_goto (tgt := 28) d_MOD_freeFrames_24 (by decide) ?_
      try rw [show nI (nfr M k) = nI (nfr M (k + 1)) by rw [nfr, if_neg c18]; rfl]
      try rw [show nI (nfr M k + 1) = nI (nfr M (k + 1)) by rw [nfr, if_pos c18]]
      refine E_istore_n d_MOD_freeFrames_28 (by decide) ?_
      refine E_iinc (v := nI (k + 1)) d_MOD_freeFrames_29 rfl (nI_1 _) (by decide) ?_
      refine E_goto (tgt := 4) d_MOD_freeFrames_32 (by decide) ?_
      exact ih (k + 1) (by omega)
theorem c_MOD_freeFrames {G : iG} {F : Nat} {C M : Nat → Nat → Int32} {fr : Nat} (hfr : M 0 0 = nI fr) (h40 : fr ≤ 40) : MI G m_MOD_freeFrames 0 [vR 50] (HW F C M) (fun x h' => x = nI (nfr M fr) ∧ h' = HW F C M) := by
  refine Mt.of' (Ls := [some (vR 50), none, none]) (by decide) (by simp [ct]) (Nat.le_of_ble_eq_true rfl) rfl ?_
  refine E_iconst (v := 0) d_MOD_freeFrames_0 (by decide) ?_
  refine E_istore_n d_MOD_freeFrames_1 (by decide) ?_
  refine E_iconst (v := 0) d_MOD_freeFrames_2 (by decide) ?_
  refine E_istore_n d_MOD_freeFrames_3 (by decide) ?_
  exact lp_MOD_freeFrames hfr h40 ⟨_, rfl, rfl, rfl⟩ fr 0 (by omega)
theorem c_MOD_wake {G : iG} {F : Nat} {C M : Nat → Nat → Int32} {p m : Nat} (hp : p ≤ 8) (hm : M 0 15 = nI m) (hm9 : m < 9) : MV G m_MOD_wake 0 [vR 50, vI (nI p)] (HW F C M) (fun h' => h' = HW F C (wakM M p m)) := by
  refine Mt.of' (Ls := [some (vR 50), some (vI (nI p))]) (by decide) (by simp [ct]) (Nat.le_of_ble_eq_true rfl) rfl ?_
  refine E_aload_n d_MOD_wake_0 rfl rfl ?_
  refine L_gr d_MOD_wake_1 f_MOD_19 rfl (by decide) rfl rfl ?_
  refine E_iload_n d_MOD_wake_4 rfl ?_
  refine E_iconst (v := 1) d_MOD_wake_5 (by decide) ?_
  refine L_st (j := p) d_MOD_wake_6 rfl rfl (by omega) (by decide) (fu_M 4 _ _) ?_
  refine E_aload_n d_MOD_wake_7 rfl rfl ?_
  refine L_gr d_MOD_wake_8 f_MOD_43 rfl (by decide) rfl rfl ?_
  refine E_aload_n d_MOD_wake_11 rfl rfl ?_
  refine L_gi d_MOD_wake_12 f_MOD_77 rfl (by decide) rfl (fr_M 0 15) ?_
  refine E_tp (y := nI (m)) (by simp [up2, hm]) ?_
  refine E_iload_n d_MOD_wake_15 rfl ?_
  refine L_st (j := m) d_MOD_wake_16 rfl rfl (by omega) (by decide) (fu_M 12 _ _) ?_
  refine E_aload_n d_MOD_wake_17 rfl rfl ?_
  refine E_dup d_MOD_wake_18 rfl ?_
  refine L_gi d_MOD_wake_19 f_MOD_77 rfl (by decide) rfl (fr_M 0 15) ?_
  refine E_tp (y := nI (m)) (by simp [up2, hm]) ?_
  refine E_iconst (v := 1) d_MOD_wake_22 (by decide) ?_
  refine E_iadd d_MOD_wake_23 ?_
  refine E_tp (y := nI (m + 1)) (nI_add m 1) ?_
  refine L_pi d_MOD_wake_24 f_MOD_77 rfl (by decide) (Or.inl rfl) rfl (fu_M 0 15 _) ?_
  exact E_return d_MOD_wake_27 rfl rfl ⟨rfl, rfl⟩

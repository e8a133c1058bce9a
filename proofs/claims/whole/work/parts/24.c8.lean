/-! ===== the reference's calls ===== -/
theorem c_grow {G : iG} {F : Nat} {C M : Nat → Nat → Int32} {p s : Nat} (hp : p ≤ 8) (hs : M 8 p = nI s) (hs8 : s < 8) (hf : ff M < 40) : MI G m_MOD_grow 0 [vR 50, vI (nI p)] (HW F C M) (fun x h' => x = nI (ff M) ∧ h' = HW F C (groM M p)) := by
  have e : groM M p = growM M p (ff M) s := by rw [groM, hs, nv_nI (by omega)]
  rw [e]
  exact c_MOD_grow hp hs hs8 (ff_at hf) (ff_min M) hf
theorem c_MOD_leave {G : iG} {F : Nat} {C M : Nat → Nat → Int32} {p m : Nat} (hp : M 0 24 = nI p) (hp8 : p ≤ 8) (hm : M 0 15 = nI m) (hm9 : m ≤ 9) {code : Int32} : MV G m_MOD_leave 3 [vR 50, vI code] (HW F C M) (fun h' => h' = HW F C (endM (up2 M 7 p (M 0 26)) p code m)) := by
  refine Mt.of' (Ls := [some (vR 50), some (vI code)]) (by decide) (by simp [ct]) (Nat.le_of_ble_eq_true rfl) rfl ?_
  refine E_aload_n d_MOD_leave_0 rfl rfl ?_
  refine L_gr d_MOD_leave_1 f_MOD_28 rfl (by decide) rfl rfl ?_
  refine E_aload_n d_MOD_leave_4 rfl rfl ?_
  refine L_gi d_MOD_leave_5 f_MOD_97 rfl (by decide) rfl (fr_M 0 24) ?_
  refine E_tp (y := nI (p)) hp ?_
  refine E_aload_n d_MOD_leave_8 rfl rfl ?_
  refine L_gi d_MOD_leave_9 f_MOD_121 rfl (by decide) rfl (fr_M 0 26) ?_
  refine L_st (j := p) d_MOD_leave_12 rfl rfl (by omega) (by decide) (fu_M 7 _ _) ?_
  refine E_aload_n d_MOD_leave_13 rfl rfl ?_
  refine E_aload_n d_MOD_leave_14 rfl rfl ?_
  refine L_gi d_MOD_leave_15 f_MOD_97 rfl (by decide) rfl (fr_M 0 24) ?_
  refine E_tp (y := nI (p)) ((up2_ne2 _ _ _ _ (by decide)).trans hp) ?_
  refine E_iload_n d_MOD_leave_18 rfl ?_
  refine E_V2v d_MOD_leave_19 w_MOD_103 rfl (by decide) (Nat.le_of_ble_eq_true rfl) (c_MOD_end hp8 ((up2_ne2 _ _ _ _ (by decide)).trans hm) hm9) ?_
  rintro _ rfl
  exact E_return d_MOD_leave_22 rfl rfl ⟨rfl, rfl⟩
theorem c_MOD_close {G : iG} {F : Nat} {C M : Nat → Nat → Int32} {p : Nat} (hp : M 0 24 = nI p) (hp8 : p ≤ 8) {a : Int32} : MI G m_MOD_close 2 [vR 50, vI a] (HW F C M) (fun x h' => (x = if 0 ≤ a ∧ a < 6 ∧ 0 ≤ M 11 (6 * p + nv a) then 0 else -1) ∧ h' = HW F C (if 0 ≤ a ∧ a < 6 ∧ 0 ≤ M 11 (6 * p + nv a) then clsM M p (nv a) else M)) := by
  refine Mt.of' (Ls := [some (vR 50), some (vI a)]) (by decide) (by simp [ct]) (Nat.le_of_ble_eq_true rfl) rfl ?_
  by_cases ha : 0 ≤ a ∧ a < 6
  · obtain ⟨k, hk, rfl⟩ : ∃ k : Nat, k < 6 ∧ a = nI k := by rcases pk_ix a (n := 6) (by decide) with q | q | q; exact absurd q (Int32.not_lt.mpr ha.1); exact absurd ha.2 (Int32.not_lt.mpr q); exact q
    have e : nv (nI k) = k := nv_nI (by omega)
    refine E_aload_n d_MOD_close_0 rfl rfl ?_
    refine E_aload_n d_MOD_close_1 rfl rfl ?_
    refine L_gi d_MOD_close_2 f_MOD_97 rfl (by decide) rfl (fr_M 0 24) ?_
    refine E_tp (y := nI (p)) hp ?_
    refine E_iload_n d_MOD_close_5 rfl ?_
    refine E_V2i d_MOD_close_6 w_MOD_191 rfl (by decide) (Nat.le_of_ble_eq_true rfl) (c_MOD_descriptorOf hp8) ?_
    rintro _ _ ⟨rfl, rfl⟩
    rw [if_pos ha, show (nI k).toNatClampNeg = k from e]
    refine E_if_ge (tgt := 14) d_MOD_close_9 (by decide) (fun c9 => ?_) (fun c9 => ?_)
    · refine E_aload_n d_MOD_close_14 rfl rfl ?_
      refine L_gr d_MOD_close_15 f_MOD_40 rfl (by decide) rfl rfl ?_
      refine E_bipush (v := 6) d_MOD_close_18 (by decide) ?_
      refine E_aload_n d_MOD_close_20 rfl rfl ?_
      refine L_gi d_MOD_close_21 f_MOD_97 rfl (by decide) rfl (fr_M 0 24) ?_
      refine E_tp (y := nI (p)) hp ?_
      refine E_imul d_MOD_close_24 ?_
      refine E_tp (y := nI (6 * p)) (pk_mul 6 p) ?_
      refine E_iload_n d_MOD_close_25 rfl ?_
      refine E_iadd d_MOD_close_26 ?_
      refine E_tp (y := nI (6 * p + k)) (nI_add (6 * p) k) ?_
      refine E_iconst (v := -1) d_MOD_close_27 (by decide) ?_
      refine L_st (j := 6 * p + k) d_MOD_close_28 rfl rfl (by omega) (by decide) (fu_M 11 _ _) ?_
      refine E_aload_n d_MOD_close_29 rfl rfl ?_
      refine E_V0v d_MOD_close_30 w_MOD_88 rfl (by decide) (Nat.le_of_ble_eq_true rfl) (c_MOD_tidyPipes) ?_
      rintro _ rfl
      refine E_iconst (v := 0) d_MOD_close_33 (by decide) ?_
      exact E_ireturn d_MOD_close_34 (Or.inl rfl) rfl ⟨_, rfl, by rw [e, if_pos ⟨ha.1, ha.2, c9⟩], by rw [e, if_pos ⟨ha.1, ha.2, c9⟩]; rfl⟩
    · refine E_iconst (v := -1) d_MOD_close_12 (by decide) ?_
      exact E_ireturn d_MOD_close_13 (Or.inl rfl) rfl ⟨_, rfl, by rw [e, if_neg (fun q => c9 q.2.2)], by rw [e, if_neg (fun q => c9 q.2.2)]⟩
  · refine E_aload_n d_MOD_close_0 rfl rfl ?_
    refine E_aload_n d_MOD_close_1 rfl rfl ?_
    refine L_gi d_MOD_close_2 f_MOD_97 rfl (by decide) rfl (fr_M 0 24) ?_
    refine E_tp (y := nI (p)) hp ?_
    refine E_iload_n d_MOD_close_5 rfl ?_
    refine E_V2i d_MOD_close_6 w_MOD_191 rfl (by decide) (Nat.le_of_ble_eq_true rfl) (c_MOD_descriptorOf hp8) ?_
    rintro _ _ ⟨rfl, rfl⟩
    rw [if_neg ha]
    refine E_if_ge (tgt := 14) d_MOD_close_9 (by decide) (fun c => absurd c (by decide)) (fun _ => ?_)
    refine E_iconst (v := -1) d_MOD_close_12 (by decide) ?_
    exact E_ireturn d_MOD_close_13 (Or.inl rfl) rfl ⟨_, rfl, by rw [if_neg (fun q => ha ⟨q.1, q.2.1⟩)], by rw [if_neg (fun q => ha ⟨q.1, q.2.1⟩)]⟩
theorem c_MOD_duplicate {G : iG} {F : Nat} {C M : Nat → Nat → Int32} {p : Nat} (hp : M 0 24 = nI p) (hp8 : p ≤ 8) {e : Int32} : MI G m_MOD_duplicate 1 [vR 50, vI e] (HW F C M) (fun x h' => (x = if 0 ≤ e ∧ fds M p 6 0 < 6 then nI (fds M p 6 0) else -1) ∧ h' = HW F C (if 0 ≤ e ∧ fds M p 6 0 < 6 then up2 M 11 (6 * p + fds M p 6 0) e else M)) := by
  refine Mt.of' (Ls := [some (vR 50), some (vI e), none]) (by decide) (by simp [ct]) (Nat.le_of_ble_eq_true rfl) rfl ?_
  by_cases hd : fds M p 6 0 < 6
  · refine E_aload_n d_MOD_duplicate_0 rfl rfl ?_
    refine E_aload_n d_MOD_duplicate_1 rfl rfl ?_
    refine L_gi d_MOD_duplicate_2 f_MOD_97 rfl (by decide) rfl (fr_M 0 24) ?_
    refine E_tp (y := nI (p)) hp ?_
    refine E_V1i d_MOD_duplicate_5 w_MOD_224 rfl (by decide) (Nat.le_of_ble_eq_true rfl) (c_MOD_freeDescriptor hp8) ?_
    rintro _ _ ⟨rfl, rfl⟩
    rw [fdr, if_pos hd]
    refine E_istore_n d_MOD_duplicate_8 (by decide) ?_
    refine E_iload_n d_MOD_duplicate_9 rfl ?_
    refine E_if_lt (tgt := 17) d_MOD_duplicate_10 (by decide) (fun c10 => ?_) (fun c10 => ?_)
    · refine E_iconst (v := -1) d_MOD_duplicate_17 (by decide) ?_
      exact E_ireturn d_MOD_duplicate_18 (Or.inl rfl) rfl ⟨_, rfl, by rw [if_neg (fun q => absurd c10 (Int32.not_lt.mpr q.1))], by rw [if_neg (fun q => absurd c10 (Int32.not_lt.mpr q.1))]⟩
    · refine E_iload_n d_MOD_duplicate_13 rfl ?_
      refine E_if_ge (tgt := 19) d_MOD_duplicate_14 (by decide) (fun _ => ?_) (fun c => absurd (nI_pos' (by omega)) c)
      refine E_aload_n d_MOD_duplicate_19 rfl rfl ?_
      refine L_gr d_MOD_duplicate_20 f_MOD_40 rfl (by decide) rfl rfl ?_
      refine E_bipush (v := 6) d_MOD_duplicate_23 (by decide) ?_
      refine E_aload_n d_MOD_duplicate_25 rfl rfl ?_
      refine L_gi d_MOD_duplicate_26 f_MOD_97 rfl (by decide) rfl (fr_M 0 24) ?_
      refine E_tp (y := nI (p)) hp ?_
      refine E_imul d_MOD_duplicate_29 ?_
      refine E_tp (y := nI (6 * p)) (pk_mul 6 p) ?_
      refine E_iload_n d_MOD_duplicate_30 rfl ?_
      refine E_iadd d_MOD_duplicate_31 ?_
      refine E_tp (y := nI (6 * p + (fds M p 6 0))) (nI_add (6 * p) (fds M p 6 0)) ?_
      refine E_iload_n d_MOD_duplicate_32 rfl ?_
      refine L_st (j := 6 * p + (fds M p 6 0)) d_MOD_duplicate_33 rfl rfl (by omega) (by decide) (fu_M 11 _ _) ?_
      refine E_iload_n d_MOD_duplicate_34 rfl ?_
      exact E_ireturn d_MOD_duplicate_35 (Or.inl rfl) rfl ⟨_, rfl, by rw [if_pos ⟨Int32.not_lt.mp c10, hd⟩], by rw [if_pos ⟨Int32.not_lt.mp c10, hd⟩]⟩
  · refine E_aload_n d_MOD_duplicate_0 rfl rfl ?_
    refine E_aload_n d_MOD_duplicate_1 rfl rfl ?_
    refine L_gi d_MOD_duplicate_2 f_MOD_97 rfl (by decide) rfl (fr_M 0 24) ?_
    refine E_tp (y := nI (p)) hp ?_
    refine E_V1i d_MOD_duplicate_5 w_MOD_224 rfl (by decide) (Nat.le_of_ble_eq_true rfl) (c_MOD_freeDescriptor hp8) ?_
    rintro _ _ ⟨rfl, rfl⟩
    rw [fdr, if_neg hd]
    refine E_istore_n d_MOD_duplicate_8 (by decide) ?_
    refine E_iload_n d_MOD_duplicate_9 rfl ?_
    refine E_if_lt (tgt := 17) d_MOD_duplicate_10 (by decide) (fun c10 => ?_) (fun c10 => ?_)
    · refine E_iconst (v := -1) d_MOD_duplicate_17 (by decide) ?_
      exact E_ireturn d_MOD_duplicate_18 (Or.inl rfl) rfl ⟨_, rfl, by rw [if_neg (fun q => hd q.2)], by rw [if_neg (fun q => hd q.2)]⟩
    · refine E_iload_n d_MOD_duplicate_13 rfl ?_
      refine E_if_ge (tgt := 19) d_MOD_duplicate_14 (by decide) (fun c => absurd c (by decide)) (fun _ => ?_)
      refine E_iconst (v := -1) d_MOD_duplicate_17 (by decide) ?_
      exact E_ireturn d_MOD_duplicate_18 (Or.inl rfl) rfl ⟨_, rfl, by rw [if_neg (fun q => hd q.2)], by rw [if_neg (fun q => hd q.2)]⟩
def klv (M : Nat → Nat → Int32) (a : Int32) : Bool := decide (1 ≤ a) && decide (a ≤ 8) && decide (0 < M 4 (nv a)) && !decide (M 4 (nv a) = 5)
def kilM (M : Nat → Nat → Int32) (p : Nat) (a : Int32) (m : Nat) : Nat → Nat → Int32 := if klv M a = true then endM (if a = nI p then up2 (setM M p 10 0) 7 p (M 0 26) else setM M p 10 0) (nv a) 137 m else refM M p
theorem c_MOD_kill {G : iG} {F : Nat} {C M : Nat → Nat → Int32} {p m : Nat} (hp : M 0 24 = nI p) (hp8 : p ≤ 8) (hm : M 0 15 = nI m) (hm9 : m ≤ 9) {a : Int32} : MV G m_MOD_kill 3 [vR 50, vI a] (HW F C M) (fun h' => h' = HW F C (kilM M p a m)) := by
  refine Mt.of' (Ls := [some (vR 50), some (vI a), none]) (by decide) (by simp [ct]) (Nat.le_of_ble_eq_true rfl) rfl ?_
  have tail : klv M a = false → Ev G m_MOD_kill 3 0 0 34 [some (vR 50), some (vI a), none] [] (HW F C M) (fun r h' => r = none ∧ h' = HW F C (kilM M p a m)) := by
    intro hk
    refine E_iconst (v := 0) d_MOD_kill_34 (by decide) ?_
    refine E_istore_n d_MOD_kill_35 (by decide) ?_
    refine E_aload_n d_MOD_kill_36 rfl rfl ?_
    refine E_bipush (v := 10) d_MOD_kill_37 (by decide) ?_
    refine E_iload_n d_MOD_kill_39 rfl ?_
    refine E_if_eq (tgt := 47) d_MOD_kill_40 (by decide) (fun _ => ?_) (fun c => absurd (by decide) c)
    refine E_iconst (v := -1) d_MOD_kill_47 (by decide) ?_
    refine E_V2v d_MOD_kill_48 w_MOD_135 rfl (by decide) (Nat.le_of_ble_eq_true rfl) (c_MOD_set hp hp8 (by decide)) ?_
    rintro _ rfl
    refine E_iload_n d_MOD_kill_51 rfl ?_
    refine E_if_ne (tgt := 56) d_MOD_kill_52 (by decide) (fun c => absurd (by decide) c) (fun _ => ?_)
    exact E_return d_MOD_kill_55 rfl rfl ⟨rfl, by rw [kilM, hk]; rfl⟩
  by_cases ha : 1 ≤ a ∧ a ≤ 8
  · obtain ⟨q, hq1, hq8, rfl⟩ := in18 ha.1 ha.2
    have e : nv (nI q) = q := nv_nI (by omega)
    have hb : decide ((1 : Int32) ≤ nI q) = true := decide_eq_true ha.1
    have hb2 : decide (nI q ≤ (8 : Int32)) = true := decide_eq_true ha.2
    refine E_iload_n d_MOD_kill_0 rfl ?_
    refine E_iconst (v := 1) d_MOD_kill_1 (by decide) ?_
    refine E_icmp_lt (tgt := 34) d_MOD_kill_2 (by decide) (fun c => absurd c (Int32.not_lt.mpr ha.1)) (fun _ => ?_)
    refine E_iload_n d_MOD_kill_5 rfl ?_
    refine E_bipush (v := 8) d_MOD_kill_6 (by decide) ?_
    refine E_icmp_gt (tgt := 34) d_MOD_kill_8 (by decide) (fun c => absurd c (Int32.not_lt.mpr ha.2)) (fun _ => ?_)
    refine E_aload_n d_MOD_kill_11 rfl rfl ?_
    refine L_gr d_MOD_kill_12 f_MOD_19 rfl (by decide) rfl rfl ?_
    refine E_iload_n d_MOD_kill_15 rfl ?_
    refine L_ld (j := q) d_MOD_kill_16 rfl rfl (by omega) (by decide) (fr_M 4 _) ?_
    refine E_if_le (tgt := 34) d_MOD_kill_17 (by decide) (fun c17 => ?_) (fun c17 => ?_)
    · exact tail (by rw [klv, hb, hb2, e, decide_eq_false (Int32.not_lt.mpr c17)]; rfl)
    · refine E_aload_n d_MOD_kill_20 rfl rfl ?_
      refine L_gr d_MOD_kill_21 f_MOD_19 rfl (by decide) rfl rfl ?_
      refine E_iload_n d_MOD_kill_24 rfl ?_
      refine L_ld (j := q) d_MOD_kill_25 rfl rfl (by omega) (by decide) (fr_M 4 _) ?_
      refine E_iconst (v := 5) d_MOD_kill_26 (by decide) ?_
      refine E_icmp_eq (tgt := 34) d_MOD_kill_27 (by decide) (fun c27 => ?_) (fun c27 => ?_)
      · exact tail (by rw [klv, hb, hb2, e, decide_eq_true c27]; simp)
      · have hk : klv M (nI q) = true := by rw [klv, hb, hb2, e, decide_eq_true (Int32.not_le.mp c17), decide_eq_false c27]; rfl
        refine E_iconst (v := 1) d_MOD_kill_30 (by decide) ?_
        refine E_goto (tgt := 35) d_MOD_kill_31 (by decide) ?_
        refine E_istore_n d_MOD_kill_35 (by decide) ?_
        refine E_aload_n d_MOD_kill_36 rfl rfl ?_
        refine E_bipush (v := 10) d_MOD_kill_37 (by decide) ?_
        refine E_iload_n d_MOD_kill_39 rfl ?_
        refine E_if_eq (tgt := 47) d_MOD_kill_40 (by decide) (fun c => absurd c (by decide)) (fun _ => ?_)
        refine E_iconst (v := 0) d_MOD_kill_43 (by decide) ?_
        refine E_goto (tgt := 48) d_MOD_kill_44 (by decide) ?_
        refine E_V2v d_MOD_kill_48 w_MOD_135 rfl (by decide) (Nat.le_of_ble_eq_true rfl) (c_MOD_set hp hp8 (by decide)) ?_
        rintro _ rfl
        refine E_iload_n d_MOD_kill_51 rfl ?_
        refine E_if_ne (tgt := 56) d_MOD_kill_52 (by decide) (fun _ => ?_) (fun c => absurd c (by decide))
        refine E_iload_n d_MOD_kill_56 rfl ?_
        refine E_aload_n d_MOD_kill_57 rfl rfl ?_
        refine L_gi d_MOD_kill_58 f_MOD_97 rfl (by decide) rfl (fr_M 0 24) ?_
        refine E_tp (y := nI (p)) ((up2_ne2 _ _ _ _ (by decide)).trans hp) ?_
        refine E_icmp_ne (tgt := 77) d_MOD_kill_61 (by decide) (fun c61 => ?_) (fun c61 => ?_)
        · have ck : ¬ nI q = nI p := c61
          refine E_aload_n d_MOD_kill_77 rfl rfl ?_
          refine E_iload_n d_MOD_kill_78 rfl ?_
          refine E_sipush (v := 137) d_MOD_kill_79 (by decide) ?_
          refine E_V2v d_MOD_kill_82 w_MOD_103 rfl (by decide) (Nat.le_of_ble_eq_true rfl) (c_MOD_end (by omega) (by first | exact (up2_ne2 _ _ _ _ (by decide)).trans hm | exact ((up2_ne2 _ _ _ _ (by decide)).trans (up2_ne2 _ _ _ _ (by decide))).trans hm) hm9) ?_
          rintro _ rfl
          exact E_return d_MOD_kill_85 rfl rfl ⟨rfl, by rw [kilM, hk, if_pos rfl, if_neg ck, e]; rfl⟩
        · have ck : nI q = nI p := c61
          refine E_aload_n d_MOD_kill_64 rfl rfl ?_
          refine L_gr d_MOD_kill_65 f_MOD_28 rfl (by decide) rfl rfl ?_
          refine E_aload_n d_MOD_kill_68 rfl rfl ?_
          refine L_gi d_MOD_kill_69 f_MOD_97 rfl (by decide) rfl (fr_M 0 24) ?_
          refine E_tp (y := nI (p)) ((up2_ne2 _ _ _ _ (by decide)).trans hp) ?_
          refine E_aload_n d_MOD_kill_72 rfl rfl ?_
          refine L_gi d_MOD_kill_73 f_MOD_121 rfl (by decide) rfl (fr_M 0 26) ?_
          refine L_st (j := p) d_MOD_kill_76 rfl rfl (by omega) (by decide) (fu_M 7 _ _) ?_
          refine E_aload_n d_MOD_kill_77 rfl rfl ?_
          refine E_iload_n d_MOD_kill_78 rfl ?_
          refine E_sipush (v := 137) d_MOD_kill_79 (by decide) ?_
          refine E_V2v d_MOD_kill_82 w_MOD_103 rfl (by decide) (Nat.le_of_ble_eq_true rfl) (c_MOD_end (by omega) (by first | exact (up2_ne2 _ _ _ _ (by decide)).trans hm | exact ((up2_ne2 _ _ _ _ (by decide)).trans (up2_ne2 _ _ _ _ (by decide))).trans hm) hm9) ?_
          rintro _ rfl
          exact E_return d_MOD_kill_85 rfl rfl ⟨rfl, by rw [kilM, hk, if_pos rfl, if_pos ck, e]; rfl⟩
  · have hk : klv M a = false := by by_cases h1 : 1 ≤ a; (have h8 : ¬ a ≤ 8 := fun q => ha ⟨h1, q⟩; simp [klv, h8]); simp [klv, h1]
    refine E_iload_n d_MOD_kill_0 rfl ?_
    refine E_iconst (v := 1) d_MOD_kill_1 (by decide) ?_
    refine E_icmp_lt (tgt := 34) d_MOD_kill_2 (by decide) (fun c2 => ?_) (fun c2 => ?_)
    · exact tail hk
    · refine E_iload_n d_MOD_kill_5 rfl ?_
      refine E_bipush (v := 8) d_MOD_kill_6 (by decide) ?_
      refine E_icmp_gt (tgt := 34) d_MOD_kill_8 (by decide) (fun c8 => ?_) (fun c8 => ?_)
      · exact tail hk
      · exact absurd ⟨Int32.not_lt.mp c2, Int32.not_lt.mp c8⟩ ha
def waiM (M : Nat → Nat → Int32) (p : Nat) : Nat → Nat → Int32 := if lcf M (nI p) 8 = 0 then blkM M p 4 else if 0 < lcf M (nI p) 8 then remv (setM (setM M p 10 (lcf M (nI p) 8)) p 11 (M 5 (nv (lcf M (nI p) 8)))) (nv (lcf M (nI p) 8)) else setM M p 10 (lcf M (nI p) 8)
theorem lcf_in (M : Nat → Nat → Int32) (p : Int32) : ∀ k, k ≤ 8 → lcf M p k < 0 ∨ lcf M p k = 0 ∨ ∃ c, 1 ≤ c ∧ c ≤ 8 ∧ lcf M p k = nI c
  | 0, _ => Or.inl (show (-1 : Int32) < 0 by decide)
  | k + 1, h => by
    unfold lcf
    split
    · exact Or.inr (Or.inr ⟨8 - k, by omega, by omega, rfl⟩)
    · split
      · exact Or.inr (Or.inl rfl)
      · exact lcf_in M p k (by omega)
theorem c_MOD_waits {G : iG} {F : Nat} {C M : Nat → Nat → Int32} {p : Nat} (hp : M 0 24 = nI p) (hp8 : p ≤ 8) : MV G m_MOD_waits 1 [vR 50] (HW F C M) (fun h' => h' = HW F C (waiM M p)) := by
  refine Mt.of' (Ls := [some (vR 50), none]) (by decide) (by simp [ct]) (Nat.le_of_ble_eq_true rfl) rfl ?_
  obtain ⟨x, hx⟩ : ∃ x, x = lcf M (nI p) 8 := ⟨_, rfl⟩
  have hin := lcf_in M (nI p) 8 (by decide)
  rw [← hx] at hin
  refine E_aload_n d_MOD_waits_0 rfl rfl ?_
  refine E_aload_n d_MOD_waits_1 rfl rfl ?_
  refine L_gi d_MOD_waits_2 f_MOD_97 rfl (by decide) rfl (fr_M 0 24) ?_
  refine E_tp (y := nI (p)) hp ?_
  refine E_V1i d_MOD_waits_5 w_MOD_215 rfl (by decide) (Nat.le_of_ble_eq_true rfl) (c_MOD_lostChild) ?_
  rintro _ _ ⟨rfl, rfl⟩
  rw [← hx]
  refine E_istore_n d_MOD_waits_8 (by decide) ?_
  refine E_iload_n d_MOD_waits_9 rfl ?_
  refine E_if_ne (tgt := 19) d_MOD_waits_10 (by decide) (fun c10 => ?_) (fun c10 => ?_)
  · refine E_aload_n d_MOD_waits_19 rfl rfl ?_
    refine E_bipush (v := 10) d_MOD_waits_20 (by decide) ?_
    refine E_iload_n d_MOD_waits_22 rfl ?_
    refine E_V2v d_MOD_waits_23 w_MOD_135 rfl (by decide) (Nat.le_of_ble_eq_true rfl) (c_MOD_set hp hp8 (by decide)) ?_
    rintro _ rfl
    refine E_iload_n d_MOD_waits_26 rfl ?_
    refine E_if_le (tgt := 47) d_MOD_waits_27 (by decide) (fun c27 => ?_) (fun c27 => ?_)
    · exact E_return d_MOD_waits_47 rfl rfl ⟨rfl, by rw [waiM, ← hx, if_neg c10, if_neg (Int32.not_lt.mpr c27)]; rfl⟩
    · obtain ⟨c, hc1, hc8, hc⟩ : ∃ c, 1 ≤ c ∧ c ≤ 8 ∧ x = nI c := by rcases hin with q | q | q; exact absurd (Int32.le_of_lt q) c27; exact absurd q c10; exact q
      have ec : nv x = c := by rw [hc]; exact nv_nI (by omega)
      refine E_aload_n d_MOD_waits_30 rfl rfl ?_
      refine E_bipush (v := 11) d_MOD_waits_31 (by decide) ?_
      refine E_aload_n d_MOD_waits_33 rfl rfl ?_
      refine L_gr d_MOD_waits_34 f_MOD_22 rfl (by decide) rfl rfl ?_
      refine E_iload_n d_MOD_waits_37 rfl ?_
      refine L_ld (j := c) d_MOD_waits_38 rfl hc (by omega) (by decide) (fr_M 5 _) ?_
      refine E_tp (y := M 5 (nv x)) (by rw [ec]; exact up2_ne2 _ _ _ _ (by decide)) ?_
      refine E_V2v d_MOD_waits_39 w_MOD_135 rfl (by decide) (Nat.le_of_ble_eq_true rfl) (c_MOD_set ((up2_ne2 _ _ _ _ (by decide)).trans hp) hp8 (by decide)) ?_
      rintro _ rfl
      refine E_aload_n d_MOD_waits_42 rfl rfl ?_
      refine E_iload_n d_MOD_waits_43 rfl ?_
      refine E_tp (y := nI c) hc ?_
      refine E_V1v d_MOD_waits_44 w_MOD_94 rfl (by decide) (Nat.le_of_ble_eq_true rfl) (c_MOD_remove hc8) ?_
      rintro _ rfl
      exact E_return d_MOD_waits_47 rfl rfl ⟨rfl, by rw [waiM, ← hx, if_neg c10, if_pos (Int32.not_le.mp c27), ec]; rfl⟩
  · refine E_aload_n d_MOD_waits_13 rfl rfl ?_
    refine E_iconst (v := 4) d_MOD_waits_14 (by decide) ?_
    refine E_V1v d_MOD_waits_15 w_MOD_218 rfl (by decide) (Nat.le_of_ble_eq_true rfl) (c_MOD_block hp hp8) ?_
    rintro _ rfl
    exact E_return d_MOD_waits_18 rfl rfl ⟨rfl, by rw [waiM, ← hx, if_pos c10]⟩

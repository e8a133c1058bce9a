/-! ===== the reference's methods, third row ===== -/
theorem c_MOD_less {G : iG} {h : iH} {a b : Int32} {sg : Bool} : MI G m_MOD_less 0 [vI a, vI b, vI (b2i sg)] (h) (fun x h' => x = b2i (lss a b sg) ∧ h' = h) := by
  refine Mt.of' (Ls := [some (vI a), some (vI b), some (vI (b2i sg))]) (by decide) (by simp [ct]) (Nat.le_of_ble_eq_true rfl) rfl ?_
  refine E_iload_n d_MOD_less_0 rfl ?_
  refine E_if_eq (tgt := 17) d_MOD_less_1 (by decide) (fun c1 => ?_) (fun c1 => ?_)
  · have cs : sg = false := by cases sg with | false => rfl | true => exact absurd c1 (by decide)
    refine E_iload_n d_MOD_less_17 rfl ?_
    refine E_i2l d_MOD_less_18 ?_
    refine E_ldc2 (v := 4294967295) d_MOD_less_19 (by decide +kernel) ?_
    refine E_land d_MOD_less_22 ?_
    refine E_iload_n d_MOD_less_23 rfl ?_
    refine E_i2l d_MOD_less_24 ?_
    refine E_ldc2 (v := 4294967295) d_MOD_less_25 (by decide +kernel) ?_
    refine E_land d_MOD_less_28 ?_
    refine E_lcmp d_MOD_less_29 ?_
    refine E_if_ge (tgt := 37) d_MOD_less_30 (by decide) (fun c30 => ?_) (fun c30 => ?_)
    · have cr : lss a b sg = false := by rw [lg_cmp_ge, u64_le] at c30; simp only [lss, cs]; simp; exact c30
      refine E_iconst (v := 0) d_MOD_less_37 (by decide) ?_
      exact E_ireturn d_MOD_less_38 (Or.inr ⟨rfl, (by decide)⟩) rfl ⟨_, rfl, by rw [cr]; rfl, rfl⟩
    · have cr : lss a b sg = true := by rw [lg_cmp_ge, u64_le] at c30; simp only [lss, cs]; simp; omega
      refine E_iconst (v := 1) d_MOD_less_33 (by decide) ?_
      refine E_goto (tgt := 38) d_MOD_less_34 (by decide) ?_
      exact E_ireturn d_MOD_less_38 (Or.inr ⟨rfl, (by decide)⟩) rfl ⟨_, rfl, by rw [cr]; rfl, rfl⟩
  · have cs : sg = true := by cases sg with | true => rfl | false => exact absurd rfl c1
    refine E_iload_n d_MOD_less_4 rfl ?_
    refine E_iload_n d_MOD_less_5 rfl ?_
    refine E_icmp_ge (tgt := 13) d_MOD_less_6 (by decide) (fun c6 => ?_) (fun c6 => ?_)
    · have cr : lss a b sg = false := by simp only [lss, cs, if_true]; exact decide_eq_false (Int32.not_lt.mpr c6)
      refine E_iconst (v := 0) d_MOD_less_13 (by decide) ?_
      refine E_goto (tgt := 38) d_MOD_less_14 (by decide) ?_
      exact E_ireturn d_MOD_less_38 (Or.inr ⟨rfl, (by decide)⟩) rfl ⟨_, rfl, by rw [cr]; rfl, rfl⟩
    · have cr : lss a b sg = true := by simp only [lss, cs, if_true]; exact decide_eq_true (Int32.not_le.mp c6)
      refine E_iconst (v := 1) d_MOD_less_9 (by decide) ?_
      refine E_goto (tgt := 38) d_MOD_less_10 (by decide) ?_
      exact E_ireturn d_MOD_less_38 (Or.inr ⟨rfl, (by decide)⟩) rfl ⟨_, rfl, by rw [cr]; rfl, rfl⟩
theorem lp_MOD_freeDescriptor {G : iG} {F : Nat} {C M : Nat → Nat → Int32} {Q : Option iV → iH → Prop} {p : Nat} (hp : p ≤ 8) (hQ : Q (some (vI (fdr M p))) (HW F C M)) : ∀ (n k : Nat), k + n = 6 → fds M p n k = fds M p 6 0 → Ev G m_MOD_freeDescriptor 0 0 0 2 [some (vR 50), some (vI (nI p)), some (vI (nI k))] [] (HW F C M) Q := by
  intro n
  induction n with
  | zero =>
    intro k hk hf
    have hk6 : k = 6 := by omega
    subst hk6
    have e6 : fds M p 6 0 = 6 := hf.symm
    refine E_iload_n d_MOD_freeDescriptor_2 rfl ?_
    refine E_bipush (v := 6) d_MOD_freeDescriptor_3 (by decide) ?_
    refine E_icmp_ge (tgt := 28) d_MOD_freeDescriptor_5 (by decide) (fun _ => ?_) (fun c => absurd (nI_le (a := 6) (by omega) (by omega)) c)
    refine E_iload_n d_MOD_freeDescriptor_28 rfl ?_
    refine E_bipush (v := 6) d_MOD_freeDescriptor_29 (by decide) ?_
    refine E_icmp_ge (tgt := 38) d_MOD_freeDescriptor_31 (by decide) (fun _ => ?_) (fun c => absurd (nI_le (a := 6) (by omega) (by omega)) c)
    refine E_iconst (v := -1) d_MOD_freeDescriptor_38 (by decide) ?_
    exact E_ireturn d_MOD_freeDescriptor_39 (Or.inl rfl) rfl (by have := hQ; rw [fdr, e6] at this; exact this)
  | succ n ih =>
    intro k hk hf
    refine E_iload_n d_MOD_freeDescriptor_2 rfl ?_
    refine E_bipush (v := 6) d_MOD_freeDescriptor_3 (by decide) ?_
    refine E_icmp_ge (tgt := 28) d_MOD_freeDescriptor_5 (by decide) (fun c => absurd c (nI_ge (b := 6) (by omega) (by decide))) (fun _ => ?_)
    refine E_aload_n d_MOD_freeDescriptor_8 rfl rfl ?_
    refine L_gr d_MOD_freeDescriptor_9 f_MOD_40 rfl (by decide) rfl rfl ?_
    refine E_bipush (v := 6) d_MOD_freeDescriptor_12 (by decide) ?_
    refine E_iload_n d_MOD_freeDescriptor_14 rfl ?_
    refine E_imul d_MOD_freeDescriptor_15 ?_
    refine E_tp (y := nI (6 * p)) (pk_mul 6 p) ?_
    refine E_iload_n d_MOD_freeDescriptor_16 rfl ?_
    refine E_iadd d_MOD_freeDescriptor_17 ?_
    refine E_tp (y := nI (6 * p + k)) (nI_add (6 * p) k) ?_
    refine L_ld (j := 6 * p + k) d_MOD_freeDescriptor_18 rfl rfl (by omega) (by decide) (fr_M 11 _) ?_
    refine E_if_lt (tgt := 28) d_MOD_freeDescriptor_19 (by decide) (fun c19 => ?_) (fun c19 => ?_)
    · refine E_iload_n d_MOD_freeDescriptor_28 rfl ?_
      refine E_bipush (v := 6) d_MOD_freeDescriptor_29 (by decide) ?_
      refine E_icmp_ge (tgt := 38) d_MOD_freeDescriptor_31 (by decide) (fun c => absurd c (nI_ge (b := 6) (by omega) (by decide))) (fun _ => ?_)
      refine E_iload_n d_MOD_freeDescriptor_34 rfl ?_
      refine E_goto (tgt := 39) d_MOD_freeDescriptor_35 (by decide) ?_
      exact E_ireturn d_MOD_freeDescriptor_39 (Or.inl rfl) rfl (by rw [fds, if_pos c19] at hf; have := hQ; rw [fdr, ← hf, if_pos (by omega)] at this; exact this)
    · refine E_iinc (v := nI (k + 1)) d_MOD_freeDescriptor_22 rfl (nI_1 _) (by decide) ?_
      refine E_goto (tgt := 2) d_MOD_freeDescriptor_25 (by decide) ?_
      exact ih (k + 1) (by omega) (by rw [← hf, fds, if_neg c19])
theorem c_MOD_freeDescriptor {G : iG} {F : Nat} {C M : Nat → Nat → Int32} {p : Nat} (hp : p ≤ 8) : MI G m_MOD_freeDescriptor 0 [vR 50, vI (nI p)] (HW F C M) (fun x h' => x = fdr M p ∧ h' = HW F C M) := by
  refine Mt.of' (Ls := [some (vR 50), some (vI (nI p)), none]) (by decide) (by simp [ct]) (Nat.le_of_ble_eq_true rfl) rfl ?_
  refine E_iconst (v := 0) d_MOD_freeDescriptor_0 (by decide) ?_
  refine E_istore_n d_MOD_freeDescriptor_1 (by decide) ?_
  exact lp_MOD_freeDescriptor hp ⟨_, rfl, rfl, rfl⟩ 6 0 rfl rfl
theorem lp_MOD_tidyPipes {G : iG} {F : Nat} {C M : Nat → Nat → Int32} {Q : Option iV → iH → Prop} (hQ : Q none (HW F C (tidy M))) : ∀ (n k : Nat), k + n = 4 → Ev G m_MOD_tidyPipes 1 0 0 2 [some (vR 50), some (vI (nI k))] [] (HW F C (tidk M k)) Q := by
  intro n
  induction n with
  | zero =>
    intro k hk
    refine E_iload_n d_MOD_tidyPipes_2 rfl ?_
    refine E_iconst (v := 4) d_MOD_tidyPipes_3 (by decide) ?_
    refine E_icmp_ge (tgt := 44) d_MOD_tidyPipes_4 (by decide) (fun _ => ?_) (fun c => absurd (nI_le (a := 4) (by omega) (by omega)) c)
    exact E_return d_MOD_tidyPipes_44 rfl rfl (by rw [show k = 4 by omega]; exact hQ)
  | succ n ih =>
    intro k hk
    refine E_iload_n d_MOD_tidyPipes_2 rfl ?_
    refine E_iconst (v := 4) d_MOD_tidyPipes_3 (by decide) ?_
    refine E_icmp_ge (tgt := 44) d_MOD_tidyPipes_4 (by decide) (fun c => absurd c (nI_ge (b := 4) (by omega) (by decide))) (fun _ => ?_)
    refine E_aload_n d_MOD_tidyPipes_7 rfl rfl ?_
    refine E_iconst (v := 1) d_MOD_tidyPipes_8 (by decide) ?_
    refine E_iconst (v := 2) d_MOD_tidyPipes_9 (by decide) ?_
    refine E_iload_n d_MOD_tidyPipes_10 rfl ?_
    refine E_imul d_MOD_tidyPipes_11 ?_
    refine E_tp (y := nI (2 * k)) (pk_mul 2 k) ?_
    refine E_iadd d_MOD_tidyPipes_12 ?_
    refine E_tp (y := nI (1 + (2 * k))) (nI_add 1 (2 * k)) ?_
    refine E_V1i d_MOD_tidyPipes_13 w_MOD_84 rfl (by decide) (Nat.le_of_ble_eq_true rfl) (c_MOD_isHeld) ?_
    rintro _ _ ⟨rfl, rfl⟩
    refine E_if_ne (tgt := 38) d_MOD_tidyPipes_16 (by decide) (fun c16 => ?_) (fun c16 => ?_)
    · rw [tidk_succ_t M k (fun q => c16 (by rw [hel_tidk, q.1]; rfl))]
      try rw [tidk_succ_f M k h1 h2]
      refine E_iinc (v := nI (k + 1)) d_MOD_tidyPipes_38 rfl (nI_1 _) (by decide) ?_
      refine E_goto (tgt := 2) d_MOD_tidyPipes_41 (by decide) ?_
      exact ih (k + 1) (by omega)
    · have h1 : hel M (nI (1 + 2 * k)) = false := by rw [hel_tidk] at c16; cases h : hel M (nI (1 + 2 * k)) with | false => rfl | true => rw [h] at c16; exact absurd c16 (by decide)
      refine E_aload_n d_MOD_tidyPipes_19 rfl rfl ?_
      refine E_iconst (v := 2) d_MOD_tidyPipes_20 (by decide) ?_
      refine E_iconst (v := 2) d_MOD_tidyPipes_21 (by decide) ?_
      refine E_iload_n d_MOD_tidyPipes_22 rfl ?_
      refine E_imul d_MOD_tidyPipes_23 ?_
      refine E_tp (y := nI (2 * k)) (pk_mul 2 k) ?_
      refine E_iadd d_MOD_tidyPipes_24 ?_
      refine E_tp (y := nI (2 + (2 * k))) (nI_add 2 (2 * k)) ?_
      refine E_V1i d_MOD_tidyPipes_25 w_MOD_84 rfl (by decide) (Nat.le_of_ble_eq_true rfl) (c_MOD_isHeld) ?_
      rintro _ _ ⟨rfl, rfl⟩
      refine E_if_ne (tgt := 38) d_MOD_tidyPipes_28 (by decide) (fun c28 => ?_) (fun c28 => ?_)
      · rw [tidk_succ_t M k (fun q => c28 (by rw [hel_tidk, q.2]; rfl))]
        try rw [tidk_succ_f M k h1 h2]
        refine E_iinc (v := nI (k + 1)) d_MOD_tidyPipes_38 rfl (nI_1 _) (by decide) ?_
        refine E_goto (tgt := 2) d_MOD_tidyPipes_41 (by decide) ?_
        exact ih (k + 1) (by omega)
      · have h2 : hel M (nI (2 + 2 * k)) = false := by rw [hel_tidk] at c28; cases h : hel M (nI (2 + 2 * k)) with | false => rfl | true => rw [h] at c28; exact absurd c28 (by decide)
        refine E_aload_n d_MOD_tidyPipes_31 rfl rfl ?_
        refine L_gr d_MOD_tidyPipes_32 f_MOD_49 rfl (by decide) rfl rfl ?_
        refine E_iload_n d_MOD_tidyPipes_35 rfl ?_
        refine E_iconst (v := 0) d_MOD_tidyPipes_36 (by decide) ?_
        refine L_st (j := k) d_MOD_tidyPipes_37 rfl rfl (by omega) (by decide) (fu_M 14 _ _) ?_
        try rw [tidk_succ_f M k h1 h2]
        refine E_iinc (v := nI (k + 1)) d_MOD_tidyPipes_38 rfl (nI_1 _) (by decide) ?_
        refine E_goto (tgt := 2) d_MOD_tidyPipes_41 (by decide) ?_
        exact ih (k + 1) (by omega)
theorem c_MOD_tidyPipes {G : iG} {F : Nat} {C M : Nat → Nat → Int32}  : MV G m_MOD_tidyPipes 1 [vR 50] (HW F C M) (fun h' => h' = HW F C (tidy M)) := by
  refine Mt.of' (Ls := [some (vR 50), none]) (by decide) (by simp [ct]) (Nat.le_of_ble_eq_true rfl) rfl ?_
  rw [← tidk_zero M]
  refine E_iconst (v := 0) d_MOD_tidyPipes_0 (by decide) ?_
  refine E_istore_n d_MOD_tidyPipes_1 (by decide) ?_
  exact lp_MOD_tidyPipes ⟨rfl, by rw [tidk_zero]⟩ 4 0 rfl
theorem lp_MOD_remove {G : iG} {F : Nat} {C M : Nat → Nat → Int32} {Q : Option iV → iH → Prop} {p : Nat} (hp : p ≤ 8) (hQ : Q none (HW F C (upr M 9 (32 * p) 32 (fun _ => 0)))) : ∀ (n k : Nat), k + n = 32 → Ev G m_MOD_remove 0 0 0 30 [some (vR 50), some (vI (nI p)), some (vI (nI k))] [] (HW F C (upr M 9 (32 * p) k (fun _ => 0))) Q := by
  intro n
  induction n with
  | zero =>
    intro k hk
    refine E_iload_n d_MOD_remove_30 rfl ?_
    refine E_bipush (v := 32) d_MOD_remove_31 (by decide) ?_
    refine E_icmp_ge (tgt := 54) d_MOD_remove_33 (by decide) (fun _ => ?_) (fun c => absurd (nI_le (a := 32) (by omega) (by omega)) c)
    exact E_return d_MOD_remove_54 rfl rfl (by rw [show k = 32 by omega]; exact hQ)
  | succ n ih =>
    intro k hk
    refine E_iload_n d_MOD_remove_30 rfl ?_
    refine E_bipush (v := 32) d_MOD_remove_31 (by decide) ?_
    refine E_icmp_ge (tgt := 54) d_MOD_remove_33 (by decide) (fun c => absurd c (nI_ge (b := 32) (by omega) (by decide))) (fun _ => ?_)
    refine E_aload_n d_MOD_remove_36 rfl rfl ?_
    refine L_gr d_MOD_remove_37 f_MOD_34 rfl (by decide) rfl rfl ?_
    refine E_bipush (v := 32) d_MOD_remove_40 (by decide) ?_
    refine E_iload_n d_MOD_remove_42 rfl ?_
    refine E_imul d_MOD_remove_43 ?_
    refine E_tp (y := nI (32 * p)) (pk_mul 32 p) ?_
    refine E_iload_n d_MOD_remove_44 rfl ?_
    refine E_iadd d_MOD_remove_45 ?_
    refine E_tp (y := nI (32 * p + k)) (nI_add (32 * p) k) ?_
    refine E_iconst (v := 0) d_MOD_remove_46 (by decide) ?_
    refine L_st (j := 32 * p + k) d_MOD_remove_47 rfl rfl (by omega) (by decide) (fu_M 9 _ _) ?_
    refine E_iinc (v := nI (k + 1)) d_MOD_remove_48 rfl (nI_1 _) (by decide) ?_
    refine E_goto (tgt := 30) d_MOD_remove_51 (by decide) ?_
    rw [upr_succ _ 9 (32 * p) k (fun _ => 0)]; exact ih (k + 1) (by omega)
theorem c_MOD_remove {G : iG} {F : Nat} {C M : Nat → Nat → Int32} {p : Nat} (hp : p ≤ 8) : MV G m_MOD_remove 0 [vR 50, vI (nI p)] (HW F C M) (fun h' => h' = HW F C (remv M p)) := by
  refine Mt.of' (Ls := [some (vR 50), some (vI (nI p)), none]) (by decide) (by simp [ct]) (Nat.le_of_ble_eq_true rfl) rfl ?_
  refine E_aload_n d_MOD_remove_0 rfl rfl ?_
  refine L_gr d_MOD_remove_1 f_MOD_19 rfl (by decide) rfl rfl ?_
  refine E_iload_n d_MOD_remove_4 rfl ?_
  refine E_iconst (v := 0) d_MOD_remove_5 (by decide) ?_
  refine L_st (j := p) d_MOD_remove_6 rfl rfl (by omega) (by decide) (fu_M 4 _ _) ?_
  refine E_aload_n d_MOD_remove_7 rfl rfl ?_
  refine L_gr d_MOD_remove_8 f_MOD_22 rfl (by decide) rfl rfl ?_
  refine E_iload_n d_MOD_remove_11 rfl ?_
  refine E_iconst (v := 0) d_MOD_remove_12 (by decide) ?_
  refine L_st (j := p) d_MOD_remove_13 rfl rfl (by omega) (by decide) (fu_M 5 _ _) ?_
  refine E_aload_n d_MOD_remove_14 rfl rfl ?_
  refine L_gr d_MOD_remove_15 f_MOD_25 rfl (by decide) rfl rfl ?_
  refine E_iload_n d_MOD_remove_18 rfl ?_
  refine E_iconst (v := 0) d_MOD_remove_19 (by decide) ?_
  refine L_st (j := p) d_MOD_remove_20 rfl rfl (by omega) (by decide) (fu_M 6 _ _) ?_
  refine E_aload_n d_MOD_remove_21 rfl rfl ?_
  refine L_gr d_MOD_remove_22 f_MOD_28 rfl (by decide) rfl rfl ?_
  refine E_iload_n d_MOD_remove_25 rfl ?_
  refine E_iconst (v := 0) d_MOD_remove_26 (by decide) ?_
  refine L_st (j := p) d_MOD_remove_27 rfl rfl (by omega) (by decide) (fu_M 7 _ _) ?_
  refine E_iconst (v := 0) d_MOD_remove_28 (by decide) ?_
  refine E_istore_n d_MOD_remove_29 (by decide) ?_
  rw [← upr_zero (up2 (up2 (up2 (up2 M 4 p 0) 5 p 0) 6 p 0) 7 p 0) 9 (32 * p) (fun _ => 0)]; exact lp_MOD_remove hp ⟨rfl, rfl⟩ 32 0 rfl
theorem lp_MOD_unrow {G : iG} {F : Nat} {C M : Nat → Nat → Int32} {Q : Option iV → iH → Prop} {q : Int32} {m : Nat} (hm : M 0 15 = nI m) (hm9 : m ≤ 9) (hQ : Q none (HW F C (unrw M q m))) : ∀ (n k : Nat) (l : List Int32), k + n = m → l = flt M 12 q k → Ev G m_MOD_unrow 0 0 0 4 [some (vR 50), some (vI q), some (vI (nI l.length)), some (vI (nI k))] [] (HW F C (upl M 12 l)) Q := by
  intro n
  induction n with
  | zero =>
    intro k l hk hl
    have hlen := flt_len M 12 q k
    rw [← hl] at hlen
    refine E_iload_n d_MOD_unrow_4 rfl ?_
    refine E_aload_n d_MOD_unrow_5 rfl rfl ?_
    refine L_gi d_MOD_unrow_6 f_MOD_77 rfl (by decide) rfl (fr_M 0 15) ?_
    refine E_tp (y := nI (m)) ((upl_ne M l 15 (by decide)).trans hm) ?_
    refine E_icmp_ge (tgt := 43) d_MOD_unrow_9 (by decide) (fun _ => ?_) (fun c => absurd (nI_le (by omega) (by omega)) c)
    refine E_aload_n d_MOD_unrow_43 rfl rfl ?_
    refine E_iload_n d_MOD_unrow_44 rfl ?_
    refine L_pi d_MOD_unrow_45 f_MOD_77 rfl (by decide) (Or.inl rfl) rfl (fu_M 0 15 _) ?_
    exact E_return d_MOD_unrow_48 rfl rfl (by rw [hl, show k = m by omega]; exact hQ)
  | succ n ih =>
    intro k l hk hl
    have hlen := flt_len M 12 q k
    rw [← hl] at hlen
    have e : (l ++ [M 12 k]).length = l.length + 1 := by simp
    refine E_iload_n d_MOD_unrow_4 rfl ?_
    refine E_aload_n d_MOD_unrow_5 rfl rfl ?_
    refine L_gi d_MOD_unrow_6 f_MOD_77 rfl (by decide) rfl (fr_M 0 15) ?_
    refine E_tp (y := nI (m)) ((upl_ne M l 15 (by decide)).trans hm) ?_
    refine E_icmp_ge (tgt := 43) d_MOD_unrow_9 (by decide) (fun c => absurd c (nI_ge (by omega) (by omega))) (fun _ => ?_)
    refine E_aload_n d_MOD_unrow_12 rfl rfl ?_
    refine L_gr d_MOD_unrow_13 f_MOD_43 rfl (by decide) rfl rfl ?_
    refine E_iload_n d_MOD_unrow_16 rfl ?_
    refine L_ld (j := k) d_MOD_unrow_17 rfl rfl (by omega) (by decide) (fr_M 12 _) ?_
    refine E_tp (y := M 12 k) (upl_out M 12 l hlen) ?_
    refine E_iload_n d_MOD_unrow_18 rfl ?_
    refine E_icmp_eq (tgt := 37) d_MOD_unrow_19 (by decide) (fun c19 => ?_) (fun c19 => ?_)
    · refine E_iinc (v := nI (k + 1)) d_MOD_unrow_37 rfl (nI_1 _) (by decide) ?_
      refine E_goto (tgt := 4) d_MOD_unrow_40 (by decide) ?_
      exact ih (k + 1) l (by omega) (by rw [flt_succ, if_pos c19, List.append_nil]; exact hl)
    · refine E_aload_n d_MOD_unrow_22 rfl rfl ?_
      refine L_gr d_MOD_unrow_23 f_MOD_43 rfl (by decide) rfl rfl ?_
      refine E_iload_n d_MOD_unrow_26 rfl ?_
      refine E_aload_n d_MOD_unrow_27 rfl rfl ?_
      refine L_gr d_MOD_unrow_28 f_MOD_43 rfl (by decide) rfl rfl ?_
      refine E_iload_n d_MOD_unrow_31 rfl ?_
      refine L_ld (j := k) d_MOD_unrow_32 rfl rfl (by omega) (by decide) (fr_M 12 _) ?_
      refine E_tp (y := M 12 k) (upl_out M 12 l hlen) ?_
      refine L_st (j := l.length) d_MOD_unrow_33 rfl rfl (by omega) (by decide) (fu_M 12 _ _) ?_
      refine E_iinc (v := nI (l.length + 1)) d_MOD_unrow_34 rfl (nI_1 _) (by decide) ?_
      refine E_iinc (v := nI (k + 1)) d_MOD_unrow_37 rfl (nI_1 _) (by decide) ?_
      refine E_goto (tgt := 4) d_MOD_unrow_40 (by decide) ?_
      rw [upl_app, ← e]
      exact ih (k + 1) (l ++ [M 12 k]) (by omega) (by rw [flt_succ, if_neg c19, ← hl])
theorem c_MOD_unrow {G : iG} {F : Nat} {C M : Nat → Nat → Int32} {q : Int32} {m : Nat} (hm : M 0 15 = nI m) (hm9 : m ≤ 9) : MV G m_MOD_unrow 0 [vR 50, vI q] (HW F C M) (fun h' => h' = HW F C (unrw M q m)) := by
  refine Mt.of' (Ls := [some (vR 50), some (vI q), none, none]) (by decide) (by simp [ct]) (Nat.le_of_ble_eq_true rfl) rfl ?_
  refine E_iconst (v := 0) d_MOD_unrow_0 (by decide) ?_
  refine E_istore_n d_MOD_unrow_1 (by decide) ?_
  refine E_iconst (v := 0) d_MOD_unrow_2 (by decide) ?_
  refine E_istore_n d_MOD_unrow_3 (by decide) ?_
  rw [← upl_nil M 12]; exact lp_MOD_unrow hm hm9 ⟨rfl, by rw [upl_nil]⟩ m 0 [] (by omega) rfl
theorem lp_MOD_grow1 {G : iG} {F : Nat} {C M : Nat → Nat → Int32} {Q : Option iV → iH → Prop} {x1 : iV} {l3 : Option iV} {f : Nat} (hf : M 2 f = 0) (hlt : ∀ j, j < f → M 2 j ≠ 0) (hf40 : f < 40) (K : Ev G m_MOD_grow 0 0 0 17 [some (vR 50), some x1, some (vI (nI f)), l3] [] (HW F C M) Q) : ∀ (n k : Nat), k + n = f → Ev G m_MOD_grow 0 0 0 2 [some (vR 50), some x1, some (vI (nI k)), l3] [] (HW F C M) Q := by
  intro n
  induction n with
  | zero =>
    intro k hk
    have hkf : k = f := by omega
    subst hkf
    refine E_aload_n d_MOD_grow_2 rfl rfl ?_
    refine L_gr d_MOD_grow_3 f_MOD_13 rfl (by decide) rfl rfl ?_
    refine E_iload_n d_MOD_grow_6 rfl ?_
    refine L_ld (j := k) d_MOD_grow_7 rfl rfl (by omega) (by decide) (fr_M 2 _) ?_
    refine E_if_eq (tgt := 17) d_MOD_grow_8 (by decide) (fun _ => ?_) (fun c => absurd hf c)
    exact K
  | succ n ih =>
    intro k hk
    refine E_aload_n d_MOD_grow_2 rfl rfl ?_
    refine L_gr d_MOD_grow_3 f_MOD_13 rfl (by decide) rfl rfl ?_
    refine E_iload_n d_MOD_grow_6 rfl ?_
    refine L_ld (j := k) d_MOD_grow_7 rfl rfl (by omega) (by decide) (fr_M 2 _) ?_
    refine E_if_eq (tgt := 17) d_MOD_grow_8 (by decide) (fun c => absurd c (hlt k (by omega))) (fun _ => ?_)
    refine E_iinc (v := nI (k + 1)) d_MOD_grow_11 rfl (nI_1 _) (by decide) ?_
    refine E_goto (tgt := 2) d_MOD_grow_14 (by decide) ?_
    exact ih (k + 1) (by omega)
theorem lp_MOD_grow2 {G : iG} {F : Nat} {C M : Nat → Nat → Int32} {Q : Option iV → iH → Prop} {x1 : iV} {f : Nat} (hf40 : f < 40) (K : Ev G m_MOD_grow 0 0 0 50 [some (vR 50), some x1, some (vI (nI f)), some (vI (nI 16))] [] (HW F C (upr M 1 (16 * f) 16 (fun _ => 0))) Q) : ∀ (n k : Nat), k + n = 16 → Ev G m_MOD_grow 0 0 0 26 [some (vR 50), some x1, some (vI (nI f)), some (vI (nI k))] [] (HW F C (upr M 1 (16 * f) k (fun _ => 0))) Q := by
  intro n
  induction n with
  | zero =>
    intro k hk
    have hkf : k = 16 := by omega
    subst hkf
    refine E_iload_n d_MOD_grow_26 rfl ?_
    refine E_bipush (v := 16) d_MOD_grow_27 (by decide) ?_
    refine E_icmp_ge (tgt := 50) d_MOD_grow_29 (by decide) (fun _ => ?_) (fun c => absurd (nI_le (a := 16) (by omega) (by omega)) c)
    exact K
  | succ n ih =>
    intro k hk
    refine E_iload_n d_MOD_grow_26 rfl ?_
    refine E_bipush (v := 16) d_MOD_grow_27 (by decide) ?_
    refine E_icmp_ge (tgt := 50) d_MOD_grow_29 (by decide) (fun c => absurd c (nI_ge (b := 16) (by omega) (by decide))) (fun _ => ?_)
    refine E_aload_n d_MOD_grow_32 rfl rfl ?_
    refine L_gr d_MOD_grow_33 f_MOD_7 rfl (by decide) rfl rfl ?_
    refine E_bipush (v := 16) d_MOD_grow_36 (by decide) ?_
    refine E_iload_n d_MOD_grow_38 rfl ?_
    refine E_imul d_MOD_grow_39 ?_
    refine E_tp (y := nI (16 * f)) (pk_mul 16 f) ?_
    refine E_iload_n d_MOD_grow_40 rfl ?_
    refine E_iadd d_MOD_grow_41 ?_
    refine E_tp (y := nI (16 * f + k)) (nI_add (16 * f) k) ?_
    refine E_iconst (v := 0) d_MOD_grow_42 (by decide) ?_
    refine L_st (j := 16 * f + k) d_MOD_grow_43 rfl rfl (by omega) (by decide) (fu_M 1 _ _) ?_
    refine E_iinc (v := nI (k + 1)) d_MOD_grow_44 rfl (nI_1 _) (by decide) ?_
    refine E_goto (tgt := 26) d_MOD_grow_47 (by decide) ?_
    rw [upr_succ _ 1 (16 * f) k (fun _ => 0)]; exact ih (k + 1) (by omega)
theorem c_MOD_grow {G : iG} {F : Nat} {C M : Nat → Nat → Int32} {p f s : Nat} (hp : p ≤ 8) (hs : M 8 p = nI s) (hs8 : s < 8) (hf : M 2 f = 0) (hlt : ∀ j, j < f → M 2 j ≠ 0) (hf40 : f < 40) : MI G m_MOD_grow 0 [vR 50, vI (nI p)] (HW F C M) (fun x h' => x = nI f ∧ h' = HW F C (growM M p f s)) := by
  refine Mt.of' (Ls := [some (vR 50), some (vI (nI p)), none, none]) (by decide) (by simp [ct]) (Nat.le_of_ble_eq_true rfl) rfl ?_
  refine E_iconst (v := 0) d_MOD_grow_0 (by decide) ?_
  refine E_istore_n d_MOD_grow_1 (by decide) ?_
  refine lp_MOD_grow1 hf hlt hf40 ?_ f 0 (by omega)
  refine E_aload_n d_MOD_grow_17 rfl rfl ?_
  refine L_gr d_MOD_grow_18 f_MOD_13 rfl (by decide) rfl rfl ?_
  refine E_iload_n d_MOD_grow_21 rfl ?_
  refine E_iload_n d_MOD_grow_22 rfl ?_
  refine L_st (j := f) d_MOD_grow_23 rfl rfl (by omega) (by decide) (fu_M 2 _ _) ?_
  refine E_iconst (v := 0) d_MOD_grow_24 (by decide) ?_
  refine E_istore_n d_MOD_grow_25 (by decide) ?_
  rw [← upr_zero (up2 M 2 f (nI p)) 1 (16 * f) (fun _ => 0)]
  refine lp_MOD_grow2 (M := up2 M 2 f (nI p)) hf40 ?_ 16 0 rfl
  refine E_aload_n d_MOD_grow_50 rfl rfl ?_
  refine L_gr d_MOD_grow_51 f_MOD_37 rfl (by decide) rfl rfl ?_
  refine E_bipush (v := 8) d_MOD_grow_54 (by decide) ?_
  refine E_iload_n d_MOD_grow_56 rfl ?_
  refine E_imul d_MOD_grow_57 ?_
  refine E_tp (y := nI (8 * p)) (pk_mul 8 p) ?_
  refine E_aload_n d_MOD_grow_58 rfl rfl ?_
  refine L_gr d_MOD_grow_59 f_MOD_31 rfl (by decide) rfl rfl ?_
  refine E_iload_n d_MOD_grow_62 rfl ?_
  refine L_ld (j := p) d_MOD_grow_63 rfl rfl (by omega) (by decide) (fr_M 8 _) ?_
  refine E_tp (y := nI (s)) (by simp [upr, up2, hs]) ?_
  refine E_iadd d_MOD_grow_64 ?_
  refine E_tp (y := nI (8 * p + s)) (nI_add (8 * p) s) ?_
  refine E_iload_n d_MOD_grow_65 rfl ?_
  refine L_st (j := 8 * p + s) d_MOD_grow_66 rfl rfl (by omega) (by decide) (fu_M 10 _ _) ?_
  refine E_aload_n d_MOD_grow_67 rfl rfl ?_
  refine L_gr d_MOD_grow_68 f_MOD_31 rfl (by decide) rfl rfl ?_
  refine E_iload_n d_MOD_grow_71 rfl ?_
  refine E_dup2 d_MOD_grow_72 rfl rfl ?_
  refine L_ld (j := p) d_MOD_grow_73 rfl rfl (by omega) (by decide) (fr_M 8 _) ?_
  refine E_tp (y := nI (s)) (by simp [upr, up2, hs]) ?_
  refine E_iconst (v := 1) d_MOD_grow_74 (by decide) ?_
  refine E_iadd d_MOD_grow_75 ?_
  refine E_tp (y := nI (s + 1)) (nI_add s 1) ?_
  refine L_st (j := p) d_MOD_grow_76 rfl rfl (by omega) (by decide) (fu_M 8 _ _) ?_
  refine E_iload_n d_MOD_grow_77 rfl ?_
  exact E_ireturn d_MOD_grow_78 (Or.inl rfl) rfl ⟨_, rfl, rfl, rfl⟩
theorem c_MOD_block {G : iG} {F : Nat} {C M : Nat → Nat → Int32} {p : Nat} {how : Int32} (hp : M 0 24 = nI p) (hp8 : p ≤ 8) : MV G m_MOD_block 0 [vR 50, vI how] (HW F C M) (fun h' => h' = HW F C (blkM M p how)) := by
  refine Mt.of' (Ls := [some (vR 50), some (vI how)]) (by decide) (by simp [ct]) (Nat.le_of_ble_eq_true rfl) rfl ?_
  refine E_aload_n d_MOD_block_0 rfl rfl ?_
  refine L_gr d_MOD_block_1 f_MOD_19 rfl (by decide) rfl rfl ?_
  refine E_aload_n d_MOD_block_4 rfl rfl ?_
  refine L_gi d_MOD_block_5 f_MOD_97 rfl (by decide) rfl (fr_M 0 24) ?_
  refine E_tp (y := nI (p)) hp ?_
  refine E_iload_n d_MOD_block_8 rfl ?_
  refine L_st (j := p) d_MOD_block_9 rfl rfl (by omega) (by decide) (fu_M 4 _ _) ?_
  refine E_aload_n d_MOD_block_10 rfl rfl ?_
  refine E_iconst (v := 0) d_MOD_block_11 (by decide) ?_
  refine L_pi d_MOD_block_12 f_MOD_100 rfl (by decide) (Or.inr ⟨rfl, (by decide)⟩) rfl (fu_M 0 27 _) ?_
  exact E_return d_MOD_block_15 rfl rfl ⟨rfl, rfl⟩
theorem lp_MOD_lostChild {G : iG} {F : Nat} {C M : Nat → Nat → Int32} {Q : Option iV → iH → Prop} {p : Int32} (hQ : Q (some (vI (lcf M p 8))) (HW F C M)) : ∀ (c : Nat) (x : Int32) (l4 l5 : Option iV), c ≤ 8 → x = lcf M p (8 - c) → Ev G m_MOD_lostChild 0 0 0 5 [some (vR 50), some (vI p), some (vI x), some (vI (nI c)), l4, l5] [] (HW F C M) Q := by
  intro c
  induction c with
  | zero =>
    intro x l4 l5 hc hx
    refine E_iload_n d_MOD_lostChild_5 rfl ?_
    refine E_iconst (v := 1) d_MOD_lostChild_6 (by decide) ?_
    refine E_icmp_lt (tgt := 88) d_MOD_lostChild_7 (by decide) (fun _ => ?_) (fun c => absurd (by decide) c)
    refine E_iload_n d_MOD_lostChild_88 rfl ?_
    exact E_ireturn d_MOD_lostChild_89 (Or.inl rfl) rfl (by rw [hx]; exact hQ)
  | succ c ih =>
    intro x l4 l5 hc hx
    have e8 : 8 - c = (8 - (c + 1)) + 1 := by omega
    have ec : 8 - (8 - (c + 1)) = c + 1 := by omega
    refine E_iload_n d_MOD_lostChild_5 rfl ?_
    refine E_iconst (v := 1) d_MOD_lostChild_6 (by decide) ?_
    refine E_icmp_lt (tgt := 88) d_MOD_lostChild_7 (by decide) (fun c => absurd c (nI_nlt (b := 1) (by omega) (by omega))) (fun _ => ?_)
    refine E_aload_n d_MOD_lostChild_10 rfl rfl ?_
    refine L_gr d_MOD_lostChild_11 f_MOD_19 rfl (by decide) rfl rfl ?_
    refine E_iload_n d_MOD_lostChild_14 rfl ?_
    refine L_ld (j := c + 1) d_MOD_lostChild_15 rfl rfl (by omega) (by decide) (fr_M 4 _) ?_
    refine E_if_le (tgt := 33) d_MOD_lostChild_16 (by decide) (fun c16 => ?_) (fun c16 => ?_)
    · refine E_iconst (v := 0) d_MOD_lostChild_33 (by decide) ?_
      refine E_istore d_MOD_lostChild_34 (by decide) ?_
      refine E_iload d_MOD_lostChild_36 rfl ?_
      refine E_if_eq (tgt := 55) d_MOD_lostChild_38 (by decide) (fun _ => ?_) (fun c => absurd (by decide) c)
      refine E_iconst (v := 0) d_MOD_lostChild_55 (by decide) ?_
      refine E_istore d_MOD_lostChild_56 (by decide) ?_
      refine E_iload d_MOD_lostChild_58 rfl ?_
      refine E_if_eq (tgt := 67) d_MOD_lostChild_60 (by decide) (fun _ => ?_) (fun c => absurd (by decide) c)
      refine E_iload d_MOD_lostChild_67 rfl ?_
      refine E_if_eq (tgt := 80) d_MOD_lostChild_69 (by decide) (fun _ => ?_) (fun c => absurd (by decide) c)
      refine E_iload_n d_MOD_lostChild_80 rfl ?_
      refine E_istore_n d_MOD_lostChild_81 (by decide) ?_
      refine E_iinc (v := nI c) d_MOD_lostChild_82 rfl (pk_m1 c) (by decide) ?_
      refine E_goto (tgt := 5) d_MOD_lostChild_85 (by decide) ?_
      exact ih _ _ _ (by omega) (by rw [e8, lcf, ec, ← hx, if_neg (fun q => absurd q.1.1 (Int32.not_lt.mpr c16)), if_neg (fun q => absurd q.1.1 (Int32.not_lt.mpr c16))])
    · refine E_aload_n d_MOD_lostChild_19 rfl rfl ?_
      refine L_gr d_MOD_lostChild_20 f_MOD_25 rfl (by decide) rfl rfl ?_
      refine E_iload_n d_MOD_lostChild_23 rfl ?_
      refine L_ld (j := c + 1) d_MOD_lostChild_24 rfl rfl (by omega) (by decide) (fr_M 6 _) ?_
      refine E_iload_n d_MOD_lostChild_25 rfl ?_
      refine E_icmp_ne (tgt := 33) d_MOD_lostChild_26 (by decide) (fun c26 => ?_) (fun c26 => ?_)
      · refine E_iconst (v := 0) d_MOD_lostChild_33 (by decide) ?_
        refine E_istore d_MOD_lostChild_34 (by decide) ?_
        refine E_iload d_MOD_lostChild_36 rfl ?_
        refine E_if_eq (tgt := 55) d_MOD_lostChild_38 (by decide) (fun _ => ?_) (fun c => absurd (by decide) c)
        refine E_iconst (v := 0) d_MOD_lostChild_55 (by decide) ?_
        refine E_istore d_MOD_lostChild_56 (by decide) ?_
        refine E_iload d_MOD_lostChild_58 rfl ?_
        refine E_if_eq (tgt := 67) d_MOD_lostChild_60 (by decide) (fun _ => ?_) (fun c => absurd (by decide) c)
        refine E_iload d_MOD_lostChild_67 rfl ?_
        refine E_if_eq (tgt := 80) d_MOD_lostChild_69 (by decide) (fun _ => ?_) (fun c => absurd (by decide) c)
        refine E_iload_n d_MOD_lostChild_80 rfl ?_
        refine E_istore_n d_MOD_lostChild_81 (by decide) ?_
        refine E_iinc (v := nI c) d_MOD_lostChild_82 rfl (pk_m1 c) (by decide) ?_
        refine E_goto (tgt := 5) d_MOD_lostChild_85 (by decide) ?_
        exact ih _ _ _ (by omega) (by rw [e8, lcf, ec, ← hx, if_neg (fun q => c26 q.1.2), if_neg (fun q => c26 q.1.2)])
      · refine E_iconst (v := 1) d_MOD_lostChild_29 (by decide) ?_
        refine E_goto (tgt := 34) d_MOD_lostChild_30 (by decide) ?_
        refine E_istore d_MOD_lostChild_34 (by decide) ?_
        refine E_iload d_MOD_lostChild_36 rfl ?_
        refine E_if_eq (tgt := 55) d_MOD_lostChild_38 (by decide) (fun c => absurd c (by decide)) (fun _ => ?_)
        refine E_aload_n d_MOD_lostChild_41 rfl rfl ?_
        refine L_gr d_MOD_lostChild_42 f_MOD_19 rfl (by decide) rfl rfl ?_
        refine E_iload_n d_MOD_lostChild_45 rfl ?_
        refine L_ld (j := c + 1) d_MOD_lostChild_46 rfl rfl (by omega) (by decide) (fr_M 4 _) ?_
        refine E_iconst (v := 5) d_MOD_lostChild_47 (by decide) ?_
        refine E_icmp_ne (tgt := 55) d_MOD_lostChild_48 (by decide) (fun c48 => ?_) (fun c48 => ?_)
        · refine E_iconst (v := 0) d_MOD_lostChild_55 (by decide) ?_
          refine E_istore d_MOD_lostChild_56 (by decide) ?_
          refine E_iload d_MOD_lostChild_58 rfl ?_
          refine E_if_eq (tgt := 67) d_MOD_lostChild_60 (by decide) (fun _ => ?_) (fun c => absurd (by decide) c)
          refine E_iload d_MOD_lostChild_67 rfl ?_
          refine E_if_eq (tgt := 80) d_MOD_lostChild_69 (by decide) (fun c => absurd c (by decide)) (fun _ => ?_)
          refine E_iload_n d_MOD_lostChild_72 rfl ?_
          refine E_if_ge (tgt := 80) d_MOD_lostChild_73 (by decide) (fun c73 => ?_) (fun c73 => ?_)
          · refine E_iload_n d_MOD_lostChild_80 rfl ?_
            refine E_istore_n d_MOD_lostChild_81 (by decide) ?_
            refine E_iinc (v := nI c) d_MOD_lostChild_82 rfl (pk_m1 c) (by decide) ?_
            refine E_goto (tgt := 5) d_MOD_lostChild_85 (by decide) ?_
            exact ih _ _ _ (by omega) (by rw [e8, lcf, ec, ← hx, if_neg (fun q => c48 q.2), if_neg (fun q => absurd q.2 (Int32.not_lt.mpr c73))])
          · refine E_iconst (v := 0) d_MOD_lostChild_76 (by decide) ?_
            refine E_goto (tgt := 81) d_MOD_lostChild_77 (by decide) ?_
            refine E_istore_n d_MOD_lostChild_81 (by decide) ?_
            refine E_iinc (v := nI c) d_MOD_lostChild_82 rfl (pk_m1 c) (by decide) ?_
            refine E_goto (tgt := 5) d_MOD_lostChild_85 (by decide) ?_
            exact ih _ _ _ (by omega) (by rw [e8, lcf, ec, ← hx, if_neg (fun q => c48 q.2), if_pos ⟨⟨Int32.not_le.mp c16, c26⟩, Int32.not_le.mp c73⟩])
        · refine E_iconst (v := 1) d_MOD_lostChild_51 (by decide) ?_
          refine E_goto (tgt := 56) d_MOD_lostChild_52 (by decide) ?_
          refine E_istore d_MOD_lostChild_56 (by decide) ?_
          refine E_iload d_MOD_lostChild_58 rfl ?_
          refine E_if_eq (tgt := 67) d_MOD_lostChild_60 (by decide) (fun c => absurd c (by decide)) (fun _ => ?_)
          refine E_iload_n d_MOD_lostChild_63 rfl ?_
          refine E_goto (tgt := 81) d_MOD_lostChild_64 (by decide) ?_
          refine E_istore_n d_MOD_lostChild_81 (by decide) ?_
          refine E_iinc (v := nI c) d_MOD_lostChild_82 rfl (pk_m1 c) (by decide) ?_
          refine E_goto (tgt := 5) d_MOD_lostChild_85 (by decide) ?_
          exact ih _ _ _ (by omega) (by rw [e8, lcf, ec, ← hx, if_pos ⟨⟨Int32.not_le.mp c16, c26⟩, c48⟩])
theorem c_MOD_lostChild {G : iG} {F : Nat} {C M : Nat → Nat → Int32} {p : Int32} : MI G m_MOD_lostChild 0 [vR 50, vI p] (HW F C M) (fun x h' => x = lcf M p 8 ∧ h' = HW F C M) := by
  refine Mt.of' (Ls := [some (vR 50), some (vI p), none, none, none, none]) (by decide) (by simp [ct]) (Nat.le_of_ble_eq_true rfl) rfl ?_
  refine E_iconst (v := -1) d_MOD_lostChild_0 (by decide) ?_
  refine E_istore_n d_MOD_lostChild_1 (by decide) ?_
  refine E_bipush (v := 8) d_MOD_lostChild_2 (by decide) ?_
  refine E_istore_n d_MOD_lostChild_4 (by decide) ?_
  exact lp_MOD_lostChild ⟨_, rfl, rfl, rfl⟩ 8 (-1) none none (by decide) rfl

/-! ===== the reference's boot, load, views ===== -/
theorem lp_MOD_boot1 {G : iG} {F : Nat} {C M : Nat → Nat → Int32} {Q : Option iV → iH → Prop} {x1 : iV} {n k f : Nat} (hn : M 0 4 = nI n) (hn64 : n ≤ 64) (hk : k ≤ 4) (hf : f < 40) (K : ∀ l4 : Option iV, Ev G m_MOD_boot 1 0 0 111 [some (vR 50), some x1, some (vI (nI k)), some (vI (nI f)), l4] [] (HW F C (upr M 1 (16 * f) (min 16 (n - 16 * k)) (fun j => M 3 (16 * k + j)))) Q) : ∀ (r j : Nat), j + r = min 16 (n - 16 * k) → Ev G m_MOD_boot 1 0 0 60 [some (vR 50), some x1, some (vI (nI k)), some (vI (nI f)), some (vI (nI j))] [] (HW F C (upr M 1 (16 * f) j (fun j => M 3 (16 * k + j)))) Q := by
  intro r
  induction r with
  | zero =>
    intro j hj
    have e : j = min 16 (n - 16 * k) := by omega
    refine E_iload d_MOD_boot_60 rfl ?_
    refine E_bipush (v := 16) d_MOD_boot_62 (by decide) ?_
    refine E_icmp_ge (tgt := 111) d_MOD_boot_64 (by decide) (fun c64 => ?_) (fun c64 => ?_)
    · have K2 := K (some (vI (nI j)))
      rw [← e] at K2
      exact K2
    · have c := (not_congr (nI_leI (a := 16) (b := j) (by decide) (by omega))).mp c64
      refine E_bipush (v := 16) d_MOD_boot_67 (by decide) ?_
      refine E_iload_n d_MOD_boot_69 rfl ?_
      refine E_imul d_MOD_boot_70 ?_
      refine E_tp (y := nI (16 * k)) (pk_mul 16 k) ?_
      refine E_iload d_MOD_boot_71 rfl ?_
      refine E_iadd d_MOD_boot_73 ?_
      refine E_tp (y := nI (16 * k + j)) (nI_add (16 * k) j) ?_
      refine E_aload_n d_MOD_boot_74 rfl rfl ?_
      refine L_gi d_MOD_boot_75 f_MOD_66 rfl (by decide) rfl (fr_M 0 4) ?_
      refine E_tp (y := nI (n)) ((upr_ne _ _ _ _ _ (by decide)).trans hn) ?_
      refine E_icmp_ge (tgt := 111) d_MOD_boot_78 (by decide) (fun _ => ?_) (fun c => absurd (nI_le (by omega) (by omega)) c)
      have K2 := K (some (vI (nI j)))
      rw [← e] at K2
      exact K2
  | succ r ih =>
    intro j hj
    refine E_iload d_MOD_boot_60 rfl ?_
    refine E_bipush (v := 16) d_MOD_boot_62 (by decide) ?_
    refine E_icmp_ge (tgt := 111) d_MOD_boot_64 (by decide) (fun c => absurd c (nI_ge (b := 16) (by omega) (by decide))) (fun _ => ?_)
    refine E_bipush (v := 16) d_MOD_boot_67 (by decide) ?_
    refine E_iload_n d_MOD_boot_69 rfl ?_
    refine E_imul d_MOD_boot_70 ?_
    refine E_tp (y := nI (16 * k)) (pk_mul 16 k) ?_
    refine E_iload d_MOD_boot_71 rfl ?_
    refine E_iadd d_MOD_boot_73 ?_
    refine E_tp (y := nI (16 * k + j)) (nI_add (16 * k) j) ?_
    refine E_aload_n d_MOD_boot_74 rfl rfl ?_
    refine L_gi d_MOD_boot_75 f_MOD_66 rfl (by decide) rfl (fr_M 0 4) ?_
    refine E_tp (y := nI (n)) ((upr_ne _ _ _ _ _ (by decide)).trans hn) ?_
    refine E_icmp_ge (tgt := 111) d_MOD_boot_78 (by decide) (fun c => absurd c (nI_ge (by omega) (by omega))) (fun _ => ?_)
    refine E_aload_n d_MOD_boot_81 rfl rfl ?_
    refine L_gr d_MOD_boot_82 f_MOD_7 rfl (by decide) rfl rfl ?_
    refine E_bipush (v := 16) d_MOD_boot_85 (by decide) ?_
    refine E_iload_n d_MOD_boot_87 rfl ?_
    refine E_imul d_MOD_boot_88 ?_
    refine E_tp (y := nI (16 * f)) (pk_mul 16 f) ?_
    refine E_iload d_MOD_boot_89 rfl ?_
    refine E_iadd d_MOD_boot_91 ?_
    refine E_tp (y := nI (16 * f + j)) (nI_add (16 * f) j) ?_
    refine E_aload_n d_MOD_boot_92 rfl rfl ?_
    refine L_gr d_MOD_boot_93 f_MOD_16 rfl (by decide) rfl rfl ?_
    refine E_bipush (v := 16) d_MOD_boot_96 (by decide) ?_
    refine E_iload_n d_MOD_boot_98 rfl ?_
    refine E_imul d_MOD_boot_99 ?_
    refine E_tp (y := nI (16 * k)) (pk_mul 16 k) ?_
    refine E_iload d_MOD_boot_100 rfl ?_
    refine E_iadd d_MOD_boot_102 ?_
    refine E_tp (y := nI (16 * k + j)) (nI_add (16 * k) j) ?_
    refine L_ld (j := 16 * k + j) d_MOD_boot_103 rfl rfl (by omega) (by decide) (fr_M 3 _) ?_
    refine E_tp (y := M 3 (16 * k + j)) (upr_ne _ _ _ _ _ (by decide)) ?_
    refine L_st (j := 16 * f + j) d_MOD_boot_104 rfl rfl (by omega) (by decide) (fu_M 1 _ _) ?_
    refine E_iinc (v := nI (j + 1)) d_MOD_boot_105 rfl (nI_1 _) (by decide) ?_
    refine E_goto (tgt := 60) d_MOD_boot_108 (by decide) ?_
    rw [upr_succ _ 1 (16 * f) j (fun j => M 3 (16 * k + j))]
    exact ih (j + 1) (by omega)
theorem lp_MOD_boot2 {G : iG} {F : Nat} {C M : Nat → Nat → Int32} {Q : Option iV → iH → Prop} {n fr nd : Nat} (hn : M 0 4 = nI n) (hn64 : n ≤ 64) (hnd : nd ≤ 5) (h8 : M 8 1 = 0) (hfr : fr ≤ 40) (hnf : nd ≤ nfr M fr) (K : ∀ l3 l4 : Option iV, Ev G m_MOD_boot 1 0 0 117 [some (vR 50), some (vI (nI nd)), some (vI (nI nd)), l3, l4] [] (HW F C (btp M n nd)) Q) : ∀ (r k : Nat), k + r = nd → ∀ l3 l4 : Option iV, Ev G m_MOD_boot 1 0 0 46 [some (vR 50), some (vI (nI nd)), some (vI (nI k)), l3, l4] [] (HW F C (btp M n k)) Q := by
  have hle := nfr_le M fr
  intro r
  induction r with
  | zero =>
    intro k hk l3 l4
    have e : k = nd := by omega
    subst e
    refine E_iload_n d_MOD_boot_46 rfl ?_
    refine E_iload_n d_MOD_boot_47 rfl ?_
    refine E_icmp_ge (tgt := 117) d_MOD_boot_48 (by decide) (fun _ => ?_) (fun c => absurd (nI_le (by omega) (by omega)) c)
    exact K _ _
  | succ r ih =>
    intro k hk l3 l4
    obtain ⟨g1, g2⟩ := btp_spec (M := M) (n := n) h8 hfr (k := k) (by omega)
    have hff : ff (btp M n k) < fr := ff_lt (by omega)
    have e4 : groM (btp M n k) 1 0 4 = nI n := by rw [groM_ne _ _ _ (by decide) (by decide) (by decide) (by decide)]; exact (btp_ne M n 4 (by decide) (by decide) (by decide) (by decide) k).trans hn
    refine E_iload_n d_MOD_boot_46 rfl ?_
    refine E_iload_n d_MOD_boot_47 rfl ?_
    refine E_icmp_ge (tgt := 117) d_MOD_boot_48 (by decide) (fun c => absurd c (nI_ge (by omega) (by omega))) (fun _ => ?_)
    refine E_aload_n d_MOD_boot_51 rfl rfl ?_
    refine E_iconst (v := 1) d_MOD_boot_52 (by decide) ?_
    refine E_V1i d_MOD_boot_53 w_MOD_69 rfl (by decide) (Nat.le_of_ble_eq_true rfl) (c_grow (p := 1) (by decide) g1 (by omega) (by omega)) ?_
    rintro _ _ ⟨rfl, rfl⟩
    refine E_istore_n d_MOD_boot_56 (by decide) ?_
    refine E_iconst (v := 0) d_MOD_boot_57 (by decide) ?_
    refine E_istore d_MOD_boot_58 (by decide) ?_
    rw [← upr_zero (groM (btp M n k) 1) 1 (16 * ff (btp M n k)) (fun j => groM (btp M n k) 1 3 (16 * k + j))]
    refine lp_MOD_boot1 e4 hn64 (by omega) (by omega) ?_ (min 16 (n - 16 * k)) 0 (by omega)
    intro l4
    refine E_iinc (v := nI (k + 1)) d_MOD_boot_111 rfl (nI_1 _) (by decide) ?_
    refine E_goto (tgt := 46) d_MOD_boot_114 (by decide) ?_
    have e : btp M n (k + 1) = upr (groM (btp M n k) 1) 1 (16 * ff (btp M n k)) (min 16 (n - 16 * k)) (fun j => groM (btp M n k) 1 3 (16 * k + j)) := by
      rw [btp]
      congr 1
      funext j
      rw [groM_ne _ _ _ (by decide) (by decide) (by decide) (by decide), btp_ne M n _ (by decide) (by decide) (by decide) (by decide) k]
    rw [← e]
    exact ih (k + 1) (by omega) _ _
theorem c_MOD_boot {G : iG} {F : Nat} {C M : Nat → Nat → Int32} {n fr : Nat} (hn : M 0 4 = nI n) (hn64 : n ≤ 64) (hf : M 0 0 = nI fr) (hfr : fr ≤ 40) (hb : M 0 6 = 0 ∨ M 0 6 = 1) (h0 : M 0 6 = 0 → M 8 1 = 0 ∧ nfr M fr = fr ∧ M 0 15 = 0) : MI G m_MOD_boot 1 [vR 50] (HW F C M) (fun x h' => (x = if M 0 6 = 0 then (if n = 0 ∨ fr < (n + 15) / 16 + 1 then 2 else 0) else 1) ∧ h' = HW F C (if M 0 6 = 0 ∧ ¬ (n = 0 ∨ fr < (n + 15) / 16 + 1) then botM M n ((n + 15) / 16 + 1) else M)) := by
  refine Mt.of' (Ls := [some (vR 50), none, none, none, none]) (by decide) (by simp [ct]) (Nat.le_of_ble_eq_true rfl) rfl ?_
  obtain ⟨nd, hnd⟩ : ∃ nd, nd = (n + 15) / 16 + 1 := ⟨_, rfl⟩
  rw [← hnd]
  refine E_aload_n d_MOD_boot_0 rfl rfl ?_
  refine L_gi d_MOD_boot_1 f_MOD_66 rfl (by decide) rfl (fr_M 0 4) ?_
  refine E_tp (y := nI (n)) hn ?_
  refine E_bipush (v := 15) d_MOD_boot_4 (by decide) ?_
  refine E_iadd d_MOD_boot_6 ?_
  refine E_tp (y := nI (n + 15)) (nI_add n 15) ?_
  refine E_bipush (v := 16) d_MOD_boot_7 (by decide) ?_
  refine E_idiv d_MOD_boot_9 (by decide) ?_
  refine E_tp (y := nI ((n + 15) / 16)) (pk_div (d := 16) (by omega) (by decide) (by decide)) ?_
  refine E_iconst (v := 1) d_MOD_boot_10 (by decide) ?_
  refine E_iadd d_MOD_boot_11 ?_
  refine E_tp (y := nI ((n + 15) / 16 + 1)) (nI_add ((n + 15) / 16) 1) ?_
  rw [← hnd]
  refine E_istore_n d_MOD_boot_12 (by decide) ?_
  refine E_aload_n d_MOD_boot_13 rfl rfl ?_
  refine L_gi d_MOD_boot_14 f_MOD_62 rfl (by decide) rfl (fr_M 0 6) ?_
  refine E_if_eq (tgt := 22) d_MOD_boot_17 (by decide) (fun c17 => ?_) (fun c17 => ?_)
  · refine E_aload_n d_MOD_boot_22 rfl rfl ?_
    refine L_gi d_MOD_boot_23 f_MOD_66 rfl (by decide) rfl (fr_M 0 4) ?_
    refine E_tp (y := nI (n)) hn ?_
    refine E_if_eq (tgt := 37) d_MOD_boot_26 (by decide) (fun c26 => ?_) (fun c26 => ?_)
    · have c : n = 0 ∨ fr < nd := Or.inl ((nI_eq (b := 0) (by omega) (by decide)).mp c26)
      refine E_iconst (v := 2) d_MOD_boot_37 (by decide) ?_
      exact E_ireturn d_MOD_boot_38 (Or.inl rfl) rfl ⟨_, rfl, by rw [if_pos c17, if_pos c], by rw [if_neg (fun q => q.2 c)]⟩
    · have c26n : n ≠ 0 := fun q => c26 (by rw [q]; rfl)
      refine E_iload_n d_MOD_boot_29 rfl ?_
      refine E_aload_n d_MOD_boot_30 rfl rfl ?_
      refine L_gi d_MOD_boot_31 f_MOD_55 rfl (by decide) rfl (fr_M 0 0) ?_
      refine E_tp (y := nI (fr)) hf ?_
      refine E_icmp_le (tgt := 39) d_MOD_boot_34 (by decide) (fun c34 => ?_) (fun c34 => ?_)
      · have c34n := (nI_leI (a := nd) (b := fr) (by omega) (by omega)).mp c34
        have c : ¬ (n = 0 ∨ fr < nd) := by omega
        refine E_aload_n d_MOD_boot_39 rfl rfl ?_
        refine E_iconst (v := 1) d_MOD_boot_40 (by decide) ?_
        refine L_pi d_MOD_boot_41 f_MOD_62 rfl (by decide) (Or.inr ⟨rfl, (by decide)⟩) rfl (fu_M 0 6 _) ?_
        refine E_iconst (v := 0) d_MOD_boot_44 (by decide) ?_
        refine E_istore_n d_MOD_boot_45 (by decide) ?_
        refine lp_MOD_boot2 (M := up2 M 0 6 1) (n := n) (fr := fr) (by simp [up2, hn]) hn64 (by omega) ((by simp [up2] : up2 M 0 6 1 8 1 = M 8 1).trans (h0 c17).1) hfr (by rw [nfr_2 (M := M) (fun j => by simp [up2]), (h0 c17).2.1]; omega) ?_ nd 0 (by omega) none none
        intro l3 l4
        refine E_aload_n d_MOD_boot_117 rfl rfl ?_
        refine L_gr d_MOD_boot_118 f_MOD_34 rfl (by decide) rfl rfl ?_
        refine E_bipush (v := 34) d_MOD_boot_121 (by decide) ?_
        refine E_bipush (v := 64) d_MOD_boot_123 (by decide) ?_
        refine E_iload_n d_MOD_boot_125 rfl ?_
        refine E_imul d_MOD_boot_126 ?_
        refine E_tp (y := nI (64 * nd)) (pk_mul 64 nd) ?_
        refine L_st (j := 34) d_MOD_boot_127 rfl rfl (by omega) (by decide) (fu_M 9 _ _) ?_
        refine E_aload_n d_MOD_boot_128 rfl rfl ?_
        refine L_gr d_MOD_boot_129 f_MOD_40 rfl (by decide) rfl rfl ?_
        refine E_bipush (v := 7) d_MOD_boot_132 (by decide) ?_
        refine E_iconst (v := 0) d_MOD_boot_134 (by decide) ?_
        refine L_st (j := 7) d_MOD_boot_135 rfl rfl (by omega) (by decide) (fu_M 11 _ _) ?_
        refine E_aload_n d_MOD_boot_136 rfl rfl ?_
        refine E_iconst (v := 1) d_MOD_boot_137 (by decide) ?_
        refine E_V1v d_MOD_boot_138 w_MOD_73 rfl (by decide) (Nat.le_of_ble_eq_true rfl) (c_MOD_wake (p := 1) (m := 0) (by decide) (by rw [up2_ne2 _ _ _ _ (by decide), up2_ne2 _ _ _ _ (by decide)]; exact (btp_ne _ n 15 (by decide) (by decide) (by decide) (by decide) nd).trans ((by simp [up2] : up2 M 0 6 1 0 15 = M 0 15).trans (h0 c17).2.2)) (by decide)) ?_
        rintro _ rfl
        refine E_iconst (v := 0) d_MOD_boot_141 (by decide) ?_
        exact E_ireturn d_MOD_boot_142 (Or.inl rfl) rfl ⟨_, rfl, by rw [if_pos c17, if_neg c], by rw [if_pos ⟨c17, c⟩]; rfl⟩
      · have c : n = 0 ∨ fr < nd := Or.inr (by have := (not_congr (nI_leI (a := nd) (b := fr) (by omega) (by omega))).mp c34; omega)
        refine E_iconst (v := 2) d_MOD_boot_37 (by decide) ?_
        exact E_ireturn d_MOD_boot_38 (Or.inl rfl) rfl ⟨_, rfl, by rw [if_pos c17, if_pos c], by rw [if_neg (fun q => q.2 c)]⟩
  · refine E_iconst (v := 1) d_MOD_boot_20 (by decide) ?_
    exact E_ireturn d_MOD_boot_21 (Or.inl rfl) rfl ⟨_, rfl, by rw [if_neg c17], by rw [if_neg (fun q => c17 q.1)]⟩
theorem c_MOD_load {G : iG} {F : Nat} {C M : Nat → Nat → Int32} {n : Nat} {w : Int32} (hn : M 0 4 = nI n) (hn64 : n ≤ 64) : MI G m_MOD_load 0 [vR 50, vI w] (HW F C M) (fun x h' => (x = if M 0 6 = 0 ∧ n < 64 then 1 else 0) ∧ h' = HW F C (if M 0 6 = 0 ∧ n < 64 then up2 (up2 M 3 n w) 0 4 (nI (n + 1)) else M)) := by
  refine Mt.of' (Ls := [some (vR 50), some (vI w)]) (by decide) (by simp [ct]) (Nat.le_of_ble_eq_true rfl) rfl ?_
  refine E_aload_n d_MOD_load_0 rfl rfl ?_
  refine L_gi d_MOD_load_1 f_MOD_62 rfl (by decide) rfl (fr_M 0 6) ?_
  refine E_if_ne (tgt := 16) d_MOD_load_4 (by decide) (fun c4 => ?_) (fun c4 => ?_)
  · refine E_iconst (v := 0) d_MOD_load_16 (by decide) ?_
    exact E_ireturn d_MOD_load_17 (Or.inr ⟨rfl, (by decide)⟩) rfl ⟨_, rfl, by rw [if_neg (fun q => c4 q.1)], by rw [if_neg (fun q => c4 q.1)]⟩
  · refine E_aload_n d_MOD_load_7 rfl rfl ?_
    refine L_gi d_MOD_load_8 f_MOD_66 rfl (by decide) rfl (fr_M 0 4) ?_
    refine E_tp (y := nI (n)) hn ?_
    refine E_bipush (v := 64) d_MOD_load_11 (by decide) ?_
    refine E_icmp_ne (tgt := 18) d_MOD_load_13 (by decide) (fun c13 => ?_) (fun c13 => ?_)
    · have c : n < 64 := by have := (not_congr (nI_eq (a := n) (b := 64) (by omega) (by decide))).mp c13; omega
      refine E_aload_n d_MOD_load_18 rfl rfl ?_
      refine L_gr d_MOD_load_19 f_MOD_16 rfl (by decide) rfl rfl ?_
      refine E_aload_n d_MOD_load_22 rfl rfl ?_
      refine L_gi d_MOD_load_23 f_MOD_66 rfl (by decide) rfl (fr_M 0 4) ?_
      refine E_tp (y := nI (n)) hn ?_
      refine E_iload_n d_MOD_load_26 rfl ?_
      refine L_st (j := n) d_MOD_load_27 rfl rfl (by omega) (by decide) (fu_M 3 _ _) ?_
      refine E_aload_n d_MOD_load_28 rfl rfl ?_
      refine E_dup d_MOD_load_29 rfl ?_
      refine L_gi d_MOD_load_30 f_MOD_66 rfl (by decide) rfl (fr_M 0 4) ?_
      refine E_tp (y := nI (n)) (by simp [up2, hn]) ?_
      refine E_iconst (v := 1) d_MOD_load_33 (by decide) ?_
      refine E_iadd d_MOD_load_34 ?_
      refine E_tp (y := nI (n + 1)) (nI_add n 1) ?_
      refine L_pi d_MOD_load_35 f_MOD_66 rfl (by decide) (Or.inl rfl) rfl (fu_M 0 4 _) ?_
      refine E_iconst (v := 1) d_MOD_load_38 (by decide) ?_
      exact E_ireturn d_MOD_load_39 (Or.inr ⟨rfl, (by decide)⟩) rfl ⟨_, rfl, by rw [if_pos ⟨c4, c⟩], by rw [if_pos ⟨c4, c⟩]⟩
    · have c : ¬ n < 64 := by have := (nI_eq (a := n) (b := 64) (by omega) (by decide)).mp c13; omega
      refine E_iconst (v := 0) d_MOD_load_16 (by decide) ?_
      exact E_ireturn d_MOD_load_17 (Or.inr ⟨rfl, (by decide)⟩) rfl ⟨_, rfl, by rw [if_neg (fun q => c q.2)], by rw [if_neg (fun q => c q.2)]⟩
theorem c_MOD_is {G : iG} {F : Nat} {C M : Nat → Nat → Int32} {x0 : Int32} : MI G m_MOD_is 0 [vR 50, vI x0] (HW F C M) (fun x h' => x = b2i (isb M x0) ∧ h' = HW F C M) := by
  refine Mt.of' (Ls := [some (vR 50), some (vI x0)]) (by decide) (by simp [ct]) (Nat.le_of_ble_eq_true rfl) rfl ?_
  by_cases ha : 1 ≤ x0 ∧ x0 ≤ 8
  · obtain ⟨q, hq1, hq8, rfl⟩ := in18 ha.1 ha.2
    refine E_iload_n d_MOD_is_0 rfl ?_
    refine E_iconst (v := 1) d_MOD_is_1 (by decide) ?_
    refine E_icmp_lt (tgt := 24) d_MOD_is_2 (by decide) (fun c => absurd c (Int32.not_lt.mpr ha.1)) (fun _ => ?_)
    refine E_iload_n d_MOD_is_5 rfl ?_
    refine E_bipush (v := 8) d_MOD_is_6 (by decide) ?_
    refine E_icmp_gt (tgt := 24) d_MOD_is_8 (by decide) (fun c => absurd c (Int32.not_lt.mpr ha.2)) (fun _ => ?_)
    refine E_aload_n d_MOD_is_11 rfl rfl ?_
    refine L_gr d_MOD_is_12 f_MOD_19 rfl (by decide) rfl rfl ?_
    refine E_iload_n d_MOD_is_15 rfl ?_
    refine L_ld (j := q) d_MOD_is_16 rfl rfl (by omega) (by decide) (fr_M 4 _) ?_
    refine E_if_le (tgt := 24) d_MOD_is_17 (by decide) (fun c17 => ?_) (fun c17 => ?_)
    · refine E_iconst (v := 0) d_MOD_is_24 (by decide) ?_
      exact E_ireturn d_MOD_is_25 (Or.inr ⟨rfl, (by decide)⟩) rfl ⟨_, rfl, by rw [isb_nI hq1 hq8, decide_eq_false (Int32.not_lt.mpr c17)]; rfl, rfl⟩
    · refine E_iconst (v := 1) d_MOD_is_20 (by decide) ?_
      refine E_goto (tgt := 25) d_MOD_is_21 (by decide) ?_
      exact E_ireturn d_MOD_is_25 (Or.inr ⟨rfl, (by decide)⟩) rfl ⟨_, rfl, by rw [isb_nI hq1 hq8, decide_eq_true (Int32.not_le.mp c17)]; rfl, rfl⟩
  · have hk : isb M x0 = false := by by_cases h1 : 1 ≤ x0; (have h8 : ¬ x0 ≤ 8 := fun q => ha ⟨h1, q⟩; simp [isb, h8]); simp [isb, h1]
    refine E_iload_n d_MOD_is_0 rfl ?_
    refine E_iconst (v := 1) d_MOD_is_1 (by decide) ?_
    refine E_icmp_lt (tgt := 24) d_MOD_is_2 (by decide) (fun c2 => ?_) (fun c2 => ?_)
    · refine E_iconst (v := 0) d_MOD_is_24 (by decide) ?_
      exact E_ireturn d_MOD_is_25 (Or.inr ⟨rfl, (by decide)⟩) rfl ⟨_, rfl, by rw [hk]; rfl, rfl⟩
    · refine E_iload_n d_MOD_is_5 rfl ?_
      refine E_bipush (v := 8) d_MOD_is_6 (by decide) ?_
      refine E_icmp_gt (tgt := 24) d_MOD_is_8 (by decide) (fun c8 => ?_) (fun c8 => ?_)
      · refine E_iconst (v := 0) d_MOD_is_24 (by decide) ?_
        exact E_ireturn d_MOD_is_25 (Or.inr ⟨rfl, (by decide)⟩) rfl ⟨_, rfl, by rw [hk]; rfl, rfl⟩
      · exact absurd ⟨Int32.not_lt.mp c2, Int32.not_lt.mp c8⟩ ha
theorem c_MOD_stateOf {G : iG} {F : Nat} {C M : Nat → Nat → Int32} {x0 : Int32} : MI G m_MOD_stateOf 1 [vR 50, vI x0] (HW F C M) (fun x h' => (x = if isb M x0 = true then M 4 (nv x0) else 0) ∧ h' = HW F C M) := by
  refine Mt.of' (Ls := [some (vR 50), some (vI x0)]) (by decide) (by simp [ct]) (Nat.le_of_ble_eq_true rfl) rfl ?_
  refine E_aload_n d_MOD_stateOf_0 rfl rfl ?_
  refine E_iload_n d_MOD_stateOf_1 rfl ?_
  refine E_V1i d_MOD_stateOf_2 w_MOD_242 rfl (by decide) (Nat.le_of_ble_eq_true rfl) (c_MOD_is) ?_
  rintro _ _ ⟨rfl, rfl⟩
  refine E_if_eq (tgt := 17) d_MOD_stateOf_5 (by decide) (fun c5 => ?_) (fun c5 => ?_)
  · have c := b2i_eq0 c5
    refine E_iconst (v := 0) d_MOD_stateOf_17 (by decide) ?_
    exact E_ireturn d_MOD_stateOf_18 (Or.inl rfl) rfl ⟨_, rfl, by rw [if_neg (by rw [c]; decide)], rfl⟩
  · have c := b2i_ne0 c5
    obtain ⟨p, hp1, hp8, rfl, h4⟩ := isb_of c
    have e : nv (nI p) = p := nv_nI (by omega)
    refine E_aload_n d_MOD_stateOf_8 rfl rfl ?_
    refine L_gr d_MOD_stateOf_9 f_MOD_19 rfl (by decide) rfl rfl ?_
    refine E_iload_n d_MOD_stateOf_12 rfl ?_
    refine L_ld (j := p) d_MOD_stateOf_13 rfl rfl (by omega) (by decide) (fr_M 4 _) ?_
    refine E_goto (tgt := 18) d_MOD_stateOf_14 (by decide) ?_
    exact E_ireturn d_MOD_stateOf_18 (Or.inl rfl) rfl ⟨_, rfl, by rw [if_pos c, e], rfl⟩
theorem c_MOD_parentOf {G : iG} {F : Nat} {C M : Nat → Nat → Int32} {x0 : Int32} : MI G m_MOD_parentOf 1 [vR 50, vI x0] (HW F C M) (fun x h' => (x = if isb M x0 = true then M 6 (nv x0) else -1) ∧ h' = HW F C M) := by
  refine Mt.of' (Ls := [some (vR 50), some (vI x0)]) (by decide) (by simp [ct]) (Nat.le_of_ble_eq_true rfl) rfl ?_
  refine E_aload_n d_MOD_parentOf_0 rfl rfl ?_
  refine E_iload_n d_MOD_parentOf_1 rfl ?_
  refine E_V1i d_MOD_parentOf_2 w_MOD_242 rfl (by decide) (Nat.le_of_ble_eq_true rfl) (c_MOD_is) ?_
  rintro _ _ ⟨rfl, rfl⟩
  refine E_if_eq (tgt := 17) d_MOD_parentOf_5 (by decide) (fun c5 => ?_) (fun c5 => ?_)
  · have c := b2i_eq0 c5
    refine E_iconst (v := -1) d_MOD_parentOf_17 (by decide) ?_
    exact E_ireturn d_MOD_parentOf_18 (Or.inl rfl) rfl ⟨_, rfl, by rw [if_neg (by rw [c]; decide)], rfl⟩
  · have c := b2i_ne0 c5
    obtain ⟨p, hp1, hp8, rfl, h4⟩ := isb_of c
    have e : nv (nI p) = p := nv_nI (by omega)
    refine E_aload_n d_MOD_parentOf_8 rfl rfl ?_
    refine L_gr d_MOD_parentOf_9 f_MOD_25 rfl (by decide) rfl rfl ?_
    refine E_iload_n d_MOD_parentOf_12 rfl ?_
    refine L_ld (j := p) d_MOD_parentOf_13 rfl rfl (by omega) (by decide) (fr_M 6 _) ?_
    refine E_goto (tgt := 18) d_MOD_parentOf_14 (by decide) ?_
    exact E_ireturn d_MOD_parentOf_18 (Or.inl rfl) rfl ⟨_, rfl, by rw [if_pos c, e], rfl⟩
theorem c_MOD_pages {G : iG} {F : Nat} {C M : Nat → Nat → Int32} {x0 : Int32} : MI G m_MOD_pages 1 [vR 50, vI x0] (HW F C M) (fun x h' => (x = if isb M x0 = true then M 8 (nv x0) else 0) ∧ h' = HW F C M) := by
  refine Mt.of' (Ls := [some (vR 50), some (vI x0)]) (by decide) (by simp [ct]) (Nat.le_of_ble_eq_true rfl) rfl ?_
  refine E_aload_n d_MOD_pages_0 rfl rfl ?_
  refine E_iload_n d_MOD_pages_1 rfl ?_
  refine E_V1i d_MOD_pages_2 w_MOD_242 rfl (by decide) (Nat.le_of_ble_eq_true rfl) (c_MOD_is) ?_
  rintro _ _ ⟨rfl, rfl⟩
  refine E_if_eq (tgt := 17) d_MOD_pages_5 (by decide) (fun c5 => ?_) (fun c5 => ?_)
  · have c := b2i_eq0 c5
    refine E_iconst (v := 0) d_MOD_pages_17 (by decide) ?_
    exact E_ireturn d_MOD_pages_18 (Or.inl rfl) rfl ⟨_, rfl, by rw [if_neg (by rw [c]; decide)], rfl⟩
  · have c := b2i_ne0 c5
    obtain ⟨p, hp1, hp8, rfl, h4⟩ := isb_of c
    have e : nv (nI p) = p := nv_nI (by omega)
    refine E_aload_n d_MOD_pages_8 rfl rfl ?_
    refine L_gr d_MOD_pages_9 f_MOD_31 rfl (by decide) rfl rfl ?_
    refine E_iload_n d_MOD_pages_12 rfl ?_
    refine L_ld (j := p) d_MOD_pages_13 rfl rfl (by omega) (by decide) (fr_M 8 _) ?_
    refine E_goto (tgt := 18) d_MOD_pages_14 (by decide) ?_
    exact E_ireturn d_MOD_pages_18 (Or.inl rfl) rfl ⟨_, rfl, by rw [if_pos c, e], rfl⟩
theorem c_MOD_pc {G : iG} {F : Nat} {C M : Nat → Nat → Int32} {x0 : Int32} : MI G m_MOD_pc 1 [vR 50, vI x0] (HW F C M) (fun x h' => (x = if isb M x0 = true then M 7 (nv x0) else 0) ∧ h' = HW F C M) := by
  refine Mt.of' (Ls := [some (vR 50), some (vI x0)]) (by decide) (by simp [ct]) (Nat.le_of_ble_eq_true rfl) rfl ?_
  refine E_aload_n d_MOD_pc_0 rfl rfl ?_
  refine E_iload_n d_MOD_pc_1 rfl ?_
  refine E_V1i d_MOD_pc_2 w_MOD_242 rfl (by decide) (Nat.le_of_ble_eq_true rfl) (c_MOD_is) ?_
  rintro _ _ ⟨rfl, rfl⟩
  refine E_if_eq (tgt := 17) d_MOD_pc_5 (by decide) (fun c5 => ?_) (fun c5 => ?_)
  · have c := b2i_eq0 c5
    refine E_iconst (v := 0) d_MOD_pc_17 (by decide) ?_
    exact E_ireturn d_MOD_pc_18 (Or.inl rfl) rfl ⟨_, rfl, by rw [if_neg (by rw [c]; decide)], rfl⟩
  · have c := b2i_ne0 c5
    obtain ⟨p, hp1, hp8, rfl, h4⟩ := isb_of c
    have e : nv (nI p) = p := nv_nI (by omega)
    refine E_aload_n d_MOD_pc_8 rfl rfl ?_
    refine L_gr d_MOD_pc_9 f_MOD_28 rfl (by decide) rfl rfl ?_
    refine E_iload_n d_MOD_pc_12 rfl ?_
    refine L_ld (j := p) d_MOD_pc_13 rfl rfl (by omega) (by decide) (fr_M 7 _) ?_
    refine E_goto (tgt := 18) d_MOD_pc_14 (by decide) ?_
    exact E_ireturn d_MOD_pc_18 (Or.inl rfl) rfl ⟨_, rfl, by rw [if_pos c, e], rfl⟩
theorem c_MOD_exitOf {G : iG} {F : Nat} {C M : Nat → Nat → Int32} {x0 : Int32} : MI G m_MOD_exitOf 1 [vR 50, vI x0] (HW F C M) (fun x h' => (x = if isb M x0 = true ∧ M 4 (nv x0) = 5 then M 5 (nv x0) else -1) ∧ h' = HW F C M) := by
  refine Mt.of' (Ls := [some (vR 50), some (vI x0)]) (by decide) (by simp [ct]) (Nat.le_of_ble_eq_true rfl) rfl ?_
  refine E_aload_n d_MOD_exitOf_0 rfl rfl ?_
  refine E_iload_n d_MOD_exitOf_1 rfl ?_
  refine E_V1i d_MOD_exitOf_2 w_MOD_242 rfl (by decide) (Nat.le_of_ble_eq_true rfl) (c_MOD_is) ?_
  rintro _ _ ⟨rfl, rfl⟩
  refine E_if_eq (tgt := 27) d_MOD_exitOf_5 (by decide) (fun c5 => ?_) (fun c5 => ?_)
  · have c := b2i_eq0 c5
    refine E_iconst (v := -1) d_MOD_exitOf_27 (by decide) ?_
    exact E_ireturn d_MOD_exitOf_28 (Or.inl rfl) rfl ⟨_, rfl, by rw [if_neg (fun q => by rw [c] at q; exact absurd q.1 (by decide))], rfl⟩
  · have c := b2i_ne0 c5
    obtain ⟨p, hp1, hp8, rfl, h4⟩ := isb_of c
    have e : nv (nI p) = p := nv_nI (by omega)
    refine E_aload_n d_MOD_exitOf_8 rfl rfl ?_
    refine L_gr d_MOD_exitOf_9 f_MOD_19 rfl (by decide) rfl rfl ?_
    refine E_iload_n d_MOD_exitOf_12 rfl ?_
    refine L_ld (j := p) d_MOD_exitOf_13 rfl rfl (by omega) (by decide) (fr_M 4 _) ?_
    refine E_iconst (v := 5) d_MOD_exitOf_14 (by decide) ?_
    refine E_icmp_ne (tgt := 27) d_MOD_exitOf_15 (by decide) (fun c15 => ?_) (fun c15 => ?_)
    · refine E_iconst (v := -1) d_MOD_exitOf_27 (by decide) ?_
      exact E_ireturn d_MOD_exitOf_28 (Or.inl rfl) rfl ⟨_, rfl, by rw [e, if_neg (fun q => c15 q.2)], rfl⟩
    · refine E_aload_n d_MOD_exitOf_18 rfl rfl ?_
      refine L_gr d_MOD_exitOf_19 f_MOD_22 rfl (by decide) rfl rfl ?_
      refine E_iload_n d_MOD_exitOf_22 rfl ?_
      refine L_ld (j := p) d_MOD_exitOf_23 rfl rfl (by omega) (by decide) (fr_M 5 _) ?_
      refine E_goto (tgt := 28) d_MOD_exitOf_24 (by decide) ?_
      exact E_ireturn d_MOD_exitOf_28 (Or.inl rfl) rfl ⟨_, rfl, by rw [e, if_pos ⟨c, c15⟩], rfl⟩
theorem c_MOD_register {G : iG} {F : Nat} {C M : Nat → Nat → Int32} {x0 y0 : Int32} : MI G m_MOD_register 1 [vR 50, vI x0, vI y0] (HW F C M) (fun x h' => (x = if isb M x0 = true ∧ 0 ≤ y0 ∧ y0 < 32 then M 9 (32 * nv x0 + nv y0) else 0) ∧ h' = HW F C M) := by
  refine Mt.of' (Ls := [some (vR 50), some (vI x0), some (vI y0)]) (by decide) (by simp [ct]) (Nat.le_of_ble_eq_true rfl) rfl ?_
  refine E_aload_n d_MOD_register_0 rfl rfl ?_
  refine E_iload_n d_MOD_register_1 rfl ?_
  refine E_V1i d_MOD_register_2 w_MOD_242 rfl (by decide) (Nat.le_of_ble_eq_true rfl) (c_MOD_is) ?_
  rintro _ _ ⟨rfl, rfl⟩
  refine E_if_eq (tgt := 32) d_MOD_register_5 (by decide) (fun c5 => ?_) (fun c5 => ?_)
  · have c := b2i_eq0 c5
    refine E_iconst (v := 0) d_MOD_register_32 (by decide) ?_
    exact E_ireturn d_MOD_register_33 (Or.inl rfl) rfl ⟨_, rfl, by rw [if_neg (fun q => by rw [c] at q; exact absurd q.1 (by decide))], rfl⟩
  · have c := b2i_ne0 c5
    obtain ⟨p, hp1, hp8, rfl, h4⟩ := isb_of c
    have e : nv (nI p) = p := nv_nI (by omega)
    refine E_iload_n d_MOD_register_8 rfl ?_
    refine E_if_lt (tgt := 32) d_MOD_register_9 (by decide) (fun c9 => ?_) (fun c9 => ?_)
    · refine E_iconst (v := 0) d_MOD_register_32 (by decide) ?_
      exact E_ireturn d_MOD_register_33 (Or.inl rfl) rfl ⟨_, rfl, by rw [if_neg (fun q => absurd c9 (Int32.not_lt.mpr q.2.1))], rfl⟩
    · refine E_iload_n d_MOD_register_12 rfl ?_
      refine E_bipush (v := 32) d_MOD_register_13 (by decide) ?_
      refine E_icmp_ge (tgt := 32) d_MOD_register_15 (by decide) (fun c15 => ?_) (fun c15 => ?_)
      · refine E_iconst (v := 0) d_MOD_register_32 (by decide) ?_
        exact E_ireturn d_MOD_register_33 (Or.inl rfl) rfl ⟨_, rfl, by rw [if_neg (fun q => absurd q.2.2 (Int32.not_lt.mpr c15))], rfl⟩
      · obtain ⟨k, hk, rfl⟩ : ∃ k : Nat, k < 32 ∧ y0 = nI k := by rcases pk_ix y0 (n := 32) (by decide) with q | q | q; exact absurd q c9; exact absurd q c15; exact q
        have e2 : nv (nI k) = k := nv_nI (by omega)
        refine E_aload_n d_MOD_register_18 rfl rfl ?_
        refine L_gr d_MOD_register_19 f_MOD_34 rfl (by decide) rfl rfl ?_
        refine E_bipush (v := 32) d_MOD_register_22 (by decide) ?_
        refine E_iload_n d_MOD_register_24 rfl ?_
        refine E_imul d_MOD_register_25 ?_
        refine E_tp (y := nI (32 * p)) (pk_mul 32 p) ?_
        refine E_iload_n d_MOD_register_26 rfl ?_
        refine E_iadd d_MOD_register_27 ?_
        refine E_tp (y := nI (32 * p + k)) (nI_add (32 * p) k) ?_
        refine L_ld (j := 32 * p + k) d_MOD_register_28 rfl rfl (by omega) (by decide) (fr_M 9 _) ?_
        refine E_goto (tgt := 33) d_MOD_register_29 (by decide) ?_
        exact E_ireturn d_MOD_register_33 (Or.inl rfl) rfl ⟨_, rfl, by rw [if_pos ⟨c, Int32.not_lt.mp c9, Int32.not_le.mp c15⟩, e, e2], rfl⟩
theorem c_MOD_descriptor {G : iG} {F : Nat} {C M : Nat → Nat → Int32} {x0 y0 : Int32} : MI G m_MOD_descriptor 1 [vR 50, vI x0, vI y0] (HW F C M) (fun x h' => (x = if isb M x0 = true then dsc M (nv x0) y0 else -1) ∧ h' = HW F C M) := by
  refine Mt.of' (Ls := [some (vR 50), some (vI x0), some (vI y0)]) (by decide) (by simp [ct]) (Nat.le_of_ble_eq_true rfl) rfl ?_
  refine E_aload_n d_MOD_descriptor_0 rfl rfl ?_
  refine E_iload_n d_MOD_descriptor_1 rfl ?_
  refine E_V1i d_MOD_descriptor_2 w_MOD_242 rfl (by decide) (Nat.le_of_ble_eq_true rfl) (c_MOD_is) ?_
  rintro _ _ ⟨rfl, rfl⟩
  refine E_if_eq (tgt := 17) d_MOD_descriptor_5 (by decide) (fun c5 => ?_) (fun c5 => ?_)
  · have c := b2i_eq0 c5
    refine E_iconst (v := -1) d_MOD_descriptor_17 (by decide) ?_
    exact E_ireturn d_MOD_descriptor_18 (Or.inl rfl) rfl ⟨_, rfl, by rw [if_neg (by rw [c]; decide)], rfl⟩
  · have c := b2i_ne0 c5
    obtain ⟨p, hp1, hp8, rfl, h4⟩ := isb_of c
    have e : nv (nI p) = p := nv_nI (by omega)
    refine E_aload_n d_MOD_descriptor_8 rfl rfl ?_
    refine E_iload_n d_MOD_descriptor_9 rfl ?_
    refine E_iload_n d_MOD_descriptor_10 rfl ?_
    refine E_V2i d_MOD_descriptor_11 w_MOD_191 rfl (by decide) (Nat.le_of_ble_eq_true rfl) (c_MOD_descriptorOf hp8) ?_
    rintro _ _ ⟨rfl, rfl⟩
    refine E_goto (tgt := 18) d_MOD_descriptor_14 (by decide) ?_
    exact E_ireturn d_MOD_descriptor_18 (Or.inl rfl) rfl ⟨_, rfl, by rw [if_pos c, e]; rfl, rfl⟩
theorem c_MOD_word {G : iG} {F : Nat} {C M : Nat → Nat → Int32} {x0 y0 : Int32} (hpg : ∀ p, 1 ≤ p → p ≤ 8 → ∃ s, s ≤ 8 ∧ M 8 p = nI s ∧ pgs M p s) : MI G m_MOD_word 1 [vR 50, vI x0, vI y0] (HW F C M) (fun x h' => (x = if isb M x0 = true ∧ (0 ≤ y0 ∧ y0 < nI 64 * M 8 (nv x0)) ∧ y0 - y0 / 4 * 4 = 0 then M 1 (cel M (nv x0) (nv y0)) else 0) ∧ h' = HW F C M) := by
  refine Mt.of' (Ls := [some (vR 50), some (vI x0), some (vI y0)]) (by decide) (by simp [ct]) (Nat.le_of_ble_eq_true rfl) rfl ?_
  refine E_aload_n d_MOD_word_0 rfl rfl ?_
  refine E_iload_n d_MOD_word_1 rfl ?_
  refine E_V1i d_MOD_word_2 w_MOD_242 rfl (by decide) (Nat.le_of_ble_eq_true rfl) (c_MOD_is) ?_
  rintro _ _ ⟨rfl, rfl⟩
  refine E_if_eq (tgt := 37) d_MOD_word_5 (by decide) (fun c5 => ?_) (fun c5 => ?_)
  · have c := b2i_eq0 c5
    refine E_iconst (v := 0) d_MOD_word_37 (by decide) ?_
    exact E_ireturn d_MOD_word_38 (Or.inl rfl) rfl ⟨_, rfl, by rw [if_neg (fun q => by rw [c] at q; exact absurd q.1 (by decide))], rfl⟩
  · have c := b2i_ne0 c5
    obtain ⟨p, hp1, hp8, rfl, h4⟩ := isb_of c
    have e : nv (nI p) = p := nv_nI (by omega)
    obtain ⟨s, hs8, hs, hpp⟩ := hpg p hp1 hp8
    refine E_aload_n d_MOD_word_8 rfl rfl ?_
    refine E_iload_n d_MOD_word_9 rfl ?_
    refine E_iload_n d_MOD_word_10 rfl ?_
    refine E_V2i d_MOD_word_11 w_MOD_124 rfl (by decide) (Nat.le_of_ble_eq_true rfl) (c_MOD_there hp8 hs) ?_
    rintro _ _ ⟨rfl, rfl⟩
    refine E_if_eq (tgt := 37) d_MOD_word_14 (by decide) (fun c14 => ?_) (fun c14 => ?_)
    · have c2 : ¬ (0 ≤ y0 ∧ y0 < nI (64 * s)) := fun h => by have := b2i_eq0 c14; simp [h] at this
      refine E_iconst (v := 0) d_MOD_word_37 (by decide) ?_
      exact E_ireturn d_MOD_word_38 (Or.inl rfl) rfl ⟨_, rfl, by rw [e, hs, pk_mul, if_neg (fun q => c2 q.2.1)], rfl⟩
    · have c2 : 0 ≤ y0 ∧ y0 < nI (64 * s) := by have := b2i_ne0 c14; simpa using this
      refine E_iload_n d_MOD_word_17 rfl ?_
      refine E_iconst (v := 4) d_MOD_word_18 (by decide) ?_
      refine E_irem d_MOD_word_19 (by decide) ?_
      refine E_if_ne (tgt := 37) d_MOD_word_20 (by decide) (fun c20 => ?_) (fun c20 => ?_)
      · refine E_iconst (v := 0) d_MOD_word_37 (by decide) ?_
        exact E_ireturn d_MOD_word_38 (Or.inl rfl) rfl ⟨_, rfl, by rw [if_neg (fun q => c20 q.2.2)], rfl⟩
      · obtain ⟨a, ha, rfl⟩ : ∃ a : Nat, a < 64 * s ∧ y0 = nI a := by rcases pk_ix y0 (n := 64 * s) (by omega) with q | q | q; exact absurd q (Int32.not_lt.mpr c2.1); exact absurd c2.2 (Int32.not_lt.mpr q); exact q
        have e2 : nv (nI a) = a := nv_nI (by omega)
        obtain ⟨f, hf40, hff⟩ := hpp (a / 64) (by omega)
        have ec : cel M p a = 16 * f + a % 64 / 4 := by rw [cel, hff, nv_nI (by omega)]
        refine E_aload_n d_MOD_word_23 rfl rfl ?_
        refine L_gr d_MOD_word_24 f_MOD_7 rfl (by decide) rfl rfl ?_
        refine E_aload_n d_MOD_word_27 rfl rfl ?_
        refine E_iload_n d_MOD_word_28 rfl ?_
        refine E_iload_n d_MOD_word_29 rfl ?_
        refine E_V2i d_MOD_word_30 w_MOD_80 rfl (by decide) (Nat.le_of_ble_eq_true rfl) (c_MOD_cellOf hp8 hs8 ha) ?_
        rintro _ _ ⟨rfl, rfl⟩
        refine E_tp (y := nI (16 * f + a % 64 / 4)) (by rw [hff, pk_mul, nI_add]) ?_
        refine L_ld (j := 16 * f + a % 64 / 4) d_MOD_word_33 rfl rfl (by omega) (by decide) (fr_M 1 _) ?_
        refine E_goto (tgt := 38) d_MOD_word_34 (by decide) ?_
        exact E_ireturn d_MOD_word_38 (Or.inl rfl) rfl ⟨_, rfl, by rw [e, hs, pk_mul, if_pos ⟨c, c2, c20⟩, e2, ec], rfl⟩
theorem c_MOD_held {G : iG} {F : Nat} {C M : Nat → Nat → Int32} {x0 : Int32} : MI G m_MOD_held 0 [vR 50, vI x0] (HW F C M) (fun x h' => (x = if 0 ≤ x0 ∧ x0 < 4 then M 14 (nv x0) else 0) ∧ h' = HW F C M) := by
  refine Mt.of' (Ls := [some (vR 50), some (vI x0)]) (by decide) (by simp [ct]) (Nat.le_of_ble_eq_true rfl) rfl ?_
  refine E_iload_n d_MOD_held_0 rfl ?_
  refine E_if_lt (tgt := 18) d_MOD_held_1 (by decide) (fun c1 => ?_) (fun c1 => ?_)
  · refine E_iconst (v := 0) d_MOD_held_18 (by decide) ?_
    exact E_ireturn d_MOD_held_19 (Or.inl rfl) rfl ⟨_, rfl, by rw [if_neg (fun q => absurd c1 (Int32.not_lt.mpr q.1))], rfl⟩
  · refine E_iload_n d_MOD_held_4 rfl ?_
    refine E_iconst (v := 4) d_MOD_held_5 (by decide) ?_
    refine E_icmp_ge (tgt := 18) d_MOD_held_6 (by decide) (fun c6 => ?_) (fun c6 => ?_)
    · refine E_iconst (v := 0) d_MOD_held_18 (by decide) ?_
      exact E_ireturn d_MOD_held_19 (Or.inl rfl) rfl ⟨_, rfl, by rw [if_neg (fun q => absurd q.2 (Int32.not_lt.mpr c6))], rfl⟩
    · obtain ⟨k, hk, rfl⟩ : ∃ k : Nat, k < 4 ∧ x0 = nI k := by rcases pk_ix x0 (n := 4) (by decide) with q | q | q; exact absurd q c1; exact absurd q c6; exact q
      refine E_aload_n d_MOD_held_9 rfl rfl ?_
      refine L_gr d_MOD_held_10 f_MOD_49 rfl (by decide) rfl rfl ?_
      refine E_iload_n d_MOD_held_13 rfl ?_
      refine L_ld (j := k) d_MOD_held_14 rfl rfl (by omega) (by decide) (fr_M 14 _) ?_
      refine E_goto (tgt := 19) d_MOD_held_15 (by decide) ?_
      exact E_ireturn d_MOD_held_19 (Or.inl rfl) rfl ⟨_, rfl, by rw [if_pos ⟨Int32.not_lt.mp c1, Int32.not_le.mp c6⟩, nv_nI (by omega)], rfl⟩
theorem c_MOD_console {G : iG} {F : Nat} {C M : Nat → Nat → Int32} {x0 : Int32} {n : Nat} (hn : M 0 22 = nI n) (hb : n ≤ 200) : MI G m_MOD_console 0 [vR 50, vI x0] (HW F C M) (fun x h' => (x = if 0 ≤ x0 ∧ x0 < nI n then M 15 (nv x0) else -1) ∧ h' = HW F C M) := by
  refine Mt.of' (Ls := [some (vR 50), some (vI x0)]) (by decide) (by simp [ct]) (Nat.le_of_ble_eq_true rfl) rfl ?_
  refine E_iload_n d_MOD_console_0 rfl ?_
  refine E_if_lt (tgt := 21) d_MOD_console_1 (by decide) (fun c1 => ?_) (fun c1 => ?_)
  · refine E_iconst (v := -1) d_MOD_console_21 (by decide) ?_
    exact E_ireturn d_MOD_console_22 (Or.inl rfl) rfl ⟨_, rfl, by rw [if_neg (fun q => absurd c1 (Int32.not_lt.mpr q.1))], rfl⟩
  · refine E_iload_n d_MOD_console_4 rfl ?_
    refine E_aload_n d_MOD_console_5 rfl rfl ?_
    refine L_gi d_MOD_console_6 f_MOD_221 rfl (by decide) rfl (fr_M 0 22) ?_
    refine E_tp (y := nI (n)) hn ?_
    refine E_icmp_ge (tgt := 21) d_MOD_console_9 (by decide) (fun c9 => ?_) (fun c9 => ?_)
    · refine E_iconst (v := -1) d_MOD_console_21 (by decide) ?_
      exact E_ireturn d_MOD_console_22 (Or.inl rfl) rfl ⟨_, rfl, by rw [if_neg (fun q => absurd q.2 (Int32.not_lt.mpr c9))], rfl⟩
    · obtain ⟨k, hk, rfl⟩ : ∃ k : Nat, k < n ∧ x0 = nI k := by rcases pk_ix x0 (n := n) (by omega) with q | q | q; exact absurd q c1; exact absurd q c9; exact q
      refine E_aload_n d_MOD_console_12 rfl rfl ?_
      refine L_gr d_MOD_console_13 f_MOD_52 rfl (by decide) rfl rfl ?_
      refine E_iload_n d_MOD_console_16 rfl ?_
      refine L_ld (j := k) d_MOD_console_17 rfl rfl (by omega) (by decide) (fr_M 15 _) ?_
      refine E_goto (tgt := 22) d_MOD_console_18 (by decide) ?_
      exact E_ireturn d_MOD_console_22 (Or.inl rfl) rfl ⟨_, rfl, by rw [if_pos ⟨Int32.not_lt.mp c1, Int32.not_le.mp c9⟩, nv_nI (by omega)], rfl⟩
theorem c_MOD_waitingTurn {G : iG} {F : Nat} {C M : Nat → Nat → Int32} {x0 : Int32} {n : Nat} (hn : M 0 15 = nI n) (hb : n ≤ 9) : MI G m_MOD_waitingTurn 0 [vR 50, vI x0] (HW F C M) (fun x h' => (x = if 0 ≤ x0 ∧ x0 < nI n then M 12 (nv x0) else 0) ∧ h' = HW F C M) := by
  refine Mt.of' (Ls := [some (vR 50), some (vI x0)]) (by decide) (by simp [ct]) (Nat.le_of_ble_eq_true rfl) rfl ?_
  refine E_iload_n d_MOD_waitingTurn_0 rfl ?_
  refine E_if_lt (tgt := 21) d_MOD_waitingTurn_1 (by decide) (fun c1 => ?_) (fun c1 => ?_)
  · refine E_iconst (v := 0) d_MOD_waitingTurn_21 (by decide) ?_
    exact E_ireturn d_MOD_waitingTurn_22 (Or.inl rfl) rfl ⟨_, rfl, by rw [if_neg (fun q => absurd c1 (Int32.not_lt.mpr q.1))], rfl⟩
  · refine E_iload_n d_MOD_waitingTurn_4 rfl ?_
    refine E_aload_n d_MOD_waitingTurn_5 rfl rfl ?_
    refine L_gi d_MOD_waitingTurn_6 f_MOD_77 rfl (by decide) rfl (fr_M 0 15) ?_
    refine E_tp (y := nI (n)) hn ?_
    refine E_icmp_ge (tgt := 21) d_MOD_waitingTurn_9 (by decide) (fun c9 => ?_) (fun c9 => ?_)
    · refine E_iconst (v := 0) d_MOD_waitingTurn_21 (by decide) ?_
      exact E_ireturn d_MOD_waitingTurn_22 (Or.inl rfl) rfl ⟨_, rfl, by rw [if_neg (fun q => absurd q.2 (Int32.not_lt.mpr c9))], rfl⟩
    · obtain ⟨k, hk, rfl⟩ : ∃ k : Nat, k < n ∧ x0 = nI k := by rcases pk_ix x0 (n := n) (by omega) with q | q | q; exact absurd q c1; exact absurd q c9; exact q
      refine E_aload_n d_MOD_waitingTurn_12 rfl rfl ?_
      refine L_gr d_MOD_waitingTurn_13 f_MOD_43 rfl (by decide) rfl rfl ?_
      refine E_iload_n d_MOD_waitingTurn_16 rfl ?_
      refine L_ld (j := k) d_MOD_waitingTurn_17 rfl rfl (by omega) (by decide) (fr_M 12 _) ?_
      refine E_goto (tgt := 22) d_MOD_waitingTurn_18 (by decide) ?_
      exact E_ireturn d_MOD_waitingTurn_22 (Or.inl rfl) rfl ⟨_, rfl, by rw [if_pos ⟨Int32.not_lt.mp c1, Int32.not_le.mp c9⟩, nv_nI (by omega)], rfl⟩
theorem c_MOD_current {G : iG} {F : Nat} {C M : Nat → Nat → Int32}  : MI G m_MOD_current 0 [vR 50] (HW F C M) (fun x h' => x = M 0 17 ∧ h' = HW F C M) := by
  refine Mt.of' (Ls := [some (vR 50)]) (by decide) (by simp [ct]) (Nat.le_of_ble_eq_true rfl) rfl ?_
  refine E_aload_n d_MOD_current_0 rfl rfl ?_
  refine L_gi d_MOD_current_1 f_MOD_227 rfl (by decide) rfl (fr_M 0 17) ?_
  exact E_ireturn d_MOD_current_4 (Or.inl rfl) rfl ⟨_, rfl, rfl, rfl⟩
theorem c_MOD_consoleLength {G : iG} {F : Nat} {C M : Nat → Nat → Int32}  : MI G m_MOD_consoleLength 0 [vR 50] (HW F C M) (fun x h' => x = M 0 22 ∧ h' = HW F C M) := by
  refine Mt.of' (Ls := [some (vR 50)]) (by decide) (by simp [ct]) (Nat.le_of_ble_eq_true rfl) rfl ?_
  refine E_aload_n d_MOD_consoleLength_0 rfl rfl ?_
  refine L_gi d_MOD_consoleLength_1 f_MOD_221 rfl (by decide) rfl (fr_M 0 22) ?_
  exact E_ireturn d_MOD_consoleLength_4 (Or.inl rfl) rfl ⟨_, rfl, rfl, rfl⟩

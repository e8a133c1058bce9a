/-! ===== the class: Memory ===== -/
theorem lp_MEM_clear {G : iG} {F : Nat} {C M : Nat → Nat → Int32} {Q : Option iV → iH → Prop} {x1 : iV} {f : Nat} (hf : f < F) (hF : F ≤ 40) (hQ : Q none (HW F (clC C f) M)) : ∀ (n k : Nat), k + n = 16 → Ev G m_MEM_clear 0 0 0 7 [some (vR 1), some x1, some (vI (nI (16 * f))), some (vI (nI k))] [] (HW F (upr C 2 (16 * f) k (fun _ => 0)) M) Q := by
  intro n
  induction n with
  | zero =>
    intro k hk
    have e : k = 16 := by omega
    subst e
    refine E_iload_n d_MEM_clear_7 rfl ?_
    refine E_bipush (v := 16) d_MEM_clear_8 (by decide) ?_
    refine E_icmp_ge (tgt := 28) d_MEM_clear_10 (by decide) (fun _ => ?_) (fun c => absurd (by decide) c)
    exact E_return d_MEM_clear_28 rfl rfl hQ
  | succ n ih =>
    intro k hk
    refine E_iload_n d_MEM_clear_7 rfl ?_
    refine E_bipush (v := 16) d_MEM_clear_8 (by decide) ?_
    refine E_icmp_ge (tgt := 28) d_MEM_clear_10 (by decide) (fun c => absurd c (nI_ge (b := 16) (by omega) (by decide))) (fun _ => ?_)
    refine E_aload_n d_MEM_clear_13 rfl rfl ?_
    refine L_gr d_MEM_clear_14 f_MEM_9 rfl (by decide) rfl rfl ?_
    refine E_iload_n d_MEM_clear_17 rfl ?_
    refine E_iload_n d_MEM_clear_18 rfl ?_
    refine E_iadd d_MEM_clear_19 ?_
    refine E_tp (y := nI (16 * f + k)) (nI_add (16 * f) k) ?_
    refine E_iconst (v := 0) d_MEM_clear_20 (by decide) ?_
    refine L_st (j := 16 * f + k) d_MEM_clear_21 rfl rfl (by omega) (by omega) (fu_K _ _ (by decide)) ?_
    refine E_iinc (v := nI (k + 1)) d_MEM_clear_22 rfl (nI_1 _) (by decide) ?_
    refine E_goto (tgt := 7) d_MEM_clear_25 (by decide) ?_
    rw [upr_succ _ 2 (16 * f) k (fun _ => 0)]
    exact ih (k + 1) (by omega)
theorem c_MEM_clear {G : iG} {F : Nat} {C M : Nat → Nat → Int32} {f : Nat} (hf : f < F) (hF : F ≤ 40) : MV G m_MEM_clear 0 [vR 1, vI (nI f)] (HW F C M) (fun h' => h' = HW F (clC C f) M) := by
  refine Mt.of' (Ls := [some (vR 1), some (vI (nI f)), none, none]) (by decide) (by simp [ct]) (Nat.le_of_ble_eq_true rfl) rfl ?_
  refine E_iload_n d_MEM_clear_0 rfl ?_
  refine E_bipush (v := 16) d_MEM_clear_1 (by decide) ?_
  refine E_imul d_MEM_clear_3 ?_
  refine E_tp (y := nI (f * 16)) (pk_mul f 16) ?_
  refine E_tp (y := nI (16 * f)) (by rw [Nat.mul_comm]) ?_
  refine E_istore_n d_MEM_clear_4 (by decide) ?_
  refine E_iconst (v := 0) d_MEM_clear_5 (by decide) ?_
  refine E_istore_n d_MEM_clear_6 (by decide) ?_
  rw [← upr_zero C 2 (16 * f) (fun _ => 0)]
  exact lp_MEM_clear hf hF ⟨rfl, by rw [upr_zero]⟩ 16 0 rfl
theorem lp_MEM_give {G : iG} {F : Nat} {M : Nat → Nat → Int32} {Q : Option iV → iH → Prop} {i : Nat} (hi : i < 8) {more : Nat} (hm : more < 2 ^ 31) (hF : F ≤ 40) : ∀ (n : Nat) (C : Nat → Nat → Int32) (k g s : Nat), k + n = F → g ≤ k → C 14 i = nI s → s ≤ 8 → Q none (HW F (gvC i more n C k g s) M) → Ev G m_MEM_give 1 0 0 5 [some (vR 1), some (vR (tk i)), some (vI (nI more)), some (vI (nI g)), some (vI (nI k))] [] (HW F C M) Q := by
  intro n
  induction n with
  | zero =>
    intro C k g s hk hg hs hs8 hQ
    refine E_iload d_MEM_give_5 rfl ?_
    refine E_aload_n d_MEM_give_7 rfl rfl ?_
    refine L_gr d_MEM_give_8 f_MEM_15 rfl (by decide) rfl rfl ?_
    refine E_alen1 d_MEM_give_11 rfl ?_
    refine E_icmp_ge (tgt := 93) d_MEM_give_12 (by decide) (fun _ => ?_) (fun c => absurd (nI_le (by omega) (by omega)) c)
    exact E_return d_MEM_give_93 rfl rfl hQ
  | succ n ih =>
    intro C k g s hk hg hs hs8 hQ
    refine E_iload d_MEM_give_5 rfl ?_
    refine E_aload_n d_MEM_give_7 rfl rfl ?_
    refine L_gr d_MEM_give_8 f_MEM_15 rfl (by decide) rfl rfl ?_
    refine E_alen1 d_MEM_give_11 rfl ?_
    refine E_icmp_ge (tgt := 93) d_MEM_give_12 (by decide) (fun c => absurd c (nI_ge (by omega) (by omega))) (fun _ => ?_)
    refine E_iload_n d_MEM_give_15 rfl ?_
    refine E_iload_n d_MEM_give_16 rfl ?_
    refine E_icmp_ge (tgt := 93) d_MEM_give_17 (by decide) (fun c17 => ?_) (fun c17 => ?_)
    · have c := (nI_leI (a := more) (b := g) (by omega) (by omega)).mp c17
      exact E_return d_MEM_give_93 rfl rfl (by rw [gvC, if_neg (by omega)] at hQ; exact hQ)
    · have c := (not_congr (nI_leI (a := more) (b := g) (by omega) (by omega))).mp c17
      refine E_aload_n d_MEM_give_20 rfl rfl ?_
      refine L_gi d_MEM_give_21 f_MEM_23 (SH_T0 hi) (by decide) rfl (fr_T4 hi) ?_
      refine E_tp (y := nI (s)) hs ?_
      refine E_bipush (v := 8) d_MEM_give_24 (by decide) ?_
      refine E_icmp_ge (tgt := 93) d_MEM_give_26 (by decide) (fun c26 => ?_) (fun c26 => ?_)
      · have c2 := (nI_leI (a := 8) (b := s) (by decide) (by omega)).mp c26
        exact E_return d_MEM_give_93 rfl rfl (by rw [gvC, if_neg (by omega)] at hQ; exact hQ)
      · have c2 := (not_congr (nI_leI (a := 8) (b := s) (by decide) (by omega))).mp c26
        refine E_aload_n d_MEM_give_29 rfl rfl ?_
        refine L_gr d_MEM_give_30 f_MEM_15 rfl (by decide) rfl rfl ?_
        refine E_iload d_MEM_give_33 rfl ?_
        refine L_zld (j := k) d_MEM_give_35 rfl rfl (by omega) (by omega) (fr_K _ (by decide)) ?_
        refine E_if_ne (tgt := 87) d_MEM_give_36 (by decide) (fun c36 => ?_) (fun c36 => ?_)
        · refine E_iinc (v := nI (k + 1)) d_MEM_give_87 rfl (nI_1 _) (by decide) ?_
          refine E_goto (tgt := 5) d_MEM_give_90 (by decide) ?_
          rw [gvC, if_pos ⟨by omega, by omega⟩, if_neg c36] at hQ
          exact ih C (k + 1) g s (by omega) (by omega) hs hs8 hQ
        · refine E_aload_n d_MEM_give_39 rfl rfl ?_
          refine L_gr d_MEM_give_40 f_MEM_15 rfl (by decide) rfl rfl ?_
          refine E_iload d_MEM_give_43 rfl ?_
          refine E_iconst (v := 1) d_MEM_give_45 (by decide) ?_
          refine L_zst (j := k) d_MEM_give_46 rfl rfl (by omega) (by omega) (by decide) (fu_K _ _ (by decide)) ?_
          refine E_aload_n d_MEM_give_47 rfl rfl ?_
          refine E_dup d_MEM_give_48 rfl ?_
          refine L_gi d_MEM_give_49 f_MEM_19 rfl (by decide) rfl (fr_K 2 (by decide)) ?_
          refine E_iconst (v := 1) d_MEM_give_52 (by decide) ?_
          refine E_isub d_MEM_give_53 ?_
          refine L_pi d_MEM_give_54 f_MEM_19 rfl (by decide) (Or.inl rfl) rfl (fu_K 2 _ (by decide)) ?_
          refine E_aload_n d_MEM_give_57 rfl rfl ?_
          refine E_iload d_MEM_give_58 rfl ?_
          refine E_V1v d_MEM_give_60 w_MEM_28 rfl (by decide) (Nat.le_of_ble_eq_true rfl) (c_MEM_clear (by omega) hF) ?_
          rintro _ rfl
          refine E_aload_n d_MEM_give_63 rfl rfl ?_
          refine L_gr d_MEM_give_64 f_MEM_32 (SH_T0 hi) (by decide) rfl (RH_T 2 hi) ?_
          refine E_aload_n d_MEM_give_67 rfl rfl ?_
          refine L_gi d_MEM_give_68 f_MEM_23 (SH_T0 hi) (by decide) rfl (fr_T4 hi) ?_
          refine E_tp (y := nI (s)) (by simp [clC, upr, up2, hs]) ?_
          refine E_iload d_MEM_give_71 rfl ?_
          refine L_st (j := s) d_MEM_give_73 (SH_T2 hi) rfl (by omega) (by decide) (fu_F _ hi (by omega)) ?_
          refine E_aload_n d_MEM_give_74 rfl rfl ?_
          refine E_dup d_MEM_give_75 rfl ?_
          refine L_gi d_MEM_give_76 f_MEM_23 (SH_T0 hi) (by decide) rfl (fr_T4 hi) ?_
          refine E_tp (y := nI (s)) (by simp [clC, upr, up2, hs]) ?_
          refine E_iconst (v := 1) d_MEM_give_79 (by decide) ?_
          refine E_iadd d_MEM_give_80 ?_
          refine E_tp (y := nI (s + 1)) (nI_add s 1) ?_
          refine L_pi d_MEM_give_81 f_MEM_23 (SH_T0 hi) (by decide) (Or.inl rfl) rfl (fu_T4 _ hi) ?_
          refine E_iinc (v := nI (g + 1)) d_MEM_give_84 rfl (nI_1 _) (by decide) ?_
          refine E_iinc (v := nI (k + 1)) d_MEM_give_87 rfl (nI_1 _) (by decide) ?_
          refine E_goto (tgt := 5) d_MEM_give_90 (by decide) ?_
          rw [gvC, if_pos ⟨by omega, by omega⟩, if_pos c36] at hQ
          exact ih (gv1 C i k s) (k + 1) (g + 1) (s + 1) (by omega) (by omega) (by simp [gv1, up2]) (by omega) hQ
theorem c_MEM_give {G : iG} {F : Nat} {C M : Nat → Nat → Int32} {i : Nat} (hi : i < 8) {more s : Nat} (hm : more < 2 ^ 31) (hF : F ≤ 40) (hs : C 14 i = nI s) (hs8 : s ≤ 8) : MV G m_MEM_give 1 [vR 1, vR (tk i), vI (nI more)] (HW F C M) (fun h' => h' = HW F (gvC i more F C 0 0 s) M) := by
  refine Mt.of' (Ls := [some (vR 1), some (vR (tk i)), some (vI (nI more)), none, none]) (by decide) (by simp [ct]) (Nat.le_of_ble_eq_true rfl) rfl ?_
  refine E_iconst (v := 0) d_MEM_give_0 (by decide) ?_
  refine E_istore_n d_MEM_give_1 (by decide) ?_
  refine E_iconst (v := 0) d_MEM_give_2 (by decide) ?_
  refine E_istore d_MEM_give_3 (by decide) ?_
  exact lp_MEM_give hi hm hF F C 0 0 s (by omega) (by omega) hs hs8 ⟨rfl, rfl⟩
theorem lp_MEM_takeBack {G : iG} {F : Nat} {C M : Nat → Nat → Int32} {Q : Option iV → iH → Prop} {i : Nat} (hi : i < 8) {s : Nat} (hF : F ≤ 40) (hs : C 14 i = nI s) (hs8 : s ≤ 8) (hpg : pgC C i s F) (hQ : Q none (HW F (tbC C i s) M)) : ∀ (n k : Nat), k + n = s → Ev G m_MEM_takeBack 0 0 0 2 [some (vR 1), some (vR (tk i)), some (vI (nI k))] [] (HW F (tbk C i k) M) Q := by
  intro n
  induction n with
  | zero =>
    intro k hk
    have e : k = s := by omega
    subst e
    refine E_iload_n d_MEM_takeBack_2 rfl ?_
    refine E_aload_n d_MEM_takeBack_3 rfl rfl ?_
    refine L_gi d_MEM_takeBack_4 f_MEM_23 (SH_T0 hi) (by decide) rfl (fr_T4 hi) ?_
    refine E_tp (y := nI (k)) ((tbk_ne C i _ (by decide) (by decide) k).trans hs) ?_
    refine E_icmp_ge (tgt := 38) d_MEM_takeBack_7 (by decide) (fun _ => ?_) (fun c => absurd (nI_le (by omega) (by omega)) c)
    refine E_aload_n d_MEM_takeBack_38 rfl rfl ?_
    refine E_iconst (v := 0) d_MEM_takeBack_39 (by decide) ?_
    refine L_pi d_MEM_takeBack_40 f_MEM_23 (SH_T0 hi) (by decide) (Or.inl rfl) rfl (fu_T4 _ hi) ?_
    exact E_return d_MEM_takeBack_43 rfl rfl hQ
  | succ n ih =>
    intro k hk
    obtain ⟨f, hf, ef⟩ := hpg k (by omega)
    refine E_iload_n d_MEM_takeBack_2 rfl ?_
    refine E_aload_n d_MEM_takeBack_3 rfl rfl ?_
    refine L_gi d_MEM_takeBack_4 f_MEM_23 (SH_T0 hi) (by decide) rfl (fr_T4 hi) ?_
    refine E_tp (y := nI (s)) ((tbk_ne C i _ (by decide) (by decide) k).trans hs) ?_
    refine E_icmp_ge (tgt := 38) d_MEM_takeBack_7 (by decide) (fun c => absurd c (nI_ge (by omega) (by omega))) (fun _ => ?_)
    refine E_aload_n d_MEM_takeBack_10 rfl rfl ?_
    refine L_gr d_MEM_takeBack_11 f_MEM_15 rfl (by decide) rfl rfl ?_
    refine E_aload_n d_MEM_takeBack_14 rfl rfl ?_
    refine L_gr d_MEM_takeBack_15 f_MEM_32 (SH_T0 hi) (by decide) rfl (RH_T 2 hi) ?_
    refine E_iload_n d_MEM_takeBack_18 rfl ?_
    refine L_ld (j := k) d_MEM_takeBack_19 (SH_T2 hi) rfl (by omega) (by decide) (fr_F hi (by omega)) ?_
    refine E_tp (y := nI (f)) ((tbk_ne C i _ (by decide) (by decide) k).trans ef) ?_
    refine E_iconst (v := 0) d_MEM_takeBack_20 (by decide) ?_
    refine L_zst (j := f) d_MEM_takeBack_21 rfl rfl (by omega) (by omega) (by decide) (fu_K _ _ (by decide)) ?_
    refine E_aload_n d_MEM_takeBack_22 rfl rfl ?_
    refine E_dup d_MEM_takeBack_23 rfl ?_
    refine L_gi d_MEM_takeBack_24 f_MEM_19 rfl (by decide) rfl (fr_K 2 (by decide)) ?_
    refine E_tp (y := tbk C i k 1 2) (up2_ne2 _ _ _ _ (by decide)) ?_
    refine E_iconst (v := 1) d_MEM_takeBack_27 (by decide) ?_
    refine E_iadd d_MEM_takeBack_28 ?_
    refine L_pi d_MEM_takeBack_29 f_MEM_19 rfl (by decide) (Or.inl rfl) rfl (fu_K 2 _ (by decide)) ?_
    refine E_iinc (v := nI (k + 1)) d_MEM_takeBack_32 rfl (nI_1 _) (by decide) ?_
    refine E_goto (tgt := 2) d_MEM_takeBack_35 (by decide) ?_
    have e := ih (k + 1) (by omega)
    rw [tbk, ef, nv_nI (by omega)] at e
    exact e
theorem c_MEM_takeBack {G : iG} {F : Nat} {C M : Nat → Nat → Int32} {i : Nat} (hi : i < 8) {s : Nat} (hF : F ≤ 40) (hs : C 14 i = nI s) (hs8 : s ≤ 8) (hpg : pgC C i s F) : MV G m_MEM_takeBack 0 [vR 1, vR (tk i)] (HW F C M) (fun h' => h' = HW F (tbC C i s) M) := by
  refine Mt.of' (Ls := [some (vR 1), some (vR (tk i)), none]) (by decide) (by simp [ct]) (Nat.le_of_ble_eq_true rfl) rfl ?_
  refine E_iconst (v := 0) d_MEM_takeBack_0 (by decide) ?_
  refine E_istore_n d_MEM_takeBack_1 (by decide) ?_
  exact lp_MEM_takeBack hi hF hs hs8 hpg ⟨rfl, rfl⟩ s 0 (by omega)
theorem lp_MEM_copyPages {G : iG} {F : Nat} {C M : Nat → Nat → Int32} {Q : Option iV → iH → Prop} {i : Nat} (hi : i < 8) {j s : Nat} (hj : j < 8) (hF : F ≤ 40) (hs : C 14 i = nI s) (hsj : C 14 j = nI s) (hs8 : s ≤ 8) (hpg : pgC C i s F) (hpj : pgC C j s F) (hQ : Q none (HW F (cpg C i j s) M)) : ∀ (n k : Nat) (l4 l5 : Option iV), k + n = s → Ev G m_MEM_copyPages 1 0 0 2 [some (vR 1), some (vR (tk i)), some (vR (tk j)), some (vI (nI k)), l4, l5] [] (HW F (cpg C i j k) M) Q := by
  intro n
  induction n with
  | zero =>
    intro k l4 l5 hk
    have e : k = s := by omega
    subst e
    refine E_iload_n d_MEM_copyPages_2 rfl ?_
    refine E_aload_n d_MEM_copyPages_3 rfl rfl ?_
    refine L_gi d_MEM_copyPages_4 f_MEM_23 (SH_T0 hi) (by decide) rfl (fr_T4 hi) ?_
    refine E_tp (y := nI (k)) ((cpg_ne C i j _ (by decide) k).trans hs) ?_
    refine E_icmp_ge (tgt := 63) d_MEM_copyPages_7 (by decide) (fun _ => ?_) (fun c => absurd (nI_le (by omega) (by omega)) c)
    exact E_return d_MEM_copyPages_63 rfl rfl hQ
  | succ n ih =>
    intro k l4 l5 hk
    obtain ⟨f, hf, ef⟩ := hpg k (by omega)
    obtain ⟨g, hg, eg⟩ := hpj k (by omega)
    refine E_iload_n d_MEM_copyPages_2 rfl ?_
    refine E_aload_n d_MEM_copyPages_3 rfl rfl ?_
    refine L_gi d_MEM_copyPages_4 f_MEM_23 (SH_T0 hi) (by decide) rfl (fr_T4 hi) ?_
    refine E_tp (y := nI (s)) ((cpg_ne C i j _ (by decide) k).trans hs) ?_
    refine E_icmp_ge (tgt := 63) d_MEM_copyPages_7 (by decide) (fun c => absurd c (nI_ge (by omega) (by omega))) (fun _ => ?_)
    refine E_iload_n d_MEM_copyPages_10 rfl ?_
    refine E_aload_n d_MEM_copyPages_11 rfl rfl ?_
    refine L_gi d_MEM_copyPages_12 f_MEM_23 (SH_T0 hj) (by decide) rfl (fr_T4 hj) ?_
    refine E_tp (y := nI (s)) ((cpg_ne C i j _ (by decide) k).trans hsj) ?_
    refine E_icmp_ge (tgt := 63) d_MEM_copyPages_15 (by decide) (fun c => absurd c (nI_ge (by omega) (by omega))) (fun _ => ?_)
    refine E_aload_n d_MEM_copyPages_18 rfl rfl ?_
    refine L_gr d_MEM_copyPages_19 f_MEM_32 (SH_T0 hi) (by decide) rfl (RH_T 2 hi) ?_
    refine E_iload_n d_MEM_copyPages_22 rfl ?_
    refine L_ld (j := k) d_MEM_copyPages_23 (SH_T2 hi) rfl (by omega) (by decide) (fr_F hi (by omega)) ?_
    refine E_tp (y := nI (f)) ((cpg_ne C i j _ (by decide) k).trans ef) ?_
    refine E_bipush (v := 16) d_MEM_copyPages_24 (by decide) ?_
    refine E_imul d_MEM_copyPages_26 ?_
    refine E_tp (y := nI (f * 16)) (pk_mul f 16) ?_
    refine E_istore d_MEM_copyPages_27 (by decide) ?_
    refine E_aload_n d_MEM_copyPages_29 rfl rfl ?_
    refine L_gr d_MEM_copyPages_30 f_MEM_32 (SH_T0 hj) (by decide) rfl (RH_T 2 hj) ?_
    refine E_iload_n d_MEM_copyPages_33 rfl ?_
    refine L_ld (j := k) d_MEM_copyPages_34 (SH_T2 hj) rfl (by omega) (by decide) (fr_F hj (by omega)) ?_
    refine E_tp (y := nI (g)) ((cpg_ne C i j _ (by decide) k).trans eg) ?_
    refine E_bipush (v := 16) d_MEM_copyPages_35 (by decide) ?_
    refine E_imul d_MEM_copyPages_37 ?_
    refine E_tp (y := nI (g * 16)) (pk_mul g 16) ?_
    refine E_istore d_MEM_copyPages_38 (by decide) ?_
    refine E_aload_n d_MEM_copyPages_40 rfl rfl ?_
    refine L_gr d_MEM_copyPages_41 f_MEM_9 rfl (by decide) rfl rfl ?_
    refine E_iload d_MEM_copyPages_44 rfl ?_
    refine E_aload_n d_MEM_copyPages_46 rfl rfl ?_
    refine L_gr d_MEM_copyPages_47 f_MEM_9 rfl (by decide) rfl rfl ?_
    refine E_iload d_MEM_copyPages_50 rfl ?_
    refine E_bipush (v := 16) d_MEM_copyPages_52 (by decide) ?_
    refine L_cp (a := f * 16) (b := g * 16) (n := 16) d_MEM_copyPages_54 w_MEM_35 (by decide) (Nat.le_of_ble_eq_true rfl) rfl rfl rfl rfl rfl (by omega) (by omega) (by omega) (by omega) (fk_W _ _) ?_
    refine E_iinc (v := nI (k + 1)) d_MEM_copyPages_57 rfl (nI_1 _) (by decide) ?_
    refine E_goto (tgt := 2) d_MEM_copyPages_60 (by decide) ?_
    have e := ih (k + 1) (some (vI (nI (f * 16)))) (some (vI (nI (g * 16)))) (by omega)
    rw [cpg, ef, eg, nv_nI (by omega), nv_nI (by omega), Nat.mul_comm 16 f, Nat.mul_comm 16 g] at e
    exact e
theorem c_MEM_copyPages {G : iG} {F : Nat} {C M : Nat → Nat → Int32} {i : Nat} (hi : i < 8) {j s : Nat} (hj : j < 8) (hF : F ≤ 40) (hs : C 14 i = nI s) (hsj : C 14 j = nI s) (hs8 : s ≤ 8) (hpg : pgC C i s F) (hpj : pgC C j s F) : MV G m_MEM_copyPages 1 [vR 1, vR (tk i), vR (tk j)] (HW F C M) (fun h' => h' = HW F (cpg C i j s) M) := by
  refine Mt.of' (Ls := [some (vR 1), some (vR (tk i)), some (vR (tk j)), none, none, none]) (by decide) (by simp [ct]) (Nat.le_of_ble_eq_true rfl) rfl ?_
  refine E_iconst (v := 0) d_MEM_copyPages_0 (by decide) ?_
  refine E_istore_n d_MEM_copyPages_1 (by decide) ?_
  exact lp_MEM_copyPages hi hj hF hs hsj hs8 hpg hpj ⟨rfl, rfl⟩ s 0 none none (by omega)
theorem u6 (x : Int32) : (x.toUInt32 >>> ((6 : Int32).toUInt32 &&& Int32.toUInt32 31)).toInt32 = nI (x.toBitVec.toNat / 64) := by
  have h := pk_ushr x 6 6 (by decide)
  have hx := x.toBitVec.isLt
  apply Int32.toBitVec_inj.mp
  apply BitVec.eq_of_toNat_eq
  rw [h, pk_tn (by omega)]
theorem u2 (x : Int32) : (x.toUInt32 >>> ((2 : Int32).toUInt32 &&& Int32.toUInt32 31)).toInt32 &&& 15 = nI (x.toBitVec.toNat / 4 % 16) := bf_u x 2 4 (by decide) (by decide)
theorem c_MEM_placeOf {G : iG} {F : Nat} {C M : Nat → Nat → Int32} {i : Nat} (hi : i < 8) {s : Nat} {x0 : Int32} (hs : C 14 i = nI s) (hs8 : s ≤ 8) : MI G m_MEM_placeOf 0 [vR 1, vR (tk i), vI x0] (HW F C M) (fun x h' => x = plC C i s x0 ∧ h' = HW F C M) := by
  refine Mt.of' (Ls := [some (vR 1), some (vR (tk i)), some (vI x0), none]) (by decide) (by simp [ct]) (Nat.le_of_ble_eq_true rfl) rfl ?_
  have hx := x0.toBitVec.isLt
  refine E_iload_n d_MEM_placeOf_0 rfl ?_
  refine E_bipush (v := 6) d_MEM_placeOf_1 (by decide) ?_
  refine E_iushr d_MEM_placeOf_3 ?_
  refine E_tp (y := nI (x0.toBitVec.toNat / 64)) (u6 x0) ?_
  refine E_istore_n d_MEM_placeOf_4 (by decide) ?_
  refine E_iload_n d_MEM_placeOf_5 rfl ?_
  refine E_aload_n d_MEM_placeOf_6 rfl rfl ?_
  refine L_gi d_MEM_placeOf_7 f_MEM_23 (SH_T0 hi) (by decide) rfl (fr_T4 hi) ?_
  refine E_tp (y := nI (s)) hs ?_
  refine E_icmp_lt (tgt := 15) d_MEM_placeOf_10 (by decide) (fun c10 => ?_) (fun c10 => ?_)
  · have c := (nI_ltI (a := x0.toBitVec.toNat / 64) (b := s) (by omega) (by omega)).mp c10
    refine E_aload_n d_MEM_placeOf_15 rfl rfl ?_
    refine L_gr d_MEM_placeOf_16 f_MEM_32 (SH_T0 hi) (by decide) rfl (RH_T 2 hi) ?_
    refine E_iload_n d_MEM_placeOf_19 rfl ?_
    refine L_ld (j := x0.toBitVec.toNat / 64) d_MEM_placeOf_20 (SH_T2 hi) rfl (by omega) (by decide) (fr_F hi (by omega)) ?_
    refine E_bipush (v := 16) d_MEM_placeOf_21 (by decide) ?_
    refine E_imul d_MEM_placeOf_23 ?_
    refine E_iload_n d_MEM_placeOf_24 rfl ?_
    refine E_iconst (v := 2) d_MEM_placeOf_25 (by decide) ?_
    refine E_iushr d_MEM_placeOf_26 ?_
    refine E_bipush (v := 15) d_MEM_placeOf_27 (by decide) ?_
    refine E_iand d_MEM_placeOf_29 ?_
    refine E_iadd d_MEM_placeOf_30 ?_
    exact E_ireturn d_MEM_placeOf_31 (Or.inl rfl) rfl ⟨_, rfl, by rw [plC, if_pos c, u2], rfl⟩
  · have c := (not_congr (nI_ltI (a := x0.toBitVec.toNat / 64) (b := s) (by omega) (by omega))).mp c10
    refine E_iconst (v := -1) d_MEM_placeOf_13 (by decide) ?_
    exact E_ireturn d_MEM_placeOf_14 (Or.inl rfl) rfl ⟨_, rfl, by rw [plC, if_neg c], rfl⟩
theorem lp_MEM_copyProgram {G : iG} {F : Nat} {C M : Nat → Nat → Int32} {Q : Option iV → iH → Prop} {i : Nat} (hi : i < 8) {s n : Nat} (hF : F ≤ 40) (hs : C 14 i = nI s) (hs8 : s ≤ 8) (hpg : pgC C i s F) (hn : n ≤ 64) (hns : n ≤ 16 * s) (hQ : Q none (HW F (cpr C i n) M)) : ∀ (r k : Nat) (l5 : Option iV), k + r = n → Ev G m_MEM_copyProgram 1 0 0 3 [some (vR 1), some (vR (tk i)), some (vR 48), some (vI (nI n)), some (vI (nI k)), l5] [] (HW F (cpr C i k) M) Q := by
  intro r
  induction r with
  | zero =>
    intro k l5 hk
    have e : k = n := by omega
    subst e
    refine E_iload d_MEM_copyProgram_3 rfl ?_
    refine E_iload_n d_MEM_copyProgram_5 rfl ?_
    refine E_icmp_ge (tgt := 43) d_MEM_copyProgram_6 (by decide) (fun _ => ?_) (fun c => absurd (nI_le (by omega) (by omega)) c)
    exact E_return d_MEM_copyProgram_43 rfl rfl hQ
  | succ r ih =>
    intro k l5 hk
    obtain ⟨f, hf, ef⟩ := hpg (k / 16) (by omega)
    have e4 : (nI (4 * k)).toBitVec.toNat = 4 * k := pk_tn (by omega)
    have epl : plC (cpr C i k) i s (nI (4 * k)) = nI (16 * f + k % 16) := by rw [plC, e4, if_pos (by omega), cpr_ne C i _ (by decide) k, show 4 * k / 64 = k / 16 by omega, ef, show 4 * k / 4 % 16 = k % 16 by omega, show (16 : Int32) = nI 16 from rfl, pk_mul, nI_add, Nat.mul_comm]
    refine E_iload d_MEM_copyProgram_3 rfl ?_
    refine E_iload_n d_MEM_copyProgram_5 rfl ?_
    refine E_icmp_ge (tgt := 43) d_MEM_copyProgram_6 (by decide) (fun c => absurd c (nI_ge (by omega) (by omega))) (fun _ => ?_)
    refine E_aload_n d_MEM_copyProgram_9 rfl rfl ?_
    refine E_aload_n d_MEM_copyProgram_10 rfl rfl ?_
    refine E_iconst (v := 4) d_MEM_copyProgram_11 (by decide) ?_
    refine E_iload d_MEM_copyProgram_12 rfl ?_
    refine E_imul d_MEM_copyProgram_14 ?_
    refine E_tp (y := nI (4 * k)) (pk_mul 4 k) ?_
    refine E_V2i d_MEM_copyProgram_15 w_MEM_41 rfl (by decide) (Nat.le_of_ble_eq_true rfl) (c_MEM_placeOf hi ((cpr_ne C i _ (by decide) k).trans hs) hs8) ?_
    rintro _ _ ⟨rfl, rfl⟩
    refine E_tp (y := nI (16 * f + k % 16)) epl ?_
    refine E_istore d_MEM_copyProgram_18 (by decide) ?_
    refine E_iload d_MEM_copyProgram_20 rfl ?_
    refine E_iconst (v := -1) d_MEM_copyProgram_22 (by decide) ?_
    refine E_icmp_eq (tgt := 37) d_MEM_copyProgram_23 (by decide) (fun c => absurd c (fun q => absurd q (fun q => by have := nI_pos' (n := 16 * f + k % 16) (by omega); rw [q] at this; exact absurd this (by decide)))) (fun _ => ?_)
    refine E_aload_n d_MEM_copyProgram_26 rfl rfl ?_
    refine L_gr d_MEM_copyProgram_27 f_MEM_9 rfl (by decide) rfl rfl ?_
    refine E_iload d_MEM_copyProgram_30 rfl ?_
    refine E_aload_n d_MEM_copyProgram_32 rfl rfl ?_
    refine E_iload d_MEM_copyProgram_33 rfl ?_
    refine L_ld (j := k) d_MEM_copyProgram_35 rfl rfl (by omega) (by decide) (fr_K _ (by decide)) ?_
    refine E_tp (y := C 48 k) (cpr_ne C i _ (by decide) k) ?_
    refine L_st (j := 16 * f + k % 16) d_MEM_copyProgram_36 rfl rfl (by omega) (by omega) (fu_K _ _ (by decide)) ?_
    refine E_iinc (v := nI (k + 1)) d_MEM_copyProgram_37 rfl (nI_1 _) (by decide) ?_
    refine E_goto (tgt := 3) d_MEM_copyProgram_40 (by decide) ?_
    have e := ih (k + 1) (some (vI (nI (16 * f + k % 16)))) (by omega)
    rw [cpr, ef, nv_nI (by omega)] at e
    exact e
theorem c_MEM_copyProgram {G : iG} {F : Nat} {C M : Nat → Nat → Int32} {i : Nat} (hi : i < 8) {s n : Nat} (hF : F ≤ 40) (hs : C 14 i = nI s) (hs8 : s ≤ 8) (hpg : pgC C i s F) (hn : n ≤ 64) (hns : n ≤ 16 * s) : MV G m_MEM_copyProgram 1 [vR 1, vR (tk i), vR 48, vI (nI n)] (HW F C M) (fun h' => h' = HW F (cpr C i n) M) := by
  refine Mt.of' (Ls := [some (vR 1), some (vR (tk i)), some (vR 48), some (vI (nI n)), none, none]) (by decide) (by simp [ct]) (Nat.le_of_ble_eq_true rfl) rfl ?_
  refine E_iconst (v := 0) d_MEM_copyProgram_0 (by decide) ?_
  refine E_istore d_MEM_copyProgram_1 (by decide) ?_
  exact lp_MEM_copyProgram hi hF hs hs8 hpg hn hns ⟨rfl, rfl⟩ n 0 none (by omega)

/-! ===== the reference's end, fault, jump, reach ===== -/
theorem lp_MOD_end1 {G : iG} {F : Nat} {C M : Nat → Nat → Int32} {Q : Option iV → iH → Prop} {x2 : iV} {l4 : Option iV} {p : Nat} (K : Ev G m_MOD_end 2 0 0 61 [some (vR 50), some (vI (nI p)), some x2, some (vI (nI 40)), l4] [] (HW F C (hldM M (nI p) 40)) Q) : ∀ (n k : Nat), k + n = 40 → Ev G m_MOD_end 2 0 0 23 [some (vR 50), some (vI (nI p)), some x2, some (vI (nI k)), l4] [] (HW F C (hldM M (nI p) k)) Q := by
  intro n
  induction n with
  | zero =>
    intro k hk
    have hkf : k = 40 := by omega
    subst hkf
    refine E_iload_n d_MOD_end_23 rfl ?_
    refine E_bipush (v := 40) d_MOD_end_24 (by decide) ?_
    refine E_icmp_ge (tgt := 61) d_MOD_end_26 (by decide) (fun _ => ?_) (fun c => absurd (by decide) c)
    exact K
  | succ n ih =>
    intro k hk
    refine E_iload_n d_MOD_end_23 rfl ?_
    refine E_bipush (v := 40) d_MOD_end_24 (by decide) ?_
    refine E_icmp_ge (tgt := 61) d_MOD_end_26 (by decide) (fun c => absurd c (nI_ge (b := 40) (by omega) (by decide))) (fun _ => ?_)
    refine E_aload_n d_MOD_end_29 rfl rfl ?_
    refine L_gr d_MOD_end_30 f_MOD_13 rfl (by decide) rfl rfl ?_
    refine E_iload_n d_MOD_end_33 rfl ?_
    refine E_aload_n d_MOD_end_34 rfl rfl ?_
    refine L_gr d_MOD_end_35 f_MOD_13 rfl (by decide) rfl rfl ?_
    refine E_iload_n d_MOD_end_38 rfl ?_
    refine L_ld (j := k) d_MOD_end_39 rfl rfl (by omega) (by decide) (fr_M 2 _) ?_
    refine E_tp (y := M 2 k) (hldM_at M (nI p) k) ?_
    refine E_iload_n d_MOD_end_40 rfl ?_
    refine E_icmp_ne (tgt := 48) d_MOD_end_41 (by decide) (fun c41 => ?_) (fun c41 => ?_)
    · refine E_aload_n d_MOD_end_48 rfl rfl ?_
      refine L_gr d_MOD_end_49 f_MOD_13 rfl (by decide) rfl rfl ?_
      refine E_iload_n d_MOD_end_52 rfl ?_
      refine L_ld (j := k) d_MOD_end_53 rfl rfl (by omega) (by decide) (fr_M 2 _) ?_
      refine E_tp (y := M 2 k) (hldM_at M (nI p) k) ?_
      refine L_st (j := k) d_MOD_end_54 rfl rfl (by omega) (by decide) (fu_M 2 _ _) ?_
      refine E_iinc (v := nI (k + 1)) d_MOD_end_55 rfl (nI_1 _) (by decide) ?_
      refine E_goto (tgt := 23) d_MOD_end_58 (by decide) ?_
      rw [hldM_f c41]
      exact ih (k + 1) (by omega)
    · refine E_iconst (v := 0) d_MOD_end_44 (by decide) ?_
      refine E_goto (tgt := 54) d_MOD_end_45 (by decide) ?_
      refine L_st (j := k) d_MOD_end_54 rfl rfl (by omega) (by decide) (fu_M 2 _ _) ?_
      refine E_iinc (v := nI (k + 1)) d_MOD_end_55 rfl (nI_1 _) (by decide) ?_
      refine E_goto (tgt := 23) d_MOD_end_58 (by decide) ?_
      rw [hldM_t c41]
      exact ih (k + 1) (by omega)
theorem lp_MOD_end2 {G : iG} {F : Nat} {C M : Nat → Nat → Int32} {Q : Option iV → iH → Prop} {x2 : iV} {l4 : Option iV} {p : Nat} (hp : p ≤ 8) (K : Ev G m_MOD_end 2 0 0 87 [some (vR 50), some (vI (nI p)), some x2, some (vI (nI 6)), l4] [] (HW F C (upr M 11 (6 * p) 6 (fun _ => -1))) Q) : ∀ (n k : Nat), k + n = 6 → Ev G m_MOD_end 2 0 0 63 [some (vR 50), some (vI (nI p)), some x2, some (vI (nI k)), l4] [] (HW F C (upr M 11 (6 * p) k (fun _ => -1))) Q := by
  intro n
  induction n with
  | zero =>
    intro k hk
    have hkf : k = 6 := by omega
    subst hkf
    refine E_iload_n d_MOD_end_63 rfl ?_
    refine E_bipush (v := 6) d_MOD_end_64 (by decide) ?_
    refine E_icmp_ge (tgt := 87) d_MOD_end_66 (by decide) (fun _ => ?_) (fun c => absurd (by decide) c)
    exact K
  | succ n ih =>
    intro k hk
    refine E_iload_n d_MOD_end_63 rfl ?_
    refine E_bipush (v := 6) d_MOD_end_64 (by decide) ?_
    refine E_icmp_ge (tgt := 87) d_MOD_end_66 (by decide) (fun c => absurd c (nI_ge (b := 6) (by omega) (by decide))) (fun _ => ?_)
    refine E_aload_n d_MOD_end_69 rfl rfl ?_
    refine L_gr d_MOD_end_70 f_MOD_40 rfl (by decide) rfl rfl ?_
    refine E_bipush (v := 6) d_MOD_end_73 (by decide) ?_
    refine E_iload_n d_MOD_end_75 rfl ?_
    refine E_imul d_MOD_end_76 ?_
    refine E_tp (y := nI (6 * p)) (pk_mul 6 p) ?_
    refine E_iload_n d_MOD_end_77 rfl ?_
    refine E_iadd d_MOD_end_78 ?_
    refine E_tp (y := nI (6 * p + k)) (nI_add (6 * p) k) ?_
    refine E_iconst (v := -1) d_MOD_end_79 (by decide) ?_
    refine L_st (j := 6 * p + k) d_MOD_end_80 rfl rfl (by omega) (by decide) (fu_M 11 _ _) ?_
    refine E_iinc (v := nI (k + 1)) d_MOD_end_81 rfl (nI_1 _) (by decide) ?_
    refine E_goto (tgt := 63) d_MOD_end_84 (by decide) ?_
    rw [upr_succ _ 11 (6 * p) k (fun _ => -1)]
    exact ih (k + 1) (by omega)
theorem lp_MOD_end3 {G : iG} {F : Nat} {C M : Nat → Nat → Int32} {Q : Option iV → iH → Prop} {x2 : iV} {one : Int32} {p : Nat} (hp : p ≤ 8) (K : Ev G m_MOD_end 2 0 0 178 [some (vR 50), some (vI (nI p)), some x2, some (vI one), some (vI (nI 9))] [] (HW F C (rpa M (nI p) one 8)) Q) : ∀ (n k : Nat), k + n = 8 → Ev G m_MOD_end 2 0 0 115 [some (vR 50), some (vI (nI p)), some x2, some (vI one), some (vI (nI (k + 1)))] [] (HW F C (rpa M (nI p) one k)) Q := by
  intro n
  induction n with
  | zero =>
    intro k hk
    have hkf : k = 8 := by omega
    subst hkf
    refine E_iload d_MOD_end_115 rfl ?_
    refine E_bipush (v := 8) d_MOD_end_117 (by decide) ?_
    refine E_icmp_gt (tgt := 178) d_MOD_end_119 (by decide) (fun _ => ?_) (fun c => absurd (by decide) c)
    exact K
  | succ n ih =>
    intro k hk
    refine E_iload d_MOD_end_115 rfl ?_
    refine E_bipush (v := 8) d_MOD_end_117 (by decide) ?_
    refine E_icmp_gt (tgt := 178) d_MOD_end_119 (by decide) (fun c => absurd c (nI_nlt (a := 8) (b := k + 1) (by omega) (by decide))) (fun _ => ?_)
    refine E_aload_n d_MOD_end_122 rfl rfl ?_
    refine L_gr d_MOD_end_123 f_MOD_19 rfl (by decide) rfl rfl ?_
    refine E_iload d_MOD_end_126 rfl ?_
    refine L_ld (j := k + 1) d_MOD_end_128 rfl rfl (by omega) (by decide) (fr_M 4 _) ?_
    refine E_if_le (tgt := 172) d_MOD_end_129 (by decide) (fun c129 => ?_) (fun c129 => ?_)
    · refine E_iinc (v := nI (k + 1 + 1)) d_MOD_end_172 rfl (nI_1 _) (by decide) ?_
      refine E_goto (tgt := 115) d_MOD_end_175 (by decide) ?_
      have e := ih (k + 1) (by omega)
      rw [rpa, if_neg (fun q => absurd q.1 (Int32.not_lt.mpr c129))] at e
      exact e
    · refine E_aload_n d_MOD_end_132 rfl rfl ?_
      refine L_gr d_MOD_end_133 f_MOD_25 rfl (by decide) rfl rfl ?_
      refine E_iload d_MOD_end_136 rfl ?_
      refine L_ld (j := k + 1) d_MOD_end_138 rfl rfl (by omega) (by decide) (fr_M 6 _) ?_
      refine E_iload_n d_MOD_end_139 rfl ?_
      refine E_icmp_ne (tgt := 172) d_MOD_end_140 (by decide) (fun c140 => ?_) (fun c140 => ?_)
      · refine E_iinc (v := nI (k + 1 + 1)) d_MOD_end_172 rfl (nI_1 _) (by decide) ?_
        refine E_goto (tgt := 115) d_MOD_end_175 (by decide) ?_
        have e := ih (k + 1) (by omega)
        rw [rpa, if_neg (fun q => c140 q.2)] at e
        exact e
      · refine E_aload_n d_MOD_end_143 rfl rfl ?_
        refine L_gr d_MOD_end_144 f_MOD_25 rfl (by decide) rfl rfl ?_
        refine E_iload d_MOD_end_147 rfl ?_
        refine E_iload_n d_MOD_end_149 rfl ?_
        refine L_st (j := k + 1) d_MOD_end_150 rfl rfl (by omega) (by decide) (fu_M 6 _ _) ?_
        refine E_iload_n d_MOD_end_151 rfl ?_
        refine E_if_ne (tgt := 172) d_MOD_end_152 (by decide) (fun c152 => ?_) (fun c152 => ?_)
        · refine E_iinc (v := nI (k + 1 + 1)) d_MOD_end_172 rfl (nI_1 _) (by decide) ?_
          refine E_goto (tgt := 115) d_MOD_end_175 (by decide) ?_
          have e := ih (k + 1) (by omega)
          rw [rpa, if_pos ⟨Int32.not_le.mp c129, c140⟩, if_neg (fun q => c152 q.1)] at e
          exact e
        · refine E_aload_n d_MOD_end_155 rfl rfl ?_
          refine L_gr d_MOD_end_156 f_MOD_19 rfl (by decide) rfl rfl ?_
          refine E_iload d_MOD_end_159 rfl ?_
          refine L_ld (j := k + 1) d_MOD_end_161 rfl rfl (by omega) (by decide) (fr_M 4 _) ?_
          refine E_tp (y := rpa M (nI p) one k 4 (k + 1)) (up2_ne2 _ _ _ _ (by decide)) ?_
          refine E_iconst (v := 5) d_MOD_end_162 (by decide) ?_
          refine E_icmp_ne (tgt := 172) d_MOD_end_163 (by decide) (fun c163 => ?_) (fun c163 => ?_)
          · refine E_iinc (v := nI (k + 1 + 1)) d_MOD_end_172 rfl (nI_1 _) (by decide) ?_
            refine E_goto (tgt := 115) d_MOD_end_175 (by decide) ?_
            have e := ih (k + 1) (by omega)
            rw [rpa, if_pos ⟨Int32.not_le.mp c129, c140⟩, if_neg (fun q => c163 q.2)] at e
            exact e
          · refine E_aload_n d_MOD_end_166 rfl rfl ?_
            refine E_iload d_MOD_end_167 rfl ?_
            refine E_V1v d_MOD_end_169 w_MOD_94 rfl (by decide) (Nat.le_of_ble_eq_true rfl) (c_MOD_remove (by omega)) ?_
            rintro _ rfl
            refine E_iinc (v := nI (k + 1 + 1)) d_MOD_end_172 rfl (nI_1 _) (by decide) ?_
            refine E_goto (tgt := 115) d_MOD_end_175 (by decide) ?_
            have e := ih (k + 1) (by omega)
            rw [rpa, if_pos ⟨Int32.not_le.mp c129, c140⟩, if_pos ⟨c152, c163⟩] at e
            exact e
theorem c_MOD_end {G : iG} {F : Nat} {C M : Nat → Nat → Int32} {p m : Nat} {code : Int32} (hp : p ≤ 8) (hm : M 0 15 = nI m) (hm9 : m ≤ 9) : MV G m_MOD_end 2 [vR 50, vI (nI p), vI code] (HW F C M) (fun h' => h' = HW F C (endM M p code m)) := by
  refine Mt.of' (Ls := [some (vR 50), some (vI (nI p)), some (vI code), none, none]) (by decide) (by simp [ct]) (Nat.le_of_ble_eq_true rfl) rfl ?_
  refine E_aload_n d_MOD_end_0 rfl rfl ?_
  refine L_gr d_MOD_end_1 f_MOD_19 rfl (by decide) rfl rfl ?_
  refine E_iload_n d_MOD_end_4 rfl ?_
  refine E_iconst (v := 5) d_MOD_end_5 (by decide) ?_
  refine L_st (j := p) d_MOD_end_6 rfl rfl (by omega) (by decide) (fu_M 4 _ _) ?_
  refine E_aload_n d_MOD_end_7 rfl rfl ?_
  refine L_gr d_MOD_end_8 f_MOD_22 rfl (by decide) rfl rfl ?_
  refine E_iload_n d_MOD_end_11 rfl ?_
  refine E_iload_n d_MOD_end_12 rfl ?_
  refine L_st (j := p) d_MOD_end_13 rfl rfl (by omega) (by decide) (fu_M 5 _ _) ?_
  refine E_aload_n d_MOD_end_14 rfl rfl ?_
  refine L_gr d_MOD_end_15 f_MOD_31 rfl (by decide) rfl rfl ?_
  refine E_iload_n d_MOD_end_18 rfl ?_
  refine E_iconst (v := 0) d_MOD_end_19 (by decide) ?_
  refine L_st (j := p) d_MOD_end_20 rfl rfl (by omega) (by decide) (fu_M 8 _ _) ?_
  refine E_iconst (v := 0) d_MOD_end_21 (by decide) ?_
  refine E_istore_n d_MOD_end_22 (by decide) ?_
  rw [← hldM_zero (up2 (up2 (up2 M 4 p 5) 5 p code) 8 p 0) (nI p)]
  refine lp_MOD_end1 ?_ 40 0 rfl
  refine E_iconst (v := 0) d_MOD_end_61 (by decide) ?_
  refine E_istore_n d_MOD_end_62 (by decide) ?_
  rw [← upr_zero (hldM (up2 (up2 (up2 M 4 p 5) 5 p code) 8 p 0) (nI p) 40) 11 (6 * p) (fun _ => -1)]
  refine lp_MOD_end2 hp ?_ 6 0 rfl
  have hm2 : tidy (upr (hldM (up2 (up2 (up2 M 4 p 5) 5 p code) 8 p 0) (nI p) 40) 11 (6 * p) 6 (fun _ => -1)) 0 15 = nI m := by rw [tidy_at _ _ (by decide), upr_ne _ _ _ _ _ (by decide), hldM_ne _ _ _ _ (by decide), up2_ne2 _ _ _ _ (by decide), up2_ne2 _ _ _ _ (by decide), up2_ne2 _ _ _ _ (by decide)]; exact hm
  have K : ∀ one, one = oneM (end5 M p code m) → Ev G m_MOD_end 2 0 0 115 [some (vR 50), some (vI (nI p)), some (vI code), some (vI one), some (vI (nI (0 + 1)))] [] (HW F C (end5 M p code m)) (fun r h' => r = none ∧ h' = HW F C (endM M p code m)) := by
    intro one h1
    refine lp_MOD_end3 (M := end5 M p code m) hp ?_ 8 0 rfl
    subst h1
    change Ev G m_MOD_end 2 0 0 178 [some (vR 50), some (vI (nI p)), some (vI code), some (vI (oneM (end5 M p code m))), some (vI (nI 9))] [] (HW F C (end6 M p code m)) _
    refine E_aload_n d_MOD_end_178 rfl rfl ?_
    refine L_gr d_MOD_end_179 f_MOD_25 rfl (by decide) rfl rfl ?_
    refine E_iload_n d_MOD_end_182 rfl ?_
    refine L_ld (j := p) d_MOD_end_183 rfl rfl (by omega) (by decide) (fr_M 6 _) ?_
    refine E_if_ne (tgt := 197) d_MOD_end_184 (by decide) (fun c184 => ?_) (fun c184 => ?_)
    · refine E_iload_n d_MOD_end_197 rfl ?_
      refine E_aload_n d_MOD_end_198 rfl rfl ?_
      refine L_gi d_MOD_end_199 f_MOD_97 rfl (by decide) rfl (fr_M 0 24) ?_
      refine E_icmp_ne (tgt := 210) d_MOD_end_202 (by decide) (fun c202 => ?_) (fun c202 => ?_)
      · exact E_return d_MOD_end_210 rfl rfl ⟨rfl, by have e : end7 M p code m = end6 M p code m := if_neg (fun q => c184 q.1); rw [endM, e, if_neg c202]⟩
      · refine E_aload_n d_MOD_end_205 rfl rfl ?_
        refine E_iconst (v := 0) d_MOD_end_206 (by decide) ?_
        refine L_pi d_MOD_end_207 f_MOD_100 rfl (by decide) (Or.inr ⟨rfl, (by decide)⟩) rfl (fu_M 0 27 _) ?_
        exact E_return d_MOD_end_210 rfl rfl ⟨rfl, by have e : end7 M p code m = end6 M p code m := if_neg (fun q => c184 q.1); rw [endM, e, if_pos c202]⟩
    · refine E_iload_n d_MOD_end_187 rfl ?_
      refine E_iconst (v := 1) d_MOD_end_188 (by decide) ?_
      refine E_icmp_eq (tgt := 197) d_MOD_end_189 (by decide) (fun c189 => ?_) (fun c189 => ?_)
      · refine E_iload_n d_MOD_end_197 rfl ?_
        refine E_aload_n d_MOD_end_198 rfl rfl ?_
        refine L_gi d_MOD_end_199 f_MOD_97 rfl (by decide) rfl (fr_M 0 24) ?_
        refine E_icmp_ne (tgt := 210) d_MOD_end_202 (by decide) (fun c202 => ?_) (fun c202 => ?_)
        · exact E_return d_MOD_end_210 rfl rfl ⟨rfl, by have e : end7 M p code m = end6 M p code m := if_neg (fun q => q.2 ((nI_eq (b := 1) (by omega) (by decide)).mp c189)); rw [endM, e, if_neg c202]⟩
        · refine E_aload_n d_MOD_end_205 rfl rfl ?_
          refine E_iconst (v := 0) d_MOD_end_206 (by decide) ?_
          refine L_pi d_MOD_end_207 f_MOD_100 rfl (by decide) (Or.inr ⟨rfl, (by decide)⟩) rfl (fu_M 0 27 _) ?_
          exact E_return d_MOD_end_210 rfl rfl ⟨rfl, by have e : end7 M p code m = end6 M p code m := if_neg (fun q => q.2 ((nI_eq (b := 1) (by omega) (by decide)).mp c189)); rw [endM, e, if_pos c202]⟩
      · refine E_aload_n d_MOD_end_192 rfl rfl ?_
        refine E_iload_n d_MOD_end_193 rfl ?_
        refine E_V1v d_MOD_end_194 w_MOD_94 rfl (by decide) (Nat.le_of_ble_eq_true rfl) (c_MOD_remove hp) ?_
        rintro _ rfl
        refine E_iload_n d_MOD_end_197 rfl ?_
        refine E_aload_n d_MOD_end_198 rfl rfl ?_
        refine L_gi d_MOD_end_199 f_MOD_97 rfl (by decide) rfl (fr_M 0 24) ?_
        refine E_icmp_ne (tgt := 210) d_MOD_end_202 (by decide) (fun c202 => ?_) (fun c202 => ?_)
        · exact E_return d_MOD_end_210 rfl rfl ⟨rfl, by have e : end7 M p code m = remv (end6 M p code m) p := if_pos ⟨c184, fun q => c189 (by rw [q]; rfl)⟩; rw [endM, e, if_neg c202]⟩
        · refine E_aload_n d_MOD_end_205 rfl rfl ?_
          refine E_iconst (v := 0) d_MOD_end_206 (by decide) ?_
          refine L_pi d_MOD_end_207 f_MOD_100 rfl (by decide) (Or.inr ⟨rfl, (by decide)⟩) rfl (fu_M 0 27 _) ?_
          exact E_return d_MOD_end_210 rfl rfl ⟨rfl, by have e : end7 M p code m = remv (end6 M p code m) p := if_pos ⟨c184, fun q => c189 (by rw [q]; rfl)⟩; rw [endM, e, if_pos c202]⟩
  refine E_aload_n d_MOD_end_87 rfl rfl ?_
  refine E_V0v d_MOD_end_88 w_MOD_88 rfl (by decide) (Nat.le_of_ble_eq_true rfl) (c_MOD_tidyPipes) ?_
  rintro _ rfl
  refine E_aload_n d_MOD_end_91 rfl rfl ?_
  refine E_iload_n d_MOD_end_92 rfl ?_
  refine E_V1v d_MOD_end_93 w_MOD_91 rfl (by decide) (Nat.le_of_ble_eq_true rfl) (c_MOD_unrow hm2 hm9) ?_
  rintro _ rfl
  change Ev G m_MOD_end 2 0 0 (87 + 1 + 3 + 1 + 1 + 3) _ _ (HW F C (end5 M p code m)) _
  refine E_aload_n d_MOD_end_96 rfl rfl ?_
  refine L_gr d_MOD_end_97 f_MOD_19 rfl (by decide) rfl rfl ?_
  refine E_iconst (v := 1) d_MOD_end_100 (by decide) ?_
  refine L_ld (j := 1) d_MOD_end_101 rfl rfl (by omega) (by decide) (fr_M 4 _) ?_
  refine E_iconst (v := 5) d_MOD_end_102 (by decide) ?_
  refine E_icmp_ne (tgt := 110) d_MOD_end_103 (by decide) (fun c103 => ?_) (fun c103 => ?_)
  · refine E_iconst (v := 1) d_MOD_end_110 (by decide) ?_
    refine E_istore_n d_MOD_end_111 (by decide) ?_
    refine E_iconst (v := 1) d_MOD_end_112 (by decide) ?_
    refine E_istore d_MOD_end_113 (by decide) ?_
    exact K _ (by rw [oneM, if_neg c103])
  · refine E_iconst (v := 0) d_MOD_end_106 (by decide) ?_
    refine E_goto (tgt := 111) d_MOD_end_107 (by decide) ?_
    refine E_istore_n d_MOD_end_111 (by decide) ?_
    refine E_iconst (v := 1) d_MOD_end_112 (by decide) ?_
    refine E_istore d_MOD_end_113 (by decide) ?_
    exact K _ (by rw [oneM, if_pos c103])
theorem c_MOD_fault {G : iG} {F : Nat} {C M : Nat → Nat → Int32} {p m : Nat} {c : Int32} (hp : M 0 24 = nI p) (hp8 : p ≤ 8) (hm : M 0 15 = nI m) (hm9 : m ≤ 9) : MV G m_MOD_fault 3 [vR 50, vI c] (HW F C M) (fun h' => h' = HW F C (endM M p (128 + c) m)) := by
  refine Mt.of' (Ls := [some (vR 50), some (vI c)]) (by decide) (by simp [ct]) (Nat.le_of_ble_eq_true rfl) rfl ?_
  refine E_aload_n d_MOD_fault_0 rfl rfl ?_
  refine E_aload_n d_MOD_fault_1 rfl rfl ?_
  refine L_gi d_MOD_fault_2 f_MOD_97 rfl (by decide) rfl (fr_M 0 24) ?_
  refine E_tp (y := nI (p)) hp ?_
  refine E_sipush (v := 128) d_MOD_fault_5 (by decide) ?_
  refine E_iload_n d_MOD_fault_8 rfl ?_
  refine E_iadd d_MOD_fault_9 ?_
  refine E_V2v d_MOD_fault_10 w_MOD_103 rfl (by decide) (Nat.le_of_ble_eq_true rfl) (c_MOD_end hp8 hm hm9) ?_
  rintro _ rfl
  exact E_return d_MOD_fault_13 rfl rfl ⟨rfl, rfl⟩
theorem c_MOD_jump {G : iG} {F : Nat} {C M : Nat → Nat → Int32} {p m : Nat} (hp : M 0 24 = nI p) (hp8 : p ≤ 8) (hm : M 0 15 = nI m) (hm9 : m ≤ 9) {to : Int32} : MV G m_MOD_jump 4 [vR 50, vI to] (HW F C M) (fun h' => h' = HW F C (jmpM M p to m)) := by
  refine Mt.of' (Ls := [some (vR 50), some (vI to)]) (by decide) (by simp [ct]) (Nat.le_of_ble_eq_true rfl) rfl ?_
  refine E_iload_n d_MOD_jump_0 rfl ?_
  refine E_iconst (v := 4) d_MOD_jump_1 (by decide) ?_
  refine E_irem d_MOD_jump_2 (by decide) ?_
  refine E_if_eq (tgt := 12) d_MOD_jump_3 (by decide) (fun c3 => ?_) (fun c3 => ?_)
  · refine E_aload_n d_MOD_jump_12 rfl rfl ?_
    refine E_aload_n d_MOD_jump_13 rfl rfl ?_
    refine E_V0i d_MOD_jump_14 w_MOD_131 rfl (by decide) (Nat.le_of_ble_eq_true rfl) (c_MOD_d) ?_
    rintro _ _ ⟨rfl, rfl⟩
    refine E_aload_n d_MOD_jump_17 rfl rfl ?_
    refine L_gr d_MOD_jump_18 f_MOD_28 rfl (by decide) rfl rfl ?_
    refine E_aload_n d_MOD_jump_21 rfl rfl ?_
    refine L_gi d_MOD_jump_22 f_MOD_97 rfl (by decide) rfl (fr_M 0 24) ?_
    refine E_tp (y := nI (p)) hp ?_
    refine L_ld (j := p) d_MOD_jump_25 rfl rfl (by omega) (by decide) (fr_M 7 _) ?_
    refine E_iconst (v := 4) d_MOD_jump_26 (by decide) ?_
    refine E_iadd d_MOD_jump_27 ?_
    refine E_V2v d_MOD_jump_28 w_MOD_135 rfl (by decide) (Nat.le_of_ble_eq_true rfl) (c_MOD_set hp hp8 (bf_lt _ _ 5)) ?_
    rintro _ rfl
    refine E_aload_n d_MOD_jump_31 rfl rfl ?_
    refine E_iload_n d_MOD_jump_32 rfl ?_
    refine L_pi d_MOD_jump_33 f_MOD_121 rfl (by decide) (Or.inl rfl) rfl (fu_M 0 26 _) ?_
    exact E_return d_MOD_jump_36 rfl rfl ⟨rfl, by rw [jmpM, if_pos c3]; rfl⟩
  · refine E_aload_n d_MOD_jump_6 rfl rfl ?_
    refine E_iconst (v := 0) d_MOD_jump_7 (by decide) ?_
    refine E_V1v d_MOD_jump_8 w_MOD_128 rfl (by decide) (Nat.le_of_ble_eq_true rfl) (c_MOD_fault hp hp8 hm hm9) ?_
    rintro _ rfl
    exact E_return d_MOD_jump_11 rfl rfl ⟨rfl, by rw [jmpM, if_neg c3]⟩
theorem c_MOD_reach {G : iG} {F : Nat} {C M : Nat → Nat → Int32} {p m : Nat} (hp : M 0 24 = nI p) (hp8 : p ≤ 8) (hm : M 0 15 = nI m) (hm9 : m ≤ 9) {a n code : Int32} {s : Nat} (hs : M 8 p = nI s) (hn : ¬ n = 0) (hgo : M 0 27 = 1) : MI G m_MOD_reach 4 [vR 50, vI a, vI n, vI code] (HW F C M) (fun x h' => x = rchM M p a n code s m 0 27 ∧ h' = HW F C (rchM M p a n code s m)) := by
  refine Mt.of' (Ls := [some (vR 50), some (vI a), some (vI n), some (vI code)]) (by decide) (by simp [ct]) (Nat.le_of_ble_eq_true rfl) rfl ?_
  refine E_iload_n d_MOD_reach_0 rfl ?_
  refine E_iload_n d_MOD_reach_1 rfl ?_
  refine E_irem d_MOD_reach_2 hn ?_
  refine E_if_eq (tgt := 14) d_MOD_reach_3 (by decide) (fun c3 => ?_) (fun c3 => ?_)
  · refine E_aload_n d_MOD_reach_14 rfl rfl ?_
    refine E_aload_n d_MOD_reach_15 rfl rfl ?_
    refine L_gi d_MOD_reach_16 f_MOD_97 rfl (by decide) rfl (fr_M 0 24) ?_
    refine E_tp (y := nI (p)) hp ?_
    refine E_iload_n d_MOD_reach_19 rfl ?_
    refine E_V2i d_MOD_reach_20 w_MOD_124 rfl (by decide) (Nat.le_of_ble_eq_true rfl) (c_MOD_there hp8 hs) ?_
    rintro _ _ ⟨rfl, rfl⟩
    refine E_if_ne (tgt := 33) d_MOD_reach_23 (by decide) (fun c23 => ?_) (fun c23 => ?_)
    · have ct : 0 ≤ a ∧ a < nI (64 * s) := by by_cases h : 0 ≤ a ∧ a < nI (64 * s); exact h; exact absurd (by simp [h, b2i]) c23
      refine E_aload_n d_MOD_reach_33 rfl rfl ?_
      refine L_gi d_MOD_reach_34 f_MOD_100 rfl (by decide) rfl (fr_M 0 27) ?_
      exact E_ireturn d_MOD_reach_37 (Or.inr ⟨rfl, Or.inr hgo⟩) rfl ⟨_, rfl, by rw [rchM, if_pos c3, if_pos ct], by rw [rchM, if_pos c3, if_pos ct]⟩
    · have ct : ¬ (0 ≤ a ∧ a < nI (64 * s)) := fun h => by simp [h, b2i] at c23
      refine E_aload_n d_MOD_reach_26 rfl rfl ?_
      refine E_iload_n d_MOD_reach_27 rfl ?_
      refine E_iconst (v := 1) d_MOD_reach_28 (by decide) ?_
      refine E_iadd d_MOD_reach_29 ?_
      refine E_V1v d_MOD_reach_30 w_MOD_128 rfl (by decide) (Nat.le_of_ble_eq_true rfl) (c_MOD_fault hp hp8 hm hm9) ?_
      rintro _ rfl
      refine E_aload_n d_MOD_reach_33 rfl rfl ?_
      refine L_gi d_MOD_reach_34 f_MOD_100 rfl (by decide) rfl (fr_M 0 27) ?_
      exact E_ireturn d_MOD_reach_37 (Or.inr ⟨rfl, Or.inl (endM_27 _ _ hp)⟩) rfl ⟨_, rfl, by rw [rchM, if_pos c3, if_neg ct], by rw [rchM, if_pos c3, if_neg ct]⟩
  · refine E_aload_n d_MOD_reach_6 rfl rfl ?_
    refine E_iload_n d_MOD_reach_7 rfl ?_
    refine E_V1v d_MOD_reach_8 w_MOD_128 rfl (by decide) (Nat.le_of_ble_eq_true rfl) (c_MOD_fault hp hp8 hm hm9) ?_
    rintro _ rfl
    refine E_goto (tgt := 33) d_MOD_reach_11 (by decide) ?_
    refine E_aload_n d_MOD_reach_33 rfl rfl ?_
    refine L_gi d_MOD_reach_34 f_MOD_100 rfl (by decide) rfl (fr_M 0 27) ?_
    exact E_ireturn d_MOD_reach_37 (Or.inr ⟨rfl, Or.inl (endM_27 _ _ hp)⟩) rfl ⟨_, rfl, by rw [rchM, if_neg c3], by rw [rchM, if_neg c3]⟩

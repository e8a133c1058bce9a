/-! ===== the reference's pipe, fork ===== -/
theorem lp_MOD_pipe {G : iG} {F : Nat} {C M : Nat → Nat → Int32} {Q : Option iV → iH → Prop} {l2 l3 : Option iV} (K : Ev G m_MOD_pipe 1 0 0 37 [some (vR 50), some (vI (nI (fps M 4 0))), l2, l3] [] (HW F C M) Q) : ∀ (n k : Nat), k + n = 4 → fps M n k = fps M 4 0 → Ev G m_MOD_pipe 1 0 0 2 [some (vR 50), some (vI (nI k)), l2, l3] [] (HW F C M) Q := by
  intro n
  induction n with
  | zero =>
    intro k hk hf
    have e : k = 4 := by omega
    subst e
    refine E_iload_n d_MOD_pipe_2 rfl ?_
    refine E_iconst (v := 4) d_MOD_pipe_3 (by decide) ?_
    refine E_icmp_ge (tgt := 37) d_MOD_pipe_4 (by decide) (fun _ => ?_) (fun c => absurd (by decide) c)
    have K2 := K
    rw [← hf] at K2
    exact K2
  | succ n ih =>
    intro k hk hf
    refine E_iload_n d_MOD_pipe_2 rfl ?_
    refine E_iconst (v := 4) d_MOD_pipe_3 (by decide) ?_
    refine E_icmp_ge (tgt := 37) d_MOD_pipe_4 (by decide) (fun c => absurd c (nI_ge (b := 4) (by omega) (by decide))) (fun _ => ?_)
    refine E_aload_n d_MOD_pipe_7 rfl rfl ?_
    refine E_iconst (v := 1) d_MOD_pipe_8 (by decide) ?_
    refine E_iconst (v := 2) d_MOD_pipe_9 (by decide) ?_
    refine E_iload_n d_MOD_pipe_10 rfl ?_
    refine E_imul d_MOD_pipe_11 ?_
    refine E_tp (y := nI (2 * k)) (pk_mul 2 k) ?_
    refine E_iadd d_MOD_pipe_12 ?_
    refine E_tp (y := nI (1 + (2 * k))) (nI_add 1 (2 * k)) ?_
    refine E_V1i d_MOD_pipe_13 w_MOD_84 rfl (by decide) (Nat.le_of_ble_eq_true rfl) (c_MOD_isHeld) ?_
    rintro _ _ ⟨rfl, rfl⟩
    refine E_if_ne (tgt := 31) d_MOD_pipe_16 (by decide) (fun c16 => ?_) (fun c16 => ?_)
    · refine E_iinc (v := nI (k + 1)) d_MOD_pipe_31 rfl (nI_1 _) (by decide) ?_
      refine E_goto (tgt := 2) d_MOD_pipe_34 (by decide) ?_
      exact ih (k + 1) (by omega) (by rw [← hf, fps, if_neg (fun q => by rw [b2i_ne0 c16] at q; exact absurd q.1 (by decide))])
    · refine E_aload_n d_MOD_pipe_19 rfl rfl ?_
      refine E_iconst (v := 2) d_MOD_pipe_20 (by decide) ?_
      refine E_iconst (v := 2) d_MOD_pipe_21 (by decide) ?_
      refine E_iload_n d_MOD_pipe_22 rfl ?_
      refine E_imul d_MOD_pipe_23 ?_
      refine E_tp (y := nI (2 * k)) (pk_mul 2 k) ?_
      refine E_iadd d_MOD_pipe_24 ?_
      refine E_tp (y := nI (2 + (2 * k))) (nI_add 2 (2 * k)) ?_
      refine E_V1i d_MOD_pipe_25 w_MOD_84 rfl (by decide) (Nat.le_of_ble_eq_true rfl) (c_MOD_isHeld) ?_
      rintro _ _ ⟨rfl, rfl⟩
      refine E_if_eq (tgt := 37) d_MOD_pipe_28 (by decide) (fun c28 => ?_) (fun c28 => ?_)
      · have K2 := K
        rw [← hf, fps, if_pos ⟨b2i_eq0 c16, b2i_eq0 c28⟩] at K2
        exact K2
      · refine E_iinc (v := nI (k + 1)) d_MOD_pipe_31 rfl (nI_1 _) (by decide) ?_
        refine E_goto (tgt := 2) d_MOD_pipe_34 (by decide) ?_
        exact ih (k + 1) (by omega) (by rw [← hf, fps, if_neg (fun q => by rw [b2i_ne0 c28] at q; exact absurd q.2 (by decide))])
theorem c_MOD_pipe {G : iG} {F : Nat} {C M : Nat → Nat → Int32} {p : Nat} (hp : M 0 24 = nI p) (hp8 : p ≤ 8) : MV G m_MOD_pipe 1 [vR 50] (HW F C M) (fun h' => h' = HW F C (pipM M p)) := by
  refine Mt.of' (Ls := [some (vR 50), none, none, none]) (by decide) (by simp [ct]) (Nat.le_of_ble_eq_true rfl) rfl ?_
  have hk4 := (fps_le M 4 0).2
  have hd6 := (fds_le M p 6 0).2
  have he6 := (fds_le (up2 M 11 (6 * p + fds M p 6 0) 99) p 6 0).2
  refine E_iconst (v := 0) d_MOD_pipe_0 (by decide) ?_
  refine E_istore_n d_MOD_pipe_1 (by decide) ?_
  refine lp_MOD_pipe ?_ 4 0 rfl rfl
  by_cases hd : fds M p 6 0 < 6
  · refine E_aload_n d_MOD_pipe_37 rfl rfl ?_
    refine E_aload_n d_MOD_pipe_38 rfl rfl ?_
    refine L_gi d_MOD_pipe_39 f_MOD_97 rfl (by decide) rfl (fr_M 0 24) ?_
    refine E_tp (y := nI (p)) hp ?_
    refine E_V1i d_MOD_pipe_42 w_MOD_224 rfl (by decide) (Nat.le_of_ble_eq_true rfl) (c_MOD_freeDescriptor hp8) ?_
    rintro _ _ ⟨rfl, rfl⟩
    rw [fdr, if_pos hd]
    refine E_istore_n d_MOD_pipe_45 (by decide) ?_
    refine E_iload_n d_MOD_pipe_46 rfl ?_
    refine E_istore_n d_MOD_pipe_47 (by decide) ?_
    refine E_iload_n d_MOD_pipe_48 rfl ?_
    refine E_if_lt (tgt := 92) d_MOD_pipe_49 (by decide) (fun c => absurd c (nI_pos (by omega))) (fun _ => ?_)
    refine E_aload_n d_MOD_pipe_52 rfl rfl ?_
    refine L_gr d_MOD_pipe_53 f_MOD_40 rfl (by decide) rfl rfl ?_
    refine E_bipush (v := 6) d_MOD_pipe_56 (by decide) ?_
    refine E_aload_n d_MOD_pipe_58 rfl rfl ?_
    refine L_gi d_MOD_pipe_59 f_MOD_97 rfl (by decide) rfl (fr_M 0 24) ?_
    refine E_tp (y := nI (p)) (by simp [up2, hp]) ?_
    refine E_imul d_MOD_pipe_62 ?_
    refine E_tp (y := nI (6 * p)) (pk_mul 6 p) ?_
    refine E_iload_n d_MOD_pipe_63 rfl ?_
    refine E_iadd d_MOD_pipe_64 ?_
    refine E_tp (y := nI (6 * p + (fds M p 6 0))) (nI_add (6 * p) (fds M p 6 0)) ?_
    refine E_bipush (v := 99) d_MOD_pipe_65 (by decide) ?_
    refine L_st (j := 6 * p + (fds M p 6 0)) d_MOD_pipe_67 rfl rfl (by omega) (by decide) (fu_M 11 _ _) ?_
    refine E_aload_n d_MOD_pipe_68 rfl rfl ?_
    refine E_aload_n d_MOD_pipe_69 rfl rfl ?_
    refine L_gi d_MOD_pipe_70 f_MOD_97 rfl (by decide) rfl (fr_M 0 24) ?_
    refine E_tp (y := nI (p)) (by simp [up2, hp]) ?_
    by_cases h2 : fd2 M p < 6
    · refine E_V1i d_MOD_pipe_73 w_MOD_224 rfl (by decide) (Nat.le_of_ble_eq_true rfl) (c_MOD_freeDescriptor hp8) ?_
      rintro _ _ ⟨rfl, rfl⟩
      rw [fdr, show fds (up2 M 11 (6 * p + fds M p 6 0) 99) p 6 0 = fd2 M p from rfl, if_pos h2]
      refine E_istore_n d_MOD_pipe_76 (by decide) ?_
      refine E_aload_n d_MOD_pipe_77 rfl rfl ?_
      refine L_gr d_MOD_pipe_78 f_MOD_40 rfl (by decide) rfl rfl ?_
      refine E_bipush (v := 6) d_MOD_pipe_81 (by decide) ?_
      refine E_aload_n d_MOD_pipe_83 rfl rfl ?_
      refine L_gi d_MOD_pipe_84 f_MOD_97 rfl (by decide) rfl (fr_M 0 24) ?_
      refine E_tp (y := nI (p)) (by simp [up2, hp]) ?_
      refine E_imul d_MOD_pipe_87 ?_
      refine E_tp (y := nI (6 * p)) (pk_mul 6 p) ?_
      refine E_iload_n d_MOD_pipe_88 rfl ?_
      refine E_iadd d_MOD_pipe_89 ?_
      refine E_tp (y := nI (6 * p + (fds M p 6 0))) (nI_add (6 * p) (fds M p 6 0)) ?_
      refine E_iconst (v := -1) d_MOD_pipe_90 (by decide) ?_
      refine L_st (j := 6 * p + (fds M p 6 0)) d_MOD_pipe_91 rfl rfl (by omega) (by decide) (fu_M 11 _ _) ?_
      refine E_iload_n d_MOD_pipe_92 rfl ?_
      refine E_iconst (v := 4) d_MOD_pipe_93 (by decide) ?_
      refine E_icmp_eq (tgt := 101) d_MOD_pipe_94 (by decide) (fun c94 => ?_) (fun c94 => ?_)
      · have ck : ¬ fps M 4 0 < 4 := by have := (nI_eq (b := 4) (by omega) (by decide)).mp c94; omega
        refine E_aload_n d_MOD_pipe_101 rfl rfl ?_
        refine E_bipush (v := 10) d_MOD_pipe_102 (by decide) ?_
        refine E_iconst (v := -1) d_MOD_pipe_104 (by decide) ?_
        refine E_V2v d_MOD_pipe_105 w_MOD_135 rfl (by decide) (Nat.le_of_ble_eq_true rfl) (c_MOD_set (by simp [up2, hp]) hp8 (by decide)) ?_
        rintro _ rfl
        exact E_return d_MOD_pipe_108 rfl rfl ⟨rfl, by rw [pipM, if_pos hd, if_neg (fun q => ck q.1)]; rfl⟩
      · have ck : fps M 4 0 < 4 := by have := (not_congr (nI_eq (a := fps M 4 0) (b := 4) (by omega) (by decide))).mp c94; omega
        refine E_iload_n d_MOD_pipe_97 rfl ?_
        refine E_if_ge (tgt := 109) d_MOD_pipe_98 (by decide) (fun _ => ?_) (fun c => absurd (nI_pos' (by omega)) c)
        refine E_aload_n d_MOD_pipe_109 rfl rfl ?_
        refine L_gr d_MOD_pipe_110 f_MOD_40 rfl (by decide) rfl rfl ?_
        refine E_bipush (v := 6) d_MOD_pipe_113 (by decide) ?_
        refine E_aload_n d_MOD_pipe_115 rfl rfl ?_
        refine L_gi d_MOD_pipe_116 f_MOD_97 rfl (by decide) rfl (fr_M 0 24) ?_
        refine E_tp (y := nI (p)) (by simp [up2, hp]) ?_
        refine E_imul d_MOD_pipe_119 ?_
        refine E_tp (y := nI (6 * p)) (pk_mul 6 p) ?_
        refine E_iload_n d_MOD_pipe_120 rfl ?_
        refine E_iadd d_MOD_pipe_121 ?_
        refine E_tp (y := nI (6 * p + (fds M p 6 0))) (nI_add (6 * p) (fds M p 6 0)) ?_
        refine E_iconst (v := 1) d_MOD_pipe_122 (by decide) ?_
        refine E_iconst (v := 2) d_MOD_pipe_123 (by decide) ?_
        refine E_iload_n d_MOD_pipe_124 rfl ?_
        refine E_imul d_MOD_pipe_125 ?_
        refine E_tp (y := nI (2 * (fps M 4 0))) (pk_mul 2 (fps M 4 0)) ?_
        refine E_iadd d_MOD_pipe_126 ?_
        refine E_tp (y := nI (1 + (2 * (fps M 4 0)))) (nI_add 1 (2 * (fps M 4 0))) ?_
        refine L_st (j := 6 * p + (fds M p 6 0)) d_MOD_pipe_127 rfl rfl (by omega) (by decide) (fu_M 11 _ _) ?_
        refine E_aload_n d_MOD_pipe_128 rfl rfl ?_
        refine L_gr d_MOD_pipe_129 f_MOD_40 rfl (by decide) rfl rfl ?_
        refine E_bipush (v := 6) d_MOD_pipe_132 (by decide) ?_
        refine E_aload_n d_MOD_pipe_134 rfl rfl ?_
        refine L_gi d_MOD_pipe_135 f_MOD_97 rfl (by decide) rfl (fr_M 0 24) ?_
        refine E_tp (y := nI (p)) (by simp [up2, hp]) ?_
        refine E_imul d_MOD_pipe_138 ?_
        refine E_tp (y := nI (6 * p)) (pk_mul 6 p) ?_
        refine E_iload_n d_MOD_pipe_139 rfl ?_
        refine E_iadd d_MOD_pipe_140 ?_
        refine E_tp (y := nI (6 * p + (fd2 M p))) (nI_add (6 * p) (fd2 M p)) ?_
        refine E_iconst (v := 2) d_MOD_pipe_141 (by decide) ?_
        refine E_iconst (v := 2) d_MOD_pipe_142 (by decide) ?_
        refine E_iload_n d_MOD_pipe_143 rfl ?_
        refine E_imul d_MOD_pipe_144 ?_
        refine E_tp (y := nI (2 * (fps M 4 0))) (pk_mul 2 (fps M 4 0)) ?_
        refine E_iadd d_MOD_pipe_145 ?_
        refine E_tp (y := nI (2 + (2 * (fps M 4 0)))) (nI_add 2 (2 * (fps M 4 0))) ?_
        refine L_st (j := 6 * p + (fd2 M p)) d_MOD_pipe_146 rfl rfl (by omega) (by decide) (fu_M 11 _ _) ?_
        refine E_aload_n d_MOD_pipe_147 rfl rfl ?_
        refine E_bipush (v := 10) d_MOD_pipe_148 (by decide) ?_
        refine E_iload_n d_MOD_pipe_150 rfl ?_
        refine E_V2v d_MOD_pipe_151 w_MOD_135 rfl (by decide) (Nat.le_of_ble_eq_true rfl) (c_MOD_set (by simp [up2, hp]) hp8 (by decide)) ?_
        rintro _ rfl
        refine E_aload_n d_MOD_pipe_154 rfl rfl ?_
        refine E_bipush (v := 11) d_MOD_pipe_155 (by decide) ?_
        refine E_iload_n d_MOD_pipe_157 rfl ?_
        refine E_V2v d_MOD_pipe_158 w_MOD_135 rfl (by decide) (Nat.le_of_ble_eq_true rfl) (c_MOD_set (by simp [up2, hp]) hp8 (by decide)) ?_
        rintro _ rfl
        exact E_return d_MOD_pipe_161 rfl rfl ⟨rfl, by rw [pipM, if_pos hd, if_pos ⟨ck, h2⟩]; rfl⟩
    · refine E_V1i d_MOD_pipe_73 w_MOD_224 rfl (by decide) (Nat.le_of_ble_eq_true rfl) (c_MOD_freeDescriptor hp8) ?_
      rintro _ _ ⟨rfl, rfl⟩
      rw [fdr, show fds (up2 M 11 (6 * p + fds M p 6 0) 99) p 6 0 = fd2 M p from rfl, if_neg h2]
      refine E_istore_n d_MOD_pipe_76 (by decide) ?_
      refine E_aload_n d_MOD_pipe_77 rfl rfl ?_
      refine L_gr d_MOD_pipe_78 f_MOD_40 rfl (by decide) rfl rfl ?_
      refine E_bipush (v := 6) d_MOD_pipe_81 (by decide) ?_
      refine E_aload_n d_MOD_pipe_83 rfl rfl ?_
      refine L_gi d_MOD_pipe_84 f_MOD_97 rfl (by decide) rfl (fr_M 0 24) ?_
      refine E_tp (y := nI (p)) (by simp [up2, hp]) ?_
      refine E_imul d_MOD_pipe_87 ?_
      refine E_tp (y := nI (6 * p)) (pk_mul 6 p) ?_
      refine E_iload_n d_MOD_pipe_88 rfl ?_
      refine E_iadd d_MOD_pipe_89 ?_
      refine E_tp (y := nI (6 * p + (fds M p 6 0))) (nI_add (6 * p) (fds M p 6 0)) ?_
      refine E_iconst (v := -1) d_MOD_pipe_90 (by decide) ?_
      refine L_st (j := 6 * p + (fds M p 6 0)) d_MOD_pipe_91 rfl rfl (by omega) (by decide) (fu_M 11 _ _) ?_
      refine E_iload_n d_MOD_pipe_92 rfl ?_
      refine E_iconst (v := 4) d_MOD_pipe_93 (by decide) ?_
      refine E_icmp_eq (tgt := 101) d_MOD_pipe_94 (by decide) (fun c94 => ?_) (fun c94 => ?_)
      · have ck : ¬ fps M 4 0 < 4 := by have := (nI_eq (b := 4) (by omega) (by decide)).mp c94; omega
        refine E_aload_n d_MOD_pipe_101 rfl rfl ?_
        refine E_bipush (v := 10) d_MOD_pipe_102 (by decide) ?_
        refine E_iconst (v := -1) d_MOD_pipe_104 (by decide) ?_
        refine E_V2v d_MOD_pipe_105 w_MOD_135 rfl (by decide) (Nat.le_of_ble_eq_true rfl) (c_MOD_set (by simp [up2, hp]) hp8 (by decide)) ?_
        rintro _ rfl
        exact E_return d_MOD_pipe_108 rfl rfl ⟨rfl, by rw [pipM, if_pos hd, if_neg (fun q => h2 q.2)]; rfl⟩
      · have ck : fps M 4 0 < 4 := by have := (not_congr (nI_eq (a := fps M 4 0) (b := 4) (by omega) (by decide))).mp c94; omega
        refine E_iload_n d_MOD_pipe_97 rfl ?_
        refine E_if_ge (tgt := 109) d_MOD_pipe_98 (by decide) (fun c => absurd c (by decide)) (fun _ => ?_)
        refine E_aload_n d_MOD_pipe_101 rfl rfl ?_
        refine E_bipush (v := 10) d_MOD_pipe_102 (by decide) ?_
        refine E_iconst (v := -1) d_MOD_pipe_104 (by decide) ?_
        refine E_V2v d_MOD_pipe_105 w_MOD_135 rfl (by decide) (Nat.le_of_ble_eq_true rfl) (c_MOD_set (by simp [up2, hp]) hp8 (by decide)) ?_
        rintro _ rfl
        exact E_return d_MOD_pipe_108 rfl rfl ⟨rfl, by rw [pipM, if_pos hd, if_neg (fun q => h2 q.2)]; rfl⟩
  · refine E_aload_n d_MOD_pipe_37 rfl rfl ?_
    refine E_aload_n d_MOD_pipe_38 rfl rfl ?_
    refine L_gi d_MOD_pipe_39 f_MOD_97 rfl (by decide) rfl (fr_M 0 24) ?_
    refine E_tp (y := nI (p)) hp ?_
    refine E_V1i d_MOD_pipe_42 w_MOD_224 rfl (by decide) (Nat.le_of_ble_eq_true rfl) (c_MOD_freeDescriptor hp8) ?_
    rintro _ _ ⟨rfl, rfl⟩
    rw [fdr, if_neg hd]
    refine E_istore_n d_MOD_pipe_45 (by decide) ?_
    refine E_iload_n d_MOD_pipe_46 rfl ?_
    refine E_istore_n d_MOD_pipe_47 (by decide) ?_
    refine E_iload_n d_MOD_pipe_48 rfl ?_
    refine E_if_lt (tgt := 92) d_MOD_pipe_49 (by decide) (fun _ => ?_) (fun c => absurd (by decide) c)
    refine E_iload_n d_MOD_pipe_92 rfl ?_
    refine E_iconst (v := 4) d_MOD_pipe_93 (by decide) ?_
    refine E_icmp_eq (tgt := 101) d_MOD_pipe_94 (by decide) (fun c94 => ?_) (fun c94 => ?_)
    · refine E_aload_n d_MOD_pipe_101 rfl rfl ?_
      refine E_bipush (v := 10) d_MOD_pipe_102 (by decide) ?_
      refine E_iconst (v := -1) d_MOD_pipe_104 (by decide) ?_
      refine E_V2v d_MOD_pipe_105 w_MOD_135 rfl (by decide) (Nat.le_of_ble_eq_true rfl) (c_MOD_set (by simp [up2, hp]) hp8 (by decide)) ?_
      rintro _ rfl
      exact E_return d_MOD_pipe_108 rfl rfl ⟨rfl, by rw [pipM, if_neg hd]; rfl⟩
    · refine E_iload_n d_MOD_pipe_97 rfl ?_
      refine E_if_ge (tgt := 109) d_MOD_pipe_98 (by decide) (fun c => absurd c (by decide)) (fun _ => ?_)
      refine E_aload_n d_MOD_pipe_101 rfl rfl ?_
      refine E_bipush (v := 10) d_MOD_pipe_102 (by decide) ?_
      refine E_iconst (v := -1) d_MOD_pipe_104 (by decide) ?_
      refine E_V2v d_MOD_pipe_105 w_MOD_135 rfl (by decide) (Nat.le_of_ble_eq_true rfl) (c_MOD_set (by simp [up2, hp]) hp8 (by decide)) ?_
      rintro _ rfl
      exact E_return d_MOD_pipe_108 rfl rfl ⟨rfl, by rw [pipM, if_neg hd]; rfl⟩
theorem lp_MOD_fork1 {G : iG} {F : Nat} {C M : Nat → Nat → Int32} {Q : Option iV → iH → Prop} {l2 l3 l4 : Option iV} (K : Ev G m_MOD_fork 1 0 0 23 [some (vR 50), some (vI (nI (fas M 8 1))), l2, l3, l4] [] (HW F C M) Q) : ∀ (n cc : Nat), cc + n = 9 → fas M n cc = fas M 8 1 → Ev G m_MOD_fork 1 0 0 2 [some (vR 50), some (vI (nI cc)), l2, l3, l4] [] (HW F C M) Q := by
  intro n
  induction n with
  | zero =>
    intro cc hc hf
    have e : cc = 9 := by omega
    subst e
    refine E_iload_n d_MOD_fork_2 rfl ?_
    refine E_bipush (v := 8) d_MOD_fork_3 (by decide) ?_
    refine E_icmp_gt (tgt := 23) d_MOD_fork_5 (by decide) (fun _ => ?_) (fun c => absurd (by decide) c)
    have K2 := K
    rw [← hf] at K2
    exact K2
  | succ n ih =>
    intro cc hc hf
    refine E_iload_n d_MOD_fork_2 rfl ?_
    refine E_bipush (v := 8) d_MOD_fork_3 (by decide) ?_
    refine E_icmp_gt (tgt := 23) d_MOD_fork_5 (by decide) (fun c => absurd c (nI_nlt (a := 8) (b := cc) (by omega) (by decide))) (fun _ => ?_)
    refine E_aload_n d_MOD_fork_8 rfl rfl ?_
    refine L_gr d_MOD_fork_9 f_MOD_19 rfl (by decide) rfl rfl ?_
    refine E_iload_n d_MOD_fork_12 rfl ?_
    refine L_ld (j := cc) d_MOD_fork_13 rfl rfl (by omega) (by decide) (fr_M 4 _) ?_
    refine E_if_le (tgt := 23) d_MOD_fork_14 (by decide) (fun c14 => ?_) (fun c14 => ?_)
    · have K2 := K
      rw [← hf, fas, if_pos c14] at K2
      exact K2
    · refine E_iinc (v := nI (cc + 1)) d_MOD_fork_17 rfl (nI_1 _) (by decide) ?_
      refine E_goto (tgt := 2) d_MOD_fork_20 (by decide) ?_
      exact ih (cc + 1) (by omega) (by rw [← hf, fas, if_neg c14])
theorem lp_MOD_fork2 {G : iG} {F : Nat} {C M : Nat → Nat → Int32} {Q : Option iV → iH → Prop} {x1 : iV} {p k f g : Nat} (hp : M 0 24 = nI p) (hp8 : p ≤ 8) (hk : k < 8) (hf : f < 40) (hg : M 10 (8 * p + k) = nI g) (hg40 : g < 40) (K : Ev G m_MOD_fork 1 0 0 128 [some (vR 50), some x1, some (vI (nI k)), some (vI (nI f)), some (vI (nI 16))] [] (HW F C (cpw M (16 * g) (16 * f) 16)) Q) : ∀ (n j : Nat), j + n = 16 → Ev G m_MOD_fork 1 0 0 78 [some (vR 50), some x1, some (vI (nI k)), some (vI (nI f)), some (vI (nI j))] [] (HW F C (cpw M (16 * g) (16 * f) j)) Q := by
  intro n
  induction n with
  | zero =>
    intro j hj
    have e : j = 16 := by omega
    subst e
    refine E_iload d_MOD_fork_78 rfl ?_
    refine E_bipush (v := 16) d_MOD_fork_80 (by decide) ?_
    refine E_icmp_ge (tgt := 128) d_MOD_fork_82 (by decide) (fun _ => ?_) (fun c => absurd (by decide) c)
    exact K
  | succ n ih =>
    intro j hj
    refine E_iload d_MOD_fork_78 rfl ?_
    refine E_bipush (v := 16) d_MOD_fork_80 (by decide) ?_
    refine E_icmp_ge (tgt := 128) d_MOD_fork_82 (by decide) (fun c => absurd c (nI_ge (b := 16) (by omega) (by decide))) (fun _ => ?_)
    refine E_aload_n d_MOD_fork_85 rfl rfl ?_
    refine L_gr d_MOD_fork_86 f_MOD_7 rfl (by decide) rfl rfl ?_
    refine E_bipush (v := 16) d_MOD_fork_89 (by decide) ?_
    refine E_iload_n d_MOD_fork_91 rfl ?_
    refine E_imul d_MOD_fork_92 ?_
    refine E_tp (y := nI (16 * f)) (pk_mul 16 f) ?_
    refine E_iload d_MOD_fork_93 rfl ?_
    refine E_iadd d_MOD_fork_95 ?_
    refine E_tp (y := nI (16 * f + j)) (nI_add (16 * f) j) ?_
    refine E_aload_n d_MOD_fork_96 rfl rfl ?_
    refine L_gr d_MOD_fork_97 f_MOD_7 rfl (by decide) rfl rfl ?_
    refine E_bipush (v := 16) d_MOD_fork_100 (by decide) ?_
    refine E_aload_n d_MOD_fork_102 rfl rfl ?_
    refine L_gr d_MOD_fork_103 f_MOD_37 rfl (by decide) rfl rfl ?_
    refine E_bipush (v := 8) d_MOD_fork_106 (by decide) ?_
    refine E_aload_n d_MOD_fork_108 rfl rfl ?_
    refine L_gi d_MOD_fork_109 f_MOD_97 rfl (by decide) rfl (fr_M 0 24) ?_
    refine E_tp (y := nI (p)) ((cpw_ne M (16 * g) (16 * f) _ (by decide) j).trans hp) ?_
    refine E_imul d_MOD_fork_112 ?_
    refine E_tp (y := nI (8 * p)) (pk_mul 8 p) ?_
    refine E_iload_n d_MOD_fork_113 rfl ?_
    refine E_iadd d_MOD_fork_114 ?_
    refine E_tp (y := nI (8 * p + k)) (nI_add (8 * p) k) ?_
    refine L_ld (j := 8 * p + k) d_MOD_fork_115 rfl rfl (by omega) (by decide) (fr_M 10 _) ?_
    refine E_tp (y := nI (g)) ((cpw_ne M (16 * g) (16 * f) _ (by decide) j).trans hg) ?_
    refine E_imul d_MOD_fork_116 ?_
    refine E_tp (y := nI (16 * g)) (pk_mul 16 g) ?_
    refine E_iload d_MOD_fork_117 rfl ?_
    refine E_iadd d_MOD_fork_119 ?_
    refine E_tp (y := nI (16 * g + j)) (nI_add (16 * g) j) ?_
    refine L_ld (j := 16 * g + j) d_MOD_fork_120 rfl rfl (by omega) (by decide) (fr_M 1 _) ?_
    refine L_st (j := 16 * f + j) d_MOD_fork_121 rfl rfl (by omega) (by decide) (fu_M 1 _ _) ?_
    refine E_iinc (v := nI (j + 1)) d_MOD_fork_122 rfl (nI_1 _) (by decide) ?_
    refine E_goto (tgt := 78) d_MOD_fork_125 (by decide) ?_
    exact ih (j + 1) (by omega)
theorem lp_MOD_fork3 {G : iG} {F : Nat} {C M : Nat → Nat → Int32} {Q : Option iV → iH → Prop} {l3 l4 : Option iV} {p c s fr : Nat} (hp : M 0 24 = nI p) (hp8 : p ≤ 8) (hc : 1 ≤ c) (hc8 : c ≤ 8) (hpc : p ≠ c) (hs : M 8 p = nI s) (hs8 : s ≤ 8) (hpg : pgs M p s) (hfr : fr ≤ 40) (hn : s ≤ nfr M fr) (K : ∀ l3 l4 : Option iV, Ev G m_MOD_fork 1 0 0 134 [some (vR 50), some (vI (nI c)), some (vI (nI s)), l3, l4] [] (HW F C (fkp M p c s)) Q) : ∀ (n k : Nat), k + n = s → ∀ l3 l4 : Option iV, Ev G m_MOD_fork 1 0 0 56 [some (vR 50), some (vI (nI c)), some (vI (nI k)), l3, l4] [] (HW F C (fkp M p c k)) Q := by
  have hle := nfr_le M fr
  intro n
  induction n with
  | zero =>
    intro k hk l3 l4
    have e : k = s := by omega
    subst e
    obtain ⟨g1, g2, g3⟩ := fkp_spec (M := M) hc hc8 hpc hfr (k := k) hn
    refine E_iload_n d_MOD_fork_56 rfl ?_
    refine E_aload_n d_MOD_fork_57 rfl rfl ?_
    refine L_gr d_MOD_fork_58 f_MOD_31 rfl (by decide) rfl rfl ?_
    refine E_aload_n d_MOD_fork_61 rfl rfl ?_
    refine L_gi d_MOD_fork_62 f_MOD_97 rfl (by decide) rfl (fr_M 0 24) ?_
    refine E_tp (y := nI (p)) ((fkp_ne M p c 24 (by decide) (by decide) (by decide) (by decide) k).trans hp) ?_
    refine L_ld (j := p) d_MOD_fork_65 rfl rfl (by omega) (by decide) (fr_M 8 _) ?_
    refine E_tp (y := nI (k)) (g2.trans hs) ?_
    refine E_icmp_ge (tgt := 134) d_MOD_fork_66 (by decide) (fun _ => ?_) (fun c => absurd (nI_le (by omega) (by omega)) c)
    exact K _ _
  | succ n ih =>
    intro k hk l3 l4
    obtain ⟨g1, g2, g3⟩ := fkp_spec (M := M) hc hc8 hpc hfr (k := k) (by omega)
    have hff : ff (fkp M p c k) < fr := ff_lt (by omega)
    obtain ⟨g, hg40, hg⟩ := hpg k (by omega)
    have e10 : groM (fkp M p c k) c 10 (8 * p + k) = nI g := by rw [upl10_gro (s := k) _ hpc (by rw [g1]; exact nv_nI (by omega)) (by omega) (by omega), fkp_10 hc hc8 hpc hfr (by omega) (by omega) (by omega)]; exact hg
    have e24 : groM (fkp M p c k) c 0 24 = nI p := by rw [groM_ne _ _ _ (by decide) (by decide) (by decide) (by decide)]; exact (fkp_ne M p c 24 (by decide) (by decide) (by decide) (by decide) k).trans hp
    refine E_iload_n d_MOD_fork_56 rfl ?_
    refine E_aload_n d_MOD_fork_57 rfl rfl ?_
    refine L_gr d_MOD_fork_58 f_MOD_31 rfl (by decide) rfl rfl ?_
    refine E_aload_n d_MOD_fork_61 rfl rfl ?_
    refine L_gi d_MOD_fork_62 f_MOD_97 rfl (by decide) rfl (fr_M 0 24) ?_
    refine E_tp (y := nI (p)) ((fkp_ne M p c 24 (by decide) (by decide) (by decide) (by decide) k).trans hp) ?_
    refine L_ld (j := p) d_MOD_fork_65 rfl rfl (by omega) (by decide) (fr_M 8 _) ?_
    refine E_tp (y := nI (s)) (g2.trans hs) ?_
    refine E_icmp_ge (tgt := 134) d_MOD_fork_66 (by decide) (fun c => absurd c (nI_ge (by omega) (by omega))) (fun _ => ?_)
    refine E_aload_n d_MOD_fork_69 rfl rfl ?_
    refine E_iload_n d_MOD_fork_70 rfl ?_
    refine E_V1i d_MOD_fork_71 w_MOD_69 rfl (by decide) (Nat.le_of_ble_eq_true rfl) (c_grow hc8 g1 (by omega) (by omega)) ?_
    rintro _ _ ⟨rfl, rfl⟩
    refine E_istore_n d_MOD_fork_74 (by decide) ?_
    refine E_iconst (v := 0) d_MOD_fork_75 (by decide) ?_
    refine E_istore d_MOD_fork_76 (by decide) ?_
    refine lp_MOD_fork2 e24 hp8 (by omega) (by omega) e10 hg40 ?_ 16 0 rfl
    refine E_iinc (v := nI (k + 1)) d_MOD_fork_128 rfl (nI_1 _) (by decide) ?_
    refine E_goto (tgt := 56) d_MOD_fork_131 (by decide) ?_
    have e : fkp M p c (k + 1) = cpw (groM (fkp M p c k) c) (16 * g) (16 * ff (fkp M p c k)) 16 := by rw [fkp, hg, nv_nI (by omega)]
    rw [← e]
    exact ih (k + 1) (by omega) _ _
theorem lp_MOD_fork4 {G : iG} {F : Nat} {C M : Nat → Nat → Int32} {Q : Option iV → iH → Prop} {l3 l4 : Option iV} {p c : Nat} (hp : M 0 24 = nI p) (hp8 : p ≤ 8) (hc8 : c ≤ 8) (hpc : p ≠ c) (K : Ev G m_MOD_fork 1 0 0 164 [some (vR 50), some (vI (nI c)), some (vI (nI 32)), l3, l4] [] (HW F C (upr M 9 (32 * c) 32 (fun k => M 9 (32 * p + k)))) Q) : ∀ (n k : Nat), k + n = 32 → Ev G m_MOD_fork 1 0 0 136 [some (vR 50), some (vI (nI c)), some (vI (nI k)), l3, l4] [] (HW F C (upr M 9 (32 * c) k (fun k => M 9 (32 * p + k)))) Q := by
  intro n
  induction n with
  | zero =>
    intro k hk
    have e : k = 32 := by omega
    subst e
    refine E_iload_n d_MOD_fork_136 rfl ?_
    refine E_bipush (v := 32) d_MOD_fork_137 (by decide) ?_
    refine E_icmp_ge (tgt := 164) d_MOD_fork_139 (by decide) (fun _ => ?_) (fun c => absurd (by decide) c)
    exact K
  | succ n ih =>
    intro k hk
    refine E_iload_n d_MOD_fork_136 rfl ?_
    refine E_bipush (v := 32) d_MOD_fork_137 (by decide) ?_
    refine E_icmp_ge (tgt := 164) d_MOD_fork_139 (by decide) (fun c => absurd c (nI_ge (b := 32) (by omega) (by decide))) (fun _ => ?_)
    refine E_aload_n d_MOD_fork_142 rfl rfl ?_
    refine L_gr d_MOD_fork_143 f_MOD_34 rfl (by decide) rfl rfl ?_
    refine E_bipush (v := 32) d_MOD_fork_146 (by decide) ?_
    refine E_iload_n d_MOD_fork_148 rfl ?_
    refine E_imul d_MOD_fork_149 ?_
    refine E_tp (y := nI (32 * c)) (pk_mul 32 c) ?_
    refine E_iload_n d_MOD_fork_150 rfl ?_
    refine E_iadd d_MOD_fork_151 ?_
    refine E_tp (y := nI (32 * c + k)) (nI_add (32 * c) k) ?_
    refine E_aload_n d_MOD_fork_152 rfl rfl ?_
    refine E_iload_n d_MOD_fork_153 rfl ?_
    refine E_V1i d_MOD_fork_154 w_MOD_113 rfl (by decide) (Nat.le_of_ble_eq_true rfl) (c_MOD_get ((upr_ne _ _ _ _ _ (by decide)).trans hp) hp8 (by omega)) ?_
    rintro _ _ ⟨rfl, rfl⟩
    refine E_tp (y := M 9 (32 * p + k)) (by simp only [upr]; rw [if_neg (by omega)]) ?_
    refine L_st (j := 32 * c + k) d_MOD_fork_157 rfl rfl (by omega) (by decide) (fu_M 9 _ _) ?_
    refine E_iinc (v := nI (k + 1)) d_MOD_fork_158 rfl (nI_1 _) (by decide) ?_
    refine E_goto (tgt := 136) d_MOD_fork_161 (by decide) ?_
    rw [upr_succ _ 9 (32 * c) k (fun k => M 9 (32 * p + k))]
    exact ih (k + 1) (by omega)
theorem lp_MOD_fork5 {G : iG} {F : Nat} {C M : Nat → Nat → Int32} {Q : Option iV → iH → Prop} {l3 l4 : Option iV} {p c : Nat} (hp : M 0 24 = nI p) (hp8 : p ≤ 8) (hc8 : c ≤ 8) (hpc : p ≠ c) (K : Ev G m_MOD_fork 1 0 0 203 [some (vR 50), some (vI (nI c)), some (vI (nI 6)), l3, l4] [] (HW F C (upr M 11 (6 * c) 6 (fun k => M 11 (6 * p + k)))) Q) : ∀ (n k : Nat), k + n = 6 → Ev G m_MOD_fork 1 0 0 166 [some (vR 50), some (vI (nI c)), some (vI (nI k)), l3, l4] [] (HW F C (upr M 11 (6 * c) k (fun k => M 11 (6 * p + k)))) Q := by
  intro n
  induction n with
  | zero =>
    intro k hk
    have e : k = 6 := by omega
    subst e
    refine E_iload_n d_MOD_fork_166 rfl ?_
    refine E_bipush (v := 6) d_MOD_fork_167 (by decide) ?_
    refine E_icmp_ge (tgt := 203) d_MOD_fork_169 (by decide) (fun _ => ?_) (fun c => absurd (by decide) c)
    exact K
  | succ n ih =>
    intro k hk
    refine E_iload_n d_MOD_fork_166 rfl ?_
    refine E_bipush (v := 6) d_MOD_fork_167 (by decide) ?_
    refine E_icmp_ge (tgt := 203) d_MOD_fork_169 (by decide) (fun c => absurd c (nI_ge (b := 6) (by omega) (by decide))) (fun _ => ?_)
    refine E_aload_n d_MOD_fork_172 rfl rfl ?_
    refine L_gr d_MOD_fork_173 f_MOD_40 rfl (by decide) rfl rfl ?_
    refine E_bipush (v := 6) d_MOD_fork_176 (by decide) ?_
    refine E_iload_n d_MOD_fork_178 rfl ?_
    refine E_imul d_MOD_fork_179 ?_
    refine E_tp (y := nI (6 * c)) (pk_mul 6 c) ?_
    refine E_iload_n d_MOD_fork_180 rfl ?_
    refine E_iadd d_MOD_fork_181 ?_
    refine E_tp (y := nI (6 * c + k)) (nI_add (6 * c) k) ?_
    refine E_aload_n d_MOD_fork_182 rfl rfl ?_
    refine L_gr d_MOD_fork_183 f_MOD_40 rfl (by decide) rfl rfl ?_
    refine E_bipush (v := 6) d_MOD_fork_186 (by decide) ?_
    refine E_aload_n d_MOD_fork_188 rfl rfl ?_
    refine L_gi d_MOD_fork_189 f_MOD_97 rfl (by decide) rfl (fr_M 0 24) ?_
    refine E_tp (y := nI (p)) ((upr_ne _ _ _ _ _ (by decide)).trans hp) ?_
    refine E_imul d_MOD_fork_192 ?_
    refine E_tp (y := nI (6 * p)) (pk_mul 6 p) ?_
    refine E_iload_n d_MOD_fork_193 rfl ?_
    refine E_iadd d_MOD_fork_194 ?_
    refine E_tp (y := nI (6 * p + k)) (nI_add (6 * p) k) ?_
    refine L_ld (j := 6 * p + k) d_MOD_fork_195 rfl rfl (by omega) (by decide) (fr_M 11 _) ?_
    refine E_tp (y := M 11 (6 * p + k)) (by simp only [upr]; rw [if_neg (by omega)]) ?_
    refine L_st (j := 6 * c + k) d_MOD_fork_196 rfl rfl (by omega) (by decide) (fu_M 11 _ _) ?_
    refine E_iinc (v := nI (k + 1)) d_MOD_fork_197 rfl (nI_1 _) (by decide) ?_
    refine E_goto (tgt := 166) d_MOD_fork_200 (by decide) ?_
    rw [upr_succ _ 11 (6 * c) k (fun k => M 11 (6 * p + k))]
    exact ih (k + 1) (by omega)
theorem c_MOD_fork {G : iG} {F : Nat} {C M : Nat → Nat → Int32} {p : Nat} (hp : M 0 24 = nI p) (hp8 : p ≤ 8) {s fr m : Nat} (hs : M 8 p = nI s) (hs8 : s ≤ 8) (hpg : pgs M p s) (hf : M 0 0 = nI fr) (hfr : fr ≤ 40) (hm : M 0 15 = nI m) (hm9 : m < 9) (h4 : 0 < M 4 p) : MI G m_MOD_fork 1 [vR 50] (HW F C M) (fun x h' => (x = if frkb M s fr = true then nI (fas M 8 1) else -1) ∧ h' = HW F C (if frkb M s fr = true then frkM M p (fas M 8 1) s m else M)) := by
  refine Mt.of' (Ls := [some (vR 50), none, none, none, none]) (by decide) (by simp [ct]) (Nat.le_of_ble_eq_true rfl) rfl ?_
  obtain ⟨hc1, hc9, hc0⟩ := fas_spec M 8 1
  have hn := nfr_le M fr
  refine E_iconst (v := 1) d_MOD_fork_0 (by decide) ?_
  refine E_istore_n d_MOD_fork_1 (by decide) ?_
  refine lp_MOD_fork1 ?_ 8 1 rfl rfl
  refine E_iload_n d_MOD_fork_23 rfl ?_
  refine E_bipush (v := 8) d_MOD_fork_24 (by decide) ?_
  refine E_icmp_gt (tgt := 45) d_MOD_fork_26 (by decide) (fun c26 => ?_) (fun c26 => ?_)
  · have hb : frkb M s fr = false := by have := (nI_ltI (a := 8) (b := fas M 8 1) (by decide) (by omega)).mp c26; have h2 : ¬ fas M 8 1 ≤ 8 := (by omega); simp [frkb, h2]
    refine E_iconst (v := -1) d_MOD_fork_45 (by decide) ?_
    exact E_ireturn d_MOD_fork_46 (Or.inl rfl) rfl ⟨_, rfl, by rw [if_neg (by rw [hb]; decide)], by rw [if_neg (by rw [hb]; decide)]⟩
  · have hc8 : fas M 8 1 ≤ 8 := by have := (not_congr (nI_ltI (a := 8) (b := fas M 8 1) (by decide) (by omega))).mp c26; omega
    refine E_aload_n d_MOD_fork_29 rfl rfl ?_
    refine E_V0i d_MOD_fork_30 w_MOD_212 rfl (by decide) (Nat.le_of_ble_eq_true rfl) (c_MOD_freeFrames hf hfr) ?_
    rintro _ _ ⟨rfl, rfl⟩
    refine E_aload_n d_MOD_fork_33 rfl rfl ?_
    refine L_gr d_MOD_fork_34 f_MOD_31 rfl (by decide) rfl rfl ?_
    refine E_aload_n d_MOD_fork_37 rfl rfl ?_
    refine L_gi d_MOD_fork_38 f_MOD_97 rfl (by decide) rfl (fr_M 0 24) ?_
    refine E_tp (y := nI (p)) hp ?_
    refine L_ld (j := p) d_MOD_fork_41 rfl rfl (by omega) (by decide) (fr_M 8 _) ?_
    refine E_tp (y := nI (s)) hs ?_
    refine E_icmp_ge (tgt := 47) d_MOD_fork_42 (by decide) (fun c42 => ?_) (fun c42 => ?_)
    · have hq := (nI_leI (by omega) (by omega)).mp c42
      have hb : frkb M s fr = true := by simp [frkb, hc8, hq]
      have hpc : p ≠ fas M 8 1 := fun q => absurd (q ▸ h4) (Int32.not_lt.mpr (hc0 (by omega)))
      refine E_aload_n d_MOD_fork_47 rfl rfl ?_
      refine L_gr d_MOD_fork_48 f_MOD_31 rfl (by decide) rfl rfl ?_
      refine E_iload_n d_MOD_fork_51 rfl ?_
      refine E_iconst (v := 0) d_MOD_fork_52 (by decide) ?_
      refine L_st (j := fas M 8 1) d_MOD_fork_53 rfl rfl (by omega) (by decide) (fu_M 8 _ _) ?_
      refine E_iconst (v := 0) d_MOD_fork_54 (by decide) ?_
      refine E_istore_n d_MOD_fork_55 (by decide) ?_
      refine lp_MOD_fork3 (l3 := none) (l4 := none) hp hp8 hc1 hc8 hpc hs hs8 hpg hfr hq ?_ s 0 (by omega) none none
      intro l3 l4
      refine E_iconst (v := 0) d_MOD_fork_134 (by decide) ?_
      refine E_istore_n d_MOD_fork_135 (by decide) ?_
      rw [← upr_zero (fkp M p (fas M 8 1) s) 9 (32 * fas M 8 1) (fun k => fkp M p (fas M 8 1) s 9 (32 * p + k))]
      refine lp_MOD_fork4 ((fkp_ne M p (fas M 8 1) 24 (by decide) (by decide) (by decide) (by decide) s).trans hp) hp8 hc8 hpc ?_ 32 0 rfl
      refine E_iconst (v := 0) d_MOD_fork_164 (by decide) ?_
      refine E_istore_n d_MOD_fork_165 (by decide) ?_
      rw [← upr_zero (upr (fkp M p (fas M 8 1) s) 9 (32 * fas M 8 1) 32 (fun k => fkp M p (fas M 8 1) s 9 (32 * p + k))) 11 (6 * fas M 8 1) (fun k => (upr (fkp M p (fas M 8 1) s) 9 (32 * fas M 8 1) 32 (fun k => fkp M p (fas M 8 1) s 9 (32 * p + k))) 11 (6 * p + k))]
      refine lp_MOD_fork5 ((upr_ne _ _ _ _ _ (by decide)).trans ((fkp_ne M p (fas M 8 1) 24 (by decide) (by decide) (by decide) (by decide) s).trans hp)) hp8 hc8 hpc ?_ 6 0 rfl
      have e2 : upr (upr (fkp M p (fas M 8 1) s) 9 (32 * fas M 8 1) 32 (fun k => fkp M p (fas M 8 1) s 9 (32 * p + k))) 11 (6 * fas M 8 1) 6 (fun k => (upr (fkp M p (fas M 8 1) s) 9 (32 * fas M 8 1) 32 (fun k => fkp M p (fas M 8 1) s 9 (32 * p + k))) 11 (6 * p + k)) = fk2 M p (fas M 8 1) s := by
        rw [fk2]
        congr 1
        · congr 1
          funext k
          exact fkp_ne M p _ _ (by decide) (by decide) (by decide) (by decide) s
        · funext k
          rw [upr_ne _ _ _ _ _ (by decide)]
          exact fkp_ne M p _ _ (by decide) (by decide) (by decide) (by decide) s
      rw [e2]
      have f24 : fk2 M p (fas M 8 1) s 0 24 = nI p := by rw [fk2, upr_ne _ _ _ _ _ (by decide), upr_ne _ _ _ _ _ (by decide)]; exact ((fkp_ne M p (fas M 8 1) 24 (by decide) (by decide) (by decide) (by decide) s).trans hp)
      have f15 : fk2 M p (fas M 8 1) s 0 15 = nI m := by rw [fk2, upr_ne _ _ _ _ _ (by decide), upr_ne _ _ _ _ _ (by decide)]; exact (fkp_ne M p (fas M 8 1) 15 (by decide) (by decide) (by decide) (by decide) s).trans hm
      have f7 : fk2 M p (fas M 8 1) s 7 p = M 7 p := by rw [fk2, upr_ne _ _ _ _ _ (by decide), upr_ne _ _ _ _ _ (by decide)]; exact (fkp_ne M p (fas M 8 1) p (by decide) (by decide) (by decide) (by decide) s)
      refine E_aload_n d_MOD_fork_203 rfl rfl ?_
      refine L_gr d_MOD_fork_204 f_MOD_34 rfl (by decide) rfl rfl ?_
      refine E_bipush (v := 32) d_MOD_fork_207 (by decide) ?_
      refine E_iload_n d_MOD_fork_209 rfl ?_
      refine E_imul d_MOD_fork_210 ?_
      refine E_tp (y := nI (32 * (fas M 8 1))) (pk_mul 32 (fas M 8 1)) ?_
      refine E_bipush (v := 10) d_MOD_fork_211 (by decide) ?_
      refine E_iadd d_MOD_fork_213 ?_
      refine E_tp (y := nI (32 * (fas M 8 1) + 10)) (nI_add (32 * (fas M 8 1)) 10) ?_
      refine E_iconst (v := 0) d_MOD_fork_214 (by decide) ?_
      refine L_st (j := 32 * (fas M 8 1) + 10) d_MOD_fork_215 rfl rfl (by omega) (by decide) (fu_M 9 _ _) ?_
      refine E_aload_n d_MOD_fork_216 rfl rfl ?_
      refine L_gr d_MOD_fork_217 f_MOD_28 rfl (by decide) rfl rfl ?_
      refine E_iload_n d_MOD_fork_220 rfl ?_
      refine E_aload_n d_MOD_fork_221 rfl rfl ?_
      refine L_gr d_MOD_fork_222 f_MOD_28 rfl (by decide) rfl rfl ?_
      refine E_aload_n d_MOD_fork_225 rfl rfl ?_
      refine L_gi d_MOD_fork_226 f_MOD_97 rfl (by decide) rfl (fr_M 0 24) ?_
      refine E_tp (y := nI (p)) (by simp [up2, f24]) ?_
      refine L_ld (j := p) d_MOD_fork_229 rfl rfl (by omega) (by decide) (fr_M 7 _) ?_
      refine E_tp (y := M 7 p) (by simp [up2, f7]) ?_
      refine E_iconst (v := 4) d_MOD_fork_230 (by decide) ?_
      refine E_iadd d_MOD_fork_231 ?_
      refine L_st (j := fas M 8 1) d_MOD_fork_232 rfl rfl (by omega) (by decide) (fu_M 7 _ _) ?_
      refine E_aload_n d_MOD_fork_233 rfl rfl ?_
      refine L_gr d_MOD_fork_234 f_MOD_25 rfl (by decide) rfl rfl ?_
      refine E_iload_n d_MOD_fork_237 rfl ?_
      refine E_aload_n d_MOD_fork_238 rfl rfl ?_
      refine L_gi d_MOD_fork_239 f_MOD_97 rfl (by decide) rfl (fr_M 0 24) ?_
      refine E_tp (y := nI (p)) (by simp [up2, f24]) ?_
      refine L_st (j := fas M 8 1) d_MOD_fork_242 rfl rfl (by omega) (by decide) (fu_M 6 _ _) ?_
      refine E_aload_n d_MOD_fork_243 rfl rfl ?_
      refine L_gr d_MOD_fork_244 f_MOD_22 rfl (by decide) rfl rfl ?_
      refine E_iload_n d_MOD_fork_247 rfl ?_
      refine E_iconst (v := 0) d_MOD_fork_248 (by decide) ?_
      refine L_st (j := fas M 8 1) d_MOD_fork_249 rfl rfl (by omega) (by decide) (fu_M 5 _ _) ?_
      refine E_aload_n d_MOD_fork_250 rfl rfl ?_
      refine E_iload_n d_MOD_fork_251 rfl ?_
      refine E_V1v d_MOD_fork_252 w_MOD_73 rfl (by decide) (Nat.le_of_ble_eq_true rfl) (c_MOD_wake hc8 (by simp [up2, f15]) hm9) ?_
      rintro _ rfl
      refine E_iload_n d_MOD_fork_255 rfl ?_
      exact E_ireturn d_MOD_fork_256 (Or.inl rfl) rfl ⟨_, rfl, by rw [if_pos hb], by rw [if_pos hb]; rfl⟩
    · have hb : frkb M s fr = false := by have h2 := (not_congr (nI_leI (a := s) (b := nfr M fr) (by omega) (by omega))).mp c42; simp [frkb, h2]
      refine E_iconst (v := -1) d_MOD_fork_45 (by decide) ?_
      exact E_ireturn d_MOD_fork_46 (Or.inl rfl) rfl ⟨_, rfl, by rw [if_neg (by rw [hb]; decide)], by rw [if_neg (by rw [hb]; decide)]⟩

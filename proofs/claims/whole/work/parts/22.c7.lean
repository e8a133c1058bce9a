theorem c_MOD_branch {G : iG} {F : Nat} {C M : Nat → Nat → Int32} {p m : Nat} (hp : M 0 24 = nI p) (hp8 : p ≤ 8) (hm : M 0 15 = nI m) (hm9 : m ≤ 9) {pc : Int32} : MV G m_MOD_branch 4 [vR 50, vI pc] (HW F C M) (fun h' => h' = HW F C (brM M p m pc)) := by
  refine Mt.of' (Ls := [some (vR 50), some (vI pc), none, none, none, none, none]) (by decide) (by simp [ct]) (Nat.le_of_ble_eq_true rfl) rfl ?_
  obtain ⟨f, hf⟩ : ∃ f, f = bf (M 0 25) 12 3 := ⟨_, rfl⟩
  have hf8 : f < 8 := by rw [hf]; exact bf_lt _ _ 3
  obtain ⟨a, ha⟩ : ∃ a, a = M 9 (32 * p + bf (M 0 25) 15 5) := ⟨_, rfl⟩
  obtain ⟨b, hb⟩ : ∃ b, b = M 9 (32 * p + bf (M 0 25) 20 5) := ⟨_, rfl⟩
  have hq : brM M p m pc = brF M p m f a b pc := by rw [hf, ha, hb]; rfl
  refine E_aload_n d_MOD_branch_0 rfl rfl ?_
  refine E_bipush (v := 12) d_MOD_branch_1 (by decide) ?_
  refine E_iconst (v := 3) d_MOD_branch_3 (by decide) ?_
  refine E_V2i d_MOD_branch_4 w_MOD_110 rfl (by decide) (Nat.le_of_ble_eq_true rfl) (c_MOD_bits (a := 12) (k := 3) (by decide) (by decide) (by decide)) ?_
  rintro _ _ ⟨rfl, rfl⟩
  rw [← hf]
  refine E_istore_n d_MOD_branch_7 (by decide) ?_
  refine E_aload_n d_MOD_branch_8 rfl rfl ?_
  refine E_V0i d_MOD_branch_9 w_MOD_141 rfl (by decide) (Nat.le_of_ble_eq_true rfl) (c_MOD_s hp hp8) ?_
  rintro _ _ ⟨rfl, rfl⟩
  refine E_tp (y := a) ha.symm ?_
  refine E_istore_n d_MOD_branch_12 (by decide) ?_
  refine E_aload_n d_MOD_branch_13 rfl rfl ?_
  refine E_V0i d_MOD_branch_14 w_MOD_161 rfl (by decide) (Nat.le_of_ble_eq_true rfl) (c_MOD_t hp hp8) ?_
  rintro _ _ ⟨rfl, rfl⟩
  refine E_tp (y := b) hb.symm ?_
  refine E_istore d_MOD_branch_17 (by decide) ?_
  rcases (show f = 0 ∨ f = 1 ∨ f = 2 ∨ f = 3 ∨ f = 4 ∨ f = 5 ∨ f = 6 ∨ f = 7 by omega) with rfl | rfl | rfl | rfl | rfl | rfl | rfl | rfl
  · refine E_iload_n d_MOD_branch_19 rfl ?_
    refine E_iconst (v := 2) d_MOD_branch_20 (by decide) ?_
    refine E_icmp_eq (tgt := 29) d_MOD_branch_21 (by decide) (fun c => absurd c (by decide)) (fun _ => ?_)
    refine E_iload_n d_MOD_branch_24 rfl ?_
    refine E_iconst (v := 3) d_MOD_branch_25 (by decide) ?_
    refine E_icmp_ne (tgt := 35) d_MOD_branch_26 (by decide) (fun _ => ?_) (fun c => absurd c (by decide))
    refine E_iload_n d_MOD_branch_35 rfl ?_
    refine E_iconst (v := 2) d_MOD_branch_36 (by decide) ?_
    refine E_icmp_ge (tgt := 54) d_MOD_branch_37 (by decide) (fun c => absurd c (by decide)) (fun _ => ?_)
    refine E_iload_n d_MOD_branch_40 rfl ?_
    refine E_iload d_MOD_branch_41 rfl ?_
    refine E_icmp_ne (tgt := 50) d_MOD_branch_43 (by decide) (fun c43 => ?_) (fun c43 => ?_)
    · refine E_iconst (v := 0) d_MOD_branch_50 (by decide) ?_
      refine E_goto (tgt := 71) d_MOD_branch_51 (by decide) ?_
      refine E_istore d_MOD_branch_71 (by decide) ?_
      refine E_iload d_MOD_branch_73 rfl ?_
      refine E_iload_n d_MOD_branch_75 rfl ?_
      refine E_iconst (v := 2) d_MOD_branch_76 (by decide) ?_
      refine E_irem d_MOD_branch_77 (by decide) ?_
      refine E_tp (y := 0) (by decide) ?_
      refine E_iconst (v := 1) d_MOD_branch_78 (by decide) ?_
      refine E_icmp_ne (tgt := 86) d_MOD_branch_79 (by decide) (fun _ => ?_) (fun c => absurd c (by decide))
      refine E_iconst (v := 0) d_MOD_branch_86 (by decide) ?_
      refine E_icmp_ne (tgt := 91) d_MOD_branch_87 (by decide) (fun c => absurd (by decide) c) (fun _ => ?_)
      exact E_return d_MOD_branch_90 rfl rfl ⟨rfl, by rw [hq, brF_no (by decide) (by simp [bcd, c43])]⟩
    · refine E_iconst (v := 1) d_MOD_branch_46 (by decide) ?_
      refine E_goto (tgt := 71) d_MOD_branch_47 (by decide) ?_
      refine E_istore d_MOD_branch_71 (by decide) ?_
      refine E_iload d_MOD_branch_73 rfl ?_
      refine E_iload_n d_MOD_branch_75 rfl ?_
      refine E_iconst (v := 2) d_MOD_branch_76 (by decide) ?_
      refine E_irem d_MOD_branch_77 (by decide) ?_
      refine E_tp (y := 0) (by decide) ?_
      refine E_iconst (v := 1) d_MOD_branch_78 (by decide) ?_
      refine E_icmp_ne (tgt := 86) d_MOD_branch_79 (by decide) (fun _ => ?_) (fun c => absurd c (by decide))
      refine E_iconst (v := 0) d_MOD_branch_86 (by decide) ?_
      refine E_icmp_ne (tgt := 91) d_MOD_branch_87 (by decide) (fun _ => ?_) (fun c => absurd c (by decide))
      refine E_iload_n d_MOD_branch_91 rfl ?_
      refine E_aload_n d_MOD_branch_92 rfl rfl ?_
      refine L_gi d_MOD_branch_93 f_MOD_107 rfl (by decide) rfl (fr_M 0 25) ?_
      refine E_bipush (v := 31) d_MOD_branch_96 (by decide) ?_
      refine E_ishr d_MOD_branch_98 ?_
      refine E_bipush (v := 12) d_MOD_branch_99 (by decide) ?_
      refine E_ishl d_MOD_branch_101 ?_
      refine E_aload_n d_MOD_branch_102 rfl rfl ?_
      refine E_bipush (v := 7) d_MOD_branch_103 (by decide) ?_
      refine E_iconst (v := 1) d_MOD_branch_105 (by decide) ?_
      refine E_V2i d_MOD_branch_106 w_MOD_110 rfl (by decide) (Nat.le_of_ble_eq_true rfl) (c_MOD_bits (a := 7) (k := 1) (by decide) (by decide) (by decide)) ?_
      rintro _ _ ⟨rfl, rfl⟩
      refine E_bipush (v := 11) d_MOD_branch_109 (by decide) ?_
      refine E_ishl d_MOD_branch_111 ?_
      refine E_ior d_MOD_branch_112 ?_
      refine E_aload_n d_MOD_branch_113 rfl rfl ?_
      refine E_bipush (v := 25) d_MOD_branch_114 (by decide) ?_
      refine E_bipush (v := 6) d_MOD_branch_116 (by decide) ?_
      refine E_V2i d_MOD_branch_118 w_MOD_110 rfl (by decide) (Nat.le_of_ble_eq_true rfl) (c_MOD_bits (a := 25) (k := 6) (by decide) (by decide) (by decide)) ?_
      rintro _ _ ⟨rfl, rfl⟩
      refine E_iconst (v := 5) d_MOD_branch_121 (by decide) ?_
      refine E_ishl d_MOD_branch_122 ?_
      refine E_ior d_MOD_branch_123 ?_
      refine E_aload_n d_MOD_branch_124 rfl rfl ?_
      refine E_bipush (v := 8) d_MOD_branch_125 (by decide) ?_
      refine E_iconst (v := 4) d_MOD_branch_127 (by decide) ?_
      refine E_V2i d_MOD_branch_128 w_MOD_110 rfl (by decide) (Nat.le_of_ble_eq_true rfl) (c_MOD_bits (a := 8) (k := 4) (by decide) (by decide) (by decide)) ?_
      rintro _ _ ⟨rfl, rfl⟩
      refine E_iconst (v := 1) d_MOD_branch_131 (by decide) ?_
      refine E_ishl d_MOD_branch_132 ?_
      refine E_ior d_MOD_branch_133 ?_
      refine E_iadd d_MOD_branch_134 ?_
      refine E_istore d_MOD_branch_135 (by decide) ?_
      refine E_iload d_MOD_branch_137 rfl ?_
      refine E_iconst (v := 4) d_MOD_branch_139 (by decide) ?_
      refine E_irem d_MOD_branch_140 (by decide) ?_
      refine E_if_eq (tgt := 152) d_MOD_branch_141 (by decide) (fun c141 => ?_) (fun c141 => ?_)
      · refine E_aload_n d_MOD_branch_152 rfl rfl ?_
        refine E_iload d_MOD_branch_153 rfl ?_
        refine L_pi d_MOD_branch_155 f_MOD_121 rfl (by decide) (Or.inl rfl) rfl (fu_M 0 26 _) ?_
        exact E_return d_MOD_branch_158 rfl rfl ⟨rfl, by rw [hq, brF_go (by decide) (by simp [bcd, c43]) c141]; rfl⟩
      · refine E_aload_n d_MOD_branch_144 rfl rfl ?_
        refine E_iconst (v := 0) d_MOD_branch_145 (by decide) ?_
        refine E_V1v d_MOD_branch_146 w_MOD_128 rfl (by decide) (Nat.le_of_ble_eq_true rfl) (c_MOD_fault hp hp8 hm hm9) ?_
        rintro _ rfl
        refine E_goto (tgt := 158) d_MOD_branch_149 (by decide) ?_
        exact E_return d_MOD_branch_158 rfl rfl ⟨rfl, by rw [hq, brF_ft (by decide) (by simp [bcd, c43]) c141]⟩
  · refine E_iload_n d_MOD_branch_19 rfl ?_
    refine E_iconst (v := 2) d_MOD_branch_20 (by decide) ?_
    refine E_icmp_eq (tgt := 29) d_MOD_branch_21 (by decide) (fun c => absurd c (by decide)) (fun _ => ?_)
    refine E_iload_n d_MOD_branch_24 rfl ?_
    refine E_iconst (v := 3) d_MOD_branch_25 (by decide) ?_
    refine E_icmp_ne (tgt := 35) d_MOD_branch_26 (by decide) (fun _ => ?_) (fun c => absurd c (by decide))
    refine E_iload_n d_MOD_branch_35 rfl ?_
    refine E_iconst (v := 2) d_MOD_branch_36 (by decide) ?_
    refine E_icmp_ge (tgt := 54) d_MOD_branch_37 (by decide) (fun c => absurd c (by decide)) (fun _ => ?_)
    refine E_iload_n d_MOD_branch_40 rfl ?_
    refine E_iload d_MOD_branch_41 rfl ?_
    refine E_icmp_ne (tgt := 50) d_MOD_branch_43 (by decide) (fun c43 => ?_) (fun c43 => ?_)
    · refine E_iconst (v := 0) d_MOD_branch_50 (by decide) ?_
      refine E_goto (tgt := 71) d_MOD_branch_51 (by decide) ?_
      refine E_istore d_MOD_branch_71 (by decide) ?_
      refine E_iload d_MOD_branch_73 rfl ?_
      refine E_iload_n d_MOD_branch_75 rfl ?_
      refine E_iconst (v := 2) d_MOD_branch_76 (by decide) ?_
      refine E_irem d_MOD_branch_77 (by decide) ?_
      refine E_tp (y := 1) (by decide) ?_
      refine E_iconst (v := 1) d_MOD_branch_78 (by decide) ?_
      refine E_icmp_ne (tgt := 86) d_MOD_branch_79 (by decide) (fun c => absurd (by decide) c) (fun _ => ?_)
      refine E_iconst (v := 1) d_MOD_branch_82 (by decide) ?_
      refine E_goto (tgt := 87) d_MOD_branch_83 (by decide) ?_
      refine E_icmp_ne (tgt := 91) d_MOD_branch_87 (by decide) (fun _ => ?_) (fun c => absurd c (by decide))
      refine E_iload_n d_MOD_branch_91 rfl ?_
      refine E_aload_n d_MOD_branch_92 rfl rfl ?_
      refine L_gi d_MOD_branch_93 f_MOD_107 rfl (by decide) rfl (fr_M 0 25) ?_
      refine E_bipush (v := 31) d_MOD_branch_96 (by decide) ?_
      refine E_ishr d_MOD_branch_98 ?_
      refine E_bipush (v := 12) d_MOD_branch_99 (by decide) ?_
      refine E_ishl d_MOD_branch_101 ?_
      refine E_aload_n d_MOD_branch_102 rfl rfl ?_
      refine E_bipush (v := 7) d_MOD_branch_103 (by decide) ?_
      refine E_iconst (v := 1) d_MOD_branch_105 (by decide) ?_
      refine E_V2i d_MOD_branch_106 w_MOD_110 rfl (by decide) (Nat.le_of_ble_eq_true rfl) (c_MOD_bits (a := 7) (k := 1) (by decide) (by decide) (by decide)) ?_
      rintro _ _ ⟨rfl, rfl⟩
      refine E_bipush (v := 11) d_MOD_branch_109 (by decide) ?_
      refine E_ishl d_MOD_branch_111 ?_
      refine E_ior d_MOD_branch_112 ?_
      refine E_aload_n d_MOD_branch_113 rfl rfl ?_
      refine E_bipush (v := 25) d_MOD_branch_114 (by decide) ?_
      refine E_bipush (v := 6) d_MOD_branch_116 (by decide) ?_
      refine E_V2i d_MOD_branch_118 w_MOD_110 rfl (by decide) (Nat.le_of_ble_eq_true rfl) (c_MOD_bits (a := 25) (k := 6) (by decide) (by decide) (by decide)) ?_
      rintro _ _ ⟨rfl, rfl⟩
      refine E_iconst (v := 5) d_MOD_branch_121 (by decide) ?_
      refine E_ishl d_MOD_branch_122 ?_
      refine E_ior d_MOD_branch_123 ?_
      refine E_aload_n d_MOD_branch_124 rfl rfl ?_
      refine E_bipush (v := 8) d_MOD_branch_125 (by decide) ?_
      refine E_iconst (v := 4) d_MOD_branch_127 (by decide) ?_
      refine E_V2i d_MOD_branch_128 w_MOD_110 rfl (by decide) (Nat.le_of_ble_eq_true rfl) (c_MOD_bits (a := 8) (k := 4) (by decide) (by decide) (by decide)) ?_
      rintro _ _ ⟨rfl, rfl⟩
      refine E_iconst (v := 1) d_MOD_branch_131 (by decide) ?_
      refine E_ishl d_MOD_branch_132 ?_
      refine E_ior d_MOD_branch_133 ?_
      refine E_iadd d_MOD_branch_134 ?_
      refine E_istore d_MOD_branch_135 (by decide) ?_
      refine E_iload d_MOD_branch_137 rfl ?_
      refine E_iconst (v := 4) d_MOD_branch_139 (by decide) ?_
      refine E_irem d_MOD_branch_140 (by decide) ?_
      refine E_if_eq (tgt := 152) d_MOD_branch_141 (by decide) (fun c141 => ?_) (fun c141 => ?_)
      · refine E_aload_n d_MOD_branch_152 rfl rfl ?_
        refine E_iload d_MOD_branch_153 rfl ?_
        refine L_pi d_MOD_branch_155 f_MOD_121 rfl (by decide) (Or.inl rfl) rfl (fu_M 0 26 _) ?_
        exact E_return d_MOD_branch_158 rfl rfl ⟨rfl, by rw [hq, brF_go (by decide) (by simp [bcd, c43]) c141]; rfl⟩
      · refine E_aload_n d_MOD_branch_144 rfl rfl ?_
        refine E_iconst (v := 0) d_MOD_branch_145 (by decide) ?_
        refine E_V1v d_MOD_branch_146 w_MOD_128 rfl (by decide) (Nat.le_of_ble_eq_true rfl) (c_MOD_fault hp hp8 hm hm9) ?_
        rintro _ rfl
        refine E_goto (tgt := 158) d_MOD_branch_149 (by decide) ?_
        exact E_return d_MOD_branch_158 rfl rfl ⟨rfl, by rw [hq, brF_ft (by decide) (by simp [bcd, c43]) c141]⟩
    · refine E_iconst (v := 1) d_MOD_branch_46 (by decide) ?_
      refine E_goto (tgt := 71) d_MOD_branch_47 (by decide) ?_
      refine E_istore d_MOD_branch_71 (by decide) ?_
      refine E_iload d_MOD_branch_73 rfl ?_
      refine E_iload_n d_MOD_branch_75 rfl ?_
      refine E_iconst (v := 2) d_MOD_branch_76 (by decide) ?_
      refine E_irem d_MOD_branch_77 (by decide) ?_
      refine E_tp (y := 1) (by decide) ?_
      refine E_iconst (v := 1) d_MOD_branch_78 (by decide) ?_
      refine E_icmp_ne (tgt := 86) d_MOD_branch_79 (by decide) (fun c => absurd (by decide) c) (fun _ => ?_)
      refine E_iconst (v := 1) d_MOD_branch_82 (by decide) ?_
      refine E_goto (tgt := 87) d_MOD_branch_83 (by decide) ?_
      refine E_icmp_ne (tgt := 91) d_MOD_branch_87 (by decide) (fun c => absurd (by decide) c) (fun _ => ?_)
      exact E_return d_MOD_branch_90 rfl rfl ⟨rfl, by rw [hq, brF_no (by decide) (by simp [bcd, c43])]⟩
  · refine E_iload_n d_MOD_branch_19 rfl ?_
    refine E_iconst (v := 2) d_MOD_branch_20 (by decide) ?_
    refine E_icmp_eq (tgt := 29) d_MOD_branch_21 (by decide) (fun _ => ?_) (fun c => absurd (by decide) c)
    refine E_aload_n d_MOD_branch_29 rfl rfl ?_
    refine E_iconst (v := 2) d_MOD_branch_30 (by decide) ?_
    refine E_V1v d_MOD_branch_31 w_MOD_128 rfl (by decide) (Nat.le_of_ble_eq_true rfl) (c_MOD_fault hp hp8 hm hm9) ?_
    rintro _ rfl
    exact E_return d_MOD_branch_34 rfl rfl ⟨rfl, by rw [hq, brF_bad (by decide)]⟩
  · refine E_iload_n d_MOD_branch_19 rfl ?_
    refine E_iconst (v := 2) d_MOD_branch_20 (by decide) ?_
    refine E_icmp_eq (tgt := 29) d_MOD_branch_21 (by decide) (fun c => absurd c (by decide)) (fun _ => ?_)
    refine E_iload_n d_MOD_branch_24 rfl ?_
    refine E_iconst (v := 3) d_MOD_branch_25 (by decide) ?_
    refine E_icmp_ne (tgt := 35) d_MOD_branch_26 (by decide) (fun c => absurd (by decide) c) (fun _ => ?_)
    refine E_aload_n d_MOD_branch_29 rfl rfl ?_
    refine E_iconst (v := 2) d_MOD_branch_30 (by decide) ?_
    refine E_V1v d_MOD_branch_31 w_MOD_128 rfl (by decide) (Nat.le_of_ble_eq_true rfl) (c_MOD_fault hp hp8 hm hm9) ?_
    rintro _ rfl
    exact E_return d_MOD_branch_34 rfl rfl ⟨rfl, by rw [hq, brF_bad (by decide)]⟩
  · refine E_iload_n d_MOD_branch_19 rfl ?_
    refine E_iconst (v := 2) d_MOD_branch_20 (by decide) ?_
    refine E_icmp_eq (tgt := 29) d_MOD_branch_21 (by decide) (fun c => absurd c (by decide)) (fun _ => ?_)
    refine E_iload_n d_MOD_branch_24 rfl ?_
    refine E_iconst (v := 3) d_MOD_branch_25 (by decide) ?_
    refine E_icmp_ne (tgt := 35) d_MOD_branch_26 (by decide) (fun _ => ?_) (fun c => absurd c (by decide))
    refine E_iload_n d_MOD_branch_35 rfl ?_
    refine E_iconst (v := 2) d_MOD_branch_36 (by decide) ?_
    refine E_icmp_ge (tgt := 54) d_MOD_branch_37 (by decide) (fun _ => ?_) (fun c => absurd (by decide) c)
    refine E_iload_n d_MOD_branch_54 rfl ?_
    refine E_iload d_MOD_branch_55 rfl ?_
    refine E_iload_n d_MOD_branch_57 rfl ?_
    refine E_bipush (v := 6) d_MOD_branch_58 (by decide) ?_
    refine E_icmp_ge (tgt := 67) d_MOD_branch_60 (by decide) (fun c => absurd c (by decide)) (fun _ => ?_)
    refine E_iconst (v := 1) d_MOD_branch_63 (by decide) ?_
    refine E_goto (tgt := 68) d_MOD_branch_64 (by decide) ?_
    refine E_S3i d_MOD_branch_68 w_MOD_164 (by decide) (Nat.le_of_ble_eq_true rfl) (c_MOD_less (sg := true)) ?_
    rintro _ _ ⟨rfl, rfl⟩
    refine E_istore d_MOD_branch_71 (by decide) ?_
    refine E_iload d_MOD_branch_73 rfl ?_
    refine E_iload_n d_MOD_branch_75 rfl ?_
    refine E_iconst (v := 2) d_MOD_branch_76 (by decide) ?_
    refine E_irem d_MOD_branch_77 (by decide) ?_
    refine E_tp (y := 0) (by decide) ?_
    refine E_iconst (v := 1) d_MOD_branch_78 (by decide) ?_
    refine E_icmp_ne (tgt := 86) d_MOD_branch_79 (by decide) (fun _ => ?_) (fun c => absurd c (by decide))
    refine E_iconst (v := 0) d_MOD_branch_86 (by decide) ?_
    refine E_icmp_ne (tgt := 91) d_MOD_branch_87 (by decide) (fun c87 => ?_) (fun c87 => ?_)
    · have hX := b2i_ne0 c87
      refine E_iload_n d_MOD_branch_91 rfl ?_
      refine E_aload_n d_MOD_branch_92 rfl rfl ?_
      refine L_gi d_MOD_branch_93 f_MOD_107 rfl (by decide) rfl (fr_M 0 25) ?_
      refine E_bipush (v := 31) d_MOD_branch_96 (by decide) ?_
      refine E_ishr d_MOD_branch_98 ?_
      refine E_bipush (v := 12) d_MOD_branch_99 (by decide) ?_
      refine E_ishl d_MOD_branch_101 ?_
      refine E_aload_n d_MOD_branch_102 rfl rfl ?_
      refine E_bipush (v := 7) d_MOD_branch_103 (by decide) ?_
      refine E_iconst (v := 1) d_MOD_branch_105 (by decide) ?_
      refine E_V2i d_MOD_branch_106 w_MOD_110 rfl (by decide) (Nat.le_of_ble_eq_true rfl) (c_MOD_bits (a := 7) (k := 1) (by decide) (by decide) (by decide)) ?_
      rintro _ _ ⟨rfl, rfl⟩
      refine E_bipush (v := 11) d_MOD_branch_109 (by decide) ?_
      refine E_ishl d_MOD_branch_111 ?_
      refine E_ior d_MOD_branch_112 ?_
      refine E_aload_n d_MOD_branch_113 rfl rfl ?_
      refine E_bipush (v := 25) d_MOD_branch_114 (by decide) ?_
      refine E_bipush (v := 6) d_MOD_branch_116 (by decide) ?_
      refine E_V2i d_MOD_branch_118 w_MOD_110 rfl (by decide) (Nat.le_of_ble_eq_true rfl) (c_MOD_bits (a := 25) (k := 6) (by decide) (by decide) (by decide)) ?_
      rintro _ _ ⟨rfl, rfl⟩
      refine E_iconst (v := 5) d_MOD_branch_121 (by decide) ?_
      refine E_ishl d_MOD_branch_122 ?_
      refine E_ior d_MOD_branch_123 ?_
      refine E_aload_n d_MOD_branch_124 rfl rfl ?_
      refine E_bipush (v := 8) d_MOD_branch_125 (by decide) ?_
      refine E_iconst (v := 4) d_MOD_branch_127 (by decide) ?_
      refine E_V2i d_MOD_branch_128 w_MOD_110 rfl (by decide) (Nat.le_of_ble_eq_true rfl) (c_MOD_bits (a := 8) (k := 4) (by decide) (by decide) (by decide)) ?_
      rintro _ _ ⟨rfl, rfl⟩
      refine E_iconst (v := 1) d_MOD_branch_131 (by decide) ?_
      refine E_ishl d_MOD_branch_132 ?_
      refine E_ior d_MOD_branch_133 ?_
      refine E_iadd d_MOD_branch_134 ?_
      refine E_istore d_MOD_branch_135 (by decide) ?_
      refine E_iload d_MOD_branch_137 rfl ?_
      refine E_iconst (v := 4) d_MOD_branch_139 (by decide) ?_
      refine E_irem d_MOD_branch_140 (by decide) ?_
      refine E_if_eq (tgt := 152) d_MOD_branch_141 (by decide) (fun c141 => ?_) (fun c141 => ?_)
      · refine E_aload_n d_MOD_branch_152 rfl rfl ?_
        refine E_iload d_MOD_branch_153 rfl ?_
        refine L_pi d_MOD_branch_155 f_MOD_121 rfl (by decide) (Or.inl rfl) rfl (fu_M 0 26 _) ?_
        exact E_return d_MOD_branch_158 rfl rfl ⟨rfl, by rw [hq, brF_go (by decide) (by simp [bcd, hX]) c141]; rfl⟩
      · refine E_aload_n d_MOD_branch_144 rfl rfl ?_
        refine E_iconst (v := 0) d_MOD_branch_145 (by decide) ?_
        refine E_V1v d_MOD_branch_146 w_MOD_128 rfl (by decide) (Nat.le_of_ble_eq_true rfl) (c_MOD_fault hp hp8 hm hm9) ?_
        rintro _ rfl
        refine E_goto (tgt := 158) d_MOD_branch_149 (by decide) ?_
        exact E_return d_MOD_branch_158 rfl rfl ⟨rfl, by rw [hq, brF_ft (by decide) (by simp [bcd, hX]) c141]⟩
    · have hX := b2i_eq0 c87
      exact E_return d_MOD_branch_90 rfl rfl ⟨rfl, by rw [hq, brF_no (by decide) (by simp [bcd, hX])]⟩
  · refine E_iload_n d_MOD_branch_19 rfl ?_
    refine E_iconst (v := 2) d_MOD_branch_20 (by decide) ?_
    refine E_icmp_eq (tgt := 29) d_MOD_branch_21 (by decide) (fun c => absurd c (by decide)) (fun _ => ?_)
    refine E_iload_n d_MOD_branch_24 rfl ?_
    refine E_iconst (v := 3) d_MOD_branch_25 (by decide) ?_
    refine E_icmp_ne (tgt := 35) d_MOD_branch_26 (by decide) (fun _ => ?_) (fun c => absurd c (by decide))
    refine E_iload_n d_MOD_branch_35 rfl ?_
    refine E_iconst (v := 2) d_MOD_branch_36 (by decide) ?_
    refine E_icmp_ge (tgt := 54) d_MOD_branch_37 (by decide) (fun _ => ?_) (fun c => absurd (by decide) c)
    refine E_iload_n d_MOD_branch_54 rfl ?_
    refine E_iload d_MOD_branch_55 rfl ?_
    refine E_iload_n d_MOD_branch_57 rfl ?_
    refine E_bipush (v := 6) d_MOD_branch_58 (by decide) ?_
    refine E_icmp_ge (tgt := 67) d_MOD_branch_60 (by decide) (fun c => absurd c (by decide)) (fun _ => ?_)
    refine E_iconst (v := 1) d_MOD_branch_63 (by decide) ?_
    refine E_goto (tgt := 68) d_MOD_branch_64 (by decide) ?_
    refine E_S3i d_MOD_branch_68 w_MOD_164 (by decide) (Nat.le_of_ble_eq_true rfl) (c_MOD_less (sg := true)) ?_
    rintro _ _ ⟨rfl, rfl⟩
    refine E_istore d_MOD_branch_71 (by decide) ?_
    refine E_iload d_MOD_branch_73 rfl ?_
    refine E_iload_n d_MOD_branch_75 rfl ?_
    refine E_iconst (v := 2) d_MOD_branch_76 (by decide) ?_
    refine E_irem d_MOD_branch_77 (by decide) ?_
    refine E_tp (y := 1) (by decide) ?_
    refine E_iconst (v := 1) d_MOD_branch_78 (by decide) ?_
    refine E_icmp_ne (tgt := 86) d_MOD_branch_79 (by decide) (fun c => absurd (by decide) c) (fun _ => ?_)
    refine E_iconst (v := 1) d_MOD_branch_82 (by decide) ?_
    refine E_goto (tgt := 87) d_MOD_branch_83 (by decide) ?_
    refine E_icmp_ne (tgt := 91) d_MOD_branch_87 (by decide) (fun c87 => ?_) (fun c87 => ?_)
    · have hX := b2i_ne1 c87
      refine E_iload_n d_MOD_branch_91 rfl ?_
      refine E_aload_n d_MOD_branch_92 rfl rfl ?_
      refine L_gi d_MOD_branch_93 f_MOD_107 rfl (by decide) rfl (fr_M 0 25) ?_
      refine E_bipush (v := 31) d_MOD_branch_96 (by decide) ?_
      refine E_ishr d_MOD_branch_98 ?_
      refine E_bipush (v := 12) d_MOD_branch_99 (by decide) ?_
      refine E_ishl d_MOD_branch_101 ?_
      refine E_aload_n d_MOD_branch_102 rfl rfl ?_
      refine E_bipush (v := 7) d_MOD_branch_103 (by decide) ?_
      refine E_iconst (v := 1) d_MOD_branch_105 (by decide) ?_
      refine E_V2i d_MOD_branch_106 w_MOD_110 rfl (by decide) (Nat.le_of_ble_eq_true rfl) (c_MOD_bits (a := 7) (k := 1) (by decide) (by decide) (by decide)) ?_
      rintro _ _ ⟨rfl, rfl⟩
      refine E_bipush (v := 11) d_MOD_branch_109 (by decide) ?_
      refine E_ishl d_MOD_branch_111 ?_
      refine E_ior d_MOD_branch_112 ?_
      refine E_aload_n d_MOD_branch_113 rfl rfl ?_
      refine E_bipush (v := 25) d_MOD_branch_114 (by decide) ?_
      refine E_bipush (v := 6) d_MOD_branch_116 (by decide) ?_
      refine E_V2i d_MOD_branch_118 w_MOD_110 rfl (by decide) (Nat.le_of_ble_eq_true rfl) (c_MOD_bits (a := 25) (k := 6) (by decide) (by decide) (by decide)) ?_
      rintro _ _ ⟨rfl, rfl⟩
      refine E_iconst (v := 5) d_MOD_branch_121 (by decide) ?_
      refine E_ishl d_MOD_branch_122 ?_
      refine E_ior d_MOD_branch_123 ?_
      refine E_aload_n d_MOD_branch_124 rfl rfl ?_
      refine E_bipush (v := 8) d_MOD_branch_125 (by decide) ?_
      refine E_iconst (v := 4) d_MOD_branch_127 (by decide) ?_
      refine E_V2i d_MOD_branch_128 w_MOD_110 rfl (by decide) (Nat.le_of_ble_eq_true rfl) (c_MOD_bits (a := 8) (k := 4) (by decide) (by decide) (by decide)) ?_
      rintro _ _ ⟨rfl, rfl⟩
      refine E_iconst (v := 1) d_MOD_branch_131 (by decide) ?_
      refine E_ishl d_MOD_branch_132 ?_
      refine E_ior d_MOD_branch_133 ?_
      refine E_iadd d_MOD_branch_134 ?_
      refine E_istore d_MOD_branch_135 (by decide) ?_
      refine E_iload d_MOD_branch_137 rfl ?_
      refine E_iconst (v := 4) d_MOD_branch_139 (by decide) ?_
      refine E_irem d_MOD_branch_140 (by decide) ?_
      refine E_if_eq (tgt := 152) d_MOD_branch_141 (by decide) (fun c141 => ?_) (fun c141 => ?_)
      · refine E_aload_n d_MOD_branch_152 rfl rfl ?_
        refine E_iload d_MOD_branch_153 rfl ?_
        refine L_pi d_MOD_branch_155 f_MOD_121 rfl (by decide) (Or.inl rfl) rfl (fu_M 0 26 _) ?_
        exact E_return d_MOD_branch_158 rfl rfl ⟨rfl, by rw [hq, brF_go (by decide) (by simp [bcd, hX]) c141]; rfl⟩
      · refine E_aload_n d_MOD_branch_144 rfl rfl ?_
        refine E_iconst (v := 0) d_MOD_branch_145 (by decide) ?_
        refine E_V1v d_MOD_branch_146 w_MOD_128 rfl (by decide) (Nat.le_of_ble_eq_true rfl) (c_MOD_fault hp hp8 hm hm9) ?_
        rintro _ rfl
        refine E_goto (tgt := 158) d_MOD_branch_149 (by decide) ?_
        exact E_return d_MOD_branch_158 rfl rfl ⟨rfl, by rw [hq, brF_ft (by decide) (by simp [bcd, hX]) c141]⟩
    · have hX := b2i_eq1 c87
      exact E_return d_MOD_branch_90 rfl rfl ⟨rfl, by rw [hq, brF_no (by decide) (by simp [bcd, hX])]⟩
  · refine E_iload_n d_MOD_branch_19 rfl ?_
    refine E_iconst (v := 2) d_MOD_branch_20 (by decide) ?_
    refine E_icmp_eq (tgt := 29) d_MOD_branch_21 (by decide) (fun c => absurd c (by decide)) (fun _ => ?_)
    refine E_iload_n d_MOD_branch_24 rfl ?_
    refine E_iconst (v := 3) d_MOD_branch_25 (by decide) ?_
    refine E_icmp_ne (tgt := 35) d_MOD_branch_26 (by decide) (fun _ => ?_) (fun c => absurd c (by decide))
    refine E_iload_n d_MOD_branch_35 rfl ?_
    refine E_iconst (v := 2) d_MOD_branch_36 (by decide) ?_
    refine E_icmp_ge (tgt := 54) d_MOD_branch_37 (by decide) (fun _ => ?_) (fun c => absurd (by decide) c)
    refine E_iload_n d_MOD_branch_54 rfl ?_
    refine E_iload d_MOD_branch_55 rfl ?_
    refine E_iload_n d_MOD_branch_57 rfl ?_
    refine E_bipush (v := 6) d_MOD_branch_58 (by decide) ?_
    refine E_icmp_ge (tgt := 67) d_MOD_branch_60 (by decide) (fun _ => ?_) (fun c => absurd (by decide) c)
    refine E_iconst (v := 0) d_MOD_branch_67 (by decide) ?_
    refine E_S3i d_MOD_branch_68 w_MOD_164 (by decide) (Nat.le_of_ble_eq_true rfl) (c_MOD_less (sg := false)) ?_
    rintro _ _ ⟨rfl, rfl⟩
    refine E_istore d_MOD_branch_71 (by decide) ?_
    refine E_iload d_MOD_branch_73 rfl ?_
    refine E_iload_n d_MOD_branch_75 rfl ?_
    refine E_iconst (v := 2) d_MOD_branch_76 (by decide) ?_
    refine E_irem d_MOD_branch_77 (by decide) ?_
    refine E_tp (y := 0) (by decide) ?_
    refine E_iconst (v := 1) d_MOD_branch_78 (by decide) ?_
    refine E_icmp_ne (tgt := 86) d_MOD_branch_79 (by decide) (fun _ => ?_) (fun c => absurd c (by decide))
    refine E_iconst (v := 0) d_MOD_branch_86 (by decide) ?_
    refine E_icmp_ne (tgt := 91) d_MOD_branch_87 (by decide) (fun c87 => ?_) (fun c87 => ?_)
    · have hX := b2i_ne0 c87
      refine E_iload_n d_MOD_branch_91 rfl ?_
      refine E_aload_n d_MOD_branch_92 rfl rfl ?_
      refine L_gi d_MOD_branch_93 f_MOD_107 rfl (by decide) rfl (fr_M 0 25) ?_
      refine E_bipush (v := 31) d_MOD_branch_96 (by decide) ?_
      refine E_ishr d_MOD_branch_98 ?_
      refine E_bipush (v := 12) d_MOD_branch_99 (by decide) ?_
      refine E_ishl d_MOD_branch_101 ?_
      refine E_aload_n d_MOD_branch_102 rfl rfl ?_
      refine E_bipush (v := 7) d_MOD_branch_103 (by decide) ?_
      refine E_iconst (v := 1) d_MOD_branch_105 (by decide) ?_
      refine E_V2i d_MOD_branch_106 w_MOD_110 rfl (by decide) (Nat.le_of_ble_eq_true rfl) (c_MOD_bits (a := 7) (k := 1) (by decide) (by decide) (by decide)) ?_
      rintro _ _ ⟨rfl, rfl⟩
      refine E_bipush (v := 11) d_MOD_branch_109 (by decide) ?_
      refine E_ishl d_MOD_branch_111 ?_
      refine E_ior d_MOD_branch_112 ?_
      refine E_aload_n d_MOD_branch_113 rfl rfl ?_
      refine E_bipush (v := 25) d_MOD_branch_114 (by decide) ?_
      refine E_bipush (v := 6) d_MOD_branch_116 (by decide) ?_
      refine E_V2i d_MOD_branch_118 w_MOD_110 rfl (by decide) (Nat.le_of_ble_eq_true rfl) (c_MOD_bits (a := 25) (k := 6) (by decide) (by decide) (by decide)) ?_
      rintro _ _ ⟨rfl, rfl⟩
      refine E_iconst (v := 5) d_MOD_branch_121 (by decide) ?_
      refine E_ishl d_MOD_branch_122 ?_
      refine E_ior d_MOD_branch_123 ?_
      refine E_aload_n d_MOD_branch_124 rfl rfl ?_
      refine E_bipush (v := 8) d_MOD_branch_125 (by decide) ?_
      refine E_iconst (v := 4) d_MOD_branch_127 (by decide) ?_
      refine E_V2i d_MOD_branch_128 w_MOD_110 rfl (by decide) (Nat.le_of_ble_eq_true rfl) (c_MOD_bits (a := 8) (k := 4) (by decide) (by decide) (by decide)) ?_
      rintro _ _ ⟨rfl, rfl⟩
      refine E_iconst (v := 1) d_MOD_branch_131 (by decide) ?_
      refine E_ishl d_MOD_branch_132 ?_
      refine E_ior d_MOD_branch_133 ?_
      refine E_iadd d_MOD_branch_134 ?_
      refine E_istore d_MOD_branch_135 (by decide) ?_
      refine E_iload d_MOD_branch_137 rfl ?_
      refine E_iconst (v := 4) d_MOD_branch_139 (by decide) ?_
      refine E_irem d_MOD_branch_140 (by decide) ?_
      refine E_if_eq (tgt := 152) d_MOD_branch_141 (by decide) (fun c141 => ?_) (fun c141 => ?_)
      · refine E_aload_n d_MOD_branch_152 rfl rfl ?_
        refine E_iload d_MOD_branch_153 rfl ?_
        refine L_pi d_MOD_branch_155 f_MOD_121 rfl (by decide) (Or.inl rfl) rfl (fu_M 0 26 _) ?_
        exact E_return d_MOD_branch_158 rfl rfl ⟨rfl, by rw [hq, brF_go (by decide) (by simp [bcd, hX]) c141]; rfl⟩
      · refine E_aload_n d_MOD_branch_144 rfl rfl ?_
        refine E_iconst (v := 0) d_MOD_branch_145 (by decide) ?_
        refine E_V1v d_MOD_branch_146 w_MOD_128 rfl (by decide) (Nat.le_of_ble_eq_true rfl) (c_MOD_fault hp hp8 hm hm9) ?_
        rintro _ rfl
        refine E_goto (tgt := 158) d_MOD_branch_149 (by decide) ?_
        exact E_return d_MOD_branch_158 rfl rfl ⟨rfl, by rw [hq, brF_ft (by decide) (by simp [bcd, hX]) c141]⟩
    · have hX := b2i_eq0 c87
      exact E_return d_MOD_branch_90 rfl rfl ⟨rfl, by rw [hq, brF_no (by decide) (by simp [bcd, hX])]⟩
  · refine E_iload_n d_MOD_branch_19 rfl ?_
    refine E_iconst (v := 2) d_MOD_branch_20 (by decide) ?_
    refine E_icmp_eq (tgt := 29) d_MOD_branch_21 (by decide) (fun c => absurd c (by decide)) (fun _ => ?_)
    refine E_iload_n d_MOD_branch_24 rfl ?_
    refine E_iconst (v := 3) d_MOD_branch_25 (by decide) ?_
    refine E_icmp_ne (tgt := 35) d_MOD_branch_26 (by decide) (fun _ => ?_) (fun c => absurd c (by decide))
    refine E_iload_n d_MOD_branch_35 rfl ?_
    refine E_iconst (v := 2) d_MOD_branch_36 (by decide) ?_
    refine E_icmp_ge (tgt := 54) d_MOD_branch_37 (by decide) (fun _ => ?_) (fun c => absurd (by decide) c)
    refine E_iload_n d_MOD_branch_54 rfl ?_
    refine E_iload d_MOD_branch_55 rfl ?_
    refine E_iload_n d_MOD_branch_57 rfl ?_
    refine E_bipush (v := 6) d_MOD_branch_58 (by decide) ?_
    refine E_icmp_ge (tgt := 67) d_MOD_branch_60 (by decide) (fun _ => ?_) (fun c => absurd (by decide) c)
    refine E_iconst (v := 0) d_MOD_branch_67 (by decide) ?_
    refine E_S3i d_MOD_branch_68 w_MOD_164 (by decide) (Nat.le_of_ble_eq_true rfl) (c_MOD_less (sg := false)) ?_
    rintro _ _ ⟨rfl, rfl⟩
    refine E_istore d_MOD_branch_71 (by decide) ?_
    refine E_iload d_MOD_branch_73 rfl ?_
    refine E_iload_n d_MOD_branch_75 rfl ?_
    refine E_iconst (v := 2) d_MOD_branch_76 (by decide) ?_
    refine E_irem d_MOD_branch_77 (by decide) ?_
    refine E_tp (y := 1) (by decide) ?_
    refine E_iconst (v := 1) d_MOD_branch_78 (by decide) ?_
    refine E_icmp_ne (tgt := 86) d_MOD_branch_79 (by decide) (fun c => absurd (by decide) c) (fun _ => ?_)
    refine E_iconst (v := 1) d_MOD_branch_82 (by decide) ?_
    refine E_goto (tgt := 87) d_MOD_branch_83 (by decide) ?_
    refine E_icmp_ne (tgt := 91) d_MOD_branch_87 (by decide) (fun c87 => ?_) (fun c87 => ?_)
    · have hX := b2i_ne1 c87
      refine E_iload_n d_MOD_branch_91 rfl ?_
      refine E_aload_n d_MOD_branch_92 rfl rfl ?_
      refine L_gi d_MOD_branch_93 f_MOD_107 rfl (by decide) rfl (fr_M 0 25) ?_
      refine E_bipush (v := 31) d_MOD_branch_96 (by decide) ?_
      refine E_ishr d_MOD_branch_98 ?_
      refine E_bipush (v := 12) d_MOD_branch_99 (by decide) ?_
      refine E_ishl d_MOD_branch_101 ?_
      refine E_aload_n d_MOD_branch_102 rfl rfl ?_
      refine E_bipush (v := 7) d_MOD_branch_103 (by decide) ?_
      refine E_iconst (v := 1) d_MOD_branch_105 (by decide) ?_
      refine E_V2i d_MOD_branch_106 w_MOD_110 rfl (by decide) (Nat.le_of_ble_eq_true rfl) (c_MOD_bits (a := 7) (k := 1) (by decide) (by decide) (by decide)) ?_
      rintro _ _ ⟨rfl, rfl⟩
      refine E_bipush (v := 11) d_MOD_branch_109 (by decide) ?_
      refine E_ishl d_MOD_branch_111 ?_
      refine E_ior d_MOD_branch_112 ?_
      refine E_aload_n d_MOD_branch_113 rfl rfl ?_
      refine E_bipush (v := 25) d_MOD_branch_114 (by decide) ?_
      refine E_bipush (v := 6) d_MOD_branch_116 (by decide) ?_
      refine E_V2i d_MOD_branch_118 w_MOD_110 rfl (by decide) (Nat.le_of_ble_eq_true rfl) (c_MOD_bits (a := 25) (k := 6) (by decide) (by decide) (by decide)) ?_
      rintro _ _ ⟨rfl, rfl⟩
      refine E_iconst (v := 5) d_MOD_branch_121 (by decide) ?_
      refine E_ishl d_MOD_branch_122 ?_
      refine E_ior d_MOD_branch_123 ?_
      refine E_aload_n d_MOD_branch_124 rfl rfl ?_
      refine E_bipush (v := 8) d_MOD_branch_125 (by decide) ?_
      refine E_iconst (v := 4) d_MOD_branch_127 (by decide) ?_
      refine E_V2i d_MOD_branch_128 w_MOD_110 rfl (by decide) (Nat.le_of_ble_eq_true rfl) (c_MOD_bits (a := 8) (k := 4) (by decide) (by decide) (by decide)) ?_
      rintro _ _ ⟨rfl, rfl⟩
      refine E_iconst (v := 1) d_MOD_branch_131 (by decide) ?_
      refine E_ishl d_MOD_branch_132 ?_
      refine E_ior d_MOD_branch_133 ?_
      refine E_iadd d_MOD_branch_134 ?_
      refine E_istore d_MOD_branch_135 (by decide) ?_
      refine E_iload d_MOD_branch_137 rfl ?_
      refine E_iconst (v := 4) d_MOD_branch_139 (by decide) ?_
      refine E_irem d_MOD_branch_140 (by decide) ?_
      refine E_if_eq (tgt := 152) d_MOD_branch_141 (by decide) (fun c141 => ?_) (fun c141 => ?_)
      · refine E_aload_n d_MOD_branch_152 rfl rfl ?_
        refine E_iload d_MOD_branch_153 rfl ?_
        refine L_pi d_MOD_branch_155 f_MOD_121 rfl (by decide) (Or.inl rfl) rfl (fu_M 0 26 _) ?_
        exact E_return d_MOD_branch_158 rfl rfl ⟨rfl, by rw [hq, brF_go (by decide) (by simp [bcd, hX]) c141]; rfl⟩
      · refine E_aload_n d_MOD_branch_144 rfl rfl ?_
        refine E_iconst (v := 0) d_MOD_branch_145 (by decide) ?_
        refine E_V1v d_MOD_branch_146 w_MOD_128 rfl (by decide) (Nat.le_of_ble_eq_true rfl) (c_MOD_fault hp hp8 hm hm9) ?_
        rintro _ rfl
        refine E_goto (tgt := 158) d_MOD_branch_149 (by decide) ?_
        exact E_return d_MOD_branch_158 rfl rfl ⟨rfl, by rw [hq, brF_ft (by decide) (by simp [bcd, hX]) c141]⟩
    · have hX := b2i_eq1 c87
      exact E_return d_MOD_branch_90 rfl rfl ⟨rfl, by rw [hq, brF_no (by decide) (by simp [bcd, hX])]⟩

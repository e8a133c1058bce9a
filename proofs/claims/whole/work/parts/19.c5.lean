/-! ===== the reference's read and write ===== -/
theorem c_byteAt {G : iG} {F : Nat} {C M : Nat → Nat → Int32} {p s a : Nat} (hp : p ≤ 8) (hs : s ≤ 8) (ha : a < 64 * s) (hpg : pgs M p s) : MI G m_MOD_byteAt 1 [vR 50, vI (nI p), vI (nI a)] (HW F C M) (fun x h' => x = byt M p a ∧ h' = HW F C M) := by
  obtain ⟨f, hf40, hf⟩ := hpg (a / 64) (by omega)
  have e : byt M p a = (M 1 (16 * f + a % 64 / 4) >>> (nI (8 * (a % 4)) &&& 31)) &&& 255 := by rw [byt, cel, hf, nv_nI (by omega)]
  rw [e]
  exact c_MOD_byteAt hp hs ha hf hf40
theorem c_putByte {G : iG} {F : Nat} {C M : Nat → Nat → Int32} {p s a : Nat} {b : Int32} (hp : p ≤ 8) (hs : s ≤ 8) (ha : a < 64 * s) (hpg : pgs M p s) : MV G m_MOD_putByte 1 [vR 50, vI (nI p), vI (nI a), vI b] (HW F C M) (fun h' => h' = HW F C (pbM M p a b)) := by
  obtain ⟨f, hf40, hf⟩ := hpg (a / 64) (by omega)
  have e : cel M p a = 16 * f + a % 64 / 4 := by rw [cel, hf, nv_nI (by omega)]
  rw [pbM, e]
  exact c_MOD_putByte hp hs ha hf hf40
theorem c_MOD_read {G : iG} {F : Nat} {C M : Nat → Nat → Int32} {p m s : Nat} (hp : M 0 24 = nI p) (hp8 : p ≤ 8) (hm : M 0 15 = nI m) (hm9 : m ≤ 9) (hs : M 8 p = nI s) (hs8 : s ≤ 8) (hpg : pgs M p s) (hgo : M 0 27 = 1) : MV G m_MOD_read 5 [vR 50] (HW F C M) (fun h' => h' = HW F C (redM M p s m)) := by
  refine Mt.of' (Ls := [some (vR 50), none, none, none, none, none]) (by decide) (by simp [ct]) (Nat.le_of_ble_eq_true rfl) rfl ?_
  obtain ⟨f, hf⟩ : ∃ f, f = bf (M 0 25) 12 3 := ⟨_, rfl⟩
  have hf8 : f < 8 := by rw [hf]; exact bf_lt _ _ 3
  obtain ⟨a, ea⟩ : ∃ a, a = adr M p := ⟨_, rfl⟩
  refine E_aload_n d_MOD_read_0 rfl rfl ?_
  refine E_bipush (v := 12) d_MOD_read_1 (by decide) ?_
  refine E_iconst (v := 3) d_MOD_read_3 (by decide) ?_
  refine E_V2i d_MOD_read_4 w_MOD_110 rfl (by decide) (Nat.le_of_ble_eq_true rfl) (c_MOD_bits (a := 12) (k := 3) (by decide) (by decide) (by decide)) ?_
  rintro _ _ ⟨rfl, rfl⟩
  rw [← hf]
  refine E_istore_n d_MOD_read_7 (by decide) ?_
  refine E_aload_n d_MOD_read_8 rfl rfl ?_
  refine E_V0i d_MOD_read_9 w_MOD_141 rfl (by decide) (Nat.le_of_ble_eq_true rfl) (c_MOD_s hp hp8) ?_
  rintro _ _ ⟨rfl, rfl⟩
  refine E_aload_n d_MOD_read_12 rfl rfl ?_
  refine L_gi d_MOD_read_13 f_MOD_107 rfl (by decide) rfl (fr_M 0 25) ?_
  refine E_bipush (v := 20) d_MOD_read_16 (by decide) ?_
  refine E_ishr d_MOD_read_18 ?_
  refine E_iadd d_MOD_read_19 ?_
  refine E_tp (y := a) ea.symm ?_
  refine E_istore_n d_MOD_read_20 (by decide) ?_
  rcases (show f = 0 ∨ f = 1 ∨ f = 2 ∨ f = 3 ∨ f = 4 ∨ f = 5 ∨ f = 6 ∨ f = 7 by omega) with rfl | rfl | rfl | rfl | rfl | rfl | rfl | rfl
  · refine E_iload_n d_MOD_read_21 rfl ?_
    refine E_iconst (v := 4) d_MOD_read_22 (by decide) ?_
    refine E_irem d_MOD_read_23 (by decide) ?_
    refine E_tp (y := 0) (by decide) ?_
    refine E_if_ne (tgt := 31) d_MOD_read_24 (by decide) (fun c => absurd (by decide) c) (fun _ => ?_)
    refine E_iconst (v := 1) d_MOD_read_27 (by decide) ?_
    refine E_goto (tgt := 43) d_MOD_read_28 (by decide) ?_
    refine E_istore_n d_MOD_read_43 (by decide) ?_
    refine E_iload_n d_MOD_read_44 rfl ?_
    refine E_iconst (v := 3) d_MOD_read_45 (by decide) ?_
    refine E_icmp_eq (tgt := 54) d_MOD_read_46 (by decide) (fun c => absurd c (by decide)) (fun _ => ?_)
    refine E_iload_n d_MOD_read_49 rfl ?_
    refine E_iconst (v := 5) d_MOD_read_50 (by decide) ?_
    refine E_icmp_le (tgt := 60) d_MOD_read_51 (by decide) (fun _ => ?_) (fun c => absurd (by decide) c)
    by_cases hok : okA a 1 s
    · have er : rchM M p a 1 4 s m = M := rch_ok (n := 1) hok
      obtain ⟨b, hb, eb, hal⟩ := okA_of hok (by decide) (by decide) hs8
      subst eb
      refine E_aload_n d_MOD_read_60 rfl rfl ?_
      refine E_iload_n d_MOD_read_61 rfl ?_
      refine E_iload_n d_MOD_read_62 rfl ?_
      refine E_iconst (v := 4) d_MOD_read_63 (by decide) ?_
      refine E_V3i d_MOD_read_64 w_MOD_168 rfl (by decide) (Nat.le_of_ble_eq_true rfl) (c_MOD_reach hp hp8 hm hm9 hs (by decide) hgo) ?_
      rintro _ _ ⟨rfl, rfl⟩
      rw [er]
      refine E_tp (y := nI (1)) hgo ?_
      refine E_if_ne (tgt := 71) d_MOD_read_67 (by decide) (fun _ => ?_) (fun c => absurd c (by decide))
      refine E_iconst (v := 0) d_MOD_read_71 (by decide) ?_
      refine E_istore d_MOD_read_72 (by decide) ?_
      refine E_iload_n d_MOD_read_74 rfl ?_
      refine E_iconst (v := 1) d_MOD_read_75 (by decide) ?_
      refine E_isub d_MOD_read_76 ?_
      refine E_tp (y := 0) (by decide) ?_
      refine E_istore d_MOD_read_77 (by decide) ?_
      refine E_iload d_MOD_read_79 rfl ?_
      refine E_if_lt (tgt := 110) d_MOD_read_81 (by decide) (fun c => absurd c (by decide)) (fun _ => ?_)
      refine E_iload d_MOD_read_84 rfl ?_
      refine E_bipush (v := 8) d_MOD_read_86 (by decide) ?_
      refine E_ishl d_MOD_read_88 ?_
      refine E_aload_n d_MOD_read_89 rfl rfl ?_
      refine E_aload_n d_MOD_read_90 rfl rfl ?_
      refine L_gi d_MOD_read_91 f_MOD_97 rfl (by decide) rfl (fr_M 0 24) ?_
      refine E_tp (y := nI (p)) hp ?_
      refine E_iload_n d_MOD_read_94 rfl ?_
      refine E_iload d_MOD_read_95 rfl ?_
      refine E_iadd d_MOD_read_97 ?_
      refine E_tp (y := nI (b + 0)) (nI_add b 0) ?_
      refine E_V2i d_MOD_read_98 w_MOD_172 rfl (by decide) (Nat.le_of_ble_eq_true rfl) (c_byteAt hp8 hs8 (by omega) hpg) ?_
      rintro _ _ ⟨rfl, rfl⟩
      refine E_ior d_MOD_read_101 ?_
      refine E_istore d_MOD_read_102 (by decide) ?_
      refine E_iinc (v := -1) d_MOD_read_104 rfl (by decide) (by decide) ?_
      refine E_goto (tgt := 79) d_MOD_read_107 (by decide) ?_
      refine E_iload d_MOD_read_79 rfl ?_
      refine E_if_lt (tgt := 110) d_MOD_read_81 (by decide) (fun _ => ?_) (fun c => absurd (by decide) c)
      refine E_bipush (v := 32) d_MOD_read_110 (by decide) ?_
      refine E_bipush (v := 8) d_MOD_read_112 (by decide) ?_
      refine E_iload_n d_MOD_read_114 rfl ?_
      refine E_imul d_MOD_read_115 ?_
      refine E_tp (y := nI (8)) (pk_mul 8 1) ?_
      refine E_isub d_MOD_read_116 ?_
      refine E_tp (y := 24) (by decide) ?_
      refine E_istore d_MOD_read_117 (by decide) ?_
      refine E_aload_n d_MOD_read_119 rfl rfl ?_
      refine E_aload_n d_MOD_read_120 rfl rfl ?_
      refine E_V0i d_MOD_read_121 w_MOD_131 rfl (by decide) (Nat.le_of_ble_eq_true rfl) (c_MOD_d) ?_
      rintro _ _ ⟨rfl, rfl⟩
      refine E_iload_n d_MOD_read_124 rfl ?_
      refine E_iconst (v := 3) d_MOD_read_125 (by decide) ?_
      refine E_icmp_ge (tgt := 140) d_MOD_read_126 (by decide) (fun c => absurd c (by decide)) (fun _ => ?_)
      refine E_iload d_MOD_read_129 rfl ?_
      refine E_iload d_MOD_read_131 rfl ?_
      refine E_ishl d_MOD_read_133 ?_
      refine E_iload d_MOD_read_134 rfl ?_
      refine E_ishr d_MOD_read_136 ?_
      refine E_goto (tgt := 142) d_MOD_read_137 (by decide) ?_
      refine E_V2v d_MOD_read_142 w_MOD_135 rfl (by decide) (Nat.le_of_ble_eq_true rfl) (c_MOD_set hp hp8 (bf_lt _ _ 5)) ?_
      rintro _ rfl
      exact E_return d_MOD_read_145 rfl rfl ⟨rfl, by rw [redM, ← hf, ← ea, show nof 0 = 1 from rfl, redF_ok (by decide) hok, nv_nI (by omega)]; rfl⟩
    · have er : rchM M p a 1 4 s m 0 27 = 0 := rch_no (n := 1) hok hp
      refine E_aload_n d_MOD_read_60 rfl rfl ?_
      refine E_iload_n d_MOD_read_61 rfl ?_
      refine E_iload_n d_MOD_read_62 rfl ?_
      refine E_iconst (v := 4) d_MOD_read_63 (by decide) ?_
      refine E_V3i d_MOD_read_64 w_MOD_168 rfl (by decide) (Nat.le_of_ble_eq_true rfl) (c_MOD_reach hp hp8 hm hm9 hs (by decide) hgo) ?_
      rintro _ _ ⟨rfl, rfl⟩
      refine E_tp (y := nI (0)) er ?_
      refine E_if_ne (tgt := 71) d_MOD_read_67 (by decide) (fun c => absurd (by decide) c) (fun _ => ?_)
      exact E_return d_MOD_read_70 rfl rfl ⟨rfl, by rw [redM, ← hf, ← ea, show nof 0 = 1 from rfl, redF_no (by decide) hok]; rfl⟩
  · refine E_iload_n d_MOD_read_21 rfl ?_
    refine E_iconst (v := 4) d_MOD_read_22 (by decide) ?_
    refine E_irem d_MOD_read_23 (by decide) ?_
    refine E_tp (y := 1) (by decide) ?_
    refine E_if_ne (tgt := 31) d_MOD_read_24 (by decide) (fun _ => ?_) (fun c => absurd c (by decide))
    refine E_iload_n d_MOD_read_31 rfl ?_
    refine E_iconst (v := 4) d_MOD_read_32 (by decide) ?_
    refine E_irem d_MOD_read_33 (by decide) ?_
    refine E_tp (y := 1) (by decide) ?_
    refine E_iconst (v := 1) d_MOD_read_34 (by decide) ?_
    refine E_icmp_ne (tgt := 42) d_MOD_read_35 (by decide) (fun c => absurd (by decide) c) (fun _ => ?_)
    refine E_iconst (v := 2) d_MOD_read_38 (by decide) ?_
    refine E_goto (tgt := 43) d_MOD_read_39 (by decide) ?_
    refine E_istore_n d_MOD_read_43 (by decide) ?_
    refine E_iload_n d_MOD_read_44 rfl ?_
    refine E_iconst (v := 3) d_MOD_read_45 (by decide) ?_
    refine E_icmp_eq (tgt := 54) d_MOD_read_46 (by decide) (fun c => absurd c (by decide)) (fun _ => ?_)
    refine E_iload_n d_MOD_read_49 rfl ?_
    refine E_iconst (v := 5) d_MOD_read_50 (by decide) ?_
    refine E_icmp_le (tgt := 60) d_MOD_read_51 (by decide) (fun _ => ?_) (fun c => absurd (by decide) c)
    by_cases hok : okA a 2 s
    · have er : rchM M p a 2 4 s m = M := rch_ok (n := 2) hok
      obtain ⟨b, hb, eb, hal⟩ := okA_of hok (by decide) (by decide) hs8
      subst eb
      refine E_aload_n d_MOD_read_60 rfl rfl ?_
      refine E_iload_n d_MOD_read_61 rfl ?_
      refine E_iload_n d_MOD_read_62 rfl ?_
      refine E_iconst (v := 4) d_MOD_read_63 (by decide) ?_
      refine E_V3i d_MOD_read_64 w_MOD_168 rfl (by decide) (Nat.le_of_ble_eq_true rfl) (c_MOD_reach hp hp8 hm hm9 hs (by decide) hgo) ?_
      rintro _ _ ⟨rfl, rfl⟩
      rw [er]
      refine E_tp (y := nI (1)) hgo ?_
      refine E_if_ne (tgt := 71) d_MOD_read_67 (by decide) (fun _ => ?_) (fun c => absurd c (by decide))
      refine E_iconst (v := 0) d_MOD_read_71 (by decide) ?_
      refine E_istore d_MOD_read_72 (by decide) ?_
      refine E_iload_n d_MOD_read_74 rfl ?_
      refine E_iconst (v := 1) d_MOD_read_75 (by decide) ?_
      refine E_isub d_MOD_read_76 ?_
      refine E_tp (y := 1) (by decide) ?_
      refine E_istore d_MOD_read_77 (by decide) ?_
      refine E_iload d_MOD_read_79 rfl ?_
      refine E_if_lt (tgt := 110) d_MOD_read_81 (by decide) (fun c => absurd c (by decide)) (fun _ => ?_)
      refine E_iload d_MOD_read_84 rfl ?_
      refine E_bipush (v := 8) d_MOD_read_86 (by decide) ?_
      refine E_ishl d_MOD_read_88 ?_
      refine E_aload_n d_MOD_read_89 rfl rfl ?_
      refine E_aload_n d_MOD_read_90 rfl rfl ?_
      refine L_gi d_MOD_read_91 f_MOD_97 rfl (by decide) rfl (fr_M 0 24) ?_
      refine E_tp (y := nI (p)) hp ?_
      refine E_iload_n d_MOD_read_94 rfl ?_
      refine E_iload d_MOD_read_95 rfl ?_
      refine E_iadd d_MOD_read_97 ?_
      refine E_tp (y := nI (b + 1)) (nI_add b 1) ?_
      refine E_V2i d_MOD_read_98 w_MOD_172 rfl (by decide) (Nat.le_of_ble_eq_true rfl) (c_byteAt hp8 hs8 (by omega) hpg) ?_
      rintro _ _ ⟨rfl, rfl⟩
      refine E_ior d_MOD_read_101 ?_
      refine E_istore d_MOD_read_102 (by decide) ?_
      refine E_iinc (v := 0) d_MOD_read_104 rfl (by decide) (by decide) ?_
      refine E_goto (tgt := 79) d_MOD_read_107 (by decide) ?_
      refine E_iload d_MOD_read_79 rfl ?_
      refine E_if_lt (tgt := 110) d_MOD_read_81 (by decide) (fun c => absurd c (by decide)) (fun _ => ?_)
      refine E_iload d_MOD_read_84 rfl ?_
      refine E_bipush (v := 8) d_MOD_read_86 (by decide) ?_
      refine E_ishl d_MOD_read_88 ?_
      refine E_aload_n d_MOD_read_89 rfl rfl ?_
      refine E_aload_n d_MOD_read_90 rfl rfl ?_
      refine L_gi d_MOD_read_91 f_MOD_97 rfl (by decide) rfl (fr_M 0 24) ?_
      refine E_tp (y := nI (p)) hp ?_
      refine E_iload_n d_MOD_read_94 rfl ?_
      refine E_iload d_MOD_read_95 rfl ?_
      refine E_iadd d_MOD_read_97 ?_
      refine E_tp (y := nI (b + 0)) (nI_add b 0) ?_
      refine E_V2i d_MOD_read_98 w_MOD_172 rfl (by decide) (Nat.le_of_ble_eq_true rfl) (c_byteAt hp8 hs8 (by omega) hpg) ?_
      rintro _ _ ⟨rfl, rfl⟩
      refine E_ior d_MOD_read_101 ?_
      refine E_istore d_MOD_read_102 (by decide) ?_
      refine E_iinc (v := -1) d_MOD_read_104 rfl (by decide) (by decide) ?_
      refine E_goto (tgt := 79) d_MOD_read_107 (by decide) ?_
      refine E_iload d_MOD_read_79 rfl ?_
      refine E_if_lt (tgt := 110) d_MOD_read_81 (by decide) (fun _ => ?_) (fun c => absurd (by decide) c)
      refine E_bipush (v := 32) d_MOD_read_110 (by decide) ?_
      refine E_bipush (v := 8) d_MOD_read_112 (by decide) ?_
      refine E_iload_n d_MOD_read_114 rfl ?_
      refine E_imul d_MOD_read_115 ?_
      refine E_tp (y := nI (16)) (pk_mul 8 2) ?_
      refine E_isub d_MOD_read_116 ?_
      refine E_tp (y := 16) (by decide) ?_
      refine E_istore d_MOD_read_117 (by decide) ?_
      refine E_aload_n d_MOD_read_119 rfl rfl ?_
      refine E_aload_n d_MOD_read_120 rfl rfl ?_
      refine E_V0i d_MOD_read_121 w_MOD_131 rfl (by decide) (Nat.le_of_ble_eq_true rfl) (c_MOD_d) ?_
      rintro _ _ ⟨rfl, rfl⟩
      refine E_iload_n d_MOD_read_124 rfl ?_
      refine E_iconst (v := 3) d_MOD_read_125 (by decide) ?_
      refine E_icmp_ge (tgt := 140) d_MOD_read_126 (by decide) (fun c => absurd c (by decide)) (fun _ => ?_)
      refine E_iload d_MOD_read_129 rfl ?_
      refine E_iload d_MOD_read_131 rfl ?_
      refine E_ishl d_MOD_read_133 ?_
      refine E_iload d_MOD_read_134 rfl ?_
      refine E_ishr d_MOD_read_136 ?_
      refine E_goto (tgt := 142) d_MOD_read_137 (by decide) ?_
      refine E_V2v d_MOD_read_142 w_MOD_135 rfl (by decide) (Nat.le_of_ble_eq_true rfl) (c_MOD_set hp hp8 (bf_lt _ _ 5)) ?_
      rintro _ rfl
      exact E_return d_MOD_read_145 rfl rfl ⟨rfl, by rw [redM, ← hf, ← ea, show nof 1 = 2 from rfl, redF_ok (by decide) hok, nv_nI (by omega)]; rfl⟩
    · have er : rchM M p a 2 4 s m 0 27 = 0 := rch_no (n := 2) hok hp
      refine E_aload_n d_MOD_read_60 rfl rfl ?_
      refine E_iload_n d_MOD_read_61 rfl ?_
      refine E_iload_n d_MOD_read_62 rfl ?_
      refine E_iconst (v := 4) d_MOD_read_63 (by decide) ?_
      refine E_V3i d_MOD_read_64 w_MOD_168 rfl (by decide) (Nat.le_of_ble_eq_true rfl) (c_MOD_reach hp hp8 hm hm9 hs (by decide) hgo) ?_
      rintro _ _ ⟨rfl, rfl⟩
      refine E_tp (y := nI (0)) er ?_
      refine E_if_ne (tgt := 71) d_MOD_read_67 (by decide) (fun c => absurd (by decide) c) (fun _ => ?_)
      exact E_return d_MOD_read_70 rfl rfl ⟨rfl, by rw [redM, ← hf, ← ea, show nof 1 = 2 from rfl, redF_no (by decide) hok]; rfl⟩
  · refine E_iload_n d_MOD_read_21 rfl ?_
    refine E_iconst (v := 4) d_MOD_read_22 (by decide) ?_
    refine E_irem d_MOD_read_23 (by decide) ?_
    refine E_tp (y := 2) (by decide) ?_
    refine E_if_ne (tgt := 31) d_MOD_read_24 (by decide) (fun _ => ?_) (fun c => absurd c (by decide))
    refine E_iload_n d_MOD_read_31 rfl ?_
    refine E_iconst (v := 4) d_MOD_read_32 (by decide) ?_
    refine E_irem d_MOD_read_33 (by decide) ?_
    refine E_tp (y := 2) (by decide) ?_
    refine E_iconst (v := 1) d_MOD_read_34 (by decide) ?_
    refine E_icmp_ne (tgt := 42) d_MOD_read_35 (by decide) (fun _ => ?_) (fun c => absurd c (by decide))
    refine E_iconst (v := 4) d_MOD_read_42 (by decide) ?_
    refine E_istore_n d_MOD_read_43 (by decide) ?_
    refine E_iload_n d_MOD_read_44 rfl ?_
    refine E_iconst (v := 3) d_MOD_read_45 (by decide) ?_
    refine E_icmp_eq (tgt := 54) d_MOD_read_46 (by decide) (fun c => absurd c (by decide)) (fun _ => ?_)
    refine E_iload_n d_MOD_read_49 rfl ?_
    refine E_iconst (v := 5) d_MOD_read_50 (by decide) ?_
    refine E_icmp_le (tgt := 60) d_MOD_read_51 (by decide) (fun _ => ?_) (fun c => absurd (by decide) c)
    by_cases hok : okA a 4 s
    · have er : rchM M p a 4 4 s m = M := rch_ok (n := 4) hok
      obtain ⟨b, hb, eb, hal⟩ := okA_of hok (by decide) (by decide) hs8
      subst eb
      refine E_aload_n d_MOD_read_60 rfl rfl ?_
      refine E_iload_n d_MOD_read_61 rfl ?_
      refine E_iload_n d_MOD_read_62 rfl ?_
      refine E_iconst (v := 4) d_MOD_read_63 (by decide) ?_
      refine E_V3i d_MOD_read_64 w_MOD_168 rfl (by decide) (Nat.le_of_ble_eq_true rfl) (c_MOD_reach hp hp8 hm hm9 hs (by decide) hgo) ?_
      rintro _ _ ⟨rfl, rfl⟩
      rw [er]
      refine E_tp (y := nI (1)) hgo ?_
      refine E_if_ne (tgt := 71) d_MOD_read_67 (by decide) (fun _ => ?_) (fun c => absurd c (by decide))
      refine E_iconst (v := 0) d_MOD_read_71 (by decide) ?_
      refine E_istore d_MOD_read_72 (by decide) ?_
      refine E_iload_n d_MOD_read_74 rfl ?_
      refine E_iconst (v := 1) d_MOD_read_75 (by decide) ?_
      refine E_isub d_MOD_read_76 ?_
      refine E_tp (y := 3) (by decide) ?_
      refine E_istore d_MOD_read_77 (by decide) ?_
      refine E_iload d_MOD_read_79 rfl ?_
      refine E_if_lt (tgt := 110) d_MOD_read_81 (by decide) (fun c => absurd c (by decide)) (fun _ => ?_)
      refine E_iload d_MOD_read_84 rfl ?_
      refine E_bipush (v := 8) d_MOD_read_86 (by decide) ?_
      refine E_ishl d_MOD_read_88 ?_
      refine E_aload_n d_MOD_read_89 rfl rfl ?_
      refine E_aload_n d_MOD_read_90 rfl rfl ?_
      refine L_gi d_MOD_read_91 f_MOD_97 rfl (by decide) rfl (fr_M 0 24) ?_
      refine E_tp (y := nI (p)) hp ?_
      refine E_iload_n d_MOD_read_94 rfl ?_
      refine E_iload d_MOD_read_95 rfl ?_
      refine E_iadd d_MOD_read_97 ?_
      refine E_tp (y := nI (b + 3)) (nI_add b 3) ?_
      refine E_V2i d_MOD_read_98 w_MOD_172 rfl (by decide) (Nat.le_of_ble_eq_true rfl) (c_byteAt hp8 hs8 (by omega) hpg) ?_
      rintro _ _ ⟨rfl, rfl⟩
      refine E_ior d_MOD_read_101 ?_
      refine E_istore d_MOD_read_102 (by decide) ?_
      refine E_iinc (v := 2) d_MOD_read_104 rfl (by decide) (by decide) ?_
      refine E_goto (tgt := 79) d_MOD_read_107 (by decide) ?_
      refine E_iload d_MOD_read_79 rfl ?_
      refine E_if_lt (tgt := 110) d_MOD_read_81 (by decide) (fun c => absurd c (by decide)) (fun _ => ?_)
      refine E_iload d_MOD_read_84 rfl ?_
      refine E_bipush (v := 8) d_MOD_read_86 (by decide) ?_
      refine E_ishl d_MOD_read_88 ?_
      refine E_aload_n d_MOD_read_89 rfl rfl ?_
      refine E_aload_n d_MOD_read_90 rfl rfl ?_
      refine L_gi d_MOD_read_91 f_MOD_97 rfl (by decide) rfl (fr_M 0 24) ?_
      refine E_tp (y := nI (p)) hp ?_
      refine E_iload_n d_MOD_read_94 rfl ?_
      refine E_iload d_MOD_read_95 rfl ?_
      refine E_iadd d_MOD_read_97 ?_
      refine E_tp (y := nI (b + 2)) (nI_add b 2) ?_
      refine E_V2i d_MOD_read_98 w_MOD_172 rfl (by decide) (Nat.le_of_ble_eq_true rfl) (c_byteAt hp8 hs8 (by omega) hpg) ?_
      rintro _ _ ⟨rfl, rfl⟩
      refine E_ior d_MOD_read_101 ?_
      refine E_istore d_MOD_read_102 (by decide) ?_
      refine E_iinc (v := 1) d_MOD_read_104 rfl (by decide) (by decide) ?_
      refine E_goto (tgt := 79) d_MOD_read_107 (by decide) ?_
      refine E_iload d_MOD_read_79 rfl ?_
      refine E_if_lt (tgt := 110) d_MOD_read_81 (by decide) (fun c => absurd c (by decide)) (fun _ => ?_)
      refine E_iload d_MOD_read_84 rfl ?_
      refine E_bipush (v := 8) d_MOD_read_86 (by decide) ?_
      refine E_ishl d_MOD_read_88 ?_
      refine E_aload_n d_MOD_read_89 rfl rfl ?_
      refine E_aload_n d_MOD_read_90 rfl rfl ?_
      refine L_gi d_MOD_read_91 f_MOD_97 rfl (by decide) rfl (fr_M 0 24) ?_
      refine E_tp (y := nI (p)) hp ?_
      refine E_iload_n d_MOD_read_94 rfl ?_
      refine E_iload d_MOD_read_95 rfl ?_
      refine E_iadd d_MOD_read_97 ?_
      refine E_tp (y := nI (b + 1)) (nI_add b 1) ?_
      refine E_V2i d_MOD_read_98 w_MOD_172 rfl (by decide) (Nat.le_of_ble_eq_true rfl) (c_byteAt hp8 hs8 (by omega) hpg) ?_
      rintro _ _ ⟨rfl, rfl⟩
      refine E_ior d_MOD_read_101 ?_
      refine E_istore d_MOD_read_102 (by decide) ?_
      refine E_iinc (v := 0) d_MOD_read_104 rfl (by decide) (by decide) ?_
      refine E_goto (tgt := 79) d_MOD_read_107 (by decide) ?_
      refine E_iload d_MOD_read_79 rfl ?_
      refine E_if_lt (tgt := 110) d_MOD_read_81 (by decide) (fun c => absurd c (by decide)) (fun _ => ?_)
      refine E_iload d_MOD_read_84 rfl ?_
      refine E_bipush (v := 8) d_MOD_read_86 (by decide) ?_
      refine E_ishl d_MOD_read_88 ?_
      refine E_aload_n d_MOD_read_89 rfl rfl ?_
      refine E_aload_n d_MOD_read_90 rfl rfl ?_
      refine L_gi d_MOD_read_91 f_MOD_97 rfl (by decide) rfl (fr_M 0 24) ?_
      refine E_tp (y := nI (p)) hp ?_
      refine E_iload_n d_MOD_read_94 rfl ?_
      refine E_iload d_MOD_read_95 rfl ?_
      refine E_iadd d_MOD_read_97 ?_
      refine E_tp (y := nI (b + 0)) (nI_add b 0) ?_
      refine E_V2i d_MOD_read_98 w_MOD_172 rfl (by decide) (Nat.le_of_ble_eq_true rfl) (c_byteAt hp8 hs8 (by omega) hpg) ?_
      rintro _ _ ⟨rfl, rfl⟩
      refine E_ior d_MOD_read_101 ?_
      refine E_istore d_MOD_read_102 (by decide) ?_
      refine E_iinc (v := -1) d_MOD_read_104 rfl (by decide) (by decide) ?_
      refine E_goto (tgt := 79) d_MOD_read_107 (by decide) ?_
      refine E_iload d_MOD_read_79 rfl ?_
      refine E_if_lt (tgt := 110) d_MOD_read_81 (by decide) (fun _ => ?_) (fun c => absurd (by decide) c)
      refine E_bipush (v := 32) d_MOD_read_110 (by decide) ?_
      refine E_bipush (v := 8) d_MOD_read_112 (by decide) ?_
      refine E_iload_n d_MOD_read_114 rfl ?_
      refine E_imul d_MOD_read_115 ?_
      refine E_tp (y := nI (32)) (pk_mul 8 4) ?_
      refine E_isub d_MOD_read_116 ?_
      refine E_tp (y := 0) (by decide) ?_
      refine E_istore d_MOD_read_117 (by decide) ?_
      refine E_aload_n d_MOD_read_119 rfl rfl ?_
      refine E_aload_n d_MOD_read_120 rfl rfl ?_
      refine E_V0i d_MOD_read_121 w_MOD_131 rfl (by decide) (Nat.le_of_ble_eq_true rfl) (c_MOD_d) ?_
      rintro _ _ ⟨rfl, rfl⟩
      refine E_iload_n d_MOD_read_124 rfl ?_
      refine E_iconst (v := 3) d_MOD_read_125 (by decide) ?_
      refine E_icmp_ge (tgt := 140) d_MOD_read_126 (by decide) (fun c => absurd c (by decide)) (fun _ => ?_)
      refine E_iload d_MOD_read_129 rfl ?_
      refine E_iload d_MOD_read_131 rfl ?_
      refine E_ishl d_MOD_read_133 ?_
      refine E_iload d_MOD_read_134 rfl ?_
      refine E_ishr d_MOD_read_136 ?_
      refine E_goto (tgt := 142) d_MOD_read_137 (by decide) ?_
      refine E_V2v d_MOD_read_142 w_MOD_135 rfl (by decide) (Nat.le_of_ble_eq_true rfl) (c_MOD_set hp hp8 (bf_lt _ _ 5)) ?_
      rintro _ rfl
      exact E_return d_MOD_read_145 rfl rfl ⟨rfl, by rw [redM, ← hf, ← ea, show nof 2 = 4 from rfl, redF_ok (by decide) hok, nv_nI (by omega)]; rfl⟩
    · have er : rchM M p a 4 4 s m 0 27 = 0 := rch_no (n := 4) hok hp
      refine E_aload_n d_MOD_read_60 rfl rfl ?_
      refine E_iload_n d_MOD_read_61 rfl ?_
      refine E_iload_n d_MOD_read_62 rfl ?_
      refine E_iconst (v := 4) d_MOD_read_63 (by decide) ?_
      refine E_V3i d_MOD_read_64 w_MOD_168 rfl (by decide) (Nat.le_of_ble_eq_true rfl) (c_MOD_reach hp hp8 hm hm9 hs (by decide) hgo) ?_
      rintro _ _ ⟨rfl, rfl⟩
      refine E_tp (y := nI (0)) er ?_
      refine E_if_ne (tgt := 71) d_MOD_read_67 (by decide) (fun c => absurd (by decide) c) (fun _ => ?_)
      exact E_return d_MOD_read_70 rfl rfl ⟨rfl, by rw [redM, ← hf, ← ea, show nof 2 = 4 from rfl, redF_no (by decide) hok]; rfl⟩
  · refine E_iload_n d_MOD_read_21 rfl ?_
    refine E_iconst (v := 4) d_MOD_read_22 (by decide) ?_
    refine E_irem d_MOD_read_23 (by decide) ?_
    refine E_tp (y := 3) (by decide) ?_
    refine E_if_ne (tgt := 31) d_MOD_read_24 (by decide) (fun _ => ?_) (fun c => absurd c (by decide))
    refine E_iload_n d_MOD_read_31 rfl ?_
    refine E_iconst (v := 4) d_MOD_read_32 (by decide) ?_
    refine E_irem d_MOD_read_33 (by decide) ?_
    refine E_tp (y := 3) (by decide) ?_
    refine E_iconst (v := 1) d_MOD_read_34 (by decide) ?_
    refine E_icmp_ne (tgt := 42) d_MOD_read_35 (by decide) (fun _ => ?_) (fun c => absurd c (by decide))
    refine E_iconst (v := 4) d_MOD_read_42 (by decide) ?_
    refine E_istore_n d_MOD_read_43 (by decide) ?_
    refine E_iload_n d_MOD_read_44 rfl ?_
    refine E_iconst (v := 3) d_MOD_read_45 (by decide) ?_
    refine E_icmp_eq (tgt := 54) d_MOD_read_46 (by decide) (fun _ => ?_) (fun c => absurd (by decide) c)
    refine E_aload_n d_MOD_read_54 rfl rfl ?_
    refine E_iconst (v := 2) d_MOD_read_55 (by decide) ?_
    refine E_V1v d_MOD_read_56 w_MOD_128 rfl (by decide) (Nat.le_of_ble_eq_true rfl) (c_MOD_fault hp hp8 hm hm9) ?_
    rintro _ rfl
    exact E_return d_MOD_read_59 rfl rfl ⟨rfl, by rw [redM, ← hf, redF_bad (by decide)]⟩
  · refine E_iload_n d_MOD_read_21 rfl ?_
    refine E_iconst (v := 4) d_MOD_read_22 (by decide) ?_
    refine E_irem d_MOD_read_23 (by decide) ?_
    refine E_tp (y := 0) (by decide) ?_
    refine E_if_ne (tgt := 31) d_MOD_read_24 (by decide) (fun c => absurd (by decide) c) (fun _ => ?_)
    refine E_iconst (v := 1) d_MOD_read_27 (by decide) ?_
    refine E_goto (tgt := 43) d_MOD_read_28 (by decide) ?_
    refine E_istore_n d_MOD_read_43 (by decide) ?_
    refine E_iload_n d_MOD_read_44 rfl ?_
    refine E_iconst (v := 3) d_MOD_read_45 (by decide) ?_
    refine E_icmp_eq (tgt := 54) d_MOD_read_46 (by decide) (fun c => absurd c (by decide)) (fun _ => ?_)
    refine E_iload_n d_MOD_read_49 rfl ?_
    refine E_iconst (v := 5) d_MOD_read_50 (by decide) ?_
    refine E_icmp_le (tgt := 60) d_MOD_read_51 (by decide) (fun _ => ?_) (fun c => absurd (by decide) c)
    by_cases hok : okA a 1 s
    · have er : rchM M p a 1 4 s m = M := rch_ok (n := 1) hok
      obtain ⟨b, hb, eb, hal⟩ := okA_of hok (by decide) (by decide) hs8
      subst eb
      refine E_aload_n d_MOD_read_60 rfl rfl ?_
      refine E_iload_n d_MOD_read_61 rfl ?_
      refine E_iload_n d_MOD_read_62 rfl ?_
      refine E_iconst (v := 4) d_MOD_read_63 (by decide) ?_
      refine E_V3i d_MOD_read_64 w_MOD_168 rfl (by decide) (Nat.le_of_ble_eq_true rfl) (c_MOD_reach hp hp8 hm hm9 hs (by decide) hgo) ?_
      rintro _ _ ⟨rfl, rfl⟩
      rw [er]
      refine E_tp (y := nI (1)) hgo ?_
      refine E_if_ne (tgt := 71) d_MOD_read_67 (by decide) (fun _ => ?_) (fun c => absurd c (by decide))
      refine E_iconst (v := 0) d_MOD_read_71 (by decide) ?_
      refine E_istore d_MOD_read_72 (by decide) ?_
      refine E_iload_n d_MOD_read_74 rfl ?_
      refine E_iconst (v := 1) d_MOD_read_75 (by decide) ?_
      refine E_isub d_MOD_read_76 ?_
      refine E_tp (y := 0) (by decide) ?_
      refine E_istore d_MOD_read_77 (by decide) ?_
      refine E_iload d_MOD_read_79 rfl ?_
      refine E_if_lt (tgt := 110) d_MOD_read_81 (by decide) (fun c => absurd c (by decide)) (fun _ => ?_)
      refine E_iload d_MOD_read_84 rfl ?_
      refine E_bipush (v := 8) d_MOD_read_86 (by decide) ?_
      refine E_ishl d_MOD_read_88 ?_
      refine E_aload_n d_MOD_read_89 rfl rfl ?_
      refine E_aload_n d_MOD_read_90 rfl rfl ?_
      refine L_gi d_MOD_read_91 f_MOD_97 rfl (by decide) rfl (fr_M 0 24) ?_
      refine E_tp (y := nI (p)) hp ?_
      refine E_iload_n d_MOD_read_94 rfl ?_
      refine E_iload d_MOD_read_95 rfl ?_
      refine E_iadd d_MOD_read_97 ?_
      refine E_tp (y := nI (b + 0)) (nI_add b 0) ?_
      refine E_V2i d_MOD_read_98 w_MOD_172 rfl (by decide) (Nat.le_of_ble_eq_true rfl) (c_byteAt hp8 hs8 (by omega) hpg) ?_
      rintro _ _ ⟨rfl, rfl⟩
      refine E_ior d_MOD_read_101 ?_
      refine E_istore d_MOD_read_102 (by decide) ?_
      refine E_iinc (v := -1) d_MOD_read_104 rfl (by decide) (by decide) ?_
      refine E_goto (tgt := 79) d_MOD_read_107 (by decide) ?_
      refine E_iload d_MOD_read_79 rfl ?_
      refine E_if_lt (tgt := 110) d_MOD_read_81 (by decide) (fun _ => ?_) (fun c => absurd (by decide) c)
      refine E_bipush (v := 32) d_MOD_read_110 (by decide) ?_
      refine E_bipush (v := 8) d_MOD_read_112 (by decide) ?_
      refine E_iload_n d_MOD_read_114 rfl ?_
      refine E_imul d_MOD_read_115 ?_
      refine E_tp (y := nI (8)) (pk_mul 8 1) ?_
      refine E_isub d_MOD_read_116 ?_
      refine E_tp (y := 24) (by decide) ?_
      refine E_istore d_MOD_read_117 (by decide) ?_
      refine E_aload_n d_MOD_read_119 rfl rfl ?_
      refine E_aload_n d_MOD_read_120 rfl rfl ?_
      refine E_V0i d_MOD_read_121 w_MOD_131 rfl (by decide) (Nat.le_of_ble_eq_true rfl) (c_MOD_d) ?_
      rintro _ _ ⟨rfl, rfl⟩
      refine E_iload_n d_MOD_read_124 rfl ?_
      refine E_iconst (v := 3) d_MOD_read_125 (by decide) ?_
      refine E_icmp_ge (tgt := 140) d_MOD_read_126 (by decide) (fun _ => ?_) (fun c => absurd (by decide) c)
      refine E_iload d_MOD_read_140 rfl ?_
      refine E_V2v d_MOD_read_142 w_MOD_135 rfl (by decide) (Nat.le_of_ble_eq_true rfl) (c_MOD_set hp hp8 (bf_lt _ _ 5)) ?_
      rintro _ rfl
      exact E_return d_MOD_read_145 rfl rfl ⟨rfl, by rw [redM, ← hf, ← ea, show nof 4 = 1 from rfl, redF_ok (by decide) hok, nv_nI (by omega)]; rfl⟩
    · have er : rchM M p a 1 4 s m 0 27 = 0 := rch_no (n := 1) hok hp
      refine E_aload_n d_MOD_read_60 rfl rfl ?_
      refine E_iload_n d_MOD_read_61 rfl ?_
      refine E_iload_n d_MOD_read_62 rfl ?_
      refine E_iconst (v := 4) d_MOD_read_63 (by decide) ?_
      refine E_V3i d_MOD_read_64 w_MOD_168 rfl (by decide) (Nat.le_of_ble_eq_true rfl) (c_MOD_reach hp hp8 hm hm9 hs (by decide) hgo) ?_
      rintro _ _ ⟨rfl, rfl⟩
      refine E_tp (y := nI (0)) er ?_
      refine E_if_ne (tgt := 71) d_MOD_read_67 (by decide) (fun c => absurd (by decide) c) (fun _ => ?_)
      exact E_return d_MOD_read_70 rfl rfl ⟨rfl, by rw [redM, ← hf, ← ea, show nof 4 = 1 from rfl, redF_no (by decide) hok]; rfl⟩
  · refine E_iload_n d_MOD_read_21 rfl ?_
    refine E_iconst (v := 4) d_MOD_read_22 (by decide) ?_
    refine E_irem d_MOD_read_23 (by decide) ?_
    refine E_tp (y := 1) (by decide) ?_
    refine E_if_ne (tgt := 31) d_MOD_read_24 (by decide) (fun _ => ?_) (fun c => absurd c (by decide))
    refine E_iload_n d_MOD_read_31 rfl ?_
    refine E_iconst (v := 4) d_MOD_read_32 (by decide) ?_
    refine E_irem d_MOD_read_33 (by decide) ?_
    refine E_tp (y := 1) (by decide) ?_
    refine E_iconst (v := 1) d_MOD_read_34 (by decide) ?_
    refine E_icmp_ne (tgt := 42) d_MOD_read_35 (by decide) (fun c => absurd (by decide) c) (fun _ => ?_)
    refine E_iconst (v := 2) d_MOD_read_38 (by decide) ?_
    refine E_goto (tgt := 43) d_MOD_read_39 (by decide) ?_
    refine E_istore_n d_MOD_read_43 (by decide) ?_
    refine E_iload_n d_MOD_read_44 rfl ?_
    refine E_iconst (v := 3) d_MOD_read_45 (by decide) ?_
    refine E_icmp_eq (tgt := 54) d_MOD_read_46 (by decide) (fun c => absurd c (by decide)) (fun _ => ?_)
    refine E_iload_n d_MOD_read_49 rfl ?_
    refine E_iconst (v := 5) d_MOD_read_50 (by decide) ?_
    refine E_icmp_le (tgt := 60) d_MOD_read_51 (by decide) (fun _ => ?_) (fun c => absurd (by decide) c)
    by_cases hok : okA a 2 s
    · have er : rchM M p a 2 4 s m = M := rch_ok (n := 2) hok
      obtain ⟨b, hb, eb, hal⟩ := okA_of hok (by decide) (by decide) hs8
      subst eb
      refine E_aload_n d_MOD_read_60 rfl rfl ?_
      refine E_iload_n d_MOD_read_61 rfl ?_
      refine E_iload_n d_MOD_read_62 rfl ?_
      refine E_iconst (v := 4) d_MOD_read_63 (by decide) ?_
      refine E_V3i d_MOD_read_64 w_MOD_168 rfl (by decide) (Nat.le_of_ble_eq_true rfl) (c_MOD_reach hp hp8 hm hm9 hs (by decide) hgo) ?_
      rintro _ _ ⟨rfl, rfl⟩
      rw [er]
      refine E_tp (y := nI (1)) hgo ?_
      refine E_if_ne (tgt := 71) d_MOD_read_67 (by decide) (fun _ => ?_) (fun c => absurd c (by decide))
      refine E_iconst (v := 0) d_MOD_read_71 (by decide) ?_
      refine E_istore d_MOD_read_72 (by decide) ?_
      refine E_iload_n d_MOD_read_74 rfl ?_
      refine E_iconst (v := 1) d_MOD_read_75 (by decide) ?_
      refine E_isub d_MOD_read_76 ?_
      refine E_tp (y := 1) (by decide) ?_
      refine E_istore d_MOD_read_77 (by decide) ?_
      refine E_iload d_MOD_read_79 rfl ?_
      refine E_if_lt (tgt := 110) d_MOD_read_81 (by decide) (fun c => absurd c (by decide)) (fun _ => ?_)
      refine E_iload d_MOD_read_84 rfl ?_
      refine E_bipush (v := 8) d_MOD_read_86 (by decide) ?_
      refine E_ishl d_MOD_read_88 ?_
      refine E_aload_n d_MOD_read_89 rfl rfl ?_
      refine E_aload_n d_MOD_read_90 rfl rfl ?_
      refine L_gi d_MOD_read_91 f_MOD_97 rfl (by decide) rfl (fr_M 0 24) ?_
      refine E_tp (y := nI (p)) hp ?_
      refine E_iload_n d_MOD_read_94 rfl ?_
      refine E_iload d_MOD_read_95 rfl ?_
      refine E_iadd d_MOD_read_97 ?_
      refine E_tp (y := nI (b + 1)) (nI_add b 1) ?_
      refine E_V2i d_MOD_read_98 w_MOD_172 rfl (by decide) (Nat.le_of_ble_eq_true rfl) (c_byteAt hp8 hs8 (by omega) hpg) ?_
      rintro _ _ ⟨rfl, rfl⟩
      refine E_ior d_MOD_read_101 ?_
      refine E_istore d_MOD_read_102 (by decide) ?_
      refine E_iinc (v := 0) d_MOD_read_104 rfl (by decide) (by decide) ?_
      refine E_goto (tgt := 79) d_MOD_read_107 (by decide) ?_
      refine E_iload d_MOD_read_79 rfl ?_
      refine E_if_lt (tgt := 110) d_MOD_read_81 (by decide) (fun c => absurd c (by decide)) (fun _ => ?_)
      refine E_iload d_MOD_read_84 rfl ?_
      refine E_bipush (v := 8) d_MOD_read_86 (by decide) ?_
      refine E_ishl d_MOD_read_88 ?_
      refine E_aload_n d_MOD_read_89 rfl rfl ?_
      refine E_aload_n d_MOD_read_90 rfl rfl ?_
      refine L_gi d_MOD_read_91 f_MOD_97 rfl (by decide) rfl (fr_M 0 24) ?_
      refine E_tp (y := nI (p)) hp ?_
      refine E_iload_n d_MOD_read_94 rfl ?_
      refine E_iload d_MOD_read_95 rfl ?_
      refine E_iadd d_MOD_read_97 ?_
      refine E_tp (y := nI (b + 0)) (nI_add b 0) ?_
      refine E_V2i d_MOD_read_98 w_MOD_172 rfl (by decide) (Nat.le_of_ble_eq_true rfl) (c_byteAt hp8 hs8 (by omega) hpg) ?_
      rintro _ _ ⟨rfl, rfl⟩
      refine E_ior d_MOD_read_101 ?_
      refine E_istore d_MOD_read_102 (by decide) ?_
      refine E_iinc (v := -1) d_MOD_read_104 rfl (by decide) (by decide) ?_
      refine E_goto (tgt := 79) d_MOD_read_107 (by decide) ?_
      refine E_iload d_MOD_read_79 rfl ?_
      refine E_if_lt (tgt := 110) d_MOD_read_81 (by decide) (fun _ => ?_) (fun c => absurd (by decide) c)
      refine E_bipush (v := 32) d_MOD_read_110 (by decide) ?_
      refine E_bipush (v := 8) d_MOD_read_112 (by decide) ?_
      refine E_iload_n d_MOD_read_114 rfl ?_
      refine E_imul d_MOD_read_115 ?_
      refine E_tp (y := nI (16)) (pk_mul 8 2) ?_
      refine E_isub d_MOD_read_116 ?_
      refine E_tp (y := 16) (by decide) ?_
      refine E_istore d_MOD_read_117 (by decide) ?_
      refine E_aload_n d_MOD_read_119 rfl rfl ?_
      refine E_aload_n d_MOD_read_120 rfl rfl ?_
      refine E_V0i d_MOD_read_121 w_MOD_131 rfl (by decide) (Nat.le_of_ble_eq_true rfl) (c_MOD_d) ?_
      rintro _ _ ⟨rfl, rfl⟩
      refine E_iload_n d_MOD_read_124 rfl ?_
      refine E_iconst (v := 3) d_MOD_read_125 (by decide) ?_
      refine E_icmp_ge (tgt := 140) d_MOD_read_126 (by decide) (fun _ => ?_) (fun c => absurd (by decide) c)
      refine E_iload d_MOD_read_140 rfl ?_
      refine E_V2v d_MOD_read_142 w_MOD_135 rfl (by decide) (Nat.le_of_ble_eq_true rfl) (c_MOD_set hp hp8 (bf_lt _ _ 5)) ?_
      rintro _ rfl
      exact E_return d_MOD_read_145 rfl rfl ⟨rfl, by rw [redM, ← hf, ← ea, show nof 5 = 2 from rfl, redF_ok (by decide) hok, nv_nI (by omega)]; rfl⟩
    · have er : rchM M p a 2 4 s m 0 27 = 0 := rch_no (n := 2) hok hp
      refine E_aload_n d_MOD_read_60 rfl rfl ?_
      refine E_iload_n d_MOD_read_61 rfl ?_
      refine E_iload_n d_MOD_read_62 rfl ?_
      refine E_iconst (v := 4) d_MOD_read_63 (by decide) ?_
      refine E_V3i d_MOD_read_64 w_MOD_168 rfl (by decide) (Nat.le_of_ble_eq_true rfl) (c_MOD_reach hp hp8 hm hm9 hs (by decide) hgo) ?_
      rintro _ _ ⟨rfl, rfl⟩
      refine E_tp (y := nI (0)) er ?_
      refine E_if_ne (tgt := 71) d_MOD_read_67 (by decide) (fun c => absurd (by decide) c) (fun _ => ?_)
      exact E_return d_MOD_read_70 rfl rfl ⟨rfl, by rw [redM, ← hf, ← ea, show nof 5 = 2 from rfl, redF_no (by decide) hok]; rfl⟩
  · refine E_iload_n d_MOD_read_21 rfl ?_
    refine E_iconst (v := 4) d_MOD_read_22 (by decide) ?_
    refine E_irem d_MOD_read_23 (by decide) ?_
    refine E_tp (y := 2) (by decide) ?_
    refine E_if_ne (tgt := 31) d_MOD_read_24 (by decide) (fun _ => ?_) (fun c => absurd c (by decide))
    refine E_iload_n d_MOD_read_31 rfl ?_
    refine E_iconst (v := 4) d_MOD_read_32 (by decide) ?_
    refine E_irem d_MOD_read_33 (by decide) ?_
    refine E_tp (y := 2) (by decide) ?_
    refine E_iconst (v := 1) d_MOD_read_34 (by decide) ?_
    refine E_icmp_ne (tgt := 42) d_MOD_read_35 (by decide) (fun _ => ?_) (fun c => absurd c (by decide))
    refine E_iconst (v := 4) d_MOD_read_42 (by decide) ?_
    refine E_istore_n d_MOD_read_43 (by decide) ?_
    refine E_iload_n d_MOD_read_44 rfl ?_
    refine E_iconst (v := 3) d_MOD_read_45 (by decide) ?_
    refine E_icmp_eq (tgt := 54) d_MOD_read_46 (by decide) (fun c => absurd c (by decide)) (fun _ => ?_)
    refine E_iload_n d_MOD_read_49 rfl ?_
    refine E_iconst (v := 5) d_MOD_read_50 (by decide) ?_
    refine E_icmp_le (tgt := 60) d_MOD_read_51 (by decide) (fun c => absurd c (by decide)) (fun _ => ?_)
    refine E_aload_n d_MOD_read_54 rfl rfl ?_
    refine E_iconst (v := 2) d_MOD_read_55 (by decide) ?_
    refine E_V1v d_MOD_read_56 w_MOD_128 rfl (by decide) (Nat.le_of_ble_eq_true rfl) (c_MOD_fault hp hp8 hm hm9) ?_
    rintro _ rfl
    exact E_return d_MOD_read_59 rfl rfl ⟨rfl, by rw [redM, ← hf, redF_bad (by decide)]⟩
  · refine E_iload_n d_MOD_read_21 rfl ?_
    refine E_iconst (v := 4) d_MOD_read_22 (by decide) ?_
    refine E_irem d_MOD_read_23 (by decide) ?_
    refine E_tp (y := 3) (by decide) ?_
    refine E_if_ne (tgt := 31) d_MOD_read_24 (by decide) (fun _ => ?_) (fun c => absurd c (by decide))
    refine E_iload_n d_MOD_read_31 rfl ?_
    refine E_iconst (v := 4) d_MOD_read_32 (by decide) ?_
    refine E_irem d_MOD_read_33 (by decide) ?_
    refine E_tp (y := 3) (by decide) ?_
    refine E_iconst (v := 1) d_MOD_read_34 (by decide) ?_
    refine E_icmp_ne (tgt := 42) d_MOD_read_35 (by decide) (fun _ => ?_) (fun c => absurd c (by decide))
    refine E_iconst (v := 4) d_MOD_read_42 (by decide) ?_
    refine E_istore_n d_MOD_read_43 (by decide) ?_
    refine E_iload_n d_MOD_read_44 rfl ?_
    refine E_iconst (v := 3) d_MOD_read_45 (by decide) ?_
    refine E_icmp_eq (tgt := 54) d_MOD_read_46 (by decide) (fun c => absurd c (by decide)) (fun _ => ?_)
    refine E_iload_n d_MOD_read_49 rfl ?_
    refine E_iconst (v := 5) d_MOD_read_50 (by decide) ?_
    refine E_icmp_le (tgt := 60) d_MOD_read_51 (by decide) (fun c => absurd c (by decide)) (fun _ => ?_)
    refine E_aload_n d_MOD_read_54 rfl rfl ?_
    refine E_iconst (v := 2) d_MOD_read_55 (by decide) ?_
    refine E_V1v d_MOD_read_56 w_MOD_128 rfl (by decide) (Nat.le_of_ble_eq_true rfl) (c_MOD_fault hp hp8 hm hm9) ?_
    rintro _ rfl
    exact E_return d_MOD_read_59 rfl rfl ⟨rfl, by rw [redM, ← hf, redF_bad (by decide)]⟩
theorem c_MOD_write {G : iG} {F : Nat} {C M : Nat → Nat → Int32} {p m s : Nat} (hp : M 0 24 = nI p) (hp8 : p ≤ 8) (hm : M 0 15 = nI m) (hm9 : m ≤ 9) (hs : M 8 p = nI s) (hs8 : s ≤ 8) (hpg : pgs M p s) (hgo : M 0 27 = 1) : MV G m_MOD_write 5 [vR 50] (HW F C M) (fun h' => h' = HW F C (wrtM M p s m)) := by
  refine Mt.of' (Ls := [some (vR 50), none, none, none, none, none]) (by decide) (by simp [ct]) (Nat.le_of_ble_eq_true rfl) rfl ?_
  obtain ⟨f, hf⟩ : ∃ f, f = bf (M 0 25) 12 3 := ⟨_, rfl⟩
  have hf8 : f < 8 := by rw [hf]; exact bf_lt _ _ 3
  obtain ⟨a, ea⟩ : ∃ a, a = adw M p := ⟨_, rfl⟩
  obtain ⟨v, hv⟩ : ∃ v, v = M 9 (32 * p + bf (M 0 25) 20 5) := ⟨_, rfl⟩
  refine E_aload_n d_MOD_write_0 rfl rfl ?_
  refine E_bipush (v := 12) d_MOD_write_1 (by decide) ?_
  refine E_iconst (v := 3) d_MOD_write_3 (by decide) ?_
  refine E_V2i d_MOD_write_4 w_MOD_110 rfl (by decide) (Nat.le_of_ble_eq_true rfl) (c_MOD_bits (a := 12) (k := 3) (by decide) (by decide) (by decide)) ?_
  rintro _ _ ⟨rfl, rfl⟩
  rw [← hf]
  refine E_istore_n d_MOD_write_7 (by decide) ?_
  refine E_aload_n d_MOD_write_8 rfl rfl ?_
  refine E_V0i d_MOD_write_9 w_MOD_141 rfl (by decide) (Nat.le_of_ble_eq_true rfl) (c_MOD_s hp hp8) ?_
  rintro _ _ ⟨rfl, rfl⟩
  refine E_aload_n d_MOD_write_12 rfl rfl ?_
  refine L_gi d_MOD_write_13 f_MOD_107 rfl (by decide) rfl (fr_M 0 25) ?_
  refine E_bipush (v := 25) d_MOD_write_16 (by decide) ?_
  refine E_ishr d_MOD_write_18 ?_
  refine E_iconst (v := 5) d_MOD_write_19 (by decide) ?_
  refine E_ishl d_MOD_write_20 ?_
  refine E_aload_n d_MOD_write_21 rfl rfl ?_
  refine E_bipush (v := 7) d_MOD_write_22 (by decide) ?_
  refine E_iconst (v := 5) d_MOD_write_24 (by decide) ?_
  refine E_V2i d_MOD_write_25 w_MOD_110 rfl (by decide) (Nat.le_of_ble_eq_true rfl) (c_MOD_bits (a := 7) (k := 5) (by decide) (by decide) (by decide)) ?_
  rintro _ _ ⟨rfl, rfl⟩
  refine E_ior d_MOD_write_28 ?_
  refine E_iadd d_MOD_write_29 ?_
  refine E_tp (y := a) ea.symm ?_
  refine E_istore_n d_MOD_write_30 (by decide) ?_
  refine E_aload_n d_MOD_write_31 rfl rfl ?_
  refine E_V0i d_MOD_write_32 w_MOD_161 rfl (by decide) (Nat.le_of_ble_eq_true rfl) (c_MOD_t hp hp8) ?_
  rintro _ _ ⟨rfl, rfl⟩
  refine E_tp (y := v) hv.symm ?_
  refine E_istore_n d_MOD_write_35 (by decide) ?_
  rcases (show f = 0 ∨ f = 1 ∨ f = 2 ∨ 2 < f by omega) with rfl | rfl | rfl | hbad
  · refine E_iload_n d_MOD_write_36 rfl ?_
    refine E_iconst (v := 2) d_MOD_write_37 (by decide) ?_
    refine E_icmp_le (tgt := 47) d_MOD_write_38 (by decide) (fun _ => ?_) (fun c => absurd (by decide) c)
    refine E_iload_n d_MOD_write_47 rfl ?_
    refine E_if_ne (tgt := 55) d_MOD_write_48 (by decide) (fun c => absurd (by decide) c) (fun _ => ?_)
    refine E_iconst (v := 1) d_MOD_write_51 (by decide) ?_
    refine E_goto (tgt := 65) d_MOD_write_52 (by decide) ?_
    refine E_istore d_MOD_write_65 (by decide) ?_
    by_cases hok : okA a 1 s
    · have er : rchM M p a 1 6 s m = M := rch_ok (n := 1) hok
      obtain ⟨b, hb, eb, hal⟩ := okA_of hok (by decide) (by decide) hs8
      subst eb
      have g1 := pgs_pb (q := p) (a := b + 0) (b := v >>> (nI (8 * 0) &&& 31)) hpg
      have g2 := pgs_pb (q := p) (a := b + 1) (b := v >>> (nI (8 * 1) &&& 31)) g1
      have g3 := pgs_pb (q := p) (a := b + 2) (b := v >>> (nI (8 * 2) &&& 31)) g2
      refine E_aload_n d_MOD_write_67 rfl rfl ?_
      refine E_iload_n d_MOD_write_68 rfl ?_
      refine E_iload d_MOD_write_69 rfl ?_
      refine E_bipush (v := 6) d_MOD_write_71 (by decide) ?_
      refine E_V3i d_MOD_write_73 w_MOD_168 rfl (by decide) (Nat.le_of_ble_eq_true rfl) (c_MOD_reach hp hp8 hm hm9 hs (by decide) hgo) ?_
      rintro _ _ ⟨rfl, rfl⟩
      rw [er]
      refine E_tp (y := nI (1)) hgo ?_
      refine E_if_ne (tgt := 80) d_MOD_write_76 (by decide) (fun _ => ?_) (fun c => absurd c (by decide))
      refine E_iconst (v := 0) d_MOD_write_80 (by decide) ?_
      refine E_istore d_MOD_write_81 (by decide) ?_
      refine E_iload d_MOD_write_83 rfl ?_
      refine E_iload d_MOD_write_85 rfl ?_
      refine E_icmp_ge (tgt := 115) d_MOD_write_87 (by decide) (fun c => absurd c (by decide)) (fun _ => ?_)
      refine E_aload_n d_MOD_write_90 rfl rfl ?_
      refine E_aload_n d_MOD_write_91 rfl rfl ?_
      refine L_gi d_MOD_write_92 f_MOD_97 rfl (by decide) rfl (fr_M 0 24) ?_
      refine E_tp (y := nI (p)) (by first | exact hp | exact (up2_ne2 _ _ _ _ (by decide)).trans hp | exact ((up2_ne2 _ _ _ _ (by decide)).trans (up2_ne2 _ _ _ _ (by decide))).trans hp | exact (((up2_ne2 _ _ _ _ (by decide)).trans (up2_ne2 _ _ _ _ (by decide))).trans (up2_ne2 _ _ _ _ (by decide))).trans hp) ?_
      refine E_iload_n d_MOD_write_95 rfl ?_
      refine E_iload d_MOD_write_96 rfl ?_
      refine E_iadd d_MOD_write_98 ?_
      refine E_tp (y := nI (b + 0)) (nI_add b 0) ?_
      refine E_iload_n d_MOD_write_99 rfl ?_
      refine E_bipush (v := 8) d_MOD_write_100 (by decide) ?_
      refine E_iload d_MOD_write_102 rfl ?_
      refine E_imul d_MOD_write_104 ?_
      refine E_tp (y := nI (0)) (pk_mul 8 0) ?_
      refine E_ishr d_MOD_write_105 ?_
      refine E_V3v d_MOD_write_106 w_MOD_175 rfl (by decide) (Nat.le_of_ble_eq_true rfl) (c_putByte hp8 hs8 (by omega) (by first | exact hpg | exact g1 | exact g2 | exact g3)) ?_
      rintro _ rfl
      refine E_iinc (v := 1) d_MOD_write_109 rfl (by decide) (by decide) ?_
      refine E_goto (tgt := 83) d_MOD_write_112 (by decide) ?_
      refine E_iload d_MOD_write_83 rfl ?_
      refine E_iload d_MOD_write_85 rfl ?_
      refine E_icmp_ge (tgt := 115) d_MOD_write_87 (by decide) (fun _ => ?_) (fun c => absurd (by decide) c)
      exact E_return d_MOD_write_115 rfl rfl ⟨rfl, by rw [wrtM, ← hf, ← ea, ← hv, show now 0 = 1 from rfl, wrtF_ok (by decide) hok, nv_nI (by omega)]; rfl⟩
    · have er : rchM M p a 1 6 s m 0 27 = 0 := rch_no (n := 1) hok hp
      refine E_aload_n d_MOD_write_67 rfl rfl ?_
      refine E_iload_n d_MOD_write_68 rfl ?_
      refine E_iload d_MOD_write_69 rfl ?_
      refine E_bipush (v := 6) d_MOD_write_71 (by decide) ?_
      refine E_V3i d_MOD_write_73 w_MOD_168 rfl (by decide) (Nat.le_of_ble_eq_true rfl) (c_MOD_reach hp hp8 hm hm9 hs (by decide) hgo) ?_
      rintro _ _ ⟨rfl, rfl⟩
      refine E_tp (y := nI (0)) er ?_
      refine E_if_ne (tgt := 80) d_MOD_write_76 (by decide) (fun c => absurd (by decide) c) (fun _ => ?_)
      exact E_return d_MOD_write_79 rfl rfl ⟨rfl, by rw [wrtM, ← hf, ← ea, ← hv, show now 0 = 1 from rfl, wrtF_no (by decide) hok]; rfl⟩
  · refine E_iload_n d_MOD_write_36 rfl ?_
    refine E_iconst (v := 2) d_MOD_write_37 (by decide) ?_
    refine E_icmp_le (tgt := 47) d_MOD_write_38 (by decide) (fun _ => ?_) (fun c => absurd (by decide) c)
    refine E_iload_n d_MOD_write_47 rfl ?_
    refine E_if_ne (tgt := 55) d_MOD_write_48 (by decide) (fun _ => ?_) (fun c => absurd c (by decide))
    refine E_iload_n d_MOD_write_55 rfl ?_
    refine E_iconst (v := 1) d_MOD_write_56 (by decide) ?_
    refine E_icmp_ne (tgt := 64) d_MOD_write_57 (by decide) (fun c => absurd (by decide) c) (fun _ => ?_)
    refine E_iconst (v := 2) d_MOD_write_60 (by decide) ?_
    refine E_goto (tgt := 65) d_MOD_write_61 (by decide) ?_
    refine E_istore d_MOD_write_65 (by decide) ?_
    by_cases hok : okA a 2 s
    · have er : rchM M p a 2 6 s m = M := rch_ok (n := 2) hok
      obtain ⟨b, hb, eb, hal⟩ := okA_of hok (by decide) (by decide) hs8
      subst eb
      have g1 := pgs_pb (q := p) (a := b + 0) (b := v >>> (nI (8 * 0) &&& 31)) hpg
      have g2 := pgs_pb (q := p) (a := b + 1) (b := v >>> (nI (8 * 1) &&& 31)) g1
      have g3 := pgs_pb (q := p) (a := b + 2) (b := v >>> (nI (8 * 2) &&& 31)) g2
      refine E_aload_n d_MOD_write_67 rfl rfl ?_
      refine E_iload_n d_MOD_write_68 rfl ?_
      refine E_iload d_MOD_write_69 rfl ?_
      refine E_bipush (v := 6) d_MOD_write_71 (by decide) ?_
      refine E_V3i d_MOD_write_73 w_MOD_168 rfl (by decide) (Nat.le_of_ble_eq_true rfl) (c_MOD_reach hp hp8 hm hm9 hs (by decide) hgo) ?_
      rintro _ _ ⟨rfl, rfl⟩
      rw [er]
      refine E_tp (y := nI (1)) hgo ?_
      refine E_if_ne (tgt := 80) d_MOD_write_76 (by decide) (fun _ => ?_) (fun c => absurd c (by decide))
      refine E_iconst (v := 0) d_MOD_write_80 (by decide) ?_
      refine E_istore d_MOD_write_81 (by decide) ?_
      refine E_iload d_MOD_write_83 rfl ?_
      refine E_iload d_MOD_write_85 rfl ?_
      refine E_icmp_ge (tgt := 115) d_MOD_write_87 (by decide) (fun c => absurd c (by decide)) (fun _ => ?_)
      refine E_aload_n d_MOD_write_90 rfl rfl ?_
      refine E_aload_n d_MOD_write_91 rfl rfl ?_
      refine L_gi d_MOD_write_92 f_MOD_97 rfl (by decide) rfl (fr_M 0 24) ?_
      refine E_tp (y := nI (p)) (by first | exact hp | exact (up2_ne2 _ _ _ _ (by decide)).trans hp | exact ((up2_ne2 _ _ _ _ (by decide)).trans (up2_ne2 _ _ _ _ (by decide))).trans hp | exact (((up2_ne2 _ _ _ _ (by decide)).trans (up2_ne2 _ _ _ _ (by decide))).trans (up2_ne2 _ _ _ _ (by decide))).trans hp) ?_
      refine E_iload_n d_MOD_write_95 rfl ?_
      refine E_iload d_MOD_write_96 rfl ?_
      refine E_iadd d_MOD_write_98 ?_
      refine E_tp (y := nI (b + 0)) (nI_add b 0) ?_
      refine E_iload_n d_MOD_write_99 rfl ?_
      refine E_bipush (v := 8) d_MOD_write_100 (by decide) ?_
      refine E_iload d_MOD_write_102 rfl ?_
      refine E_imul d_MOD_write_104 ?_
      refine E_tp (y := nI (0)) (pk_mul 8 0) ?_
      refine E_ishr d_MOD_write_105 ?_
      refine E_V3v d_MOD_write_106 w_MOD_175 rfl (by decide) (Nat.le_of_ble_eq_true rfl) (c_putByte hp8 hs8 (by omega) (by first | exact hpg | exact g1 | exact g2 | exact g3)) ?_
      rintro _ rfl
      refine E_iinc (v := 1) d_MOD_write_109 rfl (by decide) (by decide) ?_
      refine E_goto (tgt := 83) d_MOD_write_112 (by decide) ?_
      refine E_iload d_MOD_write_83 rfl ?_
      refine E_iload d_MOD_write_85 rfl ?_
      refine E_icmp_ge (tgt := 115) d_MOD_write_87 (by decide) (fun c => absurd c (by decide)) (fun _ => ?_)
      refine E_aload_n d_MOD_write_90 rfl rfl ?_
      refine E_aload_n d_MOD_write_91 rfl rfl ?_
      refine L_gi d_MOD_write_92 f_MOD_97 rfl (by decide) rfl (fr_M 0 24) ?_
      refine E_tp (y := nI (p)) (by first | exact hp | exact (up2_ne2 _ _ _ _ (by decide)).trans hp | exact ((up2_ne2 _ _ _ _ (by decide)).trans (up2_ne2 _ _ _ _ (by decide))).trans hp | exact (((up2_ne2 _ _ _ _ (by decide)).trans (up2_ne2 _ _ _ _ (by decide))).trans (up2_ne2 _ _ _ _ (by decide))).trans hp) ?_
      refine E_iload_n d_MOD_write_95 rfl ?_
      refine E_iload d_MOD_write_96 rfl ?_
      refine E_iadd d_MOD_write_98 ?_
      refine E_tp (y := nI (b + 1)) (nI_add b 1) ?_
      refine E_iload_n d_MOD_write_99 rfl ?_
      refine E_bipush (v := 8) d_MOD_write_100 (by decide) ?_
      refine E_iload d_MOD_write_102 rfl ?_
      refine E_imul d_MOD_write_104 ?_
      refine E_tp (y := nI (8)) (pk_mul 8 1) ?_
      refine E_ishr d_MOD_write_105 ?_
      refine E_V3v d_MOD_write_106 w_MOD_175 rfl (by decide) (Nat.le_of_ble_eq_true rfl) (c_putByte hp8 hs8 (by omega) (by first | exact hpg | exact g1 | exact g2 | exact g3)) ?_
      rintro _ rfl
      refine E_iinc (v := 2) d_MOD_write_109 rfl (by decide) (by decide) ?_
      refine E_goto (tgt := 83) d_MOD_write_112 (by decide) ?_
      refine E_iload d_MOD_write_83 rfl ?_
      refine E_iload d_MOD_write_85 rfl ?_
      refine E_icmp_ge (tgt := 115) d_MOD_write_87 (by decide) (fun _ => ?_) (fun c => absurd (by decide) c)
      exact E_return d_MOD_write_115 rfl rfl ⟨rfl, by rw [wrtM, ← hf, ← ea, ← hv, show now 1 = 2 from rfl, wrtF_ok (by decide) hok, nv_nI (by omega)]; rfl⟩
    · have er : rchM M p a 2 6 s m 0 27 = 0 := rch_no (n := 2) hok hp
      refine E_aload_n d_MOD_write_67 rfl rfl ?_
      refine E_iload_n d_MOD_write_68 rfl ?_
      refine E_iload d_MOD_write_69 rfl ?_
      refine E_bipush (v := 6) d_MOD_write_71 (by decide) ?_
      refine E_V3i d_MOD_write_73 w_MOD_168 rfl (by decide) (Nat.le_of_ble_eq_true rfl) (c_MOD_reach hp hp8 hm hm9 hs (by decide) hgo) ?_
      rintro _ _ ⟨rfl, rfl⟩
      refine E_tp (y := nI (0)) er ?_
      refine E_if_ne (tgt := 80) d_MOD_write_76 (by decide) (fun c => absurd (by decide) c) (fun _ => ?_)
      exact E_return d_MOD_write_79 rfl rfl ⟨rfl, by rw [wrtM, ← hf, ← ea, ← hv, show now 1 = 2 from rfl, wrtF_no (by decide) hok]; rfl⟩
  · refine E_iload_n d_MOD_write_36 rfl ?_
    refine E_iconst (v := 2) d_MOD_write_37 (by decide) ?_
    refine E_icmp_le (tgt := 47) d_MOD_write_38 (by decide) (fun _ => ?_) (fun c => absurd (by decide) c)
    refine E_iload_n d_MOD_write_47 rfl ?_
    refine E_if_ne (tgt := 55) d_MOD_write_48 (by decide) (fun _ => ?_) (fun c => absurd c (by decide))
    refine E_iload_n d_MOD_write_55 rfl ?_
    refine E_iconst (v := 1) d_MOD_write_56 (by decide) ?_
    refine E_icmp_ne (tgt := 64) d_MOD_write_57 (by decide) (fun _ => ?_) (fun c => absurd c (by decide))
    refine E_iconst (v := 4) d_MOD_write_64 (by decide) ?_
    refine E_istore d_MOD_write_65 (by decide) ?_
    by_cases hok : okA a 4 s
    · have er : rchM M p a 4 6 s m = M := rch_ok (n := 4) hok
      obtain ⟨b, hb, eb, hal⟩ := okA_of hok (by decide) (by decide) hs8
      subst eb
      have g1 := pgs_pb (q := p) (a := b + 0) (b := v >>> (nI (8 * 0) &&& 31)) hpg
      have g2 := pgs_pb (q := p) (a := b + 1) (b := v >>> (nI (8 * 1) &&& 31)) g1
      have g3 := pgs_pb (q := p) (a := b + 2) (b := v >>> (nI (8 * 2) &&& 31)) g2
      refine E_aload_n d_MOD_write_67 rfl rfl ?_
      refine E_iload_n d_MOD_write_68 rfl ?_
      refine E_iload d_MOD_write_69 rfl ?_
      refine E_bipush (v := 6) d_MOD_write_71 (by decide) ?_
      refine E_V3i d_MOD_write_73 w_MOD_168 rfl (by decide) (Nat.le_of_ble_eq_true rfl) (c_MOD_reach hp hp8 hm hm9 hs (by decide) hgo) ?_
      rintro _ _ ⟨rfl, rfl⟩
      rw [er]
      refine E_tp (y := nI (1)) hgo ?_
      refine E_if_ne (tgt := 80) d_MOD_write_76 (by decide) (fun _ => ?_) (fun c => absurd c (by decide))
      refine E_iconst (v := 0) d_MOD_write_80 (by decide) ?_
      refine E_istore d_MOD_write_81 (by decide) ?_
      refine E_iload d_MOD_write_83 rfl ?_
      refine E_iload d_MOD_write_85 rfl ?_
      refine E_icmp_ge (tgt := 115) d_MOD_write_87 (by decide) (fun c => absurd c (by decide)) (fun _ => ?_)
      refine E_aload_n d_MOD_write_90 rfl rfl ?_
      refine E_aload_n d_MOD_write_91 rfl rfl ?_
      refine L_gi d_MOD_write_92 f_MOD_97 rfl (by decide) rfl (fr_M 0 24) ?_
      refine E_tp (y := nI (p)) (by first | exact hp | exact (up2_ne2 _ _ _ _ (by decide)).trans hp | exact ((up2_ne2 _ _ _ _ (by decide)).trans (up2_ne2 _ _ _ _ (by decide))).trans hp | exact (((up2_ne2 _ _ _ _ (by decide)).trans (up2_ne2 _ _ _ _ (by decide))).trans (up2_ne2 _ _ _ _ (by decide))).trans hp) ?_
      refine E_iload_n d_MOD_write_95 rfl ?_
      refine E_iload d_MOD_write_96 rfl ?_
      refine E_iadd d_MOD_write_98 ?_
      refine E_tp (y := nI (b + 0)) (nI_add b 0) ?_
      refine E_iload_n d_MOD_write_99 rfl ?_
      refine E_bipush (v := 8) d_MOD_write_100 (by decide) ?_
      refine E_iload d_MOD_write_102 rfl ?_
      refine E_imul d_MOD_write_104 ?_
      refine E_tp (y := nI (0)) (pk_mul 8 0) ?_
      refine E_ishr d_MOD_write_105 ?_
      refine E_V3v d_MOD_write_106 w_MOD_175 rfl (by decide) (Nat.le_of_ble_eq_true rfl) (c_putByte hp8 hs8 (by omega) (by first | exact hpg | exact g1 | exact g2 | exact g3)) ?_
      rintro _ rfl
      refine E_iinc (v := 1) d_MOD_write_109 rfl (by decide) (by decide) ?_
      refine E_goto (tgt := 83) d_MOD_write_112 (by decide) ?_
      refine E_iload d_MOD_write_83 rfl ?_
      refine E_iload d_MOD_write_85 rfl ?_
      refine E_icmp_ge (tgt := 115) d_MOD_write_87 (by decide) (fun c => absurd c (by decide)) (fun _ => ?_)
      refine E_aload_n d_MOD_write_90 rfl rfl ?_
      refine E_aload_n d_MOD_write_91 rfl rfl ?_
      refine L_gi d_MOD_write_92 f_MOD_97 rfl (by decide) rfl (fr_M 0 24) ?_
      refine E_tp (y := nI (p)) (by first | exact hp | exact (up2_ne2 _ _ _ _ (by decide)).trans hp | exact ((up2_ne2 _ _ _ _ (by decide)).trans (up2_ne2 _ _ _ _ (by decide))).trans hp | exact (((up2_ne2 _ _ _ _ (by decide)).trans (up2_ne2 _ _ _ _ (by decide))).trans (up2_ne2 _ _ _ _ (by decide))).trans hp) ?_
      refine E_iload_n d_MOD_write_95 rfl ?_
      refine E_iload d_MOD_write_96 rfl ?_
      refine E_iadd d_MOD_write_98 ?_
      refine E_tp (y := nI (b + 1)) (nI_add b 1) ?_
      refine E_iload_n d_MOD_write_99 rfl ?_
      refine E_bipush (v := 8) d_MOD_write_100 (by decide) ?_
      refine E_iload d_MOD_write_102 rfl ?_
      refine E_imul d_MOD_write_104 ?_
      refine E_tp (y := nI (8)) (pk_mul 8 1) ?_
      refine E_ishr d_MOD_write_105 ?_
      refine E_V3v d_MOD_write_106 w_MOD_175 rfl (by decide) (Nat.le_of_ble_eq_true rfl) (c_putByte hp8 hs8 (by omega) (by first | exact hpg | exact g1 | exact g2 | exact g3)) ?_
      rintro _ rfl
      refine E_iinc (v := 2) d_MOD_write_109 rfl (by decide) (by decide) ?_
      refine E_goto (tgt := 83) d_MOD_write_112 (by decide) ?_
      refine E_iload d_MOD_write_83 rfl ?_
      refine E_iload d_MOD_write_85 rfl ?_
      refine E_icmp_ge (tgt := 115) d_MOD_write_87 (by decide) (fun c => absurd c (by decide)) (fun _ => ?_)
      refine E_aload_n d_MOD_write_90 rfl rfl ?_
      refine E_aload_n d_MOD_write_91 rfl rfl ?_
      refine L_gi d_MOD_write_92 f_MOD_97 rfl (by decide) rfl (fr_M 0 24) ?_
      refine E_tp (y := nI (p)) (by first | exact hp | exact (up2_ne2 _ _ _ _ (by decide)).trans hp | exact ((up2_ne2 _ _ _ _ (by decide)).trans (up2_ne2 _ _ _ _ (by decide))).trans hp | exact (((up2_ne2 _ _ _ _ (by decide)).trans (up2_ne2 _ _ _ _ (by decide))).trans (up2_ne2 _ _ _ _ (by decide))).trans hp) ?_
      refine E_iload_n d_MOD_write_95 rfl ?_
      refine E_iload d_MOD_write_96 rfl ?_
      refine E_iadd d_MOD_write_98 ?_
      refine E_tp (y := nI (b + 2)) (nI_add b 2) ?_
      refine E_iload_n d_MOD_write_99 rfl ?_
      refine E_bipush (v := 8) d_MOD_write_100 (by decide) ?_
      refine E_iload d_MOD_write_102 rfl ?_
      refine E_imul d_MOD_write_104 ?_
      refine E_tp (y := nI (16)) (pk_mul 8 2) ?_
      refine E_ishr d_MOD_write_105 ?_
      refine E_V3v d_MOD_write_106 w_MOD_175 rfl (by decide) (Nat.le_of_ble_eq_true rfl) (c_putByte hp8 hs8 (by omega) (by first | exact hpg | exact g1 | exact g2 | exact g3)) ?_
      rintro _ rfl
      refine E_iinc (v := 3) d_MOD_write_109 rfl (by decide) (by decide) ?_
      refine E_goto (tgt := 83) d_MOD_write_112 (by decide) ?_
      refine E_iload d_MOD_write_83 rfl ?_
      refine E_iload d_MOD_write_85 rfl ?_
      refine E_icmp_ge (tgt := 115) d_MOD_write_87 (by decide) (fun c => absurd c (by decide)) (fun _ => ?_)
      refine E_aload_n d_MOD_write_90 rfl rfl ?_
      refine E_aload_n d_MOD_write_91 rfl rfl ?_
      refine L_gi d_MOD_write_92 f_MOD_97 rfl (by decide) rfl (fr_M 0 24) ?_
      refine E_tp (y := nI (p)) (by first | exact hp | exact (up2_ne2 _ _ _ _ (by decide)).trans hp | exact ((up2_ne2 _ _ _ _ (by decide)).trans (up2_ne2 _ _ _ _ (by decide))).trans hp | exact (((up2_ne2 _ _ _ _ (by decide)).trans (up2_ne2 _ _ _ _ (by decide))).trans (up2_ne2 _ _ _ _ (by decide))).trans hp) ?_
      refine E_iload_n d_MOD_write_95 rfl ?_
      refine E_iload d_MOD_write_96 rfl ?_
      refine E_iadd d_MOD_write_98 ?_
      refine E_tp (y := nI (b + 3)) (nI_add b 3) ?_
      refine E_iload_n d_MOD_write_99 rfl ?_
      refine E_bipush (v := 8) d_MOD_write_100 (by decide) ?_
      refine E_iload d_MOD_write_102 rfl ?_
      refine E_imul d_MOD_write_104 ?_
      refine E_tp (y := nI (24)) (pk_mul 8 3) ?_
      refine E_ishr d_MOD_write_105 ?_
      refine E_V3v d_MOD_write_106 w_MOD_175 rfl (by decide) (Nat.le_of_ble_eq_true rfl) (c_putByte hp8 hs8 (by omega) (by first | exact hpg | exact g1 | exact g2 | exact g3)) ?_
      rintro _ rfl
      refine E_iinc (v := 4) d_MOD_write_109 rfl (by decide) (by decide) ?_
      refine E_goto (tgt := 83) d_MOD_write_112 (by decide) ?_
      refine E_iload d_MOD_write_83 rfl ?_
      refine E_iload d_MOD_write_85 rfl ?_
      refine E_icmp_ge (tgt := 115) d_MOD_write_87 (by decide) (fun _ => ?_) (fun c => absurd (by decide) c)
      exact E_return d_MOD_write_115 rfl rfl ⟨rfl, by rw [wrtM, ← hf, ← ea, ← hv, show now 2 = 4 from rfl, wrtF_ok (by decide) hok, nv_nI (by omega)]; rfl⟩
    · have er : rchM M p a 4 6 s m 0 27 = 0 := rch_no (n := 4) hok hp
      refine E_aload_n d_MOD_write_67 rfl rfl ?_
      refine E_iload_n d_MOD_write_68 rfl ?_
      refine E_iload d_MOD_write_69 rfl ?_
      refine E_bipush (v := 6) d_MOD_write_71 (by decide) ?_
      refine E_V3i d_MOD_write_73 w_MOD_168 rfl (by decide) (Nat.le_of_ble_eq_true rfl) (c_MOD_reach hp hp8 hm hm9 hs (by decide) hgo) ?_
      rintro _ _ ⟨rfl, rfl⟩
      refine E_tp (y := nI (0)) er ?_
      refine E_if_ne (tgt := 80) d_MOD_write_76 (by decide) (fun c => absurd (by decide) c) (fun _ => ?_)
      exact E_return d_MOD_write_79 rfl rfl ⟨rfl, by rw [wrtM, ← hf, ← ea, ← hv, show now 2 = 4 from rfl, wrtF_no (by decide) hok]; rfl⟩
  · refine E_iload_n d_MOD_write_36 rfl ?_
    refine E_iconst (v := 2) d_MOD_write_37 (by decide) ?_
    refine E_icmp_le (tgt := 47) d_MOD_write_38 (by decide) (fun c => absurd c (nI_ge (a := 2) (by omega) (by omega))) (fun _ => ?_)
    refine E_aload_n d_MOD_write_41 rfl rfl ?_
    refine E_iconst (v := 2) d_MOD_write_42 (by decide) ?_
    refine E_V1v d_MOD_write_43 w_MOD_128 rfl (by decide) (Nat.le_of_ble_eq_true rfl) (c_MOD_fault hp hp8 hm hm9) ?_
    rintro _ rfl
    exact E_return d_MOD_write_46 rfl rfl ⟨rfl, by rw [wrtM, ← hf, wrtF_bad hbad]⟩

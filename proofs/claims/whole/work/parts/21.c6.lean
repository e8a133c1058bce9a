/-! ===== the reference's compute and branch ===== -/
theorem tl_MOD_compute_0_0_0 {G : iG} {F : Nat} {C M : Nat → Nat → Int32} {Q : Option iV → iH → Prop} {p m : Nat} (hp : M 0 24 = nI p) (hp8 : p ≤ 8) (hm : M 0 15 = nI m) (hm9 : m ≤ 9) {a b y : Int32} (hQ : Q none (HW F C (cmpF M p m false 0 0 a b y))) : Ev G m_MOD_compute 4 0 0 64 [some (vR 50), some (vI 0), some (vI (nI 0)), some (vI (nI 0)), some (vI a), some (vI b), some (vI y), none, none, none] [] (HW F C M) Q := by
  refine E_iload_n d_MOD_compute_64 rfl ?_
  refine E_iconst (v := 1) d_MOD_compute_65 (by decide) ?_
  refine E_icmp_eq (tgt := 74) d_MOD_compute_66 (by decide) (fun c => absurd c (by decide)) (fun _ => ?_)
  refine E_iload_n d_MOD_compute_69 rfl ?_
  refine E_iconst (v := 5) d_MOD_compute_70 (by decide) ?_
  refine E_icmp_ne (tgt := 78) d_MOD_compute_71 (by decide) (fun _ => ?_) (fun c => absurd c (by decide))
  refine E_iconst (v := 0) d_MOD_compute_78 (by decide) ?_
  refine E_istore d_MOD_compute_79 (by decide) ?_
  refine E_iload_n d_MOD_compute_81 rfl ?_
  refine E_bipush (v := 32) d_MOD_compute_82 (by decide) ?_
  refine E_icmp_ne (tgt := 104) d_MOD_compute_84 (by decide) (fun _ => ?_) (fun c => absurd c (by decide))
  refine E_iconst (v := 0) d_MOD_compute_104 (by decide) ?_
  refine E_istore d_MOD_compute_105 (by decide) ?_
  refine E_iload_n d_MOD_compute_107 rfl ?_
  refine E_if_eq (tgt := 131) d_MOD_compute_108 (by decide) (fun _ => ?_) (fun c => absurd (by decide) c)
  refine E_iconst (v := 0) d_MOD_compute_131 (by decide) ?_
  refine E_istore d_MOD_compute_132 (by decide) ?_
  refine E_iload_n d_MOD_compute_134 rfl ?_
  refine E_if_ne (tgt := 165) d_MOD_compute_135 (by decide) (fun c => absurd (by decide) c) (fun _ => ?_)
  refine E_iload_n d_MOD_compute_138 rfl ?_
  refine E_if_eq (tgt := 155) d_MOD_compute_139 (by decide) (fun _ => ?_) (fun c => absurd (by decide) c)
  refine E_iload d_MOD_compute_155 rfl ?_
  refine E_iload d_MOD_compute_157 rfl ?_
  refine E_iadd d_MOD_compute_159 ?_
  refine E_istore d_MOD_compute_160 (by decide) ?_
  refine E_goto (tgt := 284) d_MOD_compute_162 (by decide) ?_
  refine E_aload_n d_MOD_compute_284 rfl rfl ?_
  refine E_aload_n d_MOD_compute_285 rfl rfl ?_
  refine E_V0i d_MOD_compute_286 w_MOD_131 rfl (by decide) (Nat.le_of_ble_eq_true rfl) (c_MOD_d) ?_
  rintro _ _ ⟨rfl, rfl⟩
  refine E_iload d_MOD_compute_289 rfl ?_
  refine E_V2v d_MOD_compute_291 w_MOD_135 rfl (by decide) (Nat.le_of_ble_eq_true rfl) (c_MOD_set hp hp8 (bf_lt _ _ 5)) ?_
  rintro _ rfl
  exact E_return d_MOD_compute_294 rfl rfl (by rw [cmpF_ok rfl] at hQ; exact hQ)
theorem tl_MOD_compute_0_0_32 {G : iG} {F : Nat} {C M : Nat → Nat → Int32} {Q : Option iV → iH → Prop} {p m : Nat} (hp : M 0 24 = nI p) (hp8 : p ≤ 8) (hm : M 0 15 = nI m) (hm9 : m ≤ 9) {a b y : Int32} (hQ : Q none (HW F C (cmpF M p m false 0 32 a b y))) : Ev G m_MOD_compute 4 0 0 64 [some (vR 50), some (vI 0), some (vI (nI 0)), some (vI (nI 32)), some (vI a), some (vI b), some (vI y), none, none, none] [] (HW F C M) Q := by
  refine E_iload_n d_MOD_compute_64 rfl ?_
  refine E_iconst (v := 1) d_MOD_compute_65 (by decide) ?_
  refine E_icmp_eq (tgt := 74) d_MOD_compute_66 (by decide) (fun c => absurd c (by decide)) (fun _ => ?_)
  refine E_iload_n d_MOD_compute_69 rfl ?_
  refine E_iconst (v := 5) d_MOD_compute_70 (by decide) ?_
  refine E_icmp_ne (tgt := 78) d_MOD_compute_71 (by decide) (fun _ => ?_) (fun c => absurd c (by decide))
  refine E_iconst (v := 0) d_MOD_compute_78 (by decide) ?_
  refine E_istore d_MOD_compute_79 (by decide) ?_
  refine E_iload_n d_MOD_compute_81 rfl ?_
  refine E_bipush (v := 32) d_MOD_compute_82 (by decide) ?_
  refine E_icmp_ne (tgt := 104) d_MOD_compute_84 (by decide) (fun c => absurd (by decide) c) (fun _ => ?_)
  refine E_iload_n d_MOD_compute_87 rfl ?_
  refine E_iconst (v := 5) d_MOD_compute_88 (by decide) ?_
  refine E_icmp_eq (tgt := 100) d_MOD_compute_89 (by decide) (fun c => absurd c (by decide)) (fun _ => ?_)
  refine E_iload_n d_MOD_compute_92 rfl ?_
  refine E_if_eq (tgt := 104) d_MOD_compute_93 (by decide) (fun _ => ?_) (fun c => absurd (by decide) c)
  refine E_iconst (v := 0) d_MOD_compute_104 (by decide) ?_
  refine E_istore d_MOD_compute_105 (by decide) ?_
  refine E_iload_n d_MOD_compute_107 rfl ?_
  refine E_if_eq (tgt := 131) d_MOD_compute_108 (by decide) (fun c => absurd c (by decide)) (fun _ => ?_)
  refine E_iload d_MOD_compute_111 rfl ?_
  refine E_if_ne (tgt := 131) d_MOD_compute_113 (by decide) (fun c => absurd (by decide) c) (fun _ => ?_)
  refine E_iload_n d_MOD_compute_116 rfl ?_
  refine E_if_ne (tgt := 125) d_MOD_compute_117 (by decide) (fun c => absurd (by decide) c) (fun _ => ?_)
  refine E_iload d_MOD_compute_120 rfl ?_
  refine E_if_eq (tgt := 131) d_MOD_compute_122 (by decide) (fun _ => ?_) (fun c => absurd (by decide) c)
  refine E_iconst (v := 0) d_MOD_compute_131 (by decide) ?_
  refine E_istore d_MOD_compute_132 (by decide) ?_
  refine E_iload_n d_MOD_compute_134 rfl ?_
  refine E_if_ne (tgt := 165) d_MOD_compute_135 (by decide) (fun c => absurd (by decide) c) (fun _ => ?_)
  refine E_iload_n d_MOD_compute_138 rfl ?_
  refine E_if_eq (tgt := 155) d_MOD_compute_139 (by decide) (fun _ => ?_) (fun c => absurd (by decide) c)
  refine E_iload d_MOD_compute_155 rfl ?_
  refine E_iload d_MOD_compute_157 rfl ?_
  refine E_iadd d_MOD_compute_159 ?_
  refine E_istore d_MOD_compute_160 (by decide) ?_
  refine E_goto (tgt := 284) d_MOD_compute_162 (by decide) ?_
  refine E_aload_n d_MOD_compute_284 rfl rfl ?_
  refine E_aload_n d_MOD_compute_285 rfl rfl ?_
  refine E_V0i d_MOD_compute_286 w_MOD_131 rfl (by decide) (Nat.le_of_ble_eq_true rfl) (c_MOD_d) ?_
  rintro _ _ ⟨rfl, rfl⟩
  refine E_iload d_MOD_compute_289 rfl ?_
  refine E_V2v d_MOD_compute_291 w_MOD_135 rfl (by decide) (Nat.le_of_ble_eq_true rfl) (c_MOD_set hp hp8 (bf_lt _ _ 5)) ?_
  rintro _ rfl
  exact E_return d_MOD_compute_294 rfl rfl (by rw [cmpF_ok rfl] at hQ; exact hQ)
theorem tl_MOD_compute_0_0_x {G : iG} {F : Nat} {C M : Nat → Nat → Int32} {Q : Option iV → iH → Prop} {p m : Nat} (hp : M 0 24 = nI p) (hp8 : p ≤ 8) (hm : M 0 15 = nI m) (hm9 : m ≤ 9) {a b y : Int32} {g : Nat} (g0 : ¬ g = 0) (g32 : ¬ g = 32) (gl : g < 128) (hQ : Q none (HW F C (cmpF M p m false 0 g a b y))) : Ev G m_MOD_compute 4 0 0 64 [some (vR 50), some (vI 0), some (vI (nI 0)), some (vI (nI g)), some (vI a), some (vI b), some (vI y), none, none, none] [] (HW F C M) Q := by
  refine E_iload_n d_MOD_compute_64 rfl ?_
  refine E_iconst (v := 1) d_MOD_compute_65 (by decide) ?_
  refine E_icmp_eq (tgt := 74) d_MOD_compute_66 (by decide) (fun c => absurd c (by decide)) (fun _ => ?_)
  refine E_iload_n d_MOD_compute_69 rfl ?_
  refine E_iconst (v := 5) d_MOD_compute_70 (by decide) ?_
  refine E_icmp_ne (tgt := 78) d_MOD_compute_71 (by decide) (fun _ => ?_) (fun c => absurd c (by decide))
  refine E_iconst (v := 0) d_MOD_compute_78 (by decide) ?_
  refine E_istore d_MOD_compute_79 (by decide) ?_
  refine E_iload_n d_MOD_compute_81 rfl ?_
  refine E_bipush (v := 32) d_MOD_compute_82 (by decide) ?_
  refine E_icmp_ne (tgt := 104) d_MOD_compute_84 (by decide) (fun _ => ?_) (fun c => absurd c (fun q => g32 ((nI_eq (b := 32) (by omega) (by decide)).mp q)))
  refine E_iconst (v := 0) d_MOD_compute_104 (by decide) ?_
  refine E_istore d_MOD_compute_105 (by decide) ?_
  refine E_iload_n d_MOD_compute_107 rfl ?_
  refine E_if_eq (tgt := 131) d_MOD_compute_108 (by decide) (fun c => absurd c (fun q => g0 ((nI_eq (b := 0) (by omega) (by decide)).mp q))) (fun _ => ?_)
  refine E_iload d_MOD_compute_111 rfl ?_
  refine E_if_ne (tgt := 131) d_MOD_compute_113 (by decide) (fun c => absurd (by decide) c) (fun _ => ?_)
  refine E_iload_n d_MOD_compute_116 rfl ?_
  refine E_if_ne (tgt := 125) d_MOD_compute_117 (by decide) (fun c => absurd (by decide) c) (fun _ => ?_)
  refine E_iload d_MOD_compute_120 rfl ?_
  refine E_if_eq (tgt := 131) d_MOD_compute_122 (by decide) (fun _ => ?_) (fun c => absurd (by decide) c)
  refine E_iconst (v := 0) d_MOD_compute_131 (by decide) ?_
  refine E_istore d_MOD_compute_132 (by decide) ?_
  refine E_iload_n d_MOD_compute_134 rfl ?_
  refine E_if_ne (tgt := 165) d_MOD_compute_135 (by decide) (fun c => absurd (by decide) c) (fun _ => ?_)
  refine E_iload_n d_MOD_compute_138 rfl ?_
  refine E_if_eq (tgt := 155) d_MOD_compute_139 (by decide) (fun _ => ?_) (fun c => absurd (by decide) c)
  refine E_iload d_MOD_compute_155 rfl ?_
  refine E_iload d_MOD_compute_157 rfl ?_
  refine E_iadd d_MOD_compute_159 ?_
  refine E_istore d_MOD_compute_160 (by decide) ?_
  refine E_goto (tgt := 284) d_MOD_compute_162 (by decide) ?_
  refine E_aload_n d_MOD_compute_284 rfl rfl ?_
  refine E_aload_n d_MOD_compute_285 rfl rfl ?_
  refine E_V0i d_MOD_compute_286 w_MOD_131 rfl (by decide) (Nat.le_of_ble_eq_true rfl) (c_MOD_d) ?_
  rintro _ _ ⟨rfl, rfl⟩
  refine E_iload d_MOD_compute_289 rfl ?_
  refine E_V2v d_MOD_compute_291 w_MOD_135 rfl (by decide) (Nat.le_of_ble_eq_true rfl) (c_MOD_set hp hp8 (bf_lt _ _ 5)) ?_
  rintro _ rfl
  exact E_return d_MOD_compute_294 rfl rfl (by rw [cmpF_ok (by simp [cbad, g0, g32])] at hQ; exact hQ)
theorem tl_MOD_compute_0_1_0 {G : iG} {F : Nat} {C M : Nat → Nat → Int32} {Q : Option iV → iH → Prop} {p m : Nat} (hp : M 0 24 = nI p) (hp8 : p ≤ 8) (hm : M 0 15 = nI m) (hm9 : m ≤ 9) {a b y : Int32} (hQ : Q none (HW F C (cmpF M p m false 1 0 a b y))) : Ev G m_MOD_compute 4 0 0 64 [some (vR 50), some (vI 0), some (vI (nI 1)), some (vI (nI 0)), some (vI a), some (vI b), some (vI y), none, none, none] [] (HW F C M) Q := by
  refine E_iload_n d_MOD_compute_64 rfl ?_
  refine E_iconst (v := 1) d_MOD_compute_65 (by decide) ?_
  refine E_icmp_eq (tgt := 74) d_MOD_compute_66 (by decide) (fun _ => ?_) (fun c => absurd (by decide) c)
  refine E_iconst (v := 1) d_MOD_compute_74 (by decide) ?_
  refine E_goto (tgt := 79) d_MOD_compute_75 (by decide) ?_
  refine E_istore d_MOD_compute_79 (by decide) ?_
  refine E_iload_n d_MOD_compute_81 rfl ?_
  refine E_bipush (v := 32) d_MOD_compute_82 (by decide) ?_
  refine E_icmp_ne (tgt := 104) d_MOD_compute_84 (by decide) (fun _ => ?_) (fun c => absurd c (by decide))
  refine E_iconst (v := 0) d_MOD_compute_104 (by decide) ?_
  refine E_istore d_MOD_compute_105 (by decide) ?_
  refine E_iload_n d_MOD_compute_107 rfl ?_
  refine E_if_eq (tgt := 131) d_MOD_compute_108 (by decide) (fun _ => ?_) (fun c => absurd (by decide) c)
  refine E_iconst (v := 0) d_MOD_compute_131 (by decide) ?_
  refine E_istore d_MOD_compute_132 (by decide) ?_
  refine E_iload_n d_MOD_compute_134 rfl ?_
  refine E_if_ne (tgt := 165) d_MOD_compute_135 (by decide) (fun _ => ?_) (fun c => absurd c (by decide))
  refine E_iload_n d_MOD_compute_165 rfl ?_
  refine E_iconst (v := 1) d_MOD_compute_166 (by decide) ?_
  refine E_icmp_ne (tgt := 180) d_MOD_compute_167 (by decide) (fun c => absurd (by decide) c) (fun _ => ?_)
  refine E_iload d_MOD_compute_170 rfl ?_
  refine E_iload d_MOD_compute_172 rfl ?_
  refine E_ishl d_MOD_compute_174 ?_
  refine E_istore d_MOD_compute_175 (by decide) ?_
  refine E_goto (tgt := 284) d_MOD_compute_177 (by decide) ?_
  refine E_aload_n d_MOD_compute_284 rfl rfl ?_
  refine E_aload_n d_MOD_compute_285 rfl rfl ?_
  refine E_V0i d_MOD_compute_286 w_MOD_131 rfl (by decide) (Nat.le_of_ble_eq_true rfl) (c_MOD_d) ?_
  rintro _ _ ⟨rfl, rfl⟩
  refine E_iload d_MOD_compute_289 rfl ?_
  refine E_V2v d_MOD_compute_291 w_MOD_135 rfl (by decide) (Nat.le_of_ble_eq_true rfl) (c_MOD_set hp hp8 (bf_lt _ _ 5)) ?_
  rintro _ rfl
  exact E_return d_MOD_compute_294 rfl rfl (by rw [cmpF_ok rfl] at hQ; exact hQ)
theorem tl_MOD_compute_0_1_32 {G : iG} {F : Nat} {C M : Nat → Nat → Int32} {Q : Option iV → iH → Prop} {p m : Nat} (hp : M 0 24 = nI p) (hp8 : p ≤ 8) (hm : M 0 15 = nI m) (hm9 : m ≤ 9) {a b y : Int32} (hQ : Q none (HW F C (cmpF M p m false 1 32 a b y))) : Ev G m_MOD_compute 4 0 0 64 [some (vR 50), some (vI 0), some (vI (nI 1)), some (vI (nI 32)), some (vI a), some (vI b), some (vI y), none, none, none] [] (HW F C M) Q := by
  refine E_iload_n d_MOD_compute_64 rfl ?_
  refine E_iconst (v := 1) d_MOD_compute_65 (by decide) ?_
  refine E_icmp_eq (tgt := 74) d_MOD_compute_66 (by decide) (fun _ => ?_) (fun c => absurd (by decide) c)
  refine E_iconst (v := 1) d_MOD_compute_74 (by decide) ?_
  refine E_goto (tgt := 79) d_MOD_compute_75 (by decide) ?_
  refine E_istore d_MOD_compute_79 (by decide) ?_
  refine E_iload_n d_MOD_compute_81 rfl ?_
  refine E_bipush (v := 32) d_MOD_compute_82 (by decide) ?_
  refine E_icmp_ne (tgt := 104) d_MOD_compute_84 (by decide) (fun c => absurd (by decide) c) (fun _ => ?_)
  refine E_iload_n d_MOD_compute_87 rfl ?_
  refine E_iconst (v := 5) d_MOD_compute_88 (by decide) ?_
  refine E_icmp_eq (tgt := 100) d_MOD_compute_89 (by decide) (fun c => absurd c (by decide)) (fun _ => ?_)
  refine E_iload_n d_MOD_compute_92 rfl ?_
  refine E_if_eq (tgt := 104) d_MOD_compute_93 (by decide) (fun _ => ?_) (fun c => absurd (by decide) c)
  refine E_iconst (v := 0) d_MOD_compute_104 (by decide) ?_
  refine E_istore d_MOD_compute_105 (by decide) ?_
  refine E_iload_n d_MOD_compute_107 rfl ?_
  refine E_if_eq (tgt := 131) d_MOD_compute_108 (by decide) (fun c => absurd c (by decide)) (fun _ => ?_)
  refine E_iload d_MOD_compute_111 rfl ?_
  refine E_if_ne (tgt := 131) d_MOD_compute_113 (by decide) (fun c => absurd (by decide) c) (fun _ => ?_)
  refine E_iload_n d_MOD_compute_116 rfl ?_
  refine E_if_ne (tgt := 125) d_MOD_compute_117 (by decide) (fun c => absurd (by decide) c) (fun _ => ?_)
  refine E_iload d_MOD_compute_120 rfl ?_
  refine E_if_eq (tgt := 131) d_MOD_compute_122 (by decide) (fun c => absurd c (by decide)) (fun _ => ?_)
  refine E_aload_n d_MOD_compute_125 rfl rfl ?_
  refine E_iconst (v := 2) d_MOD_compute_126 (by decide) ?_
  refine E_V1v d_MOD_compute_127 w_MOD_128 rfl (by decide) (Nat.le_of_ble_eq_true rfl) (c_MOD_fault hp hp8 hm hm9) ?_
  rintro _ rfl
  exact E_return d_MOD_compute_130 rfl rfl (by rw [cmpF_bad rfl] at hQ; exact hQ)
theorem tl_MOD_compute_0_1_x {G : iG} {F : Nat} {C M : Nat → Nat → Int32} {Q : Option iV → iH → Prop} {p m : Nat} (hp : M 0 24 = nI p) (hp8 : p ≤ 8) (hm : M 0 15 = nI m) (hm9 : m ≤ 9) {a b y : Int32} {g : Nat} (g0 : ¬ g = 0) (g32 : ¬ g = 32) (gl : g < 128) (hQ : Q none (HW F C (cmpF M p m false 1 g a b y))) : Ev G m_MOD_compute 4 0 0 64 [some (vR 50), some (vI 0), some (vI (nI 1)), some (vI (nI g)), some (vI a), some (vI b), some (vI y), none, none, none] [] (HW F C M) Q := by
  refine E_iload_n d_MOD_compute_64 rfl ?_
  refine E_iconst (v := 1) d_MOD_compute_65 (by decide) ?_
  refine E_icmp_eq (tgt := 74) d_MOD_compute_66 (by decide) (fun _ => ?_) (fun c => absurd (by decide) c)
  refine E_iconst (v := 1) d_MOD_compute_74 (by decide) ?_
  refine E_goto (tgt := 79) d_MOD_compute_75 (by decide) ?_
  refine E_istore d_MOD_compute_79 (by decide) ?_
  refine E_iload_n d_MOD_compute_81 rfl ?_
  refine E_bipush (v := 32) d_MOD_compute_82 (by decide) ?_
  refine E_icmp_ne (tgt := 104) d_MOD_compute_84 (by decide) (fun _ => ?_) (fun c => absurd c (fun q => g32 ((nI_eq (b := 32) (by omega) (by decide)).mp q)))
  refine E_iconst (v := 0) d_MOD_compute_104 (by decide) ?_
  refine E_istore d_MOD_compute_105 (by decide) ?_
  refine E_iload_n d_MOD_compute_107 rfl ?_
  refine E_if_eq (tgt := 131) d_MOD_compute_108 (by decide) (fun c => absurd c (fun q => g0 ((nI_eq (b := 0) (by omega) (by decide)).mp q))) (fun _ => ?_)
  refine E_iload d_MOD_compute_111 rfl ?_
  refine E_if_ne (tgt := 131) d_MOD_compute_113 (by decide) (fun c => absurd (by decide) c) (fun _ => ?_)
  refine E_iload_n d_MOD_compute_116 rfl ?_
  refine E_if_ne (tgt := 125) d_MOD_compute_117 (by decide) (fun c => absurd (by decide) c) (fun _ => ?_)
  refine E_iload d_MOD_compute_120 rfl ?_
  refine E_if_eq (tgt := 131) d_MOD_compute_122 (by decide) (fun c => absurd c (by decide)) (fun _ => ?_)
  refine E_aload_n d_MOD_compute_125 rfl rfl ?_
  refine E_iconst (v := 2) d_MOD_compute_126 (by decide) ?_
  refine E_V1v d_MOD_compute_127 w_MOD_128 rfl (by decide) (Nat.le_of_ble_eq_true rfl) (c_MOD_fault hp hp8 hm hm9) ?_
  rintro _ rfl
  exact E_return d_MOD_compute_130 rfl rfl (by rw [cmpF_bad (by simp [cbad, g0, g32])] at hQ; exact hQ)
theorem tl_MOD_compute_0_2_0 {G : iG} {F : Nat} {C M : Nat → Nat → Int32} {Q : Option iV → iH → Prop} {p m : Nat} (hp : M 0 24 = nI p) (hp8 : p ≤ 8) (hm : M 0 15 = nI m) (hm9 : m ≤ 9) {a b y : Int32} (hQ : Q none (HW F C (cmpF M p m false 2 0 a b y))) : Ev G m_MOD_compute 4 0 0 64 [some (vR 50), some (vI 0), some (vI (nI 2)), some (vI (nI 0)), some (vI a), some (vI b), some (vI y), none, none, none] [] (HW F C M) Q := by
  refine E_iload_n d_MOD_compute_64 rfl ?_
  refine E_iconst (v := 1) d_MOD_compute_65 (by decide) ?_
  refine E_icmp_eq (tgt := 74) d_MOD_compute_66 (by decide) (fun c => absurd c (by decide)) (fun _ => ?_)
  refine E_iload_n d_MOD_compute_69 rfl ?_
  refine E_iconst (v := 5) d_MOD_compute_70 (by decide) ?_
  refine E_icmp_ne (tgt := 78) d_MOD_compute_71 (by decide) (fun _ => ?_) (fun c => absurd c (by decide))
  refine E_iconst (v := 0) d_MOD_compute_78 (by decide) ?_
  refine E_istore d_MOD_compute_79 (by decide) ?_
  refine E_iload_n d_MOD_compute_81 rfl ?_
  refine E_bipush (v := 32) d_MOD_compute_82 (by decide) ?_
  refine E_icmp_ne (tgt := 104) d_MOD_compute_84 (by decide) (fun _ => ?_) (fun c => absurd c (by decide))
  refine E_iconst (v := 0) d_MOD_compute_104 (by decide) ?_
  refine E_istore d_MOD_compute_105 (by decide) ?_
  refine E_iload_n d_MOD_compute_107 rfl ?_
  refine E_if_eq (tgt := 131) d_MOD_compute_108 (by decide) (fun _ => ?_) (fun c => absurd (by decide) c)
  refine E_iconst (v := 0) d_MOD_compute_131 (by decide) ?_
  refine E_istore d_MOD_compute_132 (by decide) ?_
  refine E_iload_n d_MOD_compute_134 rfl ?_
  refine E_if_ne (tgt := 165) d_MOD_compute_135 (by decide) (fun _ => ?_) (fun c => absurd c (by decide))
  refine E_iload_n d_MOD_compute_165 rfl ?_
  refine E_iconst (v := 1) d_MOD_compute_166 (by decide) ?_
  refine E_icmp_ne (tgt := 180) d_MOD_compute_167 (by decide) (fun _ => ?_) (fun c => absurd c (by decide))
  refine E_iload_n d_MOD_compute_180 rfl ?_
  refine E_iconst (v := 2) d_MOD_compute_181 (by decide) ?_
  refine E_icmp_eq (tgt := 190) d_MOD_compute_182 (by decide) (fun _ => ?_) (fun c => absurd (by decide) c)
  refine E_iload d_MOD_compute_190 rfl ?_
  refine E_iload d_MOD_compute_192 rfl ?_
  refine E_iload_n d_MOD_compute_194 rfl ?_
  refine E_iconst (v := 2) d_MOD_compute_195 (by decide) ?_
  refine E_icmp_ne (tgt := 203) d_MOD_compute_196 (by decide) (fun c => absurd (by decide) c) (fun _ => ?_)
  refine E_iconst (v := 1) d_MOD_compute_199 (by decide) ?_
  refine E_goto (tgt := 204) d_MOD_compute_200 (by decide) ?_
  refine E_S3i d_MOD_compute_204 w_MOD_164 (by decide) (Nat.le_of_ble_eq_true rfl) (c_MOD_less (sg := true)) ?_
  rintro _ _ ⟨rfl, rfl⟩
  refine E_if_eq (tgt := 214) d_MOD_compute_207 (by decide) (fun c207 => ?_) (fun c207 => ?_)
  · have hX := b2i_eq0 c207
    refine E_iconst (v := 0) d_MOD_compute_214 (by decide) ?_
    refine E_istore d_MOD_compute_215 (by decide) ?_
    refine E_goto (tgt := 284) d_MOD_compute_217 (by decide) ?_
    refine E_aload_n d_MOD_compute_284 rfl rfl ?_
    refine E_aload_n d_MOD_compute_285 rfl rfl ?_
    refine E_V0i d_MOD_compute_286 w_MOD_131 rfl (by decide) (Nat.le_of_ble_eq_true rfl) (c_MOD_d) ?_
    rintro _ _ ⟨rfl, rfl⟩
    refine E_iload d_MOD_compute_289 rfl ?_
    refine E_V2v d_MOD_compute_291 w_MOD_135 rfl (by decide) (Nat.le_of_ble_eq_true rfl) (c_MOD_set hp hp8 (bf_lt _ _ 5)) ?_
    rintro _ rfl
    exact E_return d_MOD_compute_294 rfl rfl (by rw [cmpF_ok rfl] at hQ; simp only [cval, hX, b2i_t, b2i_f] at hQ; exact hQ)
  · have hX := b2i_ne0 c207
    refine E_iconst (v := 1) d_MOD_compute_210 (by decide) ?_
    refine E_goto (tgt := 215) d_MOD_compute_211 (by decide) ?_
    refine E_istore d_MOD_compute_215 (by decide) ?_
    refine E_goto (tgt := 284) d_MOD_compute_217 (by decide) ?_
    refine E_aload_n d_MOD_compute_284 rfl rfl ?_
    refine E_aload_n d_MOD_compute_285 rfl rfl ?_
    refine E_V0i d_MOD_compute_286 w_MOD_131 rfl (by decide) (Nat.le_of_ble_eq_true rfl) (c_MOD_d) ?_
    rintro _ _ ⟨rfl, rfl⟩
    refine E_iload d_MOD_compute_289 rfl ?_
    refine E_V2v d_MOD_compute_291 w_MOD_135 rfl (by decide) (Nat.le_of_ble_eq_true rfl) (c_MOD_set hp hp8 (bf_lt _ _ 5)) ?_
    rintro _ rfl
    exact E_return d_MOD_compute_294 rfl rfl (by rw [cmpF_ok rfl] at hQ; simp only [cval, hX, b2i_t, b2i_f] at hQ; exact hQ)
theorem tl_MOD_compute_0_2_32 {G : iG} {F : Nat} {C M : Nat → Nat → Int32} {Q : Option iV → iH → Prop} {p m : Nat} (hp : M 0 24 = nI p) (hp8 : p ≤ 8) (hm : M 0 15 = nI m) (hm9 : m ≤ 9) {a b y : Int32} (hQ : Q none (HW F C (cmpF M p m false 2 32 a b y))) : Ev G m_MOD_compute 4 0 0 64 [some (vR 50), some (vI 0), some (vI (nI 2)), some (vI (nI 32)), some (vI a), some (vI b), some (vI y), none, none, none] [] (HW F C M) Q := by
  refine E_iload_n d_MOD_compute_64 rfl ?_
  refine E_iconst (v := 1) d_MOD_compute_65 (by decide) ?_
  refine E_icmp_eq (tgt := 74) d_MOD_compute_66 (by decide) (fun c => absurd c (by decide)) (fun _ => ?_)
  refine E_iload_n d_MOD_compute_69 rfl ?_
  refine E_iconst (v := 5) d_MOD_compute_70 (by decide) ?_
  refine E_icmp_ne (tgt := 78) d_MOD_compute_71 (by decide) (fun _ => ?_) (fun c => absurd c (by decide))
  refine E_iconst (v := 0) d_MOD_compute_78 (by decide) ?_
  refine E_istore d_MOD_compute_79 (by decide) ?_
  refine E_iload_n d_MOD_compute_81 rfl ?_
  refine E_bipush (v := 32) d_MOD_compute_82 (by decide) ?_
  refine E_icmp_ne (tgt := 104) d_MOD_compute_84 (by decide) (fun c => absurd (by decide) c) (fun _ => ?_)
  refine E_iload_n d_MOD_compute_87 rfl ?_
  refine E_iconst (v := 5) d_MOD_compute_88 (by decide) ?_
  refine E_icmp_eq (tgt := 100) d_MOD_compute_89 (by decide) (fun c => absurd c (by decide)) (fun _ => ?_)
  refine E_iload_n d_MOD_compute_92 rfl ?_
  refine E_if_eq (tgt := 104) d_MOD_compute_93 (by decide) (fun _ => ?_) (fun c => absurd (by decide) c)
  refine E_iconst (v := 0) d_MOD_compute_104 (by decide) ?_
  refine E_istore d_MOD_compute_105 (by decide) ?_
  refine E_iload_n d_MOD_compute_107 rfl ?_
  refine E_if_eq (tgt := 131) d_MOD_compute_108 (by decide) (fun c => absurd c (by decide)) (fun _ => ?_)
  refine E_iload d_MOD_compute_111 rfl ?_
  refine E_if_ne (tgt := 131) d_MOD_compute_113 (by decide) (fun c => absurd (by decide) c) (fun _ => ?_)
  refine E_iload_n d_MOD_compute_116 rfl ?_
  refine E_if_ne (tgt := 125) d_MOD_compute_117 (by decide) (fun c => absurd (by decide) c) (fun _ => ?_)
  refine E_iload d_MOD_compute_120 rfl ?_
  refine E_if_eq (tgt := 131) d_MOD_compute_122 (by decide) (fun _ => ?_) (fun c => absurd (by decide) c)
  refine E_iconst (v := 0) d_MOD_compute_131 (by decide) ?_
  refine E_istore d_MOD_compute_132 (by decide) ?_
  refine E_iload_n d_MOD_compute_134 rfl ?_
  refine E_if_ne (tgt := 165) d_MOD_compute_135 (by decide) (fun _ => ?_) (fun c => absurd c (by decide))
  refine E_iload_n d_MOD_compute_165 rfl ?_
  refine E_iconst (v := 1) d_MOD_compute_166 (by decide) ?_
  refine E_icmp_ne (tgt := 180) d_MOD_compute_167 (by decide) (fun _ => ?_) (fun c => absurd c (by decide))
  refine E_iload_n d_MOD_compute_180 rfl ?_
  refine E_iconst (v := 2) d_MOD_compute_181 (by decide) ?_
  refine E_icmp_eq (tgt := 190) d_MOD_compute_182 (by decide) (fun _ => ?_) (fun c => absurd (by decide) c)
  refine E_iload d_MOD_compute_190 rfl ?_
  refine E_iload d_MOD_compute_192 rfl ?_
  refine E_iload_n d_MOD_compute_194 rfl ?_
  refine E_iconst (v := 2) d_MOD_compute_195 (by decide) ?_
  refine E_icmp_ne (tgt := 203) d_MOD_compute_196 (by decide) (fun c => absurd (by decide) c) (fun _ => ?_)
  refine E_iconst (v := 1) d_MOD_compute_199 (by decide) ?_
  refine E_goto (tgt := 204) d_MOD_compute_200 (by decide) ?_
  refine E_S3i d_MOD_compute_204 w_MOD_164 (by decide) (Nat.le_of_ble_eq_true rfl) (c_MOD_less (sg := true)) ?_
  rintro _ _ ⟨rfl, rfl⟩
  refine E_if_eq (tgt := 214) d_MOD_compute_207 (by decide) (fun c207 => ?_) (fun c207 => ?_)
  · have hX := b2i_eq0 c207
    refine E_iconst (v := 0) d_MOD_compute_214 (by decide) ?_
    refine E_istore d_MOD_compute_215 (by decide) ?_
    refine E_goto (tgt := 284) d_MOD_compute_217 (by decide) ?_
    refine E_aload_n d_MOD_compute_284 rfl rfl ?_
    refine E_aload_n d_MOD_compute_285 rfl rfl ?_
    refine E_V0i d_MOD_compute_286 w_MOD_131 rfl (by decide) (Nat.le_of_ble_eq_true rfl) (c_MOD_d) ?_
    rintro _ _ ⟨rfl, rfl⟩
    refine E_iload d_MOD_compute_289 rfl ?_
    refine E_V2v d_MOD_compute_291 w_MOD_135 rfl (by decide) (Nat.le_of_ble_eq_true rfl) (c_MOD_set hp hp8 (bf_lt _ _ 5)) ?_
    rintro _ rfl
    exact E_return d_MOD_compute_294 rfl rfl (by rw [cmpF_ok rfl] at hQ; simp only [cval, hX, b2i_t, b2i_f] at hQ; exact hQ)
  · have hX := b2i_ne0 c207
    refine E_iconst (v := 1) d_MOD_compute_210 (by decide) ?_
    refine E_goto (tgt := 215) d_MOD_compute_211 (by decide) ?_
    refine E_istore d_MOD_compute_215 (by decide) ?_
    refine E_goto (tgt := 284) d_MOD_compute_217 (by decide) ?_
    refine E_aload_n d_MOD_compute_284 rfl rfl ?_
    refine E_aload_n d_MOD_compute_285 rfl rfl ?_
    refine E_V0i d_MOD_compute_286 w_MOD_131 rfl (by decide) (Nat.le_of_ble_eq_true rfl) (c_MOD_d) ?_
    rintro _ _ ⟨rfl, rfl⟩
    refine E_iload d_MOD_compute_289 rfl ?_
    refine E_V2v d_MOD_compute_291 w_MOD_135 rfl (by decide) (Nat.le_of_ble_eq_true rfl) (c_MOD_set hp hp8 (bf_lt _ _ 5)) ?_
    rintro _ rfl
    exact E_return d_MOD_compute_294 rfl rfl (by rw [cmpF_ok rfl] at hQ; simp only [cval, hX, b2i_t, b2i_f] at hQ; exact hQ)
theorem tl_MOD_compute_0_2_x {G : iG} {F : Nat} {C M : Nat → Nat → Int32} {Q : Option iV → iH → Prop} {p m : Nat} (hp : M 0 24 = nI p) (hp8 : p ≤ 8) (hm : M 0 15 = nI m) (hm9 : m ≤ 9) {a b y : Int32} {g : Nat} (g0 : ¬ g = 0) (g32 : ¬ g = 32) (gl : g < 128) (hQ : Q none (HW F C (cmpF M p m false 2 g a b y))) : Ev G m_MOD_compute 4 0 0 64 [some (vR 50), some (vI 0), some (vI (nI 2)), some (vI (nI g)), some (vI a), some (vI b), some (vI y), none, none, none] [] (HW F C M) Q := by
  refine E_iload_n d_MOD_compute_64 rfl ?_
  refine E_iconst (v := 1) d_MOD_compute_65 (by decide) ?_
  refine E_icmp_eq (tgt := 74) d_MOD_compute_66 (by decide) (fun c => absurd c (by decide)) (fun _ => ?_)
  refine E_iload_n d_MOD_compute_69 rfl ?_
  refine E_iconst (v := 5) d_MOD_compute_70 (by decide) ?_
  refine E_icmp_ne (tgt := 78) d_MOD_compute_71 (by decide) (fun _ => ?_) (fun c => absurd c (by decide))
  refine E_iconst (v := 0) d_MOD_compute_78 (by decide) ?_
  refine E_istore d_MOD_compute_79 (by decide) ?_
  refine E_iload_n d_MOD_compute_81 rfl ?_
  refine E_bipush (v := 32) d_MOD_compute_82 (by decide) ?_
  refine E_icmp_ne (tgt := 104) d_MOD_compute_84 (by decide) (fun _ => ?_) (fun c => absurd c (fun q => g32 ((nI_eq (b := 32) (by omega) (by decide)).mp q)))
  refine E_iconst (v := 0) d_MOD_compute_104 (by decide) ?_
  refine E_istore d_MOD_compute_105 (by decide) ?_
  refine E_iload_n d_MOD_compute_107 rfl ?_
  refine E_if_eq (tgt := 131) d_MOD_compute_108 (by decide) (fun c => absurd c (fun q => g0 ((nI_eq (b := 0) (by omega) (by decide)).mp q))) (fun _ => ?_)
  refine E_iload d_MOD_compute_111 rfl ?_
  refine E_if_ne (tgt := 131) d_MOD_compute_113 (by decide) (fun c => absurd (by decide) c) (fun _ => ?_)
  refine E_iload_n d_MOD_compute_116 rfl ?_
  refine E_if_ne (tgt := 125) d_MOD_compute_117 (by decide) (fun c => absurd (by decide) c) (fun _ => ?_)
  refine E_iload d_MOD_compute_120 rfl ?_
  refine E_if_eq (tgt := 131) d_MOD_compute_122 (by decide) (fun _ => ?_) (fun c => absurd (by decide) c)
  refine E_iconst (v := 0) d_MOD_compute_131 (by decide) ?_
  refine E_istore d_MOD_compute_132 (by decide) ?_
  refine E_iload_n d_MOD_compute_134 rfl ?_
  refine E_if_ne (tgt := 165) d_MOD_compute_135 (by decide) (fun _ => ?_) (fun c => absurd c (by decide))
  refine E_iload_n d_MOD_compute_165 rfl ?_
  refine E_iconst (v := 1) d_MOD_compute_166 (by decide) ?_
  refine E_icmp_ne (tgt := 180) d_MOD_compute_167 (by decide) (fun _ => ?_) (fun c => absurd c (by decide))
  refine E_iload_n d_MOD_compute_180 rfl ?_
  refine E_iconst (v := 2) d_MOD_compute_181 (by decide) ?_
  refine E_icmp_eq (tgt := 190) d_MOD_compute_182 (by decide) (fun _ => ?_) (fun c => absurd (by decide) c)
  refine E_iload d_MOD_compute_190 rfl ?_
  refine E_iload d_MOD_compute_192 rfl ?_
  refine E_iload_n d_MOD_compute_194 rfl ?_
  refine E_iconst (v := 2) d_MOD_compute_195 (by decide) ?_
  refine E_icmp_ne (tgt := 203) d_MOD_compute_196 (by decide) (fun c => absurd (by decide) c) (fun _ => ?_)
  refine E_iconst (v := 1) d_MOD_compute_199 (by decide) ?_
  refine E_goto (tgt := 204) d_MOD_compute_200 (by decide) ?_
  refine E_S3i d_MOD_compute_204 w_MOD_164 (by decide) (Nat.le_of_ble_eq_true rfl) (c_MOD_less (sg := true)) ?_
  rintro _ _ ⟨rfl, rfl⟩
  refine E_if_eq (tgt := 214) d_MOD_compute_207 (by decide) (fun c207 => ?_) (fun c207 => ?_)
  · have hX := b2i_eq0 c207
    refine E_iconst (v := 0) d_MOD_compute_214 (by decide) ?_
    refine E_istore d_MOD_compute_215 (by decide) ?_
    refine E_goto (tgt := 284) d_MOD_compute_217 (by decide) ?_
    refine E_aload_n d_MOD_compute_284 rfl rfl ?_
    refine E_aload_n d_MOD_compute_285 rfl rfl ?_
    refine E_V0i d_MOD_compute_286 w_MOD_131 rfl (by decide) (Nat.le_of_ble_eq_true rfl) (c_MOD_d) ?_
    rintro _ _ ⟨rfl, rfl⟩
    refine E_iload d_MOD_compute_289 rfl ?_
    refine E_V2v d_MOD_compute_291 w_MOD_135 rfl (by decide) (Nat.le_of_ble_eq_true rfl) (c_MOD_set hp hp8 (bf_lt _ _ 5)) ?_
    rintro _ rfl
    exact E_return d_MOD_compute_294 rfl rfl (by rw [cmpF_ok (by simp [cbad, g0, g32])] at hQ; simp only [cval, hX, b2i_t, b2i_f] at hQ; exact hQ)
  · have hX := b2i_ne0 c207
    refine E_iconst (v := 1) d_MOD_compute_210 (by decide) ?_
    refine E_goto (tgt := 215) d_MOD_compute_211 (by decide) ?_
    refine E_istore d_MOD_compute_215 (by decide) ?_
    refine E_goto (tgt := 284) d_MOD_compute_217 (by decide) ?_
    refine E_aload_n d_MOD_compute_284 rfl rfl ?_
    refine E_aload_n d_MOD_compute_285 rfl rfl ?_
    refine E_V0i d_MOD_compute_286 w_MOD_131 rfl (by decide) (Nat.le_of_ble_eq_true rfl) (c_MOD_d) ?_
    rintro _ _ ⟨rfl, rfl⟩
    refine E_iload d_MOD_compute_289 rfl ?_
    refine E_V2v d_MOD_compute_291 w_MOD_135 rfl (by decide) (Nat.le_of_ble_eq_true rfl) (c_MOD_set hp hp8 (bf_lt _ _ 5)) ?_
    rintro _ rfl
    exact E_return d_MOD_compute_294 rfl rfl (by rw [cmpF_ok (by simp [cbad, g0, g32])] at hQ; simp only [cval, hX, b2i_t, b2i_f] at hQ; exact hQ)
theorem tl_MOD_compute_0_3_0 {G : iG} {F : Nat} {C M : Nat → Nat → Int32} {Q : Option iV → iH → Prop} {p m : Nat} (hp : M 0 24 = nI p) (hp8 : p ≤ 8) (hm : M 0 15 = nI m) (hm9 : m ≤ 9) {a b y : Int32} (hQ : Q none (HW F C (cmpF M p m false 3 0 a b y))) : Ev G m_MOD_compute 4 0 0 64 [some (vR 50), some (vI 0), some (vI (nI 3)), some (vI (nI 0)), some (vI a), some (vI b), some (vI y), none, none, none] [] (HW F C M) Q := by
  refine E_iload_n d_MOD_compute_64 rfl ?_
  refine E_iconst (v := 1) d_MOD_compute_65 (by decide) ?_
  refine E_icmp_eq (tgt := 74) d_MOD_compute_66 (by decide) (fun c => absurd c (by decide)) (fun _ => ?_)
  refine E_iload_n d_MOD_compute_69 rfl ?_
  refine E_iconst (v := 5) d_MOD_compute_70 (by decide) ?_
  refine E_icmp_ne (tgt := 78) d_MOD_compute_71 (by decide) (fun _ => ?_) (fun c => absurd c (by decide))
  refine E_iconst (v := 0) d_MOD_compute_78 (by decide) ?_
  refine E_istore d_MOD_compute_79 (by decide) ?_
  refine E_iload_n d_MOD_compute_81 rfl ?_
  refine E_bipush (v := 32) d_MOD_compute_82 (by decide) ?_
  refine E_icmp_ne (tgt := 104) d_MOD_compute_84 (by decide) (fun _ => ?_) (fun c => absurd c (by decide))
  refine E_iconst (v := 0) d_MOD_compute_104 (by decide) ?_
  refine E_istore d_MOD_compute_105 (by decide) ?_
  refine E_iload_n d_MOD_compute_107 rfl ?_
  refine E_if_eq (tgt := 131) d_MOD_compute_108 (by decide) (fun _ => ?_) (fun c => absurd (by decide) c)
  refine E_iconst (v := 0) d_MOD_compute_131 (by decide) ?_
  refine E_istore d_MOD_compute_132 (by decide) ?_
  refine E_iload_n d_MOD_compute_134 rfl ?_
  refine E_if_ne (tgt := 165) d_MOD_compute_135 (by decide) (fun _ => ?_) (fun c => absurd c (by decide))
  refine E_iload_n d_MOD_compute_165 rfl ?_
  refine E_iconst (v := 1) d_MOD_compute_166 (by decide) ?_
  refine E_icmp_ne (tgt := 180) d_MOD_compute_167 (by decide) (fun _ => ?_) (fun c => absurd c (by decide))
  refine E_iload_n d_MOD_compute_180 rfl ?_
  refine E_iconst (v := 2) d_MOD_compute_181 (by decide) ?_
  refine E_icmp_eq (tgt := 190) d_MOD_compute_182 (by decide) (fun c => absurd c (by decide)) (fun _ => ?_)
  refine E_iload_n d_MOD_compute_185 rfl ?_
  refine E_iconst (v := 3) d_MOD_compute_186 (by decide) ?_
  refine E_icmp_ne (tgt := 220) d_MOD_compute_187 (by decide) (fun c => absurd (by decide) c) (fun _ => ?_)
  refine E_iload d_MOD_compute_190 rfl ?_
  refine E_iload d_MOD_compute_192 rfl ?_
  refine E_iload_n d_MOD_compute_194 rfl ?_
  refine E_iconst (v := 2) d_MOD_compute_195 (by decide) ?_
  refine E_icmp_ne (tgt := 203) d_MOD_compute_196 (by decide) (fun _ => ?_) (fun c => absurd c (by decide))
  refine E_iconst (v := 0) d_MOD_compute_203 (by decide) ?_
  refine E_S3i d_MOD_compute_204 w_MOD_164 (by decide) (Nat.le_of_ble_eq_true rfl) (c_MOD_less (sg := false)) ?_
  rintro _ _ ⟨rfl, rfl⟩
  refine E_if_eq (tgt := 214) d_MOD_compute_207 (by decide) (fun c207 => ?_) (fun c207 => ?_)
  · have hX := b2i_eq0 c207
    refine E_iconst (v := 0) d_MOD_compute_214 (by decide) ?_
    refine E_istore d_MOD_compute_215 (by decide) ?_
    refine E_goto (tgt := 284) d_MOD_compute_217 (by decide) ?_
    refine E_aload_n d_MOD_compute_284 rfl rfl ?_
    refine E_aload_n d_MOD_compute_285 rfl rfl ?_
    refine E_V0i d_MOD_compute_286 w_MOD_131 rfl (by decide) (Nat.le_of_ble_eq_true rfl) (c_MOD_d) ?_
    rintro _ _ ⟨rfl, rfl⟩
    refine E_iload d_MOD_compute_289 rfl ?_
    refine E_V2v d_MOD_compute_291 w_MOD_135 rfl (by decide) (Nat.le_of_ble_eq_true rfl) (c_MOD_set hp hp8 (bf_lt _ _ 5)) ?_
    rintro _ rfl
    exact E_return d_MOD_compute_294 rfl rfl (by rw [cmpF_ok rfl] at hQ; simp only [cval, hX, b2i_t, b2i_f] at hQ; exact hQ)
  · have hX := b2i_ne0 c207
    refine E_iconst (v := 1) d_MOD_compute_210 (by decide) ?_
    refine E_goto (tgt := 215) d_MOD_compute_211 (by decide) ?_
    refine E_istore d_MOD_compute_215 (by decide) ?_
    refine E_goto (tgt := 284) d_MOD_compute_217 (by decide) ?_
    refine E_aload_n d_MOD_compute_284 rfl rfl ?_
    refine E_aload_n d_MOD_compute_285 rfl rfl ?_
    refine E_V0i d_MOD_compute_286 w_MOD_131 rfl (by decide) (Nat.le_of_ble_eq_true rfl) (c_MOD_d) ?_
    rintro _ _ ⟨rfl, rfl⟩
    refine E_iload d_MOD_compute_289 rfl ?_
    refine E_V2v d_MOD_compute_291 w_MOD_135 rfl (by decide) (Nat.le_of_ble_eq_true rfl) (c_MOD_set hp hp8 (bf_lt _ _ 5)) ?_
    rintro _ rfl
    exact E_return d_MOD_compute_294 rfl rfl (by rw [cmpF_ok rfl] at hQ; simp only [cval, hX, b2i_t, b2i_f] at hQ; exact hQ)
theorem tl_MOD_compute_0_3_32 {G : iG} {F : Nat} {C M : Nat → Nat → Int32} {Q : Option iV → iH → Prop} {p m : Nat} (hp : M 0 24 = nI p) (hp8 : p ≤ 8) (hm : M 0 15 = nI m) (hm9 : m ≤ 9) {a b y : Int32} (hQ : Q none (HW F C (cmpF M p m false 3 32 a b y))) : Ev G m_MOD_compute 4 0 0 64 [some (vR 50), some (vI 0), some (vI (nI 3)), some (vI (nI 32)), some (vI a), some (vI b), some (vI y), none, none, none] [] (HW F C M) Q := by
  refine E_iload_n d_MOD_compute_64 rfl ?_
  refine E_iconst (v := 1) d_MOD_compute_65 (by decide) ?_
  refine E_icmp_eq (tgt := 74) d_MOD_compute_66 (by decide) (fun c => absurd c (by decide)) (fun _ => ?_)
  refine E_iload_n d_MOD_compute_69 rfl ?_
  refine E_iconst (v := 5) d_MOD_compute_70 (by decide) ?_
  refine E_icmp_ne (tgt := 78) d_MOD_compute_71 (by decide) (fun _ => ?_) (fun c => absurd c (by decide))
  refine E_iconst (v := 0) d_MOD_compute_78 (by decide) ?_
  refine E_istore d_MOD_compute_79 (by decide) ?_
  refine E_iload_n d_MOD_compute_81 rfl ?_
  refine E_bipush (v := 32) d_MOD_compute_82 (by decide) ?_
  refine E_icmp_ne (tgt := 104) d_MOD_compute_84 (by decide) (fun c => absurd (by decide) c) (fun _ => ?_)
  refine E_iload_n d_MOD_compute_87 rfl ?_
  refine E_iconst (v := 5) d_MOD_compute_88 (by decide) ?_
  refine E_icmp_eq (tgt := 100) d_MOD_compute_89 (by decide) (fun c => absurd c (by decide)) (fun _ => ?_)
  refine E_iload_n d_MOD_compute_92 rfl ?_
  refine E_if_eq (tgt := 104) d_MOD_compute_93 (by decide) (fun _ => ?_) (fun c => absurd (by decide) c)
  refine E_iconst (v := 0) d_MOD_compute_104 (by decide) ?_
  refine E_istore d_MOD_compute_105 (by decide) ?_
  refine E_iload_n d_MOD_compute_107 rfl ?_
  refine E_if_eq (tgt := 131) d_MOD_compute_108 (by decide) (fun c => absurd c (by decide)) (fun _ => ?_)
  refine E_iload d_MOD_compute_111 rfl ?_
  refine E_if_ne (tgt := 131) d_MOD_compute_113 (by decide) (fun c => absurd (by decide) c) (fun _ => ?_)
  refine E_iload_n d_MOD_compute_116 rfl ?_
  refine E_if_ne (tgt := 125) d_MOD_compute_117 (by decide) (fun c => absurd (by decide) c) (fun _ => ?_)
  refine E_iload d_MOD_compute_120 rfl ?_
  refine E_if_eq (tgt := 131) d_MOD_compute_122 (by decide) (fun _ => ?_) (fun c => absurd (by decide) c)
  refine E_iconst (v := 0) d_MOD_compute_131 (by decide) ?_
  refine E_istore d_MOD_compute_132 (by decide) ?_
  refine E_iload_n d_MOD_compute_134 rfl ?_
  refine E_if_ne (tgt := 165) d_MOD_compute_135 (by decide) (fun _ => ?_) (fun c => absurd c (by decide))
  refine E_iload_n d_MOD_compute_165 rfl ?_
  refine E_iconst (v := 1) d_MOD_compute_166 (by decide) ?_
  refine E_icmp_ne (tgt := 180) d_MOD_compute_167 (by decide) (fun _ => ?_) (fun c => absurd c (by decide))
  refine E_iload_n d_MOD_compute_180 rfl ?_
  refine E_iconst (v := 2) d_MOD_compute_181 (by decide) ?_
  refine E_icmp_eq (tgt := 190) d_MOD_compute_182 (by decide) (fun c => absurd c (by decide)) (fun _ => ?_)
  refine E_iload_n d_MOD_compute_185 rfl ?_
  refine E_iconst (v := 3) d_MOD_compute_186 (by decide) ?_
  refine E_icmp_ne (tgt := 220) d_MOD_compute_187 (by decide) (fun c => absurd (by decide) c) (fun _ => ?_)
  refine E_iload d_MOD_compute_190 rfl ?_
  refine E_iload d_MOD_compute_192 rfl ?_
  refine E_iload_n d_MOD_compute_194 rfl ?_
  refine E_iconst (v := 2) d_MOD_compute_195 (by decide) ?_
  refine E_icmp_ne (tgt := 203) d_MOD_compute_196 (by decide) (fun _ => ?_) (fun c => absurd c (by decide))
  refine E_iconst (v := 0) d_MOD_compute_203 (by decide) ?_
  refine E_S3i d_MOD_compute_204 w_MOD_164 (by decide) (Nat.le_of_ble_eq_true rfl) (c_MOD_less (sg := false)) ?_
  rintro _ _ ⟨rfl, rfl⟩
  refine E_if_eq (tgt := 214) d_MOD_compute_207 (by decide) (fun c207 => ?_) (fun c207 => ?_)
  · have hX := b2i_eq0 c207
    refine E_iconst (v := 0) d_MOD_compute_214 (by decide) ?_
    refine E_istore d_MOD_compute_215 (by decide) ?_
    refine E_goto (tgt := 284) d_MOD_compute_217 (by decide) ?_
    refine E_aload_n d_MOD_compute_284 rfl rfl ?_
    refine E_aload_n d_MOD_compute_285 rfl rfl ?_
    refine E_V0i d_MOD_compute_286 w_MOD_131 rfl (by decide) (Nat.le_of_ble_eq_true rfl) (c_MOD_d) ?_
    rintro _ _ ⟨rfl, rfl⟩
    refine E_iload d_MOD_compute_289 rfl ?_
    refine E_V2v d_MOD_compute_291 w_MOD_135 rfl (by decide) (Nat.le_of_ble_eq_true rfl) (c_MOD_set hp hp8 (bf_lt _ _ 5)) ?_
    rintro _ rfl
    exact E_return d_MOD_compute_294 rfl rfl (by rw [cmpF_ok rfl] at hQ; simp only [cval, hX, b2i_t, b2i_f] at hQ; exact hQ)
  · have hX := b2i_ne0 c207
    refine E_iconst (v := 1) d_MOD_compute_210 (by decide) ?_
    refine E_goto (tgt := 215) d_MOD_compute_211 (by decide) ?_
    refine E_istore d_MOD_compute_215 (by decide) ?_
    refine E_goto (tgt := 284) d_MOD_compute_217 (by decide) ?_
    refine E_aload_n d_MOD_compute_284 rfl rfl ?_
    refine E_aload_n d_MOD_compute_285 rfl rfl ?_
    refine E_V0i d_MOD_compute_286 w_MOD_131 rfl (by decide) (Nat.le_of_ble_eq_true rfl) (c_MOD_d) ?_
    rintro _ _ ⟨rfl, rfl⟩
    refine E_iload d_MOD_compute_289 rfl ?_
    refine E_V2v d_MOD_compute_291 w_MOD_135 rfl (by decide) (Nat.le_of_ble_eq_true rfl) (c_MOD_set hp hp8 (bf_lt _ _ 5)) ?_
    rintro _ rfl
    exact E_return d_MOD_compute_294 rfl rfl (by rw [cmpF_ok rfl] at hQ; simp only [cval, hX, b2i_t, b2i_f] at hQ; exact hQ)
theorem tl_MOD_compute_0_3_x {G : iG} {F : Nat} {C M : Nat → Nat → Int32} {Q : Option iV → iH → Prop} {p m : Nat} (hp : M 0 24 = nI p) (hp8 : p ≤ 8) (hm : M 0 15 = nI m) (hm9 : m ≤ 9) {a b y : Int32} {g : Nat} (g0 : ¬ g = 0) (g32 : ¬ g = 32) (gl : g < 128) (hQ : Q none (HW F C (cmpF M p m false 3 g a b y))) : Ev G m_MOD_compute 4 0 0 64 [some (vR 50), some (vI 0), some (vI (nI 3)), some (vI (nI g)), some (vI a), some (vI b), some (vI y), none, none, none] [] (HW F C M) Q := by
  refine E_iload_n d_MOD_compute_64 rfl ?_
  refine E_iconst (v := 1) d_MOD_compute_65 (by decide) ?_
  refine E_icmp_eq (tgt := 74) d_MOD_compute_66 (by decide) (fun c => absurd c (by decide)) (fun _ => ?_)
  refine E_iload_n d_MOD_compute_69 rfl ?_
  refine E_iconst (v := 5) d_MOD_compute_70 (by decide) ?_
  refine E_icmp_ne (tgt := 78) d_MOD_compute_71 (by decide) (fun _ => ?_) (fun c => absurd c (by decide))
  refine E_iconst (v := 0) d_MOD_compute_78 (by decide) ?_
  refine E_istore d_MOD_compute_79 (by decide) ?_
  refine E_iload_n d_MOD_compute_81 rfl ?_
  refine E_bipush (v := 32) d_MOD_compute_82 (by decide) ?_
  refine E_icmp_ne (tgt := 104) d_MOD_compute_84 (by decide) (fun _ => ?_) (fun c => absurd c (fun q => g32 ((nI_eq (b := 32) (by omega) (by decide)).mp q)))
  refine E_iconst (v := 0) d_MOD_compute_104 (by decide) ?_
  refine E_istore d_MOD_compute_105 (by decide) ?_
  refine E_iload_n d_MOD_compute_107 rfl ?_
  refine E_if_eq (tgt := 131) d_MOD_compute_108 (by decide) (fun c => absurd c (fun q => g0 ((nI_eq (b := 0) (by omega) (by decide)).mp q))) (fun _ => ?_)
  refine E_iload d_MOD_compute_111 rfl ?_
  refine E_if_ne (tgt := 131) d_MOD_compute_113 (by decide) (fun c => absurd (by decide) c) (fun _ => ?_)
  refine E_iload_n d_MOD_compute_116 rfl ?_
  refine E_if_ne (tgt := 125) d_MOD_compute_117 (by decide) (fun c => absurd (by decide) c) (fun _ => ?_)
  refine E_iload d_MOD_compute_120 rfl ?_
  refine E_if_eq (tgt := 131) d_MOD_compute_122 (by decide) (fun _ => ?_) (fun c => absurd (by decide) c)
  refine E_iconst (v := 0) d_MOD_compute_131 (by decide) ?_
  refine E_istore d_MOD_compute_132 (by decide) ?_
  refine E_iload_n d_MOD_compute_134 rfl ?_
  refine E_if_ne (tgt := 165) d_MOD_compute_135 (by decide) (fun _ => ?_) (fun c => absurd c (by decide))
  refine E_iload_n d_MOD_compute_165 rfl ?_
  refine E_iconst (v := 1) d_MOD_compute_166 (by decide) ?_
  refine E_icmp_ne (tgt := 180) d_MOD_compute_167 (by decide) (fun _ => ?_) (fun c => absurd c (by decide))
  refine E_iload_n d_MOD_compute_180 rfl ?_
  refine E_iconst (v := 2) d_MOD_compute_181 (by decide) ?_
  refine E_icmp_eq (tgt := 190) d_MOD_compute_182 (by decide) (fun c => absurd c (by decide)) (fun _ => ?_)
  refine E_iload_n d_MOD_compute_185 rfl ?_
  refine E_iconst (v := 3) d_MOD_compute_186 (by decide) ?_
  refine E_icmp_ne (tgt := 220) d_MOD_compute_187 (by decide) (fun c => absurd (by decide) c) (fun _ => ?_)
  refine E_iload d_MOD_compute_190 rfl ?_
  refine E_iload d_MOD_compute_192 rfl ?_
  refine E_iload_n d_MOD_compute_194 rfl ?_
  refine E_iconst (v := 2) d_MOD_compute_195 (by decide) ?_
  refine E_icmp_ne (tgt := 203) d_MOD_compute_196 (by decide) (fun _ => ?_) (fun c => absurd c (by decide))
  refine E_iconst (v := 0) d_MOD_compute_203 (by decide) ?_
  refine E_S3i d_MOD_compute_204 w_MOD_164 (by decide) (Nat.le_of_ble_eq_true rfl) (c_MOD_less (sg := false)) ?_
  rintro _ _ ⟨rfl, rfl⟩
  refine E_if_eq (tgt := 214) d_MOD_compute_207 (by decide) (fun c207 => ?_) (fun c207 => ?_)
  · have hX := b2i_eq0 c207
    refine E_iconst (v := 0) d_MOD_compute_214 (by decide) ?_
    refine E_istore d_MOD_compute_215 (by decide) ?_
    refine E_goto (tgt := 284) d_MOD_compute_217 (by decide) ?_
    refine E_aload_n d_MOD_compute_284 rfl rfl ?_
    refine E_aload_n d_MOD_compute_285 rfl rfl ?_
    refine E_V0i d_MOD_compute_286 w_MOD_131 rfl (by decide) (Nat.le_of_ble_eq_true rfl) (c_MOD_d) ?_
    rintro _ _ ⟨rfl, rfl⟩
    refine E_iload d_MOD_compute_289 rfl ?_
    refine E_V2v d_MOD_compute_291 w_MOD_135 rfl (by decide) (Nat.le_of_ble_eq_true rfl) (c_MOD_set hp hp8 (bf_lt _ _ 5)) ?_
    rintro _ rfl
    exact E_return d_MOD_compute_294 rfl rfl (by rw [cmpF_ok (by simp [cbad, g0, g32])] at hQ; simp only [cval, hX, b2i_t, b2i_f] at hQ; exact hQ)
  · have hX := b2i_ne0 c207
    refine E_iconst (v := 1) d_MOD_compute_210 (by decide) ?_
    refine E_goto (tgt := 215) d_MOD_compute_211 (by decide) ?_
    refine E_istore d_MOD_compute_215 (by decide) ?_
    refine E_goto (tgt := 284) d_MOD_compute_217 (by decide) ?_
    refine E_aload_n d_MOD_compute_284 rfl rfl ?_
    refine E_aload_n d_MOD_compute_285 rfl rfl ?_
    refine E_V0i d_MOD_compute_286 w_MOD_131 rfl (by decide) (Nat.le_of_ble_eq_true rfl) (c_MOD_d) ?_
    rintro _ _ ⟨rfl, rfl⟩
    refine E_iload d_MOD_compute_289 rfl ?_
    refine E_V2v d_MOD_compute_291 w_MOD_135 rfl (by decide) (Nat.le_of_ble_eq_true rfl) (c_MOD_set hp hp8 (bf_lt _ _ 5)) ?_
    rintro _ rfl
    exact E_return d_MOD_compute_294 rfl rfl (by rw [cmpF_ok (by simp [cbad, g0, g32])] at hQ; simp only [cval, hX, b2i_t, b2i_f] at hQ; exact hQ)
theorem tl_MOD_compute_0_4_0 {G : iG} {F : Nat} {C M : Nat → Nat → Int32} {Q : Option iV → iH → Prop} {p m : Nat} (hp : M 0 24 = nI p) (hp8 : p ≤ 8) (hm : M 0 15 = nI m) (hm9 : m ≤ 9) {a b y : Int32} (hQ : Q none (HW F C (cmpF M p m false 4 0 a b y))) : Ev G m_MOD_compute 4 0 0 64 [some (vR 50), some (vI 0), some (vI (nI 4)), some (vI (nI 0)), some (vI a), some (vI b), some (vI y), none, none, none] [] (HW F C M) Q := by
  refine E_iload_n d_MOD_compute_64 rfl ?_
  refine E_iconst (v := 1) d_MOD_compute_65 (by decide) ?_
  refine E_icmp_eq (tgt := 74) d_MOD_compute_66 (by decide) (fun c => absurd c (by decide)) (fun _ => ?_)
  refine E_iload_n d_MOD_compute_69 rfl ?_
  refine E_iconst (v := 5) d_MOD_compute_70 (by decide) ?_
  refine E_icmp_ne (tgt := 78) d_MOD_compute_71 (by decide) (fun _ => ?_) (fun c => absurd c (by decide))
  refine E_iconst (v := 0) d_MOD_compute_78 (by decide) ?_
  refine E_istore d_MOD_compute_79 (by decide) ?_
  refine E_iload_n d_MOD_compute_81 rfl ?_
  refine E_bipush (v := 32) d_MOD_compute_82 (by decide) ?_
  refine E_icmp_ne (tgt := 104) d_MOD_compute_84 (by decide) (fun _ => ?_) (fun c => absurd c (by decide))
  refine E_iconst (v := 0) d_MOD_compute_104 (by decide) ?_
  refine E_istore d_MOD_compute_105 (by decide) ?_
  refine E_iload_n d_MOD_compute_107 rfl ?_
  refine E_if_eq (tgt := 131) d_MOD_compute_108 (by decide) (fun _ => ?_) (fun c => absurd (by decide) c)
  refine E_iconst (v := 0) d_MOD_compute_131 (by decide) ?_
  refine E_istore d_MOD_compute_132 (by decide) ?_
  refine E_iload_n d_MOD_compute_134 rfl ?_
  refine E_if_ne (tgt := 165) d_MOD_compute_135 (by decide) (fun _ => ?_) (fun c => absurd c (by decide))
  refine E_iload_n d_MOD_compute_165 rfl ?_
  refine E_iconst (v := 1) d_MOD_compute_166 (by decide) ?_
  refine E_icmp_ne (tgt := 180) d_MOD_compute_167 (by decide) (fun _ => ?_) (fun c => absurd c (by decide))
  refine E_iload_n d_MOD_compute_180 rfl ?_
  refine E_iconst (v := 2) d_MOD_compute_181 (by decide) ?_
  refine E_icmp_eq (tgt := 190) d_MOD_compute_182 (by decide) (fun c => absurd c (by decide)) (fun _ => ?_)
  refine E_iload_n d_MOD_compute_185 rfl ?_
  refine E_iconst (v := 3) d_MOD_compute_186 (by decide) ?_
  refine E_icmp_ne (tgt := 220) d_MOD_compute_187 (by decide) (fun _ => ?_) (fun c => absurd c (by decide))
  refine E_iload_n d_MOD_compute_220 rfl ?_
  refine E_iconst (v := 4) d_MOD_compute_221 (by decide) ?_
  refine E_icmp_ne (tgt := 235) d_MOD_compute_222 (by decide) (fun c => absurd (by decide) c) (fun _ => ?_)
  refine E_iload d_MOD_compute_225 rfl ?_
  refine E_iload d_MOD_compute_227 rfl ?_
  refine E_ixor d_MOD_compute_229 ?_
  refine E_istore d_MOD_compute_230 (by decide) ?_
  refine E_goto (tgt := 284) d_MOD_compute_232 (by decide) ?_
  refine E_aload_n d_MOD_compute_284 rfl rfl ?_
  refine E_aload_n d_MOD_compute_285 rfl rfl ?_
  refine E_V0i d_MOD_compute_286 w_MOD_131 rfl (by decide) (Nat.le_of_ble_eq_true rfl) (c_MOD_d) ?_
  rintro _ _ ⟨rfl, rfl⟩
  refine E_iload d_MOD_compute_289 rfl ?_
  refine E_V2v d_MOD_compute_291 w_MOD_135 rfl (by decide) (Nat.le_of_ble_eq_true rfl) (c_MOD_set hp hp8 (bf_lt _ _ 5)) ?_
  rintro _ rfl
  exact E_return d_MOD_compute_294 rfl rfl (by rw [cmpF_ok rfl] at hQ; exact hQ)
theorem tl_MOD_compute_0_4_32 {G : iG} {F : Nat} {C M : Nat → Nat → Int32} {Q : Option iV → iH → Prop} {p m : Nat} (hp : M 0 24 = nI p) (hp8 : p ≤ 8) (hm : M 0 15 = nI m) (hm9 : m ≤ 9) {a b y : Int32} (hQ : Q none (HW F C (cmpF M p m false 4 32 a b y))) : Ev G m_MOD_compute 4 0 0 64 [some (vR 50), some (vI 0), some (vI (nI 4)), some (vI (nI 32)), some (vI a), some (vI b), some (vI y), none, none, none] [] (HW F C M) Q := by
  refine E_iload_n d_MOD_compute_64 rfl ?_
  refine E_iconst (v := 1) d_MOD_compute_65 (by decide) ?_
  refine E_icmp_eq (tgt := 74) d_MOD_compute_66 (by decide) (fun c => absurd c (by decide)) (fun _ => ?_)
  refine E_iload_n d_MOD_compute_69 rfl ?_
  refine E_iconst (v := 5) d_MOD_compute_70 (by decide) ?_
  refine E_icmp_ne (tgt := 78) d_MOD_compute_71 (by decide) (fun _ => ?_) (fun c => absurd c (by decide))
  refine E_iconst (v := 0) d_MOD_compute_78 (by decide) ?_
  refine E_istore d_MOD_compute_79 (by decide) ?_
  refine E_iload_n d_MOD_compute_81 rfl ?_
  refine E_bipush (v := 32) d_MOD_compute_82 (by decide) ?_
  refine E_icmp_ne (tgt := 104) d_MOD_compute_84 (by decide) (fun c => absurd (by decide) c) (fun _ => ?_)
  refine E_iload_n d_MOD_compute_87 rfl ?_
  refine E_iconst (v := 5) d_MOD_compute_88 (by decide) ?_
  refine E_icmp_eq (tgt := 100) d_MOD_compute_89 (by decide) (fun c => absurd c (by decide)) (fun _ => ?_)
  refine E_iload_n d_MOD_compute_92 rfl ?_
  refine E_if_eq (tgt := 104) d_MOD_compute_93 (by decide) (fun _ => ?_) (fun c => absurd (by decide) c)
  refine E_iconst (v := 0) d_MOD_compute_104 (by decide) ?_
  refine E_istore d_MOD_compute_105 (by decide) ?_
  refine E_iload_n d_MOD_compute_107 rfl ?_
  refine E_if_eq (tgt := 131) d_MOD_compute_108 (by decide) (fun c => absurd c (by decide)) (fun _ => ?_)
  refine E_iload d_MOD_compute_111 rfl ?_
  refine E_if_ne (tgt := 131) d_MOD_compute_113 (by decide) (fun c => absurd (by decide) c) (fun _ => ?_)
  refine E_iload_n d_MOD_compute_116 rfl ?_
  refine E_if_ne (tgt := 125) d_MOD_compute_117 (by decide) (fun c => absurd (by decide) c) (fun _ => ?_)
  refine E_iload d_MOD_compute_120 rfl ?_
  refine E_if_eq (tgt := 131) d_MOD_compute_122 (by decide) (fun _ => ?_) (fun c => absurd (by decide) c)
  refine E_iconst (v := 0) d_MOD_compute_131 (by decide) ?_
  refine E_istore d_MOD_compute_132 (by decide) ?_
  refine E_iload_n d_MOD_compute_134 rfl ?_
  refine E_if_ne (tgt := 165) d_MOD_compute_135 (by decide) (fun _ => ?_) (fun c => absurd c (by decide))
  refine E_iload_n d_MOD_compute_165 rfl ?_
  refine E_iconst (v := 1) d_MOD_compute_166 (by decide) ?_
  refine E_icmp_ne (tgt := 180) d_MOD_compute_167 (by decide) (fun _ => ?_) (fun c => absurd c (by decide))
  refine E_iload_n d_MOD_compute_180 rfl ?_
  refine E_iconst (v := 2) d_MOD_compute_181 (by decide) ?_
  refine E_icmp_eq (tgt := 190) d_MOD_compute_182 (by decide) (fun c => absurd c (by decide)) (fun _ => ?_)
  refine E_iload_n d_MOD_compute_185 rfl ?_
  refine E_iconst (v := 3) d_MOD_compute_186 (by decide) ?_
  refine E_icmp_ne (tgt := 220) d_MOD_compute_187 (by decide) (fun _ => ?_) (fun c => absurd c (by decide))
  refine E_iload_n d_MOD_compute_220 rfl ?_
  refine E_iconst (v := 4) d_MOD_compute_221 (by decide) ?_
  refine E_icmp_ne (tgt := 235) d_MOD_compute_222 (by decide) (fun c => absurd (by decide) c) (fun _ => ?_)
  refine E_iload d_MOD_compute_225 rfl ?_
  refine E_iload d_MOD_compute_227 rfl ?_
  refine E_ixor d_MOD_compute_229 ?_
  refine E_istore d_MOD_compute_230 (by decide) ?_
  refine E_goto (tgt := 284) d_MOD_compute_232 (by decide) ?_
  refine E_aload_n d_MOD_compute_284 rfl rfl ?_
  refine E_aload_n d_MOD_compute_285 rfl rfl ?_
  refine E_V0i d_MOD_compute_286 w_MOD_131 rfl (by decide) (Nat.le_of_ble_eq_true rfl) (c_MOD_d) ?_
  rintro _ _ ⟨rfl, rfl⟩
  refine E_iload d_MOD_compute_289 rfl ?_
  refine E_V2v d_MOD_compute_291 w_MOD_135 rfl (by decide) (Nat.le_of_ble_eq_true rfl) (c_MOD_set hp hp8 (bf_lt _ _ 5)) ?_
  rintro _ rfl
  exact E_return d_MOD_compute_294 rfl rfl (by rw [cmpF_ok rfl] at hQ; exact hQ)
theorem tl_MOD_compute_0_4_x {G : iG} {F : Nat} {C M : Nat → Nat → Int32} {Q : Option iV → iH → Prop} {p m : Nat} (hp : M 0 24 = nI p) (hp8 : p ≤ 8) (hm : M 0 15 = nI m) (hm9 : m ≤ 9) {a b y : Int32} {g : Nat} (g0 : ¬ g = 0) (g32 : ¬ g = 32) (gl : g < 128) (hQ : Q none (HW F C (cmpF M p m false 4 g a b y))) : Ev G m_MOD_compute 4 0 0 64 [some (vR 50), some (vI 0), some (vI (nI 4)), some (vI (nI g)), some (vI a), some (vI b), some (vI y), none, none, none] [] (HW F C M) Q := by
  refine E_iload_n d_MOD_compute_64 rfl ?_
  refine E_iconst (v := 1) d_MOD_compute_65 (by decide) ?_
  refine E_icmp_eq (tgt := 74) d_MOD_compute_66 (by decide) (fun c => absurd c (by decide)) (fun _ => ?_)
  refine E_iload_n d_MOD_compute_69 rfl ?_
  refine E_iconst (v := 5) d_MOD_compute_70 (by decide) ?_
  refine E_icmp_ne (tgt := 78) d_MOD_compute_71 (by decide) (fun _ => ?_) (fun c => absurd c (by decide))
  refine E_iconst (v := 0) d_MOD_compute_78 (by decide) ?_
  refine E_istore d_MOD_compute_79 (by decide) ?_
  refine E_iload_n d_MOD_compute_81 rfl ?_
  refine E_bipush (v := 32) d_MOD_compute_82 (by decide) ?_
  refine E_icmp_ne (tgt := 104) d_MOD_compute_84 (by decide) (fun _ => ?_) (fun c => absurd c (fun q => g32 ((nI_eq (b := 32) (by omega) (by decide)).mp q)))
  refine E_iconst (v := 0) d_MOD_compute_104 (by decide) ?_
  refine E_istore d_MOD_compute_105 (by decide) ?_
  refine E_iload_n d_MOD_compute_107 rfl ?_
  refine E_if_eq (tgt := 131) d_MOD_compute_108 (by decide) (fun c => absurd c (fun q => g0 ((nI_eq (b := 0) (by omega) (by decide)).mp q))) (fun _ => ?_)
  refine E_iload d_MOD_compute_111 rfl ?_
  refine E_if_ne (tgt := 131) d_MOD_compute_113 (by decide) (fun c => absurd (by decide) c) (fun _ => ?_)
  refine E_iload_n d_MOD_compute_116 rfl ?_
  refine E_if_ne (tgt := 125) d_MOD_compute_117 (by decide) (fun c => absurd (by decide) c) (fun _ => ?_)
  refine E_iload d_MOD_compute_120 rfl ?_
  refine E_if_eq (tgt := 131) d_MOD_compute_122 (by decide) (fun _ => ?_) (fun c => absurd (by decide) c)
  refine E_iconst (v := 0) d_MOD_compute_131 (by decide) ?_
  refine E_istore d_MOD_compute_132 (by decide) ?_
  refine E_iload_n d_MOD_compute_134 rfl ?_
  refine E_if_ne (tgt := 165) d_MOD_compute_135 (by decide) (fun _ => ?_) (fun c => absurd c (by decide))
  refine E_iload_n d_MOD_compute_165 rfl ?_
  refine E_iconst (v := 1) d_MOD_compute_166 (by decide) ?_
  refine E_icmp_ne (tgt := 180) d_MOD_compute_167 (by decide) (fun _ => ?_) (fun c => absurd c (by decide))
  refine E_iload_n d_MOD_compute_180 rfl ?_
  refine E_iconst (v := 2) d_MOD_compute_181 (by decide) ?_
  refine E_icmp_eq (tgt := 190) d_MOD_compute_182 (by decide) (fun c => absurd c (by decide)) (fun _ => ?_)
  refine E_iload_n d_MOD_compute_185 rfl ?_
  refine E_iconst (v := 3) d_MOD_compute_186 (by decide) ?_
  refine E_icmp_ne (tgt := 220) d_MOD_compute_187 (by decide) (fun _ => ?_) (fun c => absurd c (by decide))
  refine E_iload_n d_MOD_compute_220 rfl ?_
  refine E_iconst (v := 4) d_MOD_compute_221 (by decide) ?_
  refine E_icmp_ne (tgt := 235) d_MOD_compute_222 (by decide) (fun c => absurd (by decide) c) (fun _ => ?_)
  refine E_iload d_MOD_compute_225 rfl ?_
  refine E_iload d_MOD_compute_227 rfl ?_
  refine E_ixor d_MOD_compute_229 ?_
  refine E_istore d_MOD_compute_230 (by decide) ?_
  refine E_goto (tgt := 284) d_MOD_compute_232 (by decide) ?_
  refine E_aload_n d_MOD_compute_284 rfl rfl ?_
  refine E_aload_n d_MOD_compute_285 rfl rfl ?_
  refine E_V0i d_MOD_compute_286 w_MOD_131 rfl (by decide) (Nat.le_of_ble_eq_true rfl) (c_MOD_d) ?_
  rintro _ _ ⟨rfl, rfl⟩
  refine E_iload d_MOD_compute_289 rfl ?_
  refine E_V2v d_MOD_compute_291 w_MOD_135 rfl (by decide) (Nat.le_of_ble_eq_true rfl) (c_MOD_set hp hp8 (bf_lt _ _ 5)) ?_
  rintro _ rfl
  exact E_return d_MOD_compute_294 rfl rfl (by rw [cmpF_ok (by simp [cbad, g0, g32])] at hQ; exact hQ)
theorem tl_MOD_compute_0_5_0 {G : iG} {F : Nat} {C M : Nat → Nat → Int32} {Q : Option iV → iH → Prop} {p m : Nat} (hp : M 0 24 = nI p) (hp8 : p ≤ 8) (hm : M 0 15 = nI m) (hm9 : m ≤ 9) {a b y : Int32} (hQ : Q none (HW F C (cmpF M p m false 5 0 a b y))) : Ev G m_MOD_compute 4 0 0 64 [some (vR 50), some (vI 0), some (vI (nI 5)), some (vI (nI 0)), some (vI a), some (vI b), some (vI y), none, none, none] [] (HW F C M) Q := by
  refine E_iload_n d_MOD_compute_64 rfl ?_
  refine E_iconst (v := 1) d_MOD_compute_65 (by decide) ?_
  refine E_icmp_eq (tgt := 74) d_MOD_compute_66 (by decide) (fun c => absurd c (by decide)) (fun _ => ?_)
  refine E_iload_n d_MOD_compute_69 rfl ?_
  refine E_iconst (v := 5) d_MOD_compute_70 (by decide) ?_
  refine E_icmp_ne (tgt := 78) d_MOD_compute_71 (by decide) (fun c => absurd (by decide) c) (fun _ => ?_)
  refine E_iconst (v := 1) d_MOD_compute_74 (by decide) ?_
  refine E_goto (tgt := 79) d_MOD_compute_75 (by decide) ?_
  refine E_istore d_MOD_compute_79 (by decide) ?_
  refine E_iload_n d_MOD_compute_81 rfl ?_
  refine E_bipush (v := 32) d_MOD_compute_82 (by decide) ?_
  refine E_icmp_ne (tgt := 104) d_MOD_compute_84 (by decide) (fun _ => ?_) (fun c => absurd c (by decide))
  refine E_iconst (v := 0) d_MOD_compute_104 (by decide) ?_
  refine E_istore d_MOD_compute_105 (by decide) ?_
  refine E_iload_n d_MOD_compute_107 rfl ?_
  refine E_if_eq (tgt := 131) d_MOD_compute_108 (by decide) (fun _ => ?_) (fun c => absurd (by decide) c)
  refine E_iconst (v := 0) d_MOD_compute_131 (by decide) ?_
  refine E_istore d_MOD_compute_132 (by decide) ?_
  refine E_iload_n d_MOD_compute_134 rfl ?_
  refine E_if_ne (tgt := 165) d_MOD_compute_135 (by decide) (fun _ => ?_) (fun c => absurd c (by decide))
  refine E_iload_n d_MOD_compute_165 rfl ?_
  refine E_iconst (v := 1) d_MOD_compute_166 (by decide) ?_
  refine E_icmp_ne (tgt := 180) d_MOD_compute_167 (by decide) (fun _ => ?_) (fun c => absurd c (by decide))
  refine E_iload_n d_MOD_compute_180 rfl ?_
  refine E_iconst (v := 2) d_MOD_compute_181 (by decide) ?_
  refine E_icmp_eq (tgt := 190) d_MOD_compute_182 (by decide) (fun c => absurd c (by decide)) (fun _ => ?_)
  refine E_iload_n d_MOD_compute_185 rfl ?_
  refine E_iconst (v := 3) d_MOD_compute_186 (by decide) ?_
  refine E_icmp_ne (tgt := 220) d_MOD_compute_187 (by decide) (fun _ => ?_) (fun c => absurd c (by decide))
  refine E_iload_n d_MOD_compute_220 rfl ?_
  refine E_iconst (v := 4) d_MOD_compute_221 (by decide) ?_
  refine E_icmp_ne (tgt := 235) d_MOD_compute_222 (by decide) (fun _ => ?_) (fun c => absurd c (by decide))
  refine E_iload_n d_MOD_compute_235 rfl ?_
  refine E_iconst (v := 5) d_MOD_compute_236 (by decide) ?_
  refine E_icmp_ne (tgt := 263) d_MOD_compute_237 (by decide) (fun c => absurd (by decide) c) (fun _ => ?_)
  refine E_iload d_MOD_compute_240 rfl ?_
  refine E_if_eq (tgt := 253) d_MOD_compute_242 (by decide) (fun _ => ?_) (fun c => absurd (by decide) c)
  refine E_iload d_MOD_compute_253 rfl ?_
  refine E_iload d_MOD_compute_255 rfl ?_
  refine E_iushr d_MOD_compute_257 ?_
  refine E_istore d_MOD_compute_258 (by decide) ?_
  refine E_goto (tgt := 284) d_MOD_compute_260 (by decide) ?_
  refine E_aload_n d_MOD_compute_284 rfl rfl ?_
  refine E_aload_n d_MOD_compute_285 rfl rfl ?_
  refine E_V0i d_MOD_compute_286 w_MOD_131 rfl (by decide) (Nat.le_of_ble_eq_true rfl) (c_MOD_d) ?_
  rintro _ _ ⟨rfl, rfl⟩
  refine E_iload d_MOD_compute_289 rfl ?_
  refine E_V2v d_MOD_compute_291 w_MOD_135 rfl (by decide) (Nat.le_of_ble_eq_true rfl) (c_MOD_set hp hp8 (bf_lt _ _ 5)) ?_
  rintro _ rfl
  exact E_return d_MOD_compute_294 rfl rfl (by rw [cmpF_ok rfl] at hQ; exact hQ)
theorem tl_MOD_compute_0_5_32 {G : iG} {F : Nat} {C M : Nat → Nat → Int32} {Q : Option iV → iH → Prop} {p m : Nat} (hp : M 0 24 = nI p) (hp8 : p ≤ 8) (hm : M 0 15 = nI m) (hm9 : m ≤ 9) {a b y : Int32} (hQ : Q none (HW F C (cmpF M p m false 5 32 a b y))) : Ev G m_MOD_compute 4 0 0 64 [some (vR 50), some (vI 0), some (vI (nI 5)), some (vI (nI 32)), some (vI a), some (vI b), some (vI y), none, none, none] [] (HW F C M) Q := by
  refine E_iload_n d_MOD_compute_64 rfl ?_
  refine E_iconst (v := 1) d_MOD_compute_65 (by decide) ?_
  refine E_icmp_eq (tgt := 74) d_MOD_compute_66 (by decide) (fun c => absurd c (by decide)) (fun _ => ?_)
  refine E_iload_n d_MOD_compute_69 rfl ?_
  refine E_iconst (v := 5) d_MOD_compute_70 (by decide) ?_
  refine E_icmp_ne (tgt := 78) d_MOD_compute_71 (by decide) (fun c => absurd (by decide) c) (fun _ => ?_)
  refine E_iconst (v := 1) d_MOD_compute_74 (by decide) ?_
  refine E_goto (tgt := 79) d_MOD_compute_75 (by decide) ?_
  refine E_istore d_MOD_compute_79 (by decide) ?_
  refine E_iload_n d_MOD_compute_81 rfl ?_
  refine E_bipush (v := 32) d_MOD_compute_82 (by decide) ?_
  refine E_icmp_ne (tgt := 104) d_MOD_compute_84 (by decide) (fun c => absurd (by decide) c) (fun _ => ?_)
  refine E_iload_n d_MOD_compute_87 rfl ?_
  refine E_iconst (v := 5) d_MOD_compute_88 (by decide) ?_
  refine E_icmp_eq (tgt := 100) d_MOD_compute_89 (by decide) (fun _ => ?_) (fun c => absurd (by decide) c)
  refine E_iconst (v := 1) d_MOD_compute_100 (by decide) ?_
  refine E_goto (tgt := 105) d_MOD_compute_101 (by decide) ?_
  refine E_istore d_MOD_compute_105 (by decide) ?_
  refine E_iload_n d_MOD_compute_107 rfl ?_
  refine E_if_eq (tgt := 131) d_MOD_compute_108 (by decide) (fun c => absurd c (by decide)) (fun _ => ?_)
  refine E_iload d_MOD_compute_111 rfl ?_
  refine E_if_ne (tgt := 131) d_MOD_compute_113 (by decide) (fun _ => ?_) (fun c => absurd c (by decide))
  refine E_iconst (v := 0) d_MOD_compute_131 (by decide) ?_
  refine E_istore d_MOD_compute_132 (by decide) ?_
  refine E_iload_n d_MOD_compute_134 rfl ?_
  refine E_if_ne (tgt := 165) d_MOD_compute_135 (by decide) (fun _ => ?_) (fun c => absurd c (by decide))
  refine E_iload_n d_MOD_compute_165 rfl ?_
  refine E_iconst (v := 1) d_MOD_compute_166 (by decide) ?_
  refine E_icmp_ne (tgt := 180) d_MOD_compute_167 (by decide) (fun _ => ?_) (fun c => absurd c (by decide))
  refine E_iload_n d_MOD_compute_180 rfl ?_
  refine E_iconst (v := 2) d_MOD_compute_181 (by decide) ?_
  refine E_icmp_eq (tgt := 190) d_MOD_compute_182 (by decide) (fun c => absurd c (by decide)) (fun _ => ?_)
  refine E_iload_n d_MOD_compute_185 rfl ?_
  refine E_iconst (v := 3) d_MOD_compute_186 (by decide) ?_
  refine E_icmp_ne (tgt := 220) d_MOD_compute_187 (by decide) (fun _ => ?_) (fun c => absurd c (by decide))
  refine E_iload_n d_MOD_compute_220 rfl ?_
  refine E_iconst (v := 4) d_MOD_compute_221 (by decide) ?_
  refine E_icmp_ne (tgt := 235) d_MOD_compute_222 (by decide) (fun _ => ?_) (fun c => absurd c (by decide))
  refine E_iload_n d_MOD_compute_235 rfl ?_
  refine E_iconst (v := 5) d_MOD_compute_236 (by decide) ?_
  refine E_icmp_ne (tgt := 263) d_MOD_compute_237 (by decide) (fun c => absurd (by decide) c) (fun _ => ?_)
  refine E_iload d_MOD_compute_240 rfl ?_
  refine E_if_eq (tgt := 253) d_MOD_compute_242 (by decide) (fun c => absurd c (by decide)) (fun _ => ?_)
  refine E_iload d_MOD_compute_245 rfl ?_
  refine E_iload d_MOD_compute_247 rfl ?_
  refine E_ishr d_MOD_compute_249 ?_
  refine E_goto (tgt := 258) d_MOD_compute_250 (by decide) ?_
  refine E_istore d_MOD_compute_258 (by decide) ?_
  refine E_goto (tgt := 284) d_MOD_compute_260 (by decide) ?_
  refine E_aload_n d_MOD_compute_284 rfl rfl ?_
  refine E_aload_n d_MOD_compute_285 rfl rfl ?_
  refine E_V0i d_MOD_compute_286 w_MOD_131 rfl (by decide) (Nat.le_of_ble_eq_true rfl) (c_MOD_d) ?_
  rintro _ _ ⟨rfl, rfl⟩
  refine E_iload d_MOD_compute_289 rfl ?_
  refine E_V2v d_MOD_compute_291 w_MOD_135 rfl (by decide) (Nat.le_of_ble_eq_true rfl) (c_MOD_set hp hp8 (bf_lt _ _ 5)) ?_
  rintro _ rfl
  exact E_return d_MOD_compute_294 rfl rfl (by rw [cmpF_ok rfl] at hQ; exact hQ)
theorem tl_MOD_compute_0_5_x {G : iG} {F : Nat} {C M : Nat → Nat → Int32} {Q : Option iV → iH → Prop} {p m : Nat} (hp : M 0 24 = nI p) (hp8 : p ≤ 8) (hm : M 0 15 = nI m) (hm9 : m ≤ 9) {a b y : Int32} {g : Nat} (g0 : ¬ g = 0) (g32 : ¬ g = 32) (gl : g < 128) (hQ : Q none (HW F C (cmpF M p m false 5 g a b y))) : Ev G m_MOD_compute 4 0 0 64 [some (vR 50), some (vI 0), some (vI (nI 5)), some (vI (nI g)), some (vI a), some (vI b), some (vI y), none, none, none] [] (HW F C M) Q := by
  refine E_iload_n d_MOD_compute_64 rfl ?_
  refine E_iconst (v := 1) d_MOD_compute_65 (by decide) ?_
  refine E_icmp_eq (tgt := 74) d_MOD_compute_66 (by decide) (fun c => absurd c (by decide)) (fun _ => ?_)
  refine E_iload_n d_MOD_compute_69 rfl ?_
  refine E_iconst (v := 5) d_MOD_compute_70 (by decide) ?_
  refine E_icmp_ne (tgt := 78) d_MOD_compute_71 (by decide) (fun c => absurd (by decide) c) (fun _ => ?_)
  refine E_iconst (v := 1) d_MOD_compute_74 (by decide) ?_
  refine E_goto (tgt := 79) d_MOD_compute_75 (by decide) ?_
  refine E_istore d_MOD_compute_79 (by decide) ?_
  refine E_iload_n d_MOD_compute_81 rfl ?_
  refine E_bipush (v := 32) d_MOD_compute_82 (by decide) ?_
  refine E_icmp_ne (tgt := 104) d_MOD_compute_84 (by decide) (fun _ => ?_) (fun c => absurd c (fun q => g32 ((nI_eq (b := 32) (by omega) (by decide)).mp q)))
  refine E_iconst (v := 0) d_MOD_compute_104 (by decide) ?_
  refine E_istore d_MOD_compute_105 (by decide) ?_
  refine E_iload_n d_MOD_compute_107 rfl ?_
  refine E_if_eq (tgt := 131) d_MOD_compute_108 (by decide) (fun c => absurd c (fun q => g0 ((nI_eq (b := 0) (by omega) (by decide)).mp q))) (fun _ => ?_)
  refine E_iload d_MOD_compute_111 rfl ?_
  refine E_if_ne (tgt := 131) d_MOD_compute_113 (by decide) (fun c => absurd (by decide) c) (fun _ => ?_)
  refine E_iload_n d_MOD_compute_116 rfl ?_
  refine E_if_ne (tgt := 125) d_MOD_compute_117 (by decide) (fun c => absurd (by decide) c) (fun _ => ?_)
  refine E_iload d_MOD_compute_120 rfl ?_
  refine E_if_eq (tgt := 131) d_MOD_compute_122 (by decide) (fun c => absurd c (by decide)) (fun _ => ?_)
  refine E_aload_n d_MOD_compute_125 rfl rfl ?_
  refine E_iconst (v := 2) d_MOD_compute_126 (by decide) ?_
  refine E_V1v d_MOD_compute_127 w_MOD_128 rfl (by decide) (Nat.le_of_ble_eq_true rfl) (c_MOD_fault hp hp8 hm hm9) ?_
  rintro _ rfl
  exact E_return d_MOD_compute_130 rfl rfl (by rw [cmpF_bad (by simp [cbad, g0, g32])] at hQ; exact hQ)
theorem tl_MOD_compute_0_6_0 {G : iG} {F : Nat} {C M : Nat → Nat → Int32} {Q : Option iV → iH → Prop} {p m : Nat} (hp : M 0 24 = nI p) (hp8 : p ≤ 8) (hm : M 0 15 = nI m) (hm9 : m ≤ 9) {a b y : Int32} (hQ : Q none (HW F C (cmpF M p m false 6 0 a b y))) : Ev G m_MOD_compute 4 0 0 64 [some (vR 50), some (vI 0), some (vI (nI 6)), some (vI (nI 0)), some (vI a), some (vI b), some (vI y), none, none, none] [] (HW F C M) Q := by
  refine E_iload_n d_MOD_compute_64 rfl ?_
  refine E_iconst (v := 1) d_MOD_compute_65 (by decide) ?_
  refine E_icmp_eq (tgt := 74) d_MOD_compute_66 (by decide) (fun c => absurd c (by decide)) (fun _ => ?_)
  refine E_iload_n d_MOD_compute_69 rfl ?_
  refine E_iconst (v := 5) d_MOD_compute_70 (by decide) ?_
  refine E_icmp_ne (tgt := 78) d_MOD_compute_71 (by decide) (fun _ => ?_) (fun c => absurd c (by decide))
  refine E_iconst (v := 0) d_MOD_compute_78 (by decide) ?_
  refine E_istore d_MOD_compute_79 (by decide) ?_
  refine E_iload_n d_MOD_compute_81 rfl ?_
  refine E_bipush (v := 32) d_MOD_compute_82 (by decide) ?_
  refine E_icmp_ne (tgt := 104) d_MOD_compute_84 (by decide) (fun _ => ?_) (fun c => absurd c (by decide))
  refine E_iconst (v := 0) d_MOD_compute_104 (by decide) ?_
  refine E_istore d_MOD_compute_105 (by decide) ?_
  refine E_iload_n d_MOD_compute_107 rfl ?_
  refine E_if_eq (tgt := 131) d_MOD_compute_108 (by decide) (fun _ => ?_) (fun c => absurd (by decide) c)
  refine E_iconst (v := 0) d_MOD_compute_131 (by decide) ?_
  refine E_istore d_MOD_compute_132 (by decide) ?_
  refine E_iload_n d_MOD_compute_134 rfl ?_
  refine E_if_ne (tgt := 165) d_MOD_compute_135 (by decide) (fun _ => ?_) (fun c => absurd c (by decide))
  refine E_iload_n d_MOD_compute_165 rfl ?_
  refine E_iconst (v := 1) d_MOD_compute_166 (by decide) ?_
  refine E_icmp_ne (tgt := 180) d_MOD_compute_167 (by decide) (fun _ => ?_) (fun c => absurd c (by decide))
  refine E_iload_n d_MOD_compute_180 rfl ?_
  refine E_iconst (v := 2) d_MOD_compute_181 (by decide) ?_
  refine E_icmp_eq (tgt := 190) d_MOD_compute_182 (by decide) (fun c => absurd c (by decide)) (fun _ => ?_)
  refine E_iload_n d_MOD_compute_185 rfl ?_
  refine E_iconst (v := 3) d_MOD_compute_186 (by decide) ?_
  refine E_icmp_ne (tgt := 220) d_MOD_compute_187 (by decide) (fun _ => ?_) (fun c => absurd c (by decide))
  refine E_iload_n d_MOD_compute_220 rfl ?_
  refine E_iconst (v := 4) d_MOD_compute_221 (by decide) ?_
  refine E_icmp_ne (tgt := 235) d_MOD_compute_222 (by decide) (fun _ => ?_) (fun c => absurd c (by decide))
  refine E_iload_n d_MOD_compute_235 rfl ?_
  refine E_iconst (v := 5) d_MOD_compute_236 (by decide) ?_
  refine E_icmp_ne (tgt := 263) d_MOD_compute_237 (by decide) (fun _ => ?_) (fun c => absurd c (by decide))
  refine E_iload_n d_MOD_compute_263 rfl ?_
  refine E_bipush (v := 6) d_MOD_compute_264 (by decide) ?_
  refine E_icmp_ne (tgt := 277) d_MOD_compute_266 (by decide) (fun c => absurd (by decide) c) (fun _ => ?_)
  refine E_iload d_MOD_compute_269 rfl ?_
  refine E_iload d_MOD_compute_271 rfl ?_
  refine E_ior d_MOD_compute_273 ?_
  refine E_goto (tgt := 282) d_MOD_compute_274 (by decide) ?_
  refine E_istore d_MOD_compute_282 (by decide) ?_
  refine E_aload_n d_MOD_compute_284 rfl rfl ?_
  refine E_aload_n d_MOD_compute_285 rfl rfl ?_
  refine E_V0i d_MOD_compute_286 w_MOD_131 rfl (by decide) (Nat.le_of_ble_eq_true rfl) (c_MOD_d) ?_
  rintro _ _ ⟨rfl, rfl⟩
  refine E_iload d_MOD_compute_289 rfl ?_
  refine E_V2v d_MOD_compute_291 w_MOD_135 rfl (by decide) (Nat.le_of_ble_eq_true rfl) (c_MOD_set hp hp8 (bf_lt _ _ 5)) ?_
  rintro _ rfl
  exact E_return d_MOD_compute_294 rfl rfl (by rw [cmpF_ok rfl] at hQ; exact hQ)
theorem tl_MOD_compute_0_6_32 {G : iG} {F : Nat} {C M : Nat → Nat → Int32} {Q : Option iV → iH → Prop} {p m : Nat} (hp : M 0 24 = nI p) (hp8 : p ≤ 8) (hm : M 0 15 = nI m) (hm9 : m ≤ 9) {a b y : Int32} (hQ : Q none (HW F C (cmpF M p m false 6 32 a b y))) : Ev G m_MOD_compute 4 0 0 64 [some (vR 50), some (vI 0), some (vI (nI 6)), some (vI (nI 32)), some (vI a), some (vI b), some (vI y), none, none, none] [] (HW F C M) Q := by
  refine E_iload_n d_MOD_compute_64 rfl ?_
  refine E_iconst (v := 1) d_MOD_compute_65 (by decide) ?_
  refine E_icmp_eq (tgt := 74) d_MOD_compute_66 (by decide) (fun c => absurd c (by decide)) (fun _ => ?_)
  refine E_iload_n d_MOD_compute_69 rfl ?_
  refine E_iconst (v := 5) d_MOD_compute_70 (by decide) ?_
  refine E_icmp_ne (tgt := 78) d_MOD_compute_71 (by decide) (fun _ => ?_) (fun c => absurd c (by decide))
  refine E_iconst (v := 0) d_MOD_compute_78 (by decide) ?_
  refine E_istore d_MOD_compute_79 (by decide) ?_
  refine E_iload_n d_MOD_compute_81 rfl ?_
  refine E_bipush (v := 32) d_MOD_compute_82 (by decide) ?_
  refine E_icmp_ne (tgt := 104) d_MOD_compute_84 (by decide) (fun c => absurd (by decide) c) (fun _ => ?_)
  refine E_iload_n d_MOD_compute_87 rfl ?_
  refine E_iconst (v := 5) d_MOD_compute_88 (by decide) ?_
  refine E_icmp_eq (tgt := 100) d_MOD_compute_89 (by decide) (fun c => absurd c (by decide)) (fun _ => ?_)
  refine E_iload_n d_MOD_compute_92 rfl ?_
  refine E_if_eq (tgt := 104) d_MOD_compute_93 (by decide) (fun _ => ?_) (fun c => absurd (by decide) c)
  refine E_iconst (v := 0) d_MOD_compute_104 (by decide) ?_
  refine E_istore d_MOD_compute_105 (by decide) ?_
  refine E_iload_n d_MOD_compute_107 rfl ?_
  refine E_if_eq (tgt := 131) d_MOD_compute_108 (by decide) (fun c => absurd c (by decide)) (fun _ => ?_)
  refine E_iload d_MOD_compute_111 rfl ?_
  refine E_if_ne (tgt := 131) d_MOD_compute_113 (by decide) (fun c => absurd (by decide) c) (fun _ => ?_)
  refine E_iload_n d_MOD_compute_116 rfl ?_
  refine E_if_ne (tgt := 125) d_MOD_compute_117 (by decide) (fun c => absurd (by decide) c) (fun _ => ?_)
  refine E_iload d_MOD_compute_120 rfl ?_
  refine E_if_eq (tgt := 131) d_MOD_compute_122 (by decide) (fun _ => ?_) (fun c => absurd (by decide) c)
  refine E_iconst (v := 0) d_MOD_compute_131 (by decide) ?_
  refine E_istore d_MOD_compute_132 (by decide) ?_
  refine E_iload_n d_MOD_compute_134 rfl ?_
  refine E_if_ne (tgt := 165) d_MOD_compute_135 (by decide) (fun _ => ?_) (fun c => absurd c (by decide))
  refine E_iload_n d_MOD_compute_165 rfl ?_
  refine E_iconst (v := 1) d_MOD_compute_166 (by decide) ?_
  refine E_icmp_ne (tgt := 180) d_MOD_compute_167 (by decide) (fun _ => ?_) (fun c => absurd c (by decide))
  refine E_iload_n d_MOD_compute_180 rfl ?_
  refine E_iconst (v := 2) d_MOD_compute_181 (by decide) ?_
  refine E_icmp_eq (tgt := 190) d_MOD_compute_182 (by decide) (fun c => absurd c (by decide)) (fun _ => ?_)
  refine E_iload_n d_MOD_compute_185 rfl ?_
  refine E_iconst (v := 3) d_MOD_compute_186 (by decide) ?_
  refine E_icmp_ne (tgt := 220) d_MOD_compute_187 (by decide) (fun _ => ?_) (fun c => absurd c (by decide))
  refine E_iload_n d_MOD_compute_220 rfl ?_
  refine E_iconst (v := 4) d_MOD_compute_221 (by decide) ?_
  refine E_icmp_ne (tgt := 235) d_MOD_compute_222 (by decide) (fun _ => ?_) (fun c => absurd c (by decide))
  refine E_iload_n d_MOD_compute_235 rfl ?_
  refine E_iconst (v := 5) d_MOD_compute_236 (by decide) ?_
  refine E_icmp_ne (tgt := 263) d_MOD_compute_237 (by decide) (fun _ => ?_) (fun c => absurd c (by decide))
  refine E_iload_n d_MOD_compute_263 rfl ?_
  refine E_bipush (v := 6) d_MOD_compute_264 (by decide) ?_
  refine E_icmp_ne (tgt := 277) d_MOD_compute_266 (by decide) (fun c => absurd (by decide) c) (fun _ => ?_)
  refine E_iload d_MOD_compute_269 rfl ?_
  refine E_iload d_MOD_compute_271 rfl ?_
  refine E_ior d_MOD_compute_273 ?_
  refine E_goto (tgt := 282) d_MOD_compute_274 (by decide) ?_
  refine E_istore d_MOD_compute_282 (by decide) ?_
  refine E_aload_n d_MOD_compute_284 rfl rfl ?_
  refine E_aload_n d_MOD_compute_285 rfl rfl ?_
  refine E_V0i d_MOD_compute_286 w_MOD_131 rfl (by decide) (Nat.le_of_ble_eq_true rfl) (c_MOD_d) ?_
  rintro _ _ ⟨rfl, rfl⟩
  refine E_iload d_MOD_compute_289 rfl ?_
  refine E_V2v d_MOD_compute_291 w_MOD_135 rfl (by decide) (Nat.le_of_ble_eq_true rfl) (c_MOD_set hp hp8 (bf_lt _ _ 5)) ?_
  rintro _ rfl
  exact E_return d_MOD_compute_294 rfl rfl (by rw [cmpF_ok rfl] at hQ; exact hQ)
theorem tl_MOD_compute_0_6_x {G : iG} {F : Nat} {C M : Nat → Nat → Int32} {Q : Option iV → iH → Prop} {p m : Nat} (hp : M 0 24 = nI p) (hp8 : p ≤ 8) (hm : M 0 15 = nI m) (hm9 : m ≤ 9) {a b y : Int32} {g : Nat} (g0 : ¬ g = 0) (g32 : ¬ g = 32) (gl : g < 128) (hQ : Q none (HW F C (cmpF M p m false 6 g a b y))) : Ev G m_MOD_compute 4 0 0 64 [some (vR 50), some (vI 0), some (vI (nI 6)), some (vI (nI g)), some (vI a), some (vI b), some (vI y), none, none, none] [] (HW F C M) Q := by
  refine E_iload_n d_MOD_compute_64 rfl ?_
  refine E_iconst (v := 1) d_MOD_compute_65 (by decide) ?_
  refine E_icmp_eq (tgt := 74) d_MOD_compute_66 (by decide) (fun c => absurd c (by decide)) (fun _ => ?_)
  refine E_iload_n d_MOD_compute_69 rfl ?_
  refine E_iconst (v := 5) d_MOD_compute_70 (by decide) ?_
  refine E_icmp_ne (tgt := 78) d_MOD_compute_71 (by decide) (fun _ => ?_) (fun c => absurd c (by decide))
  refine E_iconst (v := 0) d_MOD_compute_78 (by decide) ?_
  refine E_istore d_MOD_compute_79 (by decide) ?_
  refine E_iload_n d_MOD_compute_81 rfl ?_
  refine E_bipush (v := 32) d_MOD_compute_82 (by decide) ?_
  refine E_icmp_ne (tgt := 104) d_MOD_compute_84 (by decide) (fun _ => ?_) (fun c => absurd c (fun q => g32 ((nI_eq (b := 32) (by omega) (by decide)).mp q)))
  refine E_iconst (v := 0) d_MOD_compute_104 (by decide) ?_
  refine E_istore d_MOD_compute_105 (by decide) ?_
  refine E_iload_n d_MOD_compute_107 rfl ?_
  refine E_if_eq (tgt := 131) d_MOD_compute_108 (by decide) (fun c => absurd c (fun q => g0 ((nI_eq (b := 0) (by omega) (by decide)).mp q))) (fun _ => ?_)
  refine E_iload d_MOD_compute_111 rfl ?_
  refine E_if_ne (tgt := 131) d_MOD_compute_113 (by decide) (fun c => absurd (by decide) c) (fun _ => ?_)
  refine E_iload_n d_MOD_compute_116 rfl ?_
  refine E_if_ne (tgt := 125) d_MOD_compute_117 (by decide) (fun c => absurd (by decide) c) (fun _ => ?_)
  refine E_iload d_MOD_compute_120 rfl ?_
  refine E_if_eq (tgt := 131) d_MOD_compute_122 (by decide) (fun _ => ?_) (fun c => absurd (by decide) c)
  refine E_iconst (v := 0) d_MOD_compute_131 (by decide) ?_
  refine E_istore d_MOD_compute_132 (by decide) ?_
  refine E_iload_n d_MOD_compute_134 rfl ?_
  refine E_if_ne (tgt := 165) d_MOD_compute_135 (by decide) (fun _ => ?_) (fun c => absurd c (by decide))
  refine E_iload_n d_MOD_compute_165 rfl ?_
  refine E_iconst (v := 1) d_MOD_compute_166 (by decide) ?_
  refine E_icmp_ne (tgt := 180) d_MOD_compute_167 (by decide) (fun _ => ?_) (fun c => absurd c (by decide))
  refine E_iload_n d_MOD_compute_180 rfl ?_
  refine E_iconst (v := 2) d_MOD_compute_181 (by decide) ?_
  refine E_icmp_eq (tgt := 190) d_MOD_compute_182 (by decide) (fun c => absurd c (by decide)) (fun _ => ?_)
  refine E_iload_n d_MOD_compute_185 rfl ?_
  refine E_iconst (v := 3) d_MOD_compute_186 (by decide) ?_
  refine E_icmp_ne (tgt := 220) d_MOD_compute_187 (by decide) (fun _ => ?_) (fun c => absurd c (by decide))
  refine E_iload_n d_MOD_compute_220 rfl ?_
  refine E_iconst (v := 4) d_MOD_compute_221 (by decide) ?_
  refine E_icmp_ne (tgt := 235) d_MOD_compute_222 (by decide) (fun _ => ?_) (fun c => absurd c (by decide))
  refine E_iload_n d_MOD_compute_235 rfl ?_
  refine E_iconst (v := 5) d_MOD_compute_236 (by decide) ?_
  refine E_icmp_ne (tgt := 263) d_MOD_compute_237 (by decide) (fun _ => ?_) (fun c => absurd c (by decide))
  refine E_iload_n d_MOD_compute_263 rfl ?_
  refine E_bipush (v := 6) d_MOD_compute_264 (by decide) ?_
  refine E_icmp_ne (tgt := 277) d_MOD_compute_266 (by decide) (fun c => absurd (by decide) c) (fun _ => ?_)
  refine E_iload d_MOD_compute_269 rfl ?_
  refine E_iload d_MOD_compute_271 rfl ?_
  refine E_ior d_MOD_compute_273 ?_
  refine E_goto (tgt := 282) d_MOD_compute_274 (by decide) ?_
  refine E_istore d_MOD_compute_282 (by decide) ?_
  refine E_aload_n d_MOD_compute_284 rfl rfl ?_
  refine E_aload_n d_MOD_compute_285 rfl rfl ?_
  refine E_V0i d_MOD_compute_286 w_MOD_131 rfl (by decide) (Nat.le_of_ble_eq_true rfl) (c_MOD_d) ?_
  rintro _ _ ⟨rfl, rfl⟩
  refine E_iload d_MOD_compute_289 rfl ?_
  refine E_V2v d_MOD_compute_291 w_MOD_135 rfl (by decide) (Nat.le_of_ble_eq_true rfl) (c_MOD_set hp hp8 (bf_lt _ _ 5)) ?_
  rintro _ rfl
  exact E_return d_MOD_compute_294 rfl rfl (by rw [cmpF_ok (by simp [cbad, g0, g32])] at hQ; exact hQ)
theorem tl_MOD_compute_0_7_0 {G : iG} {F : Nat} {C M : Nat → Nat → Int32} {Q : Option iV → iH → Prop} {p m : Nat} (hp : M 0 24 = nI p) (hp8 : p ≤ 8) (hm : M 0 15 = nI m) (hm9 : m ≤ 9) {a b y : Int32} (hQ : Q none (HW F C (cmpF M p m false 7 0 a b y))) : Ev G m_MOD_compute 4 0 0 64 [some (vR 50), some (vI 0), some (vI (nI 7)), some (vI (nI 0)), some (vI a), some (vI b), some (vI y), none, none, none] [] (HW F C M) Q := by
  refine E_iload_n d_MOD_compute_64 rfl ?_
  refine E_iconst (v := 1) d_MOD_compute_65 (by decide) ?_
  refine E_icmp_eq (tgt := 74) d_MOD_compute_66 (by decide) (fun c => absurd c (by decide)) (fun _ => ?_)
  refine E_iload_n d_MOD_compute_69 rfl ?_
  refine E_iconst (v := 5) d_MOD_compute_70 (by decide) ?_
  refine E_icmp_ne (tgt := 78) d_MOD_compute_71 (by decide) (fun _ => ?_) (fun c => absurd c (by decide))
  refine E_iconst (v := 0) d_MOD_compute_78 (by decide) ?_
  refine E_istore d_MOD_compute_79 (by decide) ?_
  refine E_iload_n d_MOD_compute_81 rfl ?_
  refine E_bipush (v := 32) d_MOD_compute_82 (by decide) ?_
  refine E_icmp_ne (tgt := 104) d_MOD_compute_84 (by decide) (fun _ => ?_) (fun c => absurd c (by decide))
  refine E_iconst (v := 0) d_MOD_compute_104 (by decide) ?_
  refine E_istore d_MOD_compute_105 (by decide) ?_
  refine E_iload_n d_MOD_compute_107 rfl ?_
  refine E_if_eq (tgt := 131) d_MOD_compute_108 (by decide) (fun _ => ?_) (fun c => absurd (by decide) c)
  refine E_iconst (v := 0) d_MOD_compute_131 (by decide) ?_
  refine E_istore d_MOD_compute_132 (by decide) ?_
  refine E_iload_n d_MOD_compute_134 rfl ?_
  refine E_if_ne (tgt := 165) d_MOD_compute_135 (by decide) (fun _ => ?_) (fun c => absurd c (by decide))
  refine E_iload_n d_MOD_compute_165 rfl ?_
  refine E_iconst (v := 1) d_MOD_compute_166 (by decide) ?_
  refine E_icmp_ne (tgt := 180) d_MOD_compute_167 (by decide) (fun _ => ?_) (fun c => absurd c (by decide))
  refine E_iload_n d_MOD_compute_180 rfl ?_
  refine E_iconst (v := 2) d_MOD_compute_181 (by decide) ?_
  refine E_icmp_eq (tgt := 190) d_MOD_compute_182 (by decide) (fun c => absurd c (by decide)) (fun _ => ?_)
  refine E_iload_n d_MOD_compute_185 rfl ?_
  refine E_iconst (v := 3) d_MOD_compute_186 (by decide) ?_
  refine E_icmp_ne (tgt := 220) d_MOD_compute_187 (by decide) (fun _ => ?_) (fun c => absurd c (by decide))
  refine E_iload_n d_MOD_compute_220 rfl ?_
  refine E_iconst (v := 4) d_MOD_compute_221 (by decide) ?_
  refine E_icmp_ne (tgt := 235) d_MOD_compute_222 (by decide) (fun _ => ?_) (fun c => absurd c (by decide))
  refine E_iload_n d_MOD_compute_235 rfl ?_
  refine E_iconst (v := 5) d_MOD_compute_236 (by decide) ?_
  refine E_icmp_ne (tgt := 263) d_MOD_compute_237 (by decide) (fun _ => ?_) (fun c => absurd c (by decide))
  refine E_iload_n d_MOD_compute_263 rfl ?_
  refine E_bipush (v := 6) d_MOD_compute_264 (by decide) ?_
  refine E_icmp_ne (tgt := 277) d_MOD_compute_266 (by decide) (fun _ => ?_) (fun c => absurd c (by decide))
  refine E_iload d_MOD_compute_277 rfl ?_
  refine E_iload d_MOD_compute_279 rfl ?_
  refine E_iand d_MOD_compute_281 ?_
  refine E_istore d_MOD_compute_282 (by decide) ?_
  refine E_aload_n d_MOD_compute_284 rfl rfl ?_
  refine E_aload_n d_MOD_compute_285 rfl rfl ?_
  refine E_V0i d_MOD_compute_286 w_MOD_131 rfl (by decide) (Nat.le_of_ble_eq_true rfl) (c_MOD_d) ?_
  rintro _ _ ⟨rfl, rfl⟩
  refine E_iload d_MOD_compute_289 rfl ?_
  refine E_V2v d_MOD_compute_291 w_MOD_135 rfl (by decide) (Nat.le_of_ble_eq_true rfl) (c_MOD_set hp hp8 (bf_lt _ _ 5)) ?_
  rintro _ rfl
  exact E_return d_MOD_compute_294 rfl rfl (by rw [cmpF_ok rfl] at hQ; exact hQ)
theorem tl_MOD_compute_0_7_32 {G : iG} {F : Nat} {C M : Nat → Nat → Int32} {Q : Option iV → iH → Prop} {p m : Nat} (hp : M 0 24 = nI p) (hp8 : p ≤ 8) (hm : M 0 15 = nI m) (hm9 : m ≤ 9) {a b y : Int32} (hQ : Q none (HW F C (cmpF M p m false 7 32 a b y))) : Ev G m_MOD_compute 4 0 0 64 [some (vR 50), some (vI 0), some (vI (nI 7)), some (vI (nI 32)), some (vI a), some (vI b), some (vI y), none, none, none] [] (HW F C M) Q := by
  refine E_iload_n d_MOD_compute_64 rfl ?_
  refine E_iconst (v := 1) d_MOD_compute_65 (by decide) ?_
  refine E_icmp_eq (tgt := 74) d_MOD_compute_66 (by decide) (fun c => absurd c (by decide)) (fun _ => ?_)
  refine E_iload_n d_MOD_compute_69 rfl ?_
  refine E_iconst (v := 5) d_MOD_compute_70 (by decide) ?_
  refine E_icmp_ne (tgt := 78) d_MOD_compute_71 (by decide) (fun _ => ?_) (fun c => absurd c (by decide))
  refine E_iconst (v := 0) d_MOD_compute_78 (by decide) ?_
  refine E_istore d_MOD_compute_79 (by decide) ?_
  refine E_iload_n d_MOD_compute_81 rfl ?_
  refine E_bipush (v := 32) d_MOD_compute_82 (by decide) ?_
  refine E_icmp_ne (tgt := 104) d_MOD_compute_84 (by decide) (fun c => absurd (by decide) c) (fun _ => ?_)
  refine E_iload_n d_MOD_compute_87 rfl ?_
  refine E_iconst (v := 5) d_MOD_compute_88 (by decide) ?_
  refine E_icmp_eq (tgt := 100) d_MOD_compute_89 (by decide) (fun c => absurd c (by decide)) (fun _ => ?_)
  refine E_iload_n d_MOD_compute_92 rfl ?_
  refine E_if_eq (tgt := 104) d_MOD_compute_93 (by decide) (fun _ => ?_) (fun c => absurd (by decide) c)
  refine E_iconst (v := 0) d_MOD_compute_104 (by decide) ?_
  refine E_istore d_MOD_compute_105 (by decide) ?_
  refine E_iload_n d_MOD_compute_107 rfl ?_
  refine E_if_eq (tgt := 131) d_MOD_compute_108 (by decide) (fun c => absurd c (by decide)) (fun _ => ?_)
  refine E_iload d_MOD_compute_111 rfl ?_
  refine E_if_ne (tgt := 131) d_MOD_compute_113 (by decide) (fun c => absurd (by decide) c) (fun _ => ?_)
  refine E_iload_n d_MOD_compute_116 rfl ?_
  refine E_if_ne (tgt := 125) d_MOD_compute_117 (by decide) (fun c => absurd (by decide) c) (fun _ => ?_)
  refine E_iload d_MOD_compute_120 rfl ?_
  refine E_if_eq (tgt := 131) d_MOD_compute_122 (by decide) (fun _ => ?_) (fun c => absurd (by decide) c)
  refine E_iconst (v := 0) d_MOD_compute_131 (by decide) ?_
  refine E_istore d_MOD_compute_132 (by decide) ?_
  refine E_iload_n d_MOD_compute_134 rfl ?_
  refine E_if_ne (tgt := 165) d_MOD_compute_135 (by decide) (fun _ => ?_) (fun c => absurd c (by decide))
  refine E_iload_n d_MOD_compute_165 rfl ?_
  refine E_iconst (v := 1) d_MOD_compute_166 (by decide) ?_
  refine E_icmp_ne (tgt := 180) d_MOD_compute_167 (by decide) (fun _ => ?_) (fun c => absurd c (by decide))
  refine E_iload_n d_MOD_compute_180 rfl ?_
  refine E_iconst (v := 2) d_MOD_compute_181 (by decide) ?_
  refine E_icmp_eq (tgt := 190) d_MOD_compute_182 (by decide) (fun c => absurd c (by decide)) (fun _ => ?_)
  refine E_iload_n d_MOD_compute_185 rfl ?_
  refine E_iconst (v := 3) d_MOD_compute_186 (by decide) ?_
  refine E_icmp_ne (tgt := 220) d_MOD_compute_187 (by decide) (fun _ => ?_) (fun c => absurd c (by decide))
  refine E_iload_n d_MOD_compute_220 rfl ?_
  refine E_iconst (v := 4) d_MOD_compute_221 (by decide) ?_
  refine E_icmp_ne (tgt := 235) d_MOD_compute_222 (by decide) (fun _ => ?_) (fun c => absurd c (by decide))
  refine E_iload_n d_MOD_compute_235 rfl ?_
  refine E_iconst (v := 5) d_MOD_compute_236 (by decide) ?_
  refine E_icmp_ne (tgt := 263) d_MOD_compute_237 (by decide) (fun _ => ?_) (fun c => absurd c (by decide))
  refine E_iload_n d_MOD_compute_263 rfl ?_
  refine E_bipush (v := 6) d_MOD_compute_264 (by decide) ?_
  refine E_icmp_ne (tgt := 277) d_MOD_compute_266 (by decide) (fun _ => ?_) (fun c => absurd c (by decide))
  refine E_iload d_MOD_compute_277 rfl ?_
  refine E_iload d_MOD_compute_279 rfl ?_
  refine E_iand d_MOD_compute_281 ?_
  refine E_istore d_MOD_compute_282 (by decide) ?_
  refine E_aload_n d_MOD_compute_284 rfl rfl ?_
  refine E_aload_n d_MOD_compute_285 rfl rfl ?_
  refine E_V0i d_MOD_compute_286 w_MOD_131 rfl (by decide) (Nat.le_of_ble_eq_true rfl) (c_MOD_d) ?_
  rintro _ _ ⟨rfl, rfl⟩
  refine E_iload d_MOD_compute_289 rfl ?_
  refine E_V2v d_MOD_compute_291 w_MOD_135 rfl (by decide) (Nat.le_of_ble_eq_true rfl) (c_MOD_set hp hp8 (bf_lt _ _ 5)) ?_
  rintro _ rfl
  exact E_return d_MOD_compute_294 rfl rfl (by rw [cmpF_ok rfl] at hQ; exact hQ)
theorem tl_MOD_compute_0_7_x {G : iG} {F : Nat} {C M : Nat → Nat → Int32} {Q : Option iV → iH → Prop} {p m : Nat} (hp : M 0 24 = nI p) (hp8 : p ≤ 8) (hm : M 0 15 = nI m) (hm9 : m ≤ 9) {a b y : Int32} {g : Nat} (g0 : ¬ g = 0) (g32 : ¬ g = 32) (gl : g < 128) (hQ : Q none (HW F C (cmpF M p m false 7 g a b y))) : Ev G m_MOD_compute 4 0 0 64 [some (vR 50), some (vI 0), some (vI (nI 7)), some (vI (nI g)), some (vI a), some (vI b), some (vI y), none, none, none] [] (HW F C M) Q := by
  refine E_iload_n d_MOD_compute_64 rfl ?_
  refine E_iconst (v := 1) d_MOD_compute_65 (by decide) ?_
  refine E_icmp_eq (tgt := 74) d_MOD_compute_66 (by decide) (fun c => absurd c (by decide)) (fun _ => ?_)
  refine E_iload_n d_MOD_compute_69 rfl ?_
  refine E_iconst (v := 5) d_MOD_compute_70 (by decide) ?_
  refine E_icmp_ne (tgt := 78) d_MOD_compute_71 (by decide) (fun _ => ?_) (fun c => absurd c (by decide))
  refine E_iconst (v := 0) d_MOD_compute_78 (by decide) ?_
  refine E_istore d_MOD_compute_79 (by decide) ?_
  refine E_iload_n d_MOD_compute_81 rfl ?_
  refine E_bipush (v := 32) d_MOD_compute_82 (by decide) ?_
  refine E_icmp_ne (tgt := 104) d_MOD_compute_84 (by decide) (fun _ => ?_) (fun c => absurd c (fun q => g32 ((nI_eq (b := 32) (by omega) (by decide)).mp q)))
  refine E_iconst (v := 0) d_MOD_compute_104 (by decide) ?_
  refine E_istore d_MOD_compute_105 (by decide) ?_
  refine E_iload_n d_MOD_compute_107 rfl ?_
  refine E_if_eq (tgt := 131) d_MOD_compute_108 (by decide) (fun c => absurd c (fun q => g0 ((nI_eq (b := 0) (by omega) (by decide)).mp q))) (fun _ => ?_)
  refine E_iload d_MOD_compute_111 rfl ?_
  refine E_if_ne (tgt := 131) d_MOD_compute_113 (by decide) (fun c => absurd (by decide) c) (fun _ => ?_)
  refine E_iload_n d_MOD_compute_116 rfl ?_
  refine E_if_ne (tgt := 125) d_MOD_compute_117 (by decide) (fun c => absurd (by decide) c) (fun _ => ?_)
  refine E_iload d_MOD_compute_120 rfl ?_
  refine E_if_eq (tgt := 131) d_MOD_compute_122 (by decide) (fun _ => ?_) (fun c => absurd (by decide) c)
  refine E_iconst (v := 0) d_MOD_compute_131 (by decide) ?_
  refine E_istore d_MOD_compute_132 (by decide) ?_
  refine E_iload_n d_MOD_compute_134 rfl ?_
  refine E_if_ne (tgt := 165) d_MOD_compute_135 (by decide) (fun _ => ?_) (fun c => absurd c (by decide))
  refine E_iload_n d_MOD_compute_165 rfl ?_
  refine E_iconst (v := 1) d_MOD_compute_166 (by decide) ?_
  refine E_icmp_ne (tgt := 180) d_MOD_compute_167 (by decide) (fun _ => ?_) (fun c => absurd c (by decide))
  refine E_iload_n d_MOD_compute_180 rfl ?_
  refine E_iconst (v := 2) d_MOD_compute_181 (by decide) ?_
  refine E_icmp_eq (tgt := 190) d_MOD_compute_182 (by decide) (fun c => absurd c (by decide)) (fun _ => ?_)
  refine E_iload_n d_MOD_compute_185 rfl ?_
  refine E_iconst (v := 3) d_MOD_compute_186 (by decide) ?_
  refine E_icmp_ne (tgt := 220) d_MOD_compute_187 (by decide) (fun _ => ?_) (fun c => absurd c (by decide))
  refine E_iload_n d_MOD_compute_220 rfl ?_
  refine E_iconst (v := 4) d_MOD_compute_221 (by decide) ?_
  refine E_icmp_ne (tgt := 235) d_MOD_compute_222 (by decide) (fun _ => ?_) (fun c => absurd c (by decide))
  refine E_iload_n d_MOD_compute_235 rfl ?_
  refine E_iconst (v := 5) d_MOD_compute_236 (by decide) ?_
  refine E_icmp_ne (tgt := 263) d_MOD_compute_237 (by decide) (fun _ => ?_) (fun c => absurd c (by decide))
  refine E_iload_n d_MOD_compute_263 rfl ?_
  refine E_bipush (v := 6) d_MOD_compute_264 (by decide) ?_
  refine E_icmp_ne (tgt := 277) d_MOD_compute_266 (by decide) (fun _ => ?_) (fun c => absurd c (by decide))
  refine E_iload d_MOD_compute_277 rfl ?_
  refine E_iload d_MOD_compute_279 rfl ?_
  refine E_iand d_MOD_compute_281 ?_
  refine E_istore d_MOD_compute_282 (by decide) ?_
  refine E_aload_n d_MOD_compute_284 rfl rfl ?_
  refine E_aload_n d_MOD_compute_285 rfl rfl ?_
  refine E_V0i d_MOD_compute_286 w_MOD_131 rfl (by decide) (Nat.le_of_ble_eq_true rfl) (c_MOD_d) ?_
  rintro _ _ ⟨rfl, rfl⟩
  refine E_iload d_MOD_compute_289 rfl ?_
  refine E_V2v d_MOD_compute_291 w_MOD_135 rfl (by decide) (Nat.le_of_ble_eq_true rfl) (c_MOD_set hp hp8 (bf_lt _ _ 5)) ?_
  rintro _ rfl
  exact E_return d_MOD_compute_294 rfl rfl (by rw [cmpF_ok (by simp [cbad, g0, g32])] at hQ; exact hQ)
theorem hd_MOD_compute_0 {G : iG} {F : Nat} {C M : Nat → Nat → Int32} {p m : Nat} (hp : M 0 24 = nI p) (hp8 : p ≤ 8) (hm : M 0 15 = nI m) (hm9 : m ≤ 9) : MV G m_MOD_compute 4 [vR 50, vI 0] (HW F C M) (fun h' => h' = HW F C (cmpM M p m false)) := by
  refine Mt.of' (Ls := [some (vR 50), some (vI 0), none, none, none, none, none, none, none, none]) (by decide) (by simp [ct]) (Nat.le_of_ble_eq_true rfl) rfl ?_
  obtain ⟨f, hf⟩ : ∃ f, f = bf (M 0 25) 12 3 := ⟨_, rfl⟩
  have hf8 : f < 8 := by rw [hf]; exact bf_lt _ _ 3
  obtain ⟨g, hg⟩ : ∃ g, g = bf (M 0 25) 25 7 := ⟨_, rfl⟩
  have gl : g < 128 := by rw [hg]; exact bf_lt _ _ 7
  obtain ⟨a, ha⟩ : ∃ a, a = M 9 (32 * p + bf (M 0 25) 15 5) := ⟨_, rfl⟩
  obtain ⟨b, hb⟩ : ∃ b, b = cb M p false := ⟨_, rfl⟩
  obtain ⟨y, hy⟩ : ∃ y, y = cy M p false := ⟨_, rfl⟩
  refine E_aload_n d_MOD_compute_0 rfl rfl ?_
  refine E_bipush (v := 12) d_MOD_compute_1 (by decide) ?_
  refine E_iconst (v := 3) d_MOD_compute_3 (by decide) ?_
  refine E_V2i d_MOD_compute_4 w_MOD_110 rfl (by decide) (Nat.le_of_ble_eq_true rfl) (c_MOD_bits (a := 12) (k := 3) (by decide) (by decide) (by decide)) ?_
  rintro _ _ ⟨rfl, rfl⟩
  rw [← hf]
  refine E_istore_n d_MOD_compute_7 (by decide) ?_
  refine E_aload_n d_MOD_compute_8 rfl rfl ?_
  refine E_bipush (v := 25) d_MOD_compute_9 (by decide) ?_
  refine E_bipush (v := 7) d_MOD_compute_11 (by decide) ?_
  refine E_V2i d_MOD_compute_13 w_MOD_110 rfl (by decide) (Nat.le_of_ble_eq_true rfl) (c_MOD_bits (a := 25) (k := 7) (by decide) (by decide) (by decide)) ?_
  rintro _ _ ⟨rfl, rfl⟩
  rw [← hg]
  refine E_istore_n d_MOD_compute_16 (by decide) ?_
  refine E_aload_n d_MOD_compute_17 rfl rfl ?_
  refine E_V0i d_MOD_compute_18 w_MOD_141 rfl (by decide) (Nat.le_of_ble_eq_true rfl) (c_MOD_s hp hp8) ?_
  rintro _ _ ⟨rfl, rfl⟩
  refine E_tp (y := a) ha.symm ?_
  refine E_istore d_MOD_compute_21 (by decide) ?_
  refine E_iload_n d_MOD_compute_23 rfl ?_
  refine E_if_eq (tgt := 34) d_MOD_compute_24 (by decide) (fun _ => ?_) (fun c => absurd (by decide) c)
  refine E_aload_n d_MOD_compute_34 rfl rfl ?_
  refine L_gi d_MOD_compute_35 f_MOD_107 rfl (by decide) rfl (fr_M 0 25) ?_
  refine E_bipush (v := 20) d_MOD_compute_38 (by decide) ?_
  refine E_ishr d_MOD_compute_40 ?_
  refine E_tp (y := b) hb.symm ?_
  refine E_istore d_MOD_compute_41 (by decide) ?_
  refine E_iload_n d_MOD_compute_43 rfl ?_
  refine E_if_eq (tgt := 55) d_MOD_compute_44 (by decide) (fun _ => ?_) (fun c => absurd (by decide) c)
  refine E_aload_n d_MOD_compute_55 rfl rfl ?_
  refine E_bipush (v := 20) d_MOD_compute_56 (by decide) ?_
  refine E_iconst (v := 5) d_MOD_compute_58 (by decide) ?_
  refine E_V2i d_MOD_compute_59 w_MOD_110 rfl (by decide) (Nat.le_of_ble_eq_true rfl) (c_MOD_bits (a := 20) (k := 5) (by decide) (by decide) (by decide)) ?_
  rintro _ _ ⟨rfl, rfl⟩
  refine E_tp (y := y) (by rw [hy, cy]; first | rfl | (rw [hb]; rfl)) ?_
  refine E_istore d_MOD_compute_62 (by decide) ?_
  have hq : cmpM M p m false = cmpF M p m false f g a b y := by rw [hf, hg, ha, hb, hy]; rfl
  rcases (show f = 0 ∨ f = 1 ∨ f = 2 ∨ f = 3 ∨ f = 4 ∨ f = 5 ∨ f = 6 ∨ f = 7 by omega) with e | e | e | e | e | e | e | e <;> rcases (show g = 0 ∨ g = 32 ∨ (¬ g = 0 ∧ ¬ g = 32) by omega) with eg | eg | eg <;> rw [e] at hq ⊢ <;> (try rw [eg] at hq ⊢)
  · exact tl_MOD_compute_0_0_0 hp hp8 hm hm9 ⟨rfl, by rw [hq]⟩
  · exact tl_MOD_compute_0_0_32 hp hp8 hm hm9 ⟨rfl, by rw [hq]⟩
  · exact tl_MOD_compute_0_0_x hp hp8 hm hm9 eg.1 eg.2 gl ⟨rfl, by rw [hq]⟩
  · exact tl_MOD_compute_0_1_0 hp hp8 hm hm9 ⟨rfl, by rw [hq]⟩
  · exact tl_MOD_compute_0_1_32 hp hp8 hm hm9 ⟨rfl, by rw [hq]⟩
  · exact tl_MOD_compute_0_1_x hp hp8 hm hm9 eg.1 eg.2 gl ⟨rfl, by rw [hq]⟩
  · exact tl_MOD_compute_0_2_0 hp hp8 hm hm9 ⟨rfl, by rw [hq]⟩
  · exact tl_MOD_compute_0_2_32 hp hp8 hm hm9 ⟨rfl, by rw [hq]⟩
  · exact tl_MOD_compute_0_2_x hp hp8 hm hm9 eg.1 eg.2 gl ⟨rfl, by rw [hq]⟩
  · exact tl_MOD_compute_0_3_0 hp hp8 hm hm9 ⟨rfl, by rw [hq]⟩
  · exact tl_MOD_compute_0_3_32 hp hp8 hm hm9 ⟨rfl, by rw [hq]⟩
  · exact tl_MOD_compute_0_3_x hp hp8 hm hm9 eg.1 eg.2 gl ⟨rfl, by rw [hq]⟩
  · exact tl_MOD_compute_0_4_0 hp hp8 hm hm9 ⟨rfl, by rw [hq]⟩
  · exact tl_MOD_compute_0_4_32 hp hp8 hm hm9 ⟨rfl, by rw [hq]⟩
  · exact tl_MOD_compute_0_4_x hp hp8 hm hm9 eg.1 eg.2 gl ⟨rfl, by rw [hq]⟩
  · exact tl_MOD_compute_0_5_0 hp hp8 hm hm9 ⟨rfl, by rw [hq]⟩
  · exact tl_MOD_compute_0_5_32 hp hp8 hm hm9 ⟨rfl, by rw [hq]⟩
  · exact tl_MOD_compute_0_5_x hp hp8 hm hm9 eg.1 eg.2 gl ⟨rfl, by rw [hq]⟩
  · exact tl_MOD_compute_0_6_0 hp hp8 hm hm9 ⟨rfl, by rw [hq]⟩
  · exact tl_MOD_compute_0_6_32 hp hp8 hm hm9 ⟨rfl, by rw [hq]⟩
  · exact tl_MOD_compute_0_6_x hp hp8 hm hm9 eg.1 eg.2 gl ⟨rfl, by rw [hq]⟩
  · exact tl_MOD_compute_0_7_0 hp hp8 hm hm9 ⟨rfl, by rw [hq]⟩
  · exact tl_MOD_compute_0_7_32 hp hp8 hm hm9 ⟨rfl, by rw [hq]⟩
  · exact tl_MOD_compute_0_7_x hp hp8 hm hm9 eg.1 eg.2 gl ⟨rfl, by rw [hq]⟩
theorem tl_MOD_compute_1_0_0 {G : iG} {F : Nat} {C M : Nat → Nat → Int32} {Q : Option iV → iH → Prop} {p m : Nat} (hp : M 0 24 = nI p) (hp8 : p ≤ 8) (hm : M 0 15 = nI m) (hm9 : m ≤ 9) {a b y : Int32} (hQ : Q none (HW F C (cmpF M p m true 0 0 a b y))) : Ev G m_MOD_compute 4 0 0 64 [some (vR 50), some (vI 1), some (vI (nI 0)), some (vI (nI 0)), some (vI a), some (vI b), some (vI y), none, none, none] [] (HW F C M) Q := by
  refine E_iload_n d_MOD_compute_64 rfl ?_
  refine E_iconst (v := 1) d_MOD_compute_65 (by decide) ?_
  refine E_icmp_eq (tgt := 74) d_MOD_compute_66 (by decide) (fun c => absurd c (by decide)) (fun _ => ?_)
  refine E_iload_n d_MOD_compute_69 rfl ?_
  refine E_iconst (v := 5) d_MOD_compute_70 (by decide) ?_
  refine E_icmp_ne (tgt := 78) d_MOD_compute_71 (by decide) (fun _ => ?_) (fun c => absurd c (by decide))
  refine E_iconst (v := 0) d_MOD_compute_78 (by decide) ?_
  refine E_istore d_MOD_compute_79 (by decide) ?_
  refine E_iload_n d_MOD_compute_81 rfl ?_
  refine E_bipush (v := 32) d_MOD_compute_82 (by decide) ?_
  refine E_icmp_ne (tgt := 104) d_MOD_compute_84 (by decide) (fun _ => ?_) (fun c => absurd c (by decide))
  refine E_iconst (v := 0) d_MOD_compute_104 (by decide) ?_
  refine E_istore d_MOD_compute_105 (by decide) ?_
  refine E_iload_n d_MOD_compute_107 rfl ?_
  refine E_if_eq (tgt := 131) d_MOD_compute_108 (by decide) (fun _ => ?_) (fun c => absurd (by decide) c)
  refine E_iconst (v := 0) d_MOD_compute_131 (by decide) ?_
  refine E_istore d_MOD_compute_132 (by decide) ?_
  refine E_iload_n d_MOD_compute_134 rfl ?_
  refine E_if_ne (tgt := 165) d_MOD_compute_135 (by decide) (fun c => absurd (by decide) c) (fun _ => ?_)
  refine E_iload_n d_MOD_compute_138 rfl ?_
  refine E_if_eq (tgt := 155) d_MOD_compute_139 (by decide) (fun c => absurd c (by decide)) (fun _ => ?_)
  refine E_iload d_MOD_compute_142 rfl ?_
  refine E_if_eq (tgt := 155) d_MOD_compute_144 (by decide) (fun _ => ?_) (fun c => absurd (by decide) c)
  refine E_iload d_MOD_compute_155 rfl ?_
  refine E_iload d_MOD_compute_157 rfl ?_
  refine E_iadd d_MOD_compute_159 ?_
  refine E_istore d_MOD_compute_160 (by decide) ?_
  refine E_goto (tgt := 284) d_MOD_compute_162 (by decide) ?_
  refine E_aload_n d_MOD_compute_284 rfl rfl ?_
  refine E_aload_n d_MOD_compute_285 rfl rfl ?_
  refine E_V0i d_MOD_compute_286 w_MOD_131 rfl (by decide) (Nat.le_of_ble_eq_true rfl) (c_MOD_d) ?_
  rintro _ _ ⟨rfl, rfl⟩
  refine E_iload d_MOD_compute_289 rfl ?_
  refine E_V2v d_MOD_compute_291 w_MOD_135 rfl (by decide) (Nat.le_of_ble_eq_true rfl) (c_MOD_set hp hp8 (bf_lt _ _ 5)) ?_
  rintro _ rfl
  exact E_return d_MOD_compute_294 rfl rfl (by rw [cmpF_ok rfl] at hQ; exact hQ)
theorem tl_MOD_compute_1_0_32 {G : iG} {F : Nat} {C M : Nat → Nat → Int32} {Q : Option iV → iH → Prop} {p m : Nat} (hp : M 0 24 = nI p) (hp8 : p ≤ 8) (hm : M 0 15 = nI m) (hm9 : m ≤ 9) {a b y : Int32} (hQ : Q none (HW F C (cmpF M p m true 0 32 a b y))) : Ev G m_MOD_compute 4 0 0 64 [some (vR 50), some (vI 1), some (vI (nI 0)), some (vI (nI 32)), some (vI a), some (vI b), some (vI y), none, none, none] [] (HW F C M) Q := by
  refine E_iload_n d_MOD_compute_64 rfl ?_
  refine E_iconst (v := 1) d_MOD_compute_65 (by decide) ?_
  refine E_icmp_eq (tgt := 74) d_MOD_compute_66 (by decide) (fun c => absurd c (by decide)) (fun _ => ?_)
  refine E_iload_n d_MOD_compute_69 rfl ?_
  refine E_iconst (v := 5) d_MOD_compute_70 (by decide) ?_
  refine E_icmp_ne (tgt := 78) d_MOD_compute_71 (by decide) (fun _ => ?_) (fun c => absurd c (by decide))
  refine E_iconst (v := 0) d_MOD_compute_78 (by decide) ?_
  refine E_istore d_MOD_compute_79 (by decide) ?_
  refine E_iload_n d_MOD_compute_81 rfl ?_
  refine E_bipush (v := 32) d_MOD_compute_82 (by decide) ?_
  refine E_icmp_ne (tgt := 104) d_MOD_compute_84 (by decide) (fun c => absurd (by decide) c) (fun _ => ?_)
  refine E_iload_n d_MOD_compute_87 rfl ?_
  refine E_iconst (v := 5) d_MOD_compute_88 (by decide) ?_
  refine E_icmp_eq (tgt := 100) d_MOD_compute_89 (by decide) (fun c => absurd c (by decide)) (fun _ => ?_)
  refine E_iload_n d_MOD_compute_92 rfl ?_
  refine E_if_eq (tgt := 104) d_MOD_compute_93 (by decide) (fun c => absurd c (by decide)) (fun _ => ?_)
  refine E_iload_n d_MOD_compute_96 rfl ?_
  refine E_if_ne (tgt := 104) d_MOD_compute_97 (by decide) (fun c => absurd (by decide) c) (fun _ => ?_)
  refine E_iconst (v := 1) d_MOD_compute_100 (by decide) ?_
  refine E_goto (tgt := 105) d_MOD_compute_101 (by decide) ?_
  refine E_istore d_MOD_compute_105 (by decide) ?_
  refine E_iload_n d_MOD_compute_107 rfl ?_
  refine E_if_eq (tgt := 131) d_MOD_compute_108 (by decide) (fun c => absurd c (by decide)) (fun _ => ?_)
  refine E_iload d_MOD_compute_111 rfl ?_
  refine E_if_ne (tgt := 131) d_MOD_compute_113 (by decide) (fun _ => ?_) (fun c => absurd c (by decide))
  refine E_iconst (v := 0) d_MOD_compute_131 (by decide) ?_
  refine E_istore d_MOD_compute_132 (by decide) ?_
  refine E_iload_n d_MOD_compute_134 rfl ?_
  refine E_if_ne (tgt := 165) d_MOD_compute_135 (by decide) (fun c => absurd (by decide) c) (fun _ => ?_)
  refine E_iload_n d_MOD_compute_138 rfl ?_
  refine E_if_eq (tgt := 155) d_MOD_compute_139 (by decide) (fun c => absurd c (by decide)) (fun _ => ?_)
  refine E_iload d_MOD_compute_142 rfl ?_
  refine E_if_eq (tgt := 155) d_MOD_compute_144 (by decide) (fun c => absurd c (by decide)) (fun _ => ?_)
  refine E_iload d_MOD_compute_147 rfl ?_
  refine E_iload d_MOD_compute_149 rfl ?_
  refine E_isub d_MOD_compute_151 ?_
  refine E_goto (tgt := 160) d_MOD_compute_152 (by decide) ?_
  refine E_istore d_MOD_compute_160 (by decide) ?_
  refine E_goto (tgt := 284) d_MOD_compute_162 (by decide) ?_
  refine E_aload_n d_MOD_compute_284 rfl rfl ?_
  refine E_aload_n d_MOD_compute_285 rfl rfl ?_
  refine E_V0i d_MOD_compute_286 w_MOD_131 rfl (by decide) (Nat.le_of_ble_eq_true rfl) (c_MOD_d) ?_
  rintro _ _ ⟨rfl, rfl⟩
  refine E_iload d_MOD_compute_289 rfl ?_
  refine E_V2v d_MOD_compute_291 w_MOD_135 rfl (by decide) (Nat.le_of_ble_eq_true rfl) (c_MOD_set hp hp8 (bf_lt _ _ 5)) ?_
  rintro _ rfl
  exact E_return d_MOD_compute_294 rfl rfl (by rw [cmpF_ok rfl] at hQ; exact hQ)
theorem tl_MOD_compute_1_0_x {G : iG} {F : Nat} {C M : Nat → Nat → Int32} {Q : Option iV → iH → Prop} {p m : Nat} (hp : M 0 24 = nI p) (hp8 : p ≤ 8) (hm : M 0 15 = nI m) (hm9 : m ≤ 9) {a b y : Int32} {g : Nat} (g0 : ¬ g = 0) (g32 : ¬ g = 32) (gl : g < 128) (hQ : Q none (HW F C (cmpF M p m true 0 g a b y))) : Ev G m_MOD_compute 4 0 0 64 [some (vR 50), some (vI 1), some (vI (nI 0)), some (vI (nI g)), some (vI a), some (vI b), some (vI y), none, none, none] [] (HW F C M) Q := by
  refine E_iload_n d_MOD_compute_64 rfl ?_
  refine E_iconst (v := 1) d_MOD_compute_65 (by decide) ?_
  refine E_icmp_eq (tgt := 74) d_MOD_compute_66 (by decide) (fun c => absurd c (by decide)) (fun _ => ?_)
  refine E_iload_n d_MOD_compute_69 rfl ?_
  refine E_iconst (v := 5) d_MOD_compute_70 (by decide) ?_
  refine E_icmp_ne (tgt := 78) d_MOD_compute_71 (by decide) (fun _ => ?_) (fun c => absurd c (by decide))
  refine E_iconst (v := 0) d_MOD_compute_78 (by decide) ?_
  refine E_istore d_MOD_compute_79 (by decide) ?_
  refine E_iload_n d_MOD_compute_81 rfl ?_
  refine E_bipush (v := 32) d_MOD_compute_82 (by decide) ?_
  refine E_icmp_ne (tgt := 104) d_MOD_compute_84 (by decide) (fun _ => ?_) (fun c => absurd c (fun q => g32 ((nI_eq (b := 32) (by omega) (by decide)).mp q)))
  refine E_iconst (v := 0) d_MOD_compute_104 (by decide) ?_
  refine E_istore d_MOD_compute_105 (by decide) ?_
  refine E_iload_n d_MOD_compute_107 rfl ?_
  refine E_if_eq (tgt := 131) d_MOD_compute_108 (by decide) (fun c => absurd c (fun q => g0 ((nI_eq (b := 0) (by omega) (by decide)).mp q))) (fun _ => ?_)
  refine E_iload d_MOD_compute_111 rfl ?_
  refine E_if_ne (tgt := 131) d_MOD_compute_113 (by decide) (fun c => absurd (by decide) c) (fun _ => ?_)
  refine E_iload_n d_MOD_compute_116 rfl ?_
  refine E_if_ne (tgt := 125) d_MOD_compute_117 (by decide) (fun _ => ?_) (fun c => absurd c (by decide))
  refine E_aload_n d_MOD_compute_125 rfl rfl ?_
  refine E_iconst (v := 2) d_MOD_compute_126 (by decide) ?_
  refine E_V1v d_MOD_compute_127 w_MOD_128 rfl (by decide) (Nat.le_of_ble_eq_true rfl) (c_MOD_fault hp hp8 hm hm9) ?_
  rintro _ rfl
  exact E_return d_MOD_compute_130 rfl rfl (by rw [cmpF_bad (by simp [cbad, g0, g32])] at hQ; exact hQ)
theorem tl_MOD_compute_1_1_0 {G : iG} {F : Nat} {C M : Nat → Nat → Int32} {Q : Option iV → iH → Prop} {p m : Nat} (hp : M 0 24 = nI p) (hp8 : p ≤ 8) (hm : M 0 15 = nI m) (hm9 : m ≤ 9) {a b y : Int32} (hQ : Q none (HW F C (cmpF M p m true 1 0 a b y))) : Ev G m_MOD_compute 4 0 0 64 [some (vR 50), some (vI 1), some (vI (nI 1)), some (vI (nI 0)), some (vI a), some (vI b), some (vI y), none, none, none] [] (HW F C M) Q := by
  refine E_iload_n d_MOD_compute_64 rfl ?_
  refine E_iconst (v := 1) d_MOD_compute_65 (by decide) ?_
  refine E_icmp_eq (tgt := 74) d_MOD_compute_66 (by decide) (fun _ => ?_) (fun c => absurd (by decide) c)
  refine E_iconst (v := 1) d_MOD_compute_74 (by decide) ?_
  refine E_goto (tgt := 79) d_MOD_compute_75 (by decide) ?_
  refine E_istore d_MOD_compute_79 (by decide) ?_
  refine E_iload_n d_MOD_compute_81 rfl ?_
  refine E_bipush (v := 32) d_MOD_compute_82 (by decide) ?_
  refine E_icmp_ne (tgt := 104) d_MOD_compute_84 (by decide) (fun _ => ?_) (fun c => absurd c (by decide))
  refine E_iconst (v := 0) d_MOD_compute_104 (by decide) ?_
  refine E_istore d_MOD_compute_105 (by decide) ?_
  refine E_iload_n d_MOD_compute_107 rfl ?_
  refine E_if_eq (tgt := 131) d_MOD_compute_108 (by decide) (fun _ => ?_) (fun c => absurd (by decide) c)
  refine E_iconst (v := 0) d_MOD_compute_131 (by decide) ?_
  refine E_istore d_MOD_compute_132 (by decide) ?_
  refine E_iload_n d_MOD_compute_134 rfl ?_
  refine E_if_ne (tgt := 165) d_MOD_compute_135 (by decide) (fun _ => ?_) (fun c => absurd c (by decide))
  refine E_iload_n d_MOD_compute_165 rfl ?_
  refine E_iconst (v := 1) d_MOD_compute_166 (by decide) ?_
  refine E_icmp_ne (tgt := 180) d_MOD_compute_167 (by decide) (fun c => absurd (by decide) c) (fun _ => ?_)
  refine E_iload d_MOD_compute_170 rfl ?_
  refine E_iload d_MOD_compute_172 rfl ?_
  refine E_ishl d_MOD_compute_174 ?_
  refine E_istore d_MOD_compute_175 (by decide) ?_
  refine E_goto (tgt := 284) d_MOD_compute_177 (by decide) ?_
  refine E_aload_n d_MOD_compute_284 rfl rfl ?_
  refine E_aload_n d_MOD_compute_285 rfl rfl ?_
  refine E_V0i d_MOD_compute_286 w_MOD_131 rfl (by decide) (Nat.le_of_ble_eq_true rfl) (c_MOD_d) ?_
  rintro _ _ ⟨rfl, rfl⟩
  refine E_iload d_MOD_compute_289 rfl ?_
  refine E_V2v d_MOD_compute_291 w_MOD_135 rfl (by decide) (Nat.le_of_ble_eq_true rfl) (c_MOD_set hp hp8 (bf_lt _ _ 5)) ?_
  rintro _ rfl
  exact E_return d_MOD_compute_294 rfl rfl (by rw [cmpF_ok rfl] at hQ; exact hQ)
theorem tl_MOD_compute_1_1_32 {G : iG} {F : Nat} {C M : Nat → Nat → Int32} {Q : Option iV → iH → Prop} {p m : Nat} (hp : M 0 24 = nI p) (hp8 : p ≤ 8) (hm : M 0 15 = nI m) (hm9 : m ≤ 9) {a b y : Int32} (hQ : Q none (HW F C (cmpF M p m true 1 32 a b y))) : Ev G m_MOD_compute 4 0 0 64 [some (vR 50), some (vI 1), some (vI (nI 1)), some (vI (nI 32)), some (vI a), some (vI b), some (vI y), none, none, none] [] (HW F C M) Q := by
  refine E_iload_n d_MOD_compute_64 rfl ?_
  refine E_iconst (v := 1) d_MOD_compute_65 (by decide) ?_
  refine E_icmp_eq (tgt := 74) d_MOD_compute_66 (by decide) (fun _ => ?_) (fun c => absurd (by decide) c)
  refine E_iconst (v := 1) d_MOD_compute_74 (by decide) ?_
  refine E_goto (tgt := 79) d_MOD_compute_75 (by decide) ?_
  refine E_istore d_MOD_compute_79 (by decide) ?_
  refine E_iload_n d_MOD_compute_81 rfl ?_
  refine E_bipush (v := 32) d_MOD_compute_82 (by decide) ?_
  refine E_icmp_ne (tgt := 104) d_MOD_compute_84 (by decide) (fun c => absurd (by decide) c) (fun _ => ?_)
  refine E_iload_n d_MOD_compute_87 rfl ?_
  refine E_iconst (v := 5) d_MOD_compute_88 (by decide) ?_
  refine E_icmp_eq (tgt := 100) d_MOD_compute_89 (by decide) (fun c => absurd c (by decide)) (fun _ => ?_)
  refine E_iload_n d_MOD_compute_92 rfl ?_
  refine E_if_eq (tgt := 104) d_MOD_compute_93 (by decide) (fun c => absurd c (by decide)) (fun _ => ?_)
  refine E_iload_n d_MOD_compute_96 rfl ?_
  refine E_if_ne (tgt := 104) d_MOD_compute_97 (by decide) (fun _ => ?_) (fun c => absurd c (by decide))
  refine E_iconst (v := 0) d_MOD_compute_104 (by decide) ?_
  refine E_istore d_MOD_compute_105 (by decide) ?_
  refine E_iload_n d_MOD_compute_107 rfl ?_
  refine E_if_eq (tgt := 131) d_MOD_compute_108 (by decide) (fun c => absurd c (by decide)) (fun _ => ?_)
  refine E_iload d_MOD_compute_111 rfl ?_
  refine E_if_ne (tgt := 131) d_MOD_compute_113 (by decide) (fun c => absurd (by decide) c) (fun _ => ?_)
  refine E_iload_n d_MOD_compute_116 rfl ?_
  refine E_if_ne (tgt := 125) d_MOD_compute_117 (by decide) (fun _ => ?_) (fun c => absurd c (by decide))
  refine E_aload_n d_MOD_compute_125 rfl rfl ?_
  refine E_iconst (v := 2) d_MOD_compute_126 (by decide) ?_
  refine E_V1v d_MOD_compute_127 w_MOD_128 rfl (by decide) (Nat.le_of_ble_eq_true rfl) (c_MOD_fault hp hp8 hm hm9) ?_
  rintro _ rfl
  exact E_return d_MOD_compute_130 rfl rfl (by rw [cmpF_bad rfl] at hQ; exact hQ)
theorem tl_MOD_compute_1_1_x {G : iG} {F : Nat} {C M : Nat → Nat → Int32} {Q : Option iV → iH → Prop} {p m : Nat} (hp : M 0 24 = nI p) (hp8 : p ≤ 8) (hm : M 0 15 = nI m) (hm9 : m ≤ 9) {a b y : Int32} {g : Nat} (g0 : ¬ g = 0) (g32 : ¬ g = 32) (gl : g < 128) (hQ : Q none (HW F C (cmpF M p m true 1 g a b y))) : Ev G m_MOD_compute 4 0 0 64 [some (vR 50), some (vI 1), some (vI (nI 1)), some (vI (nI g)), some (vI a), some (vI b), some (vI y), none, none, none] [] (HW F C M) Q := by
  refine E_iload_n d_MOD_compute_64 rfl ?_
  refine E_iconst (v := 1) d_MOD_compute_65 (by decide) ?_
  refine E_icmp_eq (tgt := 74) d_MOD_compute_66 (by decide) (fun _ => ?_) (fun c => absurd (by decide) c)
  refine E_iconst (v := 1) d_MOD_compute_74 (by decide) ?_
  refine E_goto (tgt := 79) d_MOD_compute_75 (by decide) ?_
  refine E_istore d_MOD_compute_79 (by decide) ?_
  refine E_iload_n d_MOD_compute_81 rfl ?_
  refine E_bipush (v := 32) d_MOD_compute_82 (by decide) ?_
  refine E_icmp_ne (tgt := 104) d_MOD_compute_84 (by decide) (fun _ => ?_) (fun c => absurd c (fun q => g32 ((nI_eq (b := 32) (by omega) (by decide)).mp q)))
  refine E_iconst (v := 0) d_MOD_compute_104 (by decide) ?_
  refine E_istore d_MOD_compute_105 (by decide) ?_
  refine E_iload_n d_MOD_compute_107 rfl ?_
  refine E_if_eq (tgt := 131) d_MOD_compute_108 (by decide) (fun c => absurd c (fun q => g0 ((nI_eq (b := 0) (by omega) (by decide)).mp q))) (fun _ => ?_)
  refine E_iload d_MOD_compute_111 rfl ?_
  refine E_if_ne (tgt := 131) d_MOD_compute_113 (by decide) (fun c => absurd (by decide) c) (fun _ => ?_)
  refine E_iload_n d_MOD_compute_116 rfl ?_
  refine E_if_ne (tgt := 125) d_MOD_compute_117 (by decide) (fun _ => ?_) (fun c => absurd c (by decide))
  refine E_aload_n d_MOD_compute_125 rfl rfl ?_
  refine E_iconst (v := 2) d_MOD_compute_126 (by decide) ?_
  refine E_V1v d_MOD_compute_127 w_MOD_128 rfl (by decide) (Nat.le_of_ble_eq_true rfl) (c_MOD_fault hp hp8 hm hm9) ?_
  rintro _ rfl
  exact E_return d_MOD_compute_130 rfl rfl (by rw [cmpF_bad (by simp [cbad, g0, g32])] at hQ; exact hQ)
theorem tl_MOD_compute_1_2_0 {G : iG} {F : Nat} {C M : Nat → Nat → Int32} {Q : Option iV → iH → Prop} {p m : Nat} (hp : M 0 24 = nI p) (hp8 : p ≤ 8) (hm : M 0 15 = nI m) (hm9 : m ≤ 9) {a b y : Int32} (hQ : Q none (HW F C (cmpF M p m true 2 0 a b y))) : Ev G m_MOD_compute 4 0 0 64 [some (vR 50), some (vI 1), some (vI (nI 2)), some (vI (nI 0)), some (vI a), some (vI b), some (vI y), none, none, none] [] (HW F C M) Q := by
  refine E_iload_n d_MOD_compute_64 rfl ?_
  refine E_iconst (v := 1) d_MOD_compute_65 (by decide) ?_
  refine E_icmp_eq (tgt := 74) d_MOD_compute_66 (by decide) (fun c => absurd c (by decide)) (fun _ => ?_)
  refine E_iload_n d_MOD_compute_69 rfl ?_
  refine E_iconst (v := 5) d_MOD_compute_70 (by decide) ?_
  refine E_icmp_ne (tgt := 78) d_MOD_compute_71 (by decide) (fun _ => ?_) (fun c => absurd c (by decide))
  refine E_iconst (v := 0) d_MOD_compute_78 (by decide) ?_
  refine E_istore d_MOD_compute_79 (by decide) ?_
  refine E_iload_n d_MOD_compute_81 rfl ?_
  refine E_bipush (v := 32) d_MOD_compute_82 (by decide) ?_
  refine E_icmp_ne (tgt := 104) d_MOD_compute_84 (by decide) (fun _ => ?_) (fun c => absurd c (by decide))
  refine E_iconst (v := 0) d_MOD_compute_104 (by decide) ?_
  refine E_istore d_MOD_compute_105 (by decide) ?_
  refine E_iload_n d_MOD_compute_107 rfl ?_
  refine E_if_eq (tgt := 131) d_MOD_compute_108 (by decide) (fun _ => ?_) (fun c => absurd (by decide) c)
  refine E_iconst (v := 0) d_MOD_compute_131 (by decide) ?_
  refine E_istore d_MOD_compute_132 (by decide) ?_
  refine E_iload_n d_MOD_compute_134 rfl ?_
  refine E_if_ne (tgt := 165) d_MOD_compute_135 (by decide) (fun _ => ?_) (fun c => absurd c (by decide))
  refine E_iload_n d_MOD_compute_165 rfl ?_
  refine E_iconst (v := 1) d_MOD_compute_166 (by decide) ?_
  refine E_icmp_ne (tgt := 180) d_MOD_compute_167 (by decide) (fun _ => ?_) (fun c => absurd c (by decide))
  refine E_iload_n d_MOD_compute_180 rfl ?_
  refine E_iconst (v := 2) d_MOD_compute_181 (by decide) ?_
  refine E_icmp_eq (tgt := 190) d_MOD_compute_182 (by decide) (fun _ => ?_) (fun c => absurd (by decide) c)
  refine E_iload d_MOD_compute_190 rfl ?_
  refine E_iload d_MOD_compute_192 rfl ?_
  refine E_iload_n d_MOD_compute_194 rfl ?_
  refine E_iconst (v := 2) d_MOD_compute_195 (by decide) ?_
  refine E_icmp_ne (tgt := 203) d_MOD_compute_196 (by decide) (fun c => absurd (by decide) c) (fun _ => ?_)
  refine E_iconst (v := 1) d_MOD_compute_199 (by decide) ?_
  refine E_goto (tgt := 204) d_MOD_compute_200 (by decide) ?_
  refine E_S3i d_MOD_compute_204 w_MOD_164 (by decide) (Nat.le_of_ble_eq_true rfl) (c_MOD_less (sg := true)) ?_
  rintro _ _ ⟨rfl, rfl⟩
  refine E_if_eq (tgt := 214) d_MOD_compute_207 (by decide) (fun c207 => ?_) (fun c207 => ?_)
  · have hX := b2i_eq0 c207
    refine E_iconst (v := 0) d_MOD_compute_214 (by decide) ?_
    refine E_istore d_MOD_compute_215 (by decide) ?_
    refine E_goto (tgt := 284) d_MOD_compute_217 (by decide) ?_
    refine E_aload_n d_MOD_compute_284 rfl rfl ?_
    refine E_aload_n d_MOD_compute_285 rfl rfl ?_
    refine E_V0i d_MOD_compute_286 w_MOD_131 rfl (by decide) (Nat.le_of_ble_eq_true rfl) (c_MOD_d) ?_
    rintro _ _ ⟨rfl, rfl⟩
    refine E_iload d_MOD_compute_289 rfl ?_
    refine E_V2v d_MOD_compute_291 w_MOD_135 rfl (by decide) (Nat.le_of_ble_eq_true rfl) (c_MOD_set hp hp8 (bf_lt _ _ 5)) ?_
    rintro _ rfl
    exact E_return d_MOD_compute_294 rfl rfl (by rw [cmpF_ok rfl] at hQ; simp only [cval, hX, b2i_t, b2i_f] at hQ; exact hQ)
  · have hX := b2i_ne0 c207
    refine E_iconst (v := 1) d_MOD_compute_210 (by decide) ?_
    refine E_goto (tgt := 215) d_MOD_compute_211 (by decide) ?_
    refine E_istore d_MOD_compute_215 (by decide) ?_
    refine E_goto (tgt := 284) d_MOD_compute_217 (by decide) ?_
    refine E_aload_n d_MOD_compute_284 rfl rfl ?_
    refine E_aload_n d_MOD_compute_285 rfl rfl ?_
    refine E_V0i d_MOD_compute_286 w_MOD_131 rfl (by decide) (Nat.le_of_ble_eq_true rfl) (c_MOD_d) ?_
    rintro _ _ ⟨rfl, rfl⟩
    refine E_iload d_MOD_compute_289 rfl ?_
    refine E_V2v d_MOD_compute_291 w_MOD_135 rfl (by decide) (Nat.le_of_ble_eq_true rfl) (c_MOD_set hp hp8 (bf_lt _ _ 5)) ?_
    rintro _ rfl
    exact E_return d_MOD_compute_294 rfl rfl (by rw [cmpF_ok rfl] at hQ; simp only [cval, hX, b2i_t, b2i_f] at hQ; exact hQ)
theorem tl_MOD_compute_1_2_32 {G : iG} {F : Nat} {C M : Nat → Nat → Int32} {Q : Option iV → iH → Prop} {p m : Nat} (hp : M 0 24 = nI p) (hp8 : p ≤ 8) (hm : M 0 15 = nI m) (hm9 : m ≤ 9) {a b y : Int32} (hQ : Q none (HW F C (cmpF M p m true 2 32 a b y))) : Ev G m_MOD_compute 4 0 0 64 [some (vR 50), some (vI 1), some (vI (nI 2)), some (vI (nI 32)), some (vI a), some (vI b), some (vI y), none, none, none] [] (HW F C M) Q := by
  refine E_iload_n d_MOD_compute_64 rfl ?_
  refine E_iconst (v := 1) d_MOD_compute_65 (by decide) ?_
  refine E_icmp_eq (tgt := 74) d_MOD_compute_66 (by decide) (fun c => absurd c (by decide)) (fun _ => ?_)
  refine E_iload_n d_MOD_compute_69 rfl ?_
  refine E_iconst (v := 5) d_MOD_compute_70 (by decide) ?_
  refine E_icmp_ne (tgt := 78) d_MOD_compute_71 (by decide) (fun _ => ?_) (fun c => absurd c (by decide))
  refine E_iconst (v := 0) d_MOD_compute_78 (by decide) ?_
  refine E_istore d_MOD_compute_79 (by decide) ?_
  refine E_iload_n d_MOD_compute_81 rfl ?_
  refine E_bipush (v := 32) d_MOD_compute_82 (by decide) ?_
  refine E_icmp_ne (tgt := 104) d_MOD_compute_84 (by decide) (fun c => absurd (by decide) c) (fun _ => ?_)
  refine E_iload_n d_MOD_compute_87 rfl ?_
  refine E_iconst (v := 5) d_MOD_compute_88 (by decide) ?_
  refine E_icmp_eq (tgt := 100) d_MOD_compute_89 (by decide) (fun c => absurd c (by decide)) (fun _ => ?_)
  refine E_iload_n d_MOD_compute_92 rfl ?_
  refine E_if_eq (tgt := 104) d_MOD_compute_93 (by decide) (fun c => absurd c (by decide)) (fun _ => ?_)
  refine E_iload_n d_MOD_compute_96 rfl ?_
  refine E_if_ne (tgt := 104) d_MOD_compute_97 (by decide) (fun _ => ?_) (fun c => absurd c (by decide))
  refine E_iconst (v := 0) d_MOD_compute_104 (by decide) ?_
  refine E_istore d_MOD_compute_105 (by decide) ?_
  refine E_iload_n d_MOD_compute_107 rfl ?_
  refine E_if_eq (tgt := 131) d_MOD_compute_108 (by decide) (fun c => absurd c (by decide)) (fun _ => ?_)
  refine E_iload d_MOD_compute_111 rfl ?_
  refine E_if_ne (tgt := 131) d_MOD_compute_113 (by decide) (fun c => absurd (by decide) c) (fun _ => ?_)
  refine E_iload_n d_MOD_compute_116 rfl ?_
  refine E_if_ne (tgt := 125) d_MOD_compute_117 (by decide) (fun _ => ?_) (fun c => absurd c (by decide))
  refine E_aload_n d_MOD_compute_125 rfl rfl ?_
  refine E_iconst (v := 2) d_MOD_compute_126 (by decide) ?_
  refine E_V1v d_MOD_compute_127 w_MOD_128 rfl (by decide) (Nat.le_of_ble_eq_true rfl) (c_MOD_fault hp hp8 hm hm9) ?_
  rintro _ rfl
  exact E_return d_MOD_compute_130 rfl rfl (by rw [cmpF_bad rfl] at hQ; exact hQ)
theorem tl_MOD_compute_1_2_x {G : iG} {F : Nat} {C M : Nat → Nat → Int32} {Q : Option iV → iH → Prop} {p m : Nat} (hp : M 0 24 = nI p) (hp8 : p ≤ 8) (hm : M 0 15 = nI m) (hm9 : m ≤ 9) {a b y : Int32} {g : Nat} (g0 : ¬ g = 0) (g32 : ¬ g = 32) (gl : g < 128) (hQ : Q none (HW F C (cmpF M p m true 2 g a b y))) : Ev G m_MOD_compute 4 0 0 64 [some (vR 50), some (vI 1), some (vI (nI 2)), some (vI (nI g)), some (vI a), some (vI b), some (vI y), none, none, none] [] (HW F C M) Q := by
  refine E_iload_n d_MOD_compute_64 rfl ?_
  refine E_iconst (v := 1) d_MOD_compute_65 (by decide) ?_
  refine E_icmp_eq (tgt := 74) d_MOD_compute_66 (by decide) (fun c => absurd c (by decide)) (fun _ => ?_)
  refine E_iload_n d_MOD_compute_69 rfl ?_
  refine E_iconst (v := 5) d_MOD_compute_70 (by decide) ?_
  refine E_icmp_ne (tgt := 78) d_MOD_compute_71 (by decide) (fun _ => ?_) (fun c => absurd c (by decide))
  refine E_iconst (v := 0) d_MOD_compute_78 (by decide) ?_
  refine E_istore d_MOD_compute_79 (by decide) ?_
  refine E_iload_n d_MOD_compute_81 rfl ?_
  refine E_bipush (v := 32) d_MOD_compute_82 (by decide) ?_
  refine E_icmp_ne (tgt := 104) d_MOD_compute_84 (by decide) (fun _ => ?_) (fun c => absurd c (fun q => g32 ((nI_eq (b := 32) (by omega) (by decide)).mp q)))
  refine E_iconst (v := 0) d_MOD_compute_104 (by decide) ?_
  refine E_istore d_MOD_compute_105 (by decide) ?_
  refine E_iload_n d_MOD_compute_107 rfl ?_
  refine E_if_eq (tgt := 131) d_MOD_compute_108 (by decide) (fun c => absurd c (fun q => g0 ((nI_eq (b := 0) (by omega) (by decide)).mp q))) (fun _ => ?_)
  refine E_iload d_MOD_compute_111 rfl ?_
  refine E_if_ne (tgt := 131) d_MOD_compute_113 (by decide) (fun c => absurd (by decide) c) (fun _ => ?_)
  refine E_iload_n d_MOD_compute_116 rfl ?_
  refine E_if_ne (tgt := 125) d_MOD_compute_117 (by decide) (fun _ => ?_) (fun c => absurd c (by decide))
  refine E_aload_n d_MOD_compute_125 rfl rfl ?_
  refine E_iconst (v := 2) d_MOD_compute_126 (by decide) ?_
  refine E_V1v d_MOD_compute_127 w_MOD_128 rfl (by decide) (Nat.le_of_ble_eq_true rfl) (c_MOD_fault hp hp8 hm hm9) ?_
  rintro _ rfl
  exact E_return d_MOD_compute_130 rfl rfl (by rw [cmpF_bad (by simp [cbad, g0, g32])] at hQ; exact hQ)
theorem tl_MOD_compute_1_3_0 {G : iG} {F : Nat} {C M : Nat → Nat → Int32} {Q : Option iV → iH → Prop} {p m : Nat} (hp : M 0 24 = nI p) (hp8 : p ≤ 8) (hm : M 0 15 = nI m) (hm9 : m ≤ 9) {a b y : Int32} (hQ : Q none (HW F C (cmpF M p m true 3 0 a b y))) : Ev G m_MOD_compute 4 0 0 64 [some (vR 50), some (vI 1), some (vI (nI 3)), some (vI (nI 0)), some (vI a), some (vI b), some (vI y), none, none, none] [] (HW F C M) Q := by
  refine E_iload_n d_MOD_compute_64 rfl ?_
  refine E_iconst (v := 1) d_MOD_compute_65 (by decide) ?_
  refine E_icmp_eq (tgt := 74) d_MOD_compute_66 (by decide) (fun c => absurd c (by decide)) (fun _ => ?_)
  refine E_iload_n d_MOD_compute_69 rfl ?_
  refine E_iconst (v := 5) d_MOD_compute_70 (by decide) ?_
  refine E_icmp_ne (tgt := 78) d_MOD_compute_71 (by decide) (fun _ => ?_) (fun c => absurd c (by decide))
  refine E_iconst (v := 0) d_MOD_compute_78 (by decide) ?_
  refine E_istore d_MOD_compute_79 (by decide) ?_
  refine E_iload_n d_MOD_compute_81 rfl ?_
  refine E_bipush (v := 32) d_MOD_compute_82 (by decide) ?_
  refine E_icmp_ne (tgt := 104) d_MOD_compute_84 (by decide) (fun _ => ?_) (fun c => absurd c (by decide))
  refine E_iconst (v := 0) d_MOD_compute_104 (by decide) ?_
  refine E_istore d_MOD_compute_105 (by decide) ?_
  refine E_iload_n d_MOD_compute_107 rfl ?_
  refine E_if_eq (tgt := 131) d_MOD_compute_108 (by decide) (fun _ => ?_) (fun c => absurd (by decide) c)
  refine E_iconst (v := 0) d_MOD_compute_131 (by decide) ?_
  refine E_istore d_MOD_compute_132 (by decide) ?_
  refine E_iload_n d_MOD_compute_134 rfl ?_
  refine E_if_ne (tgt := 165) d_MOD_compute_135 (by decide) (fun _ => ?_) (fun c => absurd c (by decide))
  refine E_iload_n d_MOD_compute_165 rfl ?_
  refine E_iconst (v := 1) d_MOD_compute_166 (by decide) ?_
  refine E_icmp_ne (tgt := 180) d_MOD_compute_167 (by decide) (fun _ => ?_) (fun c => absurd c (by decide))
  refine E_iload_n d_MOD_compute_180 rfl ?_
  refine E_iconst (v := 2) d_MOD_compute_181 (by decide) ?_
  refine E_icmp_eq (tgt := 190) d_MOD_compute_182 (by decide) (fun c => absurd c (by decide)) (fun _ => ?_)
  refine E_iload_n d_MOD_compute_185 rfl ?_
  refine E_iconst (v := 3) d_MOD_compute_186 (by decide) ?_
  refine E_icmp_ne (tgt := 220) d_MOD_compute_187 (by decide) (fun c => absurd (by decide) c) (fun _ => ?_)
  refine E_iload d_MOD_compute_190 rfl ?_
  refine E_iload d_MOD_compute_192 rfl ?_
  refine E_iload_n d_MOD_compute_194 rfl ?_
  refine E_iconst (v := 2) d_MOD_compute_195 (by decide) ?_
  refine E_icmp_ne (tgt := 203) d_MOD_compute_196 (by decide) (fun _ => ?_) (fun c => absurd c (by decide))
  refine E_iconst (v := 0) d_MOD_compute_203 (by decide) ?_
  refine E_S3i d_MOD_compute_204 w_MOD_164 (by decide) (Nat.le_of_ble_eq_true rfl) (c_MOD_less (sg := false)) ?_
  rintro _ _ ⟨rfl, rfl⟩
  refine E_if_eq (tgt := 214) d_MOD_compute_207 (by decide) (fun c207 => ?_) (fun c207 => ?_)
  · have hX := b2i_eq0 c207
    refine E_iconst (v := 0) d_MOD_compute_214 (by decide) ?_
    refine E_istore d_MOD_compute_215 (by decide) ?_
    refine E_goto (tgt := 284) d_MOD_compute_217 (by decide) ?_
    refine E_aload_n d_MOD_compute_284 rfl rfl ?_
    refine E_aload_n d_MOD_compute_285 rfl rfl ?_
    refine E_V0i d_MOD_compute_286 w_MOD_131 rfl (by decide) (Nat.le_of_ble_eq_true rfl) (c_MOD_d) ?_
    rintro _ _ ⟨rfl, rfl⟩
    refine E_iload d_MOD_compute_289 rfl ?_
    refine E_V2v d_MOD_compute_291 w_MOD_135 rfl (by decide) (Nat.le_of_ble_eq_true rfl) (c_MOD_set hp hp8 (bf_lt _ _ 5)) ?_
    rintro _ rfl
    exact E_return d_MOD_compute_294 rfl rfl (by rw [cmpF_ok rfl] at hQ; simp only [cval, hX, b2i_t, b2i_f] at hQ; exact hQ)
  · have hX := b2i_ne0 c207
    refine E_iconst (v := 1) d_MOD_compute_210 (by decide) ?_
    refine E_goto (tgt := 215) d_MOD_compute_211 (by decide) ?_
    refine E_istore d_MOD_compute_215 (by decide) ?_
    refine E_goto (tgt := 284) d_MOD_compute_217 (by decide) ?_
    refine E_aload_n d_MOD_compute_284 rfl rfl ?_
    refine E_aload_n d_MOD_compute_285 rfl rfl ?_
    refine E_V0i d_MOD_compute_286 w_MOD_131 rfl (by decide) (Nat.le_of_ble_eq_true rfl) (c_MOD_d) ?_
    rintro _ _ ⟨rfl, rfl⟩
    refine E_iload d_MOD_compute_289 rfl ?_
    refine E_V2v d_MOD_compute_291 w_MOD_135 rfl (by decide) (Nat.le_of_ble_eq_true rfl) (c_MOD_set hp hp8 (bf_lt _ _ 5)) ?_
    rintro _ rfl
    exact E_return d_MOD_compute_294 rfl rfl (by rw [cmpF_ok rfl] at hQ; simp only [cval, hX, b2i_t, b2i_f] at hQ; exact hQ)
theorem tl_MOD_compute_1_3_32 {G : iG} {F : Nat} {C M : Nat → Nat → Int32} {Q : Option iV → iH → Prop} {p m : Nat} (hp : M 0 24 = nI p) (hp8 : p ≤ 8) (hm : M 0 15 = nI m) (hm9 : m ≤ 9) {a b y : Int32} (hQ : Q none (HW F C (cmpF M p m true 3 32 a b y))) : Ev G m_MOD_compute 4 0 0 64 [some (vR 50), some (vI 1), some (vI (nI 3)), some (vI (nI 32)), some (vI a), some (vI b), some (vI y), none, none, none] [] (HW F C M) Q := by
  refine E_iload_n d_MOD_compute_64 rfl ?_
  refine E_iconst (v := 1) d_MOD_compute_65 (by decide) ?_
  refine E_icmp_eq (tgt := 74) d_MOD_compute_66 (by decide) (fun c => absurd c (by decide)) (fun _ => ?_)
  refine E_iload_n d_MOD_compute_69 rfl ?_
  refine E_iconst (v := 5) d_MOD_compute_70 (by decide) ?_
  refine E_icmp_ne (tgt := 78) d_MOD_compute_71 (by decide) (fun _ => ?_) (fun c => absurd c (by decide))
  refine E_iconst (v := 0) d_MOD_compute_78 (by decide) ?_
  refine E_istore d_MOD_compute_79 (by decide) ?_
  refine E_iload_n d_MOD_compute_81 rfl ?_
  refine E_bipush (v := 32) d_MOD_compute_82 (by decide) ?_
  refine E_icmp_ne (tgt := 104) d_MOD_compute_84 (by decide) (fun c => absurd (by decide) c) (fun _ => ?_)
  refine E_iload_n d_MOD_compute_87 rfl ?_
  refine E_iconst (v := 5) d_MOD_compute_88 (by decide) ?_
  refine E_icmp_eq (tgt := 100) d_MOD_compute_89 (by decide) (fun c => absurd c (by decide)) (fun _ => ?_)
  refine E_iload_n d_MOD_compute_92 rfl ?_
  refine E_if_eq (tgt := 104) d_MOD_compute_93 (by decide) (fun c => absurd c (by decide)) (fun _ => ?_)
  refine E_iload_n d_MOD_compute_96 rfl ?_
  refine E_if_ne (tgt := 104) d_MOD_compute_97 (by decide) (fun _ => ?_) (fun c => absurd c (by decide))
  refine E_iconst (v := 0) d_MOD_compute_104 (by decide) ?_
  refine E_istore d_MOD_compute_105 (by decide) ?_
  refine E_iload_n d_MOD_compute_107 rfl ?_
  refine E_if_eq (tgt := 131) d_MOD_compute_108 (by decide) (fun c => absurd c (by decide)) (fun _ => ?_)
  refine E_iload d_MOD_compute_111 rfl ?_
  refine E_if_ne (tgt := 131) d_MOD_compute_113 (by decide) (fun c => absurd (by decide) c) (fun _ => ?_)
  refine E_iload_n d_MOD_compute_116 rfl ?_
  refine E_if_ne (tgt := 125) d_MOD_compute_117 (by decide) (fun _ => ?_) (fun c => absurd c (by decide))
  refine E_aload_n d_MOD_compute_125 rfl rfl ?_
  refine E_iconst (v := 2) d_MOD_compute_126 (by decide) ?_
  refine E_V1v d_MOD_compute_127 w_MOD_128 rfl (by decide) (Nat.le_of_ble_eq_true rfl) (c_MOD_fault hp hp8 hm hm9) ?_
  rintro _ rfl
  exact E_return d_MOD_compute_130 rfl rfl (by rw [cmpF_bad rfl] at hQ; exact hQ)
theorem tl_MOD_compute_1_3_x {G : iG} {F : Nat} {C M : Nat → Nat → Int32} {Q : Option iV → iH → Prop} {p m : Nat} (hp : M 0 24 = nI p) (hp8 : p ≤ 8) (hm : M 0 15 = nI m) (hm9 : m ≤ 9) {a b y : Int32} {g : Nat} (g0 : ¬ g = 0) (g32 : ¬ g = 32) (gl : g < 128) (hQ : Q none (HW F C (cmpF M p m true 3 g a b y))) : Ev G m_MOD_compute 4 0 0 64 [some (vR 50), some (vI 1), some (vI (nI 3)), some (vI (nI g)), some (vI a), some (vI b), some (vI y), none, none, none] [] (HW F C M) Q := by
  refine E_iload_n d_MOD_compute_64 rfl ?_
  refine E_iconst (v := 1) d_MOD_compute_65 (by decide) ?_
  refine E_icmp_eq (tgt := 74) d_MOD_compute_66 (by decide) (fun c => absurd c (by decide)) (fun _ => ?_)
  refine E_iload_n d_MOD_compute_69 rfl ?_
  refine E_iconst (v := 5) d_MOD_compute_70 (by decide) ?_
  refine E_icmp_ne (tgt := 78) d_MOD_compute_71 (by decide) (fun _ => ?_) (fun c => absurd c (by decide))
  refine E_iconst (v := 0) d_MOD_compute_78 (by decide) ?_
  refine E_istore d_MOD_compute_79 (by decide) ?_
  refine E_iload_n d_MOD_compute_81 rfl ?_
  refine E_bipush (v := 32) d_MOD_compute_82 (by decide) ?_
  refine E_icmp_ne (tgt := 104) d_MOD_compute_84 (by decide) (fun _ => ?_) (fun c => absurd c (fun q => g32 ((nI_eq (b := 32) (by omega) (by decide)).mp q)))
  refine E_iconst (v := 0) d_MOD_compute_104 (by decide) ?_
  refine E_istore d_MOD_compute_105 (by decide) ?_
  refine E_iload_n d_MOD_compute_107 rfl ?_
  refine E_if_eq (tgt := 131) d_MOD_compute_108 (by decide) (fun c => absurd c (fun q => g0 ((nI_eq (b := 0) (by omega) (by decide)).mp q))) (fun _ => ?_)
  refine E_iload d_MOD_compute_111 rfl ?_
  refine E_if_ne (tgt := 131) d_MOD_compute_113 (by decide) (fun c => absurd (by decide) c) (fun _ => ?_)
  refine E_iload_n d_MOD_compute_116 rfl ?_
  refine E_if_ne (tgt := 125) d_MOD_compute_117 (by decide) (fun _ => ?_) (fun c => absurd c (by decide))
  refine E_aload_n d_MOD_compute_125 rfl rfl ?_
  refine E_iconst (v := 2) d_MOD_compute_126 (by decide) ?_
  refine E_V1v d_MOD_compute_127 w_MOD_128 rfl (by decide) (Nat.le_of_ble_eq_true rfl) (c_MOD_fault hp hp8 hm hm9) ?_
  rintro _ rfl
  exact E_return d_MOD_compute_130 rfl rfl (by rw [cmpF_bad (by simp [cbad, g0, g32])] at hQ; exact hQ)
theorem tl_MOD_compute_1_4_0 {G : iG} {F : Nat} {C M : Nat → Nat → Int32} {Q : Option iV → iH → Prop} {p m : Nat} (hp : M 0 24 = nI p) (hp8 : p ≤ 8) (hm : M 0 15 = nI m) (hm9 : m ≤ 9) {a b y : Int32} (hQ : Q none (HW F C (cmpF M p m true 4 0 a b y))) : Ev G m_MOD_compute 4 0 0 64 [some (vR 50), some (vI 1), some (vI (nI 4)), some (vI (nI 0)), some (vI a), some (vI b), some (vI y), none, none, none] [] (HW F C M) Q := by
  refine E_iload_n d_MOD_compute_64 rfl ?_
  refine E_iconst (v := 1) d_MOD_compute_65 (by decide) ?_
  refine E_icmp_eq (tgt := 74) d_MOD_compute_66 (by decide) (fun c => absurd c (by decide)) (fun _ => ?_)
  refine E_iload_n d_MOD_compute_69 rfl ?_
  refine E_iconst (v := 5) d_MOD_compute_70 (by decide) ?_
  refine E_icmp_ne (tgt := 78) d_MOD_compute_71 (by decide) (fun _ => ?_) (fun c => absurd c (by decide))
  refine E_iconst (v := 0) d_MOD_compute_78 (by decide) ?_
  refine E_istore d_MOD_compute_79 (by decide) ?_
  refine E_iload_n d_MOD_compute_81 rfl ?_
  refine E_bipush (v := 32) d_MOD_compute_82 (by decide) ?_
  refine E_icmp_ne (tgt := 104) d_MOD_compute_84 (by decide) (fun _ => ?_) (fun c => absurd c (by decide))
  refine E_iconst (v := 0) d_MOD_compute_104 (by decide) ?_
  refine E_istore d_MOD_compute_105 (by decide) ?_
  refine E_iload_n d_MOD_compute_107 rfl ?_
  refine E_if_eq (tgt := 131) d_MOD_compute_108 (by decide) (fun _ => ?_) (fun c => absurd (by decide) c)
  refine E_iconst (v := 0) d_MOD_compute_131 (by decide) ?_
  refine E_istore d_MOD_compute_132 (by decide) ?_
  refine E_iload_n d_MOD_compute_134 rfl ?_
  refine E_if_ne (tgt := 165) d_MOD_compute_135 (by decide) (fun _ => ?_) (fun c => absurd c (by decide))
  refine E_iload_n d_MOD_compute_165 rfl ?_
  refine E_iconst (v := 1) d_MOD_compute_166 (by decide) ?_
  refine E_icmp_ne (tgt := 180) d_MOD_compute_167 (by decide) (fun _ => ?_) (fun c => absurd c (by decide))
  refine E_iload_n d_MOD_compute_180 rfl ?_
  refine E_iconst (v := 2) d_MOD_compute_181 (by decide) ?_
  refine E_icmp_eq (tgt := 190) d_MOD_compute_182 (by decide) (fun c => absurd c (by decide)) (fun _ => ?_)
  refine E_iload_n d_MOD_compute_185 rfl ?_
  refine E_iconst (v := 3) d_MOD_compute_186 (by decide) ?_
  refine E_icmp_ne (tgt := 220) d_MOD_compute_187 (by decide) (fun _ => ?_) (fun c => absurd c (by decide))
  refine E_iload_n d_MOD_compute_220 rfl ?_
  refine E_iconst (v := 4) d_MOD_compute_221 (by decide) ?_
  refine E_icmp_ne (tgt := 235) d_MOD_compute_222 (by decide) (fun c => absurd (by decide) c) (fun _ => ?_)
  refine E_iload d_MOD_compute_225 rfl ?_
  refine E_iload d_MOD_compute_227 rfl ?_
  refine E_ixor d_MOD_compute_229 ?_
  refine E_istore d_MOD_compute_230 (by decide) ?_
  refine E_goto (tgt := 284) d_MOD_compute_232 (by decide) ?_
  refine E_aload_n d_MOD_compute_284 rfl rfl ?_
  refine E_aload_n d_MOD_compute_285 rfl rfl ?_
  refine E_V0i d_MOD_compute_286 w_MOD_131 rfl (by decide) (Nat.le_of_ble_eq_true rfl) (c_MOD_d) ?_
  rintro _ _ ⟨rfl, rfl⟩
  refine E_iload d_MOD_compute_289 rfl ?_
  refine E_V2v d_MOD_compute_291 w_MOD_135 rfl (by decide) (Nat.le_of_ble_eq_true rfl) (c_MOD_set hp hp8 (bf_lt _ _ 5)) ?_
  rintro _ rfl
  exact E_return d_MOD_compute_294 rfl rfl (by rw [cmpF_ok rfl] at hQ; exact hQ)
theorem tl_MOD_compute_1_4_32 {G : iG} {F : Nat} {C M : Nat → Nat → Int32} {Q : Option iV → iH → Prop} {p m : Nat} (hp : M 0 24 = nI p) (hp8 : p ≤ 8) (hm : M 0 15 = nI m) (hm9 : m ≤ 9) {a b y : Int32} (hQ : Q none (HW F C (cmpF M p m true 4 32 a b y))) : Ev G m_MOD_compute 4 0 0 64 [some (vR 50), some (vI 1), some (vI (nI 4)), some (vI (nI 32)), some (vI a), some (vI b), some (vI y), none, none, none] [] (HW F C M) Q := by
  refine E_iload_n d_MOD_compute_64 rfl ?_
  refine E_iconst (v := 1) d_MOD_compute_65 (by decide) ?_
  refine E_icmp_eq (tgt := 74) d_MOD_compute_66 (by decide) (fun c => absurd c (by decide)) (fun _ => ?_)
  refine E_iload_n d_MOD_compute_69 rfl ?_
  refine E_iconst (v := 5) d_MOD_compute_70 (by decide) ?_
  refine E_icmp_ne (tgt := 78) d_MOD_compute_71 (by decide) (fun _ => ?_) (fun c => absurd c (by decide))
  refine E_iconst (v := 0) d_MOD_compute_78 (by decide) ?_
  refine E_istore d_MOD_compute_79 (by decide) ?_
  refine E_iload_n d_MOD_compute_81 rfl ?_
  refine E_bipush (v := 32) d_MOD_compute_82 (by decide) ?_
  refine E_icmp_ne (tgt := 104) d_MOD_compute_84 (by decide) (fun c => absurd (by decide) c) (fun _ => ?_)
  refine E_iload_n d_MOD_compute_87 rfl ?_
  refine E_iconst (v := 5) d_MOD_compute_88 (by decide) ?_
  refine E_icmp_eq (tgt := 100) d_MOD_compute_89 (by decide) (fun c => absurd c (by decide)) (fun _ => ?_)
  refine E_iload_n d_MOD_compute_92 rfl ?_
  refine E_if_eq (tgt := 104) d_MOD_compute_93 (by decide) (fun c => absurd c (by decide)) (fun _ => ?_)
  refine E_iload_n d_MOD_compute_96 rfl ?_
  refine E_if_ne (tgt := 104) d_MOD_compute_97 (by decide) (fun _ => ?_) (fun c => absurd c (by decide))
  refine E_iconst (v := 0) d_MOD_compute_104 (by decide) ?_
  refine E_istore d_MOD_compute_105 (by decide) ?_
  refine E_iload_n d_MOD_compute_107 rfl ?_
  refine E_if_eq (tgt := 131) d_MOD_compute_108 (by decide) (fun c => absurd c (by decide)) (fun _ => ?_)
  refine E_iload d_MOD_compute_111 rfl ?_
  refine E_if_ne (tgt := 131) d_MOD_compute_113 (by decide) (fun c => absurd (by decide) c) (fun _ => ?_)
  refine E_iload_n d_MOD_compute_116 rfl ?_
  refine E_if_ne (tgt := 125) d_MOD_compute_117 (by decide) (fun _ => ?_) (fun c => absurd c (by decide))
  refine E_aload_n d_MOD_compute_125 rfl rfl ?_
  refine E_iconst (v := 2) d_MOD_compute_126 (by decide) ?_
  refine E_V1v d_MOD_compute_127 w_MOD_128 rfl (by decide) (Nat.le_of_ble_eq_true rfl) (c_MOD_fault hp hp8 hm hm9) ?_
  rintro _ rfl
  exact E_return d_MOD_compute_130 rfl rfl (by rw [cmpF_bad rfl] at hQ; exact hQ)
theorem tl_MOD_compute_1_4_x {G : iG} {F : Nat} {C M : Nat → Nat → Int32} {Q : Option iV → iH → Prop} {p m : Nat} (hp : M 0 24 = nI p) (hp8 : p ≤ 8) (hm : M 0 15 = nI m) (hm9 : m ≤ 9) {a b y : Int32} {g : Nat} (g0 : ¬ g = 0) (g32 : ¬ g = 32) (gl : g < 128) (hQ : Q none (HW F C (cmpF M p m true 4 g a b y))) : Ev G m_MOD_compute 4 0 0 64 [some (vR 50), some (vI 1), some (vI (nI 4)), some (vI (nI g)), some (vI a), some (vI b), some (vI y), none, none, none] [] (HW F C M) Q := by
  refine E_iload_n d_MOD_compute_64 rfl ?_
  refine E_iconst (v := 1) d_MOD_compute_65 (by decide) ?_
  refine E_icmp_eq (tgt := 74) d_MOD_compute_66 (by decide) (fun c => absurd c (by decide)) (fun _ => ?_)
  refine E_iload_n d_MOD_compute_69 rfl ?_
  refine E_iconst (v := 5) d_MOD_compute_70 (by decide) ?_
  refine E_icmp_ne (tgt := 78) d_MOD_compute_71 (by decide) (fun _ => ?_) (fun c => absurd c (by decide))
  refine E_iconst (v := 0) d_MOD_compute_78 (by decide) ?_
  refine E_istore d_MOD_compute_79 (by decide) ?_
  refine E_iload_n d_MOD_compute_81 rfl ?_
  refine E_bipush (v := 32) d_MOD_compute_82 (by decide) ?_
  refine E_icmp_ne (tgt := 104) d_MOD_compute_84 (by decide) (fun _ => ?_) (fun c => absurd c (fun q => g32 ((nI_eq (b := 32) (by omega) (by decide)).mp q)))
  refine E_iconst (v := 0) d_MOD_compute_104 (by decide) ?_
  refine E_istore d_MOD_compute_105 (by decide) ?_
  refine E_iload_n d_MOD_compute_107 rfl ?_
  refine E_if_eq (tgt := 131) d_MOD_compute_108 (by decide) (fun c => absurd c (fun q => g0 ((nI_eq (b := 0) (by omega) (by decide)).mp q))) (fun _ => ?_)
  refine E_iload d_MOD_compute_111 rfl ?_
  refine E_if_ne (tgt := 131) d_MOD_compute_113 (by decide) (fun c => absurd (by decide) c) (fun _ => ?_)
  refine E_iload_n d_MOD_compute_116 rfl ?_
  refine E_if_ne (tgt := 125) d_MOD_compute_117 (by decide) (fun _ => ?_) (fun c => absurd c (by decide))
  refine E_aload_n d_MOD_compute_125 rfl rfl ?_
  refine E_iconst (v := 2) d_MOD_compute_126 (by decide) ?_
  refine E_V1v d_MOD_compute_127 w_MOD_128 rfl (by decide) (Nat.le_of_ble_eq_true rfl) (c_MOD_fault hp hp8 hm hm9) ?_
  rintro _ rfl
  exact E_return d_MOD_compute_130 rfl rfl (by rw [cmpF_bad (by simp [cbad, g0, g32])] at hQ; exact hQ)
theorem tl_MOD_compute_1_5_0 {G : iG} {F : Nat} {C M : Nat → Nat → Int32} {Q : Option iV → iH → Prop} {p m : Nat} (hp : M 0 24 = nI p) (hp8 : p ≤ 8) (hm : M 0 15 = nI m) (hm9 : m ≤ 9) {a b y : Int32} (hQ : Q none (HW F C (cmpF M p m true 5 0 a b y))) : Ev G m_MOD_compute 4 0 0 64 [some (vR 50), some (vI 1), some (vI (nI 5)), some (vI (nI 0)), some (vI a), some (vI b), some (vI y), none, none, none] [] (HW F C M) Q := by
  refine E_iload_n d_MOD_compute_64 rfl ?_
  refine E_iconst (v := 1) d_MOD_compute_65 (by decide) ?_
  refine E_icmp_eq (tgt := 74) d_MOD_compute_66 (by decide) (fun c => absurd c (by decide)) (fun _ => ?_)
  refine E_iload_n d_MOD_compute_69 rfl ?_
  refine E_iconst (v := 5) d_MOD_compute_70 (by decide) ?_
  refine E_icmp_ne (tgt := 78) d_MOD_compute_71 (by decide) (fun c => absurd (by decide) c) (fun _ => ?_)
  refine E_iconst (v := 1) d_MOD_compute_74 (by decide) ?_
  refine E_goto (tgt := 79) d_MOD_compute_75 (by decide) ?_
  refine E_istore d_MOD_compute_79 (by decide) ?_
  refine E_iload_n d_MOD_compute_81 rfl ?_
  refine E_bipush (v := 32) d_MOD_compute_82 (by decide) ?_
  refine E_icmp_ne (tgt := 104) d_MOD_compute_84 (by decide) (fun _ => ?_) (fun c => absurd c (by decide))
  refine E_iconst (v := 0) d_MOD_compute_104 (by decide) ?_
  refine E_istore d_MOD_compute_105 (by decide) ?_
  refine E_iload_n d_MOD_compute_107 rfl ?_
  refine E_if_eq (tgt := 131) d_MOD_compute_108 (by decide) (fun _ => ?_) (fun c => absurd (by decide) c)
  refine E_iconst (v := 0) d_MOD_compute_131 (by decide) ?_
  refine E_istore d_MOD_compute_132 (by decide) ?_
  refine E_iload_n d_MOD_compute_134 rfl ?_
  refine E_if_ne (tgt := 165) d_MOD_compute_135 (by decide) (fun _ => ?_) (fun c => absurd c (by decide))
  refine E_iload_n d_MOD_compute_165 rfl ?_
  refine E_iconst (v := 1) d_MOD_compute_166 (by decide) ?_
  refine E_icmp_ne (tgt := 180) d_MOD_compute_167 (by decide) (fun _ => ?_) (fun c => absurd c (by decide))
  refine E_iload_n d_MOD_compute_180 rfl ?_
  refine E_iconst (v := 2) d_MOD_compute_181 (by decide) ?_
  refine E_icmp_eq (tgt := 190) d_MOD_compute_182 (by decide) (fun c => absurd c (by decide)) (fun _ => ?_)
  refine E_iload_n d_MOD_compute_185 rfl ?_
  refine E_iconst (v := 3) d_MOD_compute_186 (by decide) ?_
  refine E_icmp_ne (tgt := 220) d_MOD_compute_187 (by decide) (fun _ => ?_) (fun c => absurd c (by decide))
  refine E_iload_n d_MOD_compute_220 rfl ?_
  refine E_iconst (v := 4) d_MOD_compute_221 (by decide) ?_
  refine E_icmp_ne (tgt := 235) d_MOD_compute_222 (by decide) (fun _ => ?_) (fun c => absurd c (by decide))
  refine E_iload_n d_MOD_compute_235 rfl ?_
  refine E_iconst (v := 5) d_MOD_compute_236 (by decide) ?_
  refine E_icmp_ne (tgt := 263) d_MOD_compute_237 (by decide) (fun c => absurd (by decide) c) (fun _ => ?_)
  refine E_iload d_MOD_compute_240 rfl ?_
  refine E_if_eq (tgt := 253) d_MOD_compute_242 (by decide) (fun _ => ?_) (fun c => absurd (by decide) c)
  refine E_iload d_MOD_compute_253 rfl ?_
  refine E_iload d_MOD_compute_255 rfl ?_
  refine E_iushr d_MOD_compute_257 ?_
  refine E_istore d_MOD_compute_258 (by decide) ?_
  refine E_goto (tgt := 284) d_MOD_compute_260 (by decide) ?_
  refine E_aload_n d_MOD_compute_284 rfl rfl ?_
  refine E_aload_n d_MOD_compute_285 rfl rfl ?_
  refine E_V0i d_MOD_compute_286 w_MOD_131 rfl (by decide) (Nat.le_of_ble_eq_true rfl) (c_MOD_d) ?_
  rintro _ _ ⟨rfl, rfl⟩
  refine E_iload d_MOD_compute_289 rfl ?_
  refine E_V2v d_MOD_compute_291 w_MOD_135 rfl (by decide) (Nat.le_of_ble_eq_true rfl) (c_MOD_set hp hp8 (bf_lt _ _ 5)) ?_
  rintro _ rfl
  exact E_return d_MOD_compute_294 rfl rfl (by rw [cmpF_ok rfl] at hQ; exact hQ)
theorem tl_MOD_compute_1_5_32 {G : iG} {F : Nat} {C M : Nat → Nat → Int32} {Q : Option iV → iH → Prop} {p m : Nat} (hp : M 0 24 = nI p) (hp8 : p ≤ 8) (hm : M 0 15 = nI m) (hm9 : m ≤ 9) {a b y : Int32} (hQ : Q none (HW F C (cmpF M p m true 5 32 a b y))) : Ev G m_MOD_compute 4 0 0 64 [some (vR 50), some (vI 1), some (vI (nI 5)), some (vI (nI 32)), some (vI a), some (vI b), some (vI y), none, none, none] [] (HW F C M) Q := by
  refine E_iload_n d_MOD_compute_64 rfl ?_
  refine E_iconst (v := 1) d_MOD_compute_65 (by decide) ?_
  refine E_icmp_eq (tgt := 74) d_MOD_compute_66 (by decide) (fun c => absurd c (by decide)) (fun _ => ?_)
  refine E_iload_n d_MOD_compute_69 rfl ?_
  refine E_iconst (v := 5) d_MOD_compute_70 (by decide) ?_
  refine E_icmp_ne (tgt := 78) d_MOD_compute_71 (by decide) (fun c => absurd (by decide) c) (fun _ => ?_)
  refine E_iconst (v := 1) d_MOD_compute_74 (by decide) ?_
  refine E_goto (tgt := 79) d_MOD_compute_75 (by decide) ?_
  refine E_istore d_MOD_compute_79 (by decide) ?_
  refine E_iload_n d_MOD_compute_81 rfl ?_
  refine E_bipush (v := 32) d_MOD_compute_82 (by decide) ?_
  refine E_icmp_ne (tgt := 104) d_MOD_compute_84 (by decide) (fun c => absurd (by decide) c) (fun _ => ?_)
  refine E_iload_n d_MOD_compute_87 rfl ?_
  refine E_iconst (v := 5) d_MOD_compute_88 (by decide) ?_
  refine E_icmp_eq (tgt := 100) d_MOD_compute_89 (by decide) (fun _ => ?_) (fun c => absurd (by decide) c)
  refine E_iconst (v := 1) d_MOD_compute_100 (by decide) ?_
  refine E_goto (tgt := 105) d_MOD_compute_101 (by decide) ?_
  refine E_istore d_MOD_compute_105 (by decide) ?_
  refine E_iload_n d_MOD_compute_107 rfl ?_
  refine E_if_eq (tgt := 131) d_MOD_compute_108 (by decide) (fun c => absurd c (by decide)) (fun _ => ?_)
  refine E_iload d_MOD_compute_111 rfl ?_
  refine E_if_ne (tgt := 131) d_MOD_compute_113 (by decide) (fun _ => ?_) (fun c => absurd c (by decide))
  refine E_iconst (v := 0) d_MOD_compute_131 (by decide) ?_
  refine E_istore d_MOD_compute_132 (by decide) ?_
  refine E_iload_n d_MOD_compute_134 rfl ?_
  refine E_if_ne (tgt := 165) d_MOD_compute_135 (by decide) (fun _ => ?_) (fun c => absurd c (by decide))
  refine E_iload_n d_MOD_compute_165 rfl ?_
  refine E_iconst (v := 1) d_MOD_compute_166 (by decide) ?_
  refine E_icmp_ne (tgt := 180) d_MOD_compute_167 (by decide) (fun _ => ?_) (fun c => absurd c (by decide))
  refine E_iload_n d_MOD_compute_180 rfl ?_
  refine E_iconst (v := 2) d_MOD_compute_181 (by decide) ?_
  refine E_icmp_eq (tgt := 190) d_MOD_compute_182 (by decide) (fun c => absurd c (by decide)) (fun _ => ?_)
  refine E_iload_n d_MOD_compute_185 rfl ?_
  refine E_iconst (v := 3) d_MOD_compute_186 (by decide) ?_
  refine E_icmp_ne (tgt := 220) d_MOD_compute_187 (by decide) (fun _ => ?_) (fun c => absurd c (by decide))
  refine E_iload_n d_MOD_compute_220 rfl ?_
  refine E_iconst (v := 4) d_MOD_compute_221 (by decide) ?_
  refine E_icmp_ne (tgt := 235) d_MOD_compute_222 (by decide) (fun _ => ?_) (fun c => absurd c (by decide))
  refine E_iload_n d_MOD_compute_235 rfl ?_
  refine E_iconst (v := 5) d_MOD_compute_236 (by decide) ?_
  refine E_icmp_ne (tgt := 263) d_MOD_compute_237 (by decide) (fun c => absurd (by decide) c) (fun _ => ?_)
  refine E_iload d_MOD_compute_240 rfl ?_
  refine E_if_eq (tgt := 253) d_MOD_compute_242 (by decide) (fun c => absurd c (by decide)) (fun _ => ?_)
  refine E_iload d_MOD_compute_245 rfl ?_
  refine E_iload d_MOD_compute_247 rfl ?_
  refine E_ishr d_MOD_compute_249 ?_
  refine E_goto (tgt := 258) d_MOD_compute_250 (by decide) ?_
  refine E_istore d_MOD_compute_258 (by decide) ?_
  refine E_goto (tgt := 284) d_MOD_compute_260 (by decide) ?_
  refine E_aload_n d_MOD_compute_284 rfl rfl ?_
  refine E_aload_n d_MOD_compute_285 rfl rfl ?_
  refine E_V0i d_MOD_compute_286 w_MOD_131 rfl (by decide) (Nat.le_of_ble_eq_true rfl) (c_MOD_d) ?_
  rintro _ _ ⟨rfl, rfl⟩
  refine E_iload d_MOD_compute_289 rfl ?_
  refine E_V2v d_MOD_compute_291 w_MOD_135 rfl (by decide) (Nat.le_of_ble_eq_true rfl) (c_MOD_set hp hp8 (bf_lt _ _ 5)) ?_
  rintro _ rfl
  exact E_return d_MOD_compute_294 rfl rfl (by rw [cmpF_ok rfl] at hQ; exact hQ)
theorem tl_MOD_compute_1_5_x {G : iG} {F : Nat} {C M : Nat → Nat → Int32} {Q : Option iV → iH → Prop} {p m : Nat} (hp : M 0 24 = nI p) (hp8 : p ≤ 8) (hm : M 0 15 = nI m) (hm9 : m ≤ 9) {a b y : Int32} {g : Nat} (g0 : ¬ g = 0) (g32 : ¬ g = 32) (gl : g < 128) (hQ : Q none (HW F C (cmpF M p m true 5 g a b y))) : Ev G m_MOD_compute 4 0 0 64 [some (vR 50), some (vI 1), some (vI (nI 5)), some (vI (nI g)), some (vI a), some (vI b), some (vI y), none, none, none] [] (HW F C M) Q := by
  refine E_iload_n d_MOD_compute_64 rfl ?_
  refine E_iconst (v := 1) d_MOD_compute_65 (by decide) ?_
  refine E_icmp_eq (tgt := 74) d_MOD_compute_66 (by decide) (fun c => absurd c (by decide)) (fun _ => ?_)
  refine E_iload_n d_MOD_compute_69 rfl ?_
  refine E_iconst (v := 5) d_MOD_compute_70 (by decide) ?_
  refine E_icmp_ne (tgt := 78) d_MOD_compute_71 (by decide) (fun c => absurd (by decide) c) (fun _ => ?_)
  refine E_iconst (v := 1) d_MOD_compute_74 (by decide) ?_
  refine E_goto (tgt := 79) d_MOD_compute_75 (by decide) ?_
  refine E_istore d_MOD_compute_79 (by decide) ?_
  refine E_iload_n d_MOD_compute_81 rfl ?_
  refine E_bipush (v := 32) d_MOD_compute_82 (by decide) ?_
  refine E_icmp_ne (tgt := 104) d_MOD_compute_84 (by decide) (fun _ => ?_) (fun c => absurd c (fun q => g32 ((nI_eq (b := 32) (by omega) (by decide)).mp q)))
  refine E_iconst (v := 0) d_MOD_compute_104 (by decide) ?_
  refine E_istore d_MOD_compute_105 (by decide) ?_
  refine E_iload_n d_MOD_compute_107 rfl ?_
  refine E_if_eq (tgt := 131) d_MOD_compute_108 (by decide) (fun c => absurd c (fun q => g0 ((nI_eq (b := 0) (by omega) (by decide)).mp q))) (fun _ => ?_)
  refine E_iload d_MOD_compute_111 rfl ?_
  refine E_if_ne (tgt := 131) d_MOD_compute_113 (by decide) (fun c => absurd (by decide) c) (fun _ => ?_)
  refine E_iload_n d_MOD_compute_116 rfl ?_
  refine E_if_ne (tgt := 125) d_MOD_compute_117 (by decide) (fun _ => ?_) (fun c => absurd c (by decide))
  refine E_aload_n d_MOD_compute_125 rfl rfl ?_
  refine E_iconst (v := 2) d_MOD_compute_126 (by decide) ?_
  refine E_V1v d_MOD_compute_127 w_MOD_128 rfl (by decide) (Nat.le_of_ble_eq_true rfl) (c_MOD_fault hp hp8 hm hm9) ?_
  rintro _ rfl
  exact E_return d_MOD_compute_130 rfl rfl (by rw [cmpF_bad (by simp [cbad, g0, g32])] at hQ; exact hQ)
theorem tl_MOD_compute_1_6_0 {G : iG} {F : Nat} {C M : Nat → Nat → Int32} {Q : Option iV → iH → Prop} {p m : Nat} (hp : M 0 24 = nI p) (hp8 : p ≤ 8) (hm : M 0 15 = nI m) (hm9 : m ≤ 9) {a b y : Int32} (hQ : Q none (HW F C (cmpF M p m true 6 0 a b y))) : Ev G m_MOD_compute 4 0 0 64 [some (vR 50), some (vI 1), some (vI (nI 6)), some (vI (nI 0)), some (vI a), some (vI b), some (vI y), none, none, none] [] (HW F C M) Q := by
  refine E_iload_n d_MOD_compute_64 rfl ?_
  refine E_iconst (v := 1) d_MOD_compute_65 (by decide) ?_
  refine E_icmp_eq (tgt := 74) d_MOD_compute_66 (by decide) (fun c => absurd c (by decide)) (fun _ => ?_)
  refine E_iload_n d_MOD_compute_69 rfl ?_
  refine E_iconst (v := 5) d_MOD_compute_70 (by decide) ?_
  refine E_icmp_ne (tgt := 78) d_MOD_compute_71 (by decide) (fun _ => ?_) (fun c => absurd c (by decide))
  refine E_iconst (v := 0) d_MOD_compute_78 (by decide) ?_
  refine E_istore d_MOD_compute_79 (by decide) ?_
  refine E_iload_n d_MOD_compute_81 rfl ?_
  refine E_bipush (v := 32) d_MOD_compute_82 (by decide) ?_
  refine E_icmp_ne (tgt := 104) d_MOD_compute_84 (by decide) (fun _ => ?_) (fun c => absurd c (by decide))
  refine E_iconst (v := 0) d_MOD_compute_104 (by decide) ?_
  refine E_istore d_MOD_compute_105 (by decide) ?_
  refine E_iload_n d_MOD_compute_107 rfl ?_
  refine E_if_eq (tgt := 131) d_MOD_compute_108 (by decide) (fun _ => ?_) (fun c => absurd (by decide) c)
  refine E_iconst (v := 0) d_MOD_compute_131 (by decide) ?_
  refine E_istore d_MOD_compute_132 (by decide) ?_
  refine E_iload_n d_MOD_compute_134 rfl ?_
  refine E_if_ne (tgt := 165) d_MOD_compute_135 (by decide) (fun _ => ?_) (fun c => absurd c (by decide))
  refine E_iload_n d_MOD_compute_165 rfl ?_
  refine E_iconst (v := 1) d_MOD_compute_166 (by decide) ?_
  refine E_icmp_ne (tgt := 180) d_MOD_compute_167 (by decide) (fun _ => ?_) (fun c => absurd c (by decide))
  refine E_iload_n d_MOD_compute_180 rfl ?_
  refine E_iconst (v := 2) d_MOD_compute_181 (by decide) ?_
  refine E_icmp_eq (tgt := 190) d_MOD_compute_182 (by decide) (fun c => absurd c (by decide)) (fun _ => ?_)
  refine E_iload_n d_MOD_compute_185 rfl ?_
  refine E_iconst (v := 3) d_MOD_compute_186 (by decide) ?_
  refine E_icmp_ne (tgt := 220) d_MOD_compute_187 (by decide) (fun _ => ?_) (fun c => absurd c (by decide))
  refine E_iload_n d_MOD_compute_220 rfl ?_
  refine E_iconst (v := 4) d_MOD_compute_221 (by decide) ?_
  refine E_icmp_ne (tgt := 235) d_MOD_compute_222 (by decide) (fun _ => ?_) (fun c => absurd c (by decide))
  refine E_iload_n d_MOD_compute_235 rfl ?_
  refine E_iconst (v := 5) d_MOD_compute_236 (by decide) ?_
  refine E_icmp_ne (tgt := 263) d_MOD_compute_237 (by decide) (fun _ => ?_) (fun c => absurd c (by decide))
  refine E_iload_n d_MOD_compute_263 rfl ?_
  refine E_bipush (v := 6) d_MOD_compute_264 (by decide) ?_
  refine E_icmp_ne (tgt := 277) d_MOD_compute_266 (by decide) (fun c => absurd (by decide) c) (fun _ => ?_)
  refine E_iload d_MOD_compute_269 rfl ?_
  refine E_iload d_MOD_compute_271 rfl ?_
  refine E_ior d_MOD_compute_273 ?_
  refine E_goto (tgt := 282) d_MOD_compute_274 (by decide) ?_
  refine E_istore d_MOD_compute_282 (by decide) ?_
  refine E_aload_n d_MOD_compute_284 rfl rfl ?_
  refine E_aload_n d_MOD_compute_285 rfl rfl ?_
  refine E_V0i d_MOD_compute_286 w_MOD_131 rfl (by decide) (Nat.le_of_ble_eq_true rfl) (c_MOD_d) ?_
  rintro _ _ ⟨rfl, rfl⟩
  refine E_iload d_MOD_compute_289 rfl ?_
  refine E_V2v d_MOD_compute_291 w_MOD_135 rfl (by decide) (Nat.le_of_ble_eq_true rfl) (c_MOD_set hp hp8 (bf_lt _ _ 5)) ?_
  rintro _ rfl
  exact E_return d_MOD_compute_294 rfl rfl (by rw [cmpF_ok rfl] at hQ; exact hQ)
theorem tl_MOD_compute_1_6_32 {G : iG} {F : Nat} {C M : Nat → Nat → Int32} {Q : Option iV → iH → Prop} {p m : Nat} (hp : M 0 24 = nI p) (hp8 : p ≤ 8) (hm : M 0 15 = nI m) (hm9 : m ≤ 9) {a b y : Int32} (hQ : Q none (HW F C (cmpF M p m true 6 32 a b y))) : Ev G m_MOD_compute 4 0 0 64 [some (vR 50), some (vI 1), some (vI (nI 6)), some (vI (nI 32)), some (vI a), some (vI b), some (vI y), none, none, none] [] (HW F C M) Q := by
  refine E_iload_n d_MOD_compute_64 rfl ?_
  refine E_iconst (v := 1) d_MOD_compute_65 (by decide) ?_
  refine E_icmp_eq (tgt := 74) d_MOD_compute_66 (by decide) (fun c => absurd c (by decide)) (fun _ => ?_)
  refine E_iload_n d_MOD_compute_69 rfl ?_
  refine E_iconst (v := 5) d_MOD_compute_70 (by decide) ?_
  refine E_icmp_ne (tgt := 78) d_MOD_compute_71 (by decide) (fun _ => ?_) (fun c => absurd c (by decide))
  refine E_iconst (v := 0) d_MOD_compute_78 (by decide) ?_
  refine E_istore d_MOD_compute_79 (by decide) ?_
  refine E_iload_n d_MOD_compute_81 rfl ?_
  refine E_bipush (v := 32) d_MOD_compute_82 (by decide) ?_
  refine E_icmp_ne (tgt := 104) d_MOD_compute_84 (by decide) (fun c => absurd (by decide) c) (fun _ => ?_)
  refine E_iload_n d_MOD_compute_87 rfl ?_
  refine E_iconst (v := 5) d_MOD_compute_88 (by decide) ?_
  refine E_icmp_eq (tgt := 100) d_MOD_compute_89 (by decide) (fun c => absurd c (by decide)) (fun _ => ?_)
  refine E_iload_n d_MOD_compute_92 rfl ?_
  refine E_if_eq (tgt := 104) d_MOD_compute_93 (by decide) (fun c => absurd c (by decide)) (fun _ => ?_)
  refine E_iload_n d_MOD_compute_96 rfl ?_
  refine E_if_ne (tgt := 104) d_MOD_compute_97 (by decide) (fun _ => ?_) (fun c => absurd c (by decide))
  refine E_iconst (v := 0) d_MOD_compute_104 (by decide) ?_
  refine E_istore d_MOD_compute_105 (by decide) ?_
  refine E_iload_n d_MOD_compute_107 rfl ?_
  refine E_if_eq (tgt := 131) d_MOD_compute_108 (by decide) (fun c => absurd c (by decide)) (fun _ => ?_)
  refine E_iload d_MOD_compute_111 rfl ?_
  refine E_if_ne (tgt := 131) d_MOD_compute_113 (by decide) (fun c => absurd (by decide) c) (fun _ => ?_)
  refine E_iload_n d_MOD_compute_116 rfl ?_
  refine E_if_ne (tgt := 125) d_MOD_compute_117 (by decide) (fun _ => ?_) (fun c => absurd c (by decide))
  refine E_aload_n d_MOD_compute_125 rfl rfl ?_
  refine E_iconst (v := 2) d_MOD_compute_126 (by decide) ?_
  refine E_V1v d_MOD_compute_127 w_MOD_128 rfl (by decide) (Nat.le_of_ble_eq_true rfl) (c_MOD_fault hp hp8 hm hm9) ?_
  rintro _ rfl
  exact E_return d_MOD_compute_130 rfl rfl (by rw [cmpF_bad rfl] at hQ; exact hQ)
theorem tl_MOD_compute_1_6_x {G : iG} {F : Nat} {C M : Nat → Nat → Int32} {Q : Option iV → iH → Prop} {p m : Nat} (hp : M 0 24 = nI p) (hp8 : p ≤ 8) (hm : M 0 15 = nI m) (hm9 : m ≤ 9) {a b y : Int32} {g : Nat} (g0 : ¬ g = 0) (g32 : ¬ g = 32) (gl : g < 128) (hQ : Q none (HW F C (cmpF M p m true 6 g a b y))) : Ev G m_MOD_compute 4 0 0 64 [some (vR 50), some (vI 1), some (vI (nI 6)), some (vI (nI g)), some (vI a), some (vI b), some (vI y), none, none, none] [] (HW F C M) Q := by
  refine E_iload_n d_MOD_compute_64 rfl ?_
  refine E_iconst (v := 1) d_MOD_compute_65 (by decide) ?_
  refine E_icmp_eq (tgt := 74) d_MOD_compute_66 (by decide) (fun c => absurd c (by decide)) (fun _ => ?_)
  refine E_iload_n d_MOD_compute_69 rfl ?_
  refine E_iconst (v := 5) d_MOD_compute_70 (by decide) ?_
  refine E_icmp_ne (tgt := 78) d_MOD_compute_71 (by decide) (fun _ => ?_) (fun c => absurd c (by decide))
  refine E_iconst (v := 0) d_MOD_compute_78 (by decide) ?_
  refine E_istore d_MOD_compute_79 (by decide) ?_
  refine E_iload_n d_MOD_compute_81 rfl ?_
  refine E_bipush (v := 32) d_MOD_compute_82 (by decide) ?_
  refine E_icmp_ne (tgt := 104) d_MOD_compute_84 (by decide) (fun _ => ?_) (fun c => absurd c (fun q => g32 ((nI_eq (b := 32) (by omega) (by decide)).mp q)))
  refine E_iconst (v := 0) d_MOD_compute_104 (by decide) ?_
  refine E_istore d_MOD_compute_105 (by decide) ?_
  refine E_iload_n d_MOD_compute_107 rfl ?_
  refine E_if_eq (tgt := 131) d_MOD_compute_108 (by decide) (fun c => absurd c (fun q => g0 ((nI_eq (b := 0) (by omega) (by decide)).mp q))) (fun _ => ?_)
  refine E_iload d_MOD_compute_111 rfl ?_
  refine E_if_ne (tgt := 131) d_MOD_compute_113 (by decide) (fun c => absurd (by decide) c) (fun _ => ?_)
  refine E_iload_n d_MOD_compute_116 rfl ?_
  refine E_if_ne (tgt := 125) d_MOD_compute_117 (by decide) (fun _ => ?_) (fun c => absurd c (by decide))
  refine E_aload_n d_MOD_compute_125 rfl rfl ?_
  refine E_iconst (v := 2) d_MOD_compute_126 (by decide) ?_
  refine E_V1v d_MOD_compute_127 w_MOD_128 rfl (by decide) (Nat.le_of_ble_eq_true rfl) (c_MOD_fault hp hp8 hm hm9) ?_
  rintro _ rfl
  exact E_return d_MOD_compute_130 rfl rfl (by rw [cmpF_bad (by simp [cbad, g0, g32])] at hQ; exact hQ)
theorem tl_MOD_compute_1_7_0 {G : iG} {F : Nat} {C M : Nat → Nat → Int32} {Q : Option iV → iH → Prop} {p m : Nat} (hp : M 0 24 = nI p) (hp8 : p ≤ 8) (hm : M 0 15 = nI m) (hm9 : m ≤ 9) {a b y : Int32} (hQ : Q none (HW F C (cmpF M p m true 7 0 a b y))) : Ev G m_MOD_compute 4 0 0 64 [some (vR 50), some (vI 1), some (vI (nI 7)), some (vI (nI 0)), some (vI a), some (vI b), some (vI y), none, none, none] [] (HW F C M) Q := by
  refine E_iload_n d_MOD_compute_64 rfl ?_
  refine E_iconst (v := 1) d_MOD_compute_65 (by decide) ?_
  refine E_icmp_eq (tgt := 74) d_MOD_compute_66 (by decide) (fun c => absurd c (by decide)) (fun _ => ?_)
  refine E_iload_n d_MOD_compute_69 rfl ?_
  refine E_iconst (v := 5) d_MOD_compute_70 (by decide) ?_
  refine E_icmp_ne (tgt := 78) d_MOD_compute_71 (by decide) (fun _ => ?_) (fun c => absurd c (by decide))
  refine E_iconst (v := 0) d_MOD_compute_78 (by decide) ?_
  refine E_istore d_MOD_compute_79 (by decide) ?_
  refine E_iload_n d_MOD_compute_81 rfl ?_
  refine E_bipush (v := 32) d_MOD_compute_82 (by decide) ?_
  refine E_icmp_ne (tgt := 104) d_MOD_compute_84 (by decide) (fun _ => ?_) (fun c => absurd c (by decide))
  refine E_iconst (v := 0) d_MOD_compute_104 (by decide) ?_
  refine E_istore d_MOD_compute_105 (by decide) ?_
  refine E_iload_n d_MOD_compute_107 rfl ?_
  refine E_if_eq (tgt := 131) d_MOD_compute_108 (by decide) (fun _ => ?_) (fun c => absurd (by decide) c)
  refine E_iconst (v := 0) d_MOD_compute_131 (by decide) ?_
  refine E_istore d_MOD_compute_132 (by decide) ?_
  refine E_iload_n d_MOD_compute_134 rfl ?_
  refine E_if_ne (tgt := 165) d_MOD_compute_135 (by decide) (fun _ => ?_) (fun c => absurd c (by decide))
  refine E_iload_n d_MOD_compute_165 rfl ?_
  refine E_iconst (v := 1) d_MOD_compute_166 (by decide) ?_
  refine E_icmp_ne (tgt := 180) d_MOD_compute_167 (by decide) (fun _ => ?_) (fun c => absurd c (by decide))
  refine E_iload_n d_MOD_compute_180 rfl ?_
  refine E_iconst (v := 2) d_MOD_compute_181 (by decide) ?_
  refine E_icmp_eq (tgt := 190) d_MOD_compute_182 (by decide) (fun c => absurd c (by decide)) (fun _ => ?_)
  refine E_iload_n d_MOD_compute_185 rfl ?_
  refine E_iconst (v := 3) d_MOD_compute_186 (by decide) ?_
  refine E_icmp_ne (tgt := 220) d_MOD_compute_187 (by decide) (fun _ => ?_) (fun c => absurd c (by decide))
  refine E_iload_n d_MOD_compute_220 rfl ?_
  refine E_iconst (v := 4) d_MOD_compute_221 (by decide) ?_
  refine E_icmp_ne (tgt := 235) d_MOD_compute_222 (by decide) (fun _ => ?_) (fun c => absurd c (by decide))
  refine E_iload_n d_MOD_compute_235 rfl ?_
  refine E_iconst (v := 5) d_MOD_compute_236 (by decide) ?_
  refine E_icmp_ne (tgt := 263) d_MOD_compute_237 (by decide) (fun _ => ?_) (fun c => absurd c (by decide))
  refine E_iload_n d_MOD_compute_263 rfl ?_
  refine E_bipush (v := 6) d_MOD_compute_264 (by decide) ?_
  refine E_icmp_ne (tgt := 277) d_MOD_compute_266 (by decide) (fun _ => ?_) (fun c => absurd c (by decide))
  refine E_iload d_MOD_compute_277 rfl ?_
  refine E_iload d_MOD_compute_279 rfl ?_
  refine E_iand d_MOD_compute_281 ?_
  refine E_istore d_MOD_compute_282 (by decide) ?_
  refine E_aload_n d_MOD_compute_284 rfl rfl ?_
  refine E_aload_n d_MOD_compute_285 rfl rfl ?_
  refine E_V0i d_MOD_compute_286 w_MOD_131 rfl (by decide) (Nat.le_of_ble_eq_true rfl) (c_MOD_d) ?_
  rintro _ _ ⟨rfl, rfl⟩
  refine E_iload d_MOD_compute_289 rfl ?_
  refine E_V2v d_MOD_compute_291 w_MOD_135 rfl (by decide) (Nat.le_of_ble_eq_true rfl) (c_MOD_set hp hp8 (bf_lt _ _ 5)) ?_
  rintro _ rfl
  exact E_return d_MOD_compute_294 rfl rfl (by rw [cmpF_ok rfl] at hQ; exact hQ)
theorem tl_MOD_compute_1_7_32 {G : iG} {F : Nat} {C M : Nat → Nat → Int32} {Q : Option iV → iH → Prop} {p m : Nat} (hp : M 0 24 = nI p) (hp8 : p ≤ 8) (hm : M 0 15 = nI m) (hm9 : m ≤ 9) {a b y : Int32} (hQ : Q none (HW F C (cmpF M p m true 7 32 a b y))) : Ev G m_MOD_compute 4 0 0 64 [some (vR 50), some (vI 1), some (vI (nI 7)), some (vI (nI 32)), some (vI a), some (vI b), some (vI y), none, none, none] [] (HW F C M) Q := by
  refine E_iload_n d_MOD_compute_64 rfl ?_
  refine E_iconst (v := 1) d_MOD_compute_65 (by decide) ?_
  refine E_icmp_eq (tgt := 74) d_MOD_compute_66 (by decide) (fun c => absurd c (by decide)) (fun _ => ?_)
  refine E_iload_n d_MOD_compute_69 rfl ?_
  refine E_iconst (v := 5) d_MOD_compute_70 (by decide) ?_
  refine E_icmp_ne (tgt := 78) d_MOD_compute_71 (by decide) (fun _ => ?_) (fun c => absurd c (by decide))
  refine E_iconst (v := 0) d_MOD_compute_78 (by decide) ?_
  refine E_istore d_MOD_compute_79 (by decide) ?_
  refine E_iload_n d_MOD_compute_81 rfl ?_
  refine E_bipush (v := 32) d_MOD_compute_82 (by decide) ?_
  refine E_icmp_ne (tgt := 104) d_MOD_compute_84 (by decide) (fun c => absurd (by decide) c) (fun _ => ?_)
  refine E_iload_n d_MOD_compute_87 rfl ?_
  refine E_iconst (v := 5) d_MOD_compute_88 (by decide) ?_
  refine E_icmp_eq (tgt := 100) d_MOD_compute_89 (by decide) (fun c => absurd c (by decide)) (fun _ => ?_)
  refine E_iload_n d_MOD_compute_92 rfl ?_
  refine E_if_eq (tgt := 104) d_MOD_compute_93 (by decide) (fun c => absurd c (by decide)) (fun _ => ?_)
  refine E_iload_n d_MOD_compute_96 rfl ?_
  refine E_if_ne (tgt := 104) d_MOD_compute_97 (by decide) (fun _ => ?_) (fun c => absurd c (by decide))
  refine E_iconst (v := 0) d_MOD_compute_104 (by decide) ?_
  refine E_istore d_MOD_compute_105 (by decide) ?_
  refine E_iload_n d_MOD_compute_107 rfl ?_
  refine E_if_eq (tgt := 131) d_MOD_compute_108 (by decide) (fun c => absurd c (by decide)) (fun _ => ?_)
  refine E_iload d_MOD_compute_111 rfl ?_
  refine E_if_ne (tgt := 131) d_MOD_compute_113 (by decide) (fun c => absurd (by decide) c) (fun _ => ?_)
  refine E_iload_n d_MOD_compute_116 rfl ?_
  refine E_if_ne (tgt := 125) d_MOD_compute_117 (by decide) (fun _ => ?_) (fun c => absurd c (by decide))
  refine E_aload_n d_MOD_compute_125 rfl rfl ?_
  refine E_iconst (v := 2) d_MOD_compute_126 (by decide) ?_
  refine E_V1v d_MOD_compute_127 w_MOD_128 rfl (by decide) (Nat.le_of_ble_eq_true rfl) (c_MOD_fault hp hp8 hm hm9) ?_
  rintro _ rfl
  exact E_return d_MOD_compute_130 rfl rfl (by rw [cmpF_bad rfl] at hQ; exact hQ)
theorem tl_MOD_compute_1_7_x {G : iG} {F : Nat} {C M : Nat → Nat → Int32} {Q : Option iV → iH → Prop} {p m : Nat} (hp : M 0 24 = nI p) (hp8 : p ≤ 8) (hm : M 0 15 = nI m) (hm9 : m ≤ 9) {a b y : Int32} {g : Nat} (g0 : ¬ g = 0) (g32 : ¬ g = 32) (gl : g < 128) (hQ : Q none (HW F C (cmpF M p m true 7 g a b y))) : Ev G m_MOD_compute 4 0 0 64 [some (vR 50), some (vI 1), some (vI (nI 7)), some (vI (nI g)), some (vI a), some (vI b), some (vI y), none, none, none] [] (HW F C M) Q := by
  refine E_iload_n d_MOD_compute_64 rfl ?_
  refine E_iconst (v := 1) d_MOD_compute_65 (by decide) ?_
  refine E_icmp_eq (tgt := 74) d_MOD_compute_66 (by decide) (fun c => absurd c (by decide)) (fun _ => ?_)
  refine E_iload_n d_MOD_compute_69 rfl ?_
  refine E_iconst (v := 5) d_MOD_compute_70 (by decide) ?_
  refine E_icmp_ne (tgt := 78) d_MOD_compute_71 (by decide) (fun _ => ?_) (fun c => absurd c (by decide))
  refine E_iconst (v := 0) d_MOD_compute_78 (by decide) ?_
  refine E_istore d_MOD_compute_79 (by decide) ?_
  refine E_iload_n d_MOD_compute_81 rfl ?_
  refine E_bipush (v := 32) d_MOD_compute_82 (by decide) ?_
  refine E_icmp_ne (tgt := 104) d_MOD_compute_84 (by decide) (fun _ => ?_) (fun c => absurd c (fun q => g32 ((nI_eq (b := 32) (by omega) (by decide)).mp q)))
  refine E_iconst (v := 0) d_MOD_compute_104 (by decide) ?_
  refine E_istore d_MOD_compute_105 (by decide) ?_
  refine E_iload_n d_MOD_compute_107 rfl ?_
  refine E_if_eq (tgt := 131) d_MOD_compute_108 (by decide) (fun c => absurd c (fun q => g0 ((nI_eq (b := 0) (by omega) (by decide)).mp q))) (fun _ => ?_)
  refine E_iload d_MOD_compute_111 rfl ?_
  refine E_if_ne (tgt := 131) d_MOD_compute_113 (by decide) (fun c => absurd (by decide) c) (fun _ => ?_)
  refine E_iload_n d_MOD_compute_116 rfl ?_
  refine E_if_ne (tgt := 125) d_MOD_compute_117 (by decide) (fun _ => ?_) (fun c => absurd c (by decide))
  refine E_aload_n d_MOD_compute_125 rfl rfl ?_
  refine E_iconst (v := 2) d_MOD_compute_126 (by decide) ?_
  refine E_V1v d_MOD_compute_127 w_MOD_128 rfl (by decide) (Nat.le_of_ble_eq_true rfl) (c_MOD_fault hp hp8 hm hm9) ?_
  rintro _ rfl
  exact E_return d_MOD_compute_130 rfl rfl (by rw [cmpF_bad (by simp [cbad, g0, g32])] at hQ; exact hQ)
theorem hd_MOD_compute_1 {G : iG} {F : Nat} {C M : Nat → Nat → Int32} {p m : Nat} (hp : M 0 24 = nI p) (hp8 : p ≤ 8) (hm : M 0 15 = nI m) (hm9 : m ≤ 9) : MV G m_MOD_compute 4 [vR 50, vI 1] (HW F C M) (fun h' => h' = HW F C (cmpM M p m true)) := by
  refine Mt.of' (Ls := [some (vR 50), some (vI 1), none, none, none, none, none, none, none, none]) (by decide) (by simp [ct]) (Nat.le_of_ble_eq_true rfl) rfl ?_
  obtain ⟨f, hf⟩ : ∃ f, f = bf (M 0 25) 12 3 := ⟨_, rfl⟩
  have hf8 : f < 8 := by rw [hf]; exact bf_lt _ _ 3
  obtain ⟨g, hg⟩ : ∃ g, g = bf (M 0 25) 25 7 := ⟨_, rfl⟩
  have gl : g < 128 := by rw [hg]; exact bf_lt _ _ 7
  obtain ⟨a, ha⟩ : ∃ a, a = M 9 (32 * p + bf (M 0 25) 15 5) := ⟨_, rfl⟩
  obtain ⟨b, hb⟩ : ∃ b, b = cb M p true := ⟨_, rfl⟩
  obtain ⟨y, hy⟩ : ∃ y, y = cy M p true := ⟨_, rfl⟩
  refine E_aload_n d_MOD_compute_0 rfl rfl ?_
  refine E_bipush (v := 12) d_MOD_compute_1 (by decide) ?_
  refine E_iconst (v := 3) d_MOD_compute_3 (by decide) ?_
  refine E_V2i d_MOD_compute_4 w_MOD_110 rfl (by decide) (Nat.le_of_ble_eq_true rfl) (c_MOD_bits (a := 12) (k := 3) (by decide) (by decide) (by decide)) ?_
  rintro _ _ ⟨rfl, rfl⟩
  rw [← hf]
  refine E_istore_n d_MOD_compute_7 (by decide) ?_
  refine E_aload_n d_MOD_compute_8 rfl rfl ?_
  refine E_bipush (v := 25) d_MOD_compute_9 (by decide) ?_
  refine E_bipush (v := 7) d_MOD_compute_11 (by decide) ?_
  refine E_V2i d_MOD_compute_13 w_MOD_110 rfl (by decide) (Nat.le_of_ble_eq_true rfl) (c_MOD_bits (a := 25) (k := 7) (by decide) (by decide) (by decide)) ?_
  rintro _ _ ⟨rfl, rfl⟩
  rw [← hg]
  refine E_istore_n d_MOD_compute_16 (by decide) ?_
  refine E_aload_n d_MOD_compute_17 rfl rfl ?_
  refine E_V0i d_MOD_compute_18 w_MOD_141 rfl (by decide) (Nat.le_of_ble_eq_true rfl) (c_MOD_s hp hp8) ?_
  rintro _ _ ⟨rfl, rfl⟩
  refine E_tp (y := a) ha.symm ?_
  refine E_istore d_MOD_compute_21 (by decide) ?_
  refine E_iload_n d_MOD_compute_23 rfl ?_
  refine E_if_eq (tgt := 34) d_MOD_compute_24 (by decide) (fun c => absurd c (by decide)) (fun _ => ?_)
  refine E_aload_n d_MOD_compute_27 rfl rfl ?_
  refine E_V0i d_MOD_compute_28 w_MOD_161 rfl (by decide) (Nat.le_of_ble_eq_true rfl) (c_MOD_t hp hp8) ?_
  rintro _ _ ⟨rfl, rfl⟩
  refine E_goto (tgt := 41) d_MOD_compute_31 (by decide) ?_
  refine E_tp (y := b) hb.symm ?_
  refine E_istore d_MOD_compute_41 (by decide) ?_
  refine E_iload_n d_MOD_compute_43 rfl ?_
  refine E_if_eq (tgt := 55) d_MOD_compute_44 (by decide) (fun c => absurd c (by decide)) (fun _ => ?_)
  refine E_iload d_MOD_compute_47 rfl ?_
  refine E_bipush (v := 31) d_MOD_compute_49 (by decide) ?_
  refine E_iand d_MOD_compute_51 ?_
  refine E_goto (tgt := 62) d_MOD_compute_52 (by decide) ?_
  refine E_tp (y := y) (by rw [hy, cy]; first | rfl | (rw [hb]; rfl)) ?_
  refine E_istore d_MOD_compute_62 (by decide) ?_
  have hq : cmpM M p m true = cmpF M p m true f g a b y := by rw [hf, hg, ha, hb, hy]; rfl
  rcases (show f = 0 ∨ f = 1 ∨ f = 2 ∨ f = 3 ∨ f = 4 ∨ f = 5 ∨ f = 6 ∨ f = 7 by omega) with e | e | e | e | e | e | e | e <;> rcases (show g = 0 ∨ g = 32 ∨ (¬ g = 0 ∧ ¬ g = 32) by omega) with eg | eg | eg <;> rw [e] at hq ⊢ <;> (try rw [eg] at hq ⊢)
  · exact tl_MOD_compute_1_0_0 hp hp8 hm hm9 ⟨rfl, by rw [hq]⟩
  · exact tl_MOD_compute_1_0_32 hp hp8 hm hm9 ⟨rfl, by rw [hq]⟩
  · exact tl_MOD_compute_1_0_x hp hp8 hm hm9 eg.1 eg.2 gl ⟨rfl, by rw [hq]⟩
  · exact tl_MOD_compute_1_1_0 hp hp8 hm hm9 ⟨rfl, by rw [hq]⟩
  · exact tl_MOD_compute_1_1_32 hp hp8 hm hm9 ⟨rfl, by rw [hq]⟩
  · exact tl_MOD_compute_1_1_x hp hp8 hm hm9 eg.1 eg.2 gl ⟨rfl, by rw [hq]⟩
  · exact tl_MOD_compute_1_2_0 hp hp8 hm hm9 ⟨rfl, by rw [hq]⟩
  · exact tl_MOD_compute_1_2_32 hp hp8 hm hm9 ⟨rfl, by rw [hq]⟩
  · exact tl_MOD_compute_1_2_x hp hp8 hm hm9 eg.1 eg.2 gl ⟨rfl, by rw [hq]⟩
  · exact tl_MOD_compute_1_3_0 hp hp8 hm hm9 ⟨rfl, by rw [hq]⟩
  · exact tl_MOD_compute_1_3_32 hp hp8 hm hm9 ⟨rfl, by rw [hq]⟩
  · exact tl_MOD_compute_1_3_x hp hp8 hm hm9 eg.1 eg.2 gl ⟨rfl, by rw [hq]⟩
  · exact tl_MOD_compute_1_4_0 hp hp8 hm hm9 ⟨rfl, by rw [hq]⟩
  · exact tl_MOD_compute_1_4_32 hp hp8 hm hm9 ⟨rfl, by rw [hq]⟩
  · exact tl_MOD_compute_1_4_x hp hp8 hm hm9 eg.1 eg.2 gl ⟨rfl, by rw [hq]⟩
  · exact tl_MOD_compute_1_5_0 hp hp8 hm hm9 ⟨rfl, by rw [hq]⟩
  · exact tl_MOD_compute_1_5_32 hp hp8 hm hm9 ⟨rfl, by rw [hq]⟩
  · exact tl_MOD_compute_1_5_x hp hp8 hm hm9 eg.1 eg.2 gl ⟨rfl, by rw [hq]⟩
  · exact tl_MOD_compute_1_6_0 hp hp8 hm hm9 ⟨rfl, by rw [hq]⟩
  · exact tl_MOD_compute_1_6_32 hp hp8 hm hm9 ⟨rfl, by rw [hq]⟩
  · exact tl_MOD_compute_1_6_x hp hp8 hm hm9 eg.1 eg.2 gl ⟨rfl, by rw [hq]⟩
  · exact tl_MOD_compute_1_7_0 hp hp8 hm hm9 ⟨rfl, by rw [hq]⟩
  · exact tl_MOD_compute_1_7_32 hp hp8 hm hm9 ⟨rfl, by rw [hq]⟩
  · exact tl_MOD_compute_1_7_x hp hp8 hm hm9 eg.1 eg.2 gl ⟨rfl, by rw [hq]⟩
theorem c_MOD_compute {G : iG} {F : Nat} {C M : Nat → Nat → Int32} {p m : Nat} (hp : M 0 24 = nI p) (hp8 : p ≤ 8) (hm : M 0 15 = nI m) (hm9 : m ≤ 9) {two : Bool} : MV G m_MOD_compute 4 [vR 50, vI (b2i two)] (HW F C M) (fun h' => h' = HW F C (cmpM M p m two)) := by
  cases two with
  | false => exact hd_MOD_compute_0 hp hp8 hm hm9
  | true => exact hd_MOD_compute_1 hp hp8 hm hm9

/-! ===== the reference's more, send, take, pipe ===== -/
theorem lp_MOD_more {G : iG} {F : Nat} {C M : Nat → Nat → Int32} {Q : Option iV → iH → Prop} {p : Nat} (hp : M 0 24 = nI p) (hp8 : p ≤ 8) {s fr a : Nat} (hp1 : 1 ≤ p) (hs : M 8 p = nI s) (hsa : s + a ≤ 8) (hfr : fr ≤ 40) (ha : a ≤ nfr M fr) (hQ : Q (some (vI (nI (s + a)))) (HW F C (gro M p a))) : ∀ (n k : Nat), k + n = a → Ev G m_MOD_more 1 0 0 39 [some (vR 50), some (vI (nI a)), some (vI (nI k))] [] (HW F C (gro M p k)) Q := by
  intro n
  induction n with
  | zero =>
    intro k hk
    have hka : k = a := by omega
    subst hka
    obtain ⟨g1, g2⟩ := gro_spec hp1 hp8 hs (by omega) hfr ha
    refine E_iload_n d_MOD_more_39 rfl ?_
    refine E_iload_n d_MOD_more_40 rfl ?_
    refine E_icmp_ge (tgt := 59) d_MOD_more_41 (by decide) (fun _ => ?_) (fun c => absurd (nI_le (by omega) (by omega)) c)
    refine E_aload_n d_MOD_more_59 rfl rfl ?_
    refine L_gr d_MOD_more_60 f_MOD_31 rfl (by decide) rfl rfl ?_
    refine E_aload_n d_MOD_more_63 rfl rfl ?_
    refine L_gi d_MOD_more_64 f_MOD_97 rfl (by decide) rfl (fr_M 0 24) ?_
    refine E_tp (y := nI (p)) ((gro_ne M p 24 (by decide) (by decide) (by decide) (by decide) k).trans hp) ?_
    refine L_ld (j := p) d_MOD_more_67 rfl rfl (by omega) (by decide) (fr_M 8 _) ?_
    refine E_tp (y := nI (s + k)) g1 ?_
    exact E_ireturn d_MOD_more_68 (Or.inl rfl) rfl hQ
  | succ n ih =>
    intro k hk
    obtain ⟨g1, g2⟩ := gro_spec hp1 hp8 hs (by omega) hfr (k := k) (by omega)
    have hff : ff (gro M p k) < fr := ff_lt (by omega)
    refine E_iload_n d_MOD_more_39 rfl ?_
    refine E_iload_n d_MOD_more_40 rfl ?_
    refine E_icmp_ge (tgt := 59) d_MOD_more_41 (by decide) (fun c => absurd c (nI_ge (by omega) (by omega))) (fun _ => ?_)
    refine E_aload_n d_MOD_more_44 rfl rfl ?_
    refine E_aload_n d_MOD_more_45 rfl rfl ?_
    refine L_gi d_MOD_more_46 f_MOD_97 rfl (by decide) rfl (fr_M 0 24) ?_
    refine E_tp (y := nI (p)) ((gro_ne M p 24 (by decide) (by decide) (by decide) (by decide) k).trans hp) ?_
    refine E_V1i d_MOD_more_49 w_MOD_69 rfl (by decide) (Nat.le_of_ble_eq_true rfl) (c_grow hp8 g1 (by omega) (by omega)) ?_
    rintro _ _ ⟨rfl, rfl⟩
    refine E_pop d_MOD_more_52 rfl ?_
    refine E_iinc (v := nI (k + 1)) d_MOD_more_53 rfl (nI_1 _) (by decide) ?_
    refine E_goto (tgt := 39) d_MOD_more_56 (by decide) ?_
    exact ih (k + 1) (by omega)
theorem c_MOD_more {G : iG} {F : Nat} {C M : Nat → Nat → Int32} {p : Nat} (hp : M 0 24 = nI p) (hp8 : p ≤ 8) {s fr : Nat} {a : Int32} (hp1 : 1 ≤ p) (hs : M 8 p = nI s) (hs8 : s ≤ 8) (hf : M 0 0 = nI fr) (hfr : fr ≤ 40) : MI G m_MOD_more 1 [vR 50, vI a] (HW F C M) (fun x h' => (x = if morb a s (nfr M fr) = true then nI (s + nv a) else -1) ∧ h' = HW F C (if morb a s (nfr M fr) = true then gro M p (nv a) else M)) := by
  refine Mt.of' (Ls := [some (vR 50), some (vI a), none]) (by decide) (by simp [ct]) (Nat.le_of_ble_eq_true rfl) rfl ?_
  by_cases ha : 1 ≤ a ∧ a ≤ 8
  · obtain ⟨q, hq1, hq8, rfl⟩ := in18 ha.1 ha.2
    have e : nv (nI q) = q := nv_nI (by omega)
    have hn := nfr_le M fr
    refine E_iload_n d_MOD_more_0 rfl ?_
    refine E_iconst (v := 1) d_MOD_more_1 (by decide) ?_
    refine E_icmp_lt (tgt := 35) d_MOD_more_2 (by decide) (fun c => absurd c (Int32.not_lt.mpr ha.1)) (fun _ => ?_)
    refine E_iload_n d_MOD_more_5 rfl ?_
    refine E_bipush (v := 8) d_MOD_more_6 (by decide) ?_
    refine E_icmp_gt (tgt := 35) d_MOD_more_8 (by decide) (fun c => absurd c (Int32.not_lt.mpr ha.2)) (fun _ => ?_)
    refine E_aload_n d_MOD_more_11 rfl rfl ?_
    refine L_gr d_MOD_more_12 f_MOD_31 rfl (by decide) rfl rfl ?_
    refine E_aload_n d_MOD_more_15 rfl rfl ?_
    refine L_gi d_MOD_more_16 f_MOD_97 rfl (by decide) rfl (fr_M 0 24) ?_
    refine E_tp (y := nI (p)) hp ?_
    refine L_ld (j := p) d_MOD_more_19 rfl rfl (by omega) (by decide) (fr_M 8 _) ?_
    refine E_tp (y := nI (s)) hs ?_
    refine E_iload_n d_MOD_more_20 rfl ?_
    refine E_iadd d_MOD_more_21 ?_
    refine E_tp (y := nI (s + q)) (nI_add s q) ?_
    refine E_bipush (v := 8) d_MOD_more_22 (by decide) ?_
    refine E_icmp_gt (tgt := 35) d_MOD_more_24 (by decide) (fun c24 => ?_) (fun c24 => ?_)
    · have hb : morb (nI q) s (nfr M fr) = false := by have := (nI_ltI (a := 8) (b := s + q) (by decide) (by omega)).mp c24; have h2 : ¬ s + q ≤ 8 := (by omega); simp [morb, e, h2]
      refine E_iconst (v := -1) d_MOD_more_35 (by decide) ?_
      exact E_ireturn d_MOD_more_36 (Or.inl rfl) rfl ⟨_, rfl, by rw [if_neg (by rw [hb]; decide)], by rw [if_neg (by rw [hb]; decide)]⟩
    · have h8 : s + q ≤ 8 := by have := (not_congr (nI_ltI (a := 8) (b := s + q) (by decide) (by omega))).mp c24; omega
      refine E_aload_n d_MOD_more_27 rfl rfl ?_
      refine E_V0i d_MOD_more_28 w_MOD_212 rfl (by decide) (Nat.le_of_ble_eq_true rfl) (c_MOD_freeFrames hf hfr) ?_
      rintro _ _ ⟨rfl, rfl⟩
      refine E_iload_n d_MOD_more_31 rfl ?_
      refine E_icmp_ge (tgt := 37) d_MOD_more_32 (by decide) (fun c32 => ?_) (fun c32 => ?_)
      · have hq := (nI_leI (by omega) (by omega)).mp c32
        have hb : morb (nI q) s (nfr M fr) = true := by simp [morb, e, h8, hq, ha.1, ha.2]
        refine E_iconst (v := 0) d_MOD_more_37 (by decide) ?_
        refine E_istore_n d_MOD_more_38 (by decide) ?_
        exact lp_MOD_more hp hp8 hp1 hs h8 hfr hq ⟨_, rfl, by rw [if_pos hb, e], by rw [if_pos hb, e]⟩ q 0 (by omega)
      · have hq := (not_congr (nI_leI (a := q) (b := nfr M fr) (by omega) (by omega))).mp c32
        have hb : morb (nI q) s (nfr M fr) = false := by simp [morb, e, hq]
        refine E_iconst (v := -1) d_MOD_more_35 (by decide) ?_
        exact E_ireturn d_MOD_more_36 (Or.inl rfl) rfl ⟨_, rfl, by rw [if_neg (by rw [hb]; decide)], by rw [if_neg (by rw [hb]; decide)]⟩
  · have hb : morb a s (nfr M fr) = false := by by_cases h1 : 1 ≤ a; (have h8 : ¬ a ≤ 8 := fun q => ha ⟨h1, q⟩; simp [morb, h8]); simp [morb, h1]
    refine E_iload_n d_MOD_more_0 rfl ?_
    refine E_iconst (v := 1) d_MOD_more_1 (by decide) ?_
    refine E_icmp_lt (tgt := 35) d_MOD_more_2 (by decide) (fun c2 => ?_) (fun c2 => ?_)
    · refine E_iconst (v := -1) d_MOD_more_35 (by decide) ?_
      exact E_ireturn d_MOD_more_36 (Or.inl rfl) rfl ⟨_, rfl, by rw [if_neg (by rw [hb]; decide)], by rw [if_neg (by rw [hb]; decide)]⟩
    · refine E_iload_n d_MOD_more_5 rfl ?_
      refine E_bipush (v := 8) d_MOD_more_6 (by decide) ?_
      refine E_icmp_gt (tgt := 35) d_MOD_more_8 (by decide) (fun c8 => ?_) (fun c8 => ?_)
      · refine E_iconst (v := -1) d_MOD_more_35 (by decide) ?_
        exact E_ireturn d_MOD_more_36 (Or.inl rfl) rfl ⟨_, rfl, by rw [if_neg (by rw [hb]; decide)], by rw [if_neg (by rw [hb]; decide)]⟩
      · exact absurd ⟨Int32.not_lt.mp c2, Int32.not_lt.mp c8⟩ ha
theorem c_send_con {G : iG} {F : Nat} {C M : Nat → Nat → Int32} {p : Nat} (hp : M 0 24 = nI p) (hp8 : p ≤ 8) {sh : Nat} (hsh : M 0 22 = nI sh) (hs2 : sh ≤ 200) : MV G m_MOD_send 1 [vR 50, vI 0] (HW F C M) (fun h' => h' = HW F C (sndC M p sh)) := by
  refine Mt.of' (Ls := [some (vR 50), some (vI 0), none, none, none]) (by decide) (by simp [ct]) (Nat.le_of_ble_eq_true rfl) rfl ?_
  obtain ⟨b, hb⟩ : ∃ b, b = M 9 (32 * p + 11) &&& 255 := ⟨_, rfl⟩
  refine E_aload_n d_MOD_send_0 rfl rfl ?_
  refine E_bipush (v := 11) d_MOD_send_1 (by decide) ?_
  refine E_V1i d_MOD_send_3 w_MOD_113 rfl (by decide) (Nat.le_of_ble_eq_true rfl) (c_MOD_get hp hp8 (by decide)) ?_
  rintro _ _ ⟨rfl, rfl⟩
  refine E_sipush (v := 255) d_MOD_send_6 (by decide) ?_
  refine E_iand d_MOD_send_9 ?_
  refine E_tp (y := b) hb.symm ?_
  refine E_istore_n d_MOD_send_10 (by decide) ?_
  refine E_iload_n d_MOD_send_11 rfl ?_
  refine E_if_ne (tgt := 33) d_MOD_send_12 (by decide) (fun c => absurd (by decide) c) (fun _ => ?_)
  refine E_aload_n d_MOD_send_15 rfl rfl ?_
  refine L_gi d_MOD_send_16 f_MOD_221 rfl (by decide) rfl (fr_M 0 22) ?_
  refine E_tp (y := nI (sh)) hsh ?_
  refine E_sipush (v := 200) d_MOD_send_19 (by decide) ?_
  refine E_icmp_ge (tgt := 29) d_MOD_send_22 (by decide) (fun c22 => ?_) (fun c22 => ?_)
  · have c := (nI_leI (a := 200) (by decide) (by omega)).mp c22
    refine E_iconst (v := 0) d_MOD_send_29 (by decide) ?_
    refine E_goto (tgt := 58) d_MOD_send_30 (by decide) ?_
    refine E_istore_n d_MOD_send_58 (by decide) ?_
    refine E_iload_n d_MOD_send_59 rfl ?_
    refine E_if_le (tgt := 71) d_MOD_send_60 (by decide) (fun _ => ?_) (fun c => absurd (by decide) c)
    refine E_iconst (v := 0) d_MOD_send_71 (by decide) ?_
    refine E_istore d_MOD_send_72 (by decide) ?_
    refine E_iload_n d_MOD_send_74 rfl ?_
    refine E_if_eq (tgt := 100) d_MOD_send_75 (by decide) (fun _ => ?_) (fun c => absurd (by decide) c)
    refine E_aload_n d_MOD_send_100 rfl rfl ?_
    refine E_bipush (v := 10) d_MOD_send_101 (by decide) ?_
    refine E_iload_n d_MOD_send_103 rfl ?_
    refine E_if_eq (tgt := 111) d_MOD_send_104 (by decide) (fun _ => ?_) (fun c => absurd (by decide) c)
    refine E_iconst (v := -1) d_MOD_send_111 (by decide) ?_
    refine E_V2v d_MOD_send_112 w_MOD_135 rfl (by decide) (Nat.le_of_ble_eq_true rfl) (c_MOD_set hp hp8 (by decide)) ?_
    rintro _ rfl
    refine E_iload_n d_MOD_send_115 rfl ?_
    refine E_if_eq (tgt := 146) d_MOD_send_116 (by decide) (fun _ => ?_) (fun c => absurd (by decide) c)
    refine E_iload_n d_MOD_send_146 rfl ?_
    refine E_if_eq (tgt := 180) d_MOD_send_147 (by decide) (fun _ => ?_) (fun c => absurd (by decide) c)
    exact E_return d_MOD_send_180 rfl rfl ⟨rfl, by rw [sndC, if_neg (by omega)]; rfl⟩
  · have c := (not_congr (nI_leI (a := 200) (b := sh) (by decide) (by omega))).mp c22
    refine E_iconst (v := 1) d_MOD_send_25 (by decide) ?_
    refine E_goto (tgt := 58) d_MOD_send_26 (by decide) ?_
    refine E_istore_n d_MOD_send_58 (by decide) ?_
    refine E_iload_n d_MOD_send_59 rfl ?_
    refine E_if_le (tgt := 71) d_MOD_send_60 (by decide) (fun _ => ?_) (fun c => absurd (by decide) c)
    refine E_iconst (v := 0) d_MOD_send_71 (by decide) ?_
    refine E_istore d_MOD_send_72 (by decide) ?_
    refine E_iload_n d_MOD_send_74 rfl ?_
    refine E_if_eq (tgt := 100) d_MOD_send_75 (by decide) (fun c => absurd c (by decide)) (fun _ => ?_)
    refine E_iload_n d_MOD_send_78 rfl ?_
    refine E_if_le (tgt := 100) d_MOD_send_79 (by decide) (fun _ => ?_) (fun c => absurd (by decide) c)
    refine E_aload_n d_MOD_send_100 rfl rfl ?_
    refine E_bipush (v := 10) d_MOD_send_101 (by decide) ?_
    refine E_iload_n d_MOD_send_103 rfl ?_
    refine E_if_eq (tgt := 111) d_MOD_send_104 (by decide) (fun c => absurd c (by decide)) (fun _ => ?_)
    refine E_iload_n d_MOD_send_107 rfl ?_
    refine E_goto (tgt := 112) d_MOD_send_108 (by decide) ?_
    refine E_V2v d_MOD_send_112 w_MOD_135 rfl (by decide) (Nat.le_of_ble_eq_true rfl) (c_MOD_set hp hp8 (by decide)) ?_
    rintro _ rfl
    refine E_iload_n d_MOD_send_115 rfl ?_
    refine E_if_eq (tgt := 146) d_MOD_send_116 (by decide) (fun c => absurd c (by decide)) (fun _ => ?_)
    refine E_iload_n d_MOD_send_119 rfl ?_
    refine E_if_ne (tgt := 146) d_MOD_send_120 (by decide) (fun c => absurd (by decide) c) (fun _ => ?_)
    refine E_aload_n d_MOD_send_123 rfl rfl ?_
    refine L_gr d_MOD_send_124 f_MOD_52 rfl (by decide) rfl rfl ?_
    refine E_aload_n d_MOD_send_127 rfl rfl ?_
    refine L_gi d_MOD_send_128 f_MOD_221 rfl (by decide) rfl (fr_M 0 22) ?_
    refine E_tp (y := nI (sh)) ((up2_ne2 _ _ _ _ (by decide)).trans hsh) ?_
    refine E_iload_n d_MOD_send_131 rfl ?_
    refine L_st (j := sh) d_MOD_send_132 rfl rfl (by omega) (by decide) (fu_M 15 _ _) ?_
    refine E_aload_n d_MOD_send_133 rfl rfl ?_
    refine E_dup d_MOD_send_134 rfl ?_
    refine L_gi d_MOD_send_135 f_MOD_221 rfl (by decide) rfl (fr_M 0 22) ?_
    refine E_tp (y := nI (sh)) ((up2_ne2 _ _ _ _ (by decide)).trans ((up2_ne2 _ _ _ _ (by decide)).trans hsh)) ?_
    refine E_iconst (v := 1) d_MOD_send_138 (by decide) ?_
    refine E_iadd d_MOD_send_139 ?_
    refine E_tp (y := nI (sh + 1)) (nI_add sh 1) ?_
    refine L_pi d_MOD_send_140 f_MOD_221 rfl (by decide) (Or.inl rfl) rfl (fu_M 0 22 _) ?_
    refine E_goto (tgt := 180) d_MOD_send_143 (by decide) ?_
    exact E_return d_MOD_send_180 rfl rfl ⟨rfl, by rw [sndC, if_pos (by omega), ← hb]; rfl⟩
theorem c_send_m1 {G : iG} {F : Nat} {C M : Nat → Nat → Int32} {p : Nat} (hp : M 0 24 = nI p) (hp8 : p ≤ 8) : MV G m_MOD_send 1 [vR 50, vI (-1)] (HW F C M) (fun h' => h' = HW F C (refM M p)) := by
  refine Mt.of' (Ls := [some (vR 50), some (vI (-1)), none, none, none]) (by decide) (by simp [ct]) (Nat.le_of_ble_eq_true rfl) rfl ?_
  refine E_aload_n d_MOD_send_0 rfl rfl ?_
  refine E_bipush (v := 11) d_MOD_send_1 (by decide) ?_
  refine E_V1i d_MOD_send_3 w_MOD_113 rfl (by decide) (Nat.le_of_ble_eq_true rfl) (c_MOD_get hp hp8 (by decide)) ?_
  rintro _ _ ⟨rfl, rfl⟩
  refine E_sipush (v := 255) d_MOD_send_6 (by decide) ?_
  refine E_iand d_MOD_send_9 ?_
  refine E_istore_n d_MOD_send_10 (by decide) ?_
  refine E_iload_n d_MOD_send_11 rfl ?_
  refine E_if_ne (tgt := 33) d_MOD_send_12 (by decide) (fun _ => ?_) (fun c => absurd c (by decide))
  refine E_iload_n d_MOD_send_33 rfl ?_
  refine E_if_le (tgt := 57) d_MOD_send_34 (by decide) (fun _ => ?_) (fun c => absurd (by decide) c)
  refine E_iconst (v := 0) d_MOD_send_57 (by decide) ?_
  refine E_istore_n d_MOD_send_58 (by decide) ?_
  refine E_iload_n d_MOD_send_59 rfl ?_
  refine E_if_le (tgt := 71) d_MOD_send_60 (by decide) (fun _ => ?_) (fun c => absurd (by decide) c)
  refine E_iconst (v := 0) d_MOD_send_71 (by decide) ?_
  refine E_istore d_MOD_send_72 (by decide) ?_
  refine E_iload_n d_MOD_send_74 rfl ?_
  refine E_if_eq (tgt := 100) d_MOD_send_75 (by decide) (fun _ => ?_) (fun c => absurd (by decide) c)
  refine E_aload_n d_MOD_send_100 rfl rfl ?_
  refine E_bipush (v := 10) d_MOD_send_101 (by decide) ?_
  refine E_iload_n d_MOD_send_103 rfl ?_
  refine E_if_eq (tgt := 111) d_MOD_send_104 (by decide) (fun _ => ?_) (fun c => absurd (by decide) c)
  refine E_iconst (v := -1) d_MOD_send_111 (by decide) ?_
  refine E_V2v d_MOD_send_112 w_MOD_135 rfl (by decide) (Nat.le_of_ble_eq_true rfl) (c_MOD_set hp hp8 (by decide)) ?_
  rintro _ rfl
  refine E_iload_n d_MOD_send_115 rfl ?_
  refine E_if_eq (tgt := 146) d_MOD_send_116 (by decide) (fun _ => ?_) (fun c => absurd (by decide) c)
  refine E_iload_n d_MOD_send_146 rfl ?_
  refine E_if_eq (tgt := 180) d_MOD_send_147 (by decide) (fun _ => ?_) (fun c => absurd (by decide) c)
  exact E_return d_MOD_send_180 rfl rfl ⟨rfl, rfl⟩
theorem c_send_1 {G : iG} {F : Nat} {C M : Nat → Nat → Int32} {p : Nat} (hp : M 0 24 = nI p) (hp8 : p ≤ 8) : MV G m_MOD_send 1 [vR 50, vI (1)] (HW F C M) (fun h' => h' = HW F C (refM M p)) := by
  refine Mt.of' (Ls := [some (vR 50), some (vI (1)), none, none, none]) (by decide) (by simp [ct]) (Nat.le_of_ble_eq_true rfl) rfl ?_
  refine E_aload_n d_MOD_send_0 rfl rfl ?_
  refine E_bipush (v := 11) d_MOD_send_1 (by decide) ?_
  refine E_V1i d_MOD_send_3 w_MOD_113 rfl (by decide) (Nat.le_of_ble_eq_true rfl) (c_MOD_get hp hp8 (by decide)) ?_
  rintro _ _ ⟨rfl, rfl⟩
  refine E_sipush (v := 255) d_MOD_send_6 (by decide) ?_
  refine E_iand d_MOD_send_9 ?_
  refine E_istore_n d_MOD_send_10 (by decide) ?_
  refine E_iload_n d_MOD_send_11 rfl ?_
  refine E_if_ne (tgt := 33) d_MOD_send_12 (by decide) (fun _ => ?_) (fun c => absurd c (by decide))
  refine E_iload_n d_MOD_send_33 rfl ?_
  refine E_if_le (tgt := 57) d_MOD_send_34 (by decide) (fun c => absurd c (by decide)) (fun _ => ?_)
  refine E_iload_n d_MOD_send_37 rfl ?_
  refine E_iconst (v := 2) d_MOD_send_38 (by decide) ?_
  refine E_irem d_MOD_send_39 (by decide) ?_
  refine E_tp (y := 1) (by decide) ?_
  refine E_if_ne (tgt := 57) d_MOD_send_40 (by decide) (fun _ => ?_) (fun c => absurd c (by decide))
  refine E_iconst (v := 0) d_MOD_send_57 (by decide) ?_
  refine E_istore_n d_MOD_send_58 (by decide) ?_
  refine E_iload_n d_MOD_send_59 rfl ?_
  refine E_if_le (tgt := 71) d_MOD_send_60 (by decide) (fun c => absurd c (by decide)) (fun _ => ?_)
  refine E_iload_n d_MOD_send_63 rfl ?_
  refine E_iconst (v := 1) d_MOD_send_64 (by decide) ?_
  refine E_isub d_MOD_send_65 ?_
  refine E_tp (y := 0) (by decide) ?_
  refine E_iconst (v := 2) d_MOD_send_66 (by decide) ?_
  refine E_idiv d_MOD_send_67 (by decide) ?_
  refine E_tp (y := 0) (by decide) ?_
  refine E_goto (tgt := 72) d_MOD_send_68 (by decide) ?_
  refine E_istore d_MOD_send_72 (by decide) ?_
  refine E_iload_n d_MOD_send_74 rfl ?_
  refine E_if_eq (tgt := 100) d_MOD_send_75 (by decide) (fun _ => ?_) (fun c => absurd (by decide) c)
  refine E_aload_n d_MOD_send_100 rfl rfl ?_
  refine E_bipush (v := 10) d_MOD_send_101 (by decide) ?_
  refine E_iload_n d_MOD_send_103 rfl ?_
  refine E_if_eq (tgt := 111) d_MOD_send_104 (by decide) (fun _ => ?_) (fun c => absurd (by decide) c)
  refine E_iconst (v := -1) d_MOD_send_111 (by decide) ?_
  refine E_V2v d_MOD_send_112 w_MOD_135 rfl (by decide) (Nat.le_of_ble_eq_true rfl) (c_MOD_set hp hp8 (by decide)) ?_
  rintro _ rfl
  refine E_iload_n d_MOD_send_115 rfl ?_
  refine E_if_eq (tgt := 146) d_MOD_send_116 (by decide) (fun _ => ?_) (fun c => absurd (by decide) c)
  refine E_iload_n d_MOD_send_146 rfl ?_
  refine E_if_eq (tgt := 180) d_MOD_send_147 (by decide) (fun _ => ?_) (fun c => absurd (by decide) c)
  exact E_return d_MOD_send_180 rfl rfl ⟨rfl, rfl⟩
theorem c_send_3 {G : iG} {F : Nat} {C M : Nat → Nat → Int32} {p : Nat} (hp : M 0 24 = nI p) (hp8 : p ≤ 8) : MV G m_MOD_send 1 [vR 50, vI (3)] (HW F C M) (fun h' => h' = HW F C (refM M p)) := by
  refine Mt.of' (Ls := [some (vR 50), some (vI (3)), none, none, none]) (by decide) (by simp [ct]) (Nat.le_of_ble_eq_true rfl) rfl ?_
  refine E_aload_n d_MOD_send_0 rfl rfl ?_
  refine E_bipush (v := 11) d_MOD_send_1 (by decide) ?_
  refine E_V1i d_MOD_send_3 w_MOD_113 rfl (by decide) (Nat.le_of_ble_eq_true rfl) (c_MOD_get hp hp8 (by decide)) ?_
  rintro _ _ ⟨rfl, rfl⟩
  refine E_sipush (v := 255) d_MOD_send_6 (by decide) ?_
  refine E_iand d_MOD_send_9 ?_
  refine E_istore_n d_MOD_send_10 (by decide) ?_
  refine E_iload_n d_MOD_send_11 rfl ?_
  refine E_if_ne (tgt := 33) d_MOD_send_12 (by decide) (fun _ => ?_) (fun c => absurd c (by decide))
  refine E_iload_n d_MOD_send_33 rfl ?_
  refine E_if_le (tgt := 57) d_MOD_send_34 (by decide) (fun c => absurd c (by decide)) (fun _ => ?_)
  refine E_iload_n d_MOD_send_37 rfl ?_
  refine E_iconst (v := 2) d_MOD_send_38 (by decide) ?_
  refine E_irem d_MOD_send_39 (by decide) ?_
  refine E_tp (y := 1) (by decide) ?_
  refine E_if_ne (tgt := 57) d_MOD_send_40 (by decide) (fun _ => ?_) (fun c => absurd c (by decide))
  refine E_iconst (v := 0) d_MOD_send_57 (by decide) ?_
  refine E_istore_n d_MOD_send_58 (by decide) ?_
  refine E_iload_n d_MOD_send_59 rfl ?_
  refine E_if_le (tgt := 71) d_MOD_send_60 (by decide) (fun c => absurd c (by decide)) (fun _ => ?_)
  refine E_iload_n d_MOD_send_63 rfl ?_
  refine E_iconst (v := 1) d_MOD_send_64 (by decide) ?_
  refine E_isub d_MOD_send_65 ?_
  refine E_tp (y := 2) (by decide) ?_
  refine E_iconst (v := 2) d_MOD_send_66 (by decide) ?_
  refine E_idiv d_MOD_send_67 (by decide) ?_
  refine E_tp (y := 1) (by decide) ?_
  refine E_goto (tgt := 72) d_MOD_send_68 (by decide) ?_
  refine E_istore d_MOD_send_72 (by decide) ?_
  refine E_iload_n d_MOD_send_74 rfl ?_
  refine E_if_eq (tgt := 100) d_MOD_send_75 (by decide) (fun _ => ?_) (fun c => absurd (by decide) c)
  refine E_aload_n d_MOD_send_100 rfl rfl ?_
  refine E_bipush (v := 10) d_MOD_send_101 (by decide) ?_
  refine E_iload_n d_MOD_send_103 rfl ?_
  refine E_if_eq (tgt := 111) d_MOD_send_104 (by decide) (fun _ => ?_) (fun c => absurd (by decide) c)
  refine E_iconst (v := -1) d_MOD_send_111 (by decide) ?_
  refine E_V2v d_MOD_send_112 w_MOD_135 rfl (by decide) (Nat.le_of_ble_eq_true rfl) (c_MOD_set hp hp8 (by decide)) ?_
  rintro _ rfl
  refine E_iload_n d_MOD_send_115 rfl ?_
  refine E_if_eq (tgt := 146) d_MOD_send_116 (by decide) (fun _ => ?_) (fun c => absurd (by decide) c)
  refine E_iload_n d_MOD_send_146 rfl ?_
  refine E_if_eq (tgt := 180) d_MOD_send_147 (by decide) (fun _ => ?_) (fun c => absurd (by decide) c)
  exact E_return d_MOD_send_180 rfl rfl ⟨rfl, rfl⟩
theorem c_send_5 {G : iG} {F : Nat} {C M : Nat → Nat → Int32} {p : Nat} (hp : M 0 24 = nI p) (hp8 : p ≤ 8) : MV G m_MOD_send 1 [vR 50, vI (5)] (HW F C M) (fun h' => h' = HW F C (refM M p)) := by
  refine Mt.of' (Ls := [some (vR 50), some (vI (5)), none, none, none]) (by decide) (by simp [ct]) (Nat.le_of_ble_eq_true rfl) rfl ?_
  refine E_aload_n d_MOD_send_0 rfl rfl ?_
  refine E_bipush (v := 11) d_MOD_send_1 (by decide) ?_
  refine E_V1i d_MOD_send_3 w_MOD_113 rfl (by decide) (Nat.le_of_ble_eq_true rfl) (c_MOD_get hp hp8 (by decide)) ?_
  rintro _ _ ⟨rfl, rfl⟩
  refine E_sipush (v := 255) d_MOD_send_6 (by decide) ?_
  refine E_iand d_MOD_send_9 ?_
  refine E_istore_n d_MOD_send_10 (by decide) ?_
  refine E_iload_n d_MOD_send_11 rfl ?_
  refine E_if_ne (tgt := 33) d_MOD_send_12 (by decide) (fun _ => ?_) (fun c => absurd c (by decide))
  refine E_iload_n d_MOD_send_33 rfl ?_
  refine E_if_le (tgt := 57) d_MOD_send_34 (by decide) (fun c => absurd c (by decide)) (fun _ => ?_)
  refine E_iload_n d_MOD_send_37 rfl ?_
  refine E_iconst (v := 2) d_MOD_send_38 (by decide) ?_
  refine E_irem d_MOD_send_39 (by decide) ?_
  refine E_tp (y := 1) (by decide) ?_
  refine E_if_ne (tgt := 57) d_MOD_send_40 (by decide) (fun _ => ?_) (fun c => absurd c (by decide))
  refine E_iconst (v := 0) d_MOD_send_57 (by decide) ?_
  refine E_istore_n d_MOD_send_58 (by decide) ?_
  refine E_iload_n d_MOD_send_59 rfl ?_
  refine E_if_le (tgt := 71) d_MOD_send_60 (by decide) (fun c => absurd c (by decide)) (fun _ => ?_)
  refine E_iload_n d_MOD_send_63 rfl ?_
  refine E_iconst (v := 1) d_MOD_send_64 (by decide) ?_
  refine E_isub d_MOD_send_65 ?_
  refine E_tp (y := 4) (by decide) ?_
  refine E_iconst (v := 2) d_MOD_send_66 (by decide) ?_
  refine E_idiv d_MOD_send_67 (by decide) ?_
  refine E_tp (y := 2) (by decide) ?_
  refine E_goto (tgt := 72) d_MOD_send_68 (by decide) ?_
  refine E_istore d_MOD_send_72 (by decide) ?_
  refine E_iload_n d_MOD_send_74 rfl ?_
  refine E_if_eq (tgt := 100) d_MOD_send_75 (by decide) (fun _ => ?_) (fun c => absurd (by decide) c)
  refine E_aload_n d_MOD_send_100 rfl rfl ?_
  refine E_bipush (v := 10) d_MOD_send_101 (by decide) ?_
  refine E_iload_n d_MOD_send_103 rfl ?_
  refine E_if_eq (tgt := 111) d_MOD_send_104 (by decide) (fun _ => ?_) (fun c => absurd (by decide) c)
  refine E_iconst (v := -1) d_MOD_send_111 (by decide) ?_
  refine E_V2v d_MOD_send_112 w_MOD_135 rfl (by decide) (Nat.le_of_ble_eq_true rfl) (c_MOD_set hp hp8 (by decide)) ?_
  rintro _ rfl
  refine E_iload_n d_MOD_send_115 rfl ?_
  refine E_if_eq (tgt := 146) d_MOD_send_116 (by decide) (fun _ => ?_) (fun c => absurd (by decide) c)
  refine E_iload_n d_MOD_send_146 rfl ?_
  refine E_if_eq (tgt := 180) d_MOD_send_147 (by decide) (fun _ => ?_) (fun c => absurd (by decide) c)
  exact E_return d_MOD_send_180 rfl rfl ⟨rfl, rfl⟩
theorem c_send_7 {G : iG} {F : Nat} {C M : Nat → Nat → Int32} {p : Nat} (hp : M 0 24 = nI p) (hp8 : p ≤ 8) : MV G m_MOD_send 1 [vR 50, vI (7)] (HW F C M) (fun h' => h' = HW F C (refM M p)) := by
  refine Mt.of' (Ls := [some (vR 50), some (vI (7)), none, none, none]) (by decide) (by simp [ct]) (Nat.le_of_ble_eq_true rfl) rfl ?_
  refine E_aload_n d_MOD_send_0 rfl rfl ?_
  refine E_bipush (v := 11) d_MOD_send_1 (by decide) ?_
  refine E_V1i d_MOD_send_3 w_MOD_113 rfl (by decide) (Nat.le_of_ble_eq_true rfl) (c_MOD_get hp hp8 (by decide)) ?_
  rintro _ _ ⟨rfl, rfl⟩
  refine E_sipush (v := 255) d_MOD_send_6 (by decide) ?_
  refine E_iand d_MOD_send_9 ?_
  refine E_istore_n d_MOD_send_10 (by decide) ?_
  refine E_iload_n d_MOD_send_11 rfl ?_
  refine E_if_ne (tgt := 33) d_MOD_send_12 (by decide) (fun _ => ?_) (fun c => absurd c (by decide))
  refine E_iload_n d_MOD_send_33 rfl ?_
  refine E_if_le (tgt := 57) d_MOD_send_34 (by decide) (fun c => absurd c (by decide)) (fun _ => ?_)
  refine E_iload_n d_MOD_send_37 rfl ?_
  refine E_iconst (v := 2) d_MOD_send_38 (by decide) ?_
  refine E_irem d_MOD_send_39 (by decide) ?_
  refine E_tp (y := 1) (by decide) ?_
  refine E_if_ne (tgt := 57) d_MOD_send_40 (by decide) (fun _ => ?_) (fun c => absurd c (by decide))
  refine E_iconst (v := 0) d_MOD_send_57 (by decide) ?_
  refine E_istore_n d_MOD_send_58 (by decide) ?_
  refine E_iload_n d_MOD_send_59 rfl ?_
  refine E_if_le (tgt := 71) d_MOD_send_60 (by decide) (fun c => absurd c (by decide)) (fun _ => ?_)
  refine E_iload_n d_MOD_send_63 rfl ?_
  refine E_iconst (v := 1) d_MOD_send_64 (by decide) ?_
  refine E_isub d_MOD_send_65 ?_
  refine E_tp (y := 6) (by decide) ?_
  refine E_iconst (v := 2) d_MOD_send_66 (by decide) ?_
  refine E_idiv d_MOD_send_67 (by decide) ?_
  refine E_tp (y := 3) (by decide) ?_
  refine E_goto (tgt := 72) d_MOD_send_68 (by decide) ?_
  refine E_istore d_MOD_send_72 (by decide) ?_
  refine E_iload_n d_MOD_send_74 rfl ?_
  refine E_if_eq (tgt := 100) d_MOD_send_75 (by decide) (fun _ => ?_) (fun c => absurd (by decide) c)
  refine E_aload_n d_MOD_send_100 rfl rfl ?_
  refine E_bipush (v := 10) d_MOD_send_101 (by decide) ?_
  refine E_iload_n d_MOD_send_103 rfl ?_
  refine E_if_eq (tgt := 111) d_MOD_send_104 (by decide) (fun _ => ?_) (fun c => absurd (by decide) c)
  refine E_iconst (v := -1) d_MOD_send_111 (by decide) ?_
  refine E_V2v d_MOD_send_112 w_MOD_135 rfl (by decide) (Nat.le_of_ble_eq_true rfl) (c_MOD_set hp hp8 (by decide)) ?_
  rintro _ rfl
  refine E_iload_n d_MOD_send_115 rfl ?_
  refine E_if_eq (tgt := 146) d_MOD_send_116 (by decide) (fun _ => ?_) (fun c => absurd (by decide) c)
  refine E_iload_n d_MOD_send_146 rfl ?_
  refine E_if_eq (tgt := 180) d_MOD_send_147 (by decide) (fun _ => ?_) (fun c => absurd (by decide) c)
  exact E_return d_MOD_send_180 rfl rfl ⟨rfl, rfl⟩
theorem c_send_2 {G : iG} {F : Nat} {C M : Nat → Nat → Int32} {p : Nat} (hp : M 0 24 = nI p) (hp8 : p ≤ 8) {c : Nat} (hc : M 14 0 = nI c) (hc8 : c ≤ 8) : MV G m_MOD_send 1 [vR 50, vI 2] (HW F C M) (fun h' => h' = HW F C (sndP M p 0 c)) := by
  refine Mt.of' (Ls := [some (vR 50), some (vI 2), none, none, none]) (by decide) (by simp [ct]) (Nat.le_of_ble_eq_true rfl) rfl ?_
  obtain ⟨b, hb⟩ : ∃ b, b = M 9 (32 * p + 11) &&& 255 := ⟨_, rfl⟩
  refine E_aload_n d_MOD_send_0 rfl rfl ?_
  refine E_bipush (v := 11) d_MOD_send_1 (by decide) ?_
  refine E_V1i d_MOD_send_3 w_MOD_113 rfl (by decide) (Nat.le_of_ble_eq_true rfl) (c_MOD_get hp hp8 (by decide)) ?_
  rintro _ _ ⟨rfl, rfl⟩
  refine E_sipush (v := 255) d_MOD_send_6 (by decide) ?_
  refine E_iand d_MOD_send_9 ?_
  refine E_tp (y := b) hb.symm ?_
  refine E_istore_n d_MOD_send_10 (by decide) ?_
  refine E_iload_n d_MOD_send_11 rfl ?_
  refine E_if_ne (tgt := 33) d_MOD_send_12 (by decide) (fun _ => ?_) (fun c => absurd c (by decide))
  refine E_iload_n d_MOD_send_33 rfl ?_
  refine E_if_le (tgt := 57) d_MOD_send_34 (by decide) (fun c => absurd c (by decide)) (fun _ => ?_)
  refine E_iload_n d_MOD_send_37 rfl ?_
  refine E_iconst (v := 2) d_MOD_send_38 (by decide) ?_
  refine E_irem d_MOD_send_39 (by decide) ?_
  refine E_tp (y := 0) (by decide) ?_
  refine E_if_ne (tgt := 57) d_MOD_send_40 (by decide) (fun c => absurd (by decide) c) (fun _ => ?_)
  refine E_aload_n d_MOD_send_43 rfl rfl ?_
  refine E_iload_n d_MOD_send_44 rfl ?_
  refine E_iconst (v := 1) d_MOD_send_45 (by decide) ?_
  refine E_isub d_MOD_send_46 ?_
  refine E_tp (y := 1) (by decide) ?_
  refine E_V1i d_MOD_send_47 w_MOD_84 rfl (by decide) (Nat.le_of_ble_eq_true rfl) (c_MOD_isHeld) ?_
  rintro _ _ ⟨rfl, rfl⟩
  refine E_if_eq (tgt := 57) d_MOD_send_50 (by decide) (fun c50 => ?_) (fun c50 => ?_)
  · have hh := b2i_eq0 c50
    refine E_iconst (v := 0) d_MOD_send_57 (by decide) ?_
    refine E_istore_n d_MOD_send_58 (by decide) ?_
    refine E_iload_n d_MOD_send_59 rfl ?_
    refine E_if_le (tgt := 71) d_MOD_send_60 (by decide) (fun c => absurd c (by decide)) (fun _ => ?_)
    refine E_iload_n d_MOD_send_63 rfl ?_
    refine E_iconst (v := 1) d_MOD_send_64 (by decide) ?_
    refine E_isub d_MOD_send_65 ?_
    refine E_tp (y := 1) (by decide) ?_
    refine E_iconst (v := 2) d_MOD_send_66 (by decide) ?_
    refine E_idiv d_MOD_send_67 (by decide) ?_
    refine E_tp (y := 0) (by decide) ?_
    refine E_goto (tgt := 72) d_MOD_send_68 (by decide) ?_
    refine E_istore d_MOD_send_72 (by decide) ?_
    refine E_iload_n d_MOD_send_74 rfl ?_
    refine E_if_eq (tgt := 100) d_MOD_send_75 (by decide) (fun _ => ?_) (fun c => absurd (by decide) c)
    refine E_aload_n d_MOD_send_100 rfl rfl ?_
    refine E_bipush (v := 10) d_MOD_send_101 (by decide) ?_
    refine E_iload_n d_MOD_send_103 rfl ?_
    refine E_if_eq (tgt := 111) d_MOD_send_104 (by decide) (fun _ => ?_) (fun c => absurd (by decide) c)
    refine E_iconst (v := -1) d_MOD_send_111 (by decide) ?_
    refine E_V2v d_MOD_send_112 w_MOD_135 rfl (by decide) (Nat.le_of_ble_eq_true rfl) (c_MOD_set hp hp8 (by decide)) ?_
    rintro _ rfl
    refine E_iload_n d_MOD_send_115 rfl ?_
    refine E_if_eq (tgt := 146) d_MOD_send_116 (by decide) (fun _ => ?_) (fun c => absurd (by decide) c)
    refine E_iload_n d_MOD_send_146 rfl ?_
    refine E_if_eq (tgt := 180) d_MOD_send_147 (by decide) (fun _ => ?_) (fun c => absurd (by decide) c)
    exact E_return d_MOD_send_180 rfl rfl ⟨rfl, by rw [sndP, show nI (1 + 2 * 0) = 1 from rfl, if_neg (by rw [hh]; decide)]; rfl⟩
  · have hh := b2i_ne0 c50
    refine E_iconst (v := 1) d_MOD_send_53 (by decide) ?_
    refine E_goto (tgt := 58) d_MOD_send_54 (by decide) ?_
    refine E_istore_n d_MOD_send_58 (by decide) ?_
    refine E_iload_n d_MOD_send_59 rfl ?_
    refine E_if_le (tgt := 71) d_MOD_send_60 (by decide) (fun c => absurd c (by decide)) (fun _ => ?_)
    refine E_iload_n d_MOD_send_63 rfl ?_
    refine E_iconst (v := 1) d_MOD_send_64 (by decide) ?_
    refine E_isub d_MOD_send_65 ?_
    refine E_tp (y := 1) (by decide) ?_
    refine E_iconst (v := 2) d_MOD_send_66 (by decide) ?_
    refine E_idiv d_MOD_send_67 (by decide) ?_
    refine E_tp (y := 0) (by decide) ?_
    refine E_goto (tgt := 72) d_MOD_send_68 (by decide) ?_
    refine E_istore d_MOD_send_72 (by decide) ?_
    refine E_iload_n d_MOD_send_74 rfl ?_
    refine E_if_eq (tgt := 100) d_MOD_send_75 (by decide) (fun c => absurd c (by decide)) (fun _ => ?_)
    refine E_iload_n d_MOD_send_78 rfl ?_
    refine E_if_le (tgt := 100) d_MOD_send_79 (by decide) (fun c => absurd c (by decide)) (fun _ => ?_)
    refine E_aload_n d_MOD_send_82 rfl rfl ?_
    refine L_gr d_MOD_send_83 f_MOD_49 rfl (by decide) rfl rfl ?_
    refine E_iload d_MOD_send_86 rfl ?_
    refine L_ld (j := 0) d_MOD_send_88 rfl rfl (by omega) (by decide) (fr_M 14 _) ?_
    refine E_tp (y := nI (c)) hc ?_
    refine E_bipush (v := 8) d_MOD_send_89 (by decide) ?_
    refine E_icmp_ne (tgt := 100) d_MOD_send_91 (by decide) (fun c91 => ?_) (fun c91 => ?_)
    · have c9 : c ≠ 8 := fun q => c91 (by rw [q]; rfl)
      refine E_aload_n d_MOD_send_100 rfl rfl ?_
      refine E_bipush (v := 10) d_MOD_send_101 (by decide) ?_
      refine E_iload_n d_MOD_send_103 rfl ?_
      refine E_if_eq (tgt := 111) d_MOD_send_104 (by decide) (fun c => absurd c (by decide)) (fun _ => ?_)
      refine E_iload_n d_MOD_send_107 rfl ?_
      refine E_goto (tgt := 112) d_MOD_send_108 (by decide) ?_
      refine E_V2v d_MOD_send_112 w_MOD_135 rfl (by decide) (Nat.le_of_ble_eq_true rfl) (c_MOD_set hp hp8 (by decide)) ?_
      rintro _ rfl
      refine E_iload_n d_MOD_send_115 rfl ?_
      refine E_if_eq (tgt := 146) d_MOD_send_116 (by decide) (fun c => absurd c (by decide)) (fun _ => ?_)
      refine E_iload_n d_MOD_send_119 rfl ?_
      refine E_if_ne (tgt := 146) d_MOD_send_120 (by decide) (fun _ => ?_) (fun c => absurd c (by decide))
      refine E_iload_n d_MOD_send_146 rfl ?_
      refine E_if_eq (tgt := 180) d_MOD_send_147 (by decide) (fun c => absurd c (by decide)) (fun _ => ?_)
      refine E_aload_n d_MOD_send_150 rfl rfl ?_
      refine L_gr d_MOD_send_151 f_MOD_46 rfl (by decide) rfl rfl ?_
      refine E_bipush (v := 8) d_MOD_send_154 (by decide) ?_
      refine E_iload d_MOD_send_156 rfl ?_
      refine E_imul d_MOD_send_158 ?_
      refine E_tp (y := nI (0)) (pk_mul 8 0) ?_
      refine E_aload_n d_MOD_send_159 rfl rfl ?_
      refine L_gr d_MOD_send_160 f_MOD_49 rfl (by decide) rfl rfl ?_
      refine E_iload d_MOD_send_163 rfl ?_
      refine L_ld (j := 0) d_MOD_send_165 rfl rfl (by omega) (by decide) (fr_M 14 _) ?_
      refine E_tp (y := nI (c)) ((up2_ne2 _ _ _ _ (by decide)).trans hc) ?_
      refine E_iadd d_MOD_send_166 ?_
      refine E_tp (y := nI (0 + c)) (nI_add 0 c) ?_
      refine E_iload_n d_MOD_send_167 rfl ?_
      refine L_st (j := 0 + c) d_MOD_send_168 rfl rfl (by omega) (by decide) (fu_M 13 _ _) ?_
      refine E_aload_n d_MOD_send_169 rfl rfl ?_
      refine L_gr d_MOD_send_170 f_MOD_49 rfl (by decide) rfl rfl ?_
      refine E_iload d_MOD_send_173 rfl ?_
      refine E_dup2 d_MOD_send_175 rfl rfl ?_
      refine L_ld (j := 0) d_MOD_send_176 rfl rfl (by omega) (by decide) (fr_M 14 _) ?_
      refine E_tp (y := nI (c)) ((up2_ne2 _ _ _ _ (by decide)).trans ((up2_ne2 _ _ _ _ (by decide)).trans hc)) ?_
      refine E_iconst (v := 1) d_MOD_send_177 (by decide) ?_
      refine E_iadd d_MOD_send_178 ?_
      refine E_tp (y := nI (c + 1)) (nI_add c 1) ?_
      refine L_st (j := 0) d_MOD_send_179 rfl rfl (by omega) (by decide) (fu_M 14 _ _) ?_
      exact E_return d_MOD_send_180 rfl rfl ⟨rfl, by rw [sndP, show nI (1 + 2 * 0) = 1 from rfl, if_pos hh, if_neg c9, ← hb]; rfl⟩
    · have c9 : c = 8 := (nI_eq (b := 8) (by omega) (by decide)).mp c91
      refine E_aload_n d_MOD_send_94 rfl rfl ?_
      refine E_iconst (v := 3) d_MOD_send_95 (by decide) ?_
      refine E_V1v d_MOD_send_96 w_MOD_218 rfl (by decide) (Nat.le_of_ble_eq_true rfl) (c_MOD_block hp hp8) ?_
      rintro _ rfl
      exact E_return d_MOD_send_99 rfl rfl ⟨rfl, by rw [sndP, show nI (1 + 2 * 0) = 1 from rfl, if_pos hh, if_pos c9]⟩
theorem c_send_4 {G : iG} {F : Nat} {C M : Nat → Nat → Int32} {p : Nat} (hp : M 0 24 = nI p) (hp8 : p ≤ 8) {c : Nat} (hc : M 14 1 = nI c) (hc8 : c ≤ 8) : MV G m_MOD_send 1 [vR 50, vI 4] (HW F C M) (fun h' => h' = HW F C (sndP M p 1 c)) := by
  refine Mt.of' (Ls := [some (vR 50), some (vI 4), none, none, none]) (by decide) (by simp [ct]) (Nat.le_of_ble_eq_true rfl) rfl ?_
  obtain ⟨b, hb⟩ : ∃ b, b = M 9 (32 * p + 11) &&& 255 := ⟨_, rfl⟩
  refine E_aload_n d_MOD_send_0 rfl rfl ?_
  refine E_bipush (v := 11) d_MOD_send_1 (by decide) ?_
  refine E_V1i d_MOD_send_3 w_MOD_113 rfl (by decide) (Nat.le_of_ble_eq_true rfl) (c_MOD_get hp hp8 (by decide)) ?_
  rintro _ _ ⟨rfl, rfl⟩
  refine E_sipush (v := 255) d_MOD_send_6 (by decide) ?_
  refine E_iand d_MOD_send_9 ?_
  refine E_tp (y := b) hb.symm ?_
  refine E_istore_n d_MOD_send_10 (by decide) ?_
  refine E_iload_n d_MOD_send_11 rfl ?_
  refine E_if_ne (tgt := 33) d_MOD_send_12 (by decide) (fun _ => ?_) (fun c => absurd c (by decide))
  refine E_iload_n d_MOD_send_33 rfl ?_
  refine E_if_le (tgt := 57) d_MOD_send_34 (by decide) (fun c => absurd c (by decide)) (fun _ => ?_)
  refine E_iload_n d_MOD_send_37 rfl ?_
  refine E_iconst (v := 2) d_MOD_send_38 (by decide) ?_
  refine E_irem d_MOD_send_39 (by decide) ?_
  refine E_tp (y := 0) (by decide) ?_
  refine E_if_ne (tgt := 57) d_MOD_send_40 (by decide) (fun c => absurd (by decide) c) (fun _ => ?_)
  refine E_aload_n d_MOD_send_43 rfl rfl ?_
  refine E_iload_n d_MOD_send_44 rfl ?_
  refine E_iconst (v := 1) d_MOD_send_45 (by decide) ?_
  refine E_isub d_MOD_send_46 ?_
  refine E_tp (y := 3) (by decide) ?_
  refine E_V1i d_MOD_send_47 w_MOD_84 rfl (by decide) (Nat.le_of_ble_eq_true rfl) (c_MOD_isHeld) ?_
  rintro _ _ ⟨rfl, rfl⟩
  refine E_if_eq (tgt := 57) d_MOD_send_50 (by decide) (fun c50 => ?_) (fun c50 => ?_)
  · have hh := b2i_eq0 c50
    refine E_iconst (v := 0) d_MOD_send_57 (by decide) ?_
    refine E_istore_n d_MOD_send_58 (by decide) ?_
    refine E_iload_n d_MOD_send_59 rfl ?_
    refine E_if_le (tgt := 71) d_MOD_send_60 (by decide) (fun c => absurd c (by decide)) (fun _ => ?_)
    refine E_iload_n d_MOD_send_63 rfl ?_
    refine E_iconst (v := 1) d_MOD_send_64 (by decide) ?_
    refine E_isub d_MOD_send_65 ?_
    refine E_tp (y := 3) (by decide) ?_
    refine E_iconst (v := 2) d_MOD_send_66 (by decide) ?_
    refine E_idiv d_MOD_send_67 (by decide) ?_
    refine E_tp (y := 1) (by decide) ?_
    refine E_goto (tgt := 72) d_MOD_send_68 (by decide) ?_
    refine E_istore d_MOD_send_72 (by decide) ?_
    refine E_iload_n d_MOD_send_74 rfl ?_
    refine E_if_eq (tgt := 100) d_MOD_send_75 (by decide) (fun _ => ?_) (fun c => absurd (by decide) c)
    refine E_aload_n d_MOD_send_100 rfl rfl ?_
    refine E_bipush (v := 10) d_MOD_send_101 (by decide) ?_
    refine E_iload_n d_MOD_send_103 rfl ?_
    refine E_if_eq (tgt := 111) d_MOD_send_104 (by decide) (fun _ => ?_) (fun c => absurd (by decide) c)
    refine E_iconst (v := -1) d_MOD_send_111 (by decide) ?_
    refine E_V2v d_MOD_send_112 w_MOD_135 rfl (by decide) (Nat.le_of_ble_eq_true rfl) (c_MOD_set hp hp8 (by decide)) ?_
    rintro _ rfl
    refine E_iload_n d_MOD_send_115 rfl ?_
    refine E_if_eq (tgt := 146) d_MOD_send_116 (by decide) (fun _ => ?_) (fun c => absurd (by decide) c)
    refine E_iload_n d_MOD_send_146 rfl ?_
    refine E_if_eq (tgt := 180) d_MOD_send_147 (by decide) (fun _ => ?_) (fun c => absurd (by decide) c)
    exact E_return d_MOD_send_180 rfl rfl ⟨rfl, by rw [sndP, show nI (1 + 2 * 1) = 3 from rfl, if_neg (by rw [hh]; decide)]; rfl⟩
  · have hh := b2i_ne0 c50
    refine E_iconst (v := 1) d_MOD_send_53 (by decide) ?_
    refine E_goto (tgt := 58) d_MOD_send_54 (by decide) ?_
    refine E_istore_n d_MOD_send_58 (by decide) ?_
    refine E_iload_n d_MOD_send_59 rfl ?_
    refine E_if_le (tgt := 71) d_MOD_send_60 (by decide) (fun c => absurd c (by decide)) (fun _ => ?_)
    refine E_iload_n d_MOD_send_63 rfl ?_
    refine E_iconst (v := 1) d_MOD_send_64 (by decide) ?_
    refine E_isub d_MOD_send_65 ?_
    refine E_tp (y := 3) (by decide) ?_
    refine E_iconst (v := 2) d_MOD_send_66 (by decide) ?_
    refine E_idiv d_MOD_send_67 (by decide) ?_
    refine E_tp (y := 1) (by decide) ?_
    refine E_goto (tgt := 72) d_MOD_send_68 (by decide) ?_
    refine E_istore d_MOD_send_72 (by decide) ?_
    refine E_iload_n d_MOD_send_74 rfl ?_
    refine E_if_eq (tgt := 100) d_MOD_send_75 (by decide) (fun c => absurd c (by decide)) (fun _ => ?_)
    refine E_iload_n d_MOD_send_78 rfl ?_
    refine E_if_le (tgt := 100) d_MOD_send_79 (by decide) (fun c => absurd c (by decide)) (fun _ => ?_)
    refine E_aload_n d_MOD_send_82 rfl rfl ?_
    refine L_gr d_MOD_send_83 f_MOD_49 rfl (by decide) rfl rfl ?_
    refine E_iload d_MOD_send_86 rfl ?_
    refine L_ld (j := 1) d_MOD_send_88 rfl rfl (by omega) (by decide) (fr_M 14 _) ?_
    refine E_tp (y := nI (c)) hc ?_
    refine E_bipush (v := 8) d_MOD_send_89 (by decide) ?_
    refine E_icmp_ne (tgt := 100) d_MOD_send_91 (by decide) (fun c91 => ?_) (fun c91 => ?_)
    · have c9 : c ≠ 8 := fun q => c91 (by rw [q]; rfl)
      refine E_aload_n d_MOD_send_100 rfl rfl ?_
      refine E_bipush (v := 10) d_MOD_send_101 (by decide) ?_
      refine E_iload_n d_MOD_send_103 rfl ?_
      refine E_if_eq (tgt := 111) d_MOD_send_104 (by decide) (fun c => absurd c (by decide)) (fun _ => ?_)
      refine E_iload_n d_MOD_send_107 rfl ?_
      refine E_goto (tgt := 112) d_MOD_send_108 (by decide) ?_
      refine E_V2v d_MOD_send_112 w_MOD_135 rfl (by decide) (Nat.le_of_ble_eq_true rfl) (c_MOD_set hp hp8 (by decide)) ?_
      rintro _ rfl
      refine E_iload_n d_MOD_send_115 rfl ?_
      refine E_if_eq (tgt := 146) d_MOD_send_116 (by decide) (fun c => absurd c (by decide)) (fun _ => ?_)
      refine E_iload_n d_MOD_send_119 rfl ?_
      refine E_if_ne (tgt := 146) d_MOD_send_120 (by decide) (fun _ => ?_) (fun c => absurd c (by decide))
      refine E_iload_n d_MOD_send_146 rfl ?_
      refine E_if_eq (tgt := 180) d_MOD_send_147 (by decide) (fun c => absurd c (by decide)) (fun _ => ?_)
      refine E_aload_n d_MOD_send_150 rfl rfl ?_
      refine L_gr d_MOD_send_151 f_MOD_46 rfl (by decide) rfl rfl ?_
      refine E_bipush (v := 8) d_MOD_send_154 (by decide) ?_
      refine E_iload d_MOD_send_156 rfl ?_
      refine E_imul d_MOD_send_158 ?_
      refine E_tp (y := nI (8)) (pk_mul 8 1) ?_
      refine E_aload_n d_MOD_send_159 rfl rfl ?_
      refine L_gr d_MOD_send_160 f_MOD_49 rfl (by decide) rfl rfl ?_
      refine E_iload d_MOD_send_163 rfl ?_
      refine L_ld (j := 1) d_MOD_send_165 rfl rfl (by omega) (by decide) (fr_M 14 _) ?_
      refine E_tp (y := nI (c)) ((up2_ne2 _ _ _ _ (by decide)).trans hc) ?_
      refine E_iadd d_MOD_send_166 ?_
      refine E_tp (y := nI (8 + c)) (nI_add 8 c) ?_
      refine E_iload_n d_MOD_send_167 rfl ?_
      refine L_st (j := 8 + c) d_MOD_send_168 rfl rfl (by omega) (by decide) (fu_M 13 _ _) ?_
      refine E_aload_n d_MOD_send_169 rfl rfl ?_
      refine L_gr d_MOD_send_170 f_MOD_49 rfl (by decide) rfl rfl ?_
      refine E_iload d_MOD_send_173 rfl ?_
      refine E_dup2 d_MOD_send_175 rfl rfl ?_
      refine L_ld (j := 1) d_MOD_send_176 rfl rfl (by omega) (by decide) (fr_M 14 _) ?_
      refine E_tp (y := nI (c)) ((up2_ne2 _ _ _ _ (by decide)).trans ((up2_ne2 _ _ _ _ (by decide)).trans hc)) ?_
      refine E_iconst (v := 1) d_MOD_send_177 (by decide) ?_
      refine E_iadd d_MOD_send_178 ?_
      refine E_tp (y := nI (c + 1)) (nI_add c 1) ?_
      refine L_st (j := 1) d_MOD_send_179 rfl rfl (by omega) (by decide) (fu_M 14 _ _) ?_
      exact E_return d_MOD_send_180 rfl rfl ⟨rfl, by rw [sndP, show nI (1 + 2 * 1) = 3 from rfl, if_pos hh, if_neg c9, ← hb]; rfl⟩
    · have c9 : c = 8 := (nI_eq (b := 8) (by omega) (by decide)).mp c91
      refine E_aload_n d_MOD_send_94 rfl rfl ?_
      refine E_iconst (v := 3) d_MOD_send_95 (by decide) ?_
      refine E_V1v d_MOD_send_96 w_MOD_218 rfl (by decide) (Nat.le_of_ble_eq_true rfl) (c_MOD_block hp hp8) ?_
      rintro _ rfl
      exact E_return d_MOD_send_99 rfl rfl ⟨rfl, by rw [sndP, show nI (1 + 2 * 1) = 3 from rfl, if_pos hh, if_pos c9]⟩
theorem c_send_6 {G : iG} {F : Nat} {C M : Nat → Nat → Int32} {p : Nat} (hp : M 0 24 = nI p) (hp8 : p ≤ 8) {c : Nat} (hc : M 14 2 = nI c) (hc8 : c ≤ 8) : MV G m_MOD_send 1 [vR 50, vI 6] (HW F C M) (fun h' => h' = HW F C (sndP M p 2 c)) := by
  refine Mt.of' (Ls := [some (vR 50), some (vI 6), none, none, none]) (by decide) (by simp [ct]) (Nat.le_of_ble_eq_true rfl) rfl ?_
  obtain ⟨b, hb⟩ : ∃ b, b = M 9 (32 * p + 11) &&& 255 := ⟨_, rfl⟩
  refine E_aload_n d_MOD_send_0 rfl rfl ?_
  refine E_bipush (v := 11) d_MOD_send_1 (by decide) ?_
  refine E_V1i d_MOD_send_3 w_MOD_113 rfl (by decide) (Nat.le_of_ble_eq_true rfl) (c_MOD_get hp hp8 (by decide)) ?_
  rintro _ _ ⟨rfl, rfl⟩
  refine E_sipush (v := 255) d_MOD_send_6 (by decide) ?_
  refine E_iand d_MOD_send_9 ?_
  refine E_tp (y := b) hb.symm ?_
  refine E_istore_n d_MOD_send_10 (by decide) ?_
  refine E_iload_n d_MOD_send_11 rfl ?_
  refine E_if_ne (tgt := 33) d_MOD_send_12 (by decide) (fun _ => ?_) (fun c => absurd c (by decide))
  refine E_iload_n d_MOD_send_33 rfl ?_
  refine E_if_le (tgt := 57) d_MOD_send_34 (by decide) (fun c => absurd c (by decide)) (fun _ => ?_)
  refine E_iload_n d_MOD_send_37 rfl ?_
  refine E_iconst (v := 2) d_MOD_send_38 (by decide) ?_
  refine E_irem d_MOD_send_39 (by decide) ?_
  refine E_tp (y := 0) (by decide) ?_
  refine E_if_ne (tgt := 57) d_MOD_send_40 (by decide) (fun c => absurd (by decide) c) (fun _ => ?_)
  refine E_aload_n d_MOD_send_43 rfl rfl ?_
  refine E_iload_n d_MOD_send_44 rfl ?_
  refine E_iconst (v := 1) d_MOD_send_45 (by decide) ?_
  refine E_isub d_MOD_send_46 ?_
  refine E_tp (y := 5) (by decide) ?_
  refine E_V1i d_MOD_send_47 w_MOD_84 rfl (by decide) (Nat.le_of_ble_eq_true rfl) (c_MOD_isHeld) ?_
  rintro _ _ ⟨rfl, rfl⟩
  refine E_if_eq (tgt := 57) d_MOD_send_50 (by decide) (fun c50 => ?_) (fun c50 => ?_)
  · have hh := b2i_eq0 c50
    refine E_iconst (v := 0) d_MOD_send_57 (by decide) ?_
    refine E_istore_n d_MOD_send_58 (by decide) ?_
    refine E_iload_n d_MOD_send_59 rfl ?_
    refine E_if_le (tgt := 71) d_MOD_send_60 (by decide) (fun c => absurd c (by decide)) (fun _ => ?_)
    refine E_iload_n d_MOD_send_63 rfl ?_
    refine E_iconst (v := 1) d_MOD_send_64 (by decide) ?_
    refine E_isub d_MOD_send_65 ?_
    refine E_tp (y := 5) (by decide) ?_
    refine E_iconst (v := 2) d_MOD_send_66 (by decide) ?_
    refine E_idiv d_MOD_send_67 (by decide) ?_
    refine E_tp (y := 2) (by decide) ?_
    refine E_goto (tgt := 72) d_MOD_send_68 (by decide) ?_
    refine E_istore d_MOD_send_72 (by decide) ?_
    refine E_iload_n d_MOD_send_74 rfl ?_
    refine E_if_eq (tgt := 100) d_MOD_send_75 (by decide) (fun _ => ?_) (fun c => absurd (by decide) c)
    refine E_aload_n d_MOD_send_100 rfl rfl ?_
    refine E_bipush (v := 10) d_MOD_send_101 (by decide) ?_
    refine E_iload_n d_MOD_send_103 rfl ?_
    refine E_if_eq (tgt := 111) d_MOD_send_104 (by decide) (fun _ => ?_) (fun c => absurd (by decide) c)
    refine E_iconst (v := -1) d_MOD_send_111 (by decide) ?_
    refine E_V2v d_MOD_send_112 w_MOD_135 rfl (by decide) (Nat.le_of_ble_eq_true rfl) (c_MOD_set hp hp8 (by decide)) ?_
    rintro _ rfl
    refine E_iload_n d_MOD_send_115 rfl ?_
    refine E_if_eq (tgt := 146) d_MOD_send_116 (by decide) (fun _ => ?_) (fun c => absurd (by decide) c)
    refine E_iload_n d_MOD_send_146 rfl ?_
    refine E_if_eq (tgt := 180) d_MOD_send_147 (by decide) (fun _ => ?_) (fun c => absurd (by decide) c)
    exact E_return d_MOD_send_180 rfl rfl ⟨rfl, by rw [sndP, show nI (1 + 2 * 2) = 5 from rfl, if_neg (by rw [hh]; decide)]; rfl⟩
  · have hh := b2i_ne0 c50
    refine E_iconst (v := 1) d_MOD_send_53 (by decide) ?_
    refine E_goto (tgt := 58) d_MOD_send_54 (by decide) ?_
    refine E_istore_n d_MOD_send_58 (by decide) ?_
    refine E_iload_n d_MOD_send_59 rfl ?_
    refine E_if_le (tgt := 71) d_MOD_send_60 (by decide) (fun c => absurd c (by decide)) (fun _ => ?_)
    refine E_iload_n d_MOD_send_63 rfl ?_
    refine E_iconst (v := 1) d_MOD_send_64 (by decide) ?_
    refine E_isub d_MOD_send_65 ?_
    refine E_tp (y := 5) (by decide) ?_
    refine E_iconst (v := 2) d_MOD_send_66 (by decide) ?_
    refine E_idiv d_MOD_send_67 (by decide) ?_
    refine E_tp (y := 2) (by decide) ?_
    refine E_goto (tgt := 72) d_MOD_send_68 (by decide) ?_
    refine E_istore d_MOD_send_72 (by decide) ?_
    refine E_iload_n d_MOD_send_74 rfl ?_
    refine E_if_eq (tgt := 100) d_MOD_send_75 (by decide) (fun c => absurd c (by decide)) (fun _ => ?_)
    refine E_iload_n d_MOD_send_78 rfl ?_
    refine E_if_le (tgt := 100) d_MOD_send_79 (by decide) (fun c => absurd c (by decide)) (fun _ => ?_)
    refine E_aload_n d_MOD_send_82 rfl rfl ?_
    refine L_gr d_MOD_send_83 f_MOD_49 rfl (by decide) rfl rfl ?_
    refine E_iload d_MOD_send_86 rfl ?_
    refine L_ld (j := 2) d_MOD_send_88 rfl rfl (by omega) (by decide) (fr_M 14 _) ?_
    refine E_tp (y := nI (c)) hc ?_
    refine E_bipush (v := 8) d_MOD_send_89 (by decide) ?_
    refine E_icmp_ne (tgt := 100) d_MOD_send_91 (by decide) (fun c91 => ?_) (fun c91 => ?_)
    · have c9 : c ≠ 8 := fun q => c91 (by rw [q]; rfl)
      refine E_aload_n d_MOD_send_100 rfl rfl ?_
      refine E_bipush (v := 10) d_MOD_send_101 (by decide) ?_
      refine E_iload_n d_MOD_send_103 rfl ?_
      refine E_if_eq (tgt := 111) d_MOD_send_104 (by decide) (fun c => absurd c (by decide)) (fun _ => ?_)
      refine E_iload_n d_MOD_send_107 rfl ?_
      refine E_goto (tgt := 112) d_MOD_send_108 (by decide) ?_
      refine E_V2v d_MOD_send_112 w_MOD_135 rfl (by decide) (Nat.le_of_ble_eq_true rfl) (c_MOD_set hp hp8 (by decide)) ?_
      rintro _ rfl
      refine E_iload_n d_MOD_send_115 rfl ?_
      refine E_if_eq (tgt := 146) d_MOD_send_116 (by decide) (fun c => absurd c (by decide)) (fun _ => ?_)
      refine E_iload_n d_MOD_send_119 rfl ?_
      refine E_if_ne (tgt := 146) d_MOD_send_120 (by decide) (fun _ => ?_) (fun c => absurd c (by decide))
      refine E_iload_n d_MOD_send_146 rfl ?_
      refine E_if_eq (tgt := 180) d_MOD_send_147 (by decide) (fun c => absurd c (by decide)) (fun _ => ?_)
      refine E_aload_n d_MOD_send_150 rfl rfl ?_
      refine L_gr d_MOD_send_151 f_MOD_46 rfl (by decide) rfl rfl ?_
      refine E_bipush (v := 8) d_MOD_send_154 (by decide) ?_
      refine E_iload d_MOD_send_156 rfl ?_
      refine E_imul d_MOD_send_158 ?_
      refine E_tp (y := nI (16)) (pk_mul 8 2) ?_
      refine E_aload_n d_MOD_send_159 rfl rfl ?_
      refine L_gr d_MOD_send_160 f_MOD_49 rfl (by decide) rfl rfl ?_
      refine E_iload d_MOD_send_163 rfl ?_
      refine L_ld (j := 2) d_MOD_send_165 rfl rfl (by omega) (by decide) (fr_M 14 _) ?_
      refine E_tp (y := nI (c)) ((up2_ne2 _ _ _ _ (by decide)).trans hc) ?_
      refine E_iadd d_MOD_send_166 ?_
      refine E_tp (y := nI (16 + c)) (nI_add 16 c) ?_
      refine E_iload_n d_MOD_send_167 rfl ?_
      refine L_st (j := 16 + c) d_MOD_send_168 rfl rfl (by omega) (by decide) (fu_M 13 _ _) ?_
      refine E_aload_n d_MOD_send_169 rfl rfl ?_
      refine L_gr d_MOD_send_170 f_MOD_49 rfl (by decide) rfl rfl ?_
      refine E_iload d_MOD_send_173 rfl ?_
      refine E_dup2 d_MOD_send_175 rfl rfl ?_
      refine L_ld (j := 2) d_MOD_send_176 rfl rfl (by omega) (by decide) (fr_M 14 _) ?_
      refine E_tp (y := nI (c)) ((up2_ne2 _ _ _ _ (by decide)).trans ((up2_ne2 _ _ _ _ (by decide)).trans hc)) ?_
      refine E_iconst (v := 1) d_MOD_send_177 (by decide) ?_
      refine E_iadd d_MOD_send_178 ?_
      refine E_tp (y := nI (c + 1)) (nI_add c 1) ?_
      refine L_st (j := 2) d_MOD_send_179 rfl rfl (by omega) (by decide) (fu_M 14 _ _) ?_
      exact E_return d_MOD_send_180 rfl rfl ⟨rfl, by rw [sndP, show nI (1 + 2 * 2) = 5 from rfl, if_pos hh, if_neg c9, ← hb]; rfl⟩
    · have c9 : c = 8 := (nI_eq (b := 8) (by omega) (by decide)).mp c91
      refine E_aload_n d_MOD_send_94 rfl rfl ?_
      refine E_iconst (v := 3) d_MOD_send_95 (by decide) ?_
      refine E_V1v d_MOD_send_96 w_MOD_218 rfl (by decide) (Nat.le_of_ble_eq_true rfl) (c_MOD_block hp hp8) ?_
      rintro _ rfl
      exact E_return d_MOD_send_99 rfl rfl ⟨rfl, by rw [sndP, show nI (1 + 2 * 2) = 5 from rfl, if_pos hh, if_pos c9]⟩
theorem c_send_8 {G : iG} {F : Nat} {C M : Nat → Nat → Int32} {p : Nat} (hp : M 0 24 = nI p) (hp8 : p ≤ 8) {c : Nat} (hc : M 14 3 = nI c) (hc8 : c ≤ 8) : MV G m_MOD_send 1 [vR 50, vI 8] (HW F C M) (fun h' => h' = HW F C (sndP M p 3 c)) := by
  refine Mt.of' (Ls := [some (vR 50), some (vI 8), none, none, none]) (by decide) (by simp [ct]) (Nat.le_of_ble_eq_true rfl) rfl ?_
  obtain ⟨b, hb⟩ : ∃ b, b = M 9 (32 * p + 11) &&& 255 := ⟨_, rfl⟩
  refine E_aload_n d_MOD_send_0 rfl rfl ?_
  refine E_bipush (v := 11) d_MOD_send_1 (by decide) ?_
  refine E_V1i d_MOD_send_3 w_MOD_113 rfl (by decide) (Nat.le_of_ble_eq_true rfl) (c_MOD_get hp hp8 (by decide)) ?_
  rintro _ _ ⟨rfl, rfl⟩
  refine E_sipush (v := 255) d_MOD_send_6 (by decide) ?_
  refine E_iand d_MOD_send_9 ?_
  refine E_tp (y := b) hb.symm ?_
  refine E_istore_n d_MOD_send_10 (by decide) ?_
  refine E_iload_n d_MOD_send_11 rfl ?_
  refine E_if_ne (tgt := 33) d_MOD_send_12 (by decide) (fun _ => ?_) (fun c => absurd c (by decide))
  refine E_iload_n d_MOD_send_33 rfl ?_
  refine E_if_le (tgt := 57) d_MOD_send_34 (by decide) (fun c => absurd c (by decide)) (fun _ => ?_)
  refine E_iload_n d_MOD_send_37 rfl ?_
  refine E_iconst (v := 2) d_MOD_send_38 (by decide) ?_
  refine E_irem d_MOD_send_39 (by decide) ?_
  refine E_tp (y := 0) (by decide) ?_
  refine E_if_ne (tgt := 57) d_MOD_send_40 (by decide) (fun c => absurd (by decide) c) (fun _ => ?_)
  refine E_aload_n d_MOD_send_43 rfl rfl ?_
  refine E_iload_n d_MOD_send_44 rfl ?_
  refine E_iconst (v := 1) d_MOD_send_45 (by decide) ?_
  refine E_isub d_MOD_send_46 ?_
  refine E_tp (y := 7) (by decide) ?_
  refine E_V1i d_MOD_send_47 w_MOD_84 rfl (by decide) (Nat.le_of_ble_eq_true rfl) (c_MOD_isHeld) ?_
  rintro _ _ ⟨rfl, rfl⟩
  refine E_if_eq (tgt := 57) d_MOD_send_50 (by decide) (fun c50 => ?_) (fun c50 => ?_)
  · have hh := b2i_eq0 c50
    refine E_iconst (v := 0) d_MOD_send_57 (by decide) ?_
    refine E_istore_n d_MOD_send_58 (by decide) ?_
    refine E_iload_n d_MOD_send_59 rfl ?_
    refine E_if_le (tgt := 71) d_MOD_send_60 (by decide) (fun c => absurd c (by decide)) (fun _ => ?_)
    refine E_iload_n d_MOD_send_63 rfl ?_
    refine E_iconst (v := 1) d_MOD_send_64 (by decide) ?_
    refine E_isub d_MOD_send_65 ?_
    refine E_tp (y := 7) (by decide) ?_
    refine E_iconst (v := 2) d_MOD_send_66 (by decide) ?_
    refine E_idiv d_MOD_send_67 (by decide) ?_
    refine E_tp (y := 3) (by decide) ?_
    refine E_goto (tgt := 72) d_MOD_send_68 (by decide) ?_
    refine E_istore d_MOD_send_72 (by decide) ?_
    refine E_iload_n d_MOD_send_74 rfl ?_
    refine E_if_eq (tgt := 100) d_MOD_send_75 (by decide) (fun _ => ?_) (fun c => absurd (by decide) c)
    refine E_aload_n d_MOD_send_100 rfl rfl ?_
    refine E_bipush (v := 10) d_MOD_send_101 (by decide) ?_
    refine E_iload_n d_MOD_send_103 rfl ?_
    refine E_if_eq (tgt := 111) d_MOD_send_104 (by decide) (fun _ => ?_) (fun c => absurd (by decide) c)
    refine E_iconst (v := -1) d_MOD_send_111 (by decide) ?_
    refine E_V2v d_MOD_send_112 w_MOD_135 rfl (by decide) (Nat.le_of_ble_eq_true rfl) (c_MOD_set hp hp8 (by decide)) ?_
    rintro _ rfl
    refine E_iload_n d_MOD_send_115 rfl ?_
    refine E_if_eq (tgt := 146) d_MOD_send_116 (by decide) (fun _ => ?_) (fun c => absurd (by decide) c)
    refine E_iload_n d_MOD_send_146 rfl ?_
    refine E_if_eq (tgt := 180) d_MOD_send_147 (by decide) (fun _ => ?_) (fun c => absurd (by decide) c)
    exact E_return d_MOD_send_180 rfl rfl ⟨rfl, by rw [sndP, show nI (1 + 2 * 3) = 7 from rfl, if_neg (by rw [hh]; decide)]; rfl⟩
  · have hh := b2i_ne0 c50
    refine E_iconst (v := 1) d_MOD_send_53 (by decide) ?_
    refine E_goto (tgt := 58) d_MOD_send_54 (by decide) ?_
    refine E_istore_n d_MOD_send_58 (by decide) ?_
    refine E_iload_n d_MOD_send_59 rfl ?_
    refine E_if_le (tgt := 71) d_MOD_send_60 (by decide) (fun c => absurd c (by decide)) (fun _ => ?_)
    refine E_iload_n d_MOD_send_63 rfl ?_
    refine E_iconst (v := 1) d_MOD_send_64 (by decide) ?_
    refine E_isub d_MOD_send_65 ?_
    refine E_tp (y := 7) (by decide) ?_
    refine E_iconst (v := 2) d_MOD_send_66 (by decide) ?_
    refine E_idiv d_MOD_send_67 (by decide) ?_
    refine E_tp (y := 3) (by decide) ?_
    refine E_goto (tgt := 72) d_MOD_send_68 (by decide) ?_
    refine E_istore d_MOD_send_72 (by decide) ?_
    refine E_iload_n d_MOD_send_74 rfl ?_
    refine E_if_eq (tgt := 100) d_MOD_send_75 (by decide) (fun c => absurd c (by decide)) (fun _ => ?_)
    refine E_iload_n d_MOD_send_78 rfl ?_
    refine E_if_le (tgt := 100) d_MOD_send_79 (by decide) (fun c => absurd c (by decide)) (fun _ => ?_)
    refine E_aload_n d_MOD_send_82 rfl rfl ?_
    refine L_gr d_MOD_send_83 f_MOD_49 rfl (by decide) rfl rfl ?_
    refine E_iload d_MOD_send_86 rfl ?_
    refine L_ld (j := 3) d_MOD_send_88 rfl rfl (by omega) (by decide) (fr_M 14 _) ?_
    refine E_tp (y := nI (c)) hc ?_
    refine E_bipush (v := 8) d_MOD_send_89 (by decide) ?_
    refine E_icmp_ne (tgt := 100) d_MOD_send_91 (by decide) (fun c91 => ?_) (fun c91 => ?_)
    · have c9 : c ≠ 8 := fun q => c91 (by rw [q]; rfl)
      refine E_aload_n d_MOD_send_100 rfl rfl ?_
      refine E_bipush (v := 10) d_MOD_send_101 (by decide) ?_
      refine E_iload_n d_MOD_send_103 rfl ?_
      refine E_if_eq (tgt := 111) d_MOD_send_104 (by decide) (fun c => absurd c (by decide)) (fun _ => ?_)
      refine E_iload_n d_MOD_send_107 rfl ?_
      refine E_goto (tgt := 112) d_MOD_send_108 (by decide) ?_
      refine E_V2v d_MOD_send_112 w_MOD_135 rfl (by decide) (Nat.le_of_ble_eq_true rfl) (c_MOD_set hp hp8 (by decide)) ?_
      rintro _ rfl
      refine E_iload_n d_MOD_send_115 rfl ?_
      refine E_if_eq (tgt := 146) d_MOD_send_116 (by decide) (fun c => absurd c (by decide)) (fun _ => ?_)
      refine E_iload_n d_MOD_send_119 rfl ?_
      refine E_if_ne (tgt := 146) d_MOD_send_120 (by decide) (fun _ => ?_) (fun c => absurd c (by decide))
      refine E_iload_n d_MOD_send_146 rfl ?_
      refine E_if_eq (tgt := 180) d_MOD_send_147 (by decide) (fun c => absurd c (by decide)) (fun _ => ?_)
      refine E_aload_n d_MOD_send_150 rfl rfl ?_
      refine L_gr d_MOD_send_151 f_MOD_46 rfl (by decide) rfl rfl ?_
      refine E_bipush (v := 8) d_MOD_send_154 (by decide) ?_
      refine E_iload d_MOD_send_156 rfl ?_
      refine E_imul d_MOD_send_158 ?_
      refine E_tp (y := nI (24)) (pk_mul 8 3) ?_
      refine E_aload_n d_MOD_send_159 rfl rfl ?_
      refine L_gr d_MOD_send_160 f_MOD_49 rfl (by decide) rfl rfl ?_
      refine E_iload d_MOD_send_163 rfl ?_
      refine L_ld (j := 3) d_MOD_send_165 rfl rfl (by omega) (by decide) (fr_M 14 _) ?_
      refine E_tp (y := nI (c)) ((up2_ne2 _ _ _ _ (by decide)).trans hc) ?_
      refine E_iadd d_MOD_send_166 ?_
      refine E_tp (y := nI (24 + c)) (nI_add 24 c) ?_
      refine E_iload_n d_MOD_send_167 rfl ?_
      refine L_st (j := 24 + c) d_MOD_send_168 rfl rfl (by omega) (by decide) (fu_M 13 _ _) ?_
      refine E_aload_n d_MOD_send_169 rfl rfl ?_
      refine L_gr d_MOD_send_170 f_MOD_49 rfl (by decide) rfl rfl ?_
      refine E_iload d_MOD_send_173 rfl ?_
      refine E_dup2 d_MOD_send_175 rfl rfl ?_
      refine L_ld (j := 3) d_MOD_send_176 rfl rfl (by omega) (by decide) (fr_M 14 _) ?_
      refine E_tp (y := nI (c)) ((up2_ne2 _ _ _ _ (by decide)).trans ((up2_ne2 _ _ _ _ (by decide)).trans hc)) ?_
      refine E_iconst (v := 1) d_MOD_send_177 (by decide) ?_
      refine E_iadd d_MOD_send_178 ?_
      refine E_tp (y := nI (c + 1)) (nI_add c 1) ?_
      refine L_st (j := 3) d_MOD_send_179 rfl rfl (by omega) (by decide) (fu_M 14 _ _) ?_
      exact E_return d_MOD_send_180 rfl rfl ⟨rfl, by rw [sndP, show nI (1 + 2 * 3) = 7 from rfl, if_pos hh, if_neg c9, ← hb]; rfl⟩
    · have c9 : c = 8 := (nI_eq (b := 8) (by omega) (by decide)).mp c91
      refine E_aload_n d_MOD_send_94 rfl rfl ?_
      refine E_iconst (v := 3) d_MOD_send_95 (by decide) ?_
      refine E_V1v d_MOD_send_96 w_MOD_218 rfl (by decide) (Nat.le_of_ble_eq_true rfl) (c_MOD_block hp hp8) ?_
      rintro _ rfl
      exact E_return d_MOD_send_99 rfl rfl ⟨rfl, by rw [sndP, show nI (1 + 2 * 3) = 7 from rfl, if_pos hh, if_pos c9]⟩
theorem c_take_m1 {G : iG} {F : Nat} {C M : Nat → Nat → Int32} {p : Nat} (hp : M 0 24 = nI p) (hp8 : p ≤ 8) : MV G m_MOD_take 1 [vR 50, vI (-1)] (HW F C M) (fun h' => h' = HW F C (refM M p)) := by
  refine Mt.of' (Ls := [some (vR 50), some (vI (-1)), none, none]) (by decide) (by simp [ct]) (Nat.le_of_ble_eq_true rfl) rfl ?_
  refine E_iload_n d_MOD_take_0 rfl ?_
  refine E_iconst (v := 1) d_MOD_take_1 (by decide) ?_
  refine E_icmp_lt (tgt := 11) d_MOD_take_2 (by decide) (fun _ => ?_) (fun c => absurd (by decide) c)
  refine E_aload_n d_MOD_take_11 rfl rfl ?_
  refine E_bipush (v := 10) d_MOD_take_12 (by decide) ?_
  refine E_iconst (v := -1) d_MOD_take_14 (by decide) ?_
  refine E_V2v d_MOD_take_15 w_MOD_135 rfl (by decide) (Nat.le_of_ble_eq_true rfl) (c_MOD_set hp hp8 (by decide)) ?_
  rintro _ rfl
  exact E_return d_MOD_take_18 rfl rfl ⟨rfl, rfl⟩
theorem c_take_0 {G : iG} {F : Nat} {C M : Nat → Nat → Int32} {p : Nat} (hp : M 0 24 = nI p) (hp8 : p ≤ 8) : MV G m_MOD_take 1 [vR 50, vI (0)] (HW F C M) (fun h' => h' = HW F C (refM M p)) := by
  refine Mt.of' (Ls := [some (vR 50), some (vI (0)), none, none]) (by decide) (by simp [ct]) (Nat.le_of_ble_eq_true rfl) rfl ?_
  refine E_iload_n d_MOD_take_0 rfl ?_
  refine E_iconst (v := 1) d_MOD_take_1 (by decide) ?_
  refine E_icmp_lt (tgt := 11) d_MOD_take_2 (by decide) (fun _ => ?_) (fun c => absurd (by decide) c)
  refine E_aload_n d_MOD_take_11 rfl rfl ?_
  refine E_bipush (v := 10) d_MOD_take_12 (by decide) ?_
  refine E_iconst (v := -1) d_MOD_take_14 (by decide) ?_
  refine E_V2v d_MOD_take_15 w_MOD_135 rfl (by decide) (Nat.le_of_ble_eq_true rfl) (c_MOD_set hp hp8 (by decide)) ?_
  rintro _ rfl
  exact E_return d_MOD_take_18 rfl rfl ⟨rfl, rfl⟩
theorem c_take_2 {G : iG} {F : Nat} {C M : Nat → Nat → Int32} {p : Nat} (hp : M 0 24 = nI p) (hp8 : p ≤ 8) : MV G m_MOD_take 1 [vR 50, vI (2)] (HW F C M) (fun h' => h' = HW F C (refM M p)) := by
  refine Mt.of' (Ls := [some (vR 50), some (vI (2)), none, none]) (by decide) (by simp [ct]) (Nat.le_of_ble_eq_true rfl) rfl ?_
  refine E_iload_n d_MOD_take_0 rfl ?_
  refine E_iconst (v := 1) d_MOD_take_1 (by decide) ?_
  refine E_icmp_lt (tgt := 11) d_MOD_take_2 (by decide) (fun c => absurd c (by decide)) (fun _ => ?_)
  refine E_iload_n d_MOD_take_5 rfl ?_
  refine E_iconst (v := 2) d_MOD_take_6 (by decide) ?_
  refine E_irem d_MOD_take_7 (by decide) ?_
  refine E_tp (y := 0) (by decide) ?_
  refine E_if_ne (tgt := 19) d_MOD_take_8 (by decide) (fun c => absurd (by decide) c) (fun _ => ?_)
  refine E_aload_n d_MOD_take_11 rfl rfl ?_
  refine E_bipush (v := 10) d_MOD_take_12 (by decide) ?_
  refine E_iconst (v := -1) d_MOD_take_14 (by decide) ?_
  refine E_V2v d_MOD_take_15 w_MOD_135 rfl (by decide) (Nat.le_of_ble_eq_true rfl) (c_MOD_set hp hp8 (by decide)) ?_
  rintro _ rfl
  exact E_return d_MOD_take_18 rfl rfl ⟨rfl, rfl⟩
theorem c_take_4 {G : iG} {F : Nat} {C M : Nat → Nat → Int32} {p : Nat} (hp : M 0 24 = nI p) (hp8 : p ≤ 8) : MV G m_MOD_take 1 [vR 50, vI (4)] (HW F C M) (fun h' => h' = HW F C (refM M p)) := by
  refine Mt.of' (Ls := [some (vR 50), some (vI (4)), none, none]) (by decide) (by simp [ct]) (Nat.le_of_ble_eq_true rfl) rfl ?_
  refine E_iload_n d_MOD_take_0 rfl ?_
  refine E_iconst (v := 1) d_MOD_take_1 (by decide) ?_
  refine E_icmp_lt (tgt := 11) d_MOD_take_2 (by decide) (fun c => absurd c (by decide)) (fun _ => ?_)
  refine E_iload_n d_MOD_take_5 rfl ?_
  refine E_iconst (v := 2) d_MOD_take_6 (by decide) ?_
  refine E_irem d_MOD_take_7 (by decide) ?_
  refine E_tp (y := 0) (by decide) ?_
  refine E_if_ne (tgt := 19) d_MOD_take_8 (by decide) (fun c => absurd (by decide) c) (fun _ => ?_)
  refine E_aload_n d_MOD_take_11 rfl rfl ?_
  refine E_bipush (v := 10) d_MOD_take_12 (by decide) ?_
  refine E_iconst (v := -1) d_MOD_take_14 (by decide) ?_
  refine E_V2v d_MOD_take_15 w_MOD_135 rfl (by decide) (Nat.le_of_ble_eq_true rfl) (c_MOD_set hp hp8 (by decide)) ?_
  rintro _ rfl
  exact E_return d_MOD_take_18 rfl rfl ⟨rfl, rfl⟩
theorem c_take_6 {G : iG} {F : Nat} {C M : Nat → Nat → Int32} {p : Nat} (hp : M 0 24 = nI p) (hp8 : p ≤ 8) : MV G m_MOD_take 1 [vR 50, vI (6)] (HW F C M) (fun h' => h' = HW F C (refM M p)) := by
  refine Mt.of' (Ls := [some (vR 50), some (vI (6)), none, none]) (by decide) (by simp [ct]) (Nat.le_of_ble_eq_true rfl) rfl ?_
  refine E_iload_n d_MOD_take_0 rfl ?_
  refine E_iconst (v := 1) d_MOD_take_1 (by decide) ?_
  refine E_icmp_lt (tgt := 11) d_MOD_take_2 (by decide) (fun c => absurd c (by decide)) (fun _ => ?_)
  refine E_iload_n d_MOD_take_5 rfl ?_
  refine E_iconst (v := 2) d_MOD_take_6 (by decide) ?_
  refine E_irem d_MOD_take_7 (by decide) ?_
  refine E_tp (y := 0) (by decide) ?_
  refine E_if_ne (tgt := 19) d_MOD_take_8 (by decide) (fun c => absurd (by decide) c) (fun _ => ?_)
  refine E_aload_n d_MOD_take_11 rfl rfl ?_
  refine E_bipush (v := 10) d_MOD_take_12 (by decide) ?_
  refine E_iconst (v := -1) d_MOD_take_14 (by decide) ?_
  refine E_V2v d_MOD_take_15 w_MOD_135 rfl (by decide) (Nat.le_of_ble_eq_true rfl) (c_MOD_set hp hp8 (by decide)) ?_
  rintro _ rfl
  exact E_return d_MOD_take_18 rfl rfl ⟨rfl, rfl⟩
theorem c_take_8 {G : iG} {F : Nat} {C M : Nat → Nat → Int32} {p : Nat} (hp : M 0 24 = nI p) (hp8 : p ≤ 8) : MV G m_MOD_take 1 [vR 50, vI (8)] (HW F C M) (fun h' => h' = HW F C (refM M p)) := by
  refine Mt.of' (Ls := [some (vR 50), some (vI (8)), none, none]) (by decide) (by simp [ct]) (Nat.le_of_ble_eq_true rfl) rfl ?_
  refine E_iload_n d_MOD_take_0 rfl ?_
  refine E_iconst (v := 1) d_MOD_take_1 (by decide) ?_
  refine E_icmp_lt (tgt := 11) d_MOD_take_2 (by decide) (fun c => absurd c (by decide)) (fun _ => ?_)
  refine E_iload_n d_MOD_take_5 rfl ?_
  refine E_iconst (v := 2) d_MOD_take_6 (by decide) ?_
  refine E_irem d_MOD_take_7 (by decide) ?_
  refine E_tp (y := 0) (by decide) ?_
  refine E_if_ne (tgt := 19) d_MOD_take_8 (by decide) (fun c => absurd (by decide) c) (fun _ => ?_)
  refine E_aload_n d_MOD_take_11 rfl rfl ?_
  refine E_bipush (v := 10) d_MOD_take_12 (by decide) ?_
  refine E_iconst (v := -1) d_MOD_take_14 (by decide) ?_
  refine E_V2v d_MOD_take_15 w_MOD_135 rfl (by decide) (Nat.le_of_ble_eq_true rfl) (c_MOD_set hp hp8 (by decide)) ?_
  rintro _ rfl
  exact E_return d_MOD_take_18 rfl rfl ⟨rfl, rfl⟩
theorem lp_MOD_take {G : iG} {F : Nat} {C M : Nat → Nat → Int32} {Q : Option iV → iH → Prop} {x1 : iV} {k : Nat} (hk : k < 4) (K : Ev G m_MOD_take 1 0 0 111 [some (vR 50), some x1, some (vI (nI k)), some (vI (nI 7))] [] (HW F C (upr M 13 (8 * k) 7 (fun j => M 13 (8 * k + j + 1)))) Q) : ∀ (n j : Nat), j + n = 7 → Ev G m_MOD_take 1 0 0 75 [some (vR 50), some x1, some (vI (nI k)), some (vI (nI j))] [] (HW F C (upr M 13 (8 * k) j (fun j => M 13 (8 * k + j + 1)))) Q := by
  intro n
  induction n with
  | zero =>
    intro j hj
    have e : j = 7 := by omega
    subst e
    refine E_iload_n d_MOD_take_75 rfl ?_
    refine E_bipush (v := 7) d_MOD_take_76 (by decide) ?_
    refine E_icmp_ge (tgt := 111) d_MOD_take_78 (by decide) (fun _ => ?_) (fun c => absurd (by decide) c)
    exact K
  | succ n ih =>
    intro j hj
    refine E_iload_n d_MOD_take_75 rfl ?_
    refine E_bipush (v := 7) d_MOD_take_76 (by decide) ?_
    refine E_icmp_ge (tgt := 111) d_MOD_take_78 (by decide) (fun c => absurd c (nI_ge (b := 7) (by omega) (by decide))) (fun _ => ?_)
    refine E_aload_n d_MOD_take_81 rfl rfl ?_
    refine L_gr d_MOD_take_82 f_MOD_46 rfl (by decide) rfl rfl ?_
    refine E_bipush (v := 8) d_MOD_take_85 (by decide) ?_
    refine E_iload_n d_MOD_take_87 rfl ?_
    refine E_imul d_MOD_take_88 ?_
    refine E_tp (y := nI (8 * k)) (pk_mul 8 k) ?_
    refine E_iload_n d_MOD_take_89 rfl ?_
    refine E_iadd d_MOD_take_90 ?_
    refine E_tp (y := nI (8 * k + j)) (nI_add (8 * k) j) ?_
    refine E_aload_n d_MOD_take_91 rfl rfl ?_
    refine L_gr d_MOD_take_92 f_MOD_46 rfl (by decide) rfl rfl ?_
    refine E_bipush (v := 8) d_MOD_take_95 (by decide) ?_
    refine E_iload_n d_MOD_take_97 rfl ?_
    refine E_imul d_MOD_take_98 ?_
    refine E_tp (y := nI (8 * k)) (pk_mul 8 k) ?_
    refine E_iload_n d_MOD_take_99 rfl ?_
    refine E_iadd d_MOD_take_100 ?_
    refine E_tp (y := nI (8 * k + j)) (nI_add (8 * k) j) ?_
    refine E_iconst (v := 1) d_MOD_take_101 (by decide) ?_
    refine E_iadd d_MOD_take_102 ?_
    refine E_tp (y := nI (8 * k + j + 1)) (nI_add (8 * k + j) 1) ?_
    refine L_ld (j := 8 * k + j + 1) d_MOD_take_103 rfl rfl (by omega) (by decide) (fr_M 13 _) ?_
    refine E_tp (y := M 13 (8 * k + j + 1)) (by simp only [upr]; rw [if_neg (by omega)]) ?_
    refine L_st (j := 8 * k + j) d_MOD_take_104 rfl rfl (by omega) (by decide) (fu_M 13 _ _) ?_
    refine E_iinc (v := nI (j + 1)) d_MOD_take_105 rfl (nI_1 _) (by decide) ?_
    refine E_goto (tgt := 75) d_MOD_take_108 (by decide) ?_
    rw [upr_succ _ 13 (8 * k) j (fun j => M 13 (8 * k + j + 1))]
    exact ih (j + 1) (by omega)
theorem c_take_1 {G : iG} {F : Nat} {C M : Nat → Nat → Int32} {p : Nat} (hp : M 0 24 = nI p) (hp8 : p ≤ 8) {c : Nat} (hc : M 14 0 = nI c) (hc8 : c ≤ 8) : MV G m_MOD_take 1 [vR 50, vI 1] (HW F C M) (fun h' => h' = HW F C (takP M p 0 c)) := by
  refine Mt.of' (Ls := [some (vR 50), some (vI 1), none, none]) (by decide) (by simp [ct]) (Nat.le_of_ble_eq_true rfl) rfl ?_
  refine E_iload_n d_MOD_take_0 rfl ?_
  refine E_iconst (v := 1) d_MOD_take_1 (by decide) ?_
  refine E_icmp_lt (tgt := 11) d_MOD_take_2 (by decide) (fun c => absurd c (by decide)) (fun _ => ?_)
  refine E_iload_n d_MOD_take_5 rfl ?_
  refine E_iconst (v := 2) d_MOD_take_6 (by decide) ?_
  refine E_irem d_MOD_take_7 (by decide) ?_
  refine E_tp (y := 1) (by decide) ?_
  refine E_if_ne (tgt := 19) d_MOD_take_8 (by decide) (fun _ => ?_) (fun c => absurd c (by decide))
  refine E_iload_n d_MOD_take_19 rfl ?_
  refine E_iconst (v := 2) d_MOD_take_20 (by decide) ?_
  refine E_idiv d_MOD_take_21 (by decide) ?_
  refine E_tp (y := 0) (by decide) ?_
  refine E_istore_n d_MOD_take_22 (by decide) ?_
  refine E_aload_n d_MOD_take_23 rfl rfl ?_
  refine L_gr d_MOD_take_24 f_MOD_49 rfl (by decide) rfl rfl ?_
  refine E_iload_n d_MOD_take_27 rfl ?_
  refine L_ld (j := 0) d_MOD_take_28 rfl rfl (by omega) (by decide) (fr_M 14 _) ?_
  refine E_tp (y := nI (c)) hc ?_
  refine E_if_ne (tgt := 58) d_MOD_take_29 (by decide) (fun c29 => ?_) (fun c29 => ?_)
  · have c9 : ¬ c = 0 := fun q => c29 (by rw [q]; rfl)
    refine E_aload_n d_MOD_take_58 rfl rfl ?_
    refine E_bipush (v := 10) d_MOD_take_59 (by decide) ?_
    refine E_aload_n d_MOD_take_61 rfl rfl ?_
    refine L_gr d_MOD_take_62 f_MOD_46 rfl (by decide) rfl rfl ?_
    refine E_bipush (v := 8) d_MOD_take_65 (by decide) ?_
    refine E_iload_n d_MOD_take_67 rfl ?_
    refine E_imul d_MOD_take_68 ?_
    refine E_tp (y := nI (0)) (pk_mul 8 0) ?_
    refine L_ld (j := 0) d_MOD_take_69 rfl rfl (by omega) (by decide) (fr_M 13 _) ?_
    refine E_V2v d_MOD_take_70 w_MOD_135 rfl (by decide) (Nat.le_of_ble_eq_true rfl) (c_MOD_set hp hp8 (by decide)) ?_
    rintro _ rfl
    refine E_iconst (v := 0) d_MOD_take_73 (by decide) ?_
    refine E_istore_n d_MOD_take_74 (by decide) ?_
    rw [← upr_zero (up2 M 9 (32 * p + 10) _) 13 (8 * 0) (fun j => (up2 M 9 (32 * p + 10) (M 13 (8 * 0))) 13 (8 * 0 + j + 1))]
    refine lp_MOD_take (k := 0) (by decide) ?_ 7 0 rfl
    refine E_aload_n d_MOD_take_111 rfl rfl ?_
    refine L_gr d_MOD_take_112 f_MOD_49 rfl (by decide) rfl rfl ?_
    refine E_iload_n d_MOD_take_115 rfl ?_
    refine E_dup2 d_MOD_take_116 rfl rfl ?_
    refine L_ld (j := 0) d_MOD_take_117 rfl rfl (by omega) (by decide) (fr_M 14 _) ?_
    refine E_tp (y := nI (c)) (by rw [upr_ne _ _ _ _ _ (by decide), up2_ne2 _ _ _ _ (by decide)]; exact hc) ?_
    refine E_iconst (v := 1) d_MOD_take_118 (by decide) ?_
    refine E_isub d_MOD_take_119 ?_
    refine E_tp (y := nI (c - 1)) (pk_sub (b := 1) (by omega)) ?_
    refine L_st (j := 0) d_MOD_take_120 rfl rfl (by omega) (by decide) (fu_M 14 _ _) ?_
    exact E_return d_MOD_take_121 rfl rfl ⟨rfl, by rw [takP, if_neg c9]; rfl⟩
  · have c9 : c = 0 := (nI_eq (b := 0) (by omega) (by decide)).mp c29
    refine E_aload_n d_MOD_take_32 rfl rfl ?_
    refine E_iload_n d_MOD_take_33 rfl ?_
    refine E_iconst (v := 1) d_MOD_take_34 (by decide) ?_
    refine E_iadd d_MOD_take_35 ?_
    refine E_tp (y := nI (2)) (nI_add 1 1) ?_
    refine E_V1i d_MOD_take_36 w_MOD_84 rfl (by decide) (Nat.le_of_ble_eq_true rfl) (c_MOD_isHeld) ?_
    rintro _ _ ⟨rfl, rfl⟩
    refine E_if_eq (tgt := 50) d_MOD_take_39 (by decide) (fun c39 => ?_) (fun c39 => ?_)
    · have hh := b2i_eq0 c39
      refine E_aload_n d_MOD_take_50 rfl rfl ?_
      refine E_bipush (v := 10) d_MOD_take_51 (by decide) ?_
      refine E_iconst (v := -1) d_MOD_take_53 (by decide) ?_
      refine E_V2v d_MOD_take_54 w_MOD_135 rfl (by decide) (Nat.le_of_ble_eq_true rfl) (c_MOD_set hp hp8 (by decide)) ?_
      rintro _ rfl
      exact E_return d_MOD_take_57 rfl rfl ⟨rfl, by rw [takP, if_pos c9, show nI (2 + 2 * 0) = 2 from rfl, if_neg (by rw [show hel M 2 = false from hh]; decide)]; rfl⟩
    · have hh := b2i_ne0 c39
      refine E_aload_n d_MOD_take_42 rfl rfl ?_
      refine E_iconst (v := 2) d_MOD_take_43 (by decide) ?_
      refine E_V1v d_MOD_take_44 w_MOD_218 rfl (by decide) (Nat.le_of_ble_eq_true rfl) (c_MOD_block hp hp8) ?_
      rintro _ rfl
      refine E_goto (tgt := 57) d_MOD_take_47 (by decide) ?_
      exact E_return d_MOD_take_57 rfl rfl ⟨rfl, by rw [takP, if_pos c9, show nI (2 + 2 * 0) = 2 from rfl, if_pos (show hel M 2 = true from hh)]⟩
theorem c_take_3 {G : iG} {F : Nat} {C M : Nat → Nat → Int32} {p : Nat} (hp : M 0 24 = nI p) (hp8 : p ≤ 8) {c : Nat} (hc : M 14 1 = nI c) (hc8 : c ≤ 8) : MV G m_MOD_take 1 [vR 50, vI 3] (HW F C M) (fun h' => h' = HW F C (takP M p 1 c)) := by
  refine Mt.of' (Ls := [some (vR 50), some (vI 3), none, none]) (by decide) (by simp [ct]) (Nat.le_of_ble_eq_true rfl) rfl ?_
  refine E_iload_n d_MOD_take_0 rfl ?_
  refine E_iconst (v := 1) d_MOD_take_1 (by decide) ?_
  refine E_icmp_lt (tgt := 11) d_MOD_take_2 (by decide) (fun c => absurd c (by decide)) (fun _ => ?_)
  refine E_iload_n d_MOD_take_5 rfl ?_
  refine E_iconst (v := 2) d_MOD_take_6 (by decide) ?_
  refine E_irem d_MOD_take_7 (by decide) ?_
  refine E_tp (y := 1) (by decide) ?_
  refine E_if_ne (tgt := 19) d_MOD_take_8 (by decide) (fun _ => ?_) (fun c => absurd c (by decide))
  refine E_iload_n d_MOD_take_19 rfl ?_
  refine E_iconst (v := 2) d_MOD_take_20 (by decide) ?_
  refine E_idiv d_MOD_take_21 (by decide) ?_
  refine E_tp (y := 1) (by decide) ?_
  refine E_istore_n d_MOD_take_22 (by decide) ?_
  refine E_aload_n d_MOD_take_23 rfl rfl ?_
  refine L_gr d_MOD_take_24 f_MOD_49 rfl (by decide) rfl rfl ?_
  refine E_iload_n d_MOD_take_27 rfl ?_
  refine L_ld (j := 1) d_MOD_take_28 rfl rfl (by omega) (by decide) (fr_M 14 _) ?_
  refine E_tp (y := nI (c)) hc ?_
  refine E_if_ne (tgt := 58) d_MOD_take_29 (by decide) (fun c29 => ?_) (fun c29 => ?_)
  · have c9 : ¬ c = 0 := fun q => c29 (by rw [q]; rfl)
    refine E_aload_n d_MOD_take_58 rfl rfl ?_
    refine E_bipush (v := 10) d_MOD_take_59 (by decide) ?_
    refine E_aload_n d_MOD_take_61 rfl rfl ?_
    refine L_gr d_MOD_take_62 f_MOD_46 rfl (by decide) rfl rfl ?_
    refine E_bipush (v := 8) d_MOD_take_65 (by decide) ?_
    refine E_iload_n d_MOD_take_67 rfl ?_
    refine E_imul d_MOD_take_68 ?_
    refine E_tp (y := nI (8)) (pk_mul 8 1) ?_
    refine L_ld (j := 8) d_MOD_take_69 rfl rfl (by omega) (by decide) (fr_M 13 _) ?_
    refine E_V2v d_MOD_take_70 w_MOD_135 rfl (by decide) (Nat.le_of_ble_eq_true rfl) (c_MOD_set hp hp8 (by decide)) ?_
    rintro _ rfl
    refine E_iconst (v := 0) d_MOD_take_73 (by decide) ?_
    refine E_istore_n d_MOD_take_74 (by decide) ?_
    rw [← upr_zero (up2 M 9 (32 * p + 10) _) 13 (8 * 1) (fun j => (up2 M 9 (32 * p + 10) (M 13 (8 * 1))) 13 (8 * 1 + j + 1))]
    refine lp_MOD_take (k := 1) (by decide) ?_ 7 0 rfl
    refine E_aload_n d_MOD_take_111 rfl rfl ?_
    refine L_gr d_MOD_take_112 f_MOD_49 rfl (by decide) rfl rfl ?_
    refine E_iload_n d_MOD_take_115 rfl ?_
    refine E_dup2 d_MOD_take_116 rfl rfl ?_
    refine L_ld (j := 1) d_MOD_take_117 rfl rfl (by omega) (by decide) (fr_M 14 _) ?_
    refine E_tp (y := nI (c)) (by rw [upr_ne _ _ _ _ _ (by decide), up2_ne2 _ _ _ _ (by decide)]; exact hc) ?_
    refine E_iconst (v := 1) d_MOD_take_118 (by decide) ?_
    refine E_isub d_MOD_take_119 ?_
    refine E_tp (y := nI (c - 1)) (pk_sub (b := 1) (by omega)) ?_
    refine L_st (j := 1) d_MOD_take_120 rfl rfl (by omega) (by decide) (fu_M 14 _ _) ?_
    exact E_return d_MOD_take_121 rfl rfl ⟨rfl, by rw [takP, if_neg c9]; rfl⟩
  · have c9 : c = 0 := (nI_eq (b := 0) (by omega) (by decide)).mp c29
    refine E_aload_n d_MOD_take_32 rfl rfl ?_
    refine E_iload_n d_MOD_take_33 rfl ?_
    refine E_iconst (v := 1) d_MOD_take_34 (by decide) ?_
    refine E_iadd d_MOD_take_35 ?_
    refine E_tp (y := nI (4)) (nI_add 3 1) ?_
    refine E_V1i d_MOD_take_36 w_MOD_84 rfl (by decide) (Nat.le_of_ble_eq_true rfl) (c_MOD_isHeld) ?_
    rintro _ _ ⟨rfl, rfl⟩
    refine E_if_eq (tgt := 50) d_MOD_take_39 (by decide) (fun c39 => ?_) (fun c39 => ?_)
    · have hh := b2i_eq0 c39
      refine E_aload_n d_MOD_take_50 rfl rfl ?_
      refine E_bipush (v := 10) d_MOD_take_51 (by decide) ?_
      refine E_iconst (v := -1) d_MOD_take_53 (by decide) ?_
      refine E_V2v d_MOD_take_54 w_MOD_135 rfl (by decide) (Nat.le_of_ble_eq_true rfl) (c_MOD_set hp hp8 (by decide)) ?_
      rintro _ rfl
      exact E_return d_MOD_take_57 rfl rfl ⟨rfl, by rw [takP, if_pos c9, show nI (2 + 2 * 1) = 4 from rfl, if_neg (by rw [show hel M 4 = false from hh]; decide)]; rfl⟩
    · have hh := b2i_ne0 c39
      refine E_aload_n d_MOD_take_42 rfl rfl ?_
      refine E_iconst (v := 2) d_MOD_take_43 (by decide) ?_
      refine E_V1v d_MOD_take_44 w_MOD_218 rfl (by decide) (Nat.le_of_ble_eq_true rfl) (c_MOD_block hp hp8) ?_
      rintro _ rfl
      refine E_goto (tgt := 57) d_MOD_take_47 (by decide) ?_
      exact E_return d_MOD_take_57 rfl rfl ⟨rfl, by rw [takP, if_pos c9, show nI (2 + 2 * 1) = 4 from rfl, if_pos (show hel M 4 = true from hh)]⟩
theorem c_take_5 {G : iG} {F : Nat} {C M : Nat → Nat → Int32} {p : Nat} (hp : M 0 24 = nI p) (hp8 : p ≤ 8) {c : Nat} (hc : M 14 2 = nI c) (hc8 : c ≤ 8) : MV G m_MOD_take 1 [vR 50, vI 5] (HW F C M) (fun h' => h' = HW F C (takP M p 2 c)) := by
  refine Mt.of' (Ls := [some (vR 50), some (vI 5), none, none]) (by decide) (by simp [ct]) (Nat.le_of_ble_eq_true rfl) rfl ?_
  refine E_iload_n d_MOD_take_0 rfl ?_
  refine E_iconst (v := 1) d_MOD_take_1 (by decide) ?_
  refine E_icmp_lt (tgt := 11) d_MOD_take_2 (by decide) (fun c => absurd c (by decide)) (fun _ => ?_)
  refine E_iload_n d_MOD_take_5 rfl ?_
  refine E_iconst (v := 2) d_MOD_take_6 (by decide) ?_
  refine E_irem d_MOD_take_7 (by decide) ?_
  refine E_tp (y := 1) (by decide) ?_
  refine E_if_ne (tgt := 19) d_MOD_take_8 (by decide) (fun _ => ?_) (fun c => absurd c (by decide))
  refine E_iload_n d_MOD_take_19 rfl ?_
  refine E_iconst (v := 2) d_MOD_take_20 (by decide) ?_
  refine E_idiv d_MOD_take_21 (by decide) ?_
  refine E_tp (y := 2) (by decide) ?_
  refine E_istore_n d_MOD_take_22 (by decide) ?_
  refine E_aload_n d_MOD_take_23 rfl rfl ?_
  refine L_gr d_MOD_take_24 f_MOD_49 rfl (by decide) rfl rfl ?_
  refine E_iload_n d_MOD_take_27 rfl ?_
  refine L_ld (j := 2) d_MOD_take_28 rfl rfl (by omega) (by decide) (fr_M 14 _) ?_
  refine E_tp (y := nI (c)) hc ?_
  refine E_if_ne (tgt := 58) d_MOD_take_29 (by decide) (fun c29 => ?_) (fun c29 => ?_)
  · have c9 : ¬ c = 0 := fun q => c29 (by rw [q]; rfl)
    refine E_aload_n d_MOD_take_58 rfl rfl ?_
    refine E_bipush (v := 10) d_MOD_take_59 (by decide) ?_
    refine E_aload_n d_MOD_take_61 rfl rfl ?_
    refine L_gr d_MOD_take_62 f_MOD_46 rfl (by decide) rfl rfl ?_
    refine E_bipush (v := 8) d_MOD_take_65 (by decide) ?_
    refine E_iload_n d_MOD_take_67 rfl ?_
    refine E_imul d_MOD_take_68 ?_
    refine E_tp (y := nI (16)) (pk_mul 8 2) ?_
    refine L_ld (j := 16) d_MOD_take_69 rfl rfl (by omega) (by decide) (fr_M 13 _) ?_
    refine E_V2v d_MOD_take_70 w_MOD_135 rfl (by decide) (Nat.le_of_ble_eq_true rfl) (c_MOD_set hp hp8 (by decide)) ?_
    rintro _ rfl
    refine E_iconst (v := 0) d_MOD_take_73 (by decide) ?_
    refine E_istore_n d_MOD_take_74 (by decide) ?_
    rw [← upr_zero (up2 M 9 (32 * p + 10) _) 13 (8 * 2) (fun j => (up2 M 9 (32 * p + 10) (M 13 (8 * 2))) 13 (8 * 2 + j + 1))]
    refine lp_MOD_take (k := 2) (by decide) ?_ 7 0 rfl
    refine E_aload_n d_MOD_take_111 rfl rfl ?_
    refine L_gr d_MOD_take_112 f_MOD_49 rfl (by decide) rfl rfl ?_
    refine E_iload_n d_MOD_take_115 rfl ?_
    refine E_dup2 d_MOD_take_116 rfl rfl ?_
    refine L_ld (j := 2) d_MOD_take_117 rfl rfl (by omega) (by decide) (fr_M 14 _) ?_
    refine E_tp (y := nI (c)) (by rw [upr_ne _ _ _ _ _ (by decide), up2_ne2 _ _ _ _ (by decide)]; exact hc) ?_
    refine E_iconst (v := 1) d_MOD_take_118 (by decide) ?_
    refine E_isub d_MOD_take_119 ?_
    refine E_tp (y := nI (c - 1)) (pk_sub (b := 1) (by omega)) ?_
    refine L_st (j := 2) d_MOD_take_120 rfl rfl (by omega) (by decide) (fu_M 14 _ _) ?_
    exact E_return d_MOD_take_121 rfl rfl ⟨rfl, by rw [takP, if_neg c9]; rfl⟩
  · have c9 : c = 0 := (nI_eq (b := 0) (by omega) (by decide)).mp c29
    refine E_aload_n d_MOD_take_32 rfl rfl ?_
    refine E_iload_n d_MOD_take_33 rfl ?_
    refine E_iconst (v := 1) d_MOD_take_34 (by decide) ?_
    refine E_iadd d_MOD_take_35 ?_
    refine E_tp (y := nI (6)) (nI_add 5 1) ?_
    refine E_V1i d_MOD_take_36 w_MOD_84 rfl (by decide) (Nat.le_of_ble_eq_true rfl) (c_MOD_isHeld) ?_
    rintro _ _ ⟨rfl, rfl⟩
    refine E_if_eq (tgt := 50) d_MOD_take_39 (by decide) (fun c39 => ?_) (fun c39 => ?_)
    · have hh := b2i_eq0 c39
      refine E_aload_n d_MOD_take_50 rfl rfl ?_
      refine E_bipush (v := 10) d_MOD_take_51 (by decide) ?_
      refine E_iconst (v := -1) d_MOD_take_53 (by decide) ?_
      refine E_V2v d_MOD_take_54 w_MOD_135 rfl (by decide) (Nat.le_of_ble_eq_true rfl) (c_MOD_set hp hp8 (by decide)) ?_
      rintro _ rfl
      exact E_return d_MOD_take_57 rfl rfl ⟨rfl, by rw [takP, if_pos c9, show nI (2 + 2 * 2) = 6 from rfl, if_neg (by rw [show hel M 6 = false from hh]; decide)]; rfl⟩
    · have hh := b2i_ne0 c39
      refine E_aload_n d_MOD_take_42 rfl rfl ?_
      refine E_iconst (v := 2) d_MOD_take_43 (by decide) ?_
      refine E_V1v d_MOD_take_44 w_MOD_218 rfl (by decide) (Nat.le_of_ble_eq_true rfl) (c_MOD_block hp hp8) ?_
      rintro _ rfl
      refine E_goto (tgt := 57) d_MOD_take_47 (by decide) ?_
      exact E_return d_MOD_take_57 rfl rfl ⟨rfl, by rw [takP, if_pos c9, show nI (2 + 2 * 2) = 6 from rfl, if_pos (show hel M 6 = true from hh)]⟩
theorem c_take_7 {G : iG} {F : Nat} {C M : Nat → Nat → Int32} {p : Nat} (hp : M 0 24 = nI p) (hp8 : p ≤ 8) {c : Nat} (hc : M 14 3 = nI c) (hc8 : c ≤ 8) : MV G m_MOD_take 1 [vR 50, vI 7] (HW F C M) (fun h' => h' = HW F C (takP M p 3 c)) := by
  refine Mt.of' (Ls := [some (vR 50), some (vI 7), none, none]) (by decide) (by simp [ct]) (Nat.le_of_ble_eq_true rfl) rfl ?_
  refine E_iload_n d_MOD_take_0 rfl ?_
  refine E_iconst (v := 1) d_MOD_take_1 (by decide) ?_
  refine E_icmp_lt (tgt := 11) d_MOD_take_2 (by decide) (fun c => absurd c (by decide)) (fun _ => ?_)
  refine E_iload_n d_MOD_take_5 rfl ?_
  refine E_iconst (v := 2) d_MOD_take_6 (by decide) ?_
  refine E_irem d_MOD_take_7 (by decide) ?_
  refine E_tp (y := 1) (by decide) ?_
  refine E_if_ne (tgt := 19) d_MOD_take_8 (by decide) (fun _ => ?_) (fun c => absurd c (by decide))
  refine E_iload_n d_MOD_take_19 rfl ?_
  refine E_iconst (v := 2) d_MOD_take_20 (by decide) ?_
  refine E_idiv d_MOD_take_21 (by decide) ?_
  refine E_tp (y := 3) (by decide) ?_
  refine E_istore_n d_MOD_take_22 (by decide) ?_
  refine E_aload_n d_MOD_take_23 rfl rfl ?_
  refine L_gr d_MOD_take_24 f_MOD_49 rfl (by decide) rfl rfl ?_
  refine E_iload_n d_MOD_take_27 rfl ?_
  refine L_ld (j := 3) d_MOD_take_28 rfl rfl (by omega) (by decide) (fr_M 14 _) ?_
  refine E_tp (y := nI (c)) hc ?_
  refine E_if_ne (tgt := 58) d_MOD_take_29 (by decide) (fun c29 => ?_) (fun c29 => ?_)
  · have c9 : ¬ c = 0 := fun q => c29 (by rw [q]; rfl)
    refine E_aload_n d_MOD_take_58 rfl rfl ?_
    refine E_bipush (v := 10) d_MOD_take_59 (by decide) ?_
    refine E_aload_n d_MOD_take_61 rfl rfl ?_
    refine L_gr d_MOD_take_62 f_MOD_46 rfl (by decide) rfl rfl ?_
    refine E_bipush (v := 8) d_MOD_take_65 (by decide) ?_
    refine E_iload_n d_MOD_take_67 rfl ?_
    refine E_imul d_MOD_take_68 ?_
    refine E_tp (y := nI (24)) (pk_mul 8 3) ?_
    refine L_ld (j := 24) d_MOD_take_69 rfl rfl (by omega) (by decide) (fr_M 13 _) ?_
    refine E_V2v d_MOD_take_70 w_MOD_135 rfl (by decide) (Nat.le_of_ble_eq_true rfl) (c_MOD_set hp hp8 (by decide)) ?_
    rintro _ rfl
    refine E_iconst (v := 0) d_MOD_take_73 (by decide) ?_
    refine E_istore_n d_MOD_take_74 (by decide) ?_
    rw [← upr_zero (up2 M 9 (32 * p + 10) _) 13 (8 * 3) (fun j => (up2 M 9 (32 * p + 10) (M 13 (8 * 3))) 13 (8 * 3 + j + 1))]
    refine lp_MOD_take (k := 3) (by decide) ?_ 7 0 rfl
    refine E_aload_n d_MOD_take_111 rfl rfl ?_
    refine L_gr d_MOD_take_112 f_MOD_49 rfl (by decide) rfl rfl ?_
    refine E_iload_n d_MOD_take_115 rfl ?_
    refine E_dup2 d_MOD_take_116 rfl rfl ?_
    refine L_ld (j := 3) d_MOD_take_117 rfl rfl (by omega) (by decide) (fr_M 14 _) ?_
    refine E_tp (y := nI (c)) (by rw [upr_ne _ _ _ _ _ (by decide), up2_ne2 _ _ _ _ (by decide)]; exact hc) ?_
    refine E_iconst (v := 1) d_MOD_take_118 (by decide) ?_
    refine E_isub d_MOD_take_119 ?_
    refine E_tp (y := nI (c - 1)) (pk_sub (b := 1) (by omega)) ?_
    refine L_st (j := 3) d_MOD_take_120 rfl rfl (by omega) (by decide) (fu_M 14 _ _) ?_
    exact E_return d_MOD_take_121 rfl rfl ⟨rfl, by rw [takP, if_neg c9]; rfl⟩
  · have c9 : c = 0 := (nI_eq (b := 0) (by omega) (by decide)).mp c29
    refine E_aload_n d_MOD_take_32 rfl rfl ?_
    refine E_iload_n d_MOD_take_33 rfl ?_
    refine E_iconst (v := 1) d_MOD_take_34 (by decide) ?_
    refine E_iadd d_MOD_take_35 ?_
    refine E_tp (y := nI (8)) (nI_add 7 1) ?_
    refine E_V1i d_MOD_take_36 w_MOD_84 rfl (by decide) (Nat.le_of_ble_eq_true rfl) (c_MOD_isHeld) ?_
    rintro _ _ ⟨rfl, rfl⟩
    refine E_if_eq (tgt := 50) d_MOD_take_39 (by decide) (fun c39 => ?_) (fun c39 => ?_)
    · have hh := b2i_eq0 c39
      refine E_aload_n d_MOD_take_50 rfl rfl ?_
      refine E_bipush (v := 10) d_MOD_take_51 (by decide) ?_
      refine E_iconst (v := -1) d_MOD_take_53 (by decide) ?_
      refine E_V2v d_MOD_take_54 w_MOD_135 rfl (by decide) (Nat.le_of_ble_eq_true rfl) (c_MOD_set hp hp8 (by decide)) ?_
      rintro _ rfl
      exact E_return d_MOD_take_57 rfl rfl ⟨rfl, by rw [takP, if_pos c9, show nI (2 + 2 * 3) = 8 from rfl, if_neg (by rw [show hel M 8 = false from hh]; decide)]; rfl⟩
    · have hh := b2i_ne0 c39
      refine E_aload_n d_MOD_take_42 rfl rfl ?_
      refine E_iconst (v := 2) d_MOD_take_43 (by decide) ?_
      refine E_V1v d_MOD_take_44 w_MOD_218 rfl (by decide) (Nat.le_of_ble_eq_true rfl) (c_MOD_block hp hp8) ?_
      rintro _ rfl
      refine E_goto (tgt := 57) d_MOD_take_47 (by decide) ?_
      exact E_return d_MOD_take_57 rfl rfl ⟨rfl, by rw [takP, if_pos c9, show nI (2 + 2 * 3) = 8 from rfl, if_pos (show hel M 8 = true from hh)]⟩

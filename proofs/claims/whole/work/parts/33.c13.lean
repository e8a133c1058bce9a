/-! ===== the reference's step, boot, load, views ===== -/
theorem lp_MOD_step1 {G : iG} {F : Nat} {C M : Nat → Nat → Int32} {Q : Option iV → iH → Prop} {l3 : Option iV} (K : Ev G m_MOD_step 7 0 0 45 [some (vR 50), some (vI (b2i (livk M 8))), some (vI (nI 9)), l3] [] (HW F C M) Q) : ∀ (n k : Nat) (x : Int32), k + n = 8 → x = b2i (livk M k) → Ev G m_MOD_step 7 0 0 4 [some (vR 50), some (vI x), some (vI (nI (k + 1))), l3] [] (HW F C M) Q := by
  intro n
  induction n with
  | zero =>
    intro k x hk hx
    have e : k = 8 := by omega
    subst e
    subst hx
    refine E_iload_n d_MOD_step_4 rfl ?_
    refine E_bipush (v := 8) d_MOD_step_5 (by decide) ?_
    refine E_icmp_gt (tgt := 45) d_MOD_step_7 (by decide) (fun _ => ?_) (fun c => absurd (by decide) c)
    exact K
  | succ n ih =>
    intro k x hk hx
    have es : livk M (k + 1) = (livk M k || (decide (0 < M 4 (k + 1)) && !decide (M 4 (k + 1) = 5))) := any_succ k _
    refine E_iload_n d_MOD_step_4 rfl ?_
    refine E_bipush (v := 8) d_MOD_step_5 (by decide) ?_
    refine E_icmp_gt (tgt := 45) d_MOD_step_7 (by decide) (fun c => absurd c (nI_nlt (a := 8) (b := k + 1) (by omega) (by decide))) (fun _ => ?_)
    refine E_iload_n d_MOD_step_10 rfl ?_
    refine E_if_ne (tgt := 33) d_MOD_step_11 (by decide) (fun c11 => ?_) (fun c11 => ?_)
    · refine E_iconst (v := 1) d_MOD_step_33 (by decide) ?_
      refine E_goto (tgt := 38) d_MOD_step_34 (by decide) ?_
      refine E_istore_n d_MOD_step_38 (by decide) ?_
      refine E_iinc (v := nI (k + 1 + 1)) d_MOD_step_39 rfl (nI_1 _) (by decide) ?_
      refine E_goto (tgt := 4) d_MOD_step_42 (by decide) ?_
      have hb : livk M k = true := b2i_ne0 (by rw [← hx]; exact c11)
      exact ih (k + 1) _ (by omega) (by rw [es, hb]; rfl)
    · refine E_aload_n d_MOD_step_14 rfl rfl ?_
      refine L_gr d_MOD_step_15 f_MOD_19 rfl (by decide) rfl rfl ?_
      refine E_iload_n d_MOD_step_18 rfl ?_
      refine L_ld (j := k + 1) d_MOD_step_19 rfl rfl (by omega) (by decide) (fr_M 4 _) ?_
      refine E_if_le (tgt := 37) d_MOD_step_20 (by decide) (fun c20 => ?_) (fun c20 => ?_)
      · refine E_iconst (v := 0) d_MOD_step_37 (by decide) ?_
        refine E_istore_n d_MOD_step_38 (by decide) ?_
        refine E_iinc (v := nI (k + 1 + 1)) d_MOD_step_39 rfl (nI_1 _) (by decide) ?_
        refine E_goto (tgt := 4) d_MOD_step_42 (by decide) ?_
        have hb : livk M k = false := b2i_eq0 (by rw [← hx]; exact c11)
        exact ih (k + 1) _ (by omega) (by rw [es, hb, decide_eq_false (Int32.not_lt.mpr c20)]; rfl)
      · refine E_aload_n d_MOD_step_23 rfl rfl ?_
        refine L_gr d_MOD_step_24 f_MOD_19 rfl (by decide) rfl rfl ?_
        refine E_iload_n d_MOD_step_27 rfl ?_
        refine L_ld (j := k + 1) d_MOD_step_28 rfl rfl (by omega) (by decide) (fr_M 4 _) ?_
        refine E_iconst (v := 5) d_MOD_step_29 (by decide) ?_
        refine E_icmp_eq (tgt := 37) d_MOD_step_30 (by decide) (fun c30 => ?_) (fun c30 => ?_)
        · refine E_iconst (v := 0) d_MOD_step_37 (by decide) ?_
          refine E_istore_n d_MOD_step_38 (by decide) ?_
          refine E_iinc (v := nI (k + 1 + 1)) d_MOD_step_39 rfl (nI_1 _) (by decide) ?_
          refine E_goto (tgt := 4) d_MOD_step_42 (by decide) ?_
          have hb : livk M k = false := b2i_eq0 (by rw [← hx]; exact c11)
          exact ih (k + 1) _ (by omega) (by rw [es, hb, decide_eq_true c30]; simp [b2i])
        · refine E_iconst (v := 1) d_MOD_step_33 (by decide) ?_
          refine E_goto (tgt := 38) d_MOD_step_34 (by decide) ?_
          refine E_istore_n d_MOD_step_38 (by decide) ?_
          refine E_iinc (v := nI (k + 1 + 1)) d_MOD_step_39 rfl (nI_1 _) (by decide) ?_
          refine E_goto (tgt := 4) d_MOD_step_42 (by decide) ?_
          have hb : livk M k = false := b2i_eq0 (by rw [← hx]; exact c11)
          exact ih (k + 1) _ (by omega) (by rw [es, hb, decide_eq_true (Int32.not_le.mp c20), decide_eq_false c30]; rfl)
theorem lp_MOD_step2 {G : iG} {F : Nat} {C M : Nat → Nat → Int32} {Q : Option iV → iH → Prop} {l1 l2 : Option iV} (hwk : ∀ k, k < 8 → wkok (wkl M k) (k + 1)) (K : Ev G m_MOD_step 7 0 0 210 [some (vR 50), l1, l2, some (vI (nI 9))] [] (HW F C (wkl M 8)) Q) : ∀ (n k : Nat), k + n = 8 → Ev G m_MOD_step 7 0 0 165 [some (vR 50), l1, l2, some (vI (nI (k + 1)))] [] (HW F C (wkl M k)) Q := by
  intro n
  induction n with
  | zero =>
    intro k hk
    have e : k = 8 := by omega
    subst e
    refine E_iload_n d_MOD_step_165 rfl ?_
    refine E_bipush (v := 8) d_MOD_step_166 (by decide) ?_
    refine E_icmp_gt (tgt := 210) d_MOD_step_168 (by decide) (fun _ => ?_) (fun c => absurd (by decide) c)
    exact K
  | succ n ih =>
    intro k hk
    obtain ⟨⟨mk, hmk, em⟩, w2, w3⟩ := hwk k (by omega)
    refine E_iload_n d_MOD_step_165 rfl ?_
    refine E_bipush (v := 8) d_MOD_step_166 (by decide) ?_
    refine E_icmp_gt (tgt := 210) d_MOD_step_168 (by decide) (fun c => absurd c (nI_nlt (a := 8) (b := k + 1) (by omega) (by decide))) (fun _ => ?_)
    refine E_aload_n d_MOD_step_171 rfl rfl ?_
    refine L_gr d_MOD_step_172 f_MOD_19 rfl (by decide) rfl rfl ?_
    refine E_iload_n d_MOD_step_175 rfl ?_
    refine L_ld (j := k + 1) d_MOD_step_176 rfl rfl (by omega) (by decide) (fr_M 4 _) ?_
    refine E_iconst (v := 1) d_MOD_step_177 (by decide) ?_
    refine E_icmp_le (tgt := 204) d_MOD_step_178 (by decide) (fun c178 => ?_) (fun c178 => ?_)
    · refine E_iinc (v := nI (k + 1 + 1)) d_MOD_step_204 rfl (nI_1 _) (by decide) ?_
      refine E_goto (tgt := 165) d_MOD_step_207 (by decide) ?_
      have e := ih (k + 1) (by omega)
      rw [wkl, if_neg (fun q => absurd q.1 (Int32.not_lt.mpr c178))] at e
      exact e
    · refine E_aload_n d_MOD_step_181 rfl rfl ?_
      refine L_gr d_MOD_step_182 f_MOD_19 rfl (by decide) rfl rfl ?_
      refine E_iload_n d_MOD_step_185 rfl ?_
      refine L_ld (j := k + 1) d_MOD_step_186 rfl rfl (by omega) (by decide) (fr_M 4 _) ?_
      refine E_iconst (v := 5) d_MOD_step_187 (by decide) ?_
      refine E_icmp_ge (tgt := 204) d_MOD_step_188 (by decide) (fun c188 => ?_) (fun c188 => ?_)
      · refine E_iinc (v := nI (k + 1 + 1)) d_MOD_step_204 rfl (nI_1 _) (by decide) ?_
        refine E_goto (tgt := 165) d_MOD_step_207 (by decide) ?_
        have e := ih (k + 1) (by omega)
        rw [wkl, if_neg (fun q => absurd q.2.1 (Int32.not_lt.mpr c188))] at e
        exact e
      · refine E_aload_n d_MOD_step_191 rfl rfl ?_
        refine E_iload_n d_MOD_step_192 rfl ?_
        refine E_V1i d_MOD_step_193 w_MOD_236 rfl (by decide) (Nat.le_of_ble_eq_true rfl) (c_MOD_mayGo (by omega) w2 w3) ?_
        rintro _ _ ⟨rfl, rfl⟩
        refine E_if_eq (tgt := 204) d_MOD_step_196 (by decide) (fun c196 => ?_) (fun c196 => ?_)
        · refine E_iinc (v := nI (k + 1 + 1)) d_MOD_step_204 rfl (nI_1 _) (by decide) ?_
          refine E_goto (tgt := 165) d_MOD_step_207 (by decide) ?_
          have e := ih (k + 1) (by omega)
          rw [wkl, if_neg (fun q => by rw [b2i_eq0 c196] at q; exact absurd q.2.2 (by decide))] at e
          exact e
        · refine E_aload_n d_MOD_step_199 rfl rfl ?_
          refine E_iload_n d_MOD_step_200 rfl ?_
          refine E_V1v d_MOD_step_201 w_MOD_73 rfl (by decide) (Nat.le_of_ble_eq_true rfl) (c_MOD_wake (by omega) em hmk) ?_
          rintro _ rfl
          refine E_iinc (v := nI (k + 1 + 1)) d_MOD_step_204 rfl (nI_1 _) (by decide) ?_
          refine E_goto (tgt := 165) d_MOD_step_207 (by decide) ?_
          have e := ih (k + 1) (by omega)
          rw [wkl, if_pos ⟨Int32.not_le.mp c178, Int32.not_le.mp c188, b2i_ne0 c196⟩, em, nv_nI (by omega)] at e
          exact e
theorem tl_MOD_step {G : iG} {F : Nat} {C M : Nat → Nat → Int32} {Q : Option iV → iH → Prop} {l1 l2 l3 : Option iV} {p m s fr : Nat} (hw : CW (up2 M 0 24 (M 0 17)) p m s fr) (h3 : ∃ m3, m3 < 9 ∧ insM (up2 M 0 24 (M 0 17)) p m s fr 0 15 = nI m3) (hwk : ∀ k, k < 8 → wkok (wkl (stp5 (stp4 (insM (up2 M 0 24 (M 0 17)) p m s fr)) p) k) (k + 1)) (hQ : Q (some (vI (nI p))) (HW F C (wkl (stp5 (stp4 (insM (up2 M 0 24 (M 0 17)) p m s fr)) p) 8))) : Ev G m_MOD_step 7 0 0 90 [some (vR 50), l1, l2, l3] [] (HW F C M) Q := by
  have hp := hw.1
  have hp8 := hw.2.2.1
  obtain ⟨m3, hm3, e3⟩ := h3
  obtain ⟨N, hN⟩ : ∃ N, N = insM (up2 M 0 24 (M 0 17)) p m s fr := ⟨_, rfl⟩
  have e24 : N 0 24 = nI p := by rw [hN, insM_24]; exact hp
  rw [← hN] at e3 hwk hQ
  refine E_aload_n d_MOD_step_90 rfl rfl ?_
  refine E_aload_n d_MOD_step_91 rfl rfl ?_
  refine L_gi d_MOD_step_92 f_MOD_227 rfl (by decide) rfl (fr_M 0 17) ?_
  refine L_pi d_MOD_step_95 f_MOD_97 rfl (by decide) (Or.inl rfl) rfl (fu_M 0 24 _) ?_
  refine E_aload_n d_MOD_step_98 rfl rfl ?_
  refine E_V0v d_MOD_step_99 w_MOD_233 rfl (by decide) (Nat.le_of_ble_eq_true rfl) (c_MOD_instruction hw) ?_
  rintro _ rfl
  rw [← hN]
  refine E_aload_n d_MOD_step_102 rfl rfl ?_
  refine E_dup d_MOD_step_103 rfl ?_
  refine L_gi d_MOD_step_104 f_MOD_230 rfl (by decide) rfl (fr_M 0 18) ?_
  refine E_iconst (v := 1) d_MOD_step_107 (by decide) ?_
  refine E_iadd d_MOD_step_108 ?_
  refine L_pi d_MOD_step_109 f_MOD_230 rfl (by decide) (Or.inl rfl) rfl (fu_M 0 18 _) ?_
  rw [show up2 N 0 18 (N 0 18 + 1) = stp4 N from rfl]
  refine E_aload_n d_MOD_step_112 rfl rfl ?_
  refine L_gi d_MOD_step_113 f_MOD_97 rfl (by decide) rfl (fr_M 0 24) ?_
  refine E_tp (y := nI (p)) (by simp [stp4, up2, e24]) ?_
  refine E_istore_n d_MOD_step_116 (by decide) ?_
  refine E_aload_n d_MOD_step_117 rfl rfl ?_
  refine L_gr d_MOD_step_118 f_MOD_19 rfl (by decide) rfl rfl ?_
  refine E_iload_n d_MOD_step_121 rfl ?_
  refine L_ld (j := p) d_MOD_step_122 rfl rfl (by omega) (by decide) (fr_M 4 _) ?_
  refine E_iconst (v := 1) d_MOD_step_123 (by decide) ?_
  refine E_icmp_eq (tgt := 135) d_MOD_step_124 (by decide) (fun c124 => ?_) (fun c124 => ?_)
  · refine E_aload_n d_MOD_step_135 rfl rfl ?_
    refine L_gi d_MOD_step_136 f_MOD_118 rfl (by decide) rfl (fr_M 0 19) ?_
    refine E_if_ne (tgt := 153) d_MOD_step_139 (by decide) (fun c139 => ?_) (fun c139 => ?_)
    · refine E_aload_n d_MOD_step_153 rfl rfl ?_
      refine E_iload_n d_MOD_step_154 rfl ?_
      refine E_V1v d_MOD_step_155 w_MOD_73 rfl (by decide) (Nat.le_of_ble_eq_true rfl) (c_MOD_wake hp8 (m := m3) (by simp [stp4, up2, e3]) hm3) ?_
      rintro _ rfl
      refine E_aload_n d_MOD_step_158 rfl rfl ?_
      refine E_iconst (v := 0) d_MOD_step_159 (by decide) ?_
      refine L_pi d_MOD_step_160 f_MOD_227 rfl (by decide) (Or.inl rfl) rfl (fu_M 0 17 _) ?_
      refine E_iconst (v := 1) d_MOD_step_163 (by decide) ?_
      refine E_istore_n d_MOD_step_164 (by decide) ?_
      have e5 := hwk
      have q5 := hQ
      rw [stp5, if_pos c124, if_neg (fun q => c139 q.1), show nv (stp4 N 0 15) = m3 by rw [show stp4 N 0 15 = nI m3 by simp [stp4, up2, e3]]; exact nv_nI (by omega)] at e5 q5
      refine lp_MOD_step2 e5 ?_ 8 0 rfl
      refine E_iload_n d_MOD_step_210 rfl ?_
      exact E_ireturn d_MOD_step_211 (Or.inl rfl) rfl q5
    · refine E_aload_n d_MOD_step_142 rfl rfl ?_
      refine L_gi d_MOD_step_143 f_MOD_230 rfl (by decide) rfl (fr_M 0 18) ?_
      refine E_aload_n d_MOD_step_146 rfl rfl ?_
      refine L_gi d_MOD_step_147 f_MOD_59 rfl (by decide) rfl (fr_M 0 1) ?_
      refine E_icmp_ne (tgt := 163) d_MOD_step_150 (by decide) (fun c150 => ?_) (fun c150 => ?_)
      · refine E_iconst (v := 1) d_MOD_step_163 (by decide) ?_
        refine E_istore_n d_MOD_step_164 (by decide) ?_
        have e5 := hwk
        have q5 := hQ
        rw [stp5, if_pos c124, if_pos ⟨c139, c150⟩] at e5 q5
        refine lp_MOD_step2 e5 ?_ 8 0 rfl
        refine E_iload_n d_MOD_step_210 rfl ?_
        exact E_ireturn d_MOD_step_211 (Or.inl rfl) rfl q5
      · refine E_aload_n d_MOD_step_153 rfl rfl ?_
        refine E_iload_n d_MOD_step_154 rfl ?_
        refine E_V1v d_MOD_step_155 w_MOD_73 rfl (by decide) (Nat.le_of_ble_eq_true rfl) (c_MOD_wake hp8 (m := m3) (by simp [stp4, up2, e3]) hm3) ?_
        rintro _ rfl
        refine E_aload_n d_MOD_step_158 rfl rfl ?_
        refine E_iconst (v := 0) d_MOD_step_159 (by decide) ?_
        refine L_pi d_MOD_step_160 f_MOD_227 rfl (by decide) (Or.inl rfl) rfl (fu_M 0 17 _) ?_
        refine E_iconst (v := 1) d_MOD_step_163 (by decide) ?_
        refine E_istore_n d_MOD_step_164 (by decide) ?_
        have e5 := hwk
        have q5 := hQ
        rw [stp5, if_pos c124, if_neg (fun q => q.2 c150), show nv (stp4 N 0 15) = m3 by rw [show stp4 N 0 15 = nI m3 by simp [stp4, up2, e3]]; exact nv_nI (by omega)] at e5 q5
        refine lp_MOD_step2 e5 ?_ 8 0 rfl
        refine E_iload_n d_MOD_step_210 rfl ?_
        exact E_ireturn d_MOD_step_211 (Or.inl rfl) rfl q5
  · refine E_aload_n d_MOD_step_127 rfl rfl ?_
    refine E_iconst (v := 0) d_MOD_step_128 (by decide) ?_
    refine L_pi d_MOD_step_129 f_MOD_227 rfl (by decide) (Or.inl rfl) rfl (fu_M 0 17 _) ?_
    refine E_goto (tgt := 163) d_MOD_step_132 (by decide) ?_
    refine E_iconst (v := 1) d_MOD_step_163 (by decide) ?_
    refine E_istore_n d_MOD_step_164 (by decide) ?_
    have e5 := hwk
    have q5 := hQ
    rw [stp5, if_neg c124] at e5 q5
    refine lp_MOD_step2 e5 ?_ 8 0 rfl
    refine E_iload_n d_MOD_step_210 rfl ?_
    exact E_ireturn d_MOD_step_211 (Or.inl rfl) rfl q5
theorem c_step_none {G : iG} {F : Nat} {C M : Nat → Nat → Int32} (hl : livk M 8 = false) : MI G m_MOD_step 7 [vR 50] (HW F C M) (fun x h' => x = -1 ∧ h' = HW F C M) := by
  refine Mt.of' (Ls := [some (vR 50), none, none, none]) (by decide) (by simp [ct]) (Nat.le_of_ble_eq_true rfl) rfl ?_
  refine E_iconst (v := 0) d_MOD_step_0 (by decide) ?_
  refine E_istore_n d_MOD_step_1 (by decide) ?_
  refine E_iconst (v := 1) d_MOD_step_2 (by decide) ?_
  refine E_istore_n d_MOD_step_3 (by decide) ?_
  refine lp_MOD_step1 ?_ 8 0 0 rfl rfl
  rw [hl]
  refine E_iload_n d_MOD_step_45 rfl ?_
  refine E_if_ne (tgt := 51) d_MOD_step_46 (by decide) (fun c => absurd (by decide) c) (fun _ => ?_)
  refine E_iconst (v := -1) d_MOD_step_49 (by decide) ?_
  exact E_ireturn d_MOD_step_50 (Or.inl rfl) rfl ⟨_, rfl, rfl, rfl⟩
theorem c_step_zero {G : iG} {F : Nat} {C M : Nat → Nat → Int32} (hl : livk M 8 = true) (h17 : M 0 17 = 0) (h15 : M 0 15 = 0) : MI G m_MOD_step 7 [vR 50] (HW F C M) (fun x h' => x = 0 ∧ h' = HW F C M) := by
  refine Mt.of' (Ls := [some (vR 50), none, none, none]) (by decide) (by simp [ct]) (Nat.le_of_ble_eq_true rfl) rfl ?_
  refine E_iconst (v := 0) d_MOD_step_0 (by decide) ?_
  refine E_istore_n d_MOD_step_1 (by decide) ?_
  refine E_iconst (v := 1) d_MOD_step_2 (by decide) ?_
  refine E_istore_n d_MOD_step_3 (by decide) ?_
  refine lp_MOD_step1 ?_ 8 0 0 rfl rfl
  rw [hl]
  refine E_iload_n d_MOD_step_45 rfl ?_
  refine E_if_ne (tgt := 51) d_MOD_step_46 (by decide) (fun _ => ?_) (fun c => absurd c (by decide))
  refine E_aload_n d_MOD_step_51 rfl rfl ?_
  refine L_gi d_MOD_step_52 f_MOD_227 rfl (by decide) rfl (fr_M 0 17) ?_
  refine E_if_ne (tgt := 90) d_MOD_step_55 (by decide) (fun c => absurd h17 c) (fun _ => ?_)
  refine E_aload_n d_MOD_step_58 rfl rfl ?_
  refine L_gi d_MOD_step_59 f_MOD_77 rfl (by decide) rfl (fr_M 0 15) ?_
  refine E_if_ne (tgt := 67) d_MOD_step_62 (by decide) (fun c => absurd h15 c) (fun _ => ?_)
  refine E_iconst (v := 0) d_MOD_step_65 (by decide) ?_
  exact E_ireturn d_MOD_step_66 (Or.inl rfl) rfl ⟨_, rfl, rfl, rfl⟩
theorem c_step_go {G : iG} {F : Nat} {C M : Nat → Nat → Int32} {p m s fr : Nat} (hl : livk M 8 = true) (ht : M 0 17 = 0 → ∃ m0, M 0 15 = nI m0 ∧ 1 ≤ m0 ∧ m0 ≤ 9) (hw : CW (stp2 M) p m s fr) (h3 : ∃ m3, m3 < 9 ∧ insM (stp2 M) p m s fr 0 15 = nI m3) (hwk : ∀ k, k < 8 → wkok (wkl (stp5 (stp4 (insM (stp2 M) p m s fr)) p) k) (k + 1)) : MI G m_MOD_step 7 [vR 50] (HW F C M) (fun x h' => x = nI p ∧ h' = HW F C (stpM M p m s fr)) := by
  refine Mt.of' (Ls := [some (vR 50), none, none, none]) (by decide) (by simp [ct]) (Nat.le_of_ble_eq_true rfl) rfl ?_
  refine E_iconst (v := 0) d_MOD_step_0 (by decide) ?_
  refine E_istore_n d_MOD_step_1 (by decide) ?_
  refine E_iconst (v := 1) d_MOD_step_2 (by decide) ?_
  refine E_istore_n d_MOD_step_3 (by decide) ?_
  refine lp_MOD_step1 ?_ 8 0 0 rfl rfl
  rw [hl]
  by_cases h17 : M 0 17 = 0
  · obtain ⟨m0, hm0, h1, h9⟩ := ht h17
    have e1 : stp1 M = up2 (unrw (up2 M 0 17 (M 12 0)) (M 12 0) m0) 0 18 0 := by rw [stp1, if_pos h17, hm0, nv_nI (by omega)]
    unfold stp2 at hw h3 hwk
    rw [e1] at hw h3 hwk
    refine E_iload_n d_MOD_step_45 rfl ?_
    refine E_if_ne (tgt := 51) d_MOD_step_46 (by decide) (fun _ => ?_) (fun c => absurd c (by decide))
    refine E_aload_n d_MOD_step_51 rfl rfl ?_
    refine L_gi d_MOD_step_52 f_MOD_227 rfl (by decide) rfl (fr_M 0 17) ?_
    refine E_if_ne (tgt := 90) d_MOD_step_55 (by decide) (fun c => absurd h17 c) (fun _ => ?_)
    refine E_aload_n d_MOD_step_58 rfl rfl ?_
    refine L_gi d_MOD_step_59 f_MOD_77 rfl (by decide) rfl (fr_M 0 15) ?_
    refine E_tp (y := nI (m0)) hm0 ?_
    refine E_if_ne (tgt := 67) d_MOD_step_62 (by decide) (fun _ => ?_) (fun c => absurd c (nI_ne0 (by omega) (by omega)))
    refine E_aload_n d_MOD_step_67 rfl rfl ?_
    refine E_aload_n d_MOD_step_68 rfl rfl ?_
    refine L_gr d_MOD_step_69 f_MOD_43 rfl (by decide) rfl rfl ?_
    refine E_iconst (v := 0) d_MOD_step_72 (by decide) ?_
    refine L_ld (j := 0) d_MOD_step_73 rfl rfl (by omega) (by decide) (fr_M 12 _) ?_
    refine L_pi d_MOD_step_74 f_MOD_227 rfl (by decide) (Or.inl rfl) rfl (fu_M 0 17 _) ?_
    refine E_aload_n d_MOD_step_77 rfl rfl ?_
    refine E_aload_n d_MOD_step_78 rfl rfl ?_
    refine L_gi d_MOD_step_79 f_MOD_227 rfl (by decide) rfl (fr_M 0 17) ?_
    refine E_tp (y := M 12 0) (by simp [up2]) ?_
    refine E_V1v d_MOD_step_82 w_MOD_91 rfl (by decide) (Nat.le_of_ble_eq_true rfl) (c_MOD_unrow (m := m0) (by simp [up2, hm0]) h9) ?_
    rintro _ rfl
    refine E_aload_n d_MOD_step_85 rfl rfl ?_
    refine E_iconst (v := 0) d_MOD_step_86 (by decide) ?_
    refine L_pi d_MOD_step_87 f_MOD_230 rfl (by decide) (Or.inl rfl) rfl (fu_M 0 18 _) ?_
    exact tl_MOD_step hw h3 hwk ⟨_, rfl, rfl, by rw [stpM, stp2, e1]⟩
  · have e1 : stp1 M = M := by rw [stp1, if_neg h17]
    unfold stp2 at hw h3 hwk
    rw [e1] at hw h3 hwk
    refine E_iload_n d_MOD_step_45 rfl ?_
    refine E_if_ne (tgt := 51) d_MOD_step_46 (by decide) (fun _ => ?_) (fun c => absurd c (by decide))
    refine E_aload_n d_MOD_step_51 rfl rfl ?_
    refine L_gi d_MOD_step_52 f_MOD_227 rfl (by decide) rfl (fr_M 0 17) ?_
    refine E_if_ne (tgt := 90) d_MOD_step_55 (by decide) (fun _ => ?_) (fun c => absurd c h17)
    exact tl_MOD_step hw h3 hwk ⟨_, rfl, rfl, by rw [stpM, stp2, e1]⟩

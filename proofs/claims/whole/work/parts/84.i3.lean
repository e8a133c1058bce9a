/-! ===== the reference's constructor ===== -/
theorem RI_50p (nt np nr : Nat) {a b : Nat} (hab : a ≤ b) (h : ∀ j, a ≤ j → j < b → RT 50 j = none) : RI nt np nr (b + 1) = up3 (RI nt np nr a) 50 b (RT 50 b) := by
  funext k j
  by_cases c : k = 50 ∧ j = b
  · rw [c.1, c.2, up3_at]
    exact if_neg (fun q => by omega)
  · rw [show up3 (RI nt np nr a) 50 b (RT 50 b) k j = RI nt np nr a k j from if_neg c]
    unfold RI
    by_cases c2 : (k = 4 ∧ nt ≤ j) ∨ (k = 37 ∧ np ≤ j) ∨ (k = 0 ∧ nr ≤ j) ∨ (k = 50 ∧ b + 1 ≤ j)
    · rw [if_pos c2, if_pos (by omega)]
    · rw [if_neg c2]
      by_cases c3 : k = 50 ∧ a ≤ j
      · rw [if_pos (by omega), c3.1]
        exact h j c3.2 (by omega)
      · rw [if_neg (by omega)]
def M0 : Nat → Nat → Int32 := fun _ _ => 0
/-- the reference's ints when it is new, the first e of ends put -/
def Me (F q e : Nat) : Nat → Nat → Int32 := fun a j => if a = 11 ∧ j < e then -1 else up2 (up2 M0 0 0 (nI F)) 0 1 (nI q) a j
theorem Me_0 (F q : Nat) : Me F q 0 = up2 (up2 M0 0 0 (nI F)) 0 1 (nI q) := by
  funext a j
  exact if_neg (fun c => by omega)
theorem Me_s (F q e : Nat) : Me F q (e + 1) = up2 (Me F q e) 11 e (-1) := by
  funext a j
  by_cases c : a = 11 ∧ j = e
  · rw [c.1, c.2, up2_at]
    exact if_pos ⟨rfl, by omega⟩
  · rw [show up2 (Me F q e) 11 e (-1) a j = Me F q e a j from if_neg c]
    unfold Me
    by_cases c2 : a = 11 ∧ j < e
    · rw [if_pos c2, if_pos (by omega)]
    · rw [if_neg c2, if_neg (by omega)]
theorem lp_MOD_init {G : iG} {F q : Nat} {C : Nat → Nat → Int32} {Q : Option iV → iH → Prop} {v1 v2 : iV} {az : Nat} (hQ : Q none (X F 66 (fl C (Me F q 54)) (RI 8 4 7 24))) : ∀ r e, e + r = 54 → Ev G m_MOD_init 1 0 az 169 [some (vR 50), some v1, some v2, some (vI (nI e))] [] (X F 66 (fl C (Me F q e)) (RI 8 4 7 24)) Q := by
  intro r
  induction r with
  | zero =>
    intro e he
    have e1 : e = 54 := by omega
    subst e1
    refine E_iload_n d_MOD_init_169 rfl ?_
    refine E_bipush (v := 54) d_MOD_init_170 (by decide) ?_
    refine E_icmp_ge (tgt := 188) d_MOD_init_172 (by decide) (fun _ => ?_) (fun c => absurd (by decide) c)
    exact E_return d_MOD_init_188 rfl rfl hQ
  | succ r ih =>
    intro e he
    refine E_iload_n d_MOD_init_169 rfl ?_
    refine E_bipush (v := 54) d_MOD_init_170 (by decide) ?_
    refine E_icmp_ge (tgt := 188) d_MOD_init_172 (by decide) (fun c => absurd c (nI_ge (b := 54) (by omega) (by decide))) (fun _ => ?_)
    refine E_aload_n d_MOD_init_175 rfl rfl ?_
    refine G_Q (n := 66) (k := 50) (N := 28) (x := 61) d_MOD_init_176 f_MOD_40 (by decide) rfl (by decide) rfl rfl ?_
    refine E_iload_n d_MOD_init_179 rfl ?_
    refine E_iconst (v := -1) d_MOD_init_180 (by decide) ?_
    refine S_I (n := 66) (k := 61) (N := 54) (j := e) (σ' := fl C (Me F q (e + 1))) d_MOD_init_181 (by decide) (by decide) rfl rfl (by omega) (by decide) (fun k hk => by rw [Me_s]; exact congrFun (fu_M 11 e (-1)).symm k) ?_
    refine E_iinc (v := nI (e + 1)) d_MOD_init_182 rfl (nI_1 _) (by decide) ?_
    refine E_goto (tgt := 169) d_MOD_init_185 (by decide) ?_
    exact ih (e + 1) (by omega)
theorem t2_MOD_init {G : iG} {F q : Nat} {C : Nat → Nat → Int32} {Q : Option iV → iH → Prop} {v1 v2 : iV} {az : Nat} (hQ : Q none (X F 66 (fl C (Me F q 54)) (RI 8 4 7 24))) : Ev G m_MOD_init 1 0 az 164 [some (vR 50), some v1, some v2, none] [vI (nI q), vR 50] (X F 66 (fl C (up2 M0 0 0 (nI F))) (RI 8 4 7 24)) Q := by
  refine P_I (n := 66) (k := 50) (N := 28) (σ' := fl C (Me F q 0)) d_MOD_init_164 f_MOD_59 (by decide) (by decide) rfl (by decide) rfl rfl (fun k hk => by rw [Me_0]; exact congrFun (fu_M 0 1 (nI q)).symm k) ?_
  refine E_iconst (v := 0) d_MOD_init_167 (by decide) ?_
  refine E_istore_n d_MOD_init_168 (by decide) ?_
  exact lp_MOD_init hQ 54 0 rfl
theorem t1_MOD_init {G : iG} {F q : Nat} {C : Nat → Nat → Int32} {Q : Option iV → iH → Prop} {v1 : iV} {y : Int32} {az : Nat} (hq : q = wN y 9 4) (hQ : Q none (X F 66 (fl C (Me F q 54)) (RI 8 4 7 24))) : Ev G m_MOD_init 1 0 az 144 [some (vR 50), some v1, some (vI y), none] [vI (nI F), vR 50] (X F 66 (fl C (M0)) (RI 8 4 7 24)) Q := by
  obtain ⟨ey, _⟩ := wN_v (x := y) (a := 9) (b := 4) (by decide)
  rw [← hq] at ey
  refine P_I (n := 66) (k := 50) (N := 28) (σ' := fl C (up2 M0 0 0 (nI F))) d_MOD_init_144 f_MOD_55 (by decide) (by decide) rfl (by decide) rfl rfl (fun k hk => congrFun (fu_M 0 0 (nI F)).symm k) ?_
  refine E_aload_n d_MOD_init_147 rfl rfl ?_
  refine E_iload_n d_MOD_init_148 rfl ?_
  refine E_iconst (v := 1) d_MOD_init_149 (by decide) ?_
  by_cases c : 1 ≤ y ∧ y ≤ nI 9
  · rw [if_pos c] at ey
    refine E_icmp_lt (tgt := 163) d_MOD_init_150 (by decide) (fun q => absurd q (Int32.not_lt.mpr c.1)) (fun _ => ?_)
    refine E_iload_n d_MOD_init_153 rfl ?_
    refine E_bipush (v := 9) d_MOD_init_154 (by decide) ?_
    refine E_icmp_gt (tgt := 163) d_MOD_init_156 (by decide) (fun q => absurd q (Int32.not_lt.mpr c.2)) (fun _ => ?_)
    refine E_iload_n d_MOD_init_159 rfl ?_
    refine E_goto (tgt := 164) d_MOD_init_160 (by decide) ?_
    exact E_tp ey (t2_MOD_init hQ)
  · rw [if_neg c] at ey
    refine E_icmp_lt (tgt := 163) d_MOD_init_150 (by decide) (fun _ => ?_) (fun c1 => ?_)
    · refine E_iconst (v := 4) d_MOD_init_163 (by decide) ?_
      exact E_tp ey (t2_MOD_init hQ)
    · refine E_iload_n d_MOD_init_153 rfl ?_
      refine E_bipush (v := 9) d_MOD_init_154 (by decide) ?_
      refine E_icmp_gt (tgt := 163) d_MOD_init_156 (by decide) (fun _ => ?_) (fun c2 => absurd ⟨Int32.not_lt.mp c1, Int32.not_lt.mp c2⟩ c)
      refine E_iconst (v := 4) d_MOD_init_163 (by decide) ?_
      exact E_tp ey (t2_MOD_init hQ)
theorem c_MOD_init {G : iG} {F q : Nat} {C : Nat → Nat → Int32} {x y : Int32} (hF : F = wN x 40 12) (hq : q = wN y 9 4) : Mt G m_MOD_init 1 15 1500 [vR 50, vI x, vI y] (X F 51 (fl C M0) (RI 8 4 7 0)) (fun r h' => r = none ∧ h' = X F 66 (fl C (Me F q 54)) (RI 8 4 7 24)) := by
  obtain ⟨ex, _⟩ := wN_v (x := x) (a := 40) (b := 12) (by decide)
  rw [← hF] at ex
  refine Mt.of' (Ls := [some (vR 50), some (vI x), some (vI y), none]) (by decide) (by simp [ct]) (Nat.le_of_ble_eq_true rfl) rfl ?_
  refine E_aload_n d_MOD_init_0 rfl rfl ?_
  refine E_objInit d_MOD_init_1 w_MOD_1 (by decide) (Nat.le_of_ble_eq_true rfl) ?_
  refine E_aload_n d_MOD_init_4 rfl rfl ?_
  refine E_sipush (v := 640) d_MOD_init_5 (by decide) ?_
  refine N_A0 (n := 51) (N := 640) (σ' := fl C M0) (ρ' := RI 8 4 7 0) d_MOD_init_8 rfl rfl (by decide) (by decide) (by decide) (fun _ _ => rfl) (fun _ _ => rfl) (fun j => fr_M 1 j) (fun j => by rw [RI_o (by decide) (by decide) (by decide) (by decide)]; rfl) ?_
  refine P_Q (n := 52) (k := 50) (N := 28) (ρ' := RI 8 4 7 3) d_MOD_init_10 f_MOD_7 (by decide) (by decide) rfl (by decide) rfl rfl rfl rfl (fun k hk => congrFun (RI_50p 8 4 7 (a := 0) (b := 2) (by decide) (fun j h1 h2 => by rcases (by omega : j = 0 ∨ j = 1) with rfl | rfl <;> rfl)) k) ?_
  refine E_aload_n d_MOD_init_13 rfl rfl ?_
  refine E_bipush (v := 40) d_MOD_init_14 (by decide) ?_
  refine N_A0 (n := 52) (N := 40) (σ' := fl C M0) (ρ' := RI 8 4 7 3) d_MOD_init_16 rfl rfl (by decide) (by decide) (by decide) (fun _ _ => rfl) (fun _ _ => rfl) (fun j => fr_M 2 j) (fun j => by rw [RI_o (by decide) (by decide) (by decide) (by decide)]; rfl) ?_
  refine P_Q (n := 53) (k := 50) (N := 28) (ρ' := RI 8 4 7 4) d_MOD_init_18 f_MOD_13 (by decide) (by decide) rfl (by decide) rfl rfl rfl rfl (fun k hk => congrFun (RI_50p 8 4 7 (a := 3) (b := 3) (by decide) (fun j h1 h2 => absurd h1 (by omega))) k) ?_
  refine E_aload_n d_MOD_init_21 rfl rfl ?_
  refine E_bipush (v := 64) d_MOD_init_22 (by decide) ?_
  refine N_A0 (n := 53) (N := 64) (σ' := fl C M0) (ρ' := RI 8 4 7 4) d_MOD_init_24 rfl rfl (by decide) (by decide) (by decide) (fun _ _ => rfl) (fun _ _ => rfl) (fun j => fr_M 3 j) (fun j => by rw [RI_o (by decide) (by decide) (by decide) (by decide)]; rfl) ?_
  refine P_Q (n := 54) (k := 50) (N := 28) (ρ' := RI 8 4 7 6) d_MOD_init_26 f_MOD_16 (by decide) (by decide) rfl (by decide) rfl rfl rfl rfl (fun k hk => congrFun (RI_50p 8 4 7 (a := 4) (b := 5) (by decide) (fun j h1 h2 => by rw [show j = 4 by omega]; rfl)) k) ?_
  refine E_aload_n d_MOD_init_29 rfl rfl ?_
  refine E_bipush (v := 9) d_MOD_init_30 (by decide) ?_
  refine N_A0 (n := 54) (N := 9) (σ' := fl C M0) (ρ' := RI 8 4 7 6) d_MOD_init_32 rfl rfl (by decide) (by decide) (by decide) (fun _ _ => rfl) (fun _ _ => rfl) (fun j => fr_M 4 j) (fun j => by rw [RI_o (by decide) (by decide) (by decide) (by decide)]; rfl) ?_
  refine P_Q (n := 55) (k := 50) (N := 28) (ρ' := RI 8 4 7 8) d_MOD_init_34 f_MOD_19 (by decide) (by decide) rfl (by decide) rfl rfl rfl rfl (fun k hk => congrFun (RI_50p 8 4 7 (a := 6) (b := 7) (by decide) (fun j h1 h2 => by rw [show j = 6 by omega]; rfl)) k) ?_
  refine E_aload_n d_MOD_init_37 rfl rfl ?_
  refine E_bipush (v := 9) d_MOD_init_38 (by decide) ?_
  refine N_A0 (n := 55) (N := 9) (σ' := fl C M0) (ρ' := RI 8 4 7 8) d_MOD_init_40 rfl rfl (by decide) (by decide) (by decide) (fun _ _ => rfl) (fun _ _ => rfl) (fun j => fr_M 5 j) (fun j => by rw [RI_o (by decide) (by decide) (by decide) (by decide)]; rfl) ?_
  refine P_Q (n := 56) (k := 50) (N := 28) (ρ' := RI 8 4 7 9) d_MOD_init_42 f_MOD_22 (by decide) (by decide) rfl (by decide) rfl rfl rfl rfl (fun k hk => congrFun (RI_50p 8 4 7 (a := 8) (b := 8) (by decide) (fun j h1 h2 => absurd h1 (by omega))) k) ?_
  refine E_aload_n d_MOD_init_45 rfl rfl ?_
  refine E_bipush (v := 9) d_MOD_init_46 (by decide) ?_
  refine N_A0 (n := 56) (N := 9) (σ' := fl C M0) (ρ' := RI 8 4 7 9) d_MOD_init_48 rfl rfl (by decide) (by decide) (by decide) (fun _ _ => rfl) (fun _ _ => rfl) (fun j => fr_M 6 j) (fun j => by rw [RI_o (by decide) (by decide) (by decide) (by decide)]; rfl) ?_
  refine P_Q (n := 57) (k := 50) (N := 28) (ρ' := RI 8 4 7 10) d_MOD_init_50 f_MOD_25 (by decide) (by decide) rfl (by decide) rfl rfl rfl rfl (fun k hk => congrFun (RI_50p 8 4 7 (a := 9) (b := 9) (by decide) (fun j h1 h2 => absurd h1 (by omega))) k) ?_
  refine E_aload_n d_MOD_init_53 rfl rfl ?_
  refine E_bipush (v := 9) d_MOD_init_54 (by decide) ?_
  refine N_A0 (n := 57) (N := 9) (σ' := fl C M0) (ρ' := RI 8 4 7 10) d_MOD_init_56 rfl rfl (by decide) (by decide) (by decide) (fun _ _ => rfl) (fun _ _ => rfl) (fun j => fr_M 7 j) (fun j => by rw [RI_o (by decide) (by decide) (by decide) (by decide)]; rfl) ?_
  refine P_Q (n := 58) (k := 50) (N := 28) (ρ' := RI 8 4 7 11) d_MOD_init_58 f_MOD_28 (by decide) (by decide) rfl (by decide) rfl rfl rfl rfl (fun k hk => congrFun (RI_50p 8 4 7 (a := 10) (b := 10) (by decide) (fun j h1 h2 => absurd h1 (by omega))) k) ?_
  refine E_aload_n d_MOD_init_61 rfl rfl ?_
  refine E_bipush (v := 9) d_MOD_init_62 (by decide) ?_
  refine N_A0 (n := 58) (N := 9) (σ' := fl C M0) (ρ' := RI 8 4 7 11) d_MOD_init_64 rfl rfl (by decide) (by decide) (by decide) (fun _ _ => rfl) (fun _ _ => rfl) (fun j => fr_M 8 j) (fun j => by rw [RI_o (by decide) (by decide) (by decide) (by decide)]; rfl) ?_
  refine P_Q (n := 59) (k := 50) (N := 28) (ρ' := RI 8 4 7 12) d_MOD_init_66 f_MOD_31 (by decide) (by decide) rfl (by decide) rfl rfl rfl rfl (fun k hk => congrFun (RI_50p 8 4 7 (a := 11) (b := 11) (by decide) (fun j h1 h2 => absurd h1 (by omega))) k) ?_
  refine E_aload_n d_MOD_init_69 rfl rfl ?_
  refine E_sipush (v := 288) d_MOD_init_70 (by decide) ?_
  refine N_A0 (n := 59) (N := 288) (σ' := fl C M0) (ρ' := RI 8 4 7 12) d_MOD_init_73 rfl rfl (by decide) (by decide) (by decide) (fun _ _ => rfl) (fun _ _ => rfl) (fun j => fr_M 9 j) (fun j => by rw [RI_o (by decide) (by decide) (by decide) (by decide)]; rfl) ?_
  refine P_Q (n := 60) (k := 50) (N := 28) (ρ' := RI 8 4 7 13) d_MOD_init_75 f_MOD_34 (by decide) (by decide) rfl (by decide) rfl rfl rfl rfl (fun k hk => congrFun (RI_50p 8 4 7 (a := 12) (b := 12) (by decide) (fun j h1 h2 => absurd h1 (by omega))) k) ?_
  refine E_aload_n d_MOD_init_78 rfl rfl ?_
  refine E_bipush (v := 72) d_MOD_init_79 (by decide) ?_
  refine N_A0 (n := 60) (N := 72) (σ' := fl C M0) (ρ' := RI 8 4 7 13) d_MOD_init_81 rfl rfl (by decide) (by decide) (by decide) (fun _ _ => rfl) (fun _ _ => rfl) (fun j => fr_M 10 j) (fun j => by rw [RI_o (by decide) (by decide) (by decide) (by decide)]; rfl) ?_
  refine P_Q (n := 61) (k := 50) (N := 28) (ρ' := RI 8 4 7 14) d_MOD_init_83 f_MOD_37 (by decide) (by decide) rfl (by decide) rfl rfl rfl rfl (fun k hk => congrFun (RI_50p 8 4 7 (a := 13) (b := 13) (by decide) (fun j h1 h2 => absurd h1 (by omega))) k) ?_
  refine E_aload_n d_MOD_init_86 rfl rfl ?_
  refine E_bipush (v := 54) d_MOD_init_87 (by decide) ?_
  refine N_A0 (n := 61) (N := 54) (σ' := fl C M0) (ρ' := RI 8 4 7 14) d_MOD_init_89 rfl rfl (by decide) (by decide) (by decide) (fun _ _ => rfl) (fun _ _ => rfl) (fun j => fr_M 11 j) (fun j => by rw [RI_o (by decide) (by decide) (by decide) (by decide)]; rfl) ?_
  refine P_Q (n := 62) (k := 50) (N := 28) (ρ' := RI 8 4 7 15) d_MOD_init_91 f_MOD_40 (by decide) (by decide) rfl (by decide) rfl rfl rfl rfl (fun k hk => congrFun (RI_50p 8 4 7 (a := 14) (b := 14) (by decide) (fun j h1 h2 => absurd h1 (by omega))) k) ?_
  refine E_aload_n d_MOD_init_94 rfl rfl ?_
  refine E_bipush (v := 9) d_MOD_init_95 (by decide) ?_
  refine N_A0 (n := 62) (N := 9) (σ' := fl C M0) (ρ' := RI 8 4 7 15) d_MOD_init_97 rfl rfl (by decide) (by decide) (by decide) (fun _ _ => rfl) (fun _ _ => rfl) (fun j => fr_M 12 j) (fun j => by rw [RI_o (by decide) (by decide) (by decide) (by decide)]; rfl) ?_
  refine P_Q (n := 63) (k := 50) (N := 28) (ρ' := RI 8 4 7 17) d_MOD_init_99 f_MOD_43 (by decide) (by decide) rfl (by decide) rfl rfl rfl rfl (fun k hk => congrFun (RI_50p 8 4 7 (a := 15) (b := 16) (by decide) (fun j h1 h2 => by rw [show j = 15 by omega]; rfl)) k) ?_
  refine E_aload_n d_MOD_init_102 rfl rfl ?_
  refine E_bipush (v := 32) d_MOD_init_103 (by decide) ?_
  refine N_A0 (n := 63) (N := 32) (σ' := fl C M0) (ρ' := RI 8 4 7 17) d_MOD_init_105 rfl rfl (by decide) (by decide) (by decide) (fun _ _ => rfl) (fun _ _ => rfl) (fun j => fr_M 13 j) (fun j => by rw [RI_o (by decide) (by decide) (by decide) (by decide)]; rfl) ?_
  refine P_Q (n := 64) (k := 50) (N := 28) (ρ' := RI 8 4 7 21) d_MOD_init_107 f_MOD_46 (by decide) (by decide) rfl (by decide) rfl rfl rfl rfl (fun k hk => congrFun (RI_50p 8 4 7 (a := 17) (b := 20) (by decide) (fun j h1 h2 => by rcases (by omega : j = 17 ∨ j = 18 ∨ j = 19) with rfl | rfl | rfl <;> rfl)) k) ?_
  refine E_aload_n d_MOD_init_110 rfl rfl ?_
  refine E_iconst (v := 4) d_MOD_init_111 (by decide) ?_
  refine N_A0 (n := 64) (N := 4) (σ' := fl C M0) (ρ' := RI 8 4 7 21) d_MOD_init_112 rfl rfl (by decide) (by decide) (by decide) (fun _ _ => rfl) (fun _ _ => rfl) (fun j => fr_M 14 j) (fun j => by rw [RI_o (by decide) (by decide) (by decide) (by decide)]; rfl) ?_
  refine P_Q (n := 65) (k := 50) (N := 28) (ρ' := RI 8 4 7 22) d_MOD_init_114 f_MOD_49 (by decide) (by decide) rfl (by decide) rfl rfl rfl rfl (fun k hk => congrFun (RI_50p 8 4 7 (a := 21) (b := 21) (by decide) (fun j h1 h2 => absurd h1 (by omega))) k) ?_
  refine E_aload_n d_MOD_init_117 rfl rfl ?_
  refine E_sipush (v := 200) d_MOD_init_118 (by decide) ?_
  refine N_A0 (n := 65) (N := 200) (σ' := fl C M0) (ρ' := RI 8 4 7 22) d_MOD_init_121 rfl rfl (by decide) (by decide) (by decide) (fun _ _ => rfl) (fun _ _ => rfl) (fun j => fr_M 15 j) (fun j => by rw [RI_o (by decide) (by decide) (by decide) (by decide)]; rfl) ?_
  refine P_Q (n := 66) (k := 50) (N := 28) (ρ' := RI 8 4 7 24) d_MOD_init_123 f_MOD_52 (by decide) (by decide) rfl (by decide) rfl rfl rfl rfl (fun k hk => congrFun (RI_50p 8 4 7 (a := 22) (b := 23) (by decide) (fun j h1 h2 => by rw [show j = 22 by omega]; rfl)) k) ?_
  refine E_aload_n d_MOD_init_126 rfl rfl ?_
  refine E_iload_n d_MOD_init_127 rfl ?_
  refine E_iconst (v := 1) d_MOD_init_128 (by decide) ?_
  by_cases c : 1 ≤ x ∧ x ≤ nI 40
  · rw [if_pos c] at ex
    refine E_icmp_lt (tgt := 142) d_MOD_init_129 (by decide) (fun q => absurd q (Int32.not_lt.mpr c.1)) (fun _ => ?_)
    refine E_iload_n d_MOD_init_132 rfl ?_
    refine E_bipush (v := 40) d_MOD_init_133 (by decide) ?_
    refine E_icmp_gt (tgt := 142) d_MOD_init_135 (by decide) (fun q => absurd q (Int32.not_lt.mpr c.2)) (fun _ => ?_)
    refine E_iload_n d_MOD_init_138 rfl ?_
    refine E_goto (tgt := 144) d_MOD_init_139 (by decide) ?_
    exact E_tp ex (t1_MOD_init hq ⟨rfl, rfl⟩)
  · rw [if_neg c] at ex
    refine E_icmp_lt (tgt := 142) d_MOD_init_129 (by decide) (fun _ => ?_) (fun c1 => ?_)
    · refine E_bipush (v := 12) d_MOD_init_142 (by decide) ?_
      exact E_tp ex (t1_MOD_init hq ⟨rfl, rfl⟩)
    · refine E_iload_n d_MOD_init_132 rfl ?_
      refine E_bipush (v := 40) d_MOD_init_133 (by decide) ?_
      refine E_icmp_gt (tgt := 142) d_MOD_init_135 (by decide) (fun _ => ?_) (fun c2 => absurd ⟨Int32.not_lt.mp c1, Int32.not_lt.mp c2⟩ c)
      refine E_bipush (v := 12) d_MOD_init_142 (by decide) ?_
      exact E_tp ex (t1_MOD_init hq ⟨rfl, rfl⟩)

/-! ===== the class's constructor ===== -/
/-- the references, and none else -/
def RT : Nat → Nat → Option Nat := fun k j =>
  if 5 ≤ k ∧ k < 37 then (if (k - 5) % 4 = 0 ∧ 1 ≤ j ∧ j ≤ 3 then some (k + j) else none)
  else if 38 ≤ k ∧ k < 46 then (if (k - 38) % 2 = 0 ∧ j = 0 then some (k + 1) else none)
  else if k = 4 then (if j < 8 then some (tk j) else none)
  else if k = 37 then (if j < 4 then some (pp j) else none)
  else if k = 46 then (if j = 0 then some 47 else none)
  else RH k j
/-- of them: the first nt tasks, np pipes, the fields under nr of the class and under nm of the reference -/
def RI (nt np nr nm : Nat) : Nat → Nat → Option Nat := fun k j => if (k = 4 ∧ nt ≤ j) ∨ (k = 37 ∧ np ≤ j) ∨ (k = 0 ∧ nr ≤ j) ∨ (k = 50 ∧ nm ≤ j) then none else RT k j
theorem RI_in {nt np nr nm k j : Nat} (h4 : k = 4 → j < nt) (h37 : k = 37 → j < np) (h0 : k = 0 → j < nr) (h50 : k = 50 → j < nm) : RI nt np nr nm k j = RT k j := if_neg (fun q => by omega)
theorem RI_o {nt np nr nm k : Nat} (h4 : k ≠ 4) (h37 : k ≠ 37) (h0 : k ≠ 0) (h50 : k ≠ 50) : RI nt np nr nm k = RT k := by
  funext j
  exact if_neg (fun q => by omega)
theorem RI_4 (nt np nr nm : Nat) : RI (nt + 1) np nr nm = up3 (RI nt np nr nm) 4 nt (RT 4 nt) := by
  funext k j
  by_cases c : k = 4 ∧ j = nt
  · rw [c.1, c.2, up3_at]
    exact if_neg (fun q => by omega)
  · rw [show up3 (RI nt np nr nm) 4 nt (RT 4 nt) k j = RI nt np nr nm k j from if_neg c]
    unfold RI
    by_cases c2 : (k = 4 ∧ nt + 1 ≤ j) ∨ (k = 37 ∧ np ≤ j) ∨ (k = 0 ∧ nr ≤ j) ∨ (k = 50 ∧ nm ≤ j)
    · rw [if_pos c2, if_pos (by omega)]
    · rw [if_neg c2, if_neg (by omega)]
theorem RI_37 (nt np nr nm : Nat) : RI nt (np + 1) nr nm = up3 (RI nt np nr nm) 37 np (RT 37 np) := by
  funext k j
  by_cases c : k = 37 ∧ j = np
  · rw [c.1, c.2, up3_at]
    exact if_neg (fun q => by omega)
  · rw [show up3 (RI nt np nr nm) 37 np (RT 37 np) k j = RI nt np nr nm k j from if_neg c]
    unfold RI
    by_cases c2 : (k = 4 ∧ nt ≤ j) ∨ (k = 37 ∧ np + 1 ≤ j) ∨ (k = 0 ∧ nr ≤ j) ∨ (k = 50 ∧ nm ≤ j)
    · rw [if_pos c2, if_pos (by omega)]
    · rw [if_neg c2, if_neg (by omega)]
theorem RI_0 (nt np nr nm : Nat) : RI nt np (nr + 1) nm = up3 (RI nt np nr nm) 0 nr (RT 0 nr) := by
  funext k j
  by_cases c : k = 0 ∧ j = nr
  · rw [c.1, c.2, up3_at]
    exact if_neg (fun q => by omega)
  · rw [show up3 (RI nt np nr nm) 0 nr (RT 0 nr) k j = RI nt np nr nm k j from if_neg c]
    unfold RI
    by_cases c2 : (k = 4 ∧ nt ≤ j) ∨ (k = 37 ∧ np ≤ j) ∨ (k = 0 ∧ nr + 1 ≤ j) ∨ (k = 50 ∧ nm ≤ j)
    · rw [if_pos c2, if_pos (by omega)]
    · rw [if_neg c2, if_neg (by omega)]
theorem RI_50 (nt np nr nm : Nat) : RI nt np nr (nm + 1) = up3 (RI nt np nr nm) 50 nm (RT 50 nm) := by
  funext k j
  by_cases c : k = 50 ∧ j = nm
  · rw [c.1, c.2, up3_at]
    exact if_neg (fun q => by omega)
  · rw [show up3 (RI nt np nr nm) 50 nm (RT 50 nm) k j = RI nt np nr nm k j from if_neg c]
    unfold RI
    by_cases c2 : (k = 4 ∧ nt ≤ j) ∨ (k = 37 ∧ np ≤ j) ∨ (k = 0 ∧ nr ≤ j) ∨ (k = 50 ∧ nm + 1 ≤ j)
    · rw [if_pos c2, if_pos (by omega)]
    · rw [if_neg c2, if_neg (by omega)]
theorem up3_same (ρ : Nat → Nat → Option Nat) (k j : Nat) (h : ρ k j = none) : up3 ρ k j none = ρ := by
  funext k' j'
  by_cases c : k' = k ∧ j' = j
  · rw [c.1, c.2, up3_at, h]
  · exact if_neg c
theorem RI_05 (nt np nm : Nat) : RI nt np 6 nm = up3 (RI nt np 4 nm) 0 5 (some 48) := by
  refine (RI_0 nt np 5 nm).trans ?_
  rw [show RI nt np 5 nm = RI nt np 4 nm from (RI_0 nt np 4 nm).trans (up3_same _ _ _ (if_pos (by omega)))]
  rfl
theorem RT_tk {i : Nat} (hi : i < 8) (j : Nat) : RT (tk i) j = if 1 ≤ j ∧ j ≤ 3 then some (tk i + j) else none := by
  unfold RT
  rw [if_pos (by unfold tk; omega)]
  by_cases c : 1 ≤ j ∧ j ≤ 3
  · rw [if_pos c, if_pos ⟨by unfold tk; omega, c⟩]
  · rw [if_neg c, if_neg (fun q => c q.2)]
theorem RT_tk' {i d : Nat} (hi : i < 8) (hd1 : 1 ≤ d) (hd3 : d ≤ 3) (j : Nat) : RT (tk i + d) j = none := by
  unfold RT
  rw [if_pos (by unfold tk; omega), if_neg (fun q => by have := q.1; unfold tk at this; omega)]
theorem RT_pp {i : Nat} (hi : i < 4) (j : Nat) : RT (pp i) j = if j = 0 then some (pp i + 1) else none := by
  unfold RT
  rw [if_neg (by unfold pp; omega), if_pos (by unfold pp; omega)]
  by_cases c : j = 0
  · rw [if_pos c, if_pos ⟨by unfold pp; omega, c⟩]
  · rw [if_neg c, if_neg (fun q => c q.2)]
theorem RT_pp' {i : Nat} (hi : i < 4) (j : Nat) : RT (pp i + 1) j = none := by
  unfold RT
  rw [if_neg (by unfold pp; omega), if_pos (by unfold pp; omega), if_neg (fun q => by have := q.1; unfold pp at this; omega)]
theorem fl_tk (C M : Nat → Nat → Int32) {i : Nat} (hi : i < 8) (j : Nat) : fl C M (tk i) j = if j < 9 then C (10 + j) i else 0 := by
  unfold fl tk
  rw [if_neg (by omega), if_pos (by omega), if_pos (by omega), show (5 + 4 * i - 5) / 4 = i by omega]
theorem fl_tk1 (C M : Nat → Nat → Int32) {i : Nat} (hi : i < 8) (j : Nat) : fl C M (tk i + 1) j = if j < 32 then C 20 (32 * i + j) else 0 := by
  unfold fl tk
  rw [if_neg (by omega), if_pos (by omega), if_neg (by omega), if_pos (by omega), show (5 + 4 * i + 1 - 5) / 4 = i by omega]
theorem fl_tk2 (C M : Nat → Nat → Int32) {i : Nat} (hi : i < 8) (j : Nat) : fl C M (tk i + 2) j = if j < 8 then C 21 (8 * i + j) else 0 := by
  unfold fl tk
  rw [if_neg (by omega), if_pos (by omega), if_neg (by omega), if_neg (by omega), if_pos (by omega), show (5 + 4 * i + 2 - 5) / 4 = i by omega]
theorem fl_tk3 (C M : Nat → Nat → Int32) {i : Nat} (hi : i < 8) (j : Nat) : fl C M (tk i + 3) j = if j < 6 then C 22 (6 * i + j) else 0 := by
  unfold fl tk
  rw [if_neg (by omega), if_pos (by omega), if_neg (by omega), if_neg (by omega), if_neg (by omega), show (5 + 4 * i + 3 - 5) / 4 = i by omega]
theorem fl_pp (C M : Nat → Nat → Int32) {i : Nat} (hi : i < 4) (j : Nat) : fl C M (pp i) j = if j < 3 then C (24 + j) i else 0 := by
  unfold fl pp
  rw [if_neg (by omega), if_neg (by omega), if_neg (by omega), if_pos (by omega), if_pos (by omega), show (38 + 2 * i - 38) / 2 = i by omega]
theorem fl_pp1 (C M : Nat → Nat → Int32) {i : Nat} (hi : i < 4) (j : Nat) : fl C M (pp i + 1) j = if j < 8 then C 27 (8 * i + j) else 0 := by
  unfold fl pp
  rw [if_neg (by omega), if_neg (by omega), if_neg (by omega), if_pos (by omega), if_neg (by omega), show (38 + 2 * i + 1 - 38) / 2 = i by omega]
/-- the class's ints when it is new, but for the quantum -/
def Cb (F : Nat) : Nat → Nat → Int32 := fun c j => if c = 1 ∧ j = 2 then nI F else if c = 10 ∧ j < 8 then nI (j + 1) else if c = 22 ∧ j < 48 then -1 else 0
def Cz (F q : Nat) : Nat → Nat → Int32 := up2 (Cb F) 0 4 (nI q)
theorem Cb_0 (F : Nat) {c : Nat} (j : Nat) (h1 : c ≠ 1) (h10 : c ≠ 10) (h22 : c ≠ 22) : Cb F c j = 0 := by
  unfold Cb
  rw [if_neg (fun q => h1 q.1), if_neg (fun q => h10 q.1), if_neg (fun q => h22 q.1)]
theorem Cz_0 (F q : Nat) {c : Nat} (j : Nat) (h0 : c ≠ 0) (h1 : c ≠ 1) (h10 : c ≠ 10) (h22 : c ≠ 22) : Cz F q c j = 0 := by
  rw [Cz, up2_row _ _ _ h0]
  exact Cb_0 F j h1 h10 h22
/-- what an argument of a constructor comes to -/
def wN (x : Int32) (a b : Nat) : Nat := if 1 ≤ x ∧ x ≤ nI a then nv x else b
theorem wN_v {x : Int32} {a b : Nat} (ha : a < 2 ^ 31 - 1) : (if 1 ≤ x ∧ x ≤ nI a then x else nI b) = nI (wN x a b) ∧ (1 ≤ b → b ≤ a → 1 ≤ wN x a b ∧ wN x a b ≤ a) := by
  unfold wN
  by_cases c : 1 ≤ x ∧ x ≤ nI a
  · rw [if_pos c, if_pos c]
    rcases pk_ix x (n := a + 1) (by omega) with q | q | ⟨k, hk, rfl⟩
    · exact absurd (Int32.lt_of_lt_of_le q (by decide)) (Int32.not_lt.mpr c.1)
    · exact absurd (Int32.lt_of_lt_of_le ((nI_ltI (a := a) (b := a + 1) (by omega) (by omega)).mpr (by omega)) q) (Int32.not_lt.mpr c.2)
    · rw [nv_nI (by omega)]
      refine ⟨rfl, fun _ _ => ⟨?_, by omega⟩⟩
      exact (nI_leI (a := 1) (by decide) (by omega)).mp c.1
  · rw [if_neg c, if_neg c]
    exact ⟨rfl, fun h1 h2 => ⟨h1, h2⟩⟩
theorem c_K_within {G : iG} {h : iH} {x a b : Int32} : MI G m_K_within 0 [vI x, vI a, vI b] (h) (fun y h' => y = (if 1 ≤ x ∧ x ≤ a then x else b) ∧ h' = h) := by
  refine Mt.of' (Ls := [some (vI x), some (vI a), some (vI b)]) (by decide) (by simp [ct]) (Nat.le_of_ble_eq_true rfl) rfl ?_
  refine E_iload_n d_K_within_0 rfl ?_
  refine E_iconst (v := 1) d_K_within_1 (by decide) ?_
  refine E_icmp_lt (tgt := 14) d_K_within_2 (by decide) (fun c2 => ?_) (fun c2 => ?_)
  · refine E_iload_n d_K_within_14 rfl ?_
    exact E_ireturn d_K_within_15 (Or.inl rfl) rfl ⟨_, rfl, by rw [if_neg (fun q => absurd c2 (Int32.not_lt.mpr q.1))], rfl⟩
  · refine E_iload_n d_K_within_5 rfl ?_
    refine E_iload_n d_K_within_6 rfl ?_
    refine E_icmp_gt (tgt := 14) d_K_within_7 (by decide) (fun c7 => ?_) (fun c7 => ?_)
    · refine E_iload_n d_K_within_14 rfl ?_
      exact E_ireturn d_K_within_15 (Or.inl rfl) rfl ⟨_, rfl, by rw [if_neg (fun q => absurd c7 (Int32.not_lt.mpr q.2))], rfl⟩
    · refine E_iload_n d_K_within_10 rfl ?_
      refine E_goto (tgt := 15) d_K_within_11 (by decide) ?_
      exact E_ireturn d_K_within_15 (Or.inl rfl) rfl ⟨_, rfl, by rw [if_pos ⟨Int32.not_lt.mp c2, Int32.not_lt.mp c7⟩], rfl⟩
theorem tl_K_init {G : iG} {F q : Nat} {M : Nat → Nat → Int32} {Q : Option iV → iH → Prop} {v1 v2 : iV} {az : Nat} {l3 : Option iV} (haz : 274 ≤ az) (hQ : Q none (X F 50 (fl (Cz F q) M) (RI 8 4 7 0))) : Ev G m_K_init 2 4 az 107 [some (vR 0), some v1, some v2, l3] [] (X F 46 (fl (Cz F q) M) (RI 8 4 3 0)) Q := by
  refine E_aload_n d_K_init_107 rfl rfl ?_
  refine N_new (n := 46) (σ' := zr (fl (Cz F q) M) 46) (ρ' := zq (RI 8 4 3 0) 46) d_K_init_108 n_K_40 rfl (by decide) (by omega) (fun k hk => zr_ne _ (by omega)) (fun k hk => zq_ne _ (by omega)) (fun j => zr_at _ _ _) (fun j => zq_at _ _ _) ?_
  refine E_dup d_K_init_111 rfl ?_
  refine E_N0 (hx := X F 48 (fl (Cz F q) M) (RI 8 4 3 0)) d_K_init_112 s_ROW_init rfl (Or.inr ⟨rfl, rfl⟩) (by decide) (by decide) (by omega) (Nat.le_of_ble_eq_true rfl) (c_ROW_init (n := 46) rfl rfl (fun j => by rw [fr_K _ (by decide)]; exact Cz_0 F q j (by decide) (by decide) (by decide) (by decide)) (fun j => by rw [fr_K _ (by decide)]; exact Cz_0 F q j (by decide) (by decide) (by decide) (by decide)) (fun j => by rw [RI_o (by decide) (by decide) (by decide) (by decide)]; rfl) (fun j => by rw [RI_o (by decide) (by decide) (by decide) (by decide)]; rfl)) ?_
  refine P_Q (n := 48) (k := 0) (N := 13) (ρ' := RI 8 4 4 0) d_K_init_115 f_K_43 (by decide) (by decide) rfl (by decide) rfl rfl rfl rfl (fun k hk => congrFun (RI_0 8 4 3 0) k) ?_
  refine E_aload_n d_K_init_118 rfl rfl ?_
  refine E_bipush (v := 64) d_K_init_119 (by decide) ?_
  refine N_A0 (n := 48) (N := 64) (σ' := fl (Cz F q) M) (ρ' := RI 8 4 4 0) d_K_init_121 rfl rfl (by decide) (by decide) (by omega) (fun _ _ => rfl) (fun _ _ => rfl) (fun j => by rw [fr_K _ (by decide)]; exact Cz_0 F q j (by decide) (by decide) (by decide) (by decide)) (fun j => by rw [RI_o (by decide) (by decide) (by decide) (by decide)]; rfl) ?_
  refine P_Q (n := 49) (k := 0) (N := 13) (ρ' := RI 8 4 6 0) d_K_init_123 f_K_47 (by decide) (by decide) rfl (by decide) rfl rfl rfl rfl (fun k hk => congrFun (RI_05 8 4 0) k) ?_
  refine E_aload_n d_K_init_126 rfl rfl ?_
  refine E_sipush (v := 200) d_K_init_127 (by decide) ?_
  refine N_A0 (n := 49) (N := 200) (σ' := fl (Cz F q) M) (ρ' := RI 8 4 6 0) d_K_init_130 rfl rfl (by decide) (by decide) (by omega) (fun _ _ => rfl) (fun _ _ => rfl) (fun j => by rw [fr_K _ (by decide)]; exact Cz_0 F q j (by decide) (by decide) (by decide) (by decide)) (fun j => by rw [RI_o (by decide) (by decide) (by decide) (by decide)]; rfl) ?_
  refine P_Q (n := 50) (k := 0) (N := 13) (ρ' := RI 8 4 7 0) d_K_init_132 f_K_51 (by decide) (by decide) rfl (by decide) rfl rfl rfl rfl (fun k hk => congrFun (RI_0 8 4 6 0) k) ?_
  exact E_return d_K_init_135 rfl rfl hQ
theorem lp_K_init2 {G : iG} {F q : Nat} {M : Nat → Nat → Int32} {Q : Option iV → iH → Prop} {v1 v2 : iV} (hQ : Q none (X F 50 (fl (Cz F q) M) (RI 8 4 7 0))) : ∀ (r i az : Nat), i + r = 4 → 274 + 11 * r ≤ az → Ev G m_K_init 2 (4 + 2 * r) az 83 [some (vR 0), some v1, some v2, some (vI (nI i))] [] (X F (38 + 2 * i) (fl (Cz F q) M) (RI 8 i 3 0)) Q := by
  intro r
  induction r with
  | zero =>
    intro i az hi haz
    have e : i = 4 := by omega
    subst e
    refine E_iload_n d_K_init_83 rfl ?_
    refine E_iconst (v := 4) d_K_init_84 (by decide) ?_
    refine E_icmp_ge (tgt := 107) d_K_init_85 (by decide) (fun _ => ?_) (fun c => absurd (by decide) c)
    exact tl_K_init (by omega) hQ
  | succ r ih =>
    intro i az hi haz
    have hi4 : i < 4 := by omega
    refine E_iload_n d_K_init_83 rfl ?_
    refine E_iconst (v := 4) d_K_init_84 (by decide) ?_
    refine E_icmp_ge (tgt := 107) d_K_init_85 (by decide) (fun c => absurd c (nI_ge (b := 4) (by omega) (by decide))) (fun _ => ?_)
    refine E_aload_n d_K_init_88 rfl rfl ?_
    refine G_Q (n := 38 + 2 * i) (k := 0) (N := 13) (x := 37) d_K_init_89 f_K_35 (by omega) rfl (by decide) rfl ((RI_in (fun c => absurd c (by decide)) (fun c => absurd c (by decide)) (fun _ => by decide) (fun c => absurd c (by decide))).trans rfl) ?_
    refine E_iload_n d_K_init_92 rfl ?_
    refine N_new (n := 38 + 2 * i) (σ' := zr (fl (Cz F q) M) (38 + 2 * i)) (ρ' := zq (RI 8 i 3 0) (38 + 2 * i)) d_K_init_93 n_K_33 (SH_P0 hi4) (by omega) (by omega) (fun k hk => zr_ne _ (by omega)) (fun k hk => zq_ne _ (by omega)) (fun j => zr_at _ _ _) (fun j => zq_at _ _ _) ?_
    refine E_dup d_K_init_96 rfl ?_
    refine E_N0 (hx := X F (38 + 2 * i + 2) (fl (Cz F q) M) (RI 8 i 3 0)) d_K_init_97 s_P_init rfl (Or.inl ⟨rfl, rfl⟩) (by decide) (by omega) (by omega) (Nat.le_of_ble_eq_true rfl) (c_P_init (n := 38 + 2 * i) (SH_P0 hi4) (SH_P1 hi4) (fun j => by change fl (Cz F q) M (pp i) j = _; rw [fl_pp _ _ hi4]; split <;> first | rfl | exact Cz_0 F q _ (by omega) (by omega) (by omega) (by omega)) (fun j => by change fl (Cz F q) M (pp i + 1) j = _; rw [fl_pp1 _ _ hi4]; split <;> first | rfl | exact Cz_0 F q _ (by decide) (by decide) (by decide) (by decide)) (fun j => by rw [RI_o (by omega) (by omega) (by omega) (by omega)]; exact RT_pp hi4 j) (fun j => by rw [RI_o (by omega) (by omega) (by omega) (by omega)]; exact RT_pp' hi4 j)) ?_
    refine S_3 (n := 38 + 2 * i + 2) (k := 37) (N := 4) (j := i) (v := 38 + 2 * i) (ρ' := RI 8 (i + 1) 3 0) d_K_init_100 (by omega) (by omega) rfl (by omega) (SH_P0 hi4) ⟨_, rfl, rfl⟩ rfl hi4 (by decide) (fun k hk => by rw [RI_37, show RT 37 i = some (38 + 2 * i) from if_pos hi4]) ?_
    refine E_iinc (v := nI (i + 1)) d_K_init_101 rfl (nI_1 _) (by decide) ?_
    refine E_goto (tgt := 83) d_K_init_104 (by decide) ?_
    have e1 : 4 + 2 * (r + 1) - 1 - 1 = 4 + 2 * r := by omega
    have e2 : 38 + 2 * i + 2 = 38 + 2 * (i + 1) := by omega
    rw [e1, e2]
    exact ih (i + 1) _ (by omega) (by omega)
theorem md_K_init {G : iG} {F q : Nat} {M : Nat → Nat → Int32} {Q : Option iV → iH → Prop} {v1 v2 : iV} {az : Nat} {l3 : Option iV} (haz : 322 ≤ az) (hQ : Q none (X F 50 (fl (Cz F q) M) (RI 8 4 7 0))) : Ev G m_K_init 2 13 az 73 [some (vR 0), some v1, some v2, l3] [] (X F 37 (fl (Cz F q) M) (RI 8 0 2 0)) Q := by
  refine E_aload_n d_K_init_73 rfl rfl ?_
  refine E_iconst (v := 4) d_K_init_74 (by decide) ?_
  refine N_A3 (n := 37) (N := 4) (σ' := fl (Cz F q) M) (ρ' := RI 8 0 2 0) d_K_init_75 na_K_33 rfl rfl (by decide) (by decide) (by omega) (fun _ _ => rfl) (fun _ _ => rfl) (fun j => rfl) (fun j => if_pos (by omega)) ?_
  refine P_Q (n := 38) (k := 0) (N := 13) (ρ' := RI 8 0 3 0) d_K_init_78 f_K_35 (by decide) (by decide) rfl (by decide) rfl rfl rfl rfl (fun k hk => congrFun (RI_0 8 0 2 0) k) ?_
  refine E_iconst (v := 0) d_K_init_81 (by decide) ?_
  refine E_istore_n d_K_init_82 (by decide) ?_
  exact lp_K_init2 hQ 4 0 _ rfl (by omega)
theorem lp_K_init1 {G : iG} {F q : Nat} {M : Nat → Nat → Int32} {Q : Option iV → iH → Prop} {v1 v2 : iV} (hQ : Q none (X F 50 (fl (Cz F q) M) (RI 8 4 7 0))) : ∀ (r i az : Nat), i + r = 8 → 322 + 55 * r ≤ az → Ev G m_K_init 2 (13 + 4 * r) az 45 [some (vR 0), some v1, some v2, some (vI (nI i))] [] (X F (5 + 4 * i) (fl (Cz F q) M) (RI i 0 2 0)) Q := by
  intro r
  induction r with
  | zero =>
    intro i az hi haz
    have e : i = 8 := by omega
    subst e
    refine E_iload_n d_K_init_45 rfl ?_
    refine E_bipush (v := 8) d_K_init_46 (by decide) ?_
    refine E_icmp_ge (tgt := 73) d_K_init_48 (by decide) (fun _ => ?_) (fun c => absurd (by decide) c)
    exact md_K_init (by omega) hQ
  | succ r ih =>
    intro i az hi haz
    have hi8 : i < 8 := by omega
    refine E_iload_n d_K_init_45 rfl ?_
    refine E_bipush (v := 8) d_K_init_46 (by decide) ?_
    refine E_icmp_ge (tgt := 73) d_K_init_48 (by decide) (fun c => absurd c (nI_ge (b := 8) (by omega) (by decide))) (fun _ => ?_)
    refine E_aload_n d_K_init_51 rfl rfl ?_
    refine G_Q (n := 5 + 4 * i) (k := 0) (N := 13) (x := 4) d_K_init_52 f_K_28 (by omega) rfl (by decide) rfl ((RI_in (fun c => absurd c (by decide)) (fun c => absurd c (by decide)) (fun _ => by decide) (fun c => absurd c (by decide))).trans rfl) ?_
    refine E_iload_n d_K_init_55 rfl ?_
    refine N_new (n := 5 + 4 * i) (σ' := zr (fl (Cz F q) M) (5 + 4 * i)) (ρ' := zq (RI i 0 2 0) (5 + 4 * i)) d_K_init_56 n_K_26 (SH_T0 hi8) (by omega) (by omega) (fun k hk => zr_ne _ (by omega)) (fun k hk => zq_ne _ (by omega)) (fun j => zr_at _ _ _) (fun j => zq_at _ _ _) ?_
    refine E_dup d_K_init_59 rfl ?_
    refine E_iload_n d_K_init_60 rfl ?_
    refine E_iconst (v := 1) d_K_init_61 (by decide) ?_
    refine E_iadd d_K_init_62 ?_
    refine E_tp (y := nI (i + 1)) (nI_add i 1) ?_
    refine E_I1 (hx := X F (5 + 4 * i + 4) (fl (Cz F q) M) (RI i 0 2 0)) d_K_init_63 w_K_32 (by decide) (by omega) (by omega) (Nat.le_of_ble_eq_true rfl) (c_T_init (n := 5 + 4 * i) (SH_T0 hi8) (SH_T1 hi8) (SH_T2 hi8) (SH_T3 hi8) (fun j => by change fl (Cz F q) M (tk i) j = _; rw [fl_tk _ _ hi8]; by_cases c : j = 0; (rw [c, if_pos (by decide), if_pos rfl, Cz, up2_row _ _ _ (by decide)]; exact (if_neg (fun c => absurd c.1 (by decide))).trans (if_pos ⟨rfl, hi8⟩)); (rw [if_neg c]; split <;> first | rfl | exact Cz_0 F q _ (by omega) (by omega) (by omega) (by omega))) (fun j => by change fl (Cz F q) M (tk i + 1) j = _; rw [fl_tk1 _ _ hi8]; split <;> first | rfl | exact Cz_0 F q _ (by decide) (by decide) (by decide) (by decide)) (fun j => by change fl (Cz F q) M (tk i + 2) j = _; rw [fl_tk2 _ _ hi8]; split <;> first | rfl | exact Cz_0 F q _ (by decide) (by decide) (by decide) (by decide)) (fun j => by change fl (Cz F q) M (tk i + 3) j = _; rw [fl_tk3 _ _ hi8]; by_cases c : j < 6; (rw [if_pos c, if_pos c, Cz, up2_row _ _ _ (by decide)]; exact (if_neg (fun c => absurd c.1 (by decide))).trans ((if_neg (fun c => absurd c.1 (by decide))).trans (if_pos ⟨rfl, by omega⟩))); (rw [if_neg c, if_neg c])) (fun j => by rw [RI_o (by omega) (by omega) (by omega) (by omega)]; exact RT_tk hi8 j) (fun j => by rw [RI_o (by omega) (by omega) (by omega) (by omega)]; exact RT_tk' (d := 1) hi8 (by decide) (by decide) j) (fun j => by rw [RI_o (by omega) (by omega) (by omega) (by omega)]; exact RT_tk' (d := 2) hi8 (by decide) (by decide) j) (fun j => by rw [RI_o (by omega) (by omega) (by omega) (by omega)]; exact RT_tk' (d := 3) hi8 (by decide) (by decide) j)) ?_
    refine S_2 (n := 5 + 4 * i + 4) (k := 4) (N := 8) (j := i) (v := 5 + 4 * i) (ρ' := RI (i + 1) 0 2 0) d_K_init_66 (by omega) (by omega) rfl (by omega) (SH_T0 hi8) ⟨_, rfl, rfl⟩ rfl hi8 (by decide) (fun k hk => by rw [RI_4, show RT 4 i = some (5 + 4 * i) from if_pos hi8]) ?_
    refine E_iinc (v := nI (i + 1)) d_K_init_67 rfl (nI_1 _) (by decide) ?_
    refine E_goto (tgt := 45) d_K_init_70 (by decide) ?_
    have e1 : 13 + 4 * (r + 1) - 1 - 3 = 13 + 4 * r := by omega
    have e2 : 5 + 4 * i + 4 = 5 + 4 * (i + 1) := by omega
    rw [e1, e2]
    exact ih (i + 1) _ (by omega) (by omega)
theorem c_K_init {G : iG} {F q : Nat} {M : Nat → Nat → Int32} {x y : Int32} (hF : F = wN x 40 12) (hq : q = wN y 9 4) : Mt G m_K_init 2 49 1500 [vR 0, vI x, vI y] (X F 1 (fl (Cb F) M) (RI 0 0 0 0)) (fun r h' => r = none ∧ h' = X F 50 (fl (Cz F q) M) (RI 8 4 7 0)) := by
  obtain ⟨ex, bx⟩ := wN_v (x := x) (a := 40) (b := 12) (by decide)
  obtain ⟨ey, by_⟩ := wN_v (x := y) (a := 9) (b := 4) (by decide)
  have bF := bx (by decide) (by decide)
  rw [← hF] at ex bF
  rw [← hq] at ey
  refine Mt.of' (Ls := [some (vR 0), some (vI x), some (vI y), none]) (by decide) (by simp [ct]) (Nat.le_of_ble_eq_true rfl) rfl ?_
  refine E_aload_n d_K_init_0 rfl rfl ?_
  refine E_objInit d_K_init_1 w_K_1 (by decide) (Nat.le_of_ble_eq_true rfl) ?_
  refine E_aload_n d_K_init_4 rfl rfl ?_
  refine N_new (n := 1) (σ' := zr (fl (Cb F) M) 1) (ρ' := zq (RI 0 0 0 0) 1) d_K_init_5 n_K_7 rfl (by decide) (by decide) (fun k hk => zr_ne _ (by omega)) (fun k hk => zq_ne _ (by omega)) (fun j => zr_at _ _ _) (fun j => zq_at _ _ _) ?_
  refine E_dup d_K_init_8 rfl ?_
  refine E_iload_n d_K_init_9 rfl ?_
  refine E_bipush (v := 40) d_K_init_10 (by decide) ?_
  refine E_bipush (v := 12) d_K_init_12 (by decide) ?_
  refine E_S3i d_K_init_14 w_K_11 (by decide) (Nat.le_of_ble_eq_true rfl) (c_K_within) ?_
  rintro _ _ ⟨rfl, rfl⟩
  refine E_tp (y := nI F) ex ?_
  refine E_I1 (hx := X F 4 (fl (Cb F) M) (RI 0 0 0 0)) d_K_init_17 w_K_15 (by decide) (by decide) (by decide) (Nat.le_of_ble_eq_true rfl) (c_MEM_init (n := 1) bF.2 rfl rfl rfl (fun j => by rw [fr_K _ (by decide)]; by_cases c : j = 2; (rw [if_pos c]; exact if_pos ⟨rfl, c⟩); (rw [if_neg c]; exact (if_neg (fun q => c q.2)).trans ((if_neg (fun c => absurd c.1 (by decide))).trans (if_neg (fun c => absurd c.1 (by decide)))))) (fun j => by rw [fr_K _ (by decide)]; exact Cb_0 F j (by decide) (by decide) (by decide)) (fun j => by rw [fr_K _ (by decide)]; exact Cb_0 F j (by decide) (by decide) (by decide)) (fun j => by rw [RI_o (by decide) (by decide) (by decide) (by decide)]; by_cases c1 : j = 1; (rw [c1]; rfl); by_cases c0 : j = 0; (rw [c0]; rfl); (rw [if_neg (by omega)]; match j, c0, c1 with | (j + 2), _, _ => rfl)) (fun j => by rw [RI_o (by decide) (by decide) (by decide) (by decide)]; rfl) (fun j => by rw [RI_o (by decide) (by decide) (by decide) (by decide)]; rfl)) ?_
  refine P_Q (n := 4) (k := 0) (N := 13) (ρ' := RI 0 0 1 0) d_K_init_20 f_K_18 (by decide) (by decide) rfl (by decide) rfl rfl rfl rfl (fun k hk => congrFun (RI_0 0 0 0 0) k) ?_
  refine E_aload_n d_K_init_23 rfl rfl ?_
  refine E_iload_n d_K_init_24 rfl ?_
  refine E_bipush (v := 9) d_K_init_25 (by decide) ?_
  refine E_iconst (v := 4) d_K_init_27 (by decide) ?_
  refine E_S3i d_K_init_28 w_K_11 (by decide) (Nat.le_of_ble_eq_true rfl) (c_K_within) ?_
  rintro _ _ ⟨rfl, rfl⟩
  refine E_tp (y := nI q) ey ?_
  refine P_F (n := 4) (k := 0) (N := 13) (σ' := fl (Cz F q) M) d_K_init_31 f_K_22 (by decide) (by decide) rfl (by decide) rfl rfl rfl rfl (fun k hk => by rw [fu_K _ _ (by decide)]; rfl) ?_
  refine E_aload_n d_K_init_34 rfl rfl ?_
  refine E_bipush (v := 8) d_K_init_35 (by decide) ?_
  refine N_A2 (n := 4) (N := 8) (σ' := fl (Cz F q) M) (ρ' := RI 0 0 1 0) d_K_init_37 na_K_26 rfl rfl (by decide) (by decide) (by decide) (fun _ _ => rfl) (fun _ _ => rfl) (fun j => by rw [fr_K _ (by decide)]; exact Cz_0 F q j (by decide) (by decide) (by decide) (by decide)) (fun j => if_pos (by omega)) ?_
  refine P_Q (n := 5) (k := 0) (N := 13) (ρ' := RI 0 0 2 0) d_K_init_40 f_K_28 (by decide) (by decide) rfl (by decide) rfl rfl rfl rfl (fun k hk => congrFun (RI_0 0 0 1 0) k) ?_
  refine E_iconst (v := 0) d_K_init_43 (by decide) ?_
  refine E_istore_n d_K_init_44 (by decide) ?_
  exact lp_K_init1 ⟨rfl, rfl⟩ 8 0 _ rfl (by decide)

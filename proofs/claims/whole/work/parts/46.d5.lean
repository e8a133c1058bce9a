/-! ===== the class's kernel: what its methods do to its cells C ===== -/
def isbC (C : Nat → Nat → Int32) (x : Int32) : Bool := decide (1 ≤ x) && decide (x ≤ 8) && !decide (C 15 (nv x - 1) = 0)
theorem isbC_of {C : Nat → Nat → Int32} {x : Int32} (h : isbC C x = true) : ∃ i : Nat, i < 8 ∧ x = nI (i + 1) ∧ C 15 i ≠ 0 ∧ nv x - 1 = i := by
  simp only [isbC, Bool.and_eq_true, decide_eq_true_eq, Bool.not_eq_true', decide_eq_false_iff_not] at h
  obtain ⟨⟨h1, h8⟩, h4⟩ := h
  obtain ⟨p, a, b, rfl⟩ := in18 h1 h8
  rw [nv_nI (by omega)] at h4 ⊢
  exact ⟨p - 1, by omega, by rw [show p - 1 + 1 = p by omega], h4, rfl⟩
theorem isbC_nI (C : Nat → Nat → Int32) {i : Nat} (hi : i < 8) : isbC C (nI (i + 1)) = !decide (C 15 i = 0) := by
  have a : (1 : Int32) ≤ nI (i + 1) := nI_le (a := 1) (by omega) (by omega)
  have b : nI (i + 1) ≤ (8 : Int32) := nI_le (b := 8) (by omega) (by decide)
  simp [isbC, a, b, nv_nI (show i + 1 < 2 ^ 31 by omega)]
def heC (C : Nat → Nat → Int32) (e : Int32) : Bool := (List.range 48).any (fun j => C 22 j == e)
/-- the first absent task from k on, n places -/
def laC (C : Nat → Nat → Int32) : Nat → Nat → Nat
  | 0, k => k
  | n + 1, k => if C 15 k = 0 then k else laC C n (k + 1)
theorem laC_spec (C : Nat → Nat → Int32) : ∀ n k, k ≤ laC C n k ∧ laC C n k ≤ k + n ∧ (laC C n k < k + n → C 15 (laC C n k) = 0)
  | 0, k => ⟨Nat.le_refl _, Nat.le_refl _, fun q => absurd q (by unfold laC; omega)⟩
  | n + 1, k => by
    obtain ⟨h1, h2, h3⟩ := laC_spec C n (k + 1)
    unfold laC
    by_cases h : C 15 k = 0
    · rw [if_pos h]
      exact ⟨Nat.le_refl _, by omega, fun _ => h⟩
    · rw [if_neg h]
      exact ⟨by omega, by omega, fun q => h3 (by omega)⟩
/-- the first ended child of task j from k on, n places -/
def ecC (C : Nat → Nat → Int32) (j : Nat) : Nat → Nat → Nat
  | 0, k => k
  | n + 1, k => if chC C k j = true ∧ C 15 k = 5 then k else ecC C j n (k + 1)
theorem ecC_spec (C : Nat → Nat → Int32) (j : Nat) : ∀ n k, k ≤ ecC C j n k ∧ ecC C j n k ≤ k + n ∧ (ecC C j n k < k + n → chC C (ecC C j n k) j = true ∧ C 15 (ecC C j n k) = 5)
  | 0, k => ⟨Nat.le_refl _, Nat.le_refl _, fun q => absurd q (by unfold ecC; omega)⟩
  | n + 1, k => by
    obtain ⟨h1, h2, h3⟩ := ecC_spec C j n (k + 1)
    unfold ecC
    by_cases h : chC C k j = true ∧ C 15 k = 5
    · rw [if_pos h]
      exact ⟨Nat.le_refl _, by omega, fun _ => h⟩
    · rw [if_neg h]
      exact ⟨by omega, by omega, fun q => h3 (by omega)⟩
def hcC (C : Nat → Nat → Int32) (j : Nat) : Bool := (List.range 8).any (fun i => chC C i j)
def aeC (C : Nat → Nat → Int32) : Bool := (List.range 8).any (fun i => !decide (C 15 i = 0) && !decide (C 15 i = 5))
def frC (C : Nat → Nat → Int32) (p : Nat) : Bool := !heC C (nI (1 + 2 * p)) && !heC C (nI (2 + 2 * p))
def lfC (C : Nat → Nat → Int32) : Nat → Nat → Nat
  | 0, k => k
  | n + 1, k => if frC C k = true then k else lfC C n (k + 1)
theorem lfC_le (C : Nat → Nat → Int32) : ∀ n k, k ≤ lfC C n k ∧ lfC C n k ≤ k + n
  | 0, k => ⟨Nat.le_refl _, Nat.le_refl _⟩
  | n + 1, k => by
    have := lfC_le C n (k + 1)
    unfold lfC
    split <;> omega
def lfx (C : Nat → Nat → Int32) : Int32 := if lfC C 4 0 < 4 then nI (1 + 2 * lfC C 4 0) else -1
def reE (x : Int32) : Bool := decide (0 < x) && decide (x &&& 1 = 1)
def wrE (x : Int32) : Bool := decide (0 < x) && decide (x &&& 1 = 0)
theorem pipe_ix : ∀ e : Nat, e ≤ 8 → 1 ≤ e → ((nI e - 1).toUInt32 >>> ((1 : Int32).toUInt32 &&& Int32.toUInt32 31)).toInt32 &&& 3 = nI ((e - 1) / 2) := by decide
def mrC (C : Nat → Nat → Int32) (i z : Nat) : Nat → Nat → Int32 := apC (up2 C 15 i 1) z (C 10 i)
def ptn (C : Nat → Nat → Int32) (i z : Nat) : Nat → Nat → Int32 := if C 15 i = 1 then (if C 0 12 = 0 ∧ 0 < C 0 11 then C else up2 (apC C z (C 10 i)) 0 10 0) else up2 C 0 10 0
theorem any_le {n m : Nat} {f : Nat → Bool} (h : n ≤ m) (q : (List.range m).any f = false) : (List.range n).any f = false := by
  rw [List.any_eq_false] at q ⊢
  intro j hj
  exact q j (List.mem_range.mpr (Nat.lt_of_lt_of_le (List.mem_range.mp hj) h))
theorem any_of {m k : Nat} {f : Nat → Bool} (hk : k < m) (q : f k = true) : (List.range m).any f = true := List.any_eq_true.mpr ⟨k, List.mem_range.mpr hk, q⟩
theorem c_find_some {G : iG} {F : Nat} {C M : Nat → Nat → Int32} {i : Nat} (hi : i < 8) (h15 : C 15 i ≠ 0) : MQ_ G m_K_find 0 [vR 0, vI (nI (i + 1))] (HW F C M) (fun x h' => x = some (tk i) ∧ h' = HW F C M) := by
  refine Mt.of' (Ls := [some (vR 0), some (vI (nI (i + 1))), none]) (by decide) (by simp [ct]) (Nat.le_of_ble_eq_true rfl) rfl ?_
  refine E_iload_n d_K_find_0 rfl ?_
  refine E_iconst (v := 1) d_K_find_1 (by decide) ?_
  refine E_icmp_lt (tgt := 11) d_K_find_2 (by decide) (fun c => absurd c (Int32.not_lt.mpr (nI_le (a := 1) (by omega) (by omega)))) (fun _ => ?_)
  refine E_iload_n d_K_find_5 rfl ?_
  refine E_bipush (v := 8) d_K_find_6 (by decide) ?_
  refine E_icmp_le (tgt := 13) d_K_find_8 (by decide) (fun _ => ?_) (fun c => absurd (nI_le (b := 8) (by omega) (by decide)) c)
  refine E_aload_n d_K_find_13 rfl rfl ?_
  refine L_gr d_K_find_14 f_K_28 rfl (by decide) rfl rfl ?_
  refine E_iload_n d_K_find_17 rfl ?_
  refine E_iconst (v := 1) d_K_find_18 (by decide) ?_
  refine E_isub d_K_find_19 ?_
  refine E_tp (y := nI (i)) (pk_sub (b := 1) (by omega)) ?_
  refine L_ar2 (j := i) d_K_find_20 rfl rfl (by omega) (by decide) rfl ?_
  refine E_astore_n d_K_find_21 (by decide) rfl ?_
  refine E_aload_n d_K_find_22 rfl rfl ?_
  refine L_gi d_K_find_23 f_K_98 (SH_T0 (by omega)) (by decide) rfl (fr_T5 (by omega)) ?_
  refine E_if_ne (tgt := 33) d_K_find_26 (by decide) (fun _ => ?_) (fun c => absurd c h15)
  refine E_aload_n d_K_find_33 rfl rfl ?_
  exact E_areturn d_K_find_34 rfl rfl ⟨_, rfl, rfl, rfl⟩
theorem c_find_none {G : iG} {F : Nat} {C M : Nat → Nat → Int32} {x0 : Int32} (hb : ¬ isbC C x0 = true) : MQ_ G m_K_find 0 [vR 0, vI x0] (HW F C M) (fun x h' => x = none ∧ h' = HW F C M) := by
  refine Mt.of' (Ls := [some (vR 0), some (vI x0), none]) (by decide) (by simp [ct]) (Nat.le_of_ble_eq_true rfl) rfl ?_
  by_cases ha : 1 ≤ x0 ∧ x0 ≤ 8
  · obtain ⟨q, hq1, hq8, rfl⟩ := in18 ha.1 ha.2
    obtain ⟨i, rfl⟩ : ∃ i, q = i + 1 := ⟨q - 1, by omega⟩
    have hi : i < 8 := by omega
    have h15 : C 15 i = 0 := by rw [isbC_nI C hi] at hb; simpa using hb
    refine E_iload_n d_K_find_0 rfl ?_
    refine E_iconst (v := 1) d_K_find_1 (by decide) ?_
    refine E_icmp_lt (tgt := 11) d_K_find_2 (by decide) (fun c => absurd c (Int32.not_lt.mpr ha.1)) (fun _ => ?_)
    refine E_iload_n d_K_find_5 rfl ?_
    refine E_bipush (v := 8) d_K_find_6 (by decide) ?_
    refine E_icmp_le (tgt := 13) d_K_find_8 (by decide) (fun _ => ?_) (fun c => absurd ha.2 c)
    refine E_aload_n d_K_find_13 rfl rfl ?_
    refine L_gr d_K_find_14 f_K_28 rfl (by decide) rfl rfl ?_
    refine E_iload_n d_K_find_17 rfl ?_
    refine E_iconst (v := 1) d_K_find_18 (by decide) ?_
    refine E_isub d_K_find_19 ?_
    refine E_tp (y := nI (i)) (pk_sub (b := 1) (by omega)) ?_
    refine L_ar2 (j := i) d_K_find_20 rfl rfl (by omega) (by decide) rfl ?_
    refine E_astore_n d_K_find_21 (by decide) rfl ?_
    refine E_aload_n d_K_find_22 rfl rfl ?_
    refine L_gi d_K_find_23 f_K_98 (SH_T0 (by omega)) (by decide) rfl (fr_T5 (by omega)) ?_
    refine E_if_ne (tgt := 33) d_K_find_26 (by decide) (fun c => absurd h15 c) (fun _ => ?_)
    refine E_null d_K_find_29 ?_
    refine E_goto (tgt := 34) d_K_find_30 (by decide) ?_
    exact E_areturn d_K_find_34 rfl rfl ⟨_, rfl, rfl, rfl⟩
  · refine E_iload_n d_K_find_0 rfl ?_
    refine E_iconst (v := 1) d_K_find_1 (by decide) ?_
    refine E_icmp_lt (tgt := 11) d_K_find_2 (by decide) (fun c2 => ?_) (fun c2 => ?_)
    · refine E_null d_K_find_11 ?_
      exact E_areturn d_K_find_12 rfl rfl ⟨_, rfl, rfl, rfl⟩
    · refine E_iload_n d_K_find_5 rfl ?_
      refine E_bipush (v := 8) d_K_find_6 (by decide) ?_
      refine E_icmp_le (tgt := 13) d_K_find_8 (by decide) (fun c8 => ?_) (fun c8 => ?_)
      · exact absurd ⟨Int32.not_lt.mp c2, c8⟩ ha
      · refine E_null d_K_find_11 ?_
        exact E_areturn d_K_find_12 rfl rfl ⟨_, rfl, rfl, rfl⟩
theorem lp_K_allHaveEnded {G : iG} {F : Nat} {C M : Nat → Nat → Int32} {Q : Option iV → iH → Prop} (hQ : Q (some (vI (b2i (!aeC C)))) (HW F C M)) : ∀ (n k : Nat), k + n = 8 → (List.range k).any (fun i => !decide (C 15 i = 0) && !decide (C 15 i = 5)) = false → Ev G m_K_allHaveEnded 0 0 0 2 [some (vR 0), some (vI (nI k))] [] (HW F C M) Q := by
  intro n
  induction n with
  | zero =>
    intro k hk hx
    have e : k = 8 := by omega
    subst e
    have hx2 : aeC C = false := hx
    refine E_iload_n d_K_allHaveEnded_2 rfl ?_
    refine E_bipush (v := 8) d_K_allHaveEnded_3 (by decide) ?_
    refine E_icmp_ge (tgt := 41) d_K_allHaveEnded_5 (by decide) (fun _ => ?_) (fun c => absurd (by decide) c)
    refine E_iconst (v := 1) d_K_allHaveEnded_41 (by decide) ?_
    exact E_ireturn d_K_allHaveEnded_42 (Or.inr ⟨rfl, (by decide)⟩) rfl (by rw [hx2] at hQ; exact hQ)
  | succ n ih =>
    intro k hk hx
    refine E_iload_n d_K_allHaveEnded_2 rfl ?_
    refine E_bipush (v := 8) d_K_allHaveEnded_3 (by decide) ?_
    refine E_icmp_ge (tgt := 41) d_K_allHaveEnded_5 (by decide) (fun c => absurd c (nI_ge (b := 8) (by omega) (by decide))) (fun _ => ?_)
    refine E_aload_n d_K_allHaveEnded_8 rfl rfl ?_
    refine L_gr d_K_allHaveEnded_9 f_K_28 rfl (by decide) rfl rfl ?_
    refine E_iload_n d_K_allHaveEnded_12 rfl ?_
    refine L_ar2 (j := k) d_K_allHaveEnded_13 rfl rfl (by omega) (by decide) rfl ?_
    refine L_gi d_K_allHaveEnded_14 f_K_98 (SH_T0 (by omega)) (by decide) rfl (fr_T5 (by omega)) ?_
    refine E_if_eq (tgt := 35) d_K_allHaveEnded_17 (by decide) (fun c17 => ?_) (fun c17 => ?_)
    · refine E_iinc (v := nI (k + 1)) d_K_allHaveEnded_35 rfl (nI_1 _) (by decide) ?_
      refine E_goto (tgt := 2) d_K_allHaveEnded_38 (by decide) ?_
      exact ih (k + 1) (by omega) (by rw [any_succ, hx]; simp [c17])
    · refine E_aload_n d_K_allHaveEnded_20 rfl rfl ?_
      refine L_gr d_K_allHaveEnded_21 f_K_28 rfl (by decide) rfl rfl ?_
      refine E_iload_n d_K_allHaveEnded_24 rfl ?_
      refine L_ar2 (j := k) d_K_allHaveEnded_25 rfl rfl (by omega) (by decide) rfl ?_
      refine L_gi d_K_allHaveEnded_26 f_K_98 (SH_T0 (by omega)) (by decide) rfl (fr_T5 (by omega)) ?_
      refine E_iconst (v := 5) d_K_allHaveEnded_29 (by decide) ?_
      refine E_icmp_eq (tgt := 35) d_K_allHaveEnded_30 (by decide) (fun c30 => ?_) (fun c30 => ?_)
      · refine E_iinc (v := nI (k + 1)) d_K_allHaveEnded_35 rfl (nI_1 _) (by decide) ?_
        refine E_goto (tgt := 2) d_K_allHaveEnded_38 (by decide) ?_
        exact ih (k + 1) (by omega) (by rw [any_succ, hx]; simp [c30])
      · refine E_iconst (v := 0) d_K_allHaveEnded_33 (by decide) ?_
        exact E_ireturn d_K_allHaveEnded_34 (Or.inr ⟨rfl, (by decide)⟩) rfl (by rw [show aeC C = true from any_of (k := k) (by omega) (by simp [c17, c30])] at hQ; exact hQ)
theorem c_K_allHaveEnded {G : iG} {F : Nat} {C M : Nat → Nat → Int32}  : MI G m_K_allHaveEnded 0 [vR 0] (HW F C M) (fun x h' => x = b2i (!aeC C) ∧ h' = HW F C M) := by
  refine Mt.of' (Ls := [some (vR 0), none]) (by decide) (by simp [ct]) (Nat.le_of_ble_eq_true rfl) rfl ?_
  refine E_iconst (v := 0) d_K_allHaveEnded_0 (by decide) ?_
  refine E_istore_n d_K_allHaveEnded_1 (by decide) ?_
  exact lp_K_allHaveEnded ⟨_, rfl, rfl, rfl⟩ 8 0 rfl rfl
theorem c_K_makeReady {G : iG} {F : Nat} {C M : Nat → Nat → Int32} {i : Nat} (hi : i < 8) {z : Nat} (hz : C 46 1 = nI z) (hz8 : z ≤ 8) : MV G m_K_makeReady 1 [vR 0, vR (tk i)] (HW F C M) (fun h' => h' = HW F (mrC C i z) M) := by
  refine Mt.of' (Ls := [some (vR 0), some (vR (tk i))]) (by decide) (by simp [ct]) (Nat.le_of_ble_eq_true rfl) rfl ?_
  refine E_aload_n d_K_makeReady_0 rfl rfl ?_
  refine E_iconst (v := 1) d_K_makeReady_1 (by decide) ?_
  refine L_pi d_K_makeReady_2 f_K_98 (SH_T0 hi) (by decide) (Or.inl rfl) rfl (fu_T5 _ hi) ?_
  refine E_aload_n d_K_makeReady_5 rfl rfl ?_
  refine L_gr d_K_makeReady_6 f_K_43 rfl (by decide) rfl rfl ?_
  refine E_aload_n d_K_makeReady_9 rfl rfl ?_
  refine L_gi d_K_makeReady_10 f_K_140 (SH_T0 hi) (by decide) rfl (fr_T0 hi) ?_
  refine E_tp (y := C 10 i) (up2_ne2 _ _ _ _ (by decide)) ?_
  refine E_V1v d_K_makeReady_13 w_K_143 rfl (by decide) (Nat.le_of_ble_eq_true rfl) (c_ROW_append ((up2_ne2 _ _ _ _ (by decide)).trans hz) hz8) ?_
  rintro _ rfl
  exact E_return d_K_makeReady_16 rfl rfl ⟨rfl, rfl⟩
theorem c_K_passTurn {G : iG} {F : Nat} {C M : Nat → Nat → Int32} {i : Nat} (hi : i < 8) {z : Nat} (hz : C 46 1 = nI z) (hz8 : z ≤ 8) : MV G m_K_passTurn 1 [vR 0, vR (tk i)] (HW F C M) (fun h' => h' = HW F (ptn C i z) M) := by
  refine Mt.of' (Ls := [some (vR 0), some (vR (tk i))]) (by decide) (by simp [ct]) (Nat.le_of_ble_eq_true rfl) rfl ?_
  refine E_aload_n d_K_passTurn_0 rfl rfl ?_
  refine L_gi d_K_passTurn_1 f_K_98 (SH_T0 hi) (by decide) rfl (fr_T5 hi) ?_
  refine E_iconst (v := 1) d_K_passTurn_4 (by decide) ?_
  refine E_icmp_eq (tgt := 16) d_K_passTurn_5 (by decide) (fun c5 => ?_) (fun c5 => ?_)
  · refine E_aload_n d_K_passTurn_16 rfl rfl ?_
    refine L_gi d_K_passTurn_17 f_K_152 rfl (by decide) rfl (fr_K 12 (by decide)) ?_
    refine E_if_ne (tgt := 30) d_K_passTurn_20 (by decide) (fun c20 => ?_) (fun c20 => ?_)
    · refine E_aload_n d_K_passTurn_30 rfl rfl ?_
      refine L_gr d_K_passTurn_31 f_K_43 rfl (by decide) rfl rfl ?_
      refine E_aload_n d_K_passTurn_34 rfl rfl ?_
      refine L_gi d_K_passTurn_35 f_K_140 (SH_T0 hi) (by decide) rfl (fr_T0 hi) ?_
      refine E_V1v d_K_passTurn_38 w_K_143 rfl (by decide) (Nat.le_of_ble_eq_true rfl) (c_ROW_append hz hz8) ?_
      rintro _ rfl
      refine E_aload_n d_K_passTurn_41 rfl rfl ?_
      refine E_iconst (v := 0) d_K_passTurn_42 (by decide) ?_
      refine L_pi d_K_passTurn_43 f_K_91 rfl (by decide) (Or.inl rfl) rfl (fu_K 10 _ (by decide)) ?_
      exact E_return d_K_passTurn_46 rfl rfl ⟨rfl, by rw [ptn, if_pos c5, if_neg (fun q => c20 q.1)]⟩
    · refine E_aload_n d_K_passTurn_23 rfl rfl ?_
      refine L_gi d_K_passTurn_24 f_K_149 rfl (by decide) rfl (fr_K 11 (by decide)) ?_
      refine E_if_gt (tgt := 46) d_K_passTurn_27 (by decide) (fun c27 => ?_) (fun c27 => ?_)
      · exact E_return d_K_passTurn_46 rfl rfl ⟨rfl, by rw [ptn, if_pos c5, if_pos ⟨c20, c27⟩]⟩
      · refine E_aload_n d_K_passTurn_30 rfl rfl ?_
        refine L_gr d_K_passTurn_31 f_K_43 rfl (by decide) rfl rfl ?_
        refine E_aload_n d_K_passTurn_34 rfl rfl ?_
        refine L_gi d_K_passTurn_35 f_K_140 (SH_T0 hi) (by decide) rfl (fr_T0 hi) ?_
        refine E_V1v d_K_passTurn_38 w_K_143 rfl (by decide) (Nat.le_of_ble_eq_true rfl) (c_ROW_append hz hz8) ?_
        rintro _ rfl
        refine E_aload_n d_K_passTurn_41 rfl rfl ?_
        refine E_iconst (v := 0) d_K_passTurn_42 (by decide) ?_
        refine L_pi d_K_passTurn_43 f_K_91 rfl (by decide) (Or.inl rfl) rfl (fu_K 10 _ (by decide)) ?_
        exact E_return d_K_passTurn_46 rfl rfl ⟨rfl, by rw [ptn, if_pos c5, if_neg (fun q => c27 q.2)]⟩
  · refine E_aload_n d_K_passTurn_8 rfl rfl ?_
    refine E_iconst (v := 0) d_K_passTurn_9 (by decide) ?_
    refine L_pi d_K_passTurn_10 f_K_91 rfl (by decide) (Or.inl rfl) rfl (fu_K 10 _ (by decide)) ?_
    refine E_goto (tgt := 46) d_K_passTurn_13 (by decide) ?_
    exact E_return d_K_passTurn_46 rfl rfl ⟨rfl, by rw [ptn, if_neg c5]⟩
theorem lp_K_isHeld1 {G : iG} {F : Nat} {C M : Nat → Nat → Int32} {Q : Option iV → iH → Prop} {e : Int32} {i : Nat} (hi : i < 8) (hQ : heC C e = true → Q (some (vI 1)) (HW F C M)) (K : (List.range (6 * (i + 1))).any (fun j => C 22 j == e) = false → Ev G m_K_isHeld 0 0 0 39 [some (vR 0), some (vI e), some (vI (nI i)), some (vI (nI 6))] [] (HW F C M) Q) : ∀ (n k : Nat), k + n = 6 → (List.range (6 * i + k)).any (fun j => C 22 j == e) = false → Ev G m_K_isHeld 0 0 0 10 [some (vR 0), some (vI e), some (vI (nI i)), some (vI (nI k))] [] (HW F C M) Q := by
  intro n
  induction n with
  | zero =>
    intro k hk hx
    have e : k = 6 := by omega
    subst e
    refine E_iload_n d_K_isHeld_10 rfl ?_
    refine E_bipush (v := 6) d_K_isHeld_11 (by decide) ?_
    refine E_icmp_ge (tgt := 39) d_K_isHeld_13 (by decide) (fun _ => ?_) (fun c => absurd (by decide) c)
    exact K hx
  | succ n ih =>
    intro k hk hx
    refine E_iload_n d_K_isHeld_10 rfl ?_
    refine E_bipush (v := 6) d_K_isHeld_11 (by decide) ?_
    refine E_icmp_ge (tgt := 39) d_K_isHeld_13 (by decide) (fun c => absurd c (nI_ge (b := 6) (by omega) (by decide))) (fun _ => ?_)
    refine E_aload_n d_K_isHeld_16 rfl rfl ?_
    refine L_gr d_K_isHeld_17 f_K_28 rfl (by decide) rfl rfl ?_
    refine E_iload_n d_K_isHeld_20 rfl ?_
    refine L_ar2 (j := i) d_K_isHeld_21 rfl rfl (by omega) (by decide) rfl ?_
    refine L_gr d_K_isHeld_22 f_K_76 (SH_T0 (by omega)) (by decide) rfl (RH_T 3 (by omega)) ?_
    refine E_iload_n d_K_isHeld_25 rfl ?_
    refine L_ld (j := k) d_K_isHeld_26 (SH_T3 (by omega)) rfl (by omega) (by decide) (fr_D (by omega) (by omega)) ?_
    refine E_iload_n d_K_isHeld_27 rfl ?_
    refine E_icmp_ne (tgt := 33) d_K_isHeld_28 (by decide) (fun c28 => ?_) (fun c28 => ?_)
    · refine E_iinc (v := nI (k + 1)) d_K_isHeld_33 rfl (nI_1 _) (by decide) ?_
      refine E_goto (tgt := 10) d_K_isHeld_36 (by decide) ?_
      exact ih (k + 1) (by omega) (by rw [← Nat.add_assoc, any_succ, hx]; simp [c28])
    · refine E_iconst (v := 1) d_K_isHeld_31 (by decide) ?_
      exact E_ireturn d_K_isHeld_32 (Or.inr ⟨rfl, (by decide)⟩) rfl (hQ (any_of (k := 6 * i + k) (by omega) (by simp [c28])))
theorem lp_K_isHeld2 {G : iG} {F : Nat} {C M : Nat → Nat → Int32} {Q : Option iV → iH → Prop} {e : Int32} (hQ : Q (some (vI (b2i (heC C e)))) (HW F C M)) : ∀ (n k : Nat) (l3 : Option iV), k + n = 8 → (List.range (6 * k)).any (fun j => C 22 j == e) = false → Ev G m_K_isHeld 0 0 0 2 [some (vR 0), some (vI e), some (vI (nI k)), l3] [] (HW F C M) Q := by
  intro n
  induction n with
  | zero =>
    intro k l3 hk hx
    have e8 : k = 8 := by omega
    subst e8
    have hx2 : heC C e = false := hx
    refine E_iload_n d_K_isHeld_2 rfl ?_
    refine E_bipush (v := 8) d_K_isHeld_3 (by decide) ?_
    refine E_icmp_ge (tgt := 45) d_K_isHeld_5 (by decide) (fun _ => ?_) (fun c => absurd (by decide) c)
    refine E_iconst (v := 0) d_K_isHeld_45 (by decide) ?_
    exact E_ireturn d_K_isHeld_46 (Or.inr ⟨rfl, (by decide)⟩) rfl (by rw [hx2] at hQ; exact hQ)
  | succ n ih =>
    intro k l3 hk hx
    refine E_iload_n d_K_isHeld_2 rfl ?_
    refine E_bipush (v := 8) d_K_isHeld_3 (by decide) ?_
    refine E_icmp_ge (tgt := 45) d_K_isHeld_5 (by decide) (fun c => absurd c (nI_ge (b := 8) (by omega) (by decide))) (fun _ => ?_)
    refine E_iconst (v := 0) d_K_isHeld_8 (by decide) ?_
    refine E_istore_n d_K_isHeld_9 (by decide) ?_
    refine lp_K_isHeld1 (by omega) (fun h => by rw [h] at hQ; exact hQ) ?_ 6 0 rfl hx
    intro hx2
    refine E_iinc (v := nI (k + 1)) d_K_isHeld_39 rfl (nI_1 _) (by decide) ?_
    refine E_goto (tgt := 2) d_K_isHeld_42 (by decide) ?_
    exact ih (k + 1) _ (by omega) hx2
theorem c_K_isHeld {G : iG} {F : Nat} {C M : Nat → Nat → Int32} {e : Int32} : MI G m_K_isHeld 0 [vR 0, vI e] (HW F C M) (fun x h' => x = b2i (heC C e) ∧ h' = HW F C M) := by
  refine Mt.of' (Ls := [some (vR 0), some (vI e), none, none]) (by decide) (by simp [ct]) (Nat.le_of_ble_eq_true rfl) rfl ?_
  refine E_iconst (v := 0) d_K_isHeld_0 (by decide) ?_
  refine E_istore_n d_K_isHeld_1 (by decide) ?_
  exact lp_K_isHeld2 ⟨_, rfl, rfl, rfl⟩ 8 0 none rfl rfl
theorem lp_K_hasChild {G : iG} {F : Nat} {C M : Nat → Nat → Int32} {Q : Option iV → iH → Prop} {j : Nat} (hj : j < 8) (hQ : Q (some (vI (b2i (hcC C j)))) (HW F C M)) : ∀ (n k : Nat), k + n = 8 → (List.range k).any (fun i => chC C i j) = false → Ev G m_K_hasChild 1 0 0 2 [some (vR 0), some (vR (tk j)), some (vI (nI k))] [] (HW F C M) Q := by
  intro n
  induction n with
  | zero =>
    intro k hk hx
    have e : k = 8 := by omega
    subst e
    have hx2 : hcC C j = false := hx
    refine E_iload_n d_K_hasChild_2 rfl ?_
    refine E_bipush (v := 8) d_K_hasChild_3 (by decide) ?_
    refine E_icmp_ge (tgt := 29) d_K_hasChild_5 (by decide) (fun _ => ?_) (fun c => absurd (by decide) c)
    refine E_iconst (v := 0) d_K_hasChild_29 (by decide) ?_
    exact E_ireturn d_K_hasChild_30 (Or.inr ⟨rfl, (by decide)⟩) rfl (by rw [hx2] at hQ; exact hQ)
  | succ n ih =>
    intro k hk hx
    refine E_iload_n d_K_hasChild_2 rfl ?_
    refine E_bipush (v := 8) d_K_hasChild_3 (by decide) ?_
    refine E_icmp_ge (tgt := 29) d_K_hasChild_5 (by decide) (fun c => absurd c (nI_ge (b := 8) (by omega) (by decide))) (fun _ => ?_)
    refine E_aload_n d_K_hasChild_8 rfl rfl ?_
    refine L_gr d_K_hasChild_9 f_K_28 rfl (by decide) rfl rfl ?_
    refine E_iload_n d_K_hasChild_12 rfl ?_
    refine L_ar2 (j := k) d_K_hasChild_13 rfl rfl (by omega) (by decide) rfl ?_
    refine E_aload_n d_K_hasChild_14 rfl rfl ?_
    refine E_V1i d_K_hasChild_15 w_K_249 (SH_T0 (by omega)) (by decide) (Nat.le_of_ble_eq_true rfl) (c_T_isChildOf (by omega) hj) ?_
    rintro _ _ ⟨rfl, rfl⟩
    refine E_if_eq (tgt := 23) d_K_hasChild_18 (by decide) (fun c18 => ?_) (fun c18 => ?_)
    · refine E_iinc (v := nI (k + 1)) d_K_hasChild_23 rfl (nI_1 _) (by decide) ?_
      refine E_goto (tgt := 2) d_K_hasChild_26 (by decide) ?_
      exact ih (k + 1) (by omega) (by rw [any_succ, hx, b2i_eq0 c18]; rfl)
    · refine E_iconst (v := 1) d_K_hasChild_21 (by decide) ?_
      exact E_ireturn d_K_hasChild_22 (Or.inr ⟨rfl, (by decide)⟩) rfl (by rw [show hcC C j = true from any_of (k := k) (by omega) (b2i_ne0 c18)] at hQ; exact hQ)
theorem c_K_hasChild {G : iG} {F : Nat} {C M : Nat → Nat → Int32} {j : Nat} (hj : j < 8) : MI G m_K_hasChild 1 [vR 0, vR (tk j)] (HW F C M) (fun x h' => x = b2i (hcC C j) ∧ h' = HW F C M) := by
  refine Mt.of' (Ls := [some (vR 0), some (vR (tk j)), none]) (by decide) (by simp [ct]) (Nat.le_of_ble_eq_true rfl) rfl ?_
  refine E_iconst (v := 0) d_K_hasChild_0 (by decide) ?_
  refine E_istore_n d_K_hasChild_1 (by decide) ?_
  exact lp_K_hasChild hj ⟨_, rfl, rfl, rfl⟩ 8 0 rfl rfl
theorem lp_K_endedChildOf {G : iG} {F : Nat} {C M : Nat → Nat → Int32} {Q : Option iV → iH → Prop} {j : Nat} (hj : j < 8) (hQ : Q (some (vQ (if ecC C j 8 0 < 8 then some (tk (ecC C j 8 0)) else none))) (HW F C M)) : ∀ (n k : Nat), k + n = 8 → ecC C j n k = ecC C j 8 0 → Ev G m_K_endedChildOf 1 0 0 2 [some (vR 0), some (vR (tk j)), some (vI (nI k))] [] (HW F C M) Q := by
  intro n
  induction n with
  | zero =>
    intro k hk hx
    have e : k = 8 := by omega
    subst e
    have hx2 : ecC C j 8 0 = 8 := hx.symm
    refine E_iload_n d_K_endedChildOf_2 rfl ?_
    refine E_bipush (v := 8) d_K_endedChildOf_3 (by decide) ?_
    refine E_icmp_ge (tgt := 47) d_K_endedChildOf_5 (by decide) (fun _ => ?_) (fun c => absurd (by decide) c)
    refine E_null d_K_endedChildOf_47 ?_
    exact E_areturn d_K_endedChildOf_48 rfl rfl (by rw [hx2, if_neg (by decide)] at hQ; exact hQ)
  | succ n ih =>
    intro k hk hx
    refine E_iload_n d_K_endedChildOf_2 rfl ?_
    refine E_bipush (v := 8) d_K_endedChildOf_3 (by decide) ?_
    refine E_icmp_ge (tgt := 47) d_K_endedChildOf_5 (by decide) (fun c => absurd c (nI_ge (b := 8) (by omega) (by decide))) (fun _ => ?_)
    refine E_aload_n d_K_endedChildOf_8 rfl rfl ?_
    refine L_gr d_K_endedChildOf_9 f_K_28 rfl (by decide) rfl rfl ?_
    refine E_iload_n d_K_endedChildOf_12 rfl ?_
    refine L_ar2 (j := k) d_K_endedChildOf_13 rfl rfl (by omega) (by decide) rfl ?_
    refine E_aload_n d_K_endedChildOf_14 rfl rfl ?_
    refine E_V1i d_K_endedChildOf_15 w_K_249 (SH_T0 (by omega)) (by decide) (Nat.le_of_ble_eq_true rfl) (c_T_isChildOf (by omega) hj) ?_
    rintro _ _ ⟨rfl, rfl⟩
    refine E_if_eq (tgt := 41) d_K_endedChildOf_18 (by decide) (fun c18 => ?_) (fun c18 => ?_)
    · refine E_iinc (v := nI (k + 1)) d_K_endedChildOf_41 rfl (nI_1 _) (by decide) ?_
      refine E_goto (tgt := 2) d_K_endedChildOf_44 (by decide) ?_
      exact ih (k + 1) (by omega) (by rw [← hx, ecC, if_neg (fun q => absurd q.1 (by rw [b2i_eq0 c18]; decide))])
    · refine E_aload_n d_K_endedChildOf_21 rfl rfl ?_
      refine L_gr d_K_endedChildOf_22 f_K_28 rfl (by decide) rfl rfl ?_
      refine E_iload_n d_K_endedChildOf_25 rfl ?_
      refine L_ar2 (j := k) d_K_endedChildOf_26 rfl rfl (by omega) (by decide) rfl ?_
      refine L_gi d_K_endedChildOf_27 f_K_98 (SH_T0 (by omega)) (by decide) rfl (fr_T5 (by omega)) ?_
      refine E_iconst (v := 5) d_K_endedChildOf_30 (by decide) ?_
      refine E_icmp_ne (tgt := 41) d_K_endedChildOf_31 (by decide) (fun c31 => ?_) (fun c31 => ?_)
      · refine E_iinc (v := nI (k + 1)) d_K_endedChildOf_41 rfl (nI_1 _) (by decide) ?_
        refine E_goto (tgt := 2) d_K_endedChildOf_44 (by decide) ?_
        exact ih (k + 1) (by omega) (by rw [← hx, ecC, if_neg (fun q => c31 q.2)])
      · refine E_aload_n d_K_endedChildOf_34 rfl rfl ?_
        refine L_gr d_K_endedChildOf_35 f_K_28 rfl (by decide) rfl rfl ?_
        refine E_iload_n d_K_endedChildOf_38 rfl ?_
        refine L_ar2 (j := k) d_K_endedChildOf_39 rfl rfl (by omega) (by decide) rfl ?_
        exact E_areturn d_K_endedChildOf_40 rfl rfl (by rw [ecC, if_pos ⟨b2i_ne0 c18, c31⟩] at hx; rw [← hx, if_pos (by omega)] at hQ; exact hQ)
theorem c_K_endedChildOf {G : iG} {F : Nat} {C M : Nat → Nat → Int32} {j : Nat} (hj : j < 8) : MQ_ G m_K_endedChildOf 1 [vR 0, vR (tk j)] (HW F C M) (fun x h' => x = (if ecC C j 8 0 < 8 then some (tk (ecC C j 8 0)) else none) ∧ h' = HW F C M) := by
  refine Mt.of' (Ls := [some (vR 0), some (vR (tk j)), none]) (by decide) (by simp [ct]) (Nat.le_of_ble_eq_true rfl) rfl ?_
  refine E_iconst (v := 0) d_K_endedChildOf_0 (by decide) ?_
  refine E_istore_n d_K_endedChildOf_1 (by decide) ?_
  exact lp_K_endedChildOf hj ⟨_, rfl, rfl, rfl⟩ 8 0 rfl rfl
theorem lp_K_leastAbsent {G : iG} {F : Nat} {C M : Nat → Nat → Int32} {Q : Option iV → iH → Prop} (hQ : Q (some (vQ (if laC C 8 0 < 8 then some (tk (laC C 8 0)) else none))) (HW F C M)) : ∀ (n k : Nat), k + n = 8 → laC C n k = laC C 8 0 → Ev G m_K_leastAbsent 0 0 0 2 [some (vR 0), some (vI (nI k))] [] (HW F C M) Q := by
  intro n
  induction n with
  | zero =>
    intro k hk hx
    have e : k = 8 := by omega
    subst e
    have hx2 : laC C 8 0 = 8 := hx.symm
    refine E_iload_n d_K_leastAbsent_2 rfl ?_
    refine E_bipush (v := 8) d_K_leastAbsent_3 (by decide) ?_
    refine E_icmp_ge (tgt := 33) d_K_leastAbsent_5 (by decide) (fun _ => ?_) (fun c => absurd (by decide) c)
    refine E_null d_K_leastAbsent_33 ?_
    exact E_areturn d_K_leastAbsent_34 rfl rfl (by rw [hx2, if_neg (by decide)] at hQ; exact hQ)
  | succ n ih =>
    intro k hk hx
    refine E_iload_n d_K_leastAbsent_2 rfl ?_
    refine E_bipush (v := 8) d_K_leastAbsent_3 (by decide) ?_
    refine E_icmp_ge (tgt := 33) d_K_leastAbsent_5 (by decide) (fun c => absurd c (nI_ge (b := 8) (by omega) (by decide))) (fun _ => ?_)
    refine E_aload_n d_K_leastAbsent_8 rfl rfl ?_
    refine L_gr d_K_leastAbsent_9 f_K_28 rfl (by decide) rfl rfl ?_
    refine E_iload_n d_K_leastAbsent_12 rfl ?_
    refine L_ar2 (j := k) d_K_leastAbsent_13 rfl rfl (by omega) (by decide) rfl ?_
    refine L_gi d_K_leastAbsent_14 f_K_98 (SH_T0 (by omega)) (by decide) rfl (fr_T5 (by omega)) ?_
    refine E_if_ne (tgt := 27) d_K_leastAbsent_17 (by decide) (fun c17 => ?_) (fun c17 => ?_)
    · refine E_iinc (v := nI (k + 1)) d_K_leastAbsent_27 rfl (nI_1 _) (by decide) ?_
      refine E_goto (tgt := 2) d_K_leastAbsent_30 (by decide) ?_
      exact ih (k + 1) (by omega) (by rw [← hx, laC, if_neg c17])
    · refine E_aload_n d_K_leastAbsent_20 rfl rfl ?_
      refine L_gr d_K_leastAbsent_21 f_K_28 rfl (by decide) rfl rfl ?_
      refine E_iload_n d_K_leastAbsent_24 rfl ?_
      refine L_ar2 (j := k) d_K_leastAbsent_25 rfl rfl (by omega) (by decide) rfl ?_
      exact E_areturn d_K_leastAbsent_26 rfl rfl (by rw [laC, if_pos c17] at hx; rw [← hx, if_pos (by omega)] at hQ; exact hQ)
theorem c_K_leastAbsent {G : iG} {F : Nat} {C M : Nat → Nat → Int32}  : MQ_ G m_K_leastAbsent 0 [vR 0] (HW F C M) (fun x h' => x = (if laC C 8 0 < 8 then some (tk (laC C 8 0)) else none) ∧ h' = HW F C M) := by
  refine Mt.of' (Ls := [some (vR 0), none]) (by decide) (by simp [ct]) (Nat.le_of_ble_eq_true rfl) rfl ?_
  refine E_iconst (v := 0) d_K_leastAbsent_0 (by decide) ?_
  refine E_istore_n d_K_leastAbsent_1 (by decide) ?_
  exact lp_K_leastAbsent ⟨_, rfl, rfl, rfl⟩ 8 0 rfl rfl
theorem c_K_isFreePipe {G : iG} {F : Nat} {C M : Nat → Nat → Int32} {p : Nat} (hp : p < 4) : MI G m_K_isFreePipe 1 [vR 0, vI (nI p)] (HW F C M) (fun x h' => x = b2i (frC C p) ∧ h' = HW F C M) := by
  refine Mt.of' (Ls := [some (vR 0), some (vI (nI p))]) (by decide) (by simp [ct]) (Nat.le_of_ble_eq_true rfl) rfl ?_
  refine E_aload_n d_K_isFreePipe_0 rfl rfl ?_
  refine E_iconst (v := 1) d_K_isFreePipe_1 (by decide) ?_
  refine E_iconst (v := 2) d_K_isFreePipe_2 (by decide) ?_
  refine E_iload_n d_K_isFreePipe_3 rfl ?_
  refine E_imul d_K_isFreePipe_4 ?_
  refine E_tp (y := nI (2 * p)) (pk_mul 2 p) ?_
  refine E_iadd d_K_isFreePipe_5 ?_
  refine E_tp (y := nI (1 + (2 * p))) (nI_add 1 (2 * p)) ?_
  refine E_V1i d_K_isFreePipe_6 w_K_201 rfl (by decide) (Nat.le_of_ble_eq_true rfl) (c_K_isHeld) ?_
  rintro _ _ ⟨rfl, rfl⟩
  refine E_if_ne (tgt := 28) d_K_isFreePipe_9 (by decide) (fun c9 => ?_) (fun c9 => ?_)
  · refine E_iconst (v := 0) d_K_isFreePipe_28 (by decide) ?_
    exact E_ireturn d_K_isFreePipe_29 (Or.inr ⟨rfl, (by decide)⟩) rfl ⟨_, rfl, by rw [frC, b2i_ne0 c9]; rfl, rfl⟩
  · refine E_aload_n d_K_isFreePipe_12 rfl rfl ?_
    refine E_iconst (v := 2) d_K_isFreePipe_13 (by decide) ?_
    refine E_iconst (v := 2) d_K_isFreePipe_14 (by decide) ?_
    refine E_iload_n d_K_isFreePipe_15 rfl ?_
    refine E_imul d_K_isFreePipe_16 ?_
    refine E_tp (y := nI (2 * p)) (pk_mul 2 p) ?_
    refine E_iadd d_K_isFreePipe_17 ?_
    refine E_tp (y := nI (2 + (2 * p))) (nI_add 2 (2 * p)) ?_
    refine E_V1i d_K_isFreePipe_18 w_K_201 rfl (by decide) (Nat.le_of_ble_eq_true rfl) (c_K_isHeld) ?_
    rintro _ _ ⟨rfl, rfl⟩
    refine E_if_ne (tgt := 28) d_K_isFreePipe_21 (by decide) (fun c21 => ?_) (fun c21 => ?_)
    · refine E_iconst (v := 0) d_K_isFreePipe_28 (by decide) ?_
      exact E_ireturn d_K_isFreePipe_29 (Or.inr ⟨rfl, (by decide)⟩) rfl ⟨_, rfl, by rw [frC, b2i_ne0 c21]; simp [b2i], rfl⟩
    · refine E_iconst (v := 1) d_K_isFreePipe_24 (by decide) ?_
      refine E_goto (tgt := 29) d_K_isFreePipe_25 (by decide) ?_
      exact E_ireturn d_K_isFreePipe_29 (Or.inr ⟨rfl, (by decide)⟩) rfl ⟨_, rfl, by rw [frC, b2i_eq0 c9, b2i_eq0 c21]; rfl, rfl⟩
theorem lp_K_leastFreeReadingEnd {G : iG} {F : Nat} {C M : Nat → Nat → Int32} {Q : Option iV → iH → Prop} (hQ : Q (some (vI (lfx C))) (HW F C M)) : ∀ (n k : Nat), k + n = 4 → lfC C n k = lfC C 4 0 → Ev G m_K_leastFreeReadingEnd 2 0 0 2 [some (vR 0), some (vI (nI k))] [] (HW F C M) Q := by
  intro n
  induction n with
  | zero =>
    intro k hk hx
    have e : k = 4 := by omega
    subst e
    have hx2 : lfC C 4 0 = 4 := hx.symm
    refine E_iload_n d_K_leastFreeReadingEnd_2 rfl ?_
    refine E_iconst (v := 4) d_K_leastFreeReadingEnd_3 (by decide) ?_
    refine E_icmp_ge (tgt := 27) d_K_leastFreeReadingEnd_4 (by decide) (fun _ => ?_) (fun c => absurd (by decide) c)
    refine E_iconst (v := -1) d_K_leastFreeReadingEnd_27 (by decide) ?_
    exact E_ireturn d_K_leastFreeReadingEnd_28 (Or.inl rfl) rfl (by rw [lfx, hx2, if_neg (by decide)] at hQ; exact hQ)
  | succ n ih =>
    intro k hk hx
    refine E_iload_n d_K_leastFreeReadingEnd_2 rfl ?_
    refine E_iconst (v := 4) d_K_leastFreeReadingEnd_3 (by decide) ?_
    refine E_icmp_ge (tgt := 27) d_K_leastFreeReadingEnd_4 (by decide) (fun c => absurd c (nI_ge (b := 4) (by omega) (by decide))) (fun _ => ?_)
    refine E_aload_n d_K_leastFreeReadingEnd_7 rfl rfl ?_
    refine E_iload_n d_K_leastFreeReadingEnd_8 rfl ?_
    refine E_V1i d_K_leastFreeReadingEnd_9 w_K_127 rfl (by decide) (Nat.le_of_ble_eq_true rfl) (c_K_isFreePipe (by omega)) ?_
    rintro _ _ ⟨rfl, rfl⟩
    refine E_if_eq (tgt := 21) d_K_leastFreeReadingEnd_12 (by decide) (fun c12 => ?_) (fun c12 => ?_)
    · refine E_iinc (v := nI (k + 1)) d_K_leastFreeReadingEnd_21 rfl (nI_1 _) (by decide) ?_
      refine E_goto (tgt := 2) d_K_leastFreeReadingEnd_24 (by decide) ?_
      exact ih (k + 1) (by omega) (by rw [← hx, lfC, if_neg (by rw [b2i_eq0 c12]; decide)])
    · refine E_iconst (v := 1) d_K_leastFreeReadingEnd_15 (by decide) ?_
      refine E_iconst (v := 2) d_K_leastFreeReadingEnd_16 (by decide) ?_
      refine E_iload_n d_K_leastFreeReadingEnd_17 rfl ?_
      refine E_imul d_K_leastFreeReadingEnd_18 ?_
      refine E_tp (y := nI (2 * k)) (pk_mul 2 k) ?_
      refine E_iadd d_K_leastFreeReadingEnd_19 ?_
      refine E_tp (y := nI (1 + (2 * k))) (nI_add 1 (2 * k)) ?_
      exact E_ireturn d_K_leastFreeReadingEnd_20 (Or.inl rfl) rfl (by rw [lfC, if_pos (b2i_ne0 c12)] at hx; rw [lfx, ← hx, if_pos (by omega)] at hQ; exact hQ)
theorem c_K_leastFreeReadingEnd {G : iG} {F : Nat} {C M : Nat → Nat → Int32}  : MI G m_K_leastFreeReadingEnd 2 [vR 0] (HW F C M) (fun x h' => x = lfx C ∧ h' = HW F C M) := by
  refine Mt.of' (Ls := [some (vR 0), none]) (by decide) (by simp [ct]) (Nat.le_of_ble_eq_true rfl) rfl ?_
  refine E_iconst (v := 0) d_K_leastFreeReadingEnd_0 (by decide) ?_
  refine E_istore_n d_K_leastFreeReadingEnd_1 (by decide) ?_
  exact lp_K_leastFreeReadingEnd ⟨_, rfl, rfl, rfl⟩ 4 0 rfl rfl
theorem c_K_isReadingEnd {G : iG} {F : Nat} {C M : Nat → Nat → Int32} {x0 : Int32} : MI G m_K_isReadingEnd 0 [vI x0] (HW F C M) (fun x h' => x = b2i (reE x0) ∧ h' = HW F C M) := by
  refine Mt.of' (Ls := [some (vI x0)]) (by decide) (by simp [ct]) (Nat.le_of_ble_eq_true rfl) rfl ?_
  refine E_iload_n d_K_isReadingEnd_0 rfl ?_
  refine E_if_le (tgt := 15) d_K_isReadingEnd_1 (by decide) (fun c1 => ?_) (fun c1 => ?_)
  · refine E_iconst (v := 0) d_K_isReadingEnd_15 (by decide) ?_
    exact E_ireturn d_K_isReadingEnd_16 (Or.inr ⟨rfl, (by decide)⟩) rfl ⟨_, rfl, by rw [reE, decide_eq_false (Int32.not_lt.mpr c1)]; rfl, rfl⟩
  · refine E_iload_n d_K_isReadingEnd_4 rfl ?_
    refine E_iconst (v := 1) d_K_isReadingEnd_5 (by decide) ?_
    refine E_iand d_K_isReadingEnd_6 ?_
    refine E_iconst (v := 1) d_K_isReadingEnd_7 (by decide) ?_
    refine E_icmp_ne (tgt := 15) d_K_isReadingEnd_8 (by decide) (fun c8 => ?_) (fun c8 => ?_)
    · refine E_iconst (v := 0) d_K_isReadingEnd_15 (by decide) ?_
      exact E_ireturn d_K_isReadingEnd_16 (Or.inr ⟨rfl, (by decide)⟩) rfl ⟨_, rfl, by rw [reE, decide_eq_false c8]; simp [b2i], rfl⟩
    · refine E_iconst (v := 1) d_K_isReadingEnd_11 (by decide) ?_
      refine E_goto (tgt := 16) d_K_isReadingEnd_12 (by decide) ?_
      exact E_ireturn d_K_isReadingEnd_16 (Or.inr ⟨rfl, (by decide)⟩) rfl ⟨_, rfl, by rw [reE, decide_eq_true (Int32.not_le.mp c1), decide_eq_true c8]; rfl, rfl⟩
theorem c_K_isWritingEnd {G : iG} {F : Nat} {C M : Nat → Nat → Int32} {x0 : Int32} : MI G m_K_isWritingEnd 0 [vI x0] (HW F C M) (fun x h' => x = b2i (wrE x0) ∧ h' = HW F C M) := by
  refine Mt.of' (Ls := [some (vI x0)]) (by decide) (by simp [ct]) (Nat.le_of_ble_eq_true rfl) rfl ?_
  refine E_iload_n d_K_isWritingEnd_0 rfl ?_
  refine E_if_le (tgt := 14) d_K_isWritingEnd_1 (by decide) (fun c1 => ?_) (fun c1 => ?_)
  · refine E_iconst (v := 0) d_K_isWritingEnd_14 (by decide) ?_
    exact E_ireturn d_K_isWritingEnd_15 (Or.inr ⟨rfl, (by decide)⟩) rfl ⟨_, rfl, by rw [wrE, decide_eq_false (Int32.not_lt.mpr c1)]; rfl, rfl⟩
  · refine E_iload_n d_K_isWritingEnd_4 rfl ?_
    refine E_iconst (v := 1) d_K_isWritingEnd_5 (by decide) ?_
    refine E_iand d_K_isWritingEnd_6 ?_
    refine E_if_ne (tgt := 14) d_K_isWritingEnd_7 (by decide) (fun c7 => ?_) (fun c7 => ?_)
    · refine E_iconst (v := 0) d_K_isWritingEnd_14 (by decide) ?_
      exact E_ireturn d_K_isWritingEnd_15 (Or.inr ⟨rfl, (by decide)⟩) rfl ⟨_, rfl, by rw [wrE, decide_eq_false c7]; simp [b2i], rfl⟩
    · refine E_iconst (v := 1) d_K_isWritingEnd_10 (by decide) ?_
      refine E_goto (tgt := 15) d_K_isWritingEnd_11 (by decide) ?_
      exact E_ireturn d_K_isWritingEnd_15 (Or.inr ⟨rfl, (by decide)⟩) rfl ⟨_, rfl, by rw [wrE, decide_eq_true (Int32.not_le.mp c1), decide_eq_true c7]; rfl, rfl⟩
theorem c_K_pipeOf {G : iG} {F : Nat} {C M : Nat → Nat → Int32} {e : Nat} (h1 : 1 ≤ e) (h8 : e ≤ 8) : MQ_ G m_K_pipeOf 0 [vR 0, vI (nI e)] (HW F C M) (fun x h' => x = some (pp ((e - 1) / 2)) ∧ h' = HW F C M) := by
  refine Mt.of' (Ls := [some (vR 0), some (vI (nI e))]) (by decide) (by simp [ct]) (Nat.le_of_ble_eq_true rfl) rfl ?_
  refine E_aload_n d_K_pipeOf_0 rfl rfl ?_
  refine L_gr d_K_pipeOf_1 f_K_35 rfl (by decide) rfl rfl ?_
  refine E_iload_n d_K_pipeOf_4 rfl ?_
  refine E_iconst (v := 1) d_K_pipeOf_5 (by decide) ?_
  refine E_isub d_K_pipeOf_6 ?_
  refine E_iconst (v := 1) d_K_pipeOf_7 (by decide) ?_
  refine E_iushr d_K_pipeOf_8 ?_
  refine E_iconst (v := 3) d_K_pipeOf_9 (by decide) ?_
  refine E_iand d_K_pipeOf_10 ?_
  refine E_tp (y := nI ((e - 1) / 2)) (pipe_ix e h8 h1) ?_
  refine L_ar3 (j := (e - 1) / 2) d_K_pipeOf_11 rfl rfl (by omega) (by decide) rfl ?_
  exact E_areturn d_K_pipeOf_12 rfl rfl ⟨_, rfl, rfl, rfl⟩

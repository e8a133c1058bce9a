/-! ===== the class's kernel, third row ===== -/
theorem nI_nm {n : Nat} (h : n < 2 ^ 31) : ¬ nI n = -1 := fun q => by
  have := nI_pos' (n := n) h
  rw [q] at this
  exact absurd this (by decide)
theorem lnx_in {C : Nat → Nat → Int32} {i f : Nat} (h : lnC C i (6 - f) f < 6) : lnx C i f = nI (lnC C i (6 - f) f) := if_pos h
theorem lnx_out {C : Nat → Nat → Int32} {i f : Nat} (h : ¬ lnC C i (6 - f) f < 6) : lnx C i f = -1 := if_neg h
/-- the children among the first k tasks of task i go to heir -/
def hok (C : Nat → Nat → Int32) (i : Nat) (heir : Int32) : Nat → Nat → Nat → Int32
  | 0 => C
  | k + 1 => if chC (hok C i heir k) k i = true then (if heir = 0 ∧ hok C i heir k 15 k = 5 then up2 (up2 (hok C i heir k) 17 k heir) 15 k 0 else up2 (hok C i heir k) 17 k heir) else hok C i heir k
def hoC (C : Nat → Nat → Int32) (i : Nat) : Nat → Nat → Int32 := hok C i (if C 15 0 = 5 then 0 else 1) 8
def en1 (C : Nat → Nat → Int32) (i s z : Nat) (code : Int32) : Nat → Nat → Int32 := up2 (up2 (drC (upr (tbC C i s) 22 (6 * i) 6 (fun _ => -1)) z (C 10 i)) 15 i 5) 18 i code
def enC (C : Nat → Nat → Int32) (i s z : Nat) (code : Int32) : Nat → Nat → Int32 := if hoC (en1 C i s z code) i 17 i = 0 ∧ ¬ hoC (en1 C i s z code) i 10 i = 1 then up2 (hoC (en1 C i s z code) i) 15 i 0 else hoC (en1 C i s z code) i
def kiC (C : Nat → Nat → Int32) (z : Nat) (x : Int32) : iX := if isbC C x = true ∧ ¬ C 15 (nv x - 1) = 5 then (0, enC C (nv x - 1) (nv (C 14 (nv x - 1))) z 137) else (-1, C)
def grC (C : Nat → Nat → Int32) (i s u F : Nat) (x : Int32) : iX := if 1 ≤ x ∧ x ≤ 8 - nI s ∧ x ≤ nI u then (gvC i (nv x) F C 0 0 s 14 i, gvC i (nv x) F C 0 0 s) else (-1, C)
def fk1 (C : Nat → Nat → Int32) (i c : Nat) : Nat → Nat → Int32 := sR (up2 (cfC C c i) 17 c (C 10 i)) c 10 0
def fkG (C : Nat → Nat → Int32) (i c s F : Nat) : Nat → Nat → Int32 := gvC c s F (fk1 C i c) 0 0 0
def fkC (C : Nat → Nat → Int32) (i s u z F : Nat) : iX := if laC C 8 0 < 8 ∧ s ≤ u then (mrC (cpg (fkG C i (laC C 8 0) s F) i (laC C 8 0) s) (laC C 8 0) z 10 (laC C 8 0), mrC (cpg (fkG C i (laC C 8 0) s F) i (laC C 8 0) s) (laC C 8 0) z) else (-1, C)
def anC (C : Nat → Nat → Int32) (i F s u z n : Nat) (a : Int32) : iX :=
  if C 20 (32 * i + 17) = 0 then (a, up2 C 0 12 1)
  else if C 20 (32 * i + 17) = 1 then (a, enC C i s z a)
  else if C 20 (32 * i + 17) = 2 then (C 10 i, C)
  else if C 20 (32 * i + 17) = 3 then fkC C i s u z F
  else if C 20 (32 * i + 17) = 4 then coC C i
  else if C 20 (32 * i + 17) = 5 then grC C i s u F a
  else if C 20 (32 * i + 17) = 6 then wtC C n (eA C i a) (C 20 (32 * i + 11) &&& 255)
  else if C 20 (32 * i + 17) = 7 then rdC C (eA C i a)
  else if C 20 (32 * i + 17) = 8 then opC C i
  else if C 20 (32 * i + 17) = 9 then csC C i a
  else if C 20 (32 * i + 17) = 10 then duC C i a
  else if C 20 (32 * i + 17) = 11 then kiC C z a
  else (-1, C)
theorem gvC_ne (i more : Nat) {a : Nat} (x : Nat) (h1 : a ≠ 1) (h2 : a ≠ 2) (h3 : a ≠ 3) (h14 : a ≠ 14) (h21 : a ≠ 21) : ∀ (n : Nat) (C : Nat → Nat → Int32) (k g s : Nat), gvC i more n C k g s a x = C a x
  | 0, C, k, g, s => rfl
  | n + 1, C, k, g, s => by
    unfold gvC
    split
    · split
      · rw [gvC_ne i more x h1 h2 h3 h14 h21 n, gv1, up2_ne2 _ _ _ _ h14, up2_ne2 _ _ _ _ h21, clC, upr_ne _ _ _ _ _ h2, up2_ne2 _ _ _ _ h1, up2_ne2 _ _ _ _ h3]
      · exact gvC_ne i more x h1 h2 h3 h14 h21 n C (k + 1) g s
    · rfl
theorem sR_ne (C : Nat → Nat → Int32) (i k : Nat) (v : Int32) {a : Nat} (x : Nat) (h : a ≠ 20) : sR C i k v a x = C a x := by
  unfold sR
  split
  · rfl
  · exact up2_ne2 _ _ _ _ h
theorem cfC_ne (C : Nat → Nat → Int32) (i j : Nat) {a : Nat} (x : Nat) (h16 : a ≠ 16) (h20 : a ≠ 20) (h22 : a ≠ 22) : cfC C i j a x = C a x := by
  rw [cfC, upr_ne _ _ _ _ _ h22, upr_ne _ _ _ _ _ h20, up2_ne2 _ _ _ _ h16]
theorem fk1_ne (C : Nat → Nat → Int32) (i c : Nat) {a : Nat} (x : Nat) (h16 : a ≠ 16) (h17 : a ≠ 17) (h20 : a ≠ 20) (h22 : a ≠ 22) : fk1 C i c a x = C a x := by
  rw [fk1, sR_ne _ _ _ _ _ h20, up2_ne2 _ _ _ _ h17, cfC_ne _ _ _ _ h16 h20 h22]
theorem apC_ne (C : Nat → Nat → Int32) (z : Nat) (v : Int32) {a : Nat} (x : Nat) (h46 : a ≠ 46) (h47 : a ≠ 47) : apC C z v a x = C a x := by
  unfold apC
  split
  · rw [up2_ne2 _ _ _ _ h46, up2_ne2 _ _ _ _ h47]
  · rfl
theorem drC_ne (C : Nat → Nat → Int32) (z : Nat) (v : Int32) {a : Nat} (x : Nat) (h46 : a ≠ 46) (h47 : a ≠ 47) : drC C z v a x = C a x := by
  rw [drC, up2_ne2 _ _ _ _ h46, upl_ne _ _ _ h47]
theorem mrC_ne (C : Nat → Nat → Int32) (i z : Nat) {a : Nat} (x : Nat) (h15 : a ≠ 15) (h46 : a ≠ 46) (h47 : a ≠ 47) : mrC C i z a x = C a x := by
  rw [mrC, apC_ne _ _ _ _ h46 h47, up2_ne2 _ _ _ _ h15]
/-- the sleepers among the first k tasks that nothing holds back are made ready -/
def wsk (C : Nat → Nat → Int32) : Nat → Nat → Nat → Int32
  | 0 => C
  | k + 1 => if slC (wsk C k) k = true ∧ obC (wsk C k) k = 1 then mrC (wsk C k) k (nv (wsk C k 46 1)) else wsk C k
theorem wsk_ne (C : Nat → Nat → Int32) {a : Nat} (x : Nat) (h15 : a ≠ 15) (h46 : a ≠ 46) (h47 : a ≠ 47) : ∀ k, wsk C k a x = C a x
  | 0 => rfl
  | k + 1 => by
    unfold wsk
    split
    · rw [mrC_ne _ _ _ _ h15 h46 h47, wsk_ne C x h15 h46 h47 k]
    · exact wsk_ne C x h15 h46 h47 k
theorem mrC_z {C : Nat → Nat → Int32} {i z : Nat} (hz : C 46 1 = nI z) (hz8 : z ≤ 8) : ∃ z', z' ≤ 8 ∧ mrC C i z 46 1 = nI z' := by
  unfold mrC apC
  split
  · exact ⟨z + 1, by omega, by simp [up2]⟩
  · exact ⟨z, hz8, by rw [up2_ne2 _ _ _ _ (by decide)]; exact hz⟩
theorem wsk_z {C : Nat → Nat → Int32} {z : Nat} (hz : C 46 1 = nI z) (hz8 : z ≤ 8) : ∀ k, ∃ z', z' ≤ 8 ∧ wsk C k 46 1 = nI z'
  | 0 => ⟨z, hz8, hz⟩
  | k + 1 => by
    obtain ⟨z', h1, h2⟩ := wsk_z hz hz8 k
    unfold wsk
    split
    · rw [h2, nv_nI (by omega)]
      exact mrC_z h2 h1
    · exact ⟨z', h1, h2⟩
def ms1 (C : Nat → Nat → Int32) (z : Nat) : Nat → Nat → Int32 := if C 0 10 = 0 then up2 (up2 (drC C z (atC C z 0)) 0 10 (atC C z 0)) 0 11 (C 0 4) else C
def ms2 (C : Nat → Nat → Int32) : Nat → Nat → Int32 := up2 (up2 C 0 12 0) 0 11 (C 0 11 - 1)
def ms3 (C : Nat → Nat → Int32) (i F s u z n : Nat) (o : Int32) : Nat → Nat → Int32 :=
  if o = -2 then (if obC C i = 1 then sR (anC (bcC C i) i F s u z n (bcC C i 20 (32 * i + 10))).2 i 10 (anC (bcC C i) i F s u z n (bcC C i 20 (32 * i + 10))).1 else bcC C i) else if o < 0 then C else enC C i s z (128 + o)
def ms4 (C : Nat → Nat → Int32) (i : Nat) : Nat → Nat → Int32 := wsk (ptn C i (nv (C 46 1))) 8
theorem ptn_z {C : Nat → Nat → Int32} {i z : Nat} (hz : C 46 1 = nI z) (hz8 : z ≤ 8) : ∃ z', z' ≤ 8 ∧ ptn C i z 46 1 = nI z' := by
  unfold ptn apC
  repeat' split
  · exact ⟨z, hz8, hz⟩
  · exact ⟨z + 1, by omega, by simp [up2]⟩
  · exact ⟨z, hz8, by rw [up2_ne2 _ _ _ _ (by decide)]; exact hz⟩
  · exact ⟨z, hz8, by rw [up2_ne2 _ _ _ _ (by decide)]; exact hz⟩
theorem ptn_ne (C : Nat → Nat → Int32) (i z : Nat) {a : Nat} (x : Nat) (h0 : a ≠ 0) (h46 : a ≠ 46) (h47 : a ≠ 47) : ptn C i z a x = C a x := by
  unfold ptn
  repeat' split
  · rfl
  · rw [up2_ne2 _ _ _ _ h0, apC_ne _ _ _ _ h46 h47]
  · rw [up2_ne2 _ _ _ _ h0]
theorem c_K_beginCall {G : iG} {F : Nat} {C M : Nat → Nat → Int32} {i : Nat} (hi : i < 8) (hd : dsE C i) : MI G m_K_beginCall 3 [vR 0, vR (tk i)] (HW F C M) (fun x h' => (x = if obC C i = 1 then 1 else 0) ∧ h' = HW F (bcC C i) M) := by
  refine Mt.of' (Ls := [some (vR 0), some (vR (tk i))]) (by decide) (by simp [ct]) (Nat.le_of_ble_eq_true rfl) rfl ?_
  refine E_aload_n d_K_beginCall_0 rfl rfl ?_
  refine E_aload_n d_K_beginCall_1 rfl rfl ?_
  refine E_aload_n d_K_beginCall_2 rfl rfl ?_
  refine E_V1i d_K_beginCall_3 w_K_180 rfl (by decide) (Nat.le_of_ble_eq_true rfl) (c_K_obstacleOf hi hd) ?_
  rintro _ _ ⟨rfl, rfl⟩
  refine L_pi d_K_beginCall_6 f_K_98 (SH_T0 hi) (by decide) (Or.inl rfl) rfl (fu_T5 _ hi) ?_
  refine E_aload_n d_K_beginCall_9 rfl rfl ?_
  refine L_gi d_K_beginCall_10 f_K_98 (SH_T0 hi) (by decide) rfl (fr_T5 hi) ?_
  refine E_tp (y := obC C i) (by simp [up2]) ?_
  refine E_iconst (v := 1) d_K_beginCall_13 (by decide) ?_
  refine E_icmp_eq (tgt := 19) d_K_beginCall_14 (by decide) (fun c14 => ?_) (fun c14 => ?_)
  · refine E_aload_n d_K_beginCall_19 rfl rfl ?_
    refine E_dup d_K_beginCall_20 rfl ?_
    refine L_gi d_K_beginCall_21 f_K_114 (SH_T0 hi) (by decide) rfl (fr_T6 hi) ?_
    refine E_tp (y := C 16 i) (up2_ne2 _ _ _ _ (by decide)) ?_
    refine E_iconst (v := 4) d_K_beginCall_24 (by decide) ?_
    refine E_iadd d_K_beginCall_25 ?_
    refine L_pi d_K_beginCall_26 f_K_114 (SH_T0 hi) (by decide) (Or.inl rfl) rfl (fu_T6 _ hi) ?_
    refine E_iconst (v := 1) d_K_beginCall_29 (by decide) ?_
    exact E_ireturn d_K_beginCall_30 (Or.inr ⟨rfl, (by decide)⟩) rfl ⟨_, rfl, by rw [if_pos c14], by rw [bcC, if_pos c14, c14]⟩
  · refine E_iconst (v := 0) d_K_beginCall_17 (by decide) ?_
    exact E_ireturn d_K_beginCall_18 (Or.inr ⟨rfl, (by decide)⟩) rfl ⟨_, rfl, by rw [if_neg c14], by rw [bcC, if_neg c14]⟩
theorem c_K_collectChild {G : iG} {F : Nat} {C M : Nat → Nat → Int32} {i : Nat} (hi : i < 8) : MI G m_K_collectChild 2 [vR 0, vR (tk i)] (HW F C M) (fun x h' => x = (coC C i).1 ∧ h' = HW F (coC C i).2 M) := by
  refine Mt.of' (Ls := [some (vR 0), some (vR (tk i)), none]) (by decide) (by simp [ct]) (Nat.le_of_ble_eq_true rfl) rfl ?_
  by_cases he : ecC C i 8 0 < 8
  · obtain ⟨c, hc⟩ : ∃ c, c = ecC C i 8 0 := ⟨_, rfl⟩
    have ec := coC.eq_1 C i
    rw [if_pos he, ← hc] at ec
    rw [← hc] at he
    rw [ec]
    refine E_aload_n d_K_collectChild_0 rfl rfl ?_
    refine E_aload_n d_K_collectChild_1 rfl rfl ?_
    refine E_V1q d_K_collectChild_2 w_K_187 rfl (by decide) (Nat.le_of_ble_eq_true rfl) (c_K_endedChildOf hi) ?_
    rintro _ _ ⟨rfl, rfl⟩
    rw [← hc, if_pos he]
    refine E_astore_n d_K_collectChild_5 (by decide) rfl ?_
    refine E_aload_n d_K_collectChild_6 rfl rfl ?_
    refine E_ifnonnull d_K_collectChild_7 (tgt := 12) (by decide) (fun _ _ => ?_) (fun c => by cases c)
    refine E_aload_n d_K_collectChild_12 rfl rfl ?_
    refine E_iconst (v := 0) d_K_collectChild_13 (by decide) ?_
    refine L_pi d_K_collectChild_14 f_K_98 (SH_T0 he) (by decide) (Or.inl rfl) rfl (fu_T5 _ he) ?_
    refine E_aload_n d_K_collectChild_17 rfl rfl ?_
    refine E_bipush (v := 11) d_K_collectChild_18 (by decide) ?_
    refine E_aload_n d_K_collectChild_20 rfl rfl ?_
    refine L_gi d_K_collectChild_21 f_K_101 (SH_T0 he) (by decide) rfl (fr_T8 he) ?_
    refine E_tp (y := C 18 c) (up2_ne2 _ _ _ _ (by decide)) ?_
    refine E_V2v d_K_collectChild_24 w_K_72 (SH_T0 hi) (by decide) (Nat.le_of_ble_eq_true rfl) (c_T_setRegister hi (k := 11) (by decide)) ?_
    rintro _ rfl
    refine E_aload_n d_K_collectChild_27 rfl rfl ?_
    refine L_gi d_K_collectChild_28 f_K_140 (SH_T0 he) (by decide) rfl (fr_T0 he) ?_
    refine E_tp (y := C 10 c) ((sR_ne _ _ _ _ _ (by decide)).trans (up2_ne2 _ _ _ _ (by decide))) ?_
    exact E_ireturn d_K_collectChild_31 (Or.inl rfl) rfl ⟨_, rfl, rfl, rfl⟩
  · have ec := coC.eq_1 C i
    rw [if_neg he] at ec
    rw [ec]
    refine E_aload_n d_K_collectChild_0 rfl rfl ?_
    refine E_aload_n d_K_collectChild_1 rfl rfl ?_
    refine E_V1q d_K_collectChild_2 w_K_187 rfl (by decide) (Nat.le_of_ble_eq_true rfl) (c_K_endedChildOf hi) ?_
    rintro _ _ ⟨rfl, rfl⟩
    rw [if_neg he]
    refine E_astore_n d_K_collectChild_5 (by decide) rfl ?_
    refine E_aload_n d_K_collectChild_6 rfl rfl ?_
    refine E_ifnonnull d_K_collectChild_7 (tgt := 12) (by decide) (fun _ c => by cases c) (fun _ => ?_)
    refine E_iconst (v := -1) d_K_collectChild_10 (by decide) ?_
    exact E_ireturn d_K_collectChild_11 (Or.inl rfl) rfl ⟨_, rfl, rfl, rfl⟩
theorem c_K_print {G : iG} {F : Nat} {C M : Nat → Nat → Int32} {n : Nat} (hn : C 0 8 = nI n) (hn2 : n ≤ 200) {b : Int32} : MI G m_K_print 0 [vR 0, vI b] (HW F C M) (fun x h' => x = (prC C n b).1 ∧ h' = HW F (prC C n b).2 M) := by
  refine Mt.of' (Ls := [some (vR 0), some (vI b)]) (by decide) (by simp [ct]) (Nat.le_of_ble_eq_true rfl) rfl ?_
  refine E_aload_n d_K_print_0 rfl rfl ?_
  refine L_gi d_K_print_1 f_K_134 rfl (by decide) rfl (fr_K 8 (by decide)) ?_
  refine E_tp (y := nI (n)) hn ?_
  refine E_sipush (v := 200) d_K_print_4 (by decide) ?_
  refine E_icmp_lt (tgt := 12) d_K_print_7 (by decide) (fun c7 => ?_) (fun c7 => ?_)
  · have c : n < 200 := (nI_ltI (b := 200) (by omega) (by decide)).mp c7
    refine E_aload_n d_K_print_12 rfl rfl ?_
    refine L_gr d_K_print_13 f_K_51 rfl (by decide) rfl rfl ?_
    refine E_aload_n d_K_print_16 rfl rfl ?_
    refine L_gi d_K_print_17 f_K_134 rfl (by decide) rfl (fr_K 8 (by decide)) ?_
    refine E_tp (y := nI (n)) hn ?_
    refine E_iload_n d_K_print_20 rfl ?_
    refine L_st (j := n) d_K_print_21 rfl rfl (by omega) (by decide) (fu_K _ _ (by decide)) ?_
    refine E_aload_n d_K_print_22 rfl rfl ?_
    refine E_dup d_K_print_23 rfl ?_
    refine L_gi d_K_print_24 f_K_134 rfl (by decide) rfl (fr_K 8 (by decide)) ?_
    refine E_tp (y := nI (n)) (by simp [up2, hn]) ?_
    refine E_iconst (v := 1) d_K_print_27 (by decide) ?_
    refine E_iadd d_K_print_28 ?_
    refine E_tp (y := nI (n + 1)) (nI_add n 1) ?_
    refine L_pi d_K_print_29 f_K_134 rfl (by decide) (Or.inl rfl) rfl (fu_K 8 _ (by decide)) ?_
    refine E_iload_n d_K_print_32 rfl ?_
    exact E_ireturn d_K_print_33 (Or.inl rfl) rfl ⟨_, rfl, by rw [prC, if_pos c], by rw [prC, if_pos c]⟩
  · have c : ¬ n < 200 := (not_congr (nI_ltI (a := n) (b := 200) (by omega) (by decide))).mp c7
    refine E_iconst (v := -1) d_K_print_10 (by decide) ?_
    exact E_ireturn d_K_print_11 (Or.inl rfl) rfl ⟨_, rfl, by rw [prC, if_neg c], by rw [prC, if_neg c]⟩
theorem c_K_write {G : iG} {F : Nat} {C M : Nat → Nat → Int32} {n : Nat} (hn : C 0 8 = nI n) (hn2 : n ≤ 200) (hp : piB C) {x0 b : Int32} (hx : edr x0) : MI G m_K_write 2 [vR 0, vI x0, vI b] (HW F C M) (fun x h' => x = (wtC C n x0 b).1 ∧ h' = HW F (wtC C n x0 b).2 M) := by
  refine Mt.of' (Ls := [some (vR 0), some (vI x0), some (vI b)]) (by decide) (by simp [ct]) (Nat.le_of_ble_eq_true rfl) rfl ?_
  refine E_iload_n d_K_write_0 rfl ?_
  refine E_if_ne (tgt := 10) d_K_write_1 (by decide) (fun c1 => ?_) (fun c1 => ?_)
  · refine E_iload_n d_K_write_10 rfl ?_
    refine E_S1i d_K_write_11 w_K_191 (by decide) (Nat.le_of_ble_eq_true rfl) (c_K_isWritingEnd) ?_
    rintro _ _ ⟨rfl, rfl⟩
    refine E_if_eq (tgt := 27) d_K_write_14 (by decide) (fun c14 => ?_) (fun c14 => ?_)
    · refine E_iconst (v := -1) d_K_write_27 (by decide) ?_
      exact E_ireturn d_K_write_28 (Or.inl rfl) rfl ⟨_, rfl, by rw [wtC, if_neg c1, if_neg (fun q => absurd q.1 (by rw [b2i_eq0 c14]; decide))], by rw [wtC, if_neg c1, if_neg (fun q => absurd q.1 (by rw [b2i_eq0 c14]; decide))]⟩
    · obtain ⟨e, he1, he8, rfl⟩ := wrE_of hx (b2i_ne0 c14)
      have e2 : nv (nI e) = e := nv_nI (by omega)
      obtain ⟨⟨pa, ha8, ha⟩, pc, hc8, hc⟩ := hp ((e - 1) / 2) (by omega)
      have e3 : nv (nI pa) = pa := nv_nI (by omega)
      have e4 : nv (nI pc) = pc := nv_nI (by omega)
      refine E_aload_n d_K_write_17 rfl rfl ?_
      refine E_iload_n d_K_write_18 rfl ?_
      refine E_iconst (v := 1) d_K_write_19 (by decide) ?_
      refine E_isub d_K_write_20 ?_
      refine E_V1i d_K_write_21 w_K_201 rfl (by decide) (Nat.le_of_ble_eq_true rfl) (c_K_isHeld) ?_
      rintro _ _ ⟨rfl, rfl⟩
      refine E_if_ne (tgt := 29) d_K_write_24 (by decide) (fun c24 => ?_) (fun c24 => ?_)
      · refine E_aload_n d_K_write_29 rfl rfl ?_
        refine E_iload_n d_K_write_30 rfl ?_
        refine E_V1q d_K_write_31 w_K_194 rfl (by decide) (Nat.le_of_ble_eq_true rfl) (c_K_pipeOf he1 he8) ?_
        rintro _ _ ⟨rfl, rfl⟩
        refine E_iload_n d_K_write_34 rfl ?_
        refine E_V1v d_K_write_35 w_K_255 (SH_P0 (by omega)) (by decide) (Nat.le_of_ble_eq_true rfl) (c_P_put (by omega) ha ha8 hc hc8) ?_
        rintro _ rfl
        refine E_iload_n d_K_write_38 rfl ?_
        exact E_ireturn d_K_write_39 (Or.inl rfl) rfl ⟨_, rfl, by rw [wtC, if_neg c1, if_pos ⟨b2i_ne0 c14, b2i_ne0 c24⟩], by rw [wtC, if_neg c1, if_pos ⟨b2i_ne0 c14, b2i_ne0 c24⟩, e2, ha, hc, e3, e4]⟩
      · refine E_iconst (v := -1) d_K_write_27 (by decide) ?_
        exact E_ireturn d_K_write_28 (Or.inl rfl) rfl ⟨_, rfl, by rw [wtC, if_neg c1, if_neg (fun q => absurd q.2 (by rw [b2i_eq0 c24]; decide))], by rw [wtC, if_neg c1, if_neg (fun q => absurd q.2 (by rw [b2i_eq0 c24]; decide))]⟩
  · refine E_aload_n d_K_write_4 rfl rfl ?_
    refine E_iload_n d_K_write_5 rfl ?_
    refine E_V1i d_K_write_6 w_K_252 rfl (by decide) (Nat.le_of_ble_eq_true rfl) (c_K_print hn hn2) ?_
    rintro _ _ ⟨rfl, rfl⟩
    exact E_ireturn d_K_write_9 (Or.inl rfl) rfl ⟨_, rfl, by rw [wtC, if_pos c1], by rw [wtC, if_pos c1]⟩
theorem c_K_read {G : iG} {F : Nat} {C M : Nat → Nat → Int32} (hp : piB C) {x0 : Int32} (hx : edr x0) : MI G m_K_read 2 [vR 0, vI x0] (HW F C M) (fun x h' => x = (rdC C x0).1 ∧ h' = HW F (rdC C x0).2 M) := by
  refine Mt.of' (Ls := [some (vR 0), some (vI x0)]) (by decide) (by simp [ct]) (Nat.le_of_ble_eq_true rfl) rfl ?_
  refine E_iload_n d_K_read_0 rfl ?_
  refine E_S1i d_K_read_1 w_K_204 (by decide) (Nat.le_of_ble_eq_true rfl) (c_K_isReadingEnd) ?_
  rintro _ _ ⟨rfl, rfl⟩
  refine E_if_eq (tgt := 18) d_K_read_4 (by decide) (fun c4 => ?_) (fun c4 => ?_)
  · refine E_iconst (v := -1) d_K_read_18 (by decide) ?_
    exact E_ireturn d_K_read_19 (Or.inl rfl) rfl ⟨_, rfl, by rw [rdC, if_neg (by rw [b2i_eq0 c4]; decide)], by rw [rdC, if_neg (by rw [b2i_eq0 c4]; decide)]⟩
  · obtain ⟨e, he1, he8, rfl⟩ := reE_of hx (b2i_ne0 c4)
    have e2 : nv (nI e) = e := nv_nI (by omega)
    obtain ⟨⟨pa, ha8, ha⟩, pc, hc8, hc⟩ := hp ((e - 1) / 2) (by omega)
    have e3 : nv (nI pa) = pa := nv_nI (by omega)
    have e4 : nv (nI pc) = pc := nv_nI (by omega)
    refine E_aload_n d_K_read_7 rfl rfl ?_
    refine E_iload_n d_K_read_8 rfl ?_
    refine E_V1q d_K_read_9 w_K_194 rfl (by decide) (Nat.le_of_ble_eq_true rfl) (c_K_pipeOf he1 he8) ?_
    rintro _ _ ⟨rfl, rfl⟩
    refine E_V0i d_K_read_12 w_K_258 (SH_P0 (by omega)) (by decide) (Nat.le_of_ble_eq_true rfl) (c_P_take (by omega) ha ha8 hc hc8) ?_
    rintro _ _ ⟨rfl, rfl⟩
    refine E_goto (tgt := 19) d_K_read_15 (by decide) ?_
    exact E_ireturn d_K_read_19 (Or.inl rfl) rfl ⟨_, rfl, by rw [rdC, if_pos (b2i_ne0 c4), e2, ha, hc, e3, e4], by rw [rdC, if_pos (b2i_ne0 c4), e2, ha, hc, e3, e4]⟩
theorem c_K_close {G : iG} {F : Nat} {C M : Nat → Nat → Int32} {i : Nat} (hi : i < 8) {x0 : Int32} : MI G m_K_close 1 [vR 0, vR (tk i), vI x0] (HW F C M) (fun x h' => x = (csC C i x0).1 ∧ h' = HW F (csC C i x0).2 M) := by
  refine Mt.of' (Ls := [some (vR 0), some (vR (tk i)), some (vI x0)]) (by decide) (by simp [ct]) (Nat.le_of_ble_eq_true rfl) rfl ?_
  refine E_aload_n d_K_close_0 rfl rfl ?_
  refine E_iload_n d_K_close_1 rfl ?_
  refine E_V1i d_K_close_2 w_K_124 (SH_T0 hi) (by decide) (Nat.le_of_ble_eq_true rfl) (c_T_endAt hi) ?_
  rintro _ _ ⟨rfl, rfl⟩
  refine E_iconst (v := -1) d_K_close_5 (by decide) ?_
  refine E_icmp_ne (tgt := 11) d_K_close_6 (by decide) (fun c6 => ?_) (fun c6 => ?_)
  · obtain ⟨k, hk, rfl, ek⟩ := eA_in c6
    have e2 : nv (nI k) = k := nv_nI (by omega)
    refine E_aload_n d_K_close_11 rfl rfl ?_
    refine L_gr d_K_close_12 f_K_76 (SH_T0 hi) (by decide) rfl (RH_T 3 hi) ?_
    refine E_iload_n d_K_close_15 rfl ?_
    refine E_iconst (v := -1) d_K_close_16 (by decide) ?_
    refine L_st (j := k) d_K_close_17 (SH_T3 hi) rfl (by omega) (by decide) (fu_D _ hi (by omega)) ?_
    refine E_iconst (v := 0) d_K_close_18 (by decide) ?_
    exact E_ireturn d_K_close_19 (Or.inl rfl) rfl ⟨_, rfl, by rw [csC, if_neg c6], by rw [csC, if_neg c6, e2]⟩
  · refine E_iconst (v := -1) d_K_close_9 (by decide) ?_
    exact E_ireturn d_K_close_10 (Or.inl rfl) rfl ⟨_, rfl, by rw [csC, if_pos c6], by rw [csC, if_pos c6]⟩
theorem c_K_duplicate {G : iG} {F : Nat} {C M : Nat → Nat → Int32} {i : Nat} (hi : i < 8) {x0 : Int32} : MI G m_K_duplicate 1 [vR 0, vR (tk i), vI x0] (HW F C M) (fun x h' => x = (duC C i x0).1 ∧ h' = HW F (duC C i x0).2 M) := by
  refine Mt.of' (Ls := [some (vR 0), some (vR (tk i)), some (vI x0), none]) (by decide) (by simp [ct]) (Nat.le_of_ble_eq_true rfl) rfl ?_
  obtain ⟨l, el⟩ : ∃ l, l = lnC C i 6 0 := ⟨_, rfl⟩
  by_cases hl : l < 6
  · have ex : lnx C i 0 = nI l := by rw [el] at hl; rw [lnx_in (f := 0) hl, el]
    refine E_aload_n d_K_duplicate_0 rfl rfl ?_
    refine E_iconst (v := 0) d_K_duplicate_1 (by decide) ?_
    refine E_V1i d_K_duplicate_2 w_K_264 (SH_T0 hi) (by decide) (Nat.le_of_ble_eq_true rfl) (c_T_leastNothing hi (f := 0) (by decide)) ?_
    rintro _ _ ⟨rfl, rfl⟩
    refine E_tp (y := nI (l)) ex ?_
    refine E_istore_n d_K_duplicate_5 (by decide) ?_
    refine E_aload_n d_K_duplicate_6 rfl rfl ?_
    refine E_iload_n d_K_duplicate_7 rfl ?_
    refine E_V1i d_K_duplicate_8 w_K_124 (SH_T0 hi) (by decide) (Nat.le_of_ble_eq_true rfl) (c_T_endAt hi) ?_
    rintro _ _ ⟨rfl, rfl⟩
    refine E_iconst (v := -1) d_K_duplicate_11 (by decide) ?_
    refine E_icmp_eq (tgt := 20) d_K_duplicate_12 (by decide) (fun c12 => ?_) (fun c12 => ?_)
    · refine E_iconst (v := -1) d_K_duplicate_20 (by decide) ?_
      exact E_ireturn d_K_duplicate_21 (Or.inl rfl) rfl ⟨_, rfl, by rw [duC, if_neg (fun q => q.1 c12)], by rw [duC, if_neg (fun q => q.1 c12)]⟩
    · obtain ⟨k, hk, rfl, ek⟩ := eA_in c12
      refine E_iload_n d_K_duplicate_15 rfl ?_
      refine E_iconst (v := -1) d_K_duplicate_16 (by decide) ?_
      refine E_icmp_ne (tgt := 22) d_K_duplicate_17 (by decide) (fun _ => ?_) (fun c => absurd c (nI_nm (by omega)))
      refine E_aload_n d_K_duplicate_22 rfl rfl ?_
      refine L_gr d_K_duplicate_23 f_K_76 (SH_T0 hi) (by decide) rfl (RH_T 3 hi) ?_
      refine E_iload_n d_K_duplicate_26 rfl ?_
      refine E_aload_n d_K_duplicate_27 rfl rfl ?_
      refine L_gr d_K_duplicate_28 f_K_76 (SH_T0 hi) (by decide) rfl (RH_T 3 hi) ?_
      refine E_iload_n d_K_duplicate_31 rfl ?_
      refine L_ld (j := k) d_K_duplicate_32 (SH_T3 hi) rfl (by omega) (by decide) (fr_D hi (by omega)) ?_
      refine E_tp (y := eA C i (nI k)) ek.symm ?_
      refine L_st (j := l) d_K_duplicate_33 (SH_T3 hi) rfl (by omega) (by decide) (fu_D _ hi (by omega)) ?_
      refine E_iload_n d_K_duplicate_34 rfl ?_
      exact E_ireturn d_K_duplicate_35 (Or.inl rfl) rfl ⟨_, rfl, by rw [duC, ← el, if_pos ⟨c12, hl⟩], by rw [duC, ← el, if_pos ⟨c12, hl⟩]⟩
  · have ex : lnx C i 0 = -1 := by rw [el] at hl; exact lnx_out (f := 0) hl
    refine E_aload_n d_K_duplicate_0 rfl rfl ?_
    refine E_iconst (v := 0) d_K_duplicate_1 (by decide) ?_
    refine E_V1i d_K_duplicate_2 w_K_264 (SH_T0 hi) (by decide) (Nat.le_of_ble_eq_true rfl) (c_T_leastNothing hi (f := 0) (by decide)) ?_
    rintro _ _ ⟨rfl, rfl⟩
    rw [ex]
    refine E_istore_n d_K_duplicate_5 (by decide) ?_
    refine E_aload_n d_K_duplicate_6 rfl rfl ?_
    refine E_iload_n d_K_duplicate_7 rfl ?_
    refine E_V1i d_K_duplicate_8 w_K_124 (SH_T0 hi) (by decide) (Nat.le_of_ble_eq_true rfl) (c_T_endAt hi) ?_
    rintro _ _ ⟨rfl, rfl⟩
    refine E_iconst (v := -1) d_K_duplicate_11 (by decide) ?_
    refine E_icmp_eq (tgt := 20) d_K_duplicate_12 (by decide) (fun c12 => ?_) (fun c12 => ?_)
    · refine E_iconst (v := -1) d_K_duplicate_20 (by decide) ?_
      exact E_ireturn d_K_duplicate_21 (Or.inl rfl) rfl ⟨_, rfl, by rw [duC, ← el, if_neg (fun q => hl q.2)], by rw [duC, ← el, if_neg (fun q => hl q.2)]⟩
    · refine E_iload_n d_K_duplicate_15 rfl ?_
      refine E_iconst (v := -1) d_K_duplicate_16 (by decide) ?_
      refine E_icmp_ne (tgt := 22) d_K_duplicate_17 (by decide) (fun c => absurd (by decide) c) (fun _ => ?_)
      refine E_iconst (v := -1) d_K_duplicate_20 (by decide) ?_
      exact E_ireturn d_K_duplicate_21 (Or.inl rfl) rfl ⟨_, rfl, by rw [duC, ← el, if_neg (fun q => hl q.2)], by rw [duC, ← el, if_neg (fun q => hl q.2)]⟩
theorem c_K_openPipe {G : iG} {F : Nat} {C M : Nat → Nat → Int32} {i : Nat} (hi : i < 8) : MI G m_K_openPipe 3 [vR 0, vR (tk i)] (HW F C M) (fun x h' => x = (opC C i).1 ∧ h' = HW F (opC C i).2 M) := by
  refine Mt.of' (Ls := [some (vR 0), some (vR (tk i)), none, none, none]) (by decide) (by simp [ct]) (Nat.le_of_ble_eq_true rfl) rfl ?_
  obtain ⟨l, el⟩ : ∃ l, l = lnC C i 6 0 := ⟨_, rfl⟩
  obtain ⟨k, ek⟩ : ∃ k, k = lfC C 4 0 := ⟨_, rfl⟩
  by_cases hl : l < 6
  · have ex : lnx C i 0 = nI l := by rw [el] at hl; rw [lnx_in (f := 0) hl, el]
    obtain ⟨m, em⟩ : ∃ m, m = lnC C i (6 - (l + 1)) (l + 1) := ⟨_, rfl⟩
    by_cases hk : k < 4
    · have exk : lfx C = nI (1 + 2 * k) := by rw [lfx, ← ek, if_pos hk]
      by_cases hm : m < 6
      · have exm : lnx C i (l + 1) = nI m := by rw [em] at hm; rw [lnx_in hm, em]
        refine E_aload_n d_K_openPipe_0 rfl rfl ?_
        refine E_V0i d_K_openPipe_1 w_K_261 rfl (by decide) (Nat.le_of_ble_eq_true rfl) (c_K_leastFreeReadingEnd) ?_
        rintro _ _ ⟨rfl, rfl⟩
        refine E_tp (y := nI (1 + 2 * k)) exk ?_
        refine E_istore_n d_K_openPipe_4 (by decide) ?_
        refine E_aload_n d_K_openPipe_5 rfl rfl ?_
        refine E_iconst (v := 0) d_K_openPipe_6 (by decide) ?_
        refine E_V1i d_K_openPipe_7 w_K_264 (SH_T0 hi) (by decide) (Nat.le_of_ble_eq_true rfl) (c_T_leastNothing hi (f := 0) (by decide)) ?_
        rintro _ _ ⟨rfl, rfl⟩
        refine E_tp (y := nI (l)) ex ?_
        refine E_istore_n d_K_openPipe_10 (by decide) ?_
        refine E_aload_n d_K_openPipe_11 rfl rfl ?_
        refine E_iload_n d_K_openPipe_12 rfl ?_
        refine E_iconst (v := 1) d_K_openPipe_13 (by decide) ?_
        refine E_iadd d_K_openPipe_14 ?_
        refine E_tp (y := nI (l + 1)) (nI_add l 1) ?_
        refine E_V1i d_K_openPipe_15 w_K_264 (SH_T0 hi) (by decide) (Nat.le_of_ble_eq_true rfl) (c_T_leastNothing hi (f := l + 1) (by omega)) ?_
        rintro _ _ ⟨rfl, rfl⟩
        refine E_tp (y := nI (m)) exm ?_
        refine E_istore d_K_openPipe_18 (by decide) ?_
        refine E_iload_n d_K_openPipe_20 rfl ?_
        refine E_iconst (v := -1) d_K_openPipe_21 (by decide) ?_
        refine E_icmp_eq (tgt := 36) d_K_openPipe_22 (by decide) (fun c => absurd c (nI_nm (by omega))) (fun _ => ?_)
        refine E_iload_n d_K_openPipe_25 rfl ?_
        refine E_iconst (v := -1) d_K_openPipe_26 (by decide) ?_
        refine E_icmp_eq (tgt := 36) d_K_openPipe_27 (by decide) (fun c => absurd c (nI_nm (by omega))) (fun _ => ?_)
        refine E_iload d_K_openPipe_30 rfl ?_
        refine E_iconst (v := -1) d_K_openPipe_32 (by decide) ?_
        refine E_icmp_ne (tgt := 38) d_K_openPipe_33 (by decide) (fun _ => ?_) (fun c => absurd c (nI_nm (by omega)))
        refine E_aload_n d_K_openPipe_38 rfl rfl ?_
        refine E_iload_n d_K_openPipe_39 rfl ?_
        refine E_V1q d_K_openPipe_40 w_K_194 rfl (by decide) (Nat.le_of_ble_eq_true rfl) (c_K_pipeOf (e := 1 + 2 * k) (by omega) (by omega)) ?_
        rintro _ _ ⟨rfl, rfl⟩
        rw [show (1 + 2 * k - 1) / 2 = k by omega]
        refine E_V0v d_K_openPipe_43 w_K_267 (SH_P0 hk) (by decide) (Nat.le_of_ble_eq_true rfl) (c_P_empty hk) ?_
        rintro _ rfl
        refine E_aload_n d_K_openPipe_46 rfl rfl ?_
        refine L_gr d_K_openPipe_47 f_K_76 (SH_T0 hi) (by decide) rfl (RH_T 3 hi) ?_
        refine E_iload_n d_K_openPipe_50 rfl ?_
        refine E_iload_n d_K_openPipe_51 rfl ?_
        refine L_st (j := l) d_K_openPipe_52 (SH_T3 hi) rfl (by omega) (by decide) (fu_D _ hi (by omega)) ?_
        refine E_aload_n d_K_openPipe_53 rfl rfl ?_
        refine L_gr d_K_openPipe_54 f_K_76 (SH_T0 hi) (by decide) rfl (RH_T 3 hi) ?_
        refine E_iload d_K_openPipe_57 rfl ?_
        refine E_iload_n d_K_openPipe_59 rfl ?_
        refine E_iconst (v := 1) d_K_openPipe_60 (by decide) ?_
        refine E_iadd d_K_openPipe_61 ?_
        refine E_tp (y := nI (1 + 2 * k + 1)) (nI_add (1 + 2 * k) 1) ?_
        refine L_st (j := m) d_K_openPipe_62 (SH_T3 hi) rfl (by omega) (by decide) (fu_D _ hi (by omega)) ?_
        refine E_aload_n d_K_openPipe_63 rfl rfl ?_
        refine E_bipush (v := 11) d_K_openPipe_64 (by decide) ?_
        refine E_iload d_K_openPipe_66 rfl ?_
        refine E_V2v d_K_openPipe_68 w_K_72 (SH_T0 hi) (by decide) (Nat.le_of_ble_eq_true rfl) (c_T_setRegister hi (k := 11) (by decide)) ?_
        rintro _ rfl
        refine E_iload_n d_K_openPipe_71 rfl ?_
        exact E_ireturn d_K_openPipe_72 (Or.inl rfl) rfl ⟨_, rfl, by rw [opC, ← ek, ← el, ← em, if_pos ⟨hk, hl, hm⟩], by rw [opC, ← ek, ← el, ← em, if_pos ⟨hk, hl, hm⟩]⟩
      · have exm : lnx C i (l + 1) = -1 := by rw [em] at hm; exact lnx_out hm
        refine E_aload_n d_K_openPipe_0 rfl rfl ?_
        refine E_V0i d_K_openPipe_1 w_K_261 rfl (by decide) (Nat.le_of_ble_eq_true rfl) (c_K_leastFreeReadingEnd) ?_
        rintro _ _ ⟨rfl, rfl⟩
        refine E_tp (y := nI (1 + 2 * k)) exk ?_
        refine E_istore_n d_K_openPipe_4 (by decide) ?_
        refine E_aload_n d_K_openPipe_5 rfl rfl ?_
        refine E_iconst (v := 0) d_K_openPipe_6 (by decide) ?_
        refine E_V1i d_K_openPipe_7 w_K_264 (SH_T0 hi) (by decide) (Nat.le_of_ble_eq_true rfl) (c_T_leastNothing hi (f := 0) (by decide)) ?_
        rintro _ _ ⟨rfl, rfl⟩
        refine E_tp (y := nI (l)) ex ?_
        refine E_istore_n d_K_openPipe_10 (by decide) ?_
        refine E_aload_n d_K_openPipe_11 rfl rfl ?_
        refine E_iload_n d_K_openPipe_12 rfl ?_
        refine E_iconst (v := 1) d_K_openPipe_13 (by decide) ?_
        refine E_iadd d_K_openPipe_14 ?_
        refine E_tp (y := nI (l + 1)) (nI_add l 1) ?_
        refine E_V1i d_K_openPipe_15 w_K_264 (SH_T0 hi) (by decide) (Nat.le_of_ble_eq_true rfl) (c_T_leastNothing hi (f := l + 1) (by omega)) ?_
        rintro _ _ ⟨rfl, rfl⟩
        rw [exm]
        refine E_istore d_K_openPipe_18 (by decide) ?_
        refine E_iload_n d_K_openPipe_20 rfl ?_
        refine E_iconst (v := -1) d_K_openPipe_21 (by decide) ?_
        refine E_icmp_eq (tgt := 36) d_K_openPipe_22 (by decide) (fun c => absurd c (nI_nm (by omega))) (fun _ => ?_)
        refine E_iload_n d_K_openPipe_25 rfl ?_
        refine E_iconst (v := -1) d_K_openPipe_26 (by decide) ?_
        refine E_icmp_eq (tgt := 36) d_K_openPipe_27 (by decide) (fun c => absurd c (nI_nm (by omega))) (fun _ => ?_)
        refine E_iload d_K_openPipe_30 rfl ?_
        refine E_iconst (v := -1) d_K_openPipe_32 (by decide) ?_
        refine E_icmp_ne (tgt := 38) d_K_openPipe_33 (by decide) (fun c => absurd (by decide) c) (fun _ => ?_)
        refine E_iconst (v := -1) d_K_openPipe_36 (by decide) ?_
        exact E_ireturn d_K_openPipe_37 (Or.inl rfl) rfl ⟨_, rfl, by rw [opC, ← ek, ← el, ← em, if_neg (fun q => hm q.2.2)], by rw [opC, ← ek, ← el, ← em, if_neg (fun q => hm q.2.2)]⟩
    · have exk : lfx C = -1 := by rw [lfx, ← ek, if_neg hk]
      refine E_aload_n d_K_openPipe_0 rfl rfl ?_
      refine E_V0i d_K_openPipe_1 w_K_261 rfl (by decide) (Nat.le_of_ble_eq_true rfl) (c_K_leastFreeReadingEnd) ?_
      rintro _ _ ⟨rfl, rfl⟩
      rw [exk]
      refine E_istore_n d_K_openPipe_4 (by decide) ?_
      refine E_aload_n d_K_openPipe_5 rfl rfl ?_
      refine E_iconst (v := 0) d_K_openPipe_6 (by decide) ?_
      refine E_V1i d_K_openPipe_7 w_K_264 (SH_T0 hi) (by decide) (Nat.le_of_ble_eq_true rfl) (c_T_leastNothing hi (f := 0) (by decide)) ?_
      rintro _ _ ⟨rfl, rfl⟩
      refine E_tp (y := nI (l)) ex ?_
      refine E_istore_n d_K_openPipe_10 (by decide) ?_
      refine E_aload_n d_K_openPipe_11 rfl rfl ?_
      refine E_iload_n d_K_openPipe_12 rfl ?_
      refine E_iconst (v := 1) d_K_openPipe_13 (by decide) ?_
      refine E_iadd d_K_openPipe_14 ?_
      refine E_tp (y := nI (l + 1)) (nI_add l 1) ?_
      refine E_V1i d_K_openPipe_15 w_K_264 (SH_T0 hi) (by decide) (Nat.le_of_ble_eq_true rfl) (c_T_leastNothing hi (f := l + 1) (by omega)) ?_
      rintro _ _ ⟨rfl, rfl⟩
      refine E_istore d_K_openPipe_18 (by decide) ?_
      refine E_iload_n d_K_openPipe_20 rfl ?_
      refine E_iconst (v := -1) d_K_openPipe_21 (by decide) ?_
      refine E_icmp_eq (tgt := 36) d_K_openPipe_22 (by decide) (fun _ => ?_) (fun c => absurd (by decide) c)
      refine E_iconst (v := -1) d_K_openPipe_36 (by decide) ?_
      exact E_ireturn d_K_openPipe_37 (Or.inl rfl) rfl ⟨_, rfl, by rw [opC, ← ek, ← el, ← em, if_neg (fun q => hk q.1)], by rw [opC, ← ek, ← el, ← em, if_neg (fun q => hk q.1)]⟩
  · have ex : lnx C i 0 = -1 := by rw [el] at hl; exact lnx_out (f := 0) hl
    refine E_aload_n d_K_openPipe_0 rfl rfl ?_
    refine E_V0i d_K_openPipe_1 w_K_261 rfl (by decide) (Nat.le_of_ble_eq_true rfl) (c_K_leastFreeReadingEnd) ?_
    rintro _ _ ⟨rfl, rfl⟩
    refine E_istore_n d_K_openPipe_4 (by decide) ?_
    refine E_aload_n d_K_openPipe_5 rfl rfl ?_
    refine E_iconst (v := 0) d_K_openPipe_6 (by decide) ?_
    refine E_V1i d_K_openPipe_7 w_K_264 (SH_T0 hi) (by decide) (Nat.le_of_ble_eq_true rfl) (c_T_leastNothing hi (f := 0) (by decide)) ?_
    rintro _ _ ⟨rfl, rfl⟩
    rw [ex]
    refine E_istore_n d_K_openPipe_10 (by decide) ?_
    refine E_aload_n d_K_openPipe_11 rfl rfl ?_
    refine E_iload_n d_K_openPipe_12 rfl ?_
    refine E_iconst (v := 1) d_K_openPipe_13 (by decide) ?_
    refine E_iadd d_K_openPipe_14 ?_
    refine E_tp (y := nI 0) (by decide) ?_
    refine E_V1i d_K_openPipe_15 w_K_264 (SH_T0 hi) (by decide) (Nat.le_of_ble_eq_true rfl) (c_T_leastNothing hi (f := 0) (by decide)) ?_
    rintro _ _ ⟨rfl, rfl⟩
    refine E_istore d_K_openPipe_18 (by decide) ?_
    refine E_iload_n d_K_openPipe_20 rfl ?_
    refine E_iconst (v := -1) d_K_openPipe_21 (by decide) ?_
    refine E_icmp_eq (tgt := 36) d_K_openPipe_22 (by decide) (fun c22 => ?_) (fun c22 => ?_)
    · refine E_iconst (v := -1) d_K_openPipe_36 (by decide) ?_
      exact E_ireturn d_K_openPipe_37 (Or.inl rfl) rfl ⟨_, rfl, by rw [opC, ← el, if_neg (fun q => hl q.2.1)], by rw [opC, ← el, if_neg (fun q => hl q.2.1)]⟩
    · refine E_iload_n d_K_openPipe_25 rfl ?_
      refine E_iconst (v := -1) d_K_openPipe_26 (by decide) ?_
      refine E_icmp_eq (tgt := 36) d_K_openPipe_27 (by decide) (fun _ => ?_) (fun c => absurd (by decide) c)
      refine E_iconst (v := -1) d_K_openPipe_36 (by decide) ?_
      exact E_ireturn d_K_openPipe_37 (Or.inl rfl) rfl ⟨_, rfl, by rw [opC, ← el, if_neg (fun q => hl q.2.1)], by rw [opC, ← el, if_neg (fun q => hl q.2.1)]⟩
theorem c_K_grow {G : iG} {F : Nat} {C M : Nat → Nat → Int32} {i : Nat} (hi : i < 8) {s u : Nat} {x0 : Int32} (hF : F ≤ 40) (hs : C 14 i = nI s) (hs8 : s ≤ 8) (hu : C 1 2 = nI u) (hu40 : u ≤ 40) : MI G m_K_grow 2 [vR 0, vR (tk i), vI x0] (HW F C M) (fun x h' => x = (grC C i s u F x0).1 ∧ h' = HW F (grC C i s u F x0).2 M) := by
  refine Mt.of' (Ls := [some (vR 0), some (vR (tk i)), some (vI x0)]) (by decide) (by simp [ct]) (Nat.le_of_ble_eq_true rfl) rfl ?_
  refine E_iload_n d_K_grow_0 rfl ?_
  refine E_iconst (v := 1) d_K_grow_1 (by decide) ?_
  refine E_icmp_lt (tgt := 27) d_K_grow_2 (by decide) (fun c2 => ?_) (fun c2 => ?_)
  · refine E_iconst (v := -1) d_K_grow_27 (by decide) ?_
    exact E_ireturn d_K_grow_28 (Or.inl rfl) rfl ⟨_, rfl, by rw [grC, if_neg (fun q => absurd c2 (Int32.not_lt.mpr q.1))], by rw [grC, if_neg (fun q => absurd c2 (Int32.not_lt.mpr q.1))]⟩
  · refine E_iload_n d_K_grow_5 rfl ?_
    refine E_bipush (v := 8) d_K_grow_6 (by decide) ?_
    refine E_aload_n d_K_grow_8 rfl rfl ?_
    refine L_gi d_K_grow_9 f_K_107 (SH_T0 hi) (by decide) rfl (fr_T4 hi) ?_
    refine E_tp (y := nI s) hs ?_
    refine E_isub d_K_grow_12 ?_
    refine E_icmp_gt (tgt := 27) d_K_grow_13 (by decide) (fun c13 => ?_) (fun c13 => ?_)
    · refine E_iconst (v := -1) d_K_grow_27 (by decide) ?_
      exact E_ireturn d_K_grow_28 (Or.inl rfl) rfl ⟨_, rfl, by rw [grC, if_neg (fun q => absurd c13 (Int32.not_lt.mpr q.2.1))], by rw [grC, if_neg (fun q => absurd c13 (Int32.not_lt.mpr q.2.1))]⟩
    · obtain ⟨k, hk, rfl⟩ : ∃ k : Nat, k ≤ 8 ∧ x0 = nI k := by
        rw [show (8 : Int32) - nI s = nI (8 - s) from pk_sub (a := 8) hs8] at c13
        rcases pk_ix x0 (n := 9) (by decide) with q | q | ⟨k, hk, rfl⟩
        · exact absurd (Int32.lt_trans q (by decide : (0 : Int32) < 1)) c2
        · exact absurd (Int32.lt_of_lt_of_le (nI_lt (b := 9) (show 8 - s < 9 by omega) (by decide)) q) c13
        · exact ⟨k, by omega, rfl⟩
      have e2 : nv (nI k) = k := nv_nI (by omega)
      refine E_iload_n d_K_grow_16 rfl ?_
      refine E_aload_n d_K_grow_17 rfl rfl ?_
      refine L_gr d_K_grow_18 f_K_18 rfl (by decide) rfl rfl ?_
      refine L_gi d_K_grow_21 f_K_61 rfl (by decide) rfl (fr_K 2 (by decide)) ?_
      refine E_tp (y := nI (u)) hu ?_
      refine E_icmp_le (tgt := 29) d_K_grow_24 (by decide) (fun c24 => ?_) (fun c24 => ?_)
      · refine E_aload_n d_K_grow_29 rfl rfl ?_
        refine L_gr d_K_grow_30 f_K_18 rfl (by decide) rfl rfl ?_
        refine E_aload_n d_K_grow_33 rfl rfl ?_
        refine E_iload_n d_K_grow_34 rfl ?_
        refine E_V2v d_K_grow_35 w_K_64 rfl (by decide) (Nat.le_of_ble_eq_true rfl) (c_MEM_give hi (by omega) hF hs hs8) ?_
        rintro _ rfl
        refine E_aload_n d_K_grow_38 rfl rfl ?_
        refine L_gi d_K_grow_39 f_K_107 (SH_T0 hi) (by decide) rfl (fr_T4 hi) ?_
        exact E_ireturn d_K_grow_42 (Or.inl rfl) rfl ⟨_, rfl, by rw [grC, if_pos ⟨Int32.not_lt.mp c2, Int32.not_lt.mp c13, c24⟩, e2], by rw [grC, if_pos ⟨Int32.not_lt.mp c2, Int32.not_lt.mp c13, c24⟩, e2]⟩
      · refine E_iconst (v := -1) d_K_grow_27 (by decide) ?_
        exact E_ireturn d_K_grow_28 (Or.inl rfl) rfl ⟨_, rfl, by rw [grC, if_neg (fun q => c24 q.2.2)], by rw [grC, if_neg (fun q => c24 q.2.2)]⟩
theorem lp_K_handOverChildren {G : iG} {F : Nat} {C M : Nat → Nat → Int32} {Q : Option iV → iH → Prop} {i : Nat} (hi : i < 8) {heir : Int32} (hQ : Q none (HW F (hok C i heir 8) M)) : ∀ (n k : Nat) (l4 : Option iV), k + n = 8 → Ev G m_K_handOverChildren 1 0 0 21 [some (vR 0), some (vR (tk i)), some (vI heir), some (vI (nI k)), l4] [] (HW F (hok C i heir k) M) Q := by
  intro n
  induction n with
  | zero =>
    intro k l4 hk
    have e : k = 8 := by omega
    subst e
    refine E_iload_n d_K_handOverChildren_21 rfl ?_
    refine E_bipush (v := 8) d_K_handOverChildren_22 (by decide) ?_
    refine E_icmp_ge (tgt := 75) d_K_handOverChildren_24 (by decide) (fun _ => ?_) (fun c => absurd (by decide) c)
    exact E_return d_K_handOverChildren_75 rfl rfl hQ
  | succ n ih =>
    intro k l4 hk
    refine E_iload_n d_K_handOverChildren_21 rfl ?_
    refine E_bipush (v := 8) d_K_handOverChildren_22 (by decide) ?_
    refine E_icmp_ge (tgt := 75) d_K_handOverChildren_24 (by decide) (fun c => absurd c (nI_ge (b := 8) (by omega) (by decide))) (fun _ => ?_)
    refine E_aload_n d_K_handOverChildren_27 rfl rfl ?_
    refine L_gr d_K_handOverChildren_28 f_K_28 rfl (by decide) rfl rfl ?_
    refine E_iload_n d_K_handOverChildren_31 rfl ?_
    refine L_ar2 (j := k) d_K_handOverChildren_32 rfl rfl (by omega) (by decide) rfl ?_
    refine E_astore d_K_handOverChildren_33 (by decide) rfl ?_
    refine E_aload d_K_handOverChildren_35 rfl rfl ?_
    refine E_aload_n d_K_handOverChildren_37 rfl rfl ?_
    refine E_V1i d_K_handOverChildren_38 w_K_249 (SH_T0 (by omega)) (by decide) (Nat.le_of_ble_eq_true rfl) (c_T_isChildOf (by omega) hi) ?_
    rintro _ _ ⟨rfl, rfl⟩
    refine E_if_eq (tgt := 69) d_K_handOverChildren_41 (by decide) (fun c41 => ?_) (fun c41 => ?_)
    · refine E_iinc (v := nI (k + 1)) d_K_handOverChildren_69 rfl (nI_1 _) (by decide) ?_
      refine E_goto (tgt := 21) d_K_handOverChildren_72 (by decide) ?_
      have r : hok C i heir (k + 1) = hok C i heir k := by rw [hok, if_neg (by rw [b2i_eq0 c41]; decide)]
      rw [← r]
      exact ih (k + 1) _ (by omega)
    · refine E_aload d_K_handOverChildren_44 rfl rfl ?_
      refine E_iload_n d_K_handOverChildren_46 rfl ?_
      refine L_pi d_K_handOverChildren_47 f_K_104 (SH_T0 (by omega)) (by decide) (Or.inl rfl) rfl (fu_T7 _ (by omega)) ?_
      refine E_iload_n d_K_handOverChildren_50 rfl ?_
      refine E_if_ne (tgt := 69) d_K_handOverChildren_51 (by decide) (fun c51 => ?_) (fun c51 => ?_)
      · refine E_iinc (v := nI (k + 1)) d_K_handOverChildren_69 rfl (nI_1 _) (by decide) ?_
        refine E_goto (tgt := 21) d_K_handOverChildren_72 (by decide) ?_
        have r : hok C i heir (k + 1) = up2 (hok C i heir k) 17 k heir := by rw [hok, if_pos (b2i_ne0 c41), if_neg (fun q => c51 q.1)]
        rw [← r]
        exact ih (k + 1) _ (by omega)
      · refine E_aload d_K_handOverChildren_54 rfl rfl ?_
        refine L_gi d_K_handOverChildren_56 f_K_98 (SH_T0 (by omega)) (by decide) rfl (fr_T5 (by omega)) ?_
        refine E_tp (y := hok C i heir k 15 k) (up2_ne2 _ _ _ _ (by decide)) ?_
        refine E_iconst (v := 5) d_K_handOverChildren_59 (by decide) ?_
        refine E_icmp_ne (tgt := 69) d_K_handOverChildren_60 (by decide) (fun c60 => ?_) (fun c60 => ?_)
        · refine E_iinc (v := nI (k + 1)) d_K_handOverChildren_69 rfl (nI_1 _) (by decide) ?_
          refine E_goto (tgt := 21) d_K_handOverChildren_72 (by decide) ?_
          have r : hok C i heir (k + 1) = up2 (hok C i heir k) 17 k heir := by rw [hok, if_pos (b2i_ne0 c41), if_neg (fun q => c60 q.2)]
          rw [← r]
          exact ih (k + 1) _ (by omega)
        · refine E_aload d_K_handOverChildren_63 rfl rfl ?_
          refine E_iconst (v := 0) d_K_handOverChildren_65 (by decide) ?_
          refine L_pi d_K_handOverChildren_66 f_K_98 (SH_T0 (by omega)) (by decide) (Or.inl rfl) rfl (fu_T5 _ (by omega)) ?_
          refine E_iinc (v := nI (k + 1)) d_K_handOverChildren_69 rfl (nI_1 _) (by decide) ?_
          refine E_goto (tgt := 21) d_K_handOverChildren_72 (by decide) ?_
          have r : hok C i heir (k + 1) = up2 (up2 (hok C i heir k) 17 k heir) 15 k 0 := by rw [hok, if_pos (b2i_ne0 c41), if_pos ⟨c51, c60⟩]
          rw [← r]
          exact ih (k + 1) _ (by omega)
theorem c_K_handOverChildren {G : iG} {F : Nat} {C M : Nat → Nat → Int32} {i : Nat} (hi : i < 8) : MV G m_K_handOverChildren 1 [vR 0, vR (tk i)] (HW F C M) (fun h' => h' = HW F (hoC C i) M) := by
  refine Mt.of' (Ls := [some (vR 0), some (vR (tk i)), none, none, none]) (by decide) (by simp [ct]) (Nat.le_of_ble_eq_true rfl) rfl ?_
  refine E_aload_n d_K_handOverChildren_0 rfl rfl ?_
  refine L_gr d_K_handOverChildren_1 f_K_28 rfl (by decide) rfl rfl ?_
  refine E_iconst (v := 0) d_K_handOverChildren_4 (by decide) ?_
  refine L_ar2 (j := 0) d_K_handOverChildren_5 rfl rfl (by omega) (by decide) rfl ?_
  refine L_gi d_K_handOverChildren_6 f_K_98 (SH_T0 (by omega)) (by decide) rfl (fr_T5 (by omega)) ?_
  refine E_iconst (v := 5) d_K_handOverChildren_9 (by decide) ?_
  refine E_icmp_ne (tgt := 17) d_K_handOverChildren_10 (by decide) (fun c10 => ?_) (fun c10 => ?_)
  · refine E_iconst (v := 1) d_K_handOverChildren_17 (by decide) ?_
    refine E_istore_n d_K_handOverChildren_18 (by decide) ?_
    refine E_iconst (v := 0) d_K_handOverChildren_19 (by decide) ?_
    refine E_istore_n d_K_handOverChildren_20 (by decide) ?_
    exact lp_K_handOverChildren (C := C) hi ⟨rfl, by rw [hoC, if_neg c10]⟩ 8 0 none rfl
  · refine E_iconst (v := 0) d_K_handOverChildren_13 (by decide) ?_
    refine E_goto (tgt := 18) d_K_handOverChildren_14 (by decide) ?_
    refine E_istore_n d_K_handOverChildren_18 (by decide) ?_
    refine E_iconst (v := 0) d_K_handOverChildren_19 (by decide) ?_
    refine E_istore_n d_K_handOverChildren_20 (by decide) ?_
    exact lp_K_handOverChildren (C := C) hi ⟨rfl, by rw [hoC, if_pos c10]⟩ 8 0 none rfl
theorem c_K_end {G : iG} {F : Nat} {C M : Nat → Nat → Int32} {i : Nat} (hi : i < 8) {s : Nat} (hF : F ≤ 40) (hs : C 14 i = nI s) (hs8 : s ≤ 8) (hpg : pgC C i s F) {z : Nat} (hz : C 46 1 = nI z) (hz8 : z ≤ 8) {code : Int32} : MV G m_K_end 2 [vR 0, vR (tk i), vI code] (HW F C M) (fun h' => h' = HW F (enC C i s z code) M) := by
  refine Mt.of' (Ls := [some (vR 0), some (vR (tk i)), some (vI code)]) (by decide) (by simp [ct]) (Nat.le_of_ble_eq_true rfl) rfl ?_
  have e1 : ∀ N, N = hoC (en1 C i s z code) i → enC C i s z code = if N 17 i = 0 ∧ ¬ N 10 i = 1 then up2 N 15 i 0 else N := fun N hN => by rw [hN]; rfl
  have e2 := e1 _ rfl
  refine E_aload_n d_K_end_0 rfl rfl ?_
  refine L_gr d_K_end_1 f_K_18 rfl (by decide) rfl rfl ?_
  refine E_aload_n d_K_end_4 rfl rfl ?_
  refine E_V1v d_K_end_5 w_K_270 rfl (by decide) (Nat.le_of_ble_eq_true rfl) (c_MEM_takeBack hi hF hs hs8 hpg) ?_
  rintro _ rfl
  refine E_aload_n d_K_end_8 rfl rfl ?_
  refine E_V0v d_K_end_9 w_K_273 (SH_T0 hi) (by decide) (Nat.le_of_ble_eq_true rfl) (c_T_forgetDescriptors hi) ?_
  rintro _ rfl
  refine E_aload_n d_K_end_12 rfl rfl ?_
  refine L_gr d_K_end_13 f_K_43 rfl (by decide) rfl rfl ?_
  refine E_aload_n d_K_end_16 rfl rfl ?_
  refine L_gi d_K_end_17 f_K_140 (SH_T0 hi) (by decide) rfl (fr_T0 hi) ?_
  refine E_tp (y := C 10 i) ((upr_ne _ _ _ _ _ (by decide)).trans ((up2_ne2 _ _ _ _ (by decide)).trans (tbk_ne C i _ (by decide) (by decide) s))) ?_
  refine E_V1v d_K_end_20 w_K_276 rfl (by decide) (Nat.le_of_ble_eq_true rfl) (c_ROW_drop (((upr_ne _ _ _ _ _ (by decide)).trans ((up2_ne2 _ _ _ _ (by decide)).trans (tbk_ne C i _ (by decide) (by decide) s))).trans hz) hz8) ?_
  rintro _ rfl
  refine E_aload_n d_K_end_23 rfl rfl ?_
  refine E_iconst (v := 5) d_K_end_24 (by decide) ?_
  refine L_pi d_K_end_25 f_K_98 (SH_T0 hi) (by decide) (Or.inl rfl) rfl (fu_T5 _ hi) ?_
  refine E_aload_n d_K_end_28 rfl rfl ?_
  refine E_iload_n d_K_end_29 rfl ?_
  refine L_pi d_K_end_30 f_K_101 (SH_T0 hi) (by decide) (Or.inl rfl) rfl (fu_T8 _ hi) ?_
  refine E_aload_n d_K_end_33 rfl rfl ?_
  refine E_aload_n d_K_end_34 rfl rfl ?_
  refine E_V1v d_K_end_35 w_K_279 rfl (by decide) (Nat.le_of_ble_eq_true rfl) (c_K_handOverChildren hi) ?_
  rintro _ rfl
  change Ev G m_K_end _ 0 0 _ _ _ (HW F (hoC (en1 C i s z code) i) M) _
  refine E_aload_n d_K_end_38 rfl rfl ?_
  refine L_gi d_K_end_39 f_K_104 (SH_T0 hi) (by decide) rfl (fr_T7 hi) ?_
  refine E_if_ne (tgt := 58) d_K_end_42 (by decide) (fun c42 => ?_) (fun c42 => ?_)
  · exact E_return d_K_end_58 rfl rfl ⟨rfl, by rw [e2, if_neg (fun q => c42 q.1)]⟩
  · refine E_aload_n d_K_end_45 rfl rfl ?_
    refine L_gi d_K_end_46 f_K_140 (SH_T0 hi) (by decide) rfl (fr_T0 hi) ?_
    refine E_iconst (v := 1) d_K_end_49 (by decide) ?_
    refine E_icmp_eq (tgt := 58) d_K_end_50 (by decide) (fun c50 => ?_) (fun c50 => ?_)
    · exact E_return d_K_end_58 rfl rfl ⟨rfl, by rw [e2, if_neg (fun q => q.2 c50)]⟩
    · refine E_aload_n d_K_end_53 rfl rfl ?_
      refine E_iconst (v := 0) d_K_end_54 (by decide) ?_
      refine L_pi d_K_end_55 f_K_98 (SH_T0 hi) (by decide) (Or.inl rfl) rfl (fu_T5 _ hi) ?_
      exact E_return d_K_end_58 rfl rfl ⟨rfl, by rw [e2, if_pos ⟨c42, c50⟩]⟩
theorem c_K_kill {G : iG} {F : Nat} {C M : Nat → Nat → Int32} {x0 : Int32} (hF : F ≤ 40) (hpg : ∀ i, i < 8 → ∃ s, s ≤ 8 ∧ C 14 i = nI s ∧ pgC C i s F) {z : Nat} (hz : C 46 1 = nI z) (hz8 : z ≤ 8) : MI G m_K_kill 3 [vR 0, vI x0] (HW F C M) (fun x h' => x = (kiC C z x0).1 ∧ h' = HW F (kiC C z x0).2 M) := by
  refine Mt.of' (Ls := [some (vR 0), some (vI x0), none]) (by decide) (by simp [ct]) (Nat.le_of_ble_eq_true rfl) rfl ?_
  by_cases hb : isbC C x0 = true
  · obtain ⟨i, hi, rfl, h15, e⟩ := isbC_of hb
    obtain ⟨s, hs8, hs, hpp⟩ := hpg i hi
    have e3 : nv (nI s) = s := nv_nI (by omega)
    refine E_aload_n d_K_kill_0 rfl rfl ?_
    refine E_iload_n d_K_kill_1 rfl ?_
    refine E_V1q d_K_kill_2 w_K_94 rfl (by decide) (Nat.le_of_ble_eq_true rfl) (c_find_some hi h15) ?_
    rintro _ _ ⟨rfl, rfl⟩
    refine E_astore_n d_K_kill_5 (by decide) rfl ?_
    refine E_aload_n d_K_kill_6 rfl rfl ?_
    refine E_ifnull d_K_kill_7 (tgt := 18) (by decide) (fun c => by cases c) (fun _ _ => ?_)
    refine E_aload_n d_K_kill_10 rfl rfl ?_
    refine L_gi d_K_kill_11 f_K_98 (SH_T0 hi) (by decide) rfl (fr_T5 hi) ?_
    refine E_iconst (v := 5) d_K_kill_14 (by decide) ?_
    refine E_icmp_ne (tgt := 20) d_K_kill_15 (by decide) (fun c15 => ?_) (fun c15 => ?_)
    · refine E_aload_n d_K_kill_20 rfl rfl ?_
      refine E_aload_n d_K_kill_21 rfl rfl ?_
      refine E_sipush (v := 137) d_K_kill_22 (by decide) ?_
      refine E_V2v d_K_kill_25 w_K_168 rfl (by decide) (Nat.le_of_ble_eq_true rfl) (c_K_end hi hF hs hs8 hpp hz hz8) ?_
      rintro _ rfl
      refine E_iconst (v := 0) d_K_kill_28 (by decide) ?_
      exact E_ireturn d_K_kill_29 (Or.inl rfl) rfl ⟨_, rfl, by rw [kiC, e, if_pos ⟨hb, c15⟩], by rw [kiC, e, if_pos ⟨hb, c15⟩, hs, e3]⟩
    · refine E_iconst (v := -1) d_K_kill_18 (by decide) ?_
      exact E_ireturn d_K_kill_19 (Or.inl rfl) rfl ⟨_, rfl, by rw [kiC, e, if_neg (fun q => q.2 c15)], by rw [kiC, e, if_neg (fun q => q.2 c15)]⟩
  · refine E_aload_n d_K_kill_0 rfl rfl ?_
    refine E_iload_n d_K_kill_1 rfl ?_
    refine E_V1q d_K_kill_2 w_K_94 rfl (by decide) (Nat.le_of_ble_eq_true rfl) (c_find_none hb) ?_
    rintro _ _ ⟨rfl, rfl⟩
    refine E_astore_n d_K_kill_5 (by decide) rfl ?_
    refine E_aload_n d_K_kill_6 rfl rfl ?_
    refine E_ifnull d_K_kill_7 (tgt := 18) (by decide) (fun _ => ?_) (fun _ c => by cases c)
    refine E_iconst (v := -1) d_K_kill_18 (by decide) ?_
    exact E_ireturn d_K_kill_19 (Or.inl rfl) rfl ⟨_, rfl, by rw [kiC, if_neg (fun q => hb q.1)], by rw [kiC, if_neg (fun q => hb q.1)]⟩

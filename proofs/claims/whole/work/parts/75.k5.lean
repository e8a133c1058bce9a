/-! ===== the class beside the reference: words read and written ===== -/
section RW_
variable {F i z s n u : Nat} {T U V W : Int32} {C N : Nat → Nat → Int32}
/-- where a byte of the process lies, on both sides -/
theorem pl_cel (h : CB F i z s n T U V W C N) {b : Nat} (hb : b / 64 < s) : plN C i (nI b) = cel N (i + 1) b ∧ cel N (i + 1) b < 16 * F ∧ C 2 (plN C i (nI b)) = N 1 (cel N (i + 1) b) := by
  obtain ⟨hi, hJ, h4, h26, h27, h24, hs, hs8, _⟩ := h
  obtain ⟨s', hs', e1, e2, hpg⟩ := hJ.2.1.2.2.2.1 i hi
  have es : s' = s := (nI_eq (by omega) (by omega)).mp (e1.symm.trans hs)
  subst es
  have hF := hJ.1.1
  obtain ⟨f, hf, f1, f2, f3⟩ := hpg (b / 64) hb
  have et : (nI b).toBitVec.toNat = b := pk_tn (by omega)
  have e : plN C i (nI b) = cel N (i + 1) b := by
    rw [plN, cel, et, f1, f2, nv_nI (by omega)]
    omega
  have hlt : cel N (i + 1) b < 16 * F := by
    rw [cel, f2, nv_nI (by omega)]
    omega
  exact ⟨e, hlt, by rw [e]; exact hJ.2.1.2.2.1 _ hlt⟩
theorem nof_pow {f : Nat} (h : ¬ (f = 3 ∨ 5 < f)) : nof f = 2 ^ (f % 4) ∧ f % 4 ≤ 2 := by
  rcases (by omega : f = 0 ∨ f = 1 ∨ f = 2 ∨ f = 4 ∨ f = 5) with rfl | rfl | rfl | rfl | rfl <;> decide
theorem now_pow {f : Nat} (h : ¬ 2 < f) : now f = 2 ^ f ∧ f ≤ 2 := by
  rcases (by omega : f = 0 ∨ f = 1 ∨ f = 2) with rfl | rfl | rfl <;> decide
theorem byt_k {b k n : Nat} (hn : n = 1 ∨ n = 2 ∨ n = 4) (hb : b % n = 0) (hk : k < n) (p : Nat) : byt N p (b + k) = (N 1 (cel N p b) >>> (nI (8 * (b % 4 + k)) &&& 31)) &&& 255 := by
  have e1 : cel N p (b + k) = cel N p b := by
    rw [cel, cel]
    rcases hn with rfl | rfl | rfl
    · rw [show (b + k) / 64 = b / 64 by omega, show (b + k) % 64 / 4 = b % 64 / 4 by omega]
    · rw [show (b + k) / 64 = b / 64 by omega, show (b + k) % 64 / 4 = b % 64 / 4 by omega]
    · rw [show (b + k) / 64 = b / 64 by omega, show (b + k) % 64 / 4 = b % 64 / 4 by omega]
  have e2 : (b + k) % 4 = b % 4 + k := by
    rcases hn with rfl | rfl | rfl <;> omega
  rw [byt, e1, e2]
theorem sh_eq (b : Nat) (hb : b < 2 ^ 32) : 8 * (nI b &&& 3) = nI (8 * (b % 4)) := by
  rw [pk_andN hb (k := 2) (by decide), show (8 : Int32) = nI 8 from rfl, pk_mul]
/-- a read's value -/
theorem rd_eq {f b p : Nat} (hf : ¬ (f = 3 ∨ 5 < f)) (hb : b % nof f = 0) (hb9 : b < 2 ^ 31) : rdx N p f (nof f) b = wid f (ush (N 1 (cel N p b)) (8 * (nI b &&& 3))) := by
  rw [sh_eq b (by omega)]
  obtain ⟨X, hX⟩ : ∃ X, X = N 1 (cel N p b) := ⟨_, rfl⟩
  rcases (by omega : f = 0 ∨ f = 1 ∨ f = 2 ∨ f = 4 ∨ f = 5) with rfl | rfl | rfl | rfl | rfl
  · have h0 := byt_k (N := N) (b := b) (k := 0) (n := 1) (Or.inl rfl) hb (by decide) p
    rw [← hX] at h0 ⊢
    show (((0 : Int32) <<< (8 &&& 31) ||| byt N p (b + 0)) <<< ((32 - 8 * nI 1) &&& 31)) >>> ((32 - 8 * nI 1) &&& 31) = (ush X (nI (8 * (b % 4))) <<< (24 &&& 31)) >>> (24 &&& 31)
    rw [h0]
    rcases (by omega : b % 4 = 0 ∨ b % 4 = 1 ∨ b % 4 = 2 ∨ b % 4 = 3) with e | e | e | e <;> rw [e]
    · have := congrArg (fun y => y >>> (nI 24 &&& 31)) ((congrArg (fun y => y <<< (nI 24 &&& 31)) ((bb ((X >>> (nI 0 &&& 31)) &&& 255)).trans (bl_0 X))).trans (s24 (ush X (nI 0))))
      exact this
    · have := congrArg (fun y => y >>> (nI 24 &&& 31)) ((congrArg (fun y => y <<< (nI 24 &&& 31)) ((bb ((X >>> (nI 8 &&& 31)) &&& 255)).trans (bl_1 X))).trans (s24 (ush X (nI 8))))
      exact this
    · have := congrArg (fun y => y >>> (nI 24 &&& 31)) ((congrArg (fun y => y <<< (nI 24 &&& 31)) ((bb ((X >>> (nI 16 &&& 31)) &&& 255)).trans (bl_2 X))).trans (s24 (ush X (nI 16))))
      exact this
    · have := congrArg (fun y => y >>> (nI 24 &&& 31)) ((congrArg (fun y => y <<< (nI 24 &&& 31)) ((bb ((X >>> (nI 24 &&& 31)) &&& 255)).trans (bl_3 X))).trans (s24 (ush X (nI 24))))
      exact this
  · have h0 := byt_k (N := N) (b := b) (k := 0) (n := 2) (Or.inr (Or.inl rfl)) hb (by decide) p
    have h1 := byt_k (N := N) (b := b) (k := 1) (n := 2) (Or.inr (Or.inl rfl)) hb (by decide) p
    have hb2 : b % 2 = 0 := hb
    rw [← hX] at h0 h1 ⊢
    show ((((0 : Int32) <<< (8 &&& 31) ||| byt N p (b + 1)) <<< (8 &&& 31) ||| byt N p (b + 0)) <<< ((32 - 8 * nI 2) &&& 31)) >>> ((32 - 8 * nI 2) &&& 31) = (ush X (nI (8 * (b % 4))) <<< (16 &&& 31)) >>> (16 &&& 31)
    rw [h0, h1]
    rcases (by omega : b % 4 = 0 ∨ b % 4 = 2) with e | e <;> rw [e]
    · have := congrArg (fun y => y >>> (nI 16 &&& 31)) ((congrArg (fun y => y <<< (nI 16 &&& 31)) (bh_0 X)).trans (s16 (ush X (nI 0))))
      exact this
    · have := congrArg (fun y => y >>> (nI 16 &&& 31)) ((congrArg (fun y => y <<< (nI 16 &&& 31)) (bh_2 X)).trans (s16 (ush X (nI 16))))
      exact this
  · have h0 := byt_k (N := N) (b := b) (k := 0) (n := 4) (Or.inr (Or.inr rfl)) hb (by decide) p
    have h1 := byt_k (N := N) (b := b) (k := 1) (n := 4) (Or.inr (Or.inr rfl)) hb (by decide) p
    have h2 := byt_k (N := N) (b := b) (k := 2) (n := 4) (Or.inr (Or.inr rfl)) hb (by decide) p
    have h3 := byt_k (N := N) (b := b) (k := 3) (n := 4) (Or.inr (Or.inr rfl)) hb (by decide) p
    have e : b % 4 = 0 := hb
    rw [← hX] at h0 h1 h2 h3 ⊢
    show ((((((0 : Int32) <<< (8 &&& 31) ||| byt N p (b + 3)) <<< (8 &&& 31) ||| byt N p (b + 2)) <<< (8 &&& 31) ||| byt N p (b + 1)) <<< (8 &&& 31) ||| byt N p (b + 0)) <<< ((32 - 8 * nI 4) &&& 31)) >>> ((32 - 8 * nI 4) &&& 31) = ush X (nI (8 * (b % 4)))
    rw [h0, h1, h2, h3, e]
    have := (congrArg (fun y => (y <<< (nI 0 &&& 31)) >>> (nI 0 &&& 31)) (bw X)).trans ((sh0 X).trans (u0 X).symm)
    exact this
  · have h0 := byt_k (N := N) (b := b) (k := 0) (n := 1) (Or.inl rfl) hb (by decide) p
    rw [← hX] at h0 ⊢
    show ((0 : Int32) <<< (8 &&& 31) ||| byt N p (b + 0)) = ush X (nI (8 * (b % 4))) &&& 255
    rw [h0]
    rcases (by omega : b % 4 = 0 ∨ b % 4 = 1 ∨ b % 4 = 2 ∨ b % 4 = 3) with e | e | e | e <;> rw [e]
    · exact (bb _).trans (bl_0 X)
    · exact (bb _).trans (bl_1 X)
    · exact (bb _).trans (bl_2 X)
    · exact (bb _).trans (bl_3 X)
  · have h0 := byt_k (N := N) (b := b) (k := 0) (n := 2) (Or.inr (Or.inl rfl)) hb (by decide) p
    have h1 := byt_k (N := N) (b := b) (k := 1) (n := 2) (Or.inr (Or.inl rfl)) hb (by decide) p
    have hb2 : b % 2 = 0 := hb
    rw [← hX] at h0 h1 ⊢
    show (((0 : Int32) <<< (8 &&& 31) ||| byt N p (b + 1)) <<< (8 &&& 31) ||| byt N p (b + 0)) = ush X (nI (8 * (b % 4))) &&& 65535
    rw [h0, h1]
    rcases (by omega : b % 4 = 0 ∨ b % 4 = 2) with e | e <;> rw [e]
    · exact bh_0 X
    · exact bh_2 X
theorem okA_iff {a : Int32} {k : Nat} (hk : k ≤ 2) (hs8 : s ≤ 8) : (a - a / nI (2 ^ k) * nI (2 ^ k) = 0 ∧ 0 ≤ a ∧ a < nI (64 * s)) ↔ (¬ crk a k = true ∧ a.toBitVec.toNat / 64 < s) := by
  rw [crk_iff a hk, rng_iff a hs8, Decidable.not_not]
theorem rch_eq {p m k : Nat} {a code : Int32} (hk : k ≤ 2) (hs8 : s ≤ 8) : rchM N p a (nI (2 ^ k)) code s m = if crk a k = true then endM N p (128 + code) m else if a.toBitVec.toNat / 64 < s then N else endM N p (128 + (code + 1)) m := by
  unfold rchM
  by_cases h1 : crk a k = true
  · rw [if_pos h1, if_neg ((crk_iff a hk).mp h1)]
  · rw [if_neg h1, if_pos (Decidable.byContradiction (fun q => h1 ((crk_iff a hk).mpr q)))]
    by_cases h2 : a.toBitVec.toNat / 64 < s
    · rw [if_pos h2, if_pos ((rng_iff a hs8).mpr h2)]
    · rw [if_neg h2, if_neg (fun q => h2 ((rng_iff a hs8).mp q))]
theorem of_rng {a : Int32} (h : a.toBitVec.toNat / 64 < s) (hs8 : s ≤ 8) : ∃ b, b < 64 * s ∧ a = nI b ∧ b = a.toBitVec.toNat := by
  obtain ⟨h1, h2⟩ := (rng_iff a hs8).mpr h
  rcases pk_ix a (n := 64 * s) (by omega) with q | q | ⟨b, hb, rfl⟩
  · exact absurd q (Int32.not_lt.mpr h1)
  · exact absurd h2 (Int32.not_lt.mpr q)
  · exact ⟨b, hb, rfl, (pk_tn (by omega)).symm⟩
theorem J_ftC (h : CB F i z s n T U V W C N) {w : Int32} (hw : N 0 25 = w) : J F (i + 1) D0 T U V W (msX i F s u z n (ftC C i s w)) (fin (redM N (i + 1) s z) (i + 1)) := by
  unfold ftC redM
  have hs8 := h.2.2.2.2.2.2.2.1
  have e1 : r1 C i w + (w >>> (20 &&& 31)) = adr N (i + 1) := by rw [r1, CB_reg h (bf_lt _ _ 5), adr, hw]
  rw [e1, hw]
  generalize adr N (i + 1) = a
  generalize hfe : bf w 12 3 = f
  unfold ftF redF
  by_cases c1 : f = 3 ∨ 5 < f
  · rw [if_pos c1, if_pos c1]
    exact J_f2 h
  · obtain ⟨en, ek⟩ := nof_pow c1
    rw [if_neg c1, if_neg c1, en]
    by_cases c2 : crk a (f % 4) = true
    · rw [if_pos c2, if_neg (fun q => ((okA_iff ek hs8).mp q).1 c2), rch_eq ek hs8, if_pos c2, msX]
      simp only
      rw [show (4 : Int32) = nI 4 from rfl, ms3_flt _ (by decide)]
      exact J_flt h _
    · rw [if_neg c2]
      by_cases c3 : a.toBitVec.toNat / 64 < s
      · rw [if_pos c3, if_pos ((okA_iff ek hs8).mpr ⟨c2, c3⟩)]
        obtain ⟨b, hb, rfl, hbe⟩ := of_rng c3 hs8
        have hal : b % nof f = 0 := by
          rw [en, hbe]
          have hn : 2 ^ (f % 4) = 1 ∨ 2 ^ (f % 4) = 2 ∨ 2 ^ (f % 4) = 4 := by
            rcases (by omega : f % 4 = 0 ∨ f % 4 = 1 ∨ f % 4 = 2) with q | q | q <;> rw [q] <;> decide
          exact (rem_iff (nI b) hn).mp (((okA_iff ek hs8).mpr ⟨c2, c3⟩).1)
        have hbs : b / 64 < s := by omega
        rw [nv_nI (by omega), ← en]
        refine J_sgx h hw ?_
        rw [(pl_cel h hbs).2.2]
        exact (rd_eq c1 hal (by omega)).symm
      · rw [if_neg c3, if_neg (fun q => c3 ((okA_iff ek hs8).mp q).2), rch_eq ek hs8, if_neg c2, if_neg c3, msX]
        simp only
        rw [show (5 : Int32) = nI 5 from rfl, ms3_flt _ (by decide)]
        exact J_flt h _
theorem pbM_k {M : Nat → Nat → Int32} {b k n p : Nat} {v : Int32} (hn : n = 1 ∨ n = 2 ∨ n = 4) (hb : b % n = 0) (hk : k < n) (X Y : Int32) (c : Nat) (hc : cel M p b = c) (hM : M 1 c = X) (hY : (X &&& (((255 : Int32) <<< (nI (8 * (b % 4 + k)) &&& 31)) ^^^ -1)) ||| ((v &&& 255) <<< (nI (8 * (b % 4 + k)) &&& 31)) = Y) : pbM M p (b + k) v = up2 M 1 c Y := by
  have e1 : cel M p (b + k) = cel M p b := by
    rw [cel, cel]
    rcases hn with rfl | rfl | rfl
    · rw [show (b + k) / 64 = b / 64 by omega, show (b + k) % 64 / 4 = b % 64 / 4 by omega]
    · rw [show (b + k) / 64 = b / 64 by omega, show (b + k) % 64 / 4 = b % 64 / 4 by omega]
    · rw [show (b + k) / 64 = b / 64 by omega, show (b + k) % 64 / 4 = b % 64 / 4 by omega]
  have e2 : (b + k) % 4 = b % 4 + k := by
    rcases hn with rfl | rfl | rfl <;> omega
  rw [pbM, e1, e2, hc, hM, hY]
theorem up2_up2 (σ : Nat → Nat → Int32) (a j : Nat) (x y : Int32) : up2 (up2 σ a j x) a j y = up2 σ a j y := by
  funext a' k
  simp only [up2]
  split <;> rfl
theorem cel_up (M : Nat → Nat → Int32) (p b c : Nat) (x : Int32) : cel (up2 M 1 c x) p b = cel M p b := by
  rw [cel, cel, up2_row _ _ _ (by decide)]
/-- a write's word -/
theorem wr_eq {f b p : Nat} {v : Int32} (hf : ¬ 2 < f) (hb : b % now f = 0) (hb9 : b < 2 ^ 31) : pbs N p b v (now f) = up2 N 1 (cel N p b) ((N 1 (cel N p b) &&& ((msk f <<< ((8 * (nI b &&& 3)) &&& 31)) ^^^ -1)) ||| ((v <<< ((8 * (nI b &&& 3)) &&& 31)) &&& (msk f <<< ((8 * (nI b &&& 3)) &&& 31)))) := by
  rw [sh_eq b (by omega)]
  obtain ⟨X, hX⟩ : ∃ X, X = N 1 (cel N p b) := ⟨_, rfl⟩
  obtain ⟨c, hc⟩ : ∃ c, c = cel N p b := ⟨_, rfl⟩
  rw [← hX, ← hc]
  have hX' : N 1 c = X := by rw [hc, ← hX]
  rcases (by omega : f = 0 ∨ f = 1 ∨ f = 2) with rfl | rfl | rfl
  · show pbM N p (b + 0) (v >>> (nI (8 * 0) &&& 31)) = _
    refine pbM_k (n := 1) (Or.inl rfl) hb (by decide) X _ c hc.symm hX' ?_
    rcases (by omega : b % 4 = 0 ∨ b % 4 = 1 ∨ b % 4 = 2 ∨ b % 4 = 3) with e | e | e | e <;> rw [e]
    · exact sb_0 X v
    · exact sb_1 X v
    · exact sb_2 X v
    · exact sb_3 X v
  · have hb2 : b % 2 = 0 := hb
    show pbM (pbM N p (b + 0) (v >>> (nI (8 * 0) &&& 31))) p (b + 1) (v >>> (nI (8 * 1) &&& 31)) = _
    rw [pbM_k (n := 2) (Or.inr (Or.inl rfl)) hb (by decide) X _ c hc.symm hX' rfl]
    rw [pbM_k (n := 2) (Or.inr (Or.inl rfl)) hb (by decide) _ _ c (by rw [cel_up]; exact hc.symm) (up2_at _ _ _ _) rfl, up2_up2]
    congr 1
    rcases (by omega : b % 4 = 0 ∨ b % 4 = 2) with e | e <;> rw [e]
    · exact shw_0 X v
    · exact shw_2 X v
  · have hb4 : b % 4 = 0 := hb
    show pbM (pbM (pbM (pbM N p (b + 0) (v >>> (nI (8 * 0) &&& 31))) p (b + 1) (v >>> (nI (8 * 1) &&& 31))) p (b + 2) (v >>> (nI (8 * 2) &&& 31))) p (b + 3) (v >>> (nI (8 * 3) &&& 31)) = _
    rw [pbM_k (n := 4) (Or.inr (Or.inr rfl)) hb (by decide) X _ c hc.symm hX' rfl]
    rw [pbM_k (n := 4) (Or.inr (Or.inr rfl)) hb (by decide) _ _ c (by rw [cel_up]; exact hc.symm) (up2_at _ _ _ _) rfl, up2_up2]
    rw [pbM_k (n := 4) (Or.inr (Or.inr rfl)) hb (by decide) _ _ c (by rw [cel_up]; exact hc.symm) (up2_at _ _ _ _) rfl, up2_up2]
    rw [pbM_k (n := 4) (Or.inr (Or.inr rfl)) hb (by decide) _ _ c (by rw [cel_up]; exact hc.symm) (up2_at _ _ _ _) rfl, up2_up2]
    congr 1
    rw [hb4]
    exact sw X v
theorem J_ptC (h : CB F i z s n T U V W C N) {w : Int32} (hw : N 0 25 = w) : J F (i + 1) D0 T U V W (msX i F s u z n (ptC C i s w)) (fin (wrtM N (i + 1) s z) (i + 1)) := by
  unfold ptC wrtM
  have hs8 := h.2.2.2.2.2.2.2.1
  have e1 : r1 C i w + (((w >>> (25 &&& 31)) <<< (5 &&& 31)) ||| nI (bf w 7 5)) = adw N (i + 1) := by rw [r1, CB_reg h (bf_lt _ _ 5), adw, hw]
  rw [e1, hw]
  generalize adw N (i + 1) = a
  generalize hfe : bf w 12 3 = f
  have e2 : r2 C i w = N 9 (32 * (i + 1) + bf w 20 5) := by rw [r2, CB_reg h (bf_lt _ _ 5)]
  unfold ptF wrtF
  rw [e2]
  generalize N 9 (32 * (i + 1) + bf w 20 5) = v
  by_cases c1 : 2 < f
  · rw [if_pos c1, if_pos c1]
    exact J_f2 h
  · obtain ⟨en, ek⟩ := now_pow c1
    rw [if_neg c1, if_neg c1, en]
    by_cases c2 : crk a f = true
    · rw [if_pos c2, if_neg (fun q => ((okA_iff ek hs8).mp q).1 c2), rch_eq ek hs8, if_pos c2, msX]
      simp only
      rw [show (6 : Int32) = nI 6 from rfl, ms3_flt _ (by decide)]
      exact J_flt h _
    · rw [if_neg c2]
      by_cases c3 : a.toBitVec.toNat / 64 < s
      · rw [if_pos c3, if_pos ((okA_iff ek hs8).mpr ⟨c2, c3⟩)]
        obtain ⟨b, hb, rfl, hbe⟩ := of_rng c3 hs8
        have hal : b % now f = 0 := by
          rw [en, hbe]
          have hn : 2 ^ f = 1 ∨ 2 ^ f = 2 ∨ 2 ^ f = 4 := by
            rcases (by omega : f = 0 ∨ f = 1 ∨ f = 2) with q | q | q <;> rw [q] <;> decide
          exact (rem_iff (nI b) hn).mp (((okA_iff ek hs8).mpr ⟨c2, c3⟩).1)
        have hbs : b / 64 < s := by omega
        obtain ⟨p1, p2, p3⟩ := pl_cel h hbs
        rw [nv_nI (by omega), ← en, wr_eq c1 hal (by omega), msX]
        simp only
        rw [ms3_go, p3, p1]
        have e := CB_pc h
        obtain ⟨hi, hJ, h4, h26, h27, _⟩ := h
        rw [goC, up2_row _ _ _ (by decide), e]
        exact J_adv hi (J_word hJ _ _) _ (by rw [up2_row _ _ _ (by decide)]; exact h26) (by rw [up2_row _ _ _ (by decide)]; exact h27)
      · rw [if_neg c3, if_neg (fun q => c3 ((okA_iff ek hs8).mp q).2), rch_eq ek hs8, if_neg c2, if_neg c3, msX]
        simp only
        rw [show (7 : Int32) = nI 7 from rfl, ms3_flt _ (by decide)]
        exact J_flt h _
/-- an instruction -/
theorem J_exW (h : CB F i z s n T U V W C N) {w : Int32} (hw : N 0 25 = w) : J F (i + 1) D0 T U V W (msX i F s (nfr N F) z n (exW C i s w (bf w 0 7))) (fin (insX N (i + 1) z s F (N 7 (i + 1))) (i + 1)) := by
  have ep := CB_pc h
  unfold insX
  rw [hw]
  obtain ⟨o, ho⟩ : ∃ o, o = bf w 0 7 := ⟨_, rfl⟩
  rw [← ho]
  have n115 : o ≠ 115 → ¬ w = 1048691 := fun q e => q (by rw [ho, e]; decide)
  by_cases o55 : o = 55
  · rw [if_pos o55, o55]
    show J F (i + 1) D0 T U V W (msX i F s (nfr N F) z n (-1, sgC C i w (w &&& -4096))) _
    have := J_sgx (u := nfr N F) h hw (v := w &&& -4096) rfl
    rw [hw] at this
    exact this
  rw [if_neg o55]
  by_cases o23 : o = 23
  · rw [if_pos o23, o23]
    show J F (i + 1) D0 T U V W (msX i F s (nfr N F) z n (-1, sgC C i w (C 16 i + (w &&& -4096)))) _
    have := J_sgx (u := nfr N F) h hw (v := C 16 i + (w &&& -4096)) (v' := N 7 (i + 1) + (w &&& -4096)) (by rw [ep])
    rw [hw] at this
    exact this
  rw [if_neg o23]
  by_cases o111 : o = 111
  · rw [if_pos o111, o111]
    show J F (i + 1) D0 T U V W (msX i F s (nfr N F) z n (jpC C i w (C 16 i + jnC w))) _
    rw [ep, jim_eq]
    exact J_jpC h hw _
  rw [if_neg o111]
  by_cases o103 : o = 103
  · rw [o103]
    show J F (i + 1) D0 T U V W (msX i F s (nfr N F) z n (jrC C i w)) _
    unfold jrC
    by_cases c : bf w 12 3 = 0
    · rw [if_pos c, if_pos ⟨rfl, c⟩, r1, CB_reg h (bf_lt _ _ 5)]
      exact J_jpC h hw _
    · rw [if_neg c, if_neg (fun q => c q.2), if_neg (by decide), if_neg (by decide), if_neg (by decide), if_neg (by decide), if_neg (by decide), if_neg (fun q => absurd q.1 (by decide)), if_neg (n115 (by rw [o103]; decide)), if_neg (fun q => absurd q.1 (by decide))]
      exact J_f2 h
  rw [if_neg (fun q => o103 q.1)]
  by_cases o99 : o = 99
  · rw [if_pos o99, o99]
    show J F (i + 1) D0 T U V W (msX i F s (nfr N F) z n (bnC C i w)) _
    exact J_bnC h hw
  rw [if_neg o99]
  by_cases o3 : o = 3
  · rw [if_pos o3, o3]
    show J F (i + 1) D0 T U V W (msX i F s (nfr N F) z n (ftC C i s w)) _
    exact J_ftC h hw
  rw [if_neg o3]
  by_cases o35 : o = 35
  · rw [if_pos o35, o35]
    show J F (i + 1) D0 T U V W (msX i F s (nfr N F) z n (ptC C i s w)) _
    exact J_ptC h hw
  rw [if_neg o35]
  by_cases o19 : o = 19
  · rw [if_pos o19, o19]
    show J F (i + 1) D0 T U V W (msX i F s (nfr N F) z n (cnC C i w)) _
    exact J_cnC h hw
  rw [if_neg o19]
  by_cases o51 : o = 51
  · rw [if_pos o51, o51]
    show J F (i + 1) D0 T U V W (msX i F s (nfr N F) z n (crC C i w)) _
    exact J_crC h hw
  rw [if_neg o51]
  by_cases o115 : o = 115
  · have ex : exW C i s w o = (spC w, C) := by rw [o115]; rfl
    rw [ex, spC, msX]
    simp only
    by_cases w1 : w = 115
    · rw [if_pos w1, if_pos ⟨o115, w1⟩]
      exact J_call h
    · rw [if_neg w1, if_neg (show ¬ (o = 115 ∧ w = 115) from fun q => w1 q.2)]
      by_cases w2 : w = 1048691
      · rw [if_pos w2, if_pos w2, show (3 : Int32) = nI 3 from rfl, ms3_flt _ (by decide)]
        exact J_flt h _
      · rw [if_neg w2, if_neg w2, if_neg (fun q => absurd (o115.symm.trans q.1) (by decide))]
        exact J_f2 h
  rw [if_neg (fun q => o115 q.1), if_neg (n115 o115)]
  by_cases o15 : o = 15
  · rw [o15]
    show J F (i + 1) D0 T U V W (msX i F s (nfr N F) z n (if bf w 12 3 = 0 then (-1, goC C i) else (2, C))) _
    by_cases c : bf w 12 3 = 0
    · rw [if_pos c, if_pos ⟨rfl, c⟩, msX]
      simp only
      rw [ms3_go]
      exact J_go h
    · rw [if_neg c, if_neg (fun q => c q.2)]
      exact J_f2 h
  · rw [if_neg (fun q => o15 q.1), exW, if_neg o3, if_neg o15, if_neg o19, if_neg o23, if_neg o35, if_neg o51, if_neg o55, if_neg o99, if_neg o103, if_neg o111, if_neg o115]
    exact J_f2 h
end RW_

/-! ===== bits ===== -/
theorem sl_k (x : Int32) {k : Nat} (h : k < 32) : (x <<< (nI k &&& 31)).toBitVec = x.toBitVec <<< k := by
  show x.toBitVec <<< ((nI k &&& 31).toBitVec.smod 32) = _
  rw [BitVec.shiftLeft_eq', sh_ok k h]
theorem sr_k (x : Int32) {k : Nat} (h : k < 32) : (x >>> (nI k &&& 31)).toBitVec = x.toBitVec.sshiftRight k := by
  show x.toBitVec.sshiftRight' ((nI k &&& 31).toBitVec.smod 32) = _
  rw [BitVec.sshiftRight', sh_ok k h]
theorem us_k (x : Int32) {k : Nat} (h : k < 32) : (ush x (nI k)).toBitVec = x.toBitVec >>> k := by
  apply BitVec.eq_of_toNat_eq
  rw [BitVec.toNat_ushiftRight, Nat.shiftRight_eq_div_pow]
  have e : (((nI k).toUInt32 &&& Int32.toUInt32 31).toBitVec % 32).toNat = k := by
    have : ∀ k, k < 32 → (((nI k).toUInt32 &&& Int32.toUInt32 31).toBitVec % 32).toNat = k := by decide
    exact this k h
  exact pk_ushr x (nI k) k e
theorem tb255 : (255 : Int32).toBitVec = 255#32 := rfl
theorem tb65535 : (65535 : Int32).toBitVec = 65535#32 := rfl
theorem tbm1 : (-1 : Int32).toBitVec = 4294967295#32 := rfl
theorem tb0 : (0 : Int32).toBitVec = 0#32 := rfl
theorem bl_0 (W : Int32) : (W >>> (nI 0 &&& 31)) &&& 255 = ush W (nI 0) &&& 255 := by
  apply Int32.toBitVec_inj.mp
  simp (disch := decide) only [Int32.toBitVec_or, Int32.toBitVec_and, Int32.toBitVec_xor, sl_k, sr_k, us_k, tb255, tb65535, tbm1, tb0]
  apply BitVec.eq_of_getLsbD_eq
  intro i hi
  simp only [BitVec.getLsbD_shiftLeft, BitVec.getLsbD_and, BitVec.getLsbD_or, BitVec.getLsbD_xor, BitVec.getLsbD_ushiftRight, BitVec.getLsbD_sshiftRight]
  rcases (by omega : i = 0 ∨ i = 1 ∨ i = 2 ∨ i = 3 ∨ i = 4 ∨ i = 5 ∨ i = 6 ∨ i = 7 ∨ i = 8 ∨ i = 9 ∨ i = 10 ∨ i = 11 ∨ i = 12 ∨ i = 13 ∨ i = 14 ∨ i = 15 ∨ i = 16 ∨ i = 17 ∨ i = 18 ∨ i = 19 ∨ i = 20 ∨ i = 21 ∨ i = 22 ∨ i = 23 ∨ i = 24 ∨ i = 25 ∨ i = 26 ∨ i = 27 ∨ i = 28 ∨ i = 29 ∨ i = 30 ∨ i = 31) with rfl | rfl | rfl | rfl | rfl | rfl | rfl | rfl | rfl | rfl | rfl | rfl | rfl | rfl | rfl | rfl | rfl | rfl | rfl | rfl | rfl | rfl | rfl | rfl | rfl | rfl | rfl | rfl | rfl | rfl | rfl | rfl <;> simp
theorem bl_1 (W : Int32) : (W >>> (nI 8 &&& 31)) &&& 255 = ush W (nI 8) &&& 255 := by
  apply Int32.toBitVec_inj.mp
  simp (disch := decide) only [Int32.toBitVec_or, Int32.toBitVec_and, Int32.toBitVec_xor, sl_k, sr_k, us_k, tb255, tb65535, tbm1, tb0]
  apply BitVec.eq_of_getLsbD_eq
  intro i hi
  simp only [BitVec.getLsbD_shiftLeft, BitVec.getLsbD_and, BitVec.getLsbD_or, BitVec.getLsbD_xor, BitVec.getLsbD_ushiftRight, BitVec.getLsbD_sshiftRight]
  rcases (by omega : i = 0 ∨ i = 1 ∨ i = 2 ∨ i = 3 ∨ i = 4 ∨ i = 5 ∨ i = 6 ∨ i = 7 ∨ i = 8 ∨ i = 9 ∨ i = 10 ∨ i = 11 ∨ i = 12 ∨ i = 13 ∨ i = 14 ∨ i = 15 ∨ i = 16 ∨ i = 17 ∨ i = 18 ∨ i = 19 ∨ i = 20 ∨ i = 21 ∨ i = 22 ∨ i = 23 ∨ i = 24 ∨ i = 25 ∨ i = 26 ∨ i = 27 ∨ i = 28 ∨ i = 29 ∨ i = 30 ∨ i = 31) with rfl | rfl | rfl | rfl | rfl | rfl | rfl | rfl | rfl | rfl | rfl | rfl | rfl | rfl | rfl | rfl | rfl | rfl | rfl | rfl | rfl | rfl | rfl | rfl | rfl | rfl | rfl | rfl | rfl | rfl | rfl | rfl <;> simp
theorem bl_2 (W : Int32) : (W >>> (nI 16 &&& 31)) &&& 255 = ush W (nI 16) &&& 255 := by
  apply Int32.toBitVec_inj.mp
  simp (disch := decide) only [Int32.toBitVec_or, Int32.toBitVec_and, Int32.toBitVec_xor, sl_k, sr_k, us_k, tb255, tb65535, tbm1, tb0]
  apply BitVec.eq_of_getLsbD_eq
  intro i hi
  simp only [BitVec.getLsbD_shiftLeft, BitVec.getLsbD_and, BitVec.getLsbD_or, BitVec.getLsbD_xor, BitVec.getLsbD_ushiftRight, BitVec.getLsbD_sshiftRight]
  rcases (by omega : i = 0 ∨ i = 1 ∨ i = 2 ∨ i = 3 ∨ i = 4 ∨ i = 5 ∨ i = 6 ∨ i = 7 ∨ i = 8 ∨ i = 9 ∨ i = 10 ∨ i = 11 ∨ i = 12 ∨ i = 13 ∨ i = 14 ∨ i = 15 ∨ i = 16 ∨ i = 17 ∨ i = 18 ∨ i = 19 ∨ i = 20 ∨ i = 21 ∨ i = 22 ∨ i = 23 ∨ i = 24 ∨ i = 25 ∨ i = 26 ∨ i = 27 ∨ i = 28 ∨ i = 29 ∨ i = 30 ∨ i = 31) with rfl | rfl | rfl | rfl | rfl | rfl | rfl | rfl | rfl | rfl | rfl | rfl | rfl | rfl | rfl | rfl | rfl | rfl | rfl | rfl | rfl | rfl | rfl | rfl | rfl | rfl | rfl | rfl | rfl | rfl | rfl | rfl <;> simp
theorem bl_3 (W : Int32) : (W >>> (nI 24 &&& 31)) &&& 255 = ush W (nI 24) &&& 255 := by
  apply Int32.toBitVec_inj.mp
  simp (disch := decide) only [Int32.toBitVec_or, Int32.toBitVec_and, Int32.toBitVec_xor, sl_k, sr_k, us_k, tb255, tb65535, tbm1, tb0]
  apply BitVec.eq_of_getLsbD_eq
  intro i hi
  simp only [BitVec.getLsbD_shiftLeft, BitVec.getLsbD_and, BitVec.getLsbD_or, BitVec.getLsbD_xor, BitVec.getLsbD_ushiftRight, BitVec.getLsbD_sshiftRight]
  rcases (by omega : i = 0 ∨ i = 1 ∨ i = 2 ∨ i = 3 ∨ i = 4 ∨ i = 5 ∨ i = 6 ∨ i = 7 ∨ i = 8 ∨ i = 9 ∨ i = 10 ∨ i = 11 ∨ i = 12 ∨ i = 13 ∨ i = 14 ∨ i = 15 ∨ i = 16 ∨ i = 17 ∨ i = 18 ∨ i = 19 ∨ i = 20 ∨ i = 21 ∨ i = 22 ∨ i = 23 ∨ i = 24 ∨ i = 25 ∨ i = 26 ∨ i = 27 ∨ i = 28 ∨ i = 29 ∨ i = 30 ∨ i = 31) with rfl | rfl | rfl | rfl | rfl | rfl | rfl | rfl | rfl | rfl | rfl | rfl | rfl | rfl | rfl | rfl | rfl | rfl | rfl | rfl | rfl | rfl | rfl | rfl | rfl | rfl | rfl | rfl | rfl | rfl | rfl | rfl <;> simp
theorem s24 (x : Int32) : (x &&& 255) <<< (nI 24 &&& 31) = x <<< (nI 24 &&& 31) := by
  apply Int32.toBitVec_inj.mp
  simp (disch := decide) only [Int32.toBitVec_or, Int32.toBitVec_and, Int32.toBitVec_xor, sl_k, sr_k, us_k, tb255, tb65535, tbm1, tb0]
  apply BitVec.eq_of_getLsbD_eq
  intro i hi
  simp only [BitVec.getLsbD_shiftLeft, BitVec.getLsbD_and, BitVec.getLsbD_or, BitVec.getLsbD_xor, BitVec.getLsbD_ushiftRight, BitVec.getLsbD_sshiftRight]
  rcases (by omega : i = 0 ∨ i = 1 ∨ i = 2 ∨ i = 3 ∨ i = 4 ∨ i = 5 ∨ i = 6 ∨ i = 7 ∨ i = 8 ∨ i = 9 ∨ i = 10 ∨ i = 11 ∨ i = 12 ∨ i = 13 ∨ i = 14 ∨ i = 15 ∨ i = 16 ∨ i = 17 ∨ i = 18 ∨ i = 19 ∨ i = 20 ∨ i = 21 ∨ i = 22 ∨ i = 23 ∨ i = 24 ∨ i = 25 ∨ i = 26 ∨ i = 27 ∨ i = 28 ∨ i = 29 ∨ i = 30 ∨ i = 31) with rfl | rfl | rfl | rfl | rfl | rfl | rfl | rfl | rfl | rfl | rfl | rfl | rfl | rfl | rfl | rfl | rfl | rfl | rfl | rfl | rfl | rfl | rfl | rfl | rfl | rfl | rfl | rfl | rfl | rfl | rfl | rfl <;> simp
theorem s16 (x : Int32) : (x &&& 65535) <<< (nI 16 &&& 31) = x <<< (nI 16 &&& 31) := by
  apply Int32.toBitVec_inj.mp
  simp (disch := decide) only [Int32.toBitVec_or, Int32.toBitVec_and, Int32.toBitVec_xor, sl_k, sr_k, us_k, tb255, tb65535, tbm1, tb0]
  apply BitVec.eq_of_getLsbD_eq
  intro i hi
  simp only [BitVec.getLsbD_shiftLeft, BitVec.getLsbD_and, BitVec.getLsbD_or, BitVec.getLsbD_xor, BitVec.getLsbD_ushiftRight, BitVec.getLsbD_sshiftRight]
  rcases (by omega : i = 0 ∨ i = 1 ∨ i = 2 ∨ i = 3 ∨ i = 4 ∨ i = 5 ∨ i = 6 ∨ i = 7 ∨ i = 8 ∨ i = 9 ∨ i = 10 ∨ i = 11 ∨ i = 12 ∨ i = 13 ∨ i = 14 ∨ i = 15 ∨ i = 16 ∨ i = 17 ∨ i = 18 ∨ i = 19 ∨ i = 20 ∨ i = 21 ∨ i = 22 ∨ i = 23 ∨ i = 24 ∨ i = 25 ∨ i = 26 ∨ i = 27 ∨ i = 28 ∨ i = 29 ∨ i = 30 ∨ i = 31) with rfl | rfl | rfl | rfl | rfl | rfl | rfl | rfl | rfl | rfl | rfl | rfl | rfl | rfl | rfl | rfl | rfl | rfl | rfl | rfl | rfl | rfl | rfl | rfl | rfl | rfl | rfl | rfl | rfl | rfl | rfl | rfl <;> simp
theorem bh_0 (W : Int32) : (((0 : Int32) <<< (nI 8 &&& 31) ||| ((W >>> (nI 8 &&& 31)) &&& 255)) <<< (nI 8 &&& 31)) ||| ((W >>> (nI 0 &&& 31)) &&& 255) = ush W (nI 0) &&& 65535 := by
  apply Int32.toBitVec_inj.mp
  simp (disch := decide) only [Int32.toBitVec_or, Int32.toBitVec_and, Int32.toBitVec_xor, sl_k, sr_k, us_k, tb255, tb65535, tbm1, tb0]
  apply BitVec.eq_of_getLsbD_eq
  intro i hi
  simp only [BitVec.getLsbD_shiftLeft, BitVec.getLsbD_and, BitVec.getLsbD_or, BitVec.getLsbD_xor, BitVec.getLsbD_ushiftRight, BitVec.getLsbD_sshiftRight]
  rcases (by omega : i = 0 ∨ i = 1 ∨ i = 2 ∨ i = 3 ∨ i = 4 ∨ i = 5 ∨ i = 6 ∨ i = 7 ∨ i = 8 ∨ i = 9 ∨ i = 10 ∨ i = 11 ∨ i = 12 ∨ i = 13 ∨ i = 14 ∨ i = 15 ∨ i = 16 ∨ i = 17 ∨ i = 18 ∨ i = 19 ∨ i = 20 ∨ i = 21 ∨ i = 22 ∨ i = 23 ∨ i = 24 ∨ i = 25 ∨ i = 26 ∨ i = 27 ∨ i = 28 ∨ i = 29 ∨ i = 30 ∨ i = 31) with rfl | rfl | rfl | rfl | rfl | rfl | rfl | rfl | rfl | rfl | rfl | rfl | rfl | rfl | rfl | rfl | rfl | rfl | rfl | rfl | rfl | rfl | rfl | rfl | rfl | rfl | rfl | rfl | rfl | rfl | rfl | rfl <;> simp
theorem bh_2 (W : Int32) : (((0 : Int32) <<< (nI 8 &&& 31) ||| ((W >>> (nI 24 &&& 31)) &&& 255)) <<< (nI 8 &&& 31)) ||| ((W >>> (nI 16 &&& 31)) &&& 255) = ush W (nI 16) &&& 65535 := by
  apply Int32.toBitVec_inj.mp
  simp (disch := decide) only [Int32.toBitVec_or, Int32.toBitVec_and, Int32.toBitVec_xor, sl_k, sr_k, us_k, tb255, tb65535, tbm1, tb0]
  apply BitVec.eq_of_getLsbD_eq
  intro i hi
  simp only [BitVec.getLsbD_shiftLeft, BitVec.getLsbD_and, BitVec.getLsbD_or, BitVec.getLsbD_xor, BitVec.getLsbD_ushiftRight, BitVec.getLsbD_sshiftRight]
  rcases (by omega : i = 0 ∨ i = 1 ∨ i = 2 ∨ i = 3 ∨ i = 4 ∨ i = 5 ∨ i = 6 ∨ i = 7 ∨ i = 8 ∨ i = 9 ∨ i = 10 ∨ i = 11 ∨ i = 12 ∨ i = 13 ∨ i = 14 ∨ i = 15 ∨ i = 16 ∨ i = 17 ∨ i = 18 ∨ i = 19 ∨ i = 20 ∨ i = 21 ∨ i = 22 ∨ i = 23 ∨ i = 24 ∨ i = 25 ∨ i = 26 ∨ i = 27 ∨ i = 28 ∨ i = 29 ∨ i = 30 ∨ i = 31) with rfl | rfl | rfl | rfl | rfl | rfl | rfl | rfl | rfl | rfl | rfl | rfl | rfl | rfl | rfl | rfl | rfl | rfl | rfl | rfl | rfl | rfl | rfl | rfl | rfl | rfl | rfl | rfl | rfl | rfl | rfl | rfl <;> simp
theorem bw (W : Int32) : ((((((0 : Int32) <<< (nI 8 &&& 31) ||| ((W >>> (nI 24 &&& 31)) &&& 255)) <<< (nI 8 &&& 31)) ||| ((W >>> (nI 16 &&& 31)) &&& 255)) <<< (nI 8 &&& 31) ||| ((W >>> (nI 8 &&& 31)) &&& 255)) <<< (nI 8 &&& 31)) ||| ((W >>> (nI 0 &&& 31)) &&& 255) = W := by
  apply Int32.toBitVec_inj.mp
  simp (disch := decide) only [Int32.toBitVec_or, Int32.toBitVec_and, Int32.toBitVec_xor, sl_k, sr_k, us_k, tb255, tb65535, tbm1, tb0]
  apply BitVec.eq_of_getLsbD_eq
  intro i hi
  simp only [BitVec.getLsbD_shiftLeft, BitVec.getLsbD_and, BitVec.getLsbD_or, BitVec.getLsbD_xor, BitVec.getLsbD_ushiftRight, BitVec.getLsbD_sshiftRight]
  rcases (by omega : i = 0 ∨ i = 1 ∨ i = 2 ∨ i = 3 ∨ i = 4 ∨ i = 5 ∨ i = 6 ∨ i = 7 ∨ i = 8 ∨ i = 9 ∨ i = 10 ∨ i = 11 ∨ i = 12 ∨ i = 13 ∨ i = 14 ∨ i = 15 ∨ i = 16 ∨ i = 17 ∨ i = 18 ∨ i = 19 ∨ i = 20 ∨ i = 21 ∨ i = 22 ∨ i = 23 ∨ i = 24 ∨ i = 25 ∨ i = 26 ∨ i = 27 ∨ i = 28 ∨ i = 29 ∨ i = 30 ∨ i = 31) with rfl | rfl | rfl | rfl | rfl | rfl | rfl | rfl | rfl | rfl | rfl | rfl | rfl | rfl | rfl | rfl | rfl | rfl | rfl | rfl | rfl | rfl | rfl | rfl | rfl | rfl | rfl | rfl | rfl | rfl | rfl | rfl <;> simp
theorem bb (W : Int32) : ((0 : Int32) <<< (nI 8 &&& 31)) ||| W = W := by
  apply Int32.toBitVec_inj.mp
  simp (disch := decide) only [Int32.toBitVec_or, Int32.toBitVec_and, Int32.toBitVec_xor, sl_k, sr_k, us_k, tb255, tb65535, tbm1, tb0]
  apply BitVec.eq_of_getLsbD_eq
  intro i hi
  simp only [BitVec.getLsbD_shiftLeft, BitVec.getLsbD_and, BitVec.getLsbD_or, BitVec.getLsbD_xor, BitVec.getLsbD_ushiftRight, BitVec.getLsbD_sshiftRight]
  rcases (by omega : i = 0 ∨ i = 1 ∨ i = 2 ∨ i = 3 ∨ i = 4 ∨ i = 5 ∨ i = 6 ∨ i = 7 ∨ i = 8 ∨ i = 9 ∨ i = 10 ∨ i = 11 ∨ i = 12 ∨ i = 13 ∨ i = 14 ∨ i = 15 ∨ i = 16 ∨ i = 17 ∨ i = 18 ∨ i = 19 ∨ i = 20 ∨ i = 21 ∨ i = 22 ∨ i = 23 ∨ i = 24 ∨ i = 25 ∨ i = 26 ∨ i = 27 ∨ i = 28 ∨ i = 29 ∨ i = 30 ∨ i = 31) with rfl | rfl | rfl | rfl | rfl | rfl | rfl | rfl | rfl | rfl | rfl | rfl | rfl | rfl | rfl | rfl | rfl | rfl | rfl | rfl | rfl | rfl | rfl | rfl | rfl | rfl | rfl | rfl | rfl | rfl | rfl | rfl <;> simp
theorem u0 (W : Int32) : ush W (nI 0) = W := by
  apply Int32.toBitVec_inj.mp
  simp (disch := decide) only [Int32.toBitVec_or, Int32.toBitVec_and, Int32.toBitVec_xor, sl_k, sr_k, us_k, tb255, tb65535, tbm1, tb0]
  apply BitVec.eq_of_getLsbD_eq
  intro i hi
  simp only [BitVec.getLsbD_shiftLeft, BitVec.getLsbD_and, BitVec.getLsbD_or, BitVec.getLsbD_xor, BitVec.getLsbD_ushiftRight, BitVec.getLsbD_sshiftRight]
  rcases (by omega : i = 0 ∨ i = 1 ∨ i = 2 ∨ i = 3 ∨ i = 4 ∨ i = 5 ∨ i = 6 ∨ i = 7 ∨ i = 8 ∨ i = 9 ∨ i = 10 ∨ i = 11 ∨ i = 12 ∨ i = 13 ∨ i = 14 ∨ i = 15 ∨ i = 16 ∨ i = 17 ∨ i = 18 ∨ i = 19 ∨ i = 20 ∨ i = 21 ∨ i = 22 ∨ i = 23 ∨ i = 24 ∨ i = 25 ∨ i = 26 ∨ i = 27 ∨ i = 28 ∨ i = 29 ∨ i = 30 ∨ i = 31) with rfl | rfl | rfl | rfl | rfl | rfl | rfl | rfl | rfl | rfl | rfl | rfl | rfl | rfl | rfl | rfl | rfl | rfl | rfl | rfl | rfl | rfl | rfl | rfl | rfl | rfl | rfl | rfl | rfl | rfl | rfl | rfl <;> simp
theorem sh0 (W : Int32) : (W <<< (nI 0 &&& 31)) >>> (nI 0 &&& 31) = W := by
  apply Int32.toBitVec_inj.mp
  simp (disch := decide) only [Int32.toBitVec_or, Int32.toBitVec_and, Int32.toBitVec_xor, sl_k, sr_k, us_k, tb255, tb65535, tbm1, tb0]
  apply BitVec.eq_of_getLsbD_eq
  intro i hi
  simp only [BitVec.getLsbD_shiftLeft, BitVec.getLsbD_and, BitVec.getLsbD_or, BitVec.getLsbD_xor, BitVec.getLsbD_ushiftRight, BitVec.getLsbD_sshiftRight]
  rcases (by omega : i = 0 ∨ i = 1 ∨ i = 2 ∨ i = 3 ∨ i = 4 ∨ i = 5 ∨ i = 6 ∨ i = 7 ∨ i = 8 ∨ i = 9 ∨ i = 10 ∨ i = 11 ∨ i = 12 ∨ i = 13 ∨ i = 14 ∨ i = 15 ∨ i = 16 ∨ i = 17 ∨ i = 18 ∨ i = 19 ∨ i = 20 ∨ i = 21 ∨ i = 22 ∨ i = 23 ∨ i = 24 ∨ i = 25 ∨ i = 26 ∨ i = 27 ∨ i = 28 ∨ i = 29 ∨ i = 30 ∨ i = 31) with rfl | rfl | rfl | rfl | rfl | rfl | rfl | rfl | rfl | rfl | rfl | rfl | rfl | rfl | rfl | rfl | rfl | rfl | rfl | rfl | rfl | rfl | rfl | rfl | rfl | rfl | rfl | rfl | rfl | rfl | rfl | rfl <;> simp
theorem sb_0 (W v : Int32) : ((W &&& (((255 : Int32) <<< (nI 0 &&& 31)) ^^^ -1)) ||| (((v >>> (nI 0 &&& 31)) &&& 255) <<< (nI 0 &&& 31))) = (W &&& (((255 : Int32) <<< (nI 0 &&& 31)) ^^^ -1)) ||| ((v <<< (nI 0 &&& 31)) &&& ((255 : Int32) <<< (nI 0 &&& 31))) := by
  apply Int32.toBitVec_inj.mp
  simp (disch := decide) only [Int32.toBitVec_or, Int32.toBitVec_and, Int32.toBitVec_xor, sl_k, sr_k, us_k, tb255, tb65535, tbm1, tb0]
  apply BitVec.eq_of_getLsbD_eq
  intro i hi
  simp only [BitVec.getLsbD_shiftLeft, BitVec.getLsbD_and, BitVec.getLsbD_or, BitVec.getLsbD_xor, BitVec.getLsbD_ushiftRight, BitVec.getLsbD_sshiftRight]
  rcases (by omega : i = 0 ∨ i = 1 ∨ i = 2 ∨ i = 3 ∨ i = 4 ∨ i = 5 ∨ i = 6 ∨ i = 7 ∨ i = 8 ∨ i = 9 ∨ i = 10 ∨ i = 11 ∨ i = 12 ∨ i = 13 ∨ i = 14 ∨ i = 15 ∨ i = 16 ∨ i = 17 ∨ i = 18 ∨ i = 19 ∨ i = 20 ∨ i = 21 ∨ i = 22 ∨ i = 23 ∨ i = 24 ∨ i = 25 ∨ i = 26 ∨ i = 27 ∨ i = 28 ∨ i = 29 ∨ i = 30 ∨ i = 31) with rfl | rfl | rfl | rfl | rfl | rfl | rfl | rfl | rfl | rfl | rfl | rfl | rfl | rfl | rfl | rfl | rfl | rfl | rfl | rfl | rfl | rfl | rfl | rfl | rfl | rfl | rfl | rfl | rfl | rfl | rfl | rfl <;> simp
theorem sb_1 (W v : Int32) : ((W &&& (((255 : Int32) <<< (nI 8 &&& 31)) ^^^ -1)) ||| (((v >>> (nI 0 &&& 31)) &&& 255) <<< (nI 8 &&& 31))) = (W &&& (((255 : Int32) <<< (nI 8 &&& 31)) ^^^ -1)) ||| ((v <<< (nI 8 &&& 31)) &&& ((255 : Int32) <<< (nI 8 &&& 31))) := by
  apply Int32.toBitVec_inj.mp
  simp (disch := decide) only [Int32.toBitVec_or, Int32.toBitVec_and, Int32.toBitVec_xor, sl_k, sr_k, us_k, tb255, tb65535, tbm1, tb0]
  apply BitVec.eq_of_getLsbD_eq
  intro i hi
  simp only [BitVec.getLsbD_shiftLeft, BitVec.getLsbD_and, BitVec.getLsbD_or, BitVec.getLsbD_xor, BitVec.getLsbD_ushiftRight, BitVec.getLsbD_sshiftRight]
  rcases (by omega : i = 0 ∨ i = 1 ∨ i = 2 ∨ i = 3 ∨ i = 4 ∨ i = 5 ∨ i = 6 ∨ i = 7 ∨ i = 8 ∨ i = 9 ∨ i = 10 ∨ i = 11 ∨ i = 12 ∨ i = 13 ∨ i = 14 ∨ i = 15 ∨ i = 16 ∨ i = 17 ∨ i = 18 ∨ i = 19 ∨ i = 20 ∨ i = 21 ∨ i = 22 ∨ i = 23 ∨ i = 24 ∨ i = 25 ∨ i = 26 ∨ i = 27 ∨ i = 28 ∨ i = 29 ∨ i = 30 ∨ i = 31) with rfl | rfl | rfl | rfl | rfl | rfl | rfl | rfl | rfl | rfl | rfl | rfl | rfl | rfl | rfl | rfl | rfl | rfl | rfl | rfl | rfl | rfl | rfl | rfl | rfl | rfl | rfl | rfl | rfl | rfl | rfl | rfl <;> simp
theorem sb_2 (W v : Int32) : ((W &&& (((255 : Int32) <<< (nI 16 &&& 31)) ^^^ -1)) ||| (((v >>> (nI 0 &&& 31)) &&& 255) <<< (nI 16 &&& 31))) = (W &&& (((255 : Int32) <<< (nI 16 &&& 31)) ^^^ -1)) ||| ((v <<< (nI 16 &&& 31)) &&& ((255 : Int32) <<< (nI 16 &&& 31))) := by
  apply Int32.toBitVec_inj.mp
  simp (disch := decide) only [Int32.toBitVec_or, Int32.toBitVec_and, Int32.toBitVec_xor, sl_k, sr_k, us_k, tb255, tb65535, tbm1, tb0]
  apply BitVec.eq_of_getLsbD_eq
  intro i hi
  simp only [BitVec.getLsbD_shiftLeft, BitVec.getLsbD_and, BitVec.getLsbD_or, BitVec.getLsbD_xor, BitVec.getLsbD_ushiftRight, BitVec.getLsbD_sshiftRight]
  rcases (by omega : i = 0 ∨ i = 1 ∨ i = 2 ∨ i = 3 ∨ i = 4 ∨ i = 5 ∨ i = 6 ∨ i = 7 ∨ i = 8 ∨ i = 9 ∨ i = 10 ∨ i = 11 ∨ i = 12 ∨ i = 13 ∨ i = 14 ∨ i = 15 ∨ i = 16 ∨ i = 17 ∨ i = 18 ∨ i = 19 ∨ i = 20 ∨ i = 21 ∨ i = 22 ∨ i = 23 ∨ i = 24 ∨ i = 25 ∨ i = 26 ∨ i = 27 ∨ i = 28 ∨ i = 29 ∨ i = 30 ∨ i = 31) with rfl | rfl | rfl | rfl | rfl | rfl | rfl | rfl | rfl | rfl | rfl | rfl | rfl | rfl | rfl | rfl | rfl | rfl | rfl | rfl | rfl | rfl | rfl | rfl | rfl | rfl | rfl | rfl | rfl | rfl | rfl | rfl <;> simp
theorem sb_3 (W v : Int32) : ((W &&& (((255 : Int32) <<< (nI 24 &&& 31)) ^^^ -1)) ||| (((v >>> (nI 0 &&& 31)) &&& 255) <<< (nI 24 &&& 31))) = (W &&& (((255 : Int32) <<< (nI 24 &&& 31)) ^^^ -1)) ||| ((v <<< (nI 24 &&& 31)) &&& ((255 : Int32) <<< (nI 24 &&& 31))) := by
  apply Int32.toBitVec_inj.mp
  simp (disch := decide) only [Int32.toBitVec_or, Int32.toBitVec_and, Int32.toBitVec_xor, sl_k, sr_k, us_k, tb255, tb65535, tbm1, tb0]
  apply BitVec.eq_of_getLsbD_eq
  intro i hi
  simp only [BitVec.getLsbD_shiftLeft, BitVec.getLsbD_and, BitVec.getLsbD_or, BitVec.getLsbD_xor, BitVec.getLsbD_ushiftRight, BitVec.getLsbD_sshiftRight]
  rcases (by omega : i = 0 ∨ i = 1 ∨ i = 2 ∨ i = 3 ∨ i = 4 ∨ i = 5 ∨ i = 6 ∨ i = 7 ∨ i = 8 ∨ i = 9 ∨ i = 10 ∨ i = 11 ∨ i = 12 ∨ i = 13 ∨ i = 14 ∨ i = 15 ∨ i = 16 ∨ i = 17 ∨ i = 18 ∨ i = 19 ∨ i = 20 ∨ i = 21 ∨ i = 22 ∨ i = 23 ∨ i = 24 ∨ i = 25 ∨ i = 26 ∨ i = 27 ∨ i = 28 ∨ i = 29 ∨ i = 30 ∨ i = 31) with rfl | rfl | rfl | rfl | rfl | rfl | rfl | rfl | rfl | rfl | rfl | rfl | rfl | rfl | rfl | rfl | rfl | rfl | rfl | rfl | rfl | rfl | rfl | rfl | rfl | rfl | rfl | rfl | rfl | rfl | rfl | rfl <;> simp
theorem shw_0 (W v : Int32) : ((((W &&& (((255 : Int32) <<< (nI 0 &&& 31)) ^^^ -1)) ||| (((v >>> (nI 0 &&& 31)) &&& 255) <<< (nI 0 &&& 31))) &&& (((255 : Int32) <<< (nI 8 &&& 31)) ^^^ -1)) ||| (((v >>> (nI 8 &&& 31)) &&& 255) <<< (nI 8 &&& 31))) = (W &&& (((65535 : Int32) <<< (nI 0 &&& 31)) ^^^ -1)) ||| ((v <<< (nI 0 &&& 31)) &&& ((65535 : Int32) <<< (nI 0 &&& 31))) := by
  apply Int32.toBitVec_inj.mp
  simp (disch := decide) only [Int32.toBitVec_or, Int32.toBitVec_and, Int32.toBitVec_xor, sl_k, sr_k, us_k, tb255, tb65535, tbm1, tb0]
  apply BitVec.eq_of_getLsbD_eq
  intro i hi
  simp only [BitVec.getLsbD_shiftLeft, BitVec.getLsbD_and, BitVec.getLsbD_or, BitVec.getLsbD_xor, BitVec.getLsbD_ushiftRight, BitVec.getLsbD_sshiftRight]
  rcases (by omega : i = 0 ∨ i = 1 ∨ i = 2 ∨ i = 3 ∨ i = 4 ∨ i = 5 ∨ i = 6 ∨ i = 7 ∨ i = 8 ∨ i = 9 ∨ i = 10 ∨ i = 11 ∨ i = 12 ∨ i = 13 ∨ i = 14 ∨ i = 15 ∨ i = 16 ∨ i = 17 ∨ i = 18 ∨ i = 19 ∨ i = 20 ∨ i = 21 ∨ i = 22 ∨ i = 23 ∨ i = 24 ∨ i = 25 ∨ i = 26 ∨ i = 27 ∨ i = 28 ∨ i = 29 ∨ i = 30 ∨ i = 31) with rfl | rfl | rfl | rfl | rfl | rfl | rfl | rfl | rfl | rfl | rfl | rfl | rfl | rfl | rfl | rfl | rfl | rfl | rfl | rfl | rfl | rfl | rfl | rfl | rfl | rfl | rfl | rfl | rfl | rfl | rfl | rfl <;> simp
theorem shw_2 (W v : Int32) : ((((W &&& (((255 : Int32) <<< (nI 16 &&& 31)) ^^^ -1)) ||| (((v >>> (nI 0 &&& 31)) &&& 255) <<< (nI 16 &&& 31))) &&& (((255 : Int32) <<< (nI 24 &&& 31)) ^^^ -1)) ||| (((v >>> (nI 8 &&& 31)) &&& 255) <<< (nI 24 &&& 31))) = (W &&& (((65535 : Int32) <<< (nI 16 &&& 31)) ^^^ -1)) ||| ((v <<< (nI 16 &&& 31)) &&& ((65535 : Int32) <<< (nI 16 &&& 31))) := by
  apply Int32.toBitVec_inj.mp
  simp (disch := decide) only [Int32.toBitVec_or, Int32.toBitVec_and, Int32.toBitVec_xor, sl_k, sr_k, us_k, tb255, tb65535, tbm1, tb0]
  apply BitVec.eq_of_getLsbD_eq
  intro i hi
  simp only [BitVec.getLsbD_shiftLeft, BitVec.getLsbD_and, BitVec.getLsbD_or, BitVec.getLsbD_xor, BitVec.getLsbD_ushiftRight, BitVec.getLsbD_sshiftRight]
  rcases (by omega : i = 0 ∨ i = 1 ∨ i = 2 ∨ i = 3 ∨ i = 4 ∨ i = 5 ∨ i = 6 ∨ i = 7 ∨ i = 8 ∨ i = 9 ∨ i = 10 ∨ i = 11 ∨ i = 12 ∨ i = 13 ∨ i = 14 ∨ i = 15 ∨ i = 16 ∨ i = 17 ∨ i = 18 ∨ i = 19 ∨ i = 20 ∨ i = 21 ∨ i = 22 ∨ i = 23 ∨ i = 24 ∨ i = 25 ∨ i = 26 ∨ i = 27 ∨ i = 28 ∨ i = 29 ∨ i = 30 ∨ i = 31) with rfl | rfl | rfl | rfl | rfl | rfl | rfl | rfl | rfl | rfl | rfl | rfl | rfl | rfl | rfl | rfl | rfl | rfl | rfl | rfl | rfl | rfl | rfl | rfl | rfl | rfl | rfl | rfl | rfl | rfl | rfl | rfl <;> simp
theorem sw (W v : Int32) : ((((((((W &&& (((255 : Int32) <<< (nI 0 &&& 31)) ^^^ -1)) ||| (((v >>> (nI 0 &&& 31)) &&& 255) <<< (nI 0 &&& 31))) &&& (((255 : Int32) <<< (nI 8 &&& 31)) ^^^ -1)) ||| (((v >>> (nI 8 &&& 31)) &&& 255) <<< (nI 8 &&& 31))) &&& (((255 : Int32) <<< (nI 16 &&& 31)) ^^^ -1)) ||| (((v >>> (nI 16 &&& 31)) &&& 255) <<< (nI 16 &&& 31))) &&& (((255 : Int32) <<< (nI 24 &&& 31)) ^^^ -1)) ||| (((v >>> (nI 24 &&& 31)) &&& 255) <<< (nI 24 &&& 31))) = (W &&& (((-1 : Int32) <<< (nI 0 &&& 31)) ^^^ -1)) ||| ((v <<< (nI 0 &&& 31)) &&& ((-1 : Int32) <<< (nI 0 &&& 31))) := by
  apply Int32.toBitVec_inj.mp
  simp (disch := decide) only [Int32.toBitVec_or, Int32.toBitVec_and, Int32.toBitVec_xor, sl_k, sr_k, us_k, tb255, tb65535, tbm1, tb0]
  apply BitVec.eq_of_getLsbD_eq
  intro i hi
  simp only [BitVec.getLsbD_shiftLeft, BitVec.getLsbD_and, BitVec.getLsbD_or, BitVec.getLsbD_xor, BitVec.getLsbD_ushiftRight, BitVec.getLsbD_sshiftRight]
  rcases (by omega : i = 0 ∨ i = 1 ∨ i = 2 ∨ i = 3 ∨ i = 4 ∨ i = 5 ∨ i = 6 ∨ i = 7 ∨ i = 8 ∨ i = 9 ∨ i = 10 ∨ i = 11 ∨ i = 12 ∨ i = 13 ∨ i = 14 ∨ i = 15 ∨ i = 16 ∨ i = 17 ∨ i = 18 ∨ i = 19 ∨ i = 20 ∨ i = 21 ∨ i = 22 ∨ i = 23 ∨ i = 24 ∨ i = 25 ∨ i = 26 ∨ i = 27 ∨ i = 28 ∨ i = 29 ∨ i = 30 ∨ i = 31) with rfl | rfl | rfl | rfl | rfl | rfl | rfl | rfl | rfl | rfl | rfl | rfl | rfl | rfl | rfl | rfl | rfl | rfl | rfl | rfl | rfl | rfl | rfl | rfl | rfl | rfl | rfl | rfl | rfl | rfl | rfl | rfl <;> simp
theorem jn12 (w : Int32) : nI (bf w 12 8) <<< (12 &&& 31) = w &&& 1044480 := by
  apply Int32.toBitVec_inj.mp
  have e : (nI (bf w 12 8)).toBitVec = (w.toBitVec >>> 12) &&& 255#32 := by
    apply BitVec.eq_of_toNat_eq
    rw [pk_tn (by have := bf_lt w 12 8; omega), BitVec.toNat_and, BitVec.toNat_ushiftRight, Nat.shiftRight_eq_div_pow, show (255#32).toNat = 2 ^ 8 - 1 from rfl, Nat.and_two_pow_sub_one_eq_mod]
    rfl
  have e2 : (nI (bf w 12 8) <<< (12 &&& 31)).toBitVec = (nI (bf w 12 8)).toBitVec <<< 12 := sl_k _ (k := 12) (by decide)
  rw [e2, e]
  show _ = w.toBitVec &&& 1044480#32
  apply BitVec.eq_of_getLsbD_eq
  intro i hi
  simp only [BitVec.getLsbD_shiftLeft, BitVec.getLsbD_and, BitVec.getLsbD_ushiftRight]
  rcases (by omega : i = 0 ∨ i = 1 ∨ i = 2 ∨ i = 3 ∨ i = 4 ∨ i = 5 ∨ i = 6 ∨ i = 7 ∨ i = 8 ∨ i = 9 ∨ i = 10 ∨ i = 11 ∨ i = 12 ∨ i = 13 ∨ i = 14 ∨ i = 15 ∨ i = 16 ∨ i = 17 ∨ i = 18 ∨ i = 19 ∨ i = 20 ∨ i = 21 ∨ i = 22 ∨ i = 23 ∨ i = 24 ∨ i = 25 ∨ i = 26 ∨ i = 27 ∨ i = 28 ∨ i = 29 ∨ i = 30 ∨ i = 31) with rfl | rfl | rfl | rfl | rfl | rfl | rfl | rfl | rfl | rfl | rfl | rfl | rfl | rfl | rfl | rfl | rfl | rfl | rfl | rfl | rfl | rfl | rfl | rfl | rfl | rfl | rfl | rfl | rfl | rfl | rfl | rfl <;> simp
theorem jim_eq (w : Int32) : jim w = jnC w := by
  rw [jim, jnC, jn12]

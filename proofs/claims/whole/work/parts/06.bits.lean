/-! ===== fields of a word ===== -/
def bf (w : Int32) (a k : Nat) : Nat := w.toBitVec.toNat / 2 ^ a % 2 ^ k
theorem bf_lt (w : Int32) (a k : Nat) : bf w a k < 2 ^ k := Nat.mod_lt _ (Nat.two_pow_pos k)
theorem bf_u (w : Int32) (a k : Nat) {s m : Int32} (hs : ((s.toUInt32 &&& Int32.toUInt32 31).toBitVec % 32).toNat = a) (hm : m.toBitVec.toNat = 2 ^ k - 1) : (w.toUInt32 >>> (s.toUInt32 &&& Int32.toUInt32 31)).toInt32 &&& m = nI (bf w a k) := by
  rw [pk_and _ k hm, pk_ushr w s a hs]
  rfl
theorem bf_s (w : Int32) (a k : Nat) {s m : Int32} (hs : ((s &&& 31).toBitVec.smod 32).toNat = a) (hm : m.toBitVec.toNat = 2 ^ k - 1) (hak : a + k ≤ 32) : (w >>> (s &&& 31)) &&& m = nI (bf w a k) := by
  rw [pk_and _ k hm]
  congr 1
  have e : (w >>> (s &&& 31)).toBitVec = w.toBitVec.sshiftRight a := by
    rw [← hs]
    rfl
  rw [e]
  apply Nat.eq_of_testBit_eq
  intro i
  unfold bf
  rw [Nat.testBit_mod_two_pow, Nat.testBit_mod_two_pow, Nat.testBit_div_two_pow]
  by_cases hi : i < k
  · have h1 : (w.toBitVec.sshiftRight a).toNat.testBit i = (w.toBitVec.sshiftRight a).getLsbD i := rfl
    have h2 : w.toBitVec.toNat.testBit (a + i) = w.toBitVec.getLsbD (a + i) := rfl
    rw [h1, BitVec.getLsbD_sshiftRight]
    have h3 : a + i < 32 := by omega
    have h4 : ¬ 32 ≤ i := by omega
    simp [hi, h3, h4]
    rw [Nat.add_comm i a, h2, BitVec.getLsbD_eq_getElem h3]
  · simp [hi]
theorem nadd {x y : Int32} {a b : Nat} (hx : x = nI a) (hy : y = nI b) : x + y = nI (a + b) := by rw [hx, hy, nI_add]
theorem nmul {x y : Int32} {a b : Nat} (hx : x = nI a) (hy : y = nI b) : x * y = nI (a * b) := by rw [hx, hy, pk_mul]

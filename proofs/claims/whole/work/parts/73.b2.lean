/-! ===== alignment, ranges ===== -/
theorem rem_iff (a : Int32) {n : Nat} (hn : n = 1 ∨ n = 2 ∨ n = 4) : a - a / nI n * nI n = 0 ↔ a.toBitVec.toNat % n = 0 := by
  have en : (nI n).toInt = (n : Int) := by rcases hn with rfl | rfl | rfl <;> rfl
  have hlt := a.toBitVec.isLt
  have eI : a.toInt = if 2 * a.toBitVec.toNat < 2 ^ 32 then (a.toBitVec.toNat : Int) else (a.toBitVec.toNat : Int) - 2 ^ 32 := by
    show a.toBitVec.toInt = _
    rw [BitVec.toInt_eq_toNat_cond]
    rfl
  have hdm := Int.mul_tdiv_add_tmod a.toInt n
  have hr1 := Int.tmod_lt_of_pos a.toInt (show (0 : Int) < n by omega)
  have hr2 := Int.lt_tmod_of_pos a.toInt (show (0 : Int) < n by omega)
  have hai : -2147483648 ≤ a.toInt ∧ a.toInt < 2147483648 := by
    rw [eI]
    split <;> omega
  have hq : (a / nI n).toInt = a.toInt.tdiv n := by
    rw [Int32.toInt_div, en]
    by_cases hneg : a.toInt = -2147483648 ∧ n = 1
    · rw [hneg.1, hneg.2]
      decide
    · rcases hn with rfl | rfl | rfl
      · apply Int.bmod_eq_of_le <;> omega
      · apply Int.bmod_eq_of_le <;> omega
      · apply Int.bmod_eq_of_le <;> omega
  have ht : (a - a / nI n * nI n).toInt = a.toInt.tmod n := by
    rw [Int32.toInt_sub, Int32.toInt_mul, hq, en, Int.sub_bmod_bmod]
    have e : a.toInt - a.toInt.tdiv n * n = a.toInt.tmod n := by
      rw [Int.mul_comm]
      omega
    rw [e]
    rcases hn with rfl | rfl | rfl <;> (apply Int.bmod_eq_of_le <;> omega)
  rw [← Int32.toInt_inj, ht, show (0 : Int32).toInt = 0 from rfl]
  generalize a.toInt.tmod n = r at *
  generalize a.toInt.tdiv n = q at *
  rw [eI] at hdm
  rcases hn with rfl | rfl | rfl <;> (split at hdm <;> omega)
theorem rng_iff (a : Int32) {s : Nat} (hs : s ≤ 8) : (0 ≤ a ∧ a < nI (64 * s)) ↔ a.toBitVec.toNat / 64 < s := by
  rcases pk_ix a (n := 64 * s) (by omega) with q | q | ⟨b, hb, rfl⟩
  · have hlt := a.toBitVec.isLt
    have hn : a.toInt < 0 := by
      have := Int32.lt_iff_toInt_lt.mp q
      exact this
    have eI : a.toInt = if 2 * a.toBitVec.toNat < 2 ^ 32 then (a.toBitVec.toNat : Int) else (a.toBitVec.toNat : Int) - 2 ^ 32 := by
      show a.toBitVec.toInt = _
      rw [BitVec.toInt_eq_toNat_cond]
      rfl
    constructor
    · intro w
      exact absurd q (Int32.not_lt.mpr w.1)
    · intro w
      rw [eI] at hn
      split at hn <;> omega
  · have h1 := Int32.le_iff_toInt_le.mp q
    have e1 : (nI (64 * s)).toInt = ((64 * s : Nat) : Int) := by
      have : ∀ s, s ≤ 8 → (nI (64 * s)).toInt = ((64 * s : Nat) : Int) := by decide
      exact this s hs
    have eI : a.toInt = if 2 * a.toBitVec.toNat < 2 ^ 32 then (a.toBitVec.toNat : Int) else (a.toBitVec.toNat : Int) - 2 ^ 32 := by
      show a.toBitVec.toInt = _
      rw [BitVec.toInt_eq_toNat_cond]
      rfl
    have hlt := a.toBitVec.isLt
    constructor
    · intro w
      exact absurd w.2 (Int32.not_lt.mpr q)
    · intro w
      rw [e1, eI] at h1
      split at h1 <;> omega
  · have e : (nI b).toBitVec.toNat = b := pk_tn (by omega)
    rw [e]
    constructor
    · intro _; omega
    · intro _; exact ⟨nI_pos' (by omega), nI_lt hb (by omega)⟩
theorem and_iff (a : Int32) {m : Int32} {k : Nat} (hm : m.toBitVec.toNat = 2 ^ k - 1) (hk : k < 31) : a &&& m = 0 ↔ a.toBitVec.toNat % 2 ^ k = 0 := by
  have hlt : a.toBitVec.toNat % 2 ^ k < 2 ^ k := Nat.mod_lt _ (Nat.two_pow_pos k)
  have hp : 2 ^ k < 2 ^ 31 := Nat.pow_lt_pow_right (by decide) hk
  rw [pk_and a k hm]
  exact nI_eq (b := 0) (by omega) (by decide)
theorem and3 (a : Int32) : a &&& 3 = 0 ↔ a.toBitVec.toNat % 4 = 0 := and_iff a (k := 2) rfl (by decide)
theorem al4 (a : Int32) : a - a / 4 * 4 = 0 ↔ a &&& 3 = 0 := (rem_iff a (n := 4) (Or.inr (Or.inr rfl))).trans (and3 a).symm
theorem crk_iff (a : Int32) {k : Nat} (hk : k ≤ 2) : crk a k = true ↔ ¬ a - a / nI (2 ^ k) * nI (2 ^ k) = 0 := by
  rw [rem_iff a (n := 2 ^ k) (by rcases (by omega : k = 0 ∨ k = 1 ∨ k = 2) with rfl | rfl | rfl <;> decide)]
  rw [← and_iff a (mk_ok k (by omega)) (by omega), crk]
  simp

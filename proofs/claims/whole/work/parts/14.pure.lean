theorem u64_nat (x : Int32) : (x.toInt64 &&& 4294967295).toBitVec.toNat = x.toBitVec.toNat := by
  have e : (x.toInt64 &&& 4294967295).toBitVec = x.toBitVec.signExtend 64 &&& 4294967295#64 := rfl
  have h := x.toBitVec.isLt
  rw [e, BitVec.toNat_and, show (4294967295#64).toNat = 2 ^ 32 - 1 from rfl, Nat.and_two_pow_sub_one_eq_mod, BitVec.toNat_signExtend]
  simp only [BitVec.toNat_setWidth]
  split <;> omega
theorem u64_int (x : Int32) : (x.toInt64 &&& 4294967295).toInt = (x.toBitVec.toNat : Int) := by
  have h := x.toBitVec.isLt
  have e := u64_nat x
  show (x.toInt64 &&& 4294967295).toBitVec.toInt = _
  rw [BitVec.toInt_eq_toNat_of_lt (by omega), e]
theorem u64_le (x y : Int32) : (x.toInt64 &&& 4294967295) ≤ (y.toInt64 &&& 4294967295) ↔ x.toBitVec.toNat ≤ y.toBitVec.toNat := by
  rw [Int64.le_iff_toInt_le, u64_int, u64_int]
  omega
/-- a < b, with sign or without -/
def lss (a b : Int32) (sg : Bool) : Bool := if sg = true then decide (a < b) else decide (a.toBitVec.toNat < b.toBitVec.toNat)
def isb (M : Nat → Nat → Int32) (x : Int32) : Bool := decide (1 ≤ x) && decide (x ≤ 8) && decide (0 < M 4 x.toNatClampNeg)
theorem in18 {x : Int32} (h1 : 1 ≤ x) (h8 : x ≤ 8) : ∃ p : Nat, 1 ≤ p ∧ p ≤ 8 ∧ x = nI p := by
  have h0 : ¬ x < 0 := fun q => by
    have a := Int32.le_iff_toInt_le.mp h1
    have b := Int32.lt_iff_toInt_lt.mp q
    simp at a b
    omega
  obtain ⟨j, hj, rfl⟩ := nI_of2 (x := x) (M := 8) (n := 8) rfl h0 h8
  refine ⟨j, ?_, hj, rfl⟩
  have := (nI_leI (a := 1) (b := j) (by decide) (by omega)).mp h1
  exact this
theorem isb_of {M : Nat → Nat → Int32} {x : Int32} (h : isb M x = true) : ∃ p : Nat, 1 ≤ p ∧ p ≤ 8 ∧ x = nI p ∧ 0 < M 4 p := by
  simp only [isb, Bool.and_eq_true, decide_eq_true_eq] at h
  obtain ⟨⟨h1, h8⟩, h4⟩ := h
  obtain ⟨p, a, b, rfl⟩ := in18 h1 h8
  rw [nI_clamp (by omega)] at h4
  exact ⟨p, a, b, rfl, h4⟩
theorem isb_nI {M : Nat → Nat → Int32} {p : Nat} (h1 : 1 ≤ p) (h8 : p ≤ 8) : isb M (nI p) = decide (0 < M 4 p) := by
  have a : (1 : Int32) ≤ nI p := nI_le (a := 1) h1 (by omega)
  have b : nI p ≤ (8 : Int32) := nI_le (b := 8) h8 (by decide)
  simp [isb, a, b, nI_clamp (show p < 2 ^ 31 by omega)]
def growM (M : Nat → Nat → Int32) (p f s : Nat) : Nat → Nat → Int32 := up2 (up2 (upr (up2 M 2 f (nI p)) 1 (16 * f) 16 (fun _ => 0)) 10 (8 * p + s) (nI f)) 8 p (nI (s + 1))
def blkM (M : Nat → Nat → Int32) (p : Nat) (how : Int32) : Nat → Nat → Int32 := up2 (up2 M 4 p how) 0 27 0

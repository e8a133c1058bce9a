/-! ===== the class's Machine ===== -/
theorem variant_eq (w : Int32) : (w.toUInt32 >>> ((25 : Int32).toUInt32 &&& Int32.toUInt32 31)).toInt32 = nI (bf w 25 7) := by
  have h := pk_ushr w 25 25 (by decide)
  have hx := w.toBitVec.isLt
  apply Int32.toBitVec_inj.mp
  apply BitVec.eq_of_toNat_eq
  rw [h, pk_tn (by have := bf_lt w 25 7; omega), bf]
  omega
theorem xor31 {n : Nat} (h : n < 2 ^ 31) : n ^^^ 2 ^ 31 = n + 2 ^ 31 := by
  have h1 := Nat.two_pow_add_eq_or_of_lt (i := 31) h 1
  rw [Nat.mul_one] at h1
  rw [Nat.add_comm, h1]
  apply Nat.eq_of_testBit_eq
  intro i
  rw [Nat.testBit_xor, Nat.testBit_or]
  by_cases hi : i = 31
  · subst hi
    simp [Nat.testBit_lt_two_pow h]
  · simp [Nat.testBit_two_pow_of_ne (show 31 ≠ i from fun q => hi q.symm)]
theorem below_iff (a b : Int32) : (a ^^^ (-2147483648)) < (b ^^^ (-2147483648)) ↔ a.toBitVec.toNat < b.toBitVec.toNat := by
  have key : ∀ x : Int32, (x ^^^ (-2147483648)).toInt = (x.toBitVec.toNat : Int) - 2147483648 := by
    intro x
    have hx := x.toBitVec.isLt
    have e : (x ^^^ (-2147483648)).toBitVec = x.toBitVec ^^^ 2147483648#32 := rfl
    show (x ^^^ (-2147483648)).toBitVec.toInt = _
    rw [e]
    have e2 : x.toBitVec ^^^ 2147483648#32 = x.toBitVec + 2147483648#32 := by
      apply BitVec.eq_of_toNat_eq
      rw [BitVec.toNat_xor, BitVec.toNat_add]
      show x.toBitVec.toNat ^^^ 2147483648 = (x.toBitVec.toNat + 2147483648) % 4294967296
      generalize x.toBitVec.toNat = n at hx
      by_cases h : n < 2147483648
      · have h1 : n ^^^ 2 ^ 31 = n + 2 ^ 31 := xor31 h
        have h2 : n ^^^ 2147483648 = n + 2147483648 := h1
        rw [h2]
        omega
      · obtain ⟨r, rfl⟩ : ∃ r, n = 2147483648 + r := ⟨n - 2147483648, by omega⟩
        have hr : r < 2147483648 := by omega
        have h1 : (2 ^ 31 + r) ^^^ 2 ^ 31 = r := by
          have h3 : 2 ^ 31 + r = r ^^^ 2 ^ 31 := by rw [xor31 hr, Nat.add_comm]
          rw [h3, Nat.xor_assoc, Nat.xor_self, Nat.xor_zero]
        have h2 : (2147483648 + r) ^^^ 2147483648 = r := h1
        rw [h2]
        omega
    rw [e2, BitVec.toInt_eq_toNat_cond, BitVec.toNat_add]
    show (if 2 * ((x.toBitVec.toNat + 2147483648) % 4294967296) < 4294967296 then (((x.toBitVec.toNat + 2147483648) % 4294967296 : Nat) : Int) else (((x.toBitVec.toNat + 2147483648) % 4294967296 : Nat) : Int) - 4294967296) = _
    split <;> omega
  rw [Int32.lt_iff_toInt_lt, key, key]
  omega
def wid (f : Nat) (x : Int32) : Int32 := match f with
  | 0 => (x <<< (24 &&& 31)) >>> (24 &&& 31)
  | 1 => (x <<< (16 &&& 31)) >>> (16 &&& 31)
  | 4 => x &&& 255
  | 5 => x &&& 65535
  | _ => x
def cvC (f : Nat) (a b : Int32) : Int32 := match f with
  | 0 => a + b
  | 1 => a <<< ((b &&& 31) &&& 31)
  | 2 => b2i (lss a b true)
  | 3 => b2i (lss a b false)
  | 4 => a ^^^ b
  | 5 => ush a (b &&& 31)
  | 6 => a ||| b
  | _ => a &&& b
def msk (f : Nat) : Int32 := match f with
  | 0 => 255
  | 1 => 65535
  | _ => -1
def crk (a : Int32) (k : Nat) : Bool := !decide (a &&& (((1 : Int32) <<< (nI k &&& 31)) - 1) = 0)
def goC (C : Nat → Nat → Int32) (i : Nat) : Nat → Nat → Int32 := up2 C 16 i (C 16 i + 4)
def sgC (C : Nat → Nat → Int32) (i : Nat) (w v : Int32) : Nat → Nat → Int32 := goC (sR C i (bf w 7 5) v) i
abbrev iX : Type := Int32 × (Nat → Nat → Int32)
def jpC (C : Nat → Nat → Int32) (i : Nat) (w to : Int32) : iX := if to &&& 3 = 0 then (-1, up2 (sR C i (bf w 7 5) (C 16 i + 4)) 16 i to) else (0, C)
def r1 (C : Nat → Nat → Int32) (i : Nat) (w : Int32) : Int32 := C 20 (32 * i + bf w 15 5)
def r2 (C : Nat → Nat → Int32) (i : Nat) (w : Int32) : Int32 := C 20 (32 * i + bf w 20 5)
def jrC (C : Nat → Nat → Int32) (i : Nat) (w : Int32) : iX := if bf w 12 3 = 0 then jpC C i w ((r1 C i w + (w >>> (20 &&& 31))) &&& -2) else (2, C)
def bnC (C : Nat → Nat → Int32) (i : Nat) (w : Int32) : iX := if bf w 12 3 = 2 ∨ bf w 12 3 = 3 then (2, C) else if bcd (bf w 12 3) (r1 C i w) (r2 C i w) = true then (if (C 16 i + bim w) &&& 3 = 0 then (-1, up2 C 16 i (C 16 i + bim w)) else (0, C)) else (-1, goC C i)
def plN (C : Nat → Nat → Int32) (i : Nat) (a : Int32) : Nat := nv (C 21 (8 * i + a.toBitVec.toNat / 64)) * 16 + a.toBitVec.toNat / 4 % 16
def ftF (C : Nat → Nat → Int32) (i s : Nat) (w : Int32) (f : Nat) (a : Int32) : iX := if f = 3 ∨ 5 < f then (2, C) else if crk a (f % 4) = true then (4, C) else if a.toBitVec.toNat / 64 < s then (-1, sgC C i w (wid f (ush (C 2 (plN C i a)) (8 * (a &&& 3))))) else (5, C)
def ftC (C : Nat → Nat → Int32) (i s : Nat) (w : Int32) : iX := ftF C i s w (bf w 12 3) (r1 C i w + (w >>> (20 &&& 31)))
def ptF (C : Nat → Nat → Int32) (i s : Nat) (w : Int32) (f : Nat) (a : Int32) : iX := if 2 < f then (2, C) else if crk a f = true then (6, C) else if a.toBitVec.toNat / 64 < s then (-1, goC (up2 C 2 (plN C i a) ((C 2 (plN C i a) &&& ((msk f <<< ((8 * (a &&& 3)) &&& 31)) ^^^ -1)) ||| ((r2 C i w <<< ((8 * (a &&& 3)) &&& 31)) &&& (msk f <<< ((8 * (a &&& 3)) &&& 31))))) i) else (7, C)
def ptC (C : Nat → Nat → Int32) (i s : Nat) (w : Int32) : iX := ptF C i s w (bf w 12 3) (r1 C i w + (((w >>> (25 &&& 31)) <<< (5 &&& 31)) ||| nI (bf w 7 5)))
def cnF (C : Nat → Nat → Int32) (i : Nat) (w : Int32) (f g : Nat) : iX := if f = 5 ∧ g = 32 then (-1, sgC C i w (r1 C i w >>> (((w >>> (20 &&& 31)) &&& 31) &&& 31))) else if (f = 1 ∨ f = 5) ∧ ¬ g = 0 then (2, C) else (-1, sgC C i w (cvC f (r1 C i w) (w >>> (20 &&& 31))))
def cnC (C : Nat → Nat → Int32) (i : Nat) (w : Int32) : iX := cnF C i w (bf w 12 3) (bf w 25 7)
def crF (C : Nat → Nat → Int32) (i : Nat) (w : Int32) (f g : Nat) : iX := if g = 0 then (-1, sgC C i w (cvC f (r1 C i w) (r2 C i w))) else if g = 32 ∧ f = 0 then (-1, sgC C i w (r1 C i w - r2 C i w)) else if g = 32 ∧ f = 5 then (-1, sgC C i w (r1 C i w >>> ((r2 C i w &&& 31) &&& 31))) else (2, C)
def crC (C : Nat → Nat → Int32) (i : Nat) (w : Int32) : iX := crF C i w (bf w 12 3) (bf w 25 7)
def jnC (w : Int32) : Int32 := ((((w >>> (31 &&& 31)) <<< (20 &&& 31)) ||| (w &&& (1044480 : Int32))) ||| (nI (bf w 20 1) <<< (11 &&& 31))) ||| (nI (bf w 21 10) <<< (1 &&& 31))
def spC (w : Int32) : Int32 := if w = 115 then -2 else if w = 1048691 then 3 else 2
def exW (C : Nat → Nat → Int32) (i s : Nat) (w : Int32) (o : Nat) : iX :=
  if o = 3 then ftC C i s w else if o = 15 then (if bf w 12 3 = 0 then (-1, goC C i) else (2, C)) else if o = 19 then cnC C i w else if o = 23 then (-1, sgC C i w (C 16 i + (w &&& -4096))) else if o = 35 then ptC C i s w else if o = 51 then crC C i w
  else if o = 55 then (-1, sgC C i w (w &&& -4096)) else if o = 99 then bnC C i w else if o = 103 then jrC C i w else if o = 111 then jpC C i w (C 16 i + jnC w) else if o = 115 then (spC w, C) else (2, C)
def exC (C : Nat → Nat → Int32) (i s : Nat) : iX := if (C 16 i).toBitVec.toNat / 64 < s then exW C i s (C 2 (plN C i (C 16 i))) (bf (C 2 (plN C i (C 16 i))) 0 7) else (1, C)

/-! ===== the reference's compute and branch ===== -/
def cbad (two : Bool) (f g : Nat) : Bool := g != 0 && !(g == 32 && (f == 5 || (two && f == 0))) && (two || (f == 1 || f == 5))
def ush (a y : Int32) : Int32 := (a.toUInt32 >>> (y.toUInt32 &&& Int32.toUInt32 31)).toInt32
def cval (two : Bool) (f g : Nat) (a b y : Int32) : Int32 := match f with
  | 0 => if (two && g == 32) = true then a - b else a + b
  | 1 => a <<< (y &&& 31)
  | 2 => b2i (lss a b true)
  | 3 => b2i (lss a b false)
  | 4 => a ^^^ b
  | 5 => if (g == 32) = true then a >>> (y &&& 31) else ush a y
  | 6 => a ||| b
  | _ => a &&& b
def cmpF (M : Nat → Nat → Int32) (p m : Nat) (two : Bool) (f g : Nat) (a b y : Int32) : Nat → Nat → Int32 := if cbad two f g = true then endM M p (128 + 2) m else setM M p (bf (M 0 25) 7 5) (cval two f g a b y)
theorem cmpF_bad {M : Nat → Nat → Int32} {p m : Nat} {two : Bool} {f g : Nat} {a b y : Int32} (h : cbad two f g = true) : cmpF M p m two f g a b y = endM M p (128 + 2) m := if_pos h
theorem cmpF_ok {M : Nat → Nat → Int32} {p m : Nat} {two : Bool} {f g : Nat} {a b y : Int32} (h : cbad two f g = false) : cmpF M p m two f g a b y = setM M p (bf (M 0 25) 7 5) (cval two f g a b y) := if_neg (by rw [h]; decide)
def cb (M : Nat → Nat → Int32) (p : Nat) (two : Bool) : Int32 := if two = true then M 9 (32 * p + bf (M 0 25) 20 5) else M 0 25 >>> (20 &&& 31)
def cy (M : Nat → Nat → Int32) (p : Nat) (two : Bool) : Int32 := if two = true then cb M p two &&& 31 else nI (bf (M 0 25) 20 5)
def cmpM (M : Nat → Nat → Int32) (p m : Nat) (two : Bool) : Nat → Nat → Int32 := cmpF M p m two (bf (M 0 25) 12 3) (bf (M 0 25) 25 7) (M 9 (32 * p + bf (M 0 25) 15 5)) (cb M p two) (cy M p two)
def bcd (f : Nat) (a b : Int32) : Bool := match f with
  | 0 => decide (a = b)
  | 1 => !decide (a = b)
  | 4 => lss a b true
  | 5 => !lss a b true
  | 6 => lss a b false
  | _ => !lss a b false
def bim (w : Int32) : Int32 := ((((w >>> (31 &&& 31)) <<< (12 &&& 31)) ||| (nI (bf w 7 1) <<< (11 &&& 31))) ||| (nI (bf w 25 6) <<< (5 &&& 31))) ||| (nI (bf w 8 4) <<< (1 &&& 31))
def brF (M : Nat → Nat → Int32) (p m f : Nat) (a b pc : Int32) : Nat → Nat → Int32 := if f = 2 ∨ f = 3 then endM M p (128 + 2) m else if bcd f a b = true then (if (pc + bim (M 0 25)) - (pc + bim (M 0 25)) / 4 * 4 = 0 then up2 M 0 26 (pc + bim (M 0 25)) else endM M p (128 + 0) m) else M
def brM (M : Nat → Nat → Int32) (p m : Nat) (pc : Int32) : Nat → Nat → Int32 := brF M p m (bf (M 0 25) 12 3) (M 9 (32 * p + bf (M 0 25) 15 5)) (M 9 (32 * p + bf (M 0 25) 20 5)) pc
theorem brF_bad {M : Nat → Nat → Int32} {p m f : Nat} {a b pc : Int32} (h : f = 2 ∨ f = 3) : brF M p m f a b pc = endM M p (128 + 2) m := if_pos h
theorem brF_no {M : Nat → Nat → Int32} {p m f : Nat} {a b pc : Int32} (h : ¬ (f = 2 ∨ f = 3)) (hc : bcd f a b = false) : brF M p m f a b pc = M := (if_neg h).trans (if_neg (by rw [hc]; decide))
theorem brF_go {M : Nat → Nat → Int32} {p m f : Nat} {a b pc : Int32} (h : ¬ (f = 2 ∨ f = 3)) (hc : bcd f a b = true) (ht : (pc + bim (M 0 25)) - (pc + bim (M 0 25)) / 4 * 4 = 0) : brF M p m f a b pc = up2 M 0 26 (pc + bim (M 0 25)) := ((if_neg h).trans (if_pos hc)).trans (if_pos ht)
theorem brF_ft {M : Nat → Nat → Int32} {p m f : Nat} {a b pc : Int32} (h : ¬ (f = 2 ∨ f = 3)) (hc : bcd f a b = true) (ht : ¬ (pc + bim (M 0 25)) - (pc + bim (M 0 25)) / 4 * 4 = 0) : brF M p m f a b pc = endM M p (128 + 0) m := ((if_neg h).trans (if_pos hc)).trans (if_neg ht)
theorem b2i_eq0 {b : Bool} (h : b2i b = 0) : b = false := by cases b with | false => rfl | true => exact absurd h (by decide)
theorem b2i_ne0 {b : Bool} (h : ¬ b2i b = 0) : b = true := by cases b with | true => rfl | false => exact absurd rfl h
theorem b2i_eq1 {b : Bool} (h : b2i b = 1) : b = true := by cases b with | true => rfl | false => exact absurd h (by decide)
theorem b2i_ne1 {b : Bool} (h : ¬ b2i b = 1) : b = false := by cases b with | false => rfl | true => exact absurd rfl h

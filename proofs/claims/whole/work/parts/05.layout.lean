/-! ===== the layout: class cells 0..49 (C), reference cells 50..65 (M) ===== -/
def tk (i : Nat) : Nat := 5 + 4 * i
def pp (i : Nat) : Nat := 38 + 2 * i
def fl (C M : Nat → Nat → Int32) : Nat → Nat → Int32 := fun k j =>
  if k < 5 then C k j
  else if k < 37 then
    (if (k - 5) % 4 = 0 then (if j < 9 then C (10 + j) ((k - 5) / 4) else 0)
     else if (k - 5) % 4 = 1 then (if j < 32 then C 20 (32 * ((k - 5) / 4) + j) else 0)
     else if (k - 5) % 4 = 2 then (if j < 8 then C 21 (8 * ((k - 5) / 4) + j) else 0)
     else (if j < 6 then C 22 (6 * ((k - 5) / 4) + j) else 0))
  else if k < 38 then 0
  else if k < 46 then
    (if (k - 38) % 2 = 0 then (if j < 3 then C (24 + j) ((k - 38) / 2) else 0)
     else (if j < 8 then C 27 (8 * ((k - 38) / 2) + j) else 0))
  else if k < 50 then C k j
  else M (k - 50) j
def RH : Nat → Nat → Option Nat := fun k j =>
  if 5 ≤ k ∧ k < 37 then some (k + j)
  else if 38 ≤ k ∧ k < 46 then some (k + 1)
  else match k with
    | 0 => (match j with | 0 => some 1 | 1 => some 4 | 2 => some 37 | 3 => some 46 | 5 => some 48 | 6 => some 49 | _ => none)
    | 1 => (match j with | 0 => some 2 | 1 => some 3 | _ => none)
    | 4 => some (tk j)
    | 37 => some (pp j)
    | 46 => some 47
    | 50 => (match j with | 2 => some 51 | 3 => some 52 | 5 => some 53 | 7 => some 54 | 8 => some 55 | 9 => some 56 | 10 => some 57 | 11 => some 58 | 12 => some 59 | 13 => some 60 | 14 => some 61 | 16 => some 62 | 20 => some 63 | 21 => some 64 | 23 => some 65 | _ => none)
    | _ => none
def SH (F : Nat) : List (Nat × Nat) := [(0 + 4, 13), (1 + 4, 3), (0, 16 * F), (1, F), (2, 8), (2 + 4, 9), (0, 32), (0, 8), (0, 6), (2 + 4, 9), (0, 32), (0, 8), (0, 6), (2 + 4, 9), (0, 32), (0, 8), (0, 6), (2 + 4, 9), (0, 32), (0, 8), (0, 6), (2 + 4, 9), (0, 32), (0, 8), (0, 6), (2 + 4, 9), (0, 32), (0, 8), (0, 6), (2 + 4, 9), (0, 32), (0, 8), (0, 6), (2 + 4, 9), (0, 32), (0, 8), (0, 6), (3, 4), (3 + 4, 3), (0, 8), (3 + 4, 3), (0, 8), (3 + 4, 3), (0, 8), (3 + 4, 3), (0, 8), (4 + 4, 2), (0, 8), (0, 64), (0, 200), (5 + 4, 28), (0, 640), (0, 40), (0, 64), (0, 9), (0, 9), (0, 9), (0, 9), (0, 9), (0, 288), (0, 72), (0, 54), (0, 9), (0, 32), (0, 4), (0, 200)]
def HW (F : Nat) (C M : Nat → Nat → Int32) : iH := (SH F, fl C M, RH)
theorem lt8 {P : Nat → Prop} (h0 : P 0) (h1 : P 1) (h2 : P 2) (h3 : P 3) (h4 : P 4) (h5 : P 5) (h6 : P 6) (h7 : P 7) {i : Nat} (hi : i < 8) : P i := by
  match i, hi with
  | 0, _ => exact h0
  | 1, _ => exact h1
  | 2, _ => exact h2
  | 3, _ => exact h3
  | 4, _ => exact h4
  | 5, _ => exact h5
  | 6, _ => exact h6
  | 7, _ => exact h7
theorem lt4 {P : Nat → Prop} (h0 : P 0) (h1 : P 1) (h2 : P 2) (h3 : P 3) {i : Nat} (hi : i < 4) : P i := by
  match i, hi with
  | 0, _ => exact h0
  | 1, _ => exact h1
  | 2, _ => exact h2
  | 3, _ => exact h3
theorem SH_T0 {F i : Nat} (hi : i < 8) : (SH F)[tk i]? = some (2 + 4, 9) := lt8 (P := fun i => (SH F)[tk i]? = some (2 + 4, 9)) rfl rfl rfl rfl rfl rfl rfl rfl hi
theorem SH_T1 {F i : Nat} (hi : i < 8) : (SH F)[tk i + 1]? = some (0, 32) := lt8 (P := fun i => (SH F)[tk i + 1]? = some (0, 32)) rfl rfl rfl rfl rfl rfl rfl rfl hi
theorem SH_T2 {F i : Nat} (hi : i < 8) : (SH F)[tk i + 2]? = some (0, 8) := lt8 (P := fun i => (SH F)[tk i + 2]? = some (0, 8)) rfl rfl rfl rfl rfl rfl rfl rfl hi
theorem SH_T3 {F i : Nat} (hi : i < 8) : (SH F)[tk i + 3]? = some (0, 6) := lt8 (P := fun i => (SH F)[tk i + 3]? = some (0, 6)) rfl rfl rfl rfl rfl rfl rfl rfl hi
theorem SH_P0 {F i : Nat} (hi : i < 4) : (SH F)[pp i]? = some (3 + 4, 3) := lt4 (P := fun i => (SH F)[pp i]? = some (3 + 4, 3)) rfl rfl rfl rfl hi
theorem SH_P1 {F i : Nat} (hi : i < 4) : (SH F)[pp i + 1]? = some (0, 8) := lt4 (P := fun i => (SH F)[pp i + 1]? = some (0, 8)) rfl rfl rfl rfl hi
theorem RH_T {i : Nat} (j : Nat) (hi : i < 8) : RH (tk i) j = some (tk i + j) := by
  unfold RH tk
  rw [if_pos (by omega)]
theorem RH_P {i : Nat} (hi : i < 4) : RH (pp i) 0 = some (pp i + 1) := by
  unfold RH pp
  rw [if_neg (by omega), if_pos (by omega)]
section LAY
variable {C M : Nat → Nat → Int32}
theorem fr_K {k : Nat} (j : Nat) (hk : k < 5 ∨ (46 ≤ k ∧ k < 50)) : fl C M k j = C k j := by
  simp only [fl, tk, pp]
  repeat' split
  all_goals first | rfl | (exfalso; omega) | (congr 1 <;> omega) | (congr 2 <;> omega)
theorem fr_M (a j : Nat) : fl C M (50 + a) j = M a j := by
  unfold fl
  rw [if_neg (by omega), if_neg (by omega), if_neg (by omega), if_neg (by omega), if_neg (by omega), Nat.add_sub_cancel_left]
theorem fr_T {i j : Nat} (hi : i < 8) (hj : j < 9) : fl C M (tk i) j = C (10 + j) i := by
  unfold fl tk
  rw [if_neg (by omega), if_pos (by omega), if_pos (by omega), if_pos hj, show (5 + 4 * i - 5) / 4 = i by omega]
theorem fr_R {i j : Nat} (hi : i < 8) (hj : j < 32) : fl C M (tk i + 1) j = C 20 (32 * i + j) := by
  unfold fl tk
  rw [if_neg (by omega), if_pos (by omega), if_neg (by omega), if_pos (by omega), if_pos hj, show (5 + 4 * i + 1 - 5) / 4 = i by omega]
theorem fr_F {i j : Nat} (hi : i < 8) (hj : j < 8) : fl C M (tk i + 2) j = C 21 (8 * i + j) := by
  unfold fl tk
  rw [if_neg (by omega), if_pos (by omega), if_neg (by omega), if_neg (by omega), if_pos (by omega), if_pos hj, show (5 + 4 * i + 2 - 5) / 4 = i by omega]
theorem fr_D {i j : Nat} (hi : i < 8) (hj : j < 6) : fl C M (tk i + 3) j = C 22 (6 * i + j) := by
  unfold fl tk
  rw [if_neg (by omega), if_pos (by omega), if_neg (by omega), if_neg (by omega), if_neg (by omega), if_pos hj, show (5 + 4 * i + 3 - 5) / 4 = i by omega]
theorem fr_P {i j : Nat} (hi : i < 4) (hj : j < 3) : fl C M (pp i) j = C (24 + j) i := by
  unfold fl pp
  rw [if_neg (by omega), if_neg (by omega), if_neg (by omega), if_pos (by omega), if_pos (by omega), if_pos hj, show (38 + 2 * i - 38) / 2 = i by omega]
theorem fr_B {i j : Nat} (hi : i < 4) (hj : j < 8) : fl C M (pp i + 1) j = C 27 (8 * i + j) := by
  unfold fl pp
  rw [if_neg (by omega), if_neg (by omega), if_neg (by omega), if_pos (by omega), if_neg (by omega), if_pos hj, show (38 + 2 * i + 1 - 38) / 2 = i by omega]
theorem fu_K {k : Nat} (j : Nat) (x : Int32) (hk : k < 5 ∨ (46 ≤ k ∧ k < 50)) : up2 (fl C M) k j x = fl (up2 C k j x) M := by
  funext k' j'
  by_cases hc : k' = k ∧ j' = j
  · obtain ⟨rfl, rfl⟩ := hc
    rw [fr_K _ hk]
    simp [up2]
  · rw [show up2 (fl C M) (k) j x k' j' = fl C M k' j' from if_neg hc]
    try simp only [tk, pp] at hc
    simp only [fl, up2]
    repeat' split
    all_goals first | rfl | (exfalso; omega)
theorem fu_M (a j : Nat) (x : Int32) : up2 (fl C M) (50 + a) j x = fl C (up2 M a j x) := by
  funext k' j'
  by_cases hc : k' = 50 + a ∧ j' = j
  · obtain ⟨rfl, rfl⟩ := hc
    rw [fr_M]
    simp [up2]
  · rw [show up2 (fl C M) (50 + a) j x k' j' = fl C M k' j' from if_neg hc]
    try simp only [tk, pp] at hc
    simp only [fl, up2]
    repeat' split
    all_goals first | rfl | (exfalso; omega)
theorem fu_T {i j : Nat} (x : Int32) (hi : i < 8) (hj : j < 9) : up2 (fl C M) (tk i) j x = fl (up2 C (10 + j) i x) M := by
  funext k' j'
  by_cases hc : k' = tk i ∧ j' = j
  · obtain ⟨rfl, rfl⟩ := hc
    rw [fr_T hi hj]
    simp [up2]
  · rw [show up2 (fl C M) (tk i) j x k' j' = fl C M k' j' from if_neg hc]
    try simp only [tk, pp] at hc
    simp only [fl, up2]
    repeat' split
    all_goals first | rfl | (exfalso; omega)
theorem fu_R {i j : Nat} (x : Int32) (hi : i < 8) (hj : j < 32) : up2 (fl C M) (tk i + 1) j x = fl (up2 C 20 (32 * i + j) x) M := by
  funext k' j'
  by_cases hc : k' = tk i + 1 ∧ j' = j
  · obtain ⟨rfl, rfl⟩ := hc
    rw [fr_R hi hj]
    simp [up2]
  · rw [show up2 (fl C M) (tk i + 1) j x k' j' = fl C M k' j' from if_neg hc]
    try simp only [tk, pp] at hc
    simp only [fl, up2]
    repeat' split
    all_goals first | rfl | (exfalso; omega)
theorem fu_F {i j : Nat} (x : Int32) (hi : i < 8) (hj : j < 8) : up2 (fl C M) (tk i + 2) j x = fl (up2 C 21 (8 * i + j) x) M := by
  funext k' j'
  by_cases hc : k' = tk i + 2 ∧ j' = j
  · obtain ⟨rfl, rfl⟩ := hc
    rw [fr_F hi hj]
    simp [up2]
  · rw [show up2 (fl C M) (tk i + 2) j x k' j' = fl C M k' j' from if_neg hc]
    try simp only [tk, pp] at hc
    simp only [fl, up2]
    repeat' split
    all_goals first | rfl | (exfalso; omega)
theorem fu_D {i j : Nat} (x : Int32) (hi : i < 8) (hj : j < 6) : up2 (fl C M) (tk i + 3) j x = fl (up2 C 22 (6 * i + j) x) M := by
  funext k' j'
  by_cases hc : k' = tk i + 3 ∧ j' = j
  · obtain ⟨rfl, rfl⟩ := hc
    rw [fr_D hi hj]
    simp [up2]
  · rw [show up2 (fl C M) (tk i + 3) j x k' j' = fl C M k' j' from if_neg hc]
    try simp only [tk, pp] at hc
    simp only [fl, up2]
    repeat' split
    all_goals first | rfl | (exfalso; omega)
theorem fu_P {i j : Nat} (x : Int32) (hi : i < 4) (hj : j < 3) : up2 (fl C M) (pp i) j x = fl (up2 C (24 + j) i x) M := by
  funext k' j'
  by_cases hc : k' = pp i ∧ j' = j
  · obtain ⟨rfl, rfl⟩ := hc
    rw [fr_P hi hj]
    simp [up2]
  · rw [show up2 (fl C M) (pp i) j x k' j' = fl C M k' j' from if_neg hc]
    try simp only [tk, pp] at hc
    simp only [fl, up2]
    repeat' split
    all_goals first | rfl | (exfalso; omega)
theorem fu_B {i j : Nat} (x : Int32) (hi : i < 4) (hj : j < 8) : up2 (fl C M) (pp i + 1) j x = fl (up2 C 27 (8 * i + j) x) M := by
  funext k' j'
  by_cases hc : k' = pp i + 1 ∧ j' = j
  · obtain ⟨rfl, rfl⟩ := hc
    rw [fr_B hi hj]
    simp [up2]
  · rw [show up2 (fl C M) (pp i + 1) j x k' j' = fl C M k' j' from if_neg hc]
    try simp only [tk, pp] at hc
    simp only [fl, up2]
    repeat' split
    all_goals first | rfl | (exfalso; omega)
theorem fr_T0 {i : Nat} (hi : i < 8) : fl C M (tk i) 0 = C 10 i := fr_T hi (by decide)
theorem fu_T0 {i : Nat} (x : Int32) (hi : i < 8) : up2 (fl C M) (tk i) 0 x = fl (up2 C 10 i x) M := fu_T x hi (by decide)
theorem fr_T4 {i : Nat} (hi : i < 8) : fl C M (tk i) 4 = C 14 i := fr_T hi (by decide)
theorem fu_T4 {i : Nat} (x : Int32) (hi : i < 8) : up2 (fl C M) (tk i) 4 x = fl (up2 C 14 i x) M := fu_T x hi (by decide)
theorem fr_T5 {i : Nat} (hi : i < 8) : fl C M (tk i) 5 = C 15 i := fr_T hi (by decide)
theorem fu_T5 {i : Nat} (x : Int32) (hi : i < 8) : up2 (fl C M) (tk i) 5 x = fl (up2 C 15 i x) M := fu_T x hi (by decide)
theorem fr_T6 {i : Nat} (hi : i < 8) : fl C M (tk i) 6 = C 16 i := fr_T hi (by decide)
theorem fu_T6 {i : Nat} (x : Int32) (hi : i < 8) : up2 (fl C M) (tk i) 6 x = fl (up2 C 16 i x) M := fu_T x hi (by decide)
theorem fr_T7 {i : Nat} (hi : i < 8) : fl C M (tk i) 7 = C 17 i := fr_T hi (by decide)
theorem fu_T7 {i : Nat} (x : Int32) (hi : i < 8) : up2 (fl C M) (tk i) 7 x = fl (up2 C 17 i x) M := fu_T x hi (by decide)
theorem fr_T8 {i : Nat} (hi : i < 8) : fl C M (tk i) 8 = C 18 i := fr_T hi (by decide)
theorem fu_T8 {i : Nat} (x : Int32) (hi : i < 8) : up2 (fl C M) (tk i) 8 x = fl (up2 C 18 i x) M := fu_T x hi (by decide)
theorem fr_P1 {i : Nat} (hi : i < 4) : fl C M (pp i) 1 = C 25 i := fr_P hi (by decide)
theorem fu_P1 {i : Nat} (x : Int32) (hi : i < 4) : up2 (fl C M) (pp i) 1 x = fl (up2 C 25 i x) M := fu_P x hi (by decide)
theorem fr_P2 {i : Nat} (hi : i < 4) : fl C M (pp i) 2 = C 26 i := fr_P hi (by decide)
theorem fu_P2 {i : Nat} (x : Int32) (hi : i < 4) : up2 (fl C M) (pp i) 2 x = fl (up2 C 26 i x) M := fu_P x hi (by decide)
/-- C with the places lo .. lo + n of row a put to f -/
def upr (C : Nat → Nat → Int32) (a lo n : Nat) (f : Nat → Int32) : Nat → Nat → Int32 := fun a' j => if a' = a ∧ lo ≤ j ∧ j < lo + n then f (j - lo) else C a' j
end LAY
section LW
variable {G : iG} {m : iM} {d ac az pc : Nat} {Ls : List (Option iV)} {st : List iV} {F : Nat} {C M : Nat → Nat → Int32} {Q : Option iV → iH → Prop}
theorem L_ld {k n j : Nat} {i v : Int32} (hd : decode m.2.1 pc = .ok (.iaload, 1)) (hk : (SH F)[k]? = some (0, n)) (hi : i = nI j) (hj : j < n) (hn : n < 2 ^ 31) (hv : fl C M k j = v) (kk : Ev G m d ac az (pc + 1) Ls (vI v :: st) (HW F C M) Q) : Ev G m d ac az pc Ls (vI i :: vR k :: st) (HW F C M) Q :=
  E_iald hd hk hi hj hn (by rw [show (HW F C M).2.1 k j = v from hv]; exact kk)
theorem L_zld {k n j : Nat} {i v : Int32} (hd : decode m.2.1 pc = .ok (.baload, 1)) (hk : (SH F)[k]? = some (1, n)) (hi : i = nI j) (hj : j < n) (hn : n < 2 ^ 31) (hv : fl C M k j = v) (kk : Ev G m d ac az (pc + 1) Ls (vI v :: st) (HW F C M) Q) : Ev G m d ac az pc Ls (vI i :: vR k :: st) (HW F C M) Q :=
  E_zald hd hk hi hj hn (by rw [show (HW F C M).2.1 k j = v from hv]; exact kk)
theorem L_st {k n j : Nat} {i x : Int32} {C' M' : Nat → Nat → Int32} (hd : decode m.2.1 pc = .ok (.iastore, 1)) (hk : (SH F)[k]? = some (0, n)) (hi : i = nI j) (hj : j < n) (hn : n < 2 ^ 31) (hv : up2 (fl C M) k j x = fl C' M') (kk : Ev G m d ac az (pc + 1) Ls st (HW F C' M') Q) : Ev G m d ac az pc Ls (vI x :: vI i :: vR k :: st) (HW F C M) Q :=
  E_iast hd hk hi hj hn (by show Ev G m d ac az (pc + 1) Ls st (SH F, up2 (fl C M) k j x, RH) Q; rw [hv]; exact kk)
theorem L_zst {k n j : Nat} {i x : Int32} {C' M' : Nat → Nat → Int32} (hd : decode m.2.1 pc = .ok (.bastore, 1)) (hk : (SH F)[k]? = some (1, n)) (hi : i = nI j) (hj : j < n) (hn : n < 2 ^ 31) (hx : x = 0 ∨ x = 1) (hv : up2 (fl C M) k j x = fl C' M') (kk : Ev G m d ac az (pc + 1) Ls st (HW F C' M') Q) : Ev G m d ac az pc Ls (vI x :: vI i :: vR k :: st) (HW F C M) Q :=
  E_zast hd hk hi hj hn hx (by show Ev G m d ac az (pc + 1) Ls st (SH F, up2 (fl C M) k j x, RH) Q; rw [hv]; exact kk)
theorem L_gi {idx ci j k n : Nat} {v : Int32} (hd : decode m.2.1 pc = .ok (.getfield idx, 3)) (hf : FLk m.1.cls idx ci j) (hk : (SH F)[k]? = some (ci + 4, n)) (hj : j < n) (hr : rf ci j = false) (hv : fl C M k j = v) (kk : Ev G m d ac az (pc + 3) Ls (vI v :: st) (HW F C M) Q) : Ev G m d ac az pc Ls (vR k :: st) (HW F C M) Q :=
  E_getI hd hf hk hj hr (by rw [show (HW F C M).2.1 k j = v from hv]; exact kk)
theorem L_gr {idx ci j k n k' : Nat} (hd : decode m.2.1 pc = .ok (.getfield idx, 3)) (hf : FLk m.1.cls idx ci j) (hk : (SH F)[k]? = some (ci + 4, n)) (hj : j < n) (hr : rf ci j = true) (hq : RH k j = some k') (kk : Ev G m d ac az (pc + 3) Ls (vR k' :: st) (HW F C M) Q) : Ev G m d ac az pc Ls (vR k :: st) (HW F C M) Q :=
  E_getQ hd hf hk hj hr (by rw [show (HW F C M).2.2 k j = some k' from hq]; exact kk)
theorem L_pi {idx ci j k n : Nat} {x : Int32} {C' M' : Nat → Nat → Int32} (hd : decode m.2.1 pc = .ok (.putfield idx, 3)) (hf : FLk m.1.cls idx ci j) (hk : (SH F)[k]? = some (ci + 4, n)) (hj : j < n) (ht : tyT ci j = .int ∨ (tyT ci j = .boolean ∧ (x = 0 ∨ x = 1))) (hfin : fnl ci j = false) (hv : up2 (fl C M) k j x = fl C' M') (kk : Ev G m d ac az (pc + 3) Ls st (HW F C' M') Q) : Ev G m d ac az pc Ls (vI x :: vR k :: st) (HW F C M) Q :=
  E_putI hd hf hk hj ht hfin (by show Ev G m d ac az (pc + 3) Ls st (SH F, up2 (fl C M) k j x, RH) Q; rw [hv]; exact kk)
theorem L_ar2 {k n j k' : Nat} {i : Int32} (hd : decode m.2.1 pc = .ok (.aaload, 1)) (hk : (SH F)[k]? = some (2, n)) (hi : i = nI j) (hj : j < n) (hn : n < 2 ^ 31) (hq : RH k j = some k') (kk : Ev G m d ac az (pc + 1) Ls (vR k' :: st) (HW F C M) Q) : Ev G m d ac az pc Ls (vI i :: vR k :: st) (HW F C M) Q :=
  E_aald2 hd hk hi hj hn (by rw [show (HW F C M).2.2 k j = some k' from hq]; exact kk)
theorem L_ar3 {k n j k' : Nat} {i : Int32} (hd : decode m.2.1 pc = .ok (.aaload, 1)) (hk : (SH F)[k]? = some (3, n)) (hi : i = nI j) (hj : j < n) (hn : n < 2 ^ 31) (hq : RH k j = some k') (kk : Ev G m d ac az (pc + 1) Ls (vR k' :: st) (HW F C M) Q) : Ev G m d ac az pc Ls (vI i :: vR k :: st) (HW F C M) Q :=
  E_aald3 hd hk hi hj hn (by rw [show (HW F C M).2.2 k j = some k' from hq]; exact kk)
end LW

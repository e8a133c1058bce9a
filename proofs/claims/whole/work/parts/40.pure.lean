/-! ===== the class: what its small methods do to its cells C ===== -/
section CPY
variable {C M : Nat → Nat → Int32}
theorem fr_R0 {i j : Nat} (hi : i < 8) (hj : ¬ j < 32) : fl C M (tk i + 1) j = 0 := by
  unfold fl tk
  rw [if_neg (by omega), if_pos (by omega), if_neg (by omega), if_pos (by omega), if_neg hj]
theorem fr_D0 {i j : Nat} (hi : i < 8) (hj : ¬ j < 6) : fl C M (tk i + 3) j = 0 := by
  unfold fl tk
  rw [if_neg (by omega), if_pos (by omega), if_neg (by omega), if_neg (by omega), if_neg (by omega), if_neg hj]
theorem fk_R {i j : Nat} (hi : i < 8) (hj : j < 8) : upk (fl C M) (tk i + 1) (va_cpy (fl C M (tk j + 1)) (fl C M (tk i + 1)) 0 0 32) = fl (upr C 20 (32 * i) 32 (fun k => C 20 (32 * j + k))) M := by
  funext k' j'
  by_cases hk : k' = tk i + 1
  · subst hk
    simp only [upk, if_true, va_cpy]
    by_cases h32 : j' < 32
    · rw [if_pos ⟨by omega, by omega⟩, show 0 + (j' - 0) = j' by omega, fr_R hj h32, fr_R hi h32, upr, if_pos ⟨rfl, by omega, by omega⟩, show 32 * i + j' - 32 * i = j' by omega]
    · rw [if_neg (by omega)]
      rw [fr_R0 hi h32, fr_R0 hi h32]
  · simp only [upk, if_neg hk]
    simp only [tk] at hk
    simp only [fl, upr]
    repeat' split
    all_goals first | rfl | (exfalso; omega)
theorem fk_D {i j : Nat} (hi : i < 8) (hj : j < 8) : upk (fl C M) (tk i + 3) (va_cpy (fl C M (tk j + 3)) (fl C M (tk i + 3)) 0 0 6) = fl (upr C 22 (6 * i) 6 (fun k => C 22 (6 * j + k))) M := by
  funext k' j'
  by_cases hk : k' = tk i + 3
  · subst hk
    simp only [upk, if_true, va_cpy]
    by_cases h32 : j' < 6
    · rw [if_pos ⟨by omega, by omega⟩, show 0 + (j' - 0) = j' by omega, fr_D hj h32, fr_D hi h32, upr, if_pos ⟨rfl, by omega, by omega⟩, show 6 * i + j' - 6 * i = j' by omega]
    · rw [if_neg (by omega)]
      rw [fr_D0 hi h32, fr_D0 hi h32]
  · simp only [upk, if_neg hk]
    simp only [tk] at hk
    simp only [fl, upr]
    repeat' split
    all_goals first | rfl | (exfalso; omega)
theorem fk_W (a b : Nat) : upk (fl C M) 2 (va_cpy (fl C M 2) (fl C M 2) a b 16) = fl (upr C 2 b 16 (fun k => C 2 (a + k))) M := by
  funext k' j'
  by_cases hk : k' = 2
  · subst hk
    simp only [upk, if_true, va_cpy]
    rw [show fl (upr C 2 b 16 (fun k => C 2 (a + k))) M 2 j' = upr C 2 b 16 (fun k => C 2 (a + k)) 2 j' from fr_K _ (by decide)]
    by_cases hb : b ≤ j' ∧ j' < b + 16
    · rw [if_pos hb, fr_K (k := 2) _ (by decide)]
      exact (if_pos ⟨rfl, hb⟩).symm
    · rw [if_neg hb, fr_K (k := 2) _ (by decide)]
      exact (if_neg (fun q => hb q.2)).symm
  · simp only [upk, if_neg hk]
    simp only [fl, upr]
    repeat' split
    all_goals first | rfl | (exfalso; omega)
end CPY
theorem L_cp {G : iG} {m : iM} {d ac az pc : Nat} {Ls : List (Option iV)} {st : List iV} {F : Nat} {C M C' M' : Nat → Nat → Int32} {Q : Option iV → iH → Prop} {idx k0 k1 n0 n1 a b n : Nat} {sp dp nn : Int32} (hd : decode m.2.1 pc = .ok (.invokestatic idx, 3)) (hw : Cond.methodLink m.1.cls idx arraycopyName ∈ gw ∧ Cond.native arraycopyName ∈ gw ∧ Cond.static arraycopyName ∈ gw ∧ Cond.initialized "java/lang/System" ∈ gw) (hd2 : 1 ≤ d) (hrest : (st.map ct).sum ≤ 8)
    (hk0 : (SH F)[k0]? = some (0, n0)) (hk1 : (SH F)[k1]? = some (0, n1)) (hsp : sp = nI a) (hdp : dp = nI b) (hnn : nn = nI n) (hn0 : a + n ≤ n0) (hn1 : b + n ≤ n1) (hb0 : n0 < 2 ^ 31) (hb1 : n1 < 2 ^ 31) (hv : upk (fl C M) k1 (va_cpy (fl C M k0) (fl C M k1) a b n) = fl C' M')
    (kk : Ev G m d ac az (pc + 3) Ls st (HW F C' M') Q) : Ev G m d ac az pc Ls (vI nn :: vI dp :: vR k1 :: vI sp :: vR k0 :: st) (HW F C M) Q :=
  E_copy hd hw hd2 hrest hk0 hk1 hsp hdp hnn hn0 hn1 hb0 hb1 (by show Ev G m d ac az (pc + 3) Ls st (SH F, upk (fl C M) k1 (va_cpy (fl C M k0) (fl C M k1) a b n), RH) Q; rw [hv]; exact kk)
def gR (C : Nat → Nat → Int32) (i : Nat) (k : Int32) : Int32 := if 0 ≤ k ∧ k < 32 then C 20 (32 * i + nv k) else 0
theorem gR_nI (C : Nat → Nat → Int32) (i : Nat) {k : Nat} (h : k < 32) : gR C i (nI k) = C 20 (32 * i + k) := by
  rw [gR, if_pos ⟨nI_pos' (by omega), nI_lt (b := 32) h (by decide)⟩, nv_nI (by omega)]
def sR (C : Nat → Nat → Int32) (i k : Nat) (v : Int32) : Nat → Nat → Int32 := if k = 0 then C else up2 C 20 (32 * i + k) v
def eA (C : Nat → Nat → Int32) (i : Nat) (k : Int32) : Int32 := if 0 ≤ k ∧ k < 6 then C 22 (6 * i + nv k) else -1
def lnC (C : Nat → Nat → Int32) (i : Nat) : Nat → Nat → Nat
  | 0, k => k
  | n + 1, k => if C 22 (6 * i + k) = -1 then k else lnC C i n (k + 1)
theorem lnC_le (C : Nat → Nat → Int32) (i : Nat) : ∀ n k, k ≤ lnC C i n k ∧ lnC C i n k ≤ k + n
  | 0, k => ⟨Nat.le_refl _, Nat.le_refl _⟩
  | n + 1, k => by
    have := lnC_le C i n (k + 1)
    unfold lnC
    split <;> omega
def lnx (C : Nat → Nat → Int32) (i f : Nat) : Int32 := if lnC C i (6 - f) f < 6 then nI (lnC C i (6 - f) f) else -1
def chC (C : Nat → Nat → Int32) (i j : Nat) : Bool := !decide (C 15 i = 0) && decide (C 17 i = C 10 j)
def slC (C : Nat → Nat → Int32) (i : Nat) : Bool := decide (C 15 i = 2) || decide (C 15 i = 3) || decide (C 15 i = 4)
def cfC (C : Nat → Nat → Int32) (i j : Nat) : Nat → Nat → Int32 := upr (upr (up2 C 16 i (C 16 j)) 20 (32 * i) 32 (fun k => C 20 (32 * j + k))) 22 (6 * i) 6 (fun k => C 22 (6 * j + k))
def apC (C : Nat → Nat → Int32) (z : Nat) (v : Int32) : Nat → Nat → Int32 := if z < 8 then up2 (up2 C 47 z v) 46 1 (nI (z + 1)) else C
def atC (C : Nat → Nat → Int32) (z : Nat) (x : Int32) : Int32 := if 0 ≤ x ∧ x < nI z then C 47 (nv x) else 0
def drC (C : Nat → Nat → Int32) (z : Nat) (q : Int32) : Nat → Nat → Int32 := up2 (upl C 47 (flt C 47 q z)) 46 1 (nI (flt C 47 q z).length)
def puC (C : Nat → Nat → Int32) (k a c : Nat) (b : Int32) : Nat → Nat → Int32 := if c < 8 then up2 (up2 C 27 (8 * k + (a + c) % 8) b) 26 k (nI (c + 1)) else C
def taC (C : Nat → Nat → Int32) (k a c : Nat) : Nat → Nat → Int32 := if c = 0 then C else up2 (up2 C 25 k (nI ((a + 1) % 8))) 26 k (nI (c - 1))
def emC (C : Nat → Nat → Int32) (k : Nat) : Nat → Nat → Int32 := up2 (up2 C 25 k 0) 26 k 0
def clC (C : Nat → Nat → Int32) (f : Nat) : Nat → Nat → Int32 := upr C 2 (16 * f) 16 (fun _ => 0)
/-- one frame k given to task i, which has s pages -/
def gv1 (C : Nat → Nat → Int32) (i k s : Nat) : Nat → Nat → Int32 := up2 (up2 (clC (up2 (up2 C 3 k 1) 1 2 (C 1 2 - 1)) k) 21 (8 * i + s) (nI k)) 14 i (nI (s + 1))
/-- frames from k on, n of them left; g given, s pages -/
def gvC (i more : Nat) : Nat → (Nat → Nat → Int32) → Nat → Nat → Nat → Nat → Nat → Int32
  | 0, C, _, _, _ => C
  | n + 1, C, k, g, s => if g < more ∧ s < 8 then (if C 3 k = 0 then gvC i more n (gv1 C i k s) (k + 1) (g + 1) (s + 1) else gvC i more n C (k + 1) g s) else C
def tbk (C : Nat → Nat → Int32) (i : Nat) : Nat → Nat → Nat → Int32
  | 0 => C
  | k + 1 => up2 (up2 (tbk C i k) 3 (nv (C 21 (8 * i + k))) 0) 1 2 (tbk C i k 1 2 + 1)
def tbC (C : Nat → Nat → Int32) (i s : Nat) : Nat → Nat → Int32 := up2 (tbk C i s) 14 i 0
def cpg (C : Nat → Nat → Int32) (i j : Nat) : Nat → Nat → Nat → Int32
  | 0 => C
  | k + 1 => upr (cpg C i j k) 2 (16 * nv (C 21 (8 * j + k))) 16 (fun x => cpg C i j k 2 (16 * nv (C 21 (8 * i + k)) + x))
def cpr (C : Nat → Nat → Int32) (i : Nat) : Nat → Nat → Nat → Int32
  | 0 => C
  | k + 1 => up2 (cpr C i k) 2 (16 * nv (C 21 (8 * i + k / 16)) + k % 16) (C 48 k)
theorem tbk_ne (C : Nat → Nat → Int32) (i : Nat) {a : Nat} (j : Nat) (h3 : a ≠ 3) (h1 : a ≠ 1) : ∀ k, tbk C i k a j = C a j
  | 0 => rfl
  | k + 1 => by rw [tbk, up2_ne2 _ _ _ _ h1, up2_ne2 _ _ _ _ h3, tbk_ne C i j h3 h1 k]
theorem cpg_ne (C : Nat → Nat → Int32) (i j : Nat) {a : Nat} (x : Nat) (h : a ≠ 2) : ∀ k, cpg C i j k a x = C a x
  | 0 => rfl
  | k + 1 => by rw [cpg, upr_ne _ _ _ _ _ h, cpg_ne C i j x h k]
theorem cpr_ne (C : Nat → Nat → Int32) (i : Nat) {a : Nat} (x : Nat) (h : a ≠ 2) : ∀ k, cpr C i k a x = C a x
  | 0 => rfl
  | k + 1 => by rw [cpr, up2_ne2 _ _ _ _ h, cpr_ne C i x h k]
/-- where the word around an address lies; -1 where it isn't there -/
def plC (C : Nat → Nat → Int32) (i s : Nat) (x : Int32) : Int32 := if x.toBitVec.toNat / 64 < s then C 21 (8 * i + x.toBitVec.toNat / 64) * 16 + nI (x.toBitVec.toNat / 4 % 16) else -1
/-- every page of task i lies in a frame below F -/
def pgC (C : Nat → Nat → Int32) (i s F : Nat) : Prop := ∀ k, k < s → ∃ f, f < F ∧ C 21 (8 * i + k) = nI f

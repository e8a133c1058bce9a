/-! ===== the reference's bytes ===== -/
def nv (x : Int32) : Nat := x.toNatClampNeg
theorem nv_nI {n : Nat} (h : n < 2 ^ 31) : nv (nI n) = n := nI_clamp h
def cel (M : Nat → Nat → Int32) (p a : Nat) : Nat := 16 * nv (M 10 (8 * p + a / 64)) + a % 64 / 4
def byt (M : Nat → Nat → Int32) (p a : Nat) : Int32 := (M 1 (cel M p a) >>> (nI (8 * (a % 4)) &&& 31)) &&& 255
def rdv (b : Nat → Int32) : Nat → Int32 → Int32
  | 0, v => v
  | k + 1, v => rdv b k ((v <<< (8 &&& 31)) ||| b k)
def adr (M : Nat → Nat → Int32) (p : Nat) : Int32 := M 9 (32 * p + bf (M 0 25) 15 5) + (M 0 25 >>> (20 &&& 31))
def nof (f : Nat) : Nat := if f % 4 = 0 then 1 else if f % 4 = 1 then 2 else 4
def rdx (M : Nat → Nat → Int32) (p f n a : Nat) : Int32 := if f < 3 then (rdv (fun k => byt M p (a + k)) n 0 <<< ((32 - 8 * nI n) &&& 31)) >>> ((32 - 8 * nI n) &&& 31) else rdv (fun k => byt M p (a + k)) n 0
def okA (a : Int32) (n s : Nat) : Prop := a - a / nI n * nI n = 0 ∧ 0 ≤ a ∧ a < nI (64 * s)
def redF (M : Nat → Nat → Int32) (p s m f n : Nat) (a : Int32) : Nat → Nat → Int32 := if f = 3 ∨ 5 < f then endM M p (128 + 2) m else if a - a / nI n * nI n = 0 ∧ 0 ≤ a ∧ a < nI (64 * s) then setM M p (bf (M 0 25) 7 5) (rdx M p f n (nv a)) else rchM M p a (nI n) 4 s m
def redM (M : Nat → Nat → Int32) (p s m : Nat) : Nat → Nat → Int32 := redF M p s m (bf (M 0 25) 12 3) (nof (bf (M 0 25) 12 3)) (adr M p)
theorem redF_bad {M : Nat → Nat → Int32} {p s m f n : Nat} {a : Int32} (h : f = 3 ∨ 5 < f) : redF M p s m f n a = endM M p (128 + 2) m := if_pos h
theorem redF_ok {M : Nat → Nat → Int32} {p s m f n : Nat} {a : Int32} (h : ¬ (f = 3 ∨ 5 < f)) (ho : okA a n s) : redF M p s m f n a = setM M p (bf (M 0 25) 7 5) (rdx M p f n (nv a)) := (if_neg h).trans (if_pos ho)
theorem redF_no {M : Nat → Nat → Int32} {p s m f n : Nat} {a : Int32} (h : ¬ (f = 3 ∨ 5 < f)) (ho : ¬ okA a n s) : redF M p s m f n a = rchM M p a (nI n) 4 s m := (if_neg h).trans (if_neg ho)
theorem rch_ok {M : Nat → Nat → Int32} {p : Nat} {a code : Int32} {n s m : Nat} (h : okA a n s) : rchM M p a (nI n) code s m = M := (if_pos h.1).trans (if_pos h.2)
theorem rch_no {M : Nat → Nat → Int32} {p : Nat} {a code : Int32} {n s m : Nat} (h : ¬ okA a n s) (hp : M 0 24 = nI p) : rchM M p a (nI n) code s m 0 27 = 0 := by
  unfold rchM
  split
  · rename_i h1
    rw [if_neg (fun q => h ⟨h1, q⟩)]
    exact endM_27 _ _ hp
  · exact endM_27 _ _ hp
/-- every page of p's lies in a frame -/
def pgs (M : Nat → Nat → Int32) (p s : Nat) : Prop := ∀ k, k < s → ∃ f, f < 40 ∧ M 10 (8 * p + k) = nI f
theorem okA_of {a : Int32} {n s : Nat} (h : okA a n s) (hn : 0 < n) (hn4 : n ≤ 4) (hs : s ≤ 8) : ∃ b : Nat, b < 64 * s ∧ a = nI b ∧ b % n = 0 := by
  obtain ⟨h1, h2, h3⟩ := h
  rcases pk_ix a (n := 64 * s) (by omega) with q | q | ⟨b, hb, rfl⟩
  · exact absurd q (Int32.not_lt.mpr h2)
  · exact absurd h3 (Int32.not_lt.mpr q)
  · refine ⟨b, hb, rfl, ?_⟩
    rw [pk_rem (by omega) hn (by omega)] at h1
    have hlt := Nat.mod_lt b hn
    exact (nI_eq (b := 0) (by omega) (by decide)).mp h1
def pbM (M : Nat → Nat → Int32) (p a : Nat) (b : Int32) : Nat → Nat → Int32 := up2 M 1 (cel M p a) ((M 1 (cel M p a) &&& (((255 : Int32) <<< (nI (8 * (a % 4)) &&& 31)) ^^^ -1)) ||| ((b &&& 255) <<< (nI (8 * (a % 4)) &&& 31)))
def pbs (M : Nat → Nat → Int32) (p a : Nat) (v : Int32) : Nat → Nat → Nat → Int32
  | 0 => M
  | k + 1 => pbM (pbs M p a v k) p (a + k) (v >>> (nI (8 * k) &&& 31))
def adw (M : Nat → Nat → Int32) (p : Nat) : Int32 := M 9 (32 * p + bf (M 0 25) 15 5) + (((M 0 25 >>> (25 &&& 31)) <<< (5 &&& 31)) ||| nI (bf (M 0 25) 7 5))
def now (f : Nat) : Nat := if f = 0 then 1 else if f = 1 then 2 else 4
def wrtF (M : Nat → Nat → Int32) (p s m f n : Nat) (a v : Int32) : Nat → Nat → Int32 := if 2 < f then endM M p (128 + 2) m else if a - a / nI n * nI n = 0 ∧ 0 ≤ a ∧ a < nI (64 * s) then pbs M p (nv a) v n else rchM M p a (nI n) 6 s m
def wrtM (M : Nat → Nat → Int32) (p s m : Nat) : Nat → Nat → Int32 := wrtF M p s m (bf (M 0 25) 12 3) (now (bf (M 0 25) 12 3)) (adw M p) (M 9 (32 * p + bf (M 0 25) 20 5))
theorem wrtF_bad {M : Nat → Nat → Int32} {p s m f n : Nat} {a v : Int32} (h : 2 < f) : wrtF M p s m f n a v = endM M p (128 + 2) m := if_pos h
theorem wrtF_ok {M : Nat → Nat → Int32} {p s m f n : Nat} {a v : Int32} (h : ¬ 2 < f) (ho : okA a n s) : wrtF M p s m f n a v = pbs M p (nv a) v n := (if_neg h).trans (if_pos ho)
theorem wrtF_no {M : Nat → Nat → Int32} {p s m f n : Nat} {a v : Int32} (h : ¬ 2 < f) (ho : ¬ okA a n s) : wrtF M p s m f n a v = rchM M p a (nI n) 6 s m := (if_neg h).trans (if_neg ho)
theorem pgs_pb {M : Nat → Nat → Int32} {p s q a : Nat} {b : Int32} (h : pgs M p s) : pgs (pbM M q a b) p s := fun k hk => by
  obtain ⟨f, h1, h2⟩ := h k hk
  exact ⟨f, h1, by rw [pbM, up2_ne2 _ _ _ _ (by decide)]; exact h2⟩

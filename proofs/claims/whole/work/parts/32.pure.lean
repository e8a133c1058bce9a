/-! ===== the reference's step and boot ===== -/
def livk (M : Nat → Nat → Int32) (k : Nat) : Bool := (List.range k).any (fun j => decide (0 < M 4 (j + 1)) && !decide (M 4 (j + 1) = 5))
def stp1 (M : Nat → Nat → Int32) : Nat → Nat → Int32 := if M 0 17 = 0 then up2 (unrw (up2 M 0 17 (M 12 0)) (M 12 0) (nv (M 0 15))) 0 18 0 else M
def stp2 (M : Nat → Nat → Int32) : Nat → Nat → Int32 := up2 (stp1 M) 0 24 (stp1 M 0 17)
def stp4 (N : Nat → Nat → Int32) : Nat → Nat → Int32 := up2 N 0 18 (N 0 18 + 1)
def stp5 (N : Nat → Nat → Int32) (p : Nat) : Nat → Nat → Int32 := if N 4 p = 1 then (if N 0 19 = 0 ∧ ¬ N 0 18 = N 0 1 then N else up2 (wakM N p (nv (N 0 15))) 0 17 0) else up2 N 0 17 0
def wkl (M : Nat → Nat → Int32) : Nat → Nat → Nat → Int32
  | 0 => M
  | k + 1 => if 1 < wkl M k 4 (k + 1) ∧ wkl M k 4 (k + 1) < 5 ∧ mgb (wkl M k) (k + 1) = true then wakM (wkl M k) (k + 1) (nv (wkl M k 0 15)) else wkl M k
def wkok (N : Nat → Nat → Int32) (q : Nat) : Prop := (∃ m, m < 9 ∧ N 0 15 = nI m) ∧ (N 4 q = 2 → ∃ k, k < 4 ∧ dsc N q (N 9 (32 * q + 10)) = nI (1 + 2 * k)) ∧ (N 4 q = 3 → ∃ k, k < 4 ∧ dsc N q (N 9 (32 * q + 10)) = nI (2 + 2 * k))
def stpM (M : Nat → Nat → Int32) (p m s fr : Nat) : Nat → Nat → Int32 := wkl (stp5 (stp4 (insM (stp2 M) p m s fr)) p) 8
theorem insX_24 {M : Nat → Nat → Int32} {p m s fr : Nat} (pc : Int32) : insX M p m s fr pc 0 24 = M 0 24 := by
  unfold insX
  by_cases h0 : bf (M 0 25) 0 7 = 55
  · rw [if_pos h0]; exact setM_0 _ _ _
  rw [if_neg h0]
  by_cases h1 : bf (M 0 25) 0 7 = 23
  · rw [if_pos h1]; exact setM_0 _ _ _
  rw [if_neg h1]
  by_cases h2 : bf (M 0 25) 0 7 = 111
  · rw [if_pos h2]; exact jmpM_24 _
  rw [if_neg h2]
  by_cases h3 : bf (M 0 25) 0 7 = 103 ∧ bf (M 0 25) 12 3 = 0
  · rw [if_pos h3]; exact jmpM_24 _
  rw [if_neg h3]
  by_cases h4 : bf (M 0 25) 0 7 = 99
  · rw [if_pos h4]; exact brM_24 _
  rw [if_neg h4]
  by_cases h5 : bf (M 0 25) 0 7 = 3
  · rw [if_pos h5]; exact redM_24
  rw [if_neg h5]
  by_cases h6 : bf (M 0 25) 0 7 = 35
  · rw [if_pos h6]; exact wrtM_24
  rw [if_neg h6]
  by_cases h7 : bf (M 0 25) 0 7 = 19
  · rw [if_pos h7]; exact cmpM_24 _
  rw [if_neg h7]
  by_cases h8 : bf (M 0 25) 0 7 = 51
  · rw [if_pos h8]; exact cmpM_24 _
  rw [if_neg h8]
  by_cases h9 : bf (M 0 25) 0 7 = 115 ∧ M 0 25 = 115
  · rw [if_pos h9]; exact calM_24
  rw [if_neg h9]
  by_cases h10 : M 0 25 = 1048691
  · rw [if_pos h10]; exact endM_0 _ _ _ _ (by decide) (by decide)
  rw [if_neg h10]
  by_cases h11 : bf (M 0 25) 0 7 = 15 ∧ bf (M 0 25) 12 3 = 0
  · rw [if_pos h11]
  rw [if_neg h11]
  exact endM_0 _ _ _ _ (by decide) (by decide)
theorem insM_24 {M : Nat → Nat → Int32} {p m s fr : Nat} : insM M p m s fr 0 24 = M 0 24 := by
  unfold insM
  split
  · unfold fin
    split
    · rw [insX_24]; exact ins2_0 (by decide) (by decide) (by decide) (by decide)
    · rw [up2_ne2 _ _ _ _ (by decide), insX_24]; exact ins2_0 (by decide) (by decide) (by decide) (by decide)
  · rw [endM_0 _ _ _ _ (by decide) (by decide)]; exact ins1_0 (by decide) (by decide) (by decide)
/-- k pages of the program laid out -/
def btp (M : Nat → Nat → Int32) (n : Nat) : Nat → Nat → Nat → Int32
  | 0 => M
  | k + 1 => upr (groM (btp M n k) 1) 1 (16 * ff (btp M n k)) (min 16 (n - 16 * k)) (fun j => M 3 (16 * k + j))
theorem btp_ne (M : Nat → Nat → Int32) (n : Nat) {a : Nat} (i : Nat) (h1 : a ≠ 1) (h2 : a ≠ 2) (h8 : a ≠ 8) (h10 : a ≠ 10) : ∀ k, btp M n k a i = M a i
  | 0 => rfl
  | k + 1 => by rw [btp, upr_ne _ _ _ _ _ h1, groM_ne _ _ _ h1 h2 h8 h10, btp_ne M n i h1 h2 h8 h10 k]
theorem btp_spec {M : Nat → Nat → Int32} {n fr : Nat} (h8 : M 8 1 = 0) (hfr : fr ≤ 40) : ∀ {k : Nat}, k ≤ nfr M fr → btp M n k 8 1 = nI k ∧ nfr (btp M n k) fr = nfr M fr - k
  | 0, _ => ⟨h8, rfl⟩
  | k + 1, h => by
    obtain ⟨h1, h3⟩ := btp_spec (M := M) (n := n) h8 hfr (k := k) (by omega)
    have hle := nfr_le M fr
    have hff : ff (btp M n k) < fr := ff_lt (by omega)
    have h4 := nfr_gro (M := btp M n k) (p := 1) (by decide) (by decide) (n := fr) (by omega)
    rw [if_pos hff] at h4
    refine ⟨?_, ?_⟩
    · rw [btp, upr_ne _ _ _ _ _ (by decide)]
      exact groM_8 h1 (by omega)
    · rw [btp, nfr_2 (M := groM (btp M n k) 1) (fun j => upr_ne _ _ _ _ _ (by decide))]
      omega
def botM (M : Nat → Nat → Int32) (n nd : Nat) : Nat → Nat → Int32 := wakM (up2 (up2 (btp (up2 M 0 6 1) n nd) 9 34 (nI (64 * nd))) 11 7 0) 1 0

/-! ===== the reference's calls ===== -/
/-- the first free frame from k on, n places -/
def ffs (M : Nat → Nat → Int32) : Nat → Nat → Nat
  | 0, k => k
  | n + 1, k => if M 2 k = 0 then k else ffs M n (k + 1)
def ff (M : Nat → Nat → Int32) : Nat := ffs M 40 0
theorem ffs_spec (M : Nat → Nat → Int32) : ∀ n k, (∀ j, j < k → M 2 j ≠ 0) → (∀ j, j < ffs M n k → M 2 j ≠ 0) ∧ (ffs M n k < k + n → M 2 (ffs M n k) = 0) ∧ k ≤ ffs M n k ∧ ffs M n k ≤ k + n
  | 0, k, h => ⟨h, fun q => absurd q (by unfold ffs; omega), Nat.le_refl _, Nat.le_refl _⟩
  | n + 1, k, h => by
    unfold ffs
    by_cases h0 : M 2 k = 0
    · rw [if_pos h0]
      exact ⟨h, fun _ => h0, Nat.le_refl _, by omega⟩
    · rw [if_neg h0]
      obtain ⟨a, b, c, d⟩ := ffs_spec M n (k + 1) (fun j hj => by
        by_cases e : j = k
        · rw [e]; exact h0
        · exact h j (by omega))
      exact ⟨a, fun q => b (by omega), by omega, by omega⟩
theorem ff_min (M : Nat → Nat → Int32) : ∀ j, j < ff M → M 2 j ≠ 0 := (ffs_spec M 40 0 (fun j hj => absurd hj (by omega))).1
theorem ff_at {M : Nat → Nat → Int32} (h : ff M < 40) : M 2 (ff M) = 0 := (ffs_spec M 40 0 (fun j hj => absurd hj (by omega))).2.1 (show ffs M 40 0 < 0 + 40 by rw [Nat.zero_add]; exact h)
theorem ff_le {M : Nat → Nat → Int32} {f : Nat} (h : M 2 f = 0) : ff M ≤ f := Nat.le_of_not_lt (fun q => ff_min M f q h)
theorem nfr_pos {M : Nat → Nat → Int32} : ∀ {n : Nat}, 0 < nfr M n → ∃ f, f < n ∧ M 2 f = 0
  | 0, h => absurd h (Nat.lt_irrefl 0)
  | n + 1, h => by
    by_cases h0 : M 2 n = 0
    · exact ⟨n, by omega, h0⟩
    · rw [nfr, if_neg h0] at h
      obtain ⟨f, h1, h2⟩ := nfr_pos (n := n) (by omega)
      exact ⟨f, by omega, h2⟩
theorem ff_lt {M : Nat → Nat → Int32} {n : Nat} (h : 0 < nfr M n) : ff M < n := by
  obtain ⟨f, h1, h2⟩ := nfr_pos h
  have := ff_le h2
  omega
def groM (M : Nat → Nat → Int32) (p : Nat) : Nat → Nat → Int32 := growM M p (ff M) (nv (M 8 p))
def gro (M : Nat → Nat → Int32) (p : Nat) : Nat → Nat → Nat → Int32
  | 0 => M
  | k + 1 => groM (gro M p k) p
theorem groM_2 (M : Nat → Nat → Int32) (p j : Nat) : groM M p 2 j = if j = ff M then nI p else M 2 j := by
  simp [groM, growM, up2, upr]
theorem groM_8 {M : Nat → Nat → Int32} {p s : Nat} (hs : M 8 p = nI s) (h : s < 2 ^ 31) : groM M p 8 p = nI (s + 1) := by
  simp [groM, growM, up2, hs, nv_nI h]
theorem groM_8' (M : Nat → Nat → Int32) {p q : Nat} (h : q ≠ p) : groM M p 8 q = M 8 q := by
  simp [groM, growM, up2, upr, h]
theorem groM_ne (M : Nat → Nat → Int32) (p : Nat) {a : Nat} (j : Nat) (h1 : a ≠ 1) (h2 : a ≠ 2) (h8 : a ≠ 8) (h10 : a ≠ 10) : groM M p a j = M a j := by
  simp [groM, growM, up2, upr, h1, h2, h8, h10]
theorem nfr_congr {M M' : Nat → Nat → Int32} : ∀ {n : Nat}, (∀ j, j < n → (M' 2 j = 0 ↔ M 2 j = 0)) → nfr M' n = nfr M n
  | 0, _ => rfl
  | n + 1, h => by
    rw [nfr, nfr, nfr_congr (fun j hj => h j (by omega))]
    have := h n (by omega)
    by_cases h0 : M 2 n = 0
    · rw [if_pos h0, if_pos (this.mpr h0)]
    · rw [if_neg h0, if_neg (fun q => h0 (this.mp q))]
theorem nfr_gro {M : Nat → Nat → Int32} {p : Nat} (hp : 1 ≤ p) (hp8 : p ≤ 8) : ∀ {n : Nat}, ff M < 40 → nfr (groM M p) n + (if ff M < n then 1 else 0) = nfr M n
  | 0, _ => by simp [nfr]
  | n + 1, h => by
    have ih := nfr_gro hp hp8 (n := n) h
    have hz : nI p ≠ 0 := nI_ne0 (by omega) (by omega)
    rw [nfr, nfr, groM_2]
    by_cases hn : n = ff M
    · rw [if_pos hn, if_neg hz, if_pos (by omega), hn, if_pos (ff_at h)]
      rw [hn, if_neg (by omega)] at ih
      omega
    · rw [if_neg hn]
      by_cases h2 : ff M < n
      · rw [if_pos h2] at ih
        rw [if_pos (show ff M < n + 1 by omega)]
        omega
      · rw [if_neg h2] at ih
        rw [if_neg (show ¬ ff M < n + 1 by omega)]
        omega
theorem gro_spec {M : Nat → Nat → Int32} {p s fr : Nat} (hp : 1 ≤ p) (hp8 : p ≤ 8) (hs : M 8 p = nI s) (hs8 : s ≤ 8) (hfr : fr ≤ 40) : ∀ {k : Nat}, k ≤ nfr M fr → gro M p k 8 p = nI (s + k) ∧ nfr (gro M p k) fr = nfr M fr - k
  | 0, _ => ⟨hs, rfl⟩
  | k + 1, h => by
    obtain ⟨h1, h2⟩ := gro_spec hp hp8 hs hs8 hfr (k := k) (by omega)
    have hle := nfr_le M fr
    have hff : ff (gro M p k) < fr := ff_lt (by omega)
    have h3 := nfr_gro (M := gro M p k) hp hp8 (n := fr) (by omega)
    rw [if_pos hff] at h3
    exact ⟨groM_8 (s := s + k) h1 (by omega), by rw [gro]; omega⟩
theorem gro_ne (M : Nat → Nat → Int32) (p : Nat) {a : Nat} (j : Nat) (h1 : a ≠ 1) (h2 : a ≠ 2) (h8 : a ≠ 8) (h10 : a ≠ 10) : ∀ k, gro M p k a j = M a j
  | 0 => rfl
  | k + 1 => (groM_ne _ p j h1 h2 h8 h10).trans (gro_ne M p j h1 h2 h8 h10 k)
def clsM (M : Nat → Nat → Int32) (p d : Nat) : Nat → Nat → Int32 := tidy (up2 M 11 (6 * p + d) (-1))
def refM (M : Nat → Nat → Int32) (p : Nat) : Nat → Nat → Int32 := setM M p 10 (-1)
def sndC (M : Nat → Nat → Int32) (p sh : Nat) : Nat → Nat → Int32 := if sh < 200 then up2 (up2 (setM M p 10 (M 9 (32 * p + 11) &&& 255)) 15 sh (M 9 (32 * p + 11) &&& 255)) 0 22 (nI (sh + 1)) else refM M p
def sndP (M : Nat → Nat → Int32) (p k c : Nat) : Nat → Nat → Int32 := if hel M (nI (1 + 2 * k)) = true then (if c = 8 then blkM M p 3 else up2 (up2 (setM M p 10 (M 9 (32 * p + 11) &&& 255)) 13 (8 * k + c) (M 9 (32 * p + 11) &&& 255)) 14 k (nI (c + 1))) else refM M p
def takP (M : Nat → Nat → Int32) (p k c : Nat) : Nat → Nat → Int32 := if c = 0 then (if hel M (nI (2 + 2 * k)) = true then blkM M p 2 else refM M p) else up2 (upr (setM M p 10 (M 13 (8 * k))) 13 (8 * k) 7 (fun j => M 13 (8 * k + j + 1))) 14 k (nI (c - 1))

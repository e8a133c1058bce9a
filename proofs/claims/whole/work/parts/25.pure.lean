/-! ===== the reference's calls, second row ===== -/
def morb (a : Int32) (s n : Nat) : Bool := decide (1 ≤ a) && decide (a ≤ 8) && decide (s + nv a ≤ 8) && decide (nv a ≤ n)
/-- the first pipe of which no end is held, from k on, n places -/
def fps (M : Nat → Nat → Int32) : Nat → Nat → Nat
  | 0, k => k
  | n + 1, k => if hel M (nI (1 + 2 * k)) = false ∧ hel M (nI (2 + 2 * k)) = false then k else fps M n (k + 1)
theorem fps_le (M : Nat → Nat → Int32) : ∀ n k, k ≤ fps M n k ∧ fps M n k ≤ k + n
  | 0, k => ⟨Nat.le_refl _, Nat.le_refl _⟩
  | n + 1, k => by
    have := fps_le M n (k + 1)
    unfold fps
    split <;> omega
/-- the second free descriptor: the first, with the first one taken -/
def fd2 (M : Nat → Nat → Int32) (p : Nat) : Nat := fds (up2 M 11 (6 * p + fds M p 6 0) 99) p 6 0
def pipN (M : Nat → Nat → Int32) (p : Nat) : Nat → Nat → Int32 := up2 (up2 M 11 (6 * p + fds M p 6 0) 99) 11 (6 * p + fds M p 6 0) (-1)
def pipM (M : Nat → Nat → Int32) (p : Nat) : Nat → Nat → Int32 :=
  if fds M p 6 0 < 6 then (if fps M 4 0 < 4 ∧ fd2 M p < 6 then setM (setM (up2 (up2 (pipN M p) 11 (6 * p + fds M p 6 0) (nI (1 + 2 * fps M 4 0))) 11 (6 * p + fd2 M p) (nI (2 + 2 * fps M 4 0))) p 10 (nI (fds M p 6 0))) p 11 (nI (fd2 M p)) else refM (pipN M p) p) else refM M p
/-- the first process that is absent, from c on, n places -/
def fas (M : Nat → Nat → Int32) : Nat → Nat → Nat
  | 0, c => c
  | n + 1, c => if M 4 c ≤ 0 then c else fas M n (c + 1)
theorem fas_spec (M : Nat → Nat → Int32) : ∀ n c, c ≤ fas M n c ∧ fas M n c ≤ c + n ∧ (fas M n c < c + n → M 4 (fas M n c) ≤ 0)
  | 0, c => ⟨Nat.le_refl _, Nat.le_refl _, fun q => absurd q (by unfold fas; omega)⟩
  | n + 1, c => by
    obtain ⟨h1, h2, h3⟩ := fas_spec M n (c + 1)
    unfold fas
    by_cases h : M 4 c ≤ 0
    · rw [if_pos h]
      exact ⟨Nat.le_refl _, by omega, fun _ => h⟩
    · rw [if_neg h]
      exact ⟨by omega, by omega, fun q => h3 (by omega)⟩
/-- n words copied, one behind the other -/
def cpw (M : Nat → Nat → Int32) (src dst : Nat) : Nat → Nat → Nat → Int32
  | 0 => M
  | j + 1 => up2 (cpw M src dst j) 1 (dst + j) (cpw M src dst j 1 (src + j))
theorem cpw_ne (M : Nat → Nat → Int32) (src dst : Nat) {a : Nat} (i : Nat) (h : a ≠ 1) : ∀ j, cpw M src dst j a i = M a i
  | 0 => rfl
  | j + 1 => (up2_ne2 _ _ _ _ h).trans (cpw_ne M src dst i h j)
/-- k pages of p's copied to c -/
def fkp (M : Nat → Nat → Int32) (p c : Nat) : Nat → Nat → Nat → Int32
  | 0 => up2 M 8 c 0
  | k + 1 => cpw (groM (fkp M p c k) c) (16 * nv (M 10 (8 * p + k))) (16 * ff (fkp M p c k)) 16
theorem fkp_ne (M : Nat → Nat → Int32) (p c : Nat) {a : Nat} (i : Nat) (h1 : a ≠ 1) (h2 : a ≠ 2) (h8 : a ≠ 8) (h10 : a ≠ 10) : ∀ k, fkp M p c k a i = M a i
  | 0 => up2_ne2 _ _ _ _ h8
  | k + 1 => (cpw_ne _ _ _ i h1 16).trans ((groM_ne _ c i h1 h2 h8 h10).trans (fkp_ne M p c i h1 h2 h8 h10 k))
theorem nfr_2 {M M' : Nat → Nat → Int32} (h : ∀ j, M' 2 j = M 2 j) (n : Nat) : nfr M' n = nfr M n := nfr_congr (fun j _ => by rw [h j])
theorem fkp_spec {M : Nat → Nat → Int32} {p c fr : Nat} (hc : 1 ≤ c) (hc8 : c ≤ 8) (hpc : p ≠ c) (hfr : fr ≤ 40) : ∀ {k : Nat}, k ≤ nfr M fr → fkp M p c k 8 c = nI k ∧ fkp M p c k 8 p = M 8 p ∧ nfr (fkp M p c k) fr = nfr M fr - k
  | 0, _ => ⟨by simp [fkp, up2]; rfl, by simp [fkp, up2, hpc], by rw [nfr_2 (M := M) (fun j => by simp [fkp, up2])]; rfl⟩
  | k + 1, h => by
    obtain ⟨h1, h2, h3⟩ := fkp_spec (M := M) hc hc8 hpc hfr (k := k) (by omega)
    have hle := nfr_le M fr
    have hff : ff (fkp M p c k) < fr := ff_lt (by omega)
    have h4 := nfr_gro (M := fkp M p c k) hc hc8 (n := fr) (by omega)
    rw [if_pos hff] at h4
    refine ⟨?_, ?_, ?_⟩
    · rw [fkp, cpw_ne _ _ _ _ (by decide)]
      exact groM_8 h1 (by omega)
    · rw [fkp, cpw_ne _ _ _ _ (by decide), groM_8' _ hpc]
      exact h2
    · rw [fkp, nfr_2 (M := groM (fkp M p c k) c) (fun j => cpw_ne _ _ _ _ (by decide) 16)]
      omega
theorem upl10_gro (M : Nat → Nat → Int32) {p c k : Nat} {s : Nat} (hpc : p ≠ c) (hs : nv (M 8 c) = s) (hs8 : s < 8) (hk : k < 8) : groM M c 10 (8 * p + k) = M 10 (8 * p + k) := by
  simp only [groM, growM, up2, upr, hs]
  rw [if_neg (by omega), if_neg (by omega), if_neg (by omega), if_neg (by omega)]
theorem fkp_10 {M : Nat → Nat → Int32} {p c fr j : Nat} (hc : 1 ≤ c) (hc8 : c ≤ 8) (hpc : p ≠ c) (hfr : fr ≤ 40) (hj : j < 8) : ∀ {k : Nat}, k ≤ nfr M fr → k ≤ 8 → fkp M p c k 10 (8 * p + j) = M 10 (8 * p + j)
  | 0, _, _ => by simp [fkp, up2]
  | k + 1, h, h8 => by
    have e := (fkp_spec (M := M) hc hc8 hpc hfr (k := k) (by omega)).1
    rw [fkp, cpw_ne _ _ _ _ (by decide), upl10_gro (s := k) _ hpc (by rw [e]; exact nv_nI (by omega)) (by omega) hj]
    exact fkp_10 hc hc8 hpc hfr hj (by omega) (by omega)
def fk2 (M : Nat → Nat → Int32) (p c s : Nat) : Nat → Nat → Int32 := upr (upr (fkp M p c s) 9 (32 * c) 32 (fun k => M 9 (32 * p + k))) 11 (6 * c) 6 (fun d => M 11 (6 * p + d))
def fk3 (M : Nat → Nat → Int32) (p c s : Nat) : Nat → Nat → Int32 := up2 (up2 (up2 (up2 (fk2 M p c s) 9 (32 * c + 10) 0) 7 c (M 7 p + 4)) 6 c (nI p)) 5 c 0
def frkM (M : Nat → Nat → Int32) (p c s m : Nat) : Nat → Nat → Int32 := wakM (fk3 M p c s) c m
def frkb (M : Nat → Nat → Int32) (s fr : Nat) : Bool := decide (fas M 8 1 ≤ 8) && decide (s ≤ nfr M fr)

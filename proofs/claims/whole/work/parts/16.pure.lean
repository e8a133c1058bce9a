/-! ===== the reference's end of a process ===== -/
def setM (M : Nat → Nat → Int32) (p k : Nat) (v : Int32) : Nat → Nat → Int32 := up2 M 9 (32 * p + k) (if k = 0 then 0 else v)
def hldM (M : Nat → Nat → Int32) (p : Int32) (k : Nat) : Nat → Nat → Int32 := fun a j => if a = 2 ∧ j < k ∧ M 2 j = p then 0 else M a j
theorem hldM_zero (M : Nat → Nat → Int32) (p : Int32) : hldM M p 0 = M := by
  funext a j
  simp [hldM]
theorem hldM_at (M : Nat → Nat → Int32) (p : Int32) (k : Nat) : hldM M p k 2 k = M 2 k := by
  simp [hldM]
theorem hldM_t {M : Nat → Nat → Int32} {p : Int32} {k : Nat} (h : M 2 k = p) : up2 (hldM M p k) 2 k 0 = hldM M p (k + 1) := by
  funext a j
  simp only [up2, hldM]
  by_cases ha : a = 2
  · by_cases hj : j = k
    · subst hj
      rw [if_pos ⟨ha, rfl⟩, if_pos ⟨ha, by omega, h⟩]
    · rw [if_neg (fun q => hj q.2)]
      by_cases hc : j < k ∧ M 2 j = p
      · rw [if_pos ⟨ha, hc⟩, if_pos ⟨ha, by omega, hc.2⟩]
      · rw [if_neg (fun q => hc q.2), if_neg (fun q => hc ⟨by omega, q.2.2⟩)]
  · rw [if_neg (fun q => ha q.1), if_neg (fun q => ha q.1), if_neg (fun q => ha q.1)]
theorem hldM_f {M : Nat → Nat → Int32} {p : Int32} {k : Nat} (h : ¬ M 2 k = p) : up2 (hldM M p k) 2 k (M 2 k) = hldM M p (k + 1) := by
  funext a j
  simp only [up2, hldM]
  by_cases ha : a = 2
  · by_cases hj : j = k
    · subst hj
      rw [if_pos ⟨ha, rfl⟩, if_neg (fun q => h q.2.2), ha]
    · rw [if_neg (fun q => hj q.2)]
      by_cases hc : j < k ∧ M 2 j = p
      · rw [if_pos ⟨ha, hc⟩, if_pos ⟨ha, by omega, hc.2⟩]
      · rw [if_neg (fun q => hc q.2), if_neg (fun q => hc ⟨by omega, q.2.2⟩)]
  · rw [if_neg (fun q => ha q.1), if_neg (fun q => ha q.1), if_neg (fun q => ha q.1)]
/-- the children 1 .. k of p go to one -/
def rpa (M : Nat → Nat → Int32) (p one : Int32) : Nat → Nat → Nat → Int32
  | 0 => M
  | k + 1 => if 0 < rpa M p one k 4 (k + 1) ∧ rpa M p one k 6 (k + 1) = p then (if one = 0 ∧ rpa M p one k 4 (k + 1) = 5 then remv (up2 (rpa M p one k) 6 (k + 1) one) (k + 1) else up2 (rpa M p one k) 6 (k + 1) one) else rpa M p one k
def end5 (M : Nat → Nat → Int32) (p : Nat) (code : Int32) (m : Nat) : Nat → Nat → Int32 := unrw (tidy (upr (hldM (up2 (up2 (up2 M 4 p 5) 5 p code) 8 p 0) (nI p) 40) 11 (6 * p) 6 (fun _ => -1))) (nI p) m
def oneM (N : Nat → Nat → Int32) : Int32 := if N 4 1 = 5 then 0 else 1
def end6 (M : Nat → Nat → Int32) (p : Nat) (code : Int32) (m : Nat) : Nat → Nat → Int32 := rpa (end5 M p code m) (nI p) (oneM (end5 M p code m)) 8
def end7 (M : Nat → Nat → Int32) (p : Nat) (code : Int32) (m : Nat) : Nat → Nat → Int32 := if end6 M p code m 6 p = 0 ∧ p ≠ 1 then remv (end6 M p code m) p else end6 M p code m
def endM (M : Nat → Nat → Int32) (p : Nat) (code : Int32) (m : Nat) : Nat → Nat → Int32 := if nI p = end7 M p code m 0 24 then up2 (end7 M p code m) 0 27 0 else end7 M p code m
def jmpM (M : Nat → Nat → Int32) (p : Nat) (to : Int32) (m : Nat) : Nat → Nat → Int32 := if to - to / 4 * 4 = 0 then up2 (setM M p (bf (M 0 25) 7 5) (M 7 p + 4)) 0 26 to else endM M p (128 + 0) m
def rchM (M : Nat → Nat → Int32) (p : Nat) (a n code : Int32) (s m : Nat) : Nat → Nat → Int32 := if a - a / n * n = 0 then (if 0 ≤ a ∧ a < nI (64 * s) then M else endM M p (128 + (code + 1)) m) else endM M p (128 + code) m
theorem tidy_at (M : Nat → Nat → Int32) {a : Nat} (j : Nat) (h : a ≠ 14) : tidy M a j = M a j := by
  simp [tidy, tidk, h]
theorem upr_ne (M : Nat → Nat → Int32) {a a' : Nat} (lo n j : Nat) (f : Nat → Int32) (h : a' ≠ a) : upr M a lo n f a' j = M a' j := by
  simp [upr, h]
theorem up2_ne2 (M : Nat → Nat → Int32) {a a' : Nat} (j j' : Nat) (x : Int32) (h : a' ≠ a) : up2 M a j x a' j' = M a' j' := by
  simp [up2, h]
theorem hldM_ne (M : Nat → Nat → Int32) (p : Int32) (k : Nat) {a : Nat} (j : Nat) (h : a ≠ 2) : hldM M p k a j = M a j := by
  simp [hldM, h]
theorem remv_ne (M : Nat → Nat → Int32) (p : Nat) {a : Nat} (j : Nat) (h4 : a ≠ 4) (h5 : a ≠ 5) (h6 : a ≠ 6) (h7 : a ≠ 7) (h9 : a ≠ 9) : remv M p a j = M a j := by
  simp [remv, upr, up2, h4, h5, h6, h7, h9]
theorem rpa_ne (M : Nat → Nat → Int32) (p one : Int32) {a : Nat} (j : Nat) (h4 : a ≠ 4) (h5 : a ≠ 5) (h6 : a ≠ 6) (h7 : a ≠ 7) (h9 : a ≠ 9) : ∀ k, rpa M p one k a j = M a j
  | 0 => rfl
  | k + 1 => by
    have ih := rpa_ne M p one j h4 h5 h6 h7 h9 k
    unfold rpa
    split
    · split
      · rw [remv_ne _ _ _ h4 h5 h6 h7 h9, up2_ne2 _ _ _ _ h6, ih]
      · rw [up2_ne2 _ _ _ _ h6, ih]
    · exact ih
theorem unrw_0 (M : Nat → Nat → Int32) (q : Int32) (m : Nat) {j : Nat} (h : j ≠ 15) : unrw M q m 0 j = M 0 j := by
  simp [unrw, up2, upl, h]
theorem end5_0 (M : Nat → Nat → Int32) (p : Nat) (code : Int32) (m : Nat) {j : Nat} (h : j ≠ 15) : end5 M p code m 0 j = M 0 j := by
  rw [end5, unrw_0 _ _ _ h, tidy_at _ _ (by decide), upr_ne _ _ _ _ _ (by decide), hldM_ne _ _ _ _ (by decide), up2_ne2 _ _ _ _ (by decide), up2_ne2 _ _ _ _ (by decide), up2_ne2 _ _ _ _ (by decide)]
theorem end7_0 (M : Nat → Nat → Int32) (p : Nat) (code : Int32) (m : Nat) {j : Nat} (h : j ≠ 15) : end7 M p code m 0 j = M 0 j := by
  have e6 : end6 M p code m 0 j = M 0 j := (rpa_ne _ _ _ _ (by decide) (by decide) (by decide) (by decide) (by decide) 8).trans (end5_0 M p code m h)
  unfold end7
  split
  · rw [remv_ne _ _ _ (by decide) (by decide) (by decide) (by decide) (by decide), e6]
  · exact e6
theorem endM_0 (M : Nat → Nat → Int32) (p : Nat) (code : Int32) (m : Nat) {j : Nat} (h : j ≠ 15) (h27 : j ≠ 27) : endM M p code m 0 j = M 0 j := by
  unfold endM
  split
  · rw [show up2 (end7 M p code m) 0 27 0 0 j = end7 M p code m 0 j by simp [up2, h27], end7_0 _ _ _ _ h]
  · exact end7_0 _ _ _ _ h
theorem endM_27 {M : Nat → Nat → Int32} {p : Nat} (code : Int32) (m : Nat) (hp : M 0 24 = nI p) : endM M p code m 0 27 = 0 := by
  rw [endM, if_pos (by rw [end7_0 _ _ _ _ (by decide)]; exact hp.symm)]
  simp [up2]

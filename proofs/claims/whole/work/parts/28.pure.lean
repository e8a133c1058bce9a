/-! ===== the reference's call, mayGo, instruction ===== -/
def edr (x : Int32) : Prop := x = -1 ∨ ∃ e : Nat, e ≤ 8 ∧ x = nI e
def cts (M : Nat → Nat → Int32) : Prop := ∀ k, k < 4 → ∃ c, c ≤ 8 ∧ M 14 k = nI c
def dsc (M : Nat → Nat → Int32) (p : Nat) (x : Int32) : Int32 := if 0 ≤ x ∧ x < 6 then M 11 (6 * p + x.toNatClampNeg) else -1
def sndM (M : Nat → Nat → Int32) (p : Nat) (x : Int32) : Nat → Nat → Int32 := if x = 0 then sndC M p (nv (M 0 22)) else if x = 2 then sndP M p 0 (nv (M 14 0)) else if x = 4 then sndP M p 1 (nv (M 14 1)) else if x = 6 then sndP M p 2 (nv (M 14 2)) else if x = 8 then sndP M p 3 (nv (M 14 3)) else refM M p
def takM (M : Nat → Nat → Int32) (p : Nat) (x : Int32) : Nat → Nat → Int32 := if x = 1 then takP M p 0 (nv (M 14 0)) else if x = 3 then takP M p 1 (nv (M 14 1)) else if x = 5 then takP M p 2 (nv (M 14 2)) else if x = 7 then takP M p 3 (nv (M 14 3)) else refM M p
def CW (M : Nat → Nat → Int32) (p m s fr : Nat) : Prop := M 0 24 = nI p ∧ 1 ≤ p ∧ p ≤ 8 ∧ M 0 15 = nI m ∧ m ≤ 8 ∧ M 8 p = nI s ∧ s ≤ 8 ∧ pgs M p s ∧ M 0 0 = nI fr ∧ fr ≤ 40 ∧ 0 < M 4 p ∧ (∀ d, d < 6 → edr (M 11 (6 * p + d))) ∧ cts M ∧ ∃ sh, sh ≤ 200 ∧ M 0 22 = nI sh
theorem dsc_edr {M : Nat → Nat → Int32} {p : Nat} (h : ∀ d, d < 6 → edr (M 11 (6 * p + d))) (x : Int32) : edr (dsc M p x) := by
  unfold dsc
  split
  · rename_i hx
    rcases pk_ix x (n := 6) (by decide) with q | q | ⟨k, hk, rfl⟩
    · exact absurd q (Int32.not_lt.mpr hx.1)
    · exact absurd hx.2 (Int32.not_lt.mpr q)
    · rw [nI_clamp (by omega)]
      exact h k hk
  · exact Or.inl rfl
def frkA (M : Nat → Nat → Int32) (p m s fr : Nat) : Nat → Nat → Int32 := if frkb M s fr = true then frkM M p (fas M 8 1) s m else M
def frkx (M : Nat → Nat → Int32) (s fr : Nat) : Int32 := if frkb M s fr = true then nI (fas M 8 1) else -1
def morA (M : Nat → Nat → Int32) (p s fr : Nat) (a : Int32) : Nat → Nat → Int32 := if morb a s (nfr M fr) = true then gro M p (nv a) else M
def morx (M : Nat → Nat → Int32) (s fr : Nat) (a : Int32) : Int32 := if morb a s (nfr M fr) = true then nI (s + nv a) else -1
def cloA (M : Nat → Nat → Int32) (p : Nat) (a : Int32) : Nat → Nat → Int32 := if 0 ≤ a ∧ a < 6 ∧ 0 ≤ M 11 (6 * p + nv a) then clsM M p (nv a) else M
def clox (M : Nat → Nat → Int32) (p : Nat) (a : Int32) : Int32 := if 0 ≤ a ∧ a < 6 ∧ 0 ≤ M 11 (6 * p + nv a) then 0 else -1
def dupA (M : Nat → Nat → Int32) (p : Nat) (e : Int32) : Nat → Nat → Int32 := if 0 ≤ e ∧ fds M p 6 0 < 6 then up2 M 11 (6 * p + fds M p 6 0) e else M
def dupx (M : Nat → Nat → Int32) (p : Nat) (e : Int32) : Int32 := if 0 ≤ e ∧ fds M p 6 0 < 6 then nI (fds M p 6 0) else -1
def calM (M : Nat → Nat → Int32) (p m s fr : Nat) : Nat → Nat → Int32 :=
  if M 9 (32 * p + 17) = 0 then up2 M 0 19 1
  else if M 9 (32 * p + 17) = 1 then endM (up2 M 7 p (M 0 26)) p (M 9 (32 * p + 10)) m
  else if M 9 (32 * p + 17) = 2 then setM M p 10 (nI p)
  else if M 9 (32 * p + 17) = 3 then setM (frkA M p m s fr) p 10 (frkx M s fr)
  else if M 9 (32 * p + 17) = 4 then waiM M p
  else if M 9 (32 * p + 17) = 5 then setM (morA M p s fr (M 9 (32 * p + 10))) p 10 (morx M s fr (M 9 (32 * p + 10)))
  else if M 9 (32 * p + 17) = 6 then sndM M p (dsc M p (M 9 (32 * p + 10)))
  else if M 9 (32 * p + 17) = 7 then takM M p (dsc M p (M 9 (32 * p + 10)))
  else if M 9 (32 * p + 17) = 8 then pipM M p
  else if M 9 (32 * p + 17) = 9 then setM (cloA M p (M 9 (32 * p + 10))) p 10 (clox M p (M 9 (32 * p + 10)))
  else if M 9 (32 * p + 17) = 10 then setM (dupA M p (dsc M p (M 9 (32 * p + 10)))) p 10 (dupx M p (dsc M p (M 9 (32 * p + 10))))
  else if M 9 (32 * p + 17) = 11 then kilM M p (M 9 (32 * p + 10)) m
  else refM M p
section KEEP24
variable {M : Nat → Nat → Int32} {p m s fr : Nat}
theorem setM_0 (k : Nat) (v : Int32) (j : Nat) : setM M p k v 0 j = M 0 j := up2_ne2 _ _ _ _ (by decide)
theorem frkM_0 (c j : Nat) (h : j ≠ 15) : frkM M p c s m 0 j = M 0 j := by
  simp [frkM, wakM, fk3, up2, fk2, upr, h]
  exact fkp_ne M p c j (by decide) (by decide) (by decide) (by decide) s
theorem frkA_0 (j : Nat) (h : j ≠ 15) : frkA M p m s fr 0 j = M 0 j := by
  unfold frkA
  split
  · exact frkM_0 _ _ h
  · rfl
theorem morA_0 (a : Int32) (j : Nat) : morA M p s fr a 0 j = M 0 j := by
  unfold morA
  split
  · exact gro_ne M p j (by decide) (by decide) (by decide) (by decide) _
  · rfl
theorem cloA_0 (a : Int32) (j : Nat) : cloA M p a 0 j = M 0 j := by
  unfold cloA
  split
  · rw [clsM, tidy_at _ _ (by decide), up2_ne2 _ _ _ _ (by decide)]
  · rfl
theorem dupA_0 (e : Int32) (j : Nat) : dupA M p e 0 j = M 0 j := by
  unfold dupA
  split
  · exact up2_ne2 _ _ _ _ (by decide)
  · rfl
theorem blkM_24 (how : Int32) : blkM M p how 0 24 = M 0 24 := by simp [blkM, up2]
theorem refM_0 (j : Nat) : refM M p 0 j = M 0 j := setM_0 _ _ _
theorem waiM_24 : waiM M p 0 24 = M 0 24 := by
  unfold waiM
  split
  · exact blkM_24 _
  · split
    · rw [remv_ne _ _ _ (by decide) (by decide) (by decide) (by decide) (by decide), setM_0, setM_0]
    · exact setM_0 _ _ _
theorem sndP_24 (k c : Nat) : sndP M p k c 0 24 = M 0 24 := by
  unfold sndP
  split
  · split
    · exact blkM_24 _
    · simp [up2, setM]
  · exact refM_0 _
theorem sndM_24 (x : Int32) : sndM M p x 0 24 = M 0 24 := by
  unfold sndM
  repeat' split
  · unfold sndC
    split
    · simp [up2, setM]
    · exact refM_0 _
  all_goals first | exact sndP_24 _ _ | exact refM_0 _
theorem takP_24 (k c : Nat) : takP M p k c 0 24 = M 0 24 := by
  unfold takP
  split
  · split
    · exact blkM_24 _
    · exact refM_0 _
  · simp [up2, upr, setM]
theorem takM_24 (x : Int32) : takM M p x 0 24 = M 0 24 := by
  unfold takM
  repeat' split
  all_goals first | exact takP_24 _ _ | exact refM_0 _
theorem pipM_24 : pipM M p 0 24 = M 0 24 := by
  unfold pipM
  repeat' split
  · simp [setM, up2, pipN]
  · rw [refM_0]; simp [up2, pipN]
  · exact refM_0 _
theorem kilM_24 (a : Int32) : kilM M p a m 0 24 = M 0 24 := by
  unfold kilM
  split
  · rw [endM_0 _ _ _ _ (by decide) (by decide)]
    split
    · simp [up2, setM]
    · exact setM_0 _ _ _
  · exact refM_0 _
theorem calM_24 : calM M p m s fr 0 24 = M 0 24 := by
  unfold calM
  by_cases h0 : M 9 (32 * p + 17) = 0
  · rw [if_pos h0]
    exact (by simp [up2])
  rw [if_neg h0]
  by_cases h1 : M 9 (32 * p + 17) = 1
  · rw [if_pos h1]
    rw [endM_0 _ _ _ _ (by decide) (by decide), up2_ne2 _ _ _ _ (by decide)]
  rw [if_neg h1]
  by_cases h2 : M 9 (32 * p + 17) = 2
  · rw [if_pos h2]
    exact setM_0 _ _ _
  rw [if_neg h2]
  by_cases h3 : M 9 (32 * p + 17) = 3
  · rw [if_pos h3]
    rw [setM_0, frkA_0 _ (by decide)]
  rw [if_neg h3]
  by_cases h4 : M 9 (32 * p + 17) = 4
  · rw [if_pos h4]
    exact waiM_24
  rw [if_neg h4]
  by_cases h5 : M 9 (32 * p + 17) = 5
  · rw [if_pos h5]
    rw [setM_0, morA_0]
  rw [if_neg h5]
  by_cases h6 : M 9 (32 * p + 17) = 6
  · rw [if_pos h6]
    exact sndM_24 _
  rw [if_neg h6]
  by_cases h7 : M 9 (32 * p + 17) = 7
  · rw [if_pos h7]
    exact takM_24 _
  rw [if_neg h7]
  by_cases h8 : M 9 (32 * p + 17) = 8
  · rw [if_pos h8]
    exact pipM_24
  rw [if_neg h8]
  by_cases h9 : M 9 (32 * p + 17) = 9
  · rw [if_pos h9]
    rw [setM_0, cloA_0]
  rw [if_neg h9]
  by_cases h10 : M 9 (32 * p + 17) = 10
  · rw [if_pos h10]
    rw [setM_0, dupA_0]
  rw [if_neg h10]
  by_cases h11 : M 9 (32 * p + 17) = 11
  · rw [if_pos h11]
    exact kilM_24 _
  rw [if_neg h11]
  exact refM_0 _
end KEEP24
/-- may a process that sleeps go on -/
def mgb (M : Nat → Nat → Int32) (p : Nat) : Bool :=
  if M 4 p = 2 then decide (0 < M 14 (nv (dsc M p (M 9 (32 * p + 10))) / 2)) || !hel M (dsc M p (M 9 (32 * p + 10)) + 1)
  else if M 4 p = 3 then decide (M 14 ((nv (dsc M p (M 9 (32 * p + 10))) - 1) / 2) < 8) || !hel M (dsc M p (M 9 (32 * p + 10)) - 1)
  else decide (M 4 p = 4) && !decide (lcf M (nI p) 8 = 0)

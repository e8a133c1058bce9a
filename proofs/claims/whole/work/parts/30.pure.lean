/-! ===== the reference's instruction and step ===== -/
def ins1 (M : Nat → Nat → Int32) (p : Nat) : Nat → Nat → Int32 := up2 (up2 (up2 M 0 27 1) 0 19 0) 0 26 (M 7 p + 4)
def ins2 (M : Nat → Nat → Int32) (p a : Nat) : Nat → Nat → Int32 := up2 (ins1 M p) 0 25 (M 1 (cel M p a))
def jim (w : Int32) : Int32 := ((((w >>> (31 &&& 31)) <<< (20 &&& 31)) ||| (nI (bf w 12 8) <<< (12 &&& 31))) ||| (nI (bf w 20 1) <<< (11 &&& 31))) ||| (nI (bf w 21 10) <<< (1 &&& 31))
def insX (N : Nat → Nat → Int32) (p m s fr : Nat) (pc : Int32) : Nat → Nat → Int32 :=
  if bf (N 0 25) 0 7 = 55 then setM N p (bf (N 0 25) 7 5) (N 0 25 &&& -4096)
  else if bf (N 0 25) 0 7 = 23 then setM N p (bf (N 0 25) 7 5) (pc + (N 0 25 &&& -4096))
  else if bf (N 0 25) 0 7 = 111 then jmpM N p (pc + jim (N 0 25)) m
  else if bf (N 0 25) 0 7 = 103 ∧ bf (N 0 25) 12 3 = 0 then jmpM N p ((N 9 (32 * p + bf (N 0 25) 15 5) + (N 0 25 >>> (20 &&& 31))) &&& -2) m
  else if bf (N 0 25) 0 7 = 99 then brM N p m pc
  else if bf (N 0 25) 0 7 = 3 then redM N p s m
  else if bf (N 0 25) 0 7 = 35 then wrtM N p s m
  else if bf (N 0 25) 0 7 = 19 then cmpM N p m false
  else if bf (N 0 25) 0 7 = 51 then cmpM N p m true
  else if bf (N 0 25) 0 7 = 115 ∧ N 0 25 = 115 then calM N p m s fr
  else if N 0 25 = 1048691 then endM N p (128 + 3) m
  else if bf (N 0 25) 0 7 = 15 ∧ bf (N 0 25) 12 3 = 0 then N
  else endM N p (128 + 2) m
def fin (N : Nat → Nat → Int32) (p : Nat) : Nat → Nat → Int32 := if N 0 27 = 0 then N else up2 N 7 p (N 0 26)
def insM (M : Nat → Nat → Int32) (p m s fr : Nat) : Nat → Nat → Int32 := if 0 ≤ M 7 p ∧ M 7 p < nI (64 * s) then fin (insX (ins2 M p (nv (M 7 p))) p m s fr (M 7 p)) p else endM (ins1 M p) p (128 + 1) m
section KEEP
variable {M : Nat → Nat → Int32} {p m s fr : Nat}
theorem jmpM_24 (to : Int32) : jmpM M p to m 0 24 = M 0 24 := by
  unfold jmpM
  split
  · simp [up2, setM]
  · exact endM_0 _ _ _ _ (by decide) (by decide)
theorem rchM_24 (a n code : Int32) : rchM M p a n code s m 0 24 = M 0 24 := by
  unfold rchM
  repeat' split
  · rfl
  · exact endM_0 _ _ _ _ (by decide) (by decide)
  · exact endM_0 _ _ _ _ (by decide) (by decide)
theorem redM_24 : redM M p s m 0 24 = M 0 24 := by
  unfold redM redF
  split
  · exact endM_0 _ _ _ _ (by decide) (by decide)
  · split
    · exact setM_0 _ _ _
    · exact rchM_24 _ _ _
theorem pbs_0 (a : Nat) (v : Int32) (j : Nat) : ∀ n, pbs M p a v n 0 j = M 0 j
  | 0 => rfl
  | n + 1 => by rw [pbs, pbM, up2_ne2 _ _ _ _ (by decide), pbs_0 a v j n]
theorem wrtM_24 : wrtM M p s m 0 24 = M 0 24 := by
  unfold wrtM wrtF
  split
  · exact endM_0 _ _ _ _ (by decide) (by decide)
  · split
    · exact pbs_0 _ _ _ _
    · exact rchM_24 _ _ _
theorem cmpM_24 (two : Bool) : cmpM M p m two 0 24 = M 0 24 := by
  unfold cmpM cmpF
  split
  · exact endM_0 _ _ _ _ (by decide) (by decide)
  · exact setM_0 _ _ _
theorem brM_24 (pc : Int32) : brM M p m pc 0 24 = M 0 24 := by
  unfold brM brF
  split
  · exact endM_0 _ _ _ _ (by decide) (by decide)
  · split
    · split
      · simp [up2]
      · exact endM_0 _ _ _ _ (by decide) (by decide)
    · rfl
theorem ins1_ne {a : Nat} (j : Nat) (h : a ≠ 0) : ins1 M p a j = M a j := by simp [ins1, up2, h]
theorem ins2_ne {a b : Nat} (j : Nat) (h : a ≠ 0) : ins2 M p b a j = M a j := by simp [ins2, ins1, up2, h]
theorem ins1_0 {j : Nat} (h1 : j ≠ 27) (h2 : j ≠ 19) (h3 : j ≠ 26) : ins1 M p 0 j = M 0 j := by simp [ins1, up2, h1, h2, h3]
theorem ins2_0 {b j : Nat} (h1 : j ≠ 27) (h2 : j ≠ 19) (h3 : j ≠ 26) (h4 : j ≠ 25) : ins2 M p b 0 j = M 0 j := by simp [ins2, ins1, up2, h1, h2, h3, h4]
theorem CW.ins {a : Nat} (h : CW M p m s fr) : CW (ins2 M p a) p m s fr := by
  obtain ⟨hp, hp1, hp8, hm, hm8, hs, hs8, hpg, hf, hfr, h4, hed, hct, sh, hsh, hsh2⟩ := h
  refine ⟨(ins2_0 (by decide) (by decide) (by decide) (by decide)).trans hp, hp1, hp8, (ins2_0 (by decide) (by decide) (by decide) (by decide)).trans hm, hm8, (ins2_ne _ (by decide)).trans hs, hs8, ?_, (ins2_0 (by decide) (by decide) (by decide) (by decide)).trans hf, hfr, by rw [ins2_ne _ (by decide)]; exact h4, fun d hd => by rw [ins2_ne _ (by decide)]; exact hed d hd, fun k hk => by rw [ins2_ne _ (by decide)]; exact hct k hk, sh, hsh, (ins2_0 (by decide) (by decide) (by decide) (by decide)).trans hsh2⟩
  intro k hk
  obtain ⟨f, h1, h2⟩ := hpg k hk
  exact ⟨f, h1, (ins2_ne _ (by decide)).trans h2⟩
end KEEP

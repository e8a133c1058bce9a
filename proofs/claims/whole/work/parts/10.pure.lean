theorem sh_ok : ∀ a, a < 32 → ((nI a &&& 31).toBitVec.smod 32).toNat = a := by decide
theorem mk_ok : ∀ k, k < 32 → (((1 : Int32) <<< (nI k &&& 31)) - 1).toBitVec.toNat = 2 ^ k - 1 := by decide
theorem bits_eq (w : Int32) {a k : Nat} (ha : a < 32) (hk : k < 32) (hak : a + k ≤ 32) : (w >>> (nI a &&& 31)) &&& (((1 : Int32) <<< (nI k &&& 31)) - 1) = nI (bf w a k) := bf_s w a k (sh_ok a ha) (mk_ok k hk) hak
def b2i (b : Bool) : Int32 := if b = true then 1 else 0
theorem b2i_01 (b : Bool) : b2i b = 0 ∨ b2i b = 1 := by cases b <;> simp [b2i]
theorem b2i_t : b2i true = 1 := rfl
theorem b2i_f : b2i false = 0 := rfl
theorem any_succ (n : Nat) (f : Nat → Bool) : (List.range (n + 1)).any f = ((List.range n).any f || f n) := by
  rw [List.range_succ, List.any_append]
  simp
/-- the walk with its locals written out -/
theorem Mt.of' {G : iG} {m : iM} {d ac az : Nat} {As : List iV} {h : iH} {Q : Option iV → iH → Prop} {Ls : List (Option iV)} (hpl : plainName m.1.cls = true) (hct : ∀ v ∈ As, ct v = 1) (hlen : As.length ≤ m.2.2.1)
    (hLs : As.map some ++ List.replicate (m.2.2.1 - As.length) none = Ls) (k : Ev G m d ac az 0 Ls [] h Q) : Mt G m d ac az As h Q := Mt.of hpl hct hlen (by rw [hLs]; exact k)
theorem E_tp {G : iG} {m : iM} {d ac az pc : Nat} {Ls : List (Option iV)} {st : List iV} {h : iH} {Q : Option iV → iH → Prop} {x y : Int32} (hx : x = y) (k : Ev G m d ac az pc Ls (vI y :: st) h Q) : Ev G m d ac az pc Ls (vI x :: st) h Q := by
  subst hx
  exact k

/-! ===== what the reference's methods do to its cells M ===== -/
def hel (M : Nat → Nat → Int32) (e : Int32) : Bool := (List.range 48).any (fun j => M 11 (6 + j) == e)
def nfr (M : Nat → Nat → Int32) : Nat → Nat
  | 0 => 0
  | n + 1 => nfr M n + (if M 2 n = 0 then 1 else 0)
theorem nfr_le (M : Nat → Nat → Int32) : ∀ n, nfr M n ≤ n
  | 0 => Nat.le_refl 0
  | n + 1 => by
    have := nfr_le M n
    unfold nfr
    split <;> omega
/-- the first free descriptor of p from k on, n places -/
def fds (M : Nat → Nat → Int32) (p : Nat) : Nat → Nat → Nat
  | 0, k => k
  | n + 1, k => if M 11 (6 * p + k) < 0 then k else fds M p n (k + 1)
theorem fds_le (M : Nat → Nat → Int32) (p : Nat) : ∀ n k, k ≤ fds M p n k ∧ fds M p n k ≤ k + n
  | 0, k => ⟨Nat.le_refl _, Nat.le_refl _⟩
  | n + 1, k => by
    have := fds_le M p n (k + 1)
    unfold fds
    split <;> omega
def fdr (M : Nat → Nat → Int32) (p : Nat) : Int32 := if fds M p 6 0 < 6 then nI (fds M p 6 0) else -1
/-- M with the head of row a put to the list l -/
def upl (M : Nat → Nat → Int32) (a : Nat) (l : List Int32) : Nat → Nat → Int32 := fun a' j => if a' = a then l.getD j (M a' j) else M a' j
theorem upl_nil (M : Nat → Nat → Int32) (a : Nat) : upl M a [] = M := by
  funext a' j
  simp [upl]
theorem upl_app (M : Nat → Nat → Int32) (a : Nat) (l : List Int32) (v : Int32) : up2 (upl M a l) a l.length v = upl M a (l ++ [v]) := by
  funext a' j
  by_cases ha : a' = a
  · subst ha
    by_cases hj : j = l.length
    · subst hj
      simp [up2, upl]
    · by_cases hl : j < l.length
      · simp [up2, upl, hj, List.getD_eq_getElem?_getD, List.getElem?_append_left hl]
      · have h2 : l.length + 1 ≤ j := by omega
        have e1 : l[j]? = none := List.getElem?_eq_none (by omega)
        have e2 : (l ++ [v])[j]? = none := List.getElem?_eq_none (by simp; omega)
        simp [up2, upl, hj, List.getD_eq_getElem?_getD, e1, e2]
  · simp [up2, upl, ha]
theorem upl_out (M : Nat → Nat → Int32) (a : Nat) (l : List Int32) {j : Nat} (hj : l.length ≤ j) : upl M a l a j = M a j := by
  simp [upl, List.getD_eq_getElem?_getD, List.getElem?_eq_none hj]
theorem upl_ne (M : Nat → Nat → Int32) {a a' : Nat} (l : List Int32) (j : Nat) (h : a' ≠ a) : upl M a l a' j = M a' j := by
  simp [upl, h]
/-- the first k places of row a but those that are q -/
def flt (M : Nat → Nat → Int32) (a : Nat) (q : Int32) (k : Nat) : List Int32 := ((List.range k).map (M a)).filter (fun v => v != q)
theorem flt_succ (M : Nat → Nat → Int32) (a : Nat) (q : Int32) (k : Nat) : flt M a q (k + 1) = flt M a q k ++ (if M a k = q then [] else [M a k]) := by
  unfold flt
  rw [List.range_succ, List.map_append, List.filter_append]
  congr 1
  by_cases h : M a k = q <;> simp [h]
theorem flt_len (M : Nat → Nat → Int32) (a : Nat) (q : Int32) (k : Nat) : (flt M a q k).length ≤ k := by
  unfold flt
  exact Nat.le_trans (List.length_filter_le _ _) (by simp)
theorem upr_zero (C : Nat → Nat → Int32) (a lo : Nat) (f : Nat → Int32) : upr C a lo 0 f = C := by
  funext a' j
  simp only [upr]
  rw [if_neg (by omega)]
theorem upr_succ (C : Nat → Nat → Int32) (a lo n : Nat) (f : Nat → Int32) : up2 (upr C a lo n f) a (lo + n) (f n) = upr C a lo (n + 1) f := by
  funext a' j
  simp only [upr, up2]
  by_cases ha : a' = a
  · by_cases hj : j = lo + n
    · subst hj
      rw [if_pos ⟨ha, rfl⟩, if_pos ⟨ha, by omega, by omega⟩, Nat.add_sub_cancel_left]
    · rw [if_neg (fun q => hj q.2)]
      by_cases h2 : lo ≤ j ∧ j < lo + n
      · rw [if_pos ⟨ha, h2⟩, if_pos ⟨ha, h2.1, by omega⟩]
      · rw [if_neg (fun q => h2 q.2), if_neg (fun q => h2 ⟨q.2.1, by omega⟩)]
  · rw [if_neg (fun q => ha q.1), if_neg (fun q => ha q.1), if_neg (fun q => ha q.1)]
def remv (M : Nat → Nat → Int32) (p : Nat) : Nat → Nat → Int32 := upr (up2 (up2 (up2 (up2 M 4 p 0) 5 p 0) 6 p 0) 7 p 0) 9 (32 * p) 32 (fun _ => 0)
def unrw (M : Nat → Nat → Int32) (p : Int32) (m : Nat) : Nat → Nat → Int32 := up2 (upl M 12 (flt M 12 p m)) 0 15 (nI (flt M 12 p m).length)
def wakM (M : Nat → Nat → Int32) (p m : Nat) : Nat → Nat → Int32 := up2 (up2 (up2 M 4 p 1) 12 m (nI p)) 0 15 (nI (m + 1))
/-- pipes 0 .. k - 1 of which no end is held are emptied -/
def tidk (M : Nat → Nat → Int32) (k : Nat) : Nat → Nat → Int32 := fun a j => if a = 14 ∧ j < k ∧ hel M (nI (1 + 2 * j)) = false ∧ hel M (nI (2 + 2 * j)) = false then 0 else M a j
def tidy (M : Nat → Nat → Int32) : Nat → Nat → Int32 := tidk M 4
theorem tidk_zero (M : Nat → Nat → Int32) : tidk M 0 = M := by
  funext a j
  simp [tidk]
theorem hel_congr {M M' : Nat → Nat → Int32} (h : ∀ j, j < 48 → M' 11 (6 + j) = M 11 (6 + j)) (e : Int32) : hel M' e = hel M e := by
  unfold hel
  rw [Bool.eq_iff_iff, List.any_eq_true, List.any_eq_true]
  constructor
  · rintro ⟨j, hj, he⟩
    exact ⟨j, hj, by rw [← h j (List.mem_range.mp hj)]; exact he⟩
  · rintro ⟨j, hj, he⟩
    exact ⟨j, hj, by rw [h j (List.mem_range.mp hj)]; exact he⟩
theorem hel_tidk (M : Nat → Nat → Int32) (k : Nat) (e : Int32) : hel (tidk M k) e = hel M e := hel_congr (fun j _ => by simp [tidk]) e
theorem tidk_succ_f (M : Nat → Nat → Int32) (k : Nat) (h1 : hel M (nI (1 + 2 * k)) = false) (h2 : hel M (nI (2 + 2 * k)) = false) : up2 (tidk M k) 14 k 0 = tidk M (k + 1) := by
  funext a j
  simp only [up2, tidk]
  by_cases ha : a = 14
  · by_cases hj : j = k
    · subst hj
      rw [if_pos ⟨ha, rfl⟩, if_pos ⟨ha, by omega, h1, h2⟩]
    · rw [if_neg (fun q => hj q.2)]
      by_cases h : j < k ∧ hel M (nI (1 + 2 * j)) = false ∧ hel M (nI (2 + 2 * j)) = false
      · rw [if_pos ⟨ha, h⟩, if_pos ⟨ha, by omega, h.2⟩]
      · rw [if_neg (fun q => h q.2), if_neg (fun q => h ⟨by omega, q.2.2⟩)]
  · rw [if_neg (fun q => ha q.1), if_neg (fun q => ha q.1), if_neg (fun q => ha q.1)]
theorem tidk_succ_t (M : Nat → Nat → Int32) (k : Nat) (h : ¬ (hel M (nI (1 + 2 * k)) = false ∧ hel M (nI (2 + 2 * k)) = false)) : tidk M k = tidk M (k + 1) := by
  funext a j
  simp only [tidk]
  by_cases hj : j = k
  · subst hj
    rw [if_neg (by omega), if_neg (fun q => h q.2.2)]
  · by_cases hc : a = 14 ∧ j < k ∧ hel M (nI (1 + 2 * j)) = false ∧ hel M (nI (2 + 2 * j)) = false
    · rw [if_pos hc, if_pos ⟨hc.1, by omega, hc.2.2⟩]
    · rw [if_neg hc, if_neg (fun q => hc ⟨q.1, by omega, q.2.2⟩)]
/-- the reference's lostChild, from 8 down: k processes seen -/
def lcf (M : Nat → Nat → Int32) (p : Int32) : Nat → Int32
  | 0 => -1
  | k + 1 => if (0 < M 4 (8 - k) ∧ M 6 (8 - k) = p) ∧ M 4 (8 - k) = 5 then nI (8 - k) else if (0 < M 4 (8 - k) ∧ M 6 (8 - k) = p) ∧ lcf M p k < 0 then 0 else lcf M p k

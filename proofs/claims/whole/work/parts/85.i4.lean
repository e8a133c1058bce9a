/-! ===== the layout out of what the constructors made ===== -/
theorem arrV_c {c : ClassId} {N : Nat} {f g : Nat → Value} (h : ∀ j, j < N → f j = g j) : arrV c N f = arrV c N g := by
  unfold arrV
  have e : (fun j : Fin N => f j.val) = fun j : Fin N => g j.val := by
    funext j
    exact h j.val j.isLt
  rw [e]
theorem obj_c {G : iG} {l l' : List (Nat × Nat)} {σ : Nat → Nat → Int32} {ρ ρ' : Nat → Nat → Option Nat} {k ci N : Nat} (h : ∀ j, j < N → rf ci j = false ∨ ρ' k j = ρ k j) : (List.range N).map (fun j => fv G (l, σ, ρ) k ci j) = (List.range N).map (fun j => fv G (l', σ, ρ') k ci j) := by
  apply List.map_congr_left
  intro j hj
  show (if rf ci j = true then va_rf (iw_b G (ρ k j)) else Value.int (σ k j)) = (if rf ci j = true then va_rf (iw_b G (ρ' k j)) else Value.int (σ k j))
  rcases h j (List.mem_range.mp hj) with q | q
  · rw [if_neg (by rw [q]; decide), if_neg (by rw [q]; decide)]
  · rw [q]
theorem rr_0 : ∀ j, j < 13 → rf 0 j = false ∨ RH 0 j = RI 8 4 7 24 0 j
  | 0, _ => Or.inr rfl
  | 1, _ => Or.inr rfl
  | 2, _ => Or.inr rfl
  | 3, _ => Or.inr rfl
  | 4, _ => Or.inl rfl
  | 5, _ => Or.inr rfl
  | 6, _ => Or.inr rfl
  | 7, _ => Or.inl rfl
  | 8, _ => Or.inl rfl
  | 9, _ => Or.inl rfl
  | 10, _ => Or.inl rfl
  | 11, _ => Or.inl rfl
  | 12, _ => Or.inl rfl
  | j + 13, h => absurd h (by omega)
theorem rr_1 : ∀ j, j < 3 → rf 1 j = false ∨ RH 1 j = RI 8 4 7 24 1 j
  | 0, _ => Or.inr rfl
  | 1, _ => Or.inr rfl
  | 2, _ => Or.inl rfl
  | j + 3, h => absurd h (by omega)
theorem rr_4 : ∀ j, j < 8 → RH 4 j = RI 8 4 7 24 4 j
  | 0, _ => rfl
  | 1, _ => rfl
  | 2, _ => rfl
  | 3, _ => rfl
  | 4, _ => rfl
  | 5, _ => rfl
  | 6, _ => rfl
  | 7, _ => rfl
  | j + 8, h => absurd h (by omega)
theorem rr_5 : ∀ j, j < 9 → rf 2 j = false ∨ RH 5 j = RI 8 4 7 24 5 j
  | 0, _ => Or.inl rfl
  | 1, _ => Or.inr rfl
  | 2, _ => Or.inr rfl
  | 3, _ => Or.inr rfl
  | 4, _ => Or.inl rfl
  | 5, _ => Or.inl rfl
  | 6, _ => Or.inl rfl
  | 7, _ => Or.inl rfl
  | 8, _ => Or.inl rfl
  | j + 9, h => absurd h (by omega)
theorem rr_9 : ∀ j, j < 9 → rf 2 j = false ∨ RH 9 j = RI 8 4 7 24 9 j
  | 0, _ => Or.inl rfl
  | 1, _ => Or.inr rfl
  | 2, _ => Or.inr rfl
  | 3, _ => Or.inr rfl
  | 4, _ => Or.inl rfl
  | 5, _ => Or.inl rfl
  | 6, _ => Or.inl rfl
  | 7, _ => Or.inl rfl
  | 8, _ => Or.inl rfl
  | j + 9, h => absurd h (by omega)
theorem rr_13 : ∀ j, j < 9 → rf 2 j = false ∨ RH 13 j = RI 8 4 7 24 13 j
  | 0, _ => Or.inl rfl
  | 1, _ => Or.inr rfl
  | 2, _ => Or.inr rfl
  | 3, _ => Or.inr rfl
  | 4, _ => Or.inl rfl
  | 5, _ => Or.inl rfl
  | 6, _ => Or.inl rfl
  | 7, _ => Or.inl rfl
  | 8, _ => Or.inl rfl
  | j + 9, h => absurd h (by omega)
theorem rr_17 : ∀ j, j < 9 → rf 2 j = false ∨ RH 17 j = RI 8 4 7 24 17 j
  | 0, _ => Or.inl rfl
  | 1, _ => Or.inr rfl
  | 2, _ => Or.inr rfl
  | 3, _ => Or.inr rfl
  | 4, _ => Or.inl rfl
  | 5, _ => Or.inl rfl
  | 6, _ => Or.inl rfl
  | 7, _ => Or.inl rfl
  | 8, _ => Or.inl rfl
  | j + 9, h => absurd h (by omega)
theorem rr_21 : ∀ j, j < 9 → rf 2 j = false ∨ RH 21 j = RI 8 4 7 24 21 j
  | 0, _ => Or.inl rfl
  | 1, _ => Or.inr rfl
  | 2, _ => Or.inr rfl
  | 3, _ => Or.inr rfl
  | 4, _ => Or.inl rfl
  | 5, _ => Or.inl rfl
  | 6, _ => Or.inl rfl
  | 7, _ => Or.inl rfl
  | 8, _ => Or.inl rfl
  | j + 9, h => absurd h (by omega)
theorem rr_25 : ∀ j, j < 9 → rf 2 j = false ∨ RH 25 j = RI 8 4 7 24 25 j
  | 0, _ => Or.inl rfl
  | 1, _ => Or.inr rfl
  | 2, _ => Or.inr rfl
  | 3, _ => Or.inr rfl
  | 4, _ => Or.inl rfl
  | 5, _ => Or.inl rfl
  | 6, _ => Or.inl rfl
  | 7, _ => Or.inl rfl
  | 8, _ => Or.inl rfl
  | j + 9, h => absurd h (by omega)
theorem rr_29 : ∀ j, j < 9 → rf 2 j = false ∨ RH 29 j = RI 8 4 7 24 29 j
  | 0, _ => Or.inl rfl
  | 1, _ => Or.inr rfl
  | 2, _ => Or.inr rfl
  | 3, _ => Or.inr rfl
  | 4, _ => Or.inl rfl
  | 5, _ => Or.inl rfl
  | 6, _ => Or.inl rfl
  | 7, _ => Or.inl rfl
  | 8, _ => Or.inl rfl
  | j + 9, h => absurd h (by omega)
theorem rr_33 : ∀ j, j < 9 → rf 2 j = false ∨ RH 33 j = RI 8 4 7 24 33 j
  | 0, _ => Or.inl rfl
  | 1, _ => Or.inr rfl
  | 2, _ => Or.inr rfl
  | 3, _ => Or.inr rfl
  | 4, _ => Or.inl rfl
  | 5, _ => Or.inl rfl
  | 6, _ => Or.inl rfl
  | 7, _ => Or.inl rfl
  | 8, _ => Or.inl rfl
  | j + 9, h => absurd h (by omega)
theorem rr_37 : ∀ j, j < 4 → RH 37 j = RI 8 4 7 24 37 j
  | 0, _ => rfl
  | 1, _ => rfl
  | 2, _ => rfl
  | 3, _ => rfl
  | j + 4, h => absurd h (by omega)
theorem rr_38 : ∀ j, j < 3 → rf 3 j = false ∨ RH 38 j = RI 8 4 7 24 38 j
  | 0, _ => Or.inr rfl
  | 1, _ => Or.inl rfl
  | 2, _ => Or.inl rfl
  | j + 3, h => absurd h (by omega)
theorem rr_40 : ∀ j, j < 3 → rf 3 j = false ∨ RH 40 j = RI 8 4 7 24 40 j
  | 0, _ => Or.inr rfl
  | 1, _ => Or.inl rfl
  | 2, _ => Or.inl rfl
  | j + 3, h => absurd h (by omega)
theorem rr_42 : ∀ j, j < 3 → rf 3 j = false ∨ RH 42 j = RI 8 4 7 24 42 j
  | 0, _ => Or.inr rfl
  | 1, _ => Or.inl rfl
  | 2, _ => Or.inl rfl
  | j + 3, h => absurd h (by omega)
theorem rr_44 : ∀ j, j < 3 → rf 3 j = false ∨ RH 44 j = RI 8 4 7 24 44 j
  | 0, _ => Or.inr rfl
  | 1, _ => Or.inl rfl
  | 2, _ => Or.inl rfl
  | j + 3, h => absurd h (by omega)
theorem rr_46 : ∀ j, j < 2 → rf 4 j = false ∨ RH 46 j = RI 8 4 7 24 46 j
  | 0, _ => Or.inr rfl
  | 1, _ => Or.inl rfl
  | j + 2, h => absurd h (by omega)
theorem rr_50 : ∀ j, j < 28 → rf 5 j = false ∨ RH 50 j = RI 8 4 7 24 50 j
  | 0, _ => Or.inl rfl
  | 1, _ => Or.inl rfl
  | 2, _ => Or.inr rfl
  | 3, _ => Or.inr rfl
  | 4, _ => Or.inl rfl
  | 5, _ => Or.inr rfl
  | 6, _ => Or.inl rfl
  | 7, _ => Or.inr rfl
  | 8, _ => Or.inr rfl
  | 9, _ => Or.inr rfl
  | 10, _ => Or.inr rfl
  | 11, _ => Or.inr rfl
  | 12, _ => Or.inr rfl
  | 13, _ => Or.inr rfl
  | 14, _ => Or.inr rfl
  | 15, _ => Or.inl rfl
  | 16, _ => Or.inr rfl
  | 17, _ => Or.inl rfl
  | 18, _ => Or.inl rfl
  | 19, _ => Or.inl rfl
  | 20, _ => Or.inr rfl
  | 21, _ => Or.inr rfl
  | 22, _ => Or.inl rfl
  | 23, _ => Or.inr rfl
  | 24, _ => Or.inl rfl
  | 25, _ => Or.inl rfl
  | 26, _ => Or.inl rfl
  | 27, _ => Or.inl rfl
  | j + 28, h => absurd h (by omega)
section RHS
variable {G : iG} {F : Nat} {σ : Nat → Nat → Int32} {H : Heap}
theorem at_RH : ∀ (k : Nat) (kn : Nat × Nat), (SH F)[k]? = some kn → va_at G.1 cls (G.2.2.1 + k, en G (X F 66 σ (RI 8 4 7 24)) k kn) H → va_at G.1 cls (G.2.2.1 + k, en G (SH F, σ, RH) k kn) H
  | 0, kn, hk, h => by
    have e : kn = (0 + 4, 13) := (Option.some.inj hk).symm
    subst e
    have e : en G (SH F, σ, RH) 0 (0 + 4, 13) = en G (X F 66 σ (RI 8 4 7 24)) 0 (0 + 4, 13) := congrArg (fun z => Sum.inr (0, z)) (obj_c rr_0).symm
    rw [e]
    exact h
  | 1, kn, hk, h => by
    have e : kn = (1 + 4, 3) := (Option.some.inj hk).symm
    subst e
    have e : en G (SH F, σ, RH) 1 (1 + 4, 3) = en G (X F 66 σ (RI 8 4 7 24)) 1 (1 + 4, 3) := congrArg (fun z => Sum.inr (1, z)) (obj_c rr_1).symm
    rw [e]
    exact h
  | 2, kn, hk, h => by
    have e : kn = _ := (Option.some.inj hk).symm
    subst e
    exact h
  | 3, kn, hk, h => by
    have e : kn = _ := (Option.some.inj hk).symm
    subst e
    exact h
  | 4, kn, hk, h => by
    have e : kn = (2, 8) := (Option.some.inj hk).symm
    subst e
    have h : H[G.2.2.1 + 4]? = some (arrV (G.2.1 2) 8 (fun j => va_rf (iw_b G (RI 8 4 7 24 4 j)))) := h
    show H[G.2.2.1 + 4]? = some (arrV (G.2.1 2) 8 (fun j => va_rf (iw_b G (RH 4 j))))
    rw [h]
    exact congrArg some (arrV_c (fun j hj => by rw [rr_4 j hj]))
  | 5, kn, hk, h => by
    have e : kn = (2 + 4, 9) := (Option.some.inj hk).symm
    subst e
    have e : en G (SH F, σ, RH) 5 (2 + 4, 9) = en G (X F 66 σ (RI 8 4 7 24)) 5 (2 + 4, 9) := congrArg (fun z => Sum.inr (2, z)) (obj_c rr_5).symm
    rw [e]
    exact h
  | 6, kn, hk, h => by
    have e : kn = _ := (Option.some.inj hk).symm
    subst e
    exact h
  | 7, kn, hk, h => by
    have e : kn = _ := (Option.some.inj hk).symm
    subst e
    exact h
  | 8, kn, hk, h => by
    have e : kn = _ := (Option.some.inj hk).symm
    subst e
    exact h
  | 9, kn, hk, h => by
    have e : kn = (2 + 4, 9) := (Option.some.inj hk).symm
    subst e
    have e : en G (SH F, σ, RH) 9 (2 + 4, 9) = en G (X F 66 σ (RI 8 4 7 24)) 9 (2 + 4, 9) := congrArg (fun z => Sum.inr (2, z)) (obj_c rr_9).symm
    rw [e]
    exact h
  | 10, kn, hk, h => by
    have e : kn = _ := (Option.some.inj hk).symm
    subst e
    exact h
  | 11, kn, hk, h => by
    have e : kn = _ := (Option.some.inj hk).symm
    subst e
    exact h
  | 12, kn, hk, h => by
    have e : kn = _ := (Option.some.inj hk).symm
    subst e
    exact h
  | 13, kn, hk, h => by
    have e : kn = (2 + 4, 9) := (Option.some.inj hk).symm
    subst e
    have e : en G (SH F, σ, RH) 13 (2 + 4, 9) = en G (X F 66 σ (RI 8 4 7 24)) 13 (2 + 4, 9) := congrArg (fun z => Sum.inr (2, z)) (obj_c rr_13).symm
    rw [e]
    exact h
  | 14, kn, hk, h => by
    have e : kn = _ := (Option.some.inj hk).symm
    subst e
    exact h
  | 15, kn, hk, h => by
    have e : kn = _ := (Option.some.inj hk).symm
    subst e
    exact h
  | 16, kn, hk, h => by
    have e : kn = _ := (Option.some.inj hk).symm
    subst e
    exact h
  | 17, kn, hk, h => by
    have e : kn = (2 + 4, 9) := (Option.some.inj hk).symm
    subst e
    have e : en G (SH F, σ, RH) 17 (2 + 4, 9) = en G (X F 66 σ (RI 8 4 7 24)) 17 (2 + 4, 9) := congrArg (fun z => Sum.inr (2, z)) (obj_c rr_17).symm
    rw [e]
    exact h
  | 18, kn, hk, h => by
    have e : kn = _ := (Option.some.inj hk).symm
    subst e
    exact h
  | 19, kn, hk, h => by
    have e : kn = _ := (Option.some.inj hk).symm
    subst e
    exact h
  | 20, kn, hk, h => by
    have e : kn = _ := (Option.some.inj hk).symm
    subst e
    exact h
  | 21, kn, hk, h => by
    have e : kn = (2 + 4, 9) := (Option.some.inj hk).symm
    subst e
    have e : en G (SH F, σ, RH) 21 (2 + 4, 9) = en G (X F 66 σ (RI 8 4 7 24)) 21 (2 + 4, 9) := congrArg (fun z => Sum.inr (2, z)) (obj_c rr_21).symm
    rw [e]
    exact h
  | 22, kn, hk, h => by
    have e : kn = _ := (Option.some.inj hk).symm
    subst e
    exact h
  | 23, kn, hk, h => by
    have e : kn = _ := (Option.some.inj hk).symm
    subst e
    exact h
  | 24, kn, hk, h => by
    have e : kn = _ := (Option.some.inj hk).symm
    subst e
    exact h
  | 25, kn, hk, h => by
    have e : kn = (2 + 4, 9) := (Option.some.inj hk).symm
    subst e
    have e : en G (SH F, σ, RH) 25 (2 + 4, 9) = en G (X F 66 σ (RI 8 4 7 24)) 25 (2 + 4, 9) := congrArg (fun z => Sum.inr (2, z)) (obj_c rr_25).symm
    rw [e]
    exact h
  | 26, kn, hk, h => by
    have e : kn = _ := (Option.some.inj hk).symm
    subst e
    exact h
  | 27, kn, hk, h => by
    have e : kn = _ := (Option.some.inj hk).symm
    subst e
    exact h
  | 28, kn, hk, h => by
    have e : kn = _ := (Option.some.inj hk).symm
    subst e
    exact h
  | 29, kn, hk, h => by
    have e : kn = (2 + 4, 9) := (Option.some.inj hk).symm
    subst e
    have e : en G (SH F, σ, RH) 29 (2 + 4, 9) = en G (X F 66 σ (RI 8 4 7 24)) 29 (2 + 4, 9) := congrArg (fun z => Sum.inr (2, z)) (obj_c rr_29).symm
    rw [e]
    exact h
  | 30, kn, hk, h => by
    have e : kn = _ := (Option.some.inj hk).symm
    subst e
    exact h
  | 31, kn, hk, h => by
    have e : kn = _ := (Option.some.inj hk).symm
    subst e
    exact h
  | 32, kn, hk, h => by
    have e : kn = _ := (Option.some.inj hk).symm
    subst e
    exact h
  | 33, kn, hk, h => by
    have e : kn = (2 + 4, 9) := (Option.some.inj hk).symm
    subst e
    have e : en G (SH F, σ, RH) 33 (2 + 4, 9) = en G (X F 66 σ (RI 8 4 7 24)) 33 (2 + 4, 9) := congrArg (fun z => Sum.inr (2, z)) (obj_c rr_33).symm
    rw [e]
    exact h
  | 34, kn, hk, h => by
    have e : kn = _ := (Option.some.inj hk).symm
    subst e
    exact h
  | 35, kn, hk, h => by
    have e : kn = _ := (Option.some.inj hk).symm
    subst e
    exact h
  | 36, kn, hk, h => by
    have e : kn = _ := (Option.some.inj hk).symm
    subst e
    exact h
  | 37, kn, hk, h => by
    have e : kn = (3, 4) := (Option.some.inj hk).symm
    subst e
    have h : H[G.2.2.1 + 37]? = some (arrV (G.2.1 3) 4 (fun j => va_rf (iw_b G (RI 8 4 7 24 37 j)))) := h
    show H[G.2.2.1 + 37]? = some (arrV (G.2.1 3) 4 (fun j => va_rf (iw_b G (RH 37 j))))
    rw [h]
    exact congrArg some (arrV_c (fun j hj => by rw [rr_37 j hj]))
  | 38, kn, hk, h => by
    have e : kn = (3 + 4, 3) := (Option.some.inj hk).symm
    subst e
    have e : en G (SH F, σ, RH) 38 (3 + 4, 3) = en G (X F 66 σ (RI 8 4 7 24)) 38 (3 + 4, 3) := congrArg (fun z => Sum.inr (3, z)) (obj_c rr_38).symm
    rw [e]
    exact h
  | 39, kn, hk, h => by
    have e : kn = _ := (Option.some.inj hk).symm
    subst e
    exact h
  | 40, kn, hk, h => by
    have e : kn = (3 + 4, 3) := (Option.some.inj hk).symm
    subst e
    have e : en G (SH F, σ, RH) 40 (3 + 4, 3) = en G (X F 66 σ (RI 8 4 7 24)) 40 (3 + 4, 3) := congrArg (fun z => Sum.inr (3, z)) (obj_c rr_40).symm
    rw [e]
    exact h
  | 41, kn, hk, h => by
    have e : kn = _ := (Option.some.inj hk).symm
    subst e
    exact h
  | 42, kn, hk, h => by
    have e : kn = (3 + 4, 3) := (Option.some.inj hk).symm
    subst e
    have e : en G (SH F, σ, RH) 42 (3 + 4, 3) = en G (X F 66 σ (RI 8 4 7 24)) 42 (3 + 4, 3) := congrArg (fun z => Sum.inr (3, z)) (obj_c rr_42).symm
    rw [e]
    exact h
  | 43, kn, hk, h => by
    have e : kn = _ := (Option.some.inj hk).symm
    subst e
    exact h
  | 44, kn, hk, h => by
    have e : kn = (3 + 4, 3) := (Option.some.inj hk).symm
    subst e
    have e : en G (SH F, σ, RH) 44 (3 + 4, 3) = en G (X F 66 σ (RI 8 4 7 24)) 44 (3 + 4, 3) := congrArg (fun z => Sum.inr (3, z)) (obj_c rr_44).symm
    rw [e]
    exact h
  | 45, kn, hk, h => by
    have e : kn = _ := (Option.some.inj hk).symm
    subst e
    exact h
  | 46, kn, hk, h => by
    have e : kn = (4 + 4, 2) := (Option.some.inj hk).symm
    subst e
    have e : en G (SH F, σ, RH) 46 (4 + 4, 2) = en G (X F 66 σ (RI 8 4 7 24)) 46 (4 + 4, 2) := congrArg (fun z => Sum.inr (4, z)) (obj_c rr_46).symm
    rw [e]
    exact h
  | 47, kn, hk, h => by
    have e : kn = _ := (Option.some.inj hk).symm
    subst e
    exact h
  | 48, kn, hk, h => by
    have e : kn = _ := (Option.some.inj hk).symm
    subst e
    exact h
  | 49, kn, hk, h => by
    have e : kn = _ := (Option.some.inj hk).symm
    subst e
    exact h
  | 50, kn, hk, h => by
    have e : kn = (5 + 4, 28) := (Option.some.inj hk).symm
    subst e
    have e : en G (SH F, σ, RH) 50 (5 + 4, 28) = en G (X F 66 σ (RI 8 4 7 24)) 50 (5 + 4, 28) := congrArg (fun z => Sum.inr (5, z)) (obj_c rr_50).symm
    rw [e]
    exact h
  | 51, kn, hk, h => by
    have e : kn = _ := (Option.some.inj hk).symm
    subst e
    exact h
  | 52, kn, hk, h => by
    have e : kn = _ := (Option.some.inj hk).symm
    subst e
    exact h
  | 53, kn, hk, h => by
    have e : kn = _ := (Option.some.inj hk).symm
    subst e
    exact h
  | 54, kn, hk, h => by
    have e : kn = _ := (Option.some.inj hk).symm
    subst e
    exact h
  | 55, kn, hk, h => by
    have e : kn = _ := (Option.some.inj hk).symm
    subst e
    exact h
  | 56, kn, hk, h => by
    have e : kn = _ := (Option.some.inj hk).symm
    subst e
    exact h
  | 57, kn, hk, h => by
    have e : kn = _ := (Option.some.inj hk).symm
    subst e
    exact h
  | 58, kn, hk, h => by
    have e : kn = _ := (Option.some.inj hk).symm
    subst e
    exact h
  | 59, kn, hk, h => by
    have e : kn = _ := (Option.some.inj hk).symm
    subst e
    exact h
  | 60, kn, hk, h => by
    have e : kn = _ := (Option.some.inj hk).symm
    subst e
    exact h
  | 61, kn, hk, h => by
    have e : kn = _ := (Option.some.inj hk).symm
    subst e
    exact h
  | 62, kn, hk, h => by
    have e : kn = _ := (Option.some.inj hk).symm
    subst e
    exact h
  | 63, kn, hk, h => by
    have e : kn = _ := (Option.some.inj hk).symm
    subst e
    exact h
  | 64, kn, hk, h => by
    have e : kn = _ := (Option.some.inj hk).symm
    subst e
    exact h
  | 65, kn, hk, h => by
    have e : kn = _ := (Option.some.inj hk).symm
    subst e
    exact h
  | k + 66, kn, hk, h => absurd hk (fun q => by cases q)
end RHS
theorem Ev_RH {G : iG} {m : iM} {d ac az pc : Nat} {Ls : List (Option iV)} {st : List iV} {F : Nat} {C M : Nat → Nat → Int32} {Q : Option iV → iH → Prop} (k : Ev G m d ac az pc Ls st (HW F C M) Q) : Ev G m d ac az pc Ls st (X F 66 (fl C M) (RI 8 4 7 24)) Q := by
  intro p l e' R s mid args below meth c H locs cells slots Z ls a1 a2 a3 a4 a5 a6 a7 a8
  have a3' : s.heap.size + cells = G.2.2.1 + 66 := by
    rw [X_len (by decide)] at a3
    exact a3
  have a2' : va_P G.1 cls (wh G (X F 66 (fl C M) (RI 8 4 7 24))) H := a2
  have hP : va_P G.1 cls (wh G (HW F C M)) H := by
    intro i q hq
    obtain ⟨kn, hk, rfl⟩ := wh_of hq
    exact at_RH i kn hk (a2' i _ (wh_at (X_at (SH_lt hk) hk)))
  exact k p l e' R s mid args below meth c H locs cells slots Z ls a1 hP a3' a4 a5 a6 a7 a8

/-! ===== constructors: worlds that grow ===== -/
/-- h' says of the cells that are there what h says -/
def AG (h h' : iH) : Prop := h'.1 = h.1 ∧ ∀ k, k < h.1.length → h'.2.1 k = h.2.1 k ∧ h'.2.2 k = h.2.2 k
/-- the first n cells of the layout -/
def X (F n : Nat) (σ : Nat → Nat → Int32) (ρ : Nat → Nat → Option Nat) : iH := ((SH F).take n, σ, ρ)
theorem zr_at (σ : Nat → Nat → Int32) (n j : Nat) : zr σ n n j = 0 := if_pos rfl
theorem zr_ne (σ : Nat → Nat → Int32) {n k : Nat} (h : k ≠ n) : zr σ n k = σ k := by
  funext j
  exact if_neg h
theorem zq_at (ρ : Nat → Nat → Option Nat) (n j : Nat) : zq ρ n n j = none := if_pos rfl
theorem zq_ne (ρ : Nat → Nat → Option Nat) {n k : Nat} (h : k ≠ n) : zq ρ n k = ρ k := by
  funext j
  exact if_neg h
theorem up3_row (ρ : Nat → Nat → Option Nat) {a b : Nat} (j : Nat) (x : Option Nat) (h : b ≠ a) : up3 ρ a j x b = ρ b := by
  funext i
  exact if_neg (fun q => h q.1)
theorem up3_at (ρ : Nat → Nat → Option Nat) (a j : Nat) (x : Option Nat) : up3 ρ a j x a j = x := if_pos ⟨rfl, rfl⟩
theorem up3_col (ρ : Nat → Nat → Option Nat) (a : Nat) {j j' : Nat} (x : Option Nat) (h : j' ≠ j) : up3 ρ a j x a j' = ρ a j' := if_neg (fun q => h q.2)
section GROW
variable {G : iG} {m : iM} {d ac az pc : Nat} {Ls : List (Option iV)} {st : List iV} {h h' : iH} {Q : Option iV → iH → Prop}
theorem wh_AG (e : AG h h') : wh G h' = wh G h := by
  obtain ⟨e1, e2⟩ := e
  rw [wh, wh, e1]
  apply List.ext_getElem?
  intro i
  rw [List.getElem?_mapIdx, List.getElem?_mapIdx]
  cases hk : h.1[i]? with
  | none => rfl
  | some kn =>
    obtain ⟨hlt, _⟩ := List.getElem?_eq_some_iff.mp hk
    obtain ⟨r1, r2⟩ := e2 i hlt
    have ee : en G h' i kn = en G h i kn := en_ne (h := h) (h' := h') r1 r2 kn
    show some (G.2.2.1 + i, en G h' i kn) = some (G.2.2.1 + i, en G h i kn)
    rw [ee]
theorem Ev_AG (e : AG h h') (k : Ev G m d ac az pc Ls st h' Q) : Ev G m d ac az pc Ls st h Q := by
  intro p l e' R s mid args below meth c H locs cells slots Z ls a1 a2 a3 a4 a5 a6 a7 a8
  refine k p l e' R s mid args below meth c H locs cells slots Z ls a1 ?_ ?_ a4 a5 a6 a7 a8
  · unfold Wd at a2 ⊢
    rw [wh_AG e]
    exact a2
  · rw [e.1]
    exact a3
section XS
variable {F n : Nat} {σ σ' : Nat → Nat → Int32} {ρ ρ' : Nat → Nat → Option Nat} {kn : Nat × Nat}
theorem SH_lt {k : Nat} (hs : (SH F)[k]? = some kn) : k < 66 := by
  obtain ⟨q, _⟩ := List.getElem?_eq_some_iff.mp hs
  exact q
theorem X_len (hn : n ≤ 66) (σ : Nat → Nat → Int32) (ρ : Nat → Nat → Option Nat) : (X F n σ ρ).1.length = n := by
  show ((SH F).take n).length = n
  rw [List.length_take, show (SH F).length = 66 from rfl]
  omega
theorem X_at {k : Nat} (hk : k < n) (hs : (SH F)[k]? = some kn) : (X F n σ ρ).1[k]? = some kn := by
  show ((SH F).take n)[k]? = some kn
  rw [List.getElem?_take, if_pos hk]
  exact hs
theorem AG_X (hn : n ≤ 66) (h1 : ∀ k, k < n → σ' k = σ k) (h2 : ∀ k, k < n → ρ' k = ρ k) : AG (X F n σ ρ) (X F n σ' ρ') := ⟨rfl, fun k hk => by
  rw [X_len hn] at hk
  exact ⟨h1 k hk, h2 k hk⟩⟩
theorem AG_push (hs : (SH F)[n]? = some kn) (h1 : ∀ k, k < n → σ' k = σ k) (h2 : ∀ k, k < n → ρ' k = ρ k) (z1 : ∀ j, σ' n j = 0) (z2 : ∀ j, ρ' n j = none) : AG (hpush (X F n σ ρ) kn) (X F (n + 1) σ' ρ') := by
  have hn := SH_lt hs
  have el := X_len (F := F) (n := n) (by omega) σ ρ
  refine ⟨?_, fun k hk => ?_⟩
  · show (SH F).take (n + 1) = (SH F).take n ++ [kn]
    rw [List.take_add_one, hs]
    rfl
  · have hl : (hpush (X F n σ ρ) kn).1.length = n + 1 := by
      show ((X F n σ ρ).1 ++ [kn]).length = n + 1
      rw [List.length_append, el]
      rfl
    by_cases e : k = n
    · rw [e]
      refine ⟨?_, ?_⟩
      · funext j
        show σ' n j = zr σ (X F n σ ρ).1.length n j
        rw [el, z1, zr_at]
      · funext j
        show ρ' n j = zq ρ (X F n σ ρ).1.length n j
        rw [el, z2, zq_at]
    · refine ⟨?_, ?_⟩
      · show σ' k = zr σ (X F n σ ρ).1.length k
        rw [el, zr_ne σ e]
        exact h1 k (by omega)
      · show ρ' k = zq ρ (X F n σ ρ).1.length k
        rw [el, zq_ne ρ e]
        exact h2 k (by omega)
theorem N_A0 {N : Nat} {x : Int32} (hd : decode m.2.1 pc = .ok (.newarray .int, 2)) (hs : (SH F)[n]? = some (0, N)) (hx : x = nI N) (hN : N ≤ 100000) (hac : 1 ≤ ac) (haz : N ≤ az) (h1 : ∀ k, k < n → σ' k = σ k) (h2 : ∀ k, k < n → ρ' k = ρ k) (z1 : ∀ j, σ' n j = 0) (z2 : ∀ j, ρ' n j = none) (kk : Ev G m d (ac - 1) (az - N) (pc + 2) Ls (vR n :: st) (X F (n + 1) σ' ρ') Q) : Ev G m d ac az pc Ls (vI x :: st) (X F n σ ρ) Q := by
  have hn := SH_lt hs
  refine E_newA0 hd a_int hx hN hac haz ?_
  rw [X_len (by omega)]
  exact Ev_AG (AG_push hs h1 h2 z1 z2) kk
theorem N_A1 {N : Nat} {x : Int32} (hd : decode m.2.1 pc = .ok (.newarray .boolean, 2)) (hs : (SH F)[n]? = some (1, N)) (hx : x = nI N) (hN : N ≤ 100000) (hac : 1 ≤ ac) (haz : N ≤ az) (h1 : ∀ k, k < n → σ' k = σ k) (h2 : ∀ k, k < n → ρ' k = ρ k) (z1 : ∀ j, σ' n j = 0) (z2 : ∀ j, ρ' n j = none) (kk : Ev G m d (ac - 1) (az - N) (pc + 2) Ls (vR n :: st) (X F (n + 1) σ' ρ') Q) : Ev G m d ac az pc Ls (vI x :: st) (X F n σ ρ) Q := by
  have hn := SH_lt hs
  refine E_newA1 hd a_boolean hx hN hac haz ?_
  rw [X_len (by omega)]
  exact Ev_AG (AG_push hs h1 h2 z1 z2) kk
theorem N_A2 {N idx : Nat} {x : Int32} (hd : decode m.2.1 pc = .ok (.anewarray idx, 3)) (hcl : Cond.classLink m.1.cls idx R_Task ∈ gw) (hs : (SH F)[n]? = some (2, N)) (hx : x = nI N) (hN : N ≤ 100000) (hac : 1 ≤ ac) (haz : N ≤ az) (h1 : ∀ k, k < n → σ' k = σ k) (h2 : ∀ k, k < n → ρ' k = ρ k) (z1 : ∀ j, σ' n j = 0) (z2 : ∀ j, ρ' n j = none) (kk : Ev G m d (ac - 1) (az - N) (pc + 3) Ls (vR n :: st) (X F (n + 1) σ' ρ') Q) : Ev G m d ac az pc Ls (vI x :: st) (X F n σ ρ) Q := by
  have hn := SH_lt hs
  refine E_newA2 hd hcl hx hN hac haz ?_
  rw [X_len (by omega)]
  exact Ev_AG (AG_push hs h1 h2 z1 z2) kk
theorem N_A3 {N idx : Nat} {x : Int32} (hd : decode m.2.1 pc = .ok (.anewarray idx, 3)) (hcl : Cond.classLink m.1.cls idx R_Pipe ∈ gw) (hs : (SH F)[n]? = some (3, N)) (hx : x = nI N) (hN : N ≤ 100000) (hac : 1 ≤ ac) (haz : N ≤ az) (h1 : ∀ k, k < n → σ' k = σ k) (h2 : ∀ k, k < n → ρ' k = ρ k) (z1 : ∀ j, σ' n j = 0) (z2 : ∀ j, ρ' n j = none) (kk : Ev G m d (ac - 1) (az - N) (pc + 3) Ls (vR n :: st) (X F (n + 1) σ' ρ') Q) : Ev G m d ac az pc Ls (vI x :: st) (X F n σ ρ) Q := by
  have hn := SH_lt hs
  refine E_newA3 hd hcl hx hN hac haz ?_
  rw [X_len (by omega)]
  exact Ev_AG (AG_push hs h1 h2 z1 z2) kk
theorem N_new {idx ci N : Nat} (hd : decode m.2.1 pc = .ok (.new idx, 3)) (hw : NWk m.1.cls idx ci N) (hs : (SH F)[n]? = some (ci + 4, N)) (hac : 1 ≤ ac) (haz : N ≤ az) (h1 : ∀ k, k < n → σ' k = σ k) (h2 : ∀ k, k < n → ρ' k = ρ k) (z1 : ∀ j, σ' n j = 0) (z2 : ∀ j, ρ' n j = none) (kk : Ev G m d (ac - 1) (az - N) (pc + 3) Ls (vR n :: st) (X F (n + 1) σ' ρ') Q) : Ev G m d ac az pc Ls st (X F n σ ρ) Q := by
  have hn := SH_lt hs
  refine E_new hd hw hac haz ?_
  rw [X_len (by omega)]
  exact Ev_AG (AG_push hs h1 h2 z1 z2) kk
theorem P_Q {idx ci j k N x : Nat} (hd : decode m.2.1 pc = .ok (.putfield idx, 3)) (hf : FLk m.1.cls idx ci j) (hk : k < n) (hn : n ≤ 66) (hs : (SH F)[k]? = some (ci + 4, N)) (hj : j < N) (hr : rf ci j = true) (hfin : fnl ci j = true) (hin : m.1.name = "<init>") (hown2 : own_ ci j = m.1.cls) (h2 : ∀ k', k' < n → ρ' k' = up3 ρ k j (some x) k') (kk : Ev G m d ac az (pc + 3) Ls st (X F n σ ρ') Q) : Ev G m d ac az pc Ls (vR x :: vR k :: st) (X F n σ ρ) Q :=
  E_putFQ hd hf (X_at hk hs) hj hr hfin hin hown2 (Ev_AG (AG_X (ρ := up3 ρ k j (some x)) hn (fun _ _ => rfl) h2) kk)
theorem P_F {idx ci j k N : Nat} {x : Int32} (hd : decode m.2.1 pc = .ok (.putfield idx, 3)) (hf : FLk m.1.cls idx ci j) (hk : k < n) (hn : n ≤ 66) (hs : (SH F)[k]? = some (ci + 4, N)) (hj : j < N) (ht : tyT ci j = .int) (hfin : fnl ci j = true) (hin : m.1.name = "<init>") (hown2 : own_ ci j = m.1.cls) (h1 : ∀ k', k' < n → σ' k' = up2 σ k j x k') (kk : Ev G m d ac az (pc + 3) Ls st (X F n σ' ρ) Q) : Ev G m d ac az pc Ls (vI x :: vR k :: st) (X F n σ ρ) Q :=
  E_putFI hd hf (X_at hk hs) hj (Or.inl ht) hfin hin hown2 (Ev_AG (AG_X (σ := up2 σ k j x) hn h1 (fun _ _ => rfl)) kk)
theorem P_I {idx ci j k N : Nat} {x : Int32} (hd : decode m.2.1 pc = .ok (.putfield idx, 3)) (hf : FLk m.1.cls idx ci j) (hk : k < n) (hn : n ≤ 66) (hs : (SH F)[k]? = some (ci + 4, N)) (hj : j < N) (ht : tyT ci j = .int) (hfin : fnl ci j = false) (h1 : ∀ k', k' < n → σ' k' = up2 σ k j x k') (kk : Ev G m d ac az (pc + 3) Ls st (X F n σ' ρ) Q) : Ev G m d ac az pc Ls (vI x :: vR k :: st) (X F n σ ρ) Q :=
  E_putI hd hf (X_at hk hs) hj (Or.inl ht) hfin (Ev_AG (AG_X (σ := up2 σ k j x) hn h1 (fun _ _ => rfl)) kk)
theorem G_Q {idx ci j k N x : Nat} (hd : decode m.2.1 pc = .ok (.getfield idx, 3)) (hf : FLk m.1.cls idx ci j) (hk : k < n) (hs : (SH F)[k]? = some (ci + 4, N)) (hj : j < N) (hr : rf ci j = true) (hq : ρ k j = some x) (kk : Ev G m d ac az (pc + 3) Ls (vR x :: st) (X F n σ ρ) Q) : Ev G m d ac az pc Ls (vR k :: st) (X F n σ ρ) Q := by
  refine E_getQ hd hf (X_at hk hs) hj hr ?_
  show Ev G m d ac az (pc + 3) Ls (vQ (ρ k j) :: st) (X F n σ ρ) Q
  rw [hq]
  exact kk
theorem S_I {i x : Int32} {j k N : Nat} (hd : decode m.2.1 pc = .ok (.iastore, 1)) (hk : k < n) (hn : n ≤ 66) (hs : (SH F)[k]? = some (0, N)) (hi : i = nI j) (hj : j < N) (hN : N < 2 ^ 31) (h1 : ∀ k', k' < n → σ' k' = up2 σ k j x k') (kk : Ev G m d ac az (pc + 1) Ls st (X F n σ' ρ) Q) : Ev G m d ac az pc Ls (vI x :: vI i :: vR k :: st) (X F n σ ρ) Q :=
  E_iast hd (X_at hk hs) hi hj hN (Ev_AG (AG_X (σ := up2 σ k j x) hn h1 (fun _ _ => rfl)) kk)
theorem S_2 {i : Int32} {j k N v ci N' : Nat} (hd : decode m.2.1 pc = .ok (.aastore, 1)) (hk : k < n) (hn : n ≤ 66) (hs : (SH F)[k]? = some (2, N)) (hv : v < n) (hsv : (SH F)[v]? = some (ci + 4, N')) (hcv : ∃ q : vw_C, cls[ci]? = some q ∧ q.1 = R_Task) (hi : i = nI j) (hj : j < N) (hN : N < 2 ^ 31) (h2 : ∀ k', k' < n → ρ' k' = up3 ρ k j (some v) k') (kk : Ev G m d ac az (pc + 1) Ls st (X F n σ ρ') Q) : Ev G m d ac az pc Ls (vR v :: vI i :: vR k :: st) (X F n σ ρ) Q :=
  E_aast2 hd (X_at hk hs) (X_at hv hsv) hcv hi hj hN (Ev_AG (AG_X (ρ := up3 ρ k j (some v)) hn (fun _ _ => rfl) h2) kk)
theorem S_3 {i : Int32} {j k N v ci N' : Nat} (hd : decode m.2.1 pc = .ok (.aastore, 1)) (hk : k < n) (hn : n ≤ 66) (hs : (SH F)[k]? = some (3, N)) (hv : v < n) (hsv : (SH F)[v]? = some (ci + 4, N')) (hcv : ∃ q : vw_C, cls[ci]? = some q ∧ q.1 = R_Pipe) (hi : i = nI j) (hj : j < N) (hN : N < 2 ^ 31) (h2 : ∀ k', k' < n → ρ' k' = up3 ρ k j (some v) k') (kk : Ev G m d ac az (pc + 1) Ls st (X F n σ ρ') Q) : Ev G m d ac az pc Ls (vR v :: vI i :: vR k :: st) (X F n σ ρ) Q :=
  E_aast3 hd (X_at hk hs) (X_at hv hsv) hcv hi hj hN (Ev_AG (AG_X (ρ := up3 ρ k j (some v)) hn (fun _ _ => rfl) h2) kk)
end XS
theorem E_I1 {idx k d2 ac2 az2 : Nat} {m2 : iM} {v1 : iV} {hx : iH} (hd : decode m.2.1 pc = .ok (.invokespecial idx, 3)) (hw : CIk m.1.cls idx m2 1) (hd2 : d2 + 1 ≤ d) (hc : ac2 ≤ ac) (hz : az2 ≤ az) (hrest : (st.map ct).sum ≤ 8) (hM : Mt G m2 d2 ac2 az2 (vR k :: [v1]) h (fun r h' => r = none ∧ h' = hx)) (kk : Ev G m d (ac - ac2) (az - az2) (pc + 3) Ls st hx Q) : Ev G m d ac az pc Ls (v1 :: vR k :: st) h Q :=
  E_callI (As := [v1]) (rest := st) hd hw hd2 hc hz rfl rfl hrest hM (fun r h' hq => by
    obtain ⟨rfl, rfl⟩ := hq
    exact kk)
theorem E_I2 {idx k d2 ac2 az2 : Nat} {m2 : iM} {v1 v2 : iV} {hx : iH} (hd : decode m.2.1 pc = .ok (.invokespecial idx, 3)) (hw : CIk m.1.cls idx m2 2) (hd2 : d2 + 1 ≤ d) (hc : ac2 ≤ ac) (hz : az2 ≤ az) (hrest : (st.map ct).sum ≤ 8) (hM : Mt G m2 d2 ac2 az2 (vR k :: [v1, v2]) h (fun r h' => r = none ∧ h' = hx)) (kk : Ev G m d (ac - ac2) (az - az2) (pc + 3) Ls st hx Q) : Ev G m d ac az pc Ls (v2 :: v1 :: vR k :: st) h Q :=
  E_callI (As := [v1, v2]) (rest := st) hd hw hd2 hc hz rfl rfl hrest hM (fun r h' hq => by
    obtain ⟨rfl, rfl⟩ := hq
    exact kk)
theorem E_N0 {idx k d2 ac2 az2 : Nat} {m2 : iM} {hx : iH} (hd : decode m.2.1 pc = .ok (.invokespecial idx, 3)) (hw : IMk m2 0) (hown0 : m.1.cls = "PagedKernel") (hnest : (idx = 39 ∧ m2.1 = yN_P) ∨ (idx = 42 ∧ m2.1 = yN_R)) (hd2 : d2 + 1 ≤ d) (hc : ac2 ≤ ac) (hz : az2 ≤ az) (hrest : (st.map ct).sum ≤ 8) (hM : Mt G m2 d2 ac2 az2 (vR k :: []) h (fun r h' => r = none ∧ h' = hx)) (kk : Ev G m d (ac - ac2) (az - az2) (pc + 3) Ls st hx Q) : Ev G m d ac az pc Ls (vR k :: st) h Q :=
  E_callN (As := []) (rest := st) hd hw hown0 hnest hd2 hc hz rfl rfl hrest hM (fun r h' hq => by
    obtain ⟨rfl, rfl⟩ := hq
    exact kk)
end GROW
theorem c_T_init {G : iG} {F n : Nat} {σ : Nat → Nat → Int32} {ρ : Nat → Nat → Option Nat} {x : Int32} (hs0 : (SH F)[n]? = some (2 + 4, 9)) (hs1 : (SH F)[n + 1]? = some (0, 32)) (hs2 : (SH F)[n + 2]? = some (0, 8)) (hs3 : (SH F)[n + 3]? = some (0, 6)) (s0 : ∀ j, σ n j = if j = 0 then x else 0) (s1 : ∀ j, σ (n + 1) j = 0) (s2 : ∀ j, σ (n + 2) j = 0) (s3 : ∀ j, σ (n + 3) j = if j < 6 then -1 else 0) (r0 : ∀ j, ρ n j = if 1 ≤ j ∧ j ≤ 3 then some (n + j) else none) (r1 : ∀ j, ρ (n + 1) j = none) (r2 : ∀ j, ρ (n + 2) j = none) (r3 : ∀ j, ρ (n + 3) j = none) : Mt G m_T_init 1 3 46 [vR n, vI x] (X F (n + 1) (zr σ n) (zq ρ n)) (fun r h' => r = none ∧ h' = X F (n + 4) σ ρ) := by
  refine Mt.of' (Ls := [some (vR n), some (vI x), none]) (by decide) (by simp [ct]) (Nat.le_of_ble_eq_true rfl) rfl ?_
  have h66 := SH_lt hs3
  refine E_aload_n d_T_init_0 rfl rfl ?_
  refine E_objInit d_T_init_1 w_T_3 (by decide) (Nat.le_of_ble_eq_true rfl) ?_
  refine E_aload_n d_T_init_4 rfl rfl ?_
  refine E_bipush (v := 32) d_T_init_5 (by decide) ?_
  refine N_A0 (n := n + 1) (N := 32) (σ' := zr σ n) (ρ' := zq ρ n) d_T_init_7 hs1 rfl (by decide) (by decide) (by decide) (fun _ _ => rfl) (fun _ _ => rfl) (fun j => by rw [zr_ne _ (by omega)]; exact s1 j) (fun j => by rw [zq_ne _ (by omega)]; exact r1 j) ?_
  refine P_Q (n := n + 2) (k := n) (ρ' := up3 (zq ρ n) n 1 (some (n + 1))) d_T_init_9 f_T_9 (by omega) (by omega) hs0 (by decide) rfl rfl rfl rfl (fun _ _ => rfl) ?_
  refine E_aload_n d_T_init_12 rfl rfl ?_
  refine E_bipush (v := 8) d_T_init_13 (by decide) ?_
  refine N_A0 (n := n + 2) (N := 8) (σ' := zr σ n) (ρ' := up3 (zq ρ n) n 1 (some (n + 1))) d_T_init_15 hs2 rfl (by decide) (by decide) (by decide) (fun _ _ => rfl) (fun _ _ => rfl) (fun j => by rw [zr_ne _ (by omega)]; exact s2 j) (fun j => by rw [up3_row _ _ _ (by omega), zq_ne _ (by omega)]; exact r2 j) ?_
  refine P_Q (n := n + 3) (k := n) (ρ' := up3 (up3 (zq ρ n) n 1 (some (n + 1))) n 2 (some (n + 2))) d_T_init_17 f_T_15 (by omega) (by omega) hs0 (by decide) rfl rfl rfl rfl (fun _ _ => rfl) ?_
  refine E_aload_n d_T_init_20 rfl rfl ?_
  refine E_bipush (v := 6) d_T_init_21 (by decide) ?_
  refine N_A0 (n := n + 3) (N := 6) (σ' := zr (zr σ n) (n + 3)) (ρ' := up3 (up3 (zq ρ n) n 1 (some (n + 1))) n 2 (some (n + 2))) d_T_init_23 hs3 rfl (by decide) (by decide) (by decide) (fun k hk => zr_ne _ (by omega)) (fun _ _ => rfl) (fun j => zr_at _ _ _) (fun j => by rw [up3_row _ _ _ (by omega), up3_row _ _ _ (by omega), zq_ne _ (by omega)]; exact r3 j) ?_
  refine P_Q (n := n + 4) (k := n) (ρ' := up3 (up3 (up3 (zq ρ n) n 1 (some (n + 1))) n 2 (some (n + 2))) n 3 (some (n + 3))) d_T_init_25 f_T_18 (by omega) (by omega) hs0 (by decide) rfl rfl rfl rfl (fun _ _ => rfl) ?_
  refine E_aload_n d_T_init_28 rfl rfl ?_
  refine E_iload_n d_T_init_29 rfl ?_
  refine P_F (n := n + 4) (k := n) (σ' := up2 (zr (zr σ n) (n + 3)) n 0 x) d_T_init_30 f_T_21 (by omega) (by omega) hs0 (by decide) rfl rfl rfl rfl (fun _ _ => rfl) ?_
  refine E_iconst (v := 0) d_T_init_33 (by decide) ?_
  refine E_istore_n d_T_init_34 (by decide) ?_
  refine E_iload_n d_T_init_35 rfl ?_
  refine E_bipush (v := 6) d_T_init_36 (by decide) ?_
  refine E_icmp_ge (tgt := 54) d_T_init_38 (by decide) (fun c => absurd c (by decide)) (fun _ => ?_)
  refine E_aload_n d_T_init_41 rfl rfl ?_
  refine G_Q (n := n + 4) (k := n) (x := n + 3) d_T_init_42 f_T_18 (by omega) hs0 (by decide) rfl (up3_at _ _ _ _) ?_
  refine E_iload_n d_T_init_45 rfl ?_
  refine E_iconst (v := -1) d_T_init_46 (by decide) ?_
  refine S_I (n := n + 4) (k := n + 3) (j := 0) (σ' := up2 (up2 (zr (zr σ n) (n + 3)) n 0 x) (n + 3) 0 (-1)) d_T_init_47 (by omega) (by omega) hs3 rfl (by decide) (by decide) (fun _ _ => rfl) ?_
  refine E_iinc (v := 1) d_T_init_48 rfl (by decide) (by decide) ?_
  refine E_goto (tgt := 35) d_T_init_51 (by decide) ?_
  refine E_iload_n d_T_init_35 rfl ?_
  refine E_bipush (v := 6) d_T_init_36 (by decide) ?_
  refine E_icmp_ge (tgt := 54) d_T_init_38 (by decide) (fun c => absurd c (by decide)) (fun _ => ?_)
  refine E_aload_n d_T_init_41 rfl rfl ?_
  refine G_Q (n := n + 4) (k := n) (x := n + 3) d_T_init_42 f_T_18 (by omega) hs0 (by decide) rfl (up3_at _ _ _ _) ?_
  refine E_iload_n d_T_init_45 rfl ?_
  refine E_iconst (v := -1) d_T_init_46 (by decide) ?_
  refine S_I (n := n + 4) (k := n + 3) (j := 1) (σ' := up2 (up2 (up2 (zr (zr σ n) (n + 3)) n 0 x) (n + 3) 0 (-1)) (n + 3) 1 (-1)) d_T_init_47 (by omega) (by omega) hs3 rfl (by decide) (by decide) (fun _ _ => rfl) ?_
  refine E_iinc (v := 2) d_T_init_48 rfl (by decide) (by decide) ?_
  refine E_goto (tgt := 35) d_T_init_51 (by decide) ?_
  refine E_iload_n d_T_init_35 rfl ?_
  refine E_bipush (v := 6) d_T_init_36 (by decide) ?_
  refine E_icmp_ge (tgt := 54) d_T_init_38 (by decide) (fun c => absurd c (by decide)) (fun _ => ?_)
  refine E_aload_n d_T_init_41 rfl rfl ?_
  refine G_Q (n := n + 4) (k := n) (x := n + 3) d_T_init_42 f_T_18 (by omega) hs0 (by decide) rfl (up3_at _ _ _ _) ?_
  refine E_iload_n d_T_init_45 rfl ?_
  refine E_iconst (v := -1) d_T_init_46 (by decide) ?_
  refine S_I (n := n + 4) (k := n + 3) (j := 2) (σ' := up2 (up2 (up2 (up2 (zr (zr σ n) (n + 3)) n 0 x) (n + 3) 0 (-1)) (n + 3) 1 (-1)) (n + 3) 2 (-1)) d_T_init_47 (by omega) (by omega) hs3 rfl (by decide) (by decide) (fun _ _ => rfl) ?_
  refine E_iinc (v := 3) d_T_init_48 rfl (by decide) (by decide) ?_
  refine E_goto (tgt := 35) d_T_init_51 (by decide) ?_
  refine E_iload_n d_T_init_35 rfl ?_
  refine E_bipush (v := 6) d_T_init_36 (by decide) ?_
  refine E_icmp_ge (tgt := 54) d_T_init_38 (by decide) (fun c => absurd c (by decide)) (fun _ => ?_)
  refine E_aload_n d_T_init_41 rfl rfl ?_
  refine G_Q (n := n + 4) (k := n) (x := n + 3) d_T_init_42 f_T_18 (by omega) hs0 (by decide) rfl (up3_at _ _ _ _) ?_
  refine E_iload_n d_T_init_45 rfl ?_
  refine E_iconst (v := -1) d_T_init_46 (by decide) ?_
  refine S_I (n := n + 4) (k := n + 3) (j := 3) (σ' := up2 (up2 (up2 (up2 (up2 (zr (zr σ n) (n + 3)) n 0 x) (n + 3) 0 (-1)) (n + 3) 1 (-1)) (n + 3) 2 (-1)) (n + 3) 3 (-1)) d_T_init_47 (by omega) (by omega) hs3 rfl (by decide) (by decide) (fun _ _ => rfl) ?_
  refine E_iinc (v := 4) d_T_init_48 rfl (by decide) (by decide) ?_
  refine E_goto (tgt := 35) d_T_init_51 (by decide) ?_
  refine E_iload_n d_T_init_35 rfl ?_
  refine E_bipush (v := 6) d_T_init_36 (by decide) ?_
  refine E_icmp_ge (tgt := 54) d_T_init_38 (by decide) (fun c => absurd c (by decide)) (fun _ => ?_)
  refine E_aload_n d_T_init_41 rfl rfl ?_
  refine G_Q (n := n + 4) (k := n) (x := n + 3) d_T_init_42 f_T_18 (by omega) hs0 (by decide) rfl (up3_at _ _ _ _) ?_
  refine E_iload_n d_T_init_45 rfl ?_
  refine E_iconst (v := -1) d_T_init_46 (by decide) ?_
  refine S_I (n := n + 4) (k := n + 3) (j := 4) (σ' := up2 (up2 (up2 (up2 (up2 (up2 (zr (zr σ n) (n + 3)) n 0 x) (n + 3) 0 (-1)) (n + 3) 1 (-1)) (n + 3) 2 (-1)) (n + 3) 3 (-1)) (n + 3) 4 (-1)) d_T_init_47 (by omega) (by omega) hs3 rfl (by decide) (by decide) (fun _ _ => rfl) ?_
  refine E_iinc (v := 5) d_T_init_48 rfl (by decide) (by decide) ?_
  refine E_goto (tgt := 35) d_T_init_51 (by decide) ?_
  refine E_iload_n d_T_init_35 rfl ?_
  refine E_bipush (v := 6) d_T_init_36 (by decide) ?_
  refine E_icmp_ge (tgt := 54) d_T_init_38 (by decide) (fun c => absurd c (by decide)) (fun _ => ?_)
  refine E_aload_n d_T_init_41 rfl rfl ?_
  refine G_Q (n := n + 4) (k := n) (x := n + 3) d_T_init_42 f_T_18 (by omega) hs0 (by decide) rfl (up3_at _ _ _ _) ?_
  refine E_iload_n d_T_init_45 rfl ?_
  refine E_iconst (v := -1) d_T_init_46 (by decide) ?_
  refine S_I (n := n + 4) (k := n + 3) (j := 5) (σ' := up2 (up2 (up2 (up2 (up2 (up2 (up2 (zr (zr σ n) (n + 3)) n 0 x) (n + 3) 0 (-1)) (n + 3) 1 (-1)) (n + 3) 2 (-1)) (n + 3) 3 (-1)) (n + 3) 4 (-1)) (n + 3) 5 (-1)) d_T_init_47 (by omega) (by omega) hs3 rfl (by decide) (by decide) (fun _ _ => rfl) ?_
  refine E_iinc (v := 6) d_T_init_48 rfl (by decide) (by decide) ?_
  refine E_goto (tgt := 35) d_T_init_51 (by decide) ?_
  refine E_iload_n d_T_init_35 rfl ?_
  refine E_bipush (v := 6) d_T_init_36 (by decide) ?_
  refine E_icmp_ge (tgt := 54) d_T_init_38 (by decide) (fun _ => ?_) (fun c => absurd (by decide) c)
  refine Ev_AG (h' := X F (n + 4) σ ρ) (AG_X (by omega) (fun k hk => ?_) (fun k hk => ?_)) (E_return d_T_init_54 rfl rfl ⟨rfl, rfl⟩)
  · by_cases e0 : k = n
    · rw [e0]
      funext j
      rw [s0, up2_row _ _ _ (by omega), up2_row _ _ _ (by omega), up2_row _ _ _ (by omega), up2_row _ _ _ (by omega), up2_row _ _ _ (by omega), up2_row _ _ _ (by omega)]
      by_cases ej : j = 0
      · rw [ej, up2_at, if_pos rfl]
      · rw [up2_col _ _ _ ej, if_neg ej, zr_ne _ (by omega), zr_at]
    · by_cases e3 : k = n + 3
      · rw [e3]
        funext j
        rw [s3]
        by_cases hj : j < 6
        · rw [if_pos hj]
          rcases (by omega : j = 0 ∨ j = 1 ∨ j = 2 ∨ j = 3 ∨ j = 4 ∨ j = 5) with rfl | rfl | rfl | rfl | rfl | rfl <;> simp [up2]
        · rw [if_neg hj, up2_col _ _ _ (by omega), up2_col _ _ _ (by omega), up2_col _ _ _ (by omega), up2_col _ _ _ (by omega), up2_col _ _ _ (by omega), up2_col _ _ _ (by omega), up2_row _ _ _ (by omega), zr_at]
      · rw [up2_row _ _ _ e3, up2_row _ _ _ e3, up2_row _ _ _ e3, up2_row _ _ _ e3, up2_row _ _ _ e3, up2_row _ _ _ e3, up2_row _ _ _ e0, zr_ne _ e3, zr_ne _ e0]
  · by_cases e0 : k = n
    · rw [e0]
      funext j
      rw [r0]
      by_cases j3 : j = 3
      · rw [j3, up3_at, if_pos (by decide)]
      · rw [up3_col _ _ _ j3]
        by_cases j2 : j = 2
        · rw [j2, up3_at, if_pos (by decide)]
        · rw [up3_col _ _ _ j2]
          by_cases j1 : j = 1
          · rw [j1, up3_at, if_pos (by decide)]
          · rw [up3_col _ _ _ j1, zq_at, if_neg (by omega)]
    · rw [up3_row _ _ _ e0, up3_row _ _ _ e0, up3_row _ _ _ e0, zq_ne _ e0]
theorem c_P_init {G : iG} {F n : Nat} {σ : Nat → Nat → Int32} {ρ : Nat → Nat → Option Nat} (hs0 : (SH F)[n]? = some (3 + 4, 3)) (hs1 : (SH F)[n + 1]? = some (0, 8)) (s0 : ∀ j, σ n j = 0) (s1 : ∀ j, σ (n + 1) j = 0) (r0 : ∀ j, ρ n j = if j = 0 then some (n + 1) else none) (r1 : ∀ j, ρ (n + 1) j = none) : Mt G m_P_init 1 1 8 [vR n] (X F (n + 1) (zr σ n) (zq ρ n)) (fun r h' => r = none ∧ h' = X F (n + 2) σ ρ) := by
  refine Mt.of' (Ls := [some (vR n)]) (by decide) (by simp [ct]) (Nat.le_of_ble_eq_true rfl) rfl ?_
  have h66 := SH_lt hs1
  refine E_aload_n d_P_init_0 rfl rfl ?_
  refine E_objInit d_P_init_1 w_P_3 (by decide) (Nat.le_of_ble_eq_true rfl) ?_
  refine E_aload_n d_P_init_4 rfl rfl ?_
  refine E_bipush (v := 8) d_P_init_5 (by decide) ?_
  refine N_A0 (n := n + 1) (N := 8) (σ' := zr σ n) (ρ' := zq ρ n) d_P_init_7 hs1 rfl (by decide) (by decide) (by decide) (fun _ _ => rfl) (fun _ _ => rfl) (fun j => by rw [zr_ne _ (by omega)]; exact s1 j) (fun j => by rw [zq_ne _ (by omega)]; exact r1 j) ?_
  refine P_Q (n := n + 2) (k := n) (ρ' := up3 (zq ρ n) n 0 (some (n + 1))) d_P_init_9 f_P_9 (by omega) (by omega) hs0 (by decide) rfl rfl rfl rfl (fun _ _ => rfl) ?_
  refine Ev_AG (h' := X F (n + 2) σ ρ) (AG_X (by omega) (fun k hk => ?_) (fun k hk => ?_)) (E_return d_P_init_12 rfl rfl ⟨rfl, rfl⟩)
  · by_cases e0 : k = n
    · rw [e0]
      funext j
      rw [s0, zr_at]
    · rw [zr_ne _ e0]
  · by_cases e0 : k = n
    · rw [e0]
      funext j
      rw [r0]
      by_cases j0 : j = 0
      · rw [j0, up3_at, if_pos rfl]
      · rw [up3_col _ _ _ j0, zq_at, if_neg j0]
    · rw [up3_row _ _ _ e0, zq_ne _ e0]
theorem c_ROW_init {G : iG} {F n : Nat} {σ : Nat → Nat → Int32} {ρ : Nat → Nat → Option Nat} (hs0 : (SH F)[n]? = some (4 + 4, 2)) (hs1 : (SH F)[n + 1]? = some (0, 8)) (s0 : ∀ j, σ n j = 0) (s1 : ∀ j, σ (n + 1) j = 0) (r0 : ∀ j, ρ n j = if j = 0 then some (n + 1) else none) (r1 : ∀ j, ρ (n + 1) j = none) : Mt G m_ROW_init 1 1 8 [vR n] (X F (n + 1) (zr σ n) (zq ρ n)) (fun r h' => r = none ∧ h' = X F (n + 2) σ ρ) := by
  refine Mt.of' (Ls := [some (vR n)]) (by decide) (by simp [ct]) (Nat.le_of_ble_eq_true rfl) rfl ?_
  have h66 := SH_lt hs1
  refine E_aload_n d_ROW_init_0 rfl rfl ?_
  refine E_objInit d_ROW_init_1 w_ROW_3 (by decide) (Nat.le_of_ble_eq_true rfl) ?_
  refine E_aload_n d_ROW_init_4 rfl rfl ?_
  refine E_bipush (v := 8) d_ROW_init_5 (by decide) ?_
  refine N_A0 (n := n + 1) (N := 8) (σ' := zr σ n) (ρ' := zq ρ n) d_ROW_init_7 hs1 rfl (by decide) (by decide) (by decide) (fun _ _ => rfl) (fun _ _ => rfl) (fun j => by rw [zr_ne _ (by omega)]; exact s1 j) (fun j => by rw [zq_ne _ (by omega)]; exact r1 j) ?_
  refine P_Q (n := n + 2) (k := n) (ρ' := up3 (zq ρ n) n 0 (some (n + 1))) d_ROW_init_9 f_ROW_9 (by omega) (by omega) hs0 (by decide) rfl rfl rfl rfl (fun _ _ => rfl) ?_
  refine Ev_AG (h' := X F (n + 2) σ ρ) (AG_X (by omega) (fun k hk => ?_) (fun k hk => ?_)) (E_return d_ROW_init_12 rfl rfl ⟨rfl, rfl⟩)
  · by_cases e0 : k = n
    · rw [e0]
      funext j
      rw [s0, zr_at]
    · rw [zr_ne _ e0]
  · by_cases e0 : k = n
    · rw [e0]
      funext j
      rw [r0]
      by_cases j0 : j = 0
      · rw [j0, up3_at, if_pos rfl]
      · rw [up3_col _ _ _ j0, zq_at, if_neg j0]
    · rw [up3_row _ _ _ e0, zq_ne _ e0]
theorem c_MEM_init {G : iG} {F n : Nat} {σ : Nat → Nat → Int32} {ρ : Nat → Nat → Option Nat} (hF : F ≤ 40) (hs0 : (SH F)[n]? = some (1 + 4, 3)) (hs1 : (SH F)[n + 1]? = some (0, 16 * F)) (hs2 : (SH F)[n + 2]? = some (1, F)) (s0 : ∀ j, σ n j = if j = 2 then nI F else 0) (s1 : ∀ j, σ (n + 1) j = 0) (s2 : ∀ j, σ (n + 2) j = 0) (r0 : ∀ j, ρ n j = if j < 2 then some (n + 1 + j) else none) (r1 : ∀ j, ρ (n + 1) j = none) (r2 : ∀ j, ρ (n + 2) j = none) : Mt G m_MEM_init 1 2 680 [vR n, vI (nI F)] (X F (n + 1) (zr σ n) (zq ρ n)) (fun r h' => r = none ∧ h' = X F (n + 3) σ ρ) := by
  refine Mt.of' (Ls := [some (vR n), some (vI (nI F))]) (by decide) (by simp [ct]) (Nat.le_of_ble_eq_true rfl) rfl ?_
  have h66 := SH_lt hs2
  refine E_aload_n d_MEM_init_0 rfl rfl ?_
  refine E_objInit d_MEM_init_1 w_MEM_3 (by decide) (Nat.le_of_ble_eq_true rfl) ?_
  refine E_aload_n d_MEM_init_4 rfl rfl ?_
  refine E_iload_n d_MEM_init_5 rfl ?_
  refine E_bipush (v := 16) d_MEM_init_6 (by decide) ?_
  refine E_imul d_MEM_init_8 ?_
  refine E_tp (y := nI (F * 16)) (pk_mul F 16) ?_
  refine N_A0 (n := n + 1) (N := 16 * F) (σ' := zr σ n) (ρ' := zq ρ n) d_MEM_init_9 hs1 (by rw [Nat.mul_comm]) (by omega) (by decide) (by omega) (fun _ _ => rfl) (fun _ _ => rfl) (fun j => by rw [zr_ne _ (by omega)]; exact s1 j) (fun j => by rw [zq_ne _ (by omega)]; exact r1 j) ?_
  refine P_Q (n := n + 2) (k := n) (ρ' := up3 (zq ρ n) n 0 (some (n + 1))) d_MEM_init_11 f_MEM_9 (by omega) (by omega) hs0 (by decide) rfl rfl rfl rfl (fun _ _ => rfl) ?_
  refine E_aload_n d_MEM_init_14 rfl rfl ?_
  refine E_iload_n d_MEM_init_15 rfl ?_
  refine N_A1 (n := n + 2) (N := F) (σ' := zr σ n) (ρ' := up3 (zq ρ n) n 0 (some (n + 1))) d_MEM_init_16 hs2 rfl (by omega) (by decide) (by omega) (fun _ _ => rfl) (fun _ _ => rfl) (fun j => by rw [zr_ne _ (by omega)]; exact s2 j) (fun j => by rw [up3_row _ _ _ (by omega), zq_ne _ (by omega)]; exact r2 j) ?_
  refine P_Q (n := n + 3) (k := n) (ρ' := up3 (up3 (zq ρ n) n 0 (some (n + 1))) n 1 (some (n + 2))) d_MEM_init_18 f_MEM_15 (by omega) (by omega) hs0 (by decide) rfl rfl rfl rfl (fun _ _ => rfl) ?_
  refine E_aload_n d_MEM_init_21 rfl rfl ?_
  refine E_iload_n d_MEM_init_22 rfl ?_
  refine P_I (n := n + 3) (k := n) (σ' := up2 (zr σ n) n 2 (nI F)) d_MEM_init_23 f_MEM_19 (by omega) (by omega) hs0 (by decide) rfl rfl (fun _ _ => rfl) ?_
  refine Ev_AG (h' := X F (n + 3) σ ρ) (AG_X (by omega) (fun k hk => ?_) (fun k hk => ?_)) (E_return d_MEM_init_26 rfl rfl ⟨rfl, rfl⟩)
  · by_cases e0 : k = n
    · rw [e0]
      funext j
      rw [s0]
      by_cases ej : j = 2
      · rw [ej, up2_at, if_pos rfl]
      · rw [up2_col _ _ _ ej, if_neg ej, zr_at]
    · rw [up2_row _ _ _ e0, zr_ne _ e0]
  · by_cases e0 : k = n
    · rw [e0]
      funext j
      rw [r0]
      by_cases j1 : j = 1
      · rw [j1, up3_at, if_pos (by decide)]
      · rw [up3_col _ _ _ j1]
        by_cases j0 : j = 0
        · rw [j0, up3_at, if_pos (by decide)]
        · rw [up3_col _ _ _ j0, zq_at, if_neg (by omega)]
    · rw [up3_row _ _ _ e0, up3_row _ _ _ e0, zq_ne _ e0]

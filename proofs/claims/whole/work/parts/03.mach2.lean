section EV
variable {G : iG} {m : iM} {d ac az pc : Nat} {Ls : List (Option iV)} {st : List iV} {h : iH} {Q : Option iV → iH → Prop}
theorem E_iconst {n : Int} {v : Int32} (hd : decode m.2.1 pc = .ok (.iconst n, 1)) (hv : Int32.ofInt n = v) (k : Ev G m d ac az (pc + 1) Ls (vI v :: st) h Q) : Ev G m d ac az pc Ls (st) h Q := by
  intro p l e R s mid args below meth c H locs cells slots Z ls a1 a2 a3 a4 a5 a6 a7 a8
  exact lv_iconst a1.1 a1.2.1 hd hv (k p l e R s mid args below meth c H locs cells slots Z ls a1 a2 a3 a4 a5 a6 a7 a8)
theorem E_bipush {n : Int} {v : Int32} (hd : decode m.2.1 pc = .ok (.bipush n, 2)) (hv : (Int8.ofInt n).toInt32 = v) (k : Ev G m d ac az (pc + 2) Ls (vI v :: st) h Q) : Ev G m d ac az pc Ls (st) h Q := by
  intro p l e R s mid args below meth c H locs cells slots Z ls a1 a2 a3 a4 a5 a6 a7 a8
  exact lv_bipush a1.1 a1.2.1 hd hv (k p l e R s mid args below meth c H locs cells slots Z ls a1 a2 a3 a4 a5 a6 a7 a8)
theorem E_sipush {n : Int} {v : Int32} (hd : decode m.2.1 pc = .ok (.sipush n, 3)) (hv : (Int16.ofInt n).toInt32 = v) (k : Ev G m d ac az (pc + 3) Ls (vI v :: st) h Q) : Ev G m d ac az pc Ls (st) h Q := by
  intro p l e R s mid args below meth c H locs cells slots Z ls a1 a2 a3 a4 a5 a6 a7 a8
  exact lv_sipush a1.1 a1.2.1 hd hv (k p l e R s mid args below meth c H locs cells slots Z ls a1 a2 a3 a4 a5 a6 a7 a8)
theorem E_iload_n {i : Fin 4} {x : Int32} (hd : decode m.2.1 pc = .ok (.iload_n i, 1)) (hl : Ls[(i : Nat)]? = some (some (vI x))) (k : Ev G m d ac az (pc + 1) Ls (vI x :: st) h Q) : Ev G m d ac az pc Ls (st) h Q := by
  intro p l e R s mid args below meth c H locs cells slots Z ls a1 a2 a3 a4 a5 a6 a7 a8
  exact lv_iload_n a1.1 a1.2.1 hd rfl (lh_at a5 hl) (k p l e R s mid args below meth c H locs cells slots Z ls a1 a2 a3 a4 a5 a6 a7 a8)
theorem E_iload {i : Nat} {x : Int32} (hd : decode m.2.1 pc = .ok (.iload i, 2)) (hl : Ls[i]? = some (some (vI x))) (k : Ev G m d ac az (pc + 2) Ls (vI x :: st) h Q) : Ev G m d ac az pc Ls (st) h Q := by
  intro p l e R s mid args below meth c H locs cells slots Z ls a1 a2 a3 a4 a5 a6 a7 a8
  exact lv_iload a1.1 a1.2.1 hd (lh_at a5 hl) (k p l e R s mid args below meth c H locs cells slots Z ls a1 a2 a3 a4 a5 a6 a7 a8)
theorem E_aload_n {i : Fin 4} {v : iV} (hd : decode m.2.1 pc = .ok (.aload_n i, 1)) (hl : Ls[(i : Nat)]? = some (some v)) (hv : rv v = true) (k : Ev G m d ac az (pc + 1) Ls (v :: st) h Q) : Ev G m d ac az pc Ls st h Q := by
  intro p l e R s mid args below meth c H locs cells slots Z ls a1 a2 a3 a4 a5 a6 a7 a8
  have hat := lh_at a5 hl
  have K := (k p l e R s mid args below meth c H locs cells slots Z ls a1 a2 a3 a4 a5 a6 a7 a8)
  rcases v with x | r | x | u
  · cases hv
  · cases r with
    | none => exact lv_aload_nN a1.1 a1.2.1 hd rfl hat K
    | some q => exact lv_aload_n a1.1 a1.2.1 hd rfl hat K
  · cases hv
  · exact lv_aload_n a1.1 a1.2.1 hd rfl hat K
theorem E_aload {i : Nat} {v : iV} (hd : decode m.2.1 pc = .ok (.aload i, 2)) (hl : Ls[i]? = some (some v)) (hv : rv v = true) (k : Ev G m d ac az (pc + 2) Ls (v :: st) h Q) : Ev G m d ac az pc Ls st h Q := by
  intro p l e R s mid args below meth c H locs cells slots Z ls a1 a2 a3 a4 a5 a6 a7 a8
  have hat := lh_at a5 hl
  have K := (k p l e R s mid args below meth c H locs cells slots Z ls a1 a2 a3 a4 a5 a6 a7 a8)
  rcases v with x | r | x | u
  · cases hv
  · cases r with
    | none => exact lv_aloadN a1.1 a1.2.1 hd hat K
    | some q => exact lv_aload a1.1 a1.2.1 hd hat K
  · cases hv
  · exact lv_aload a1.1 a1.2.1 hd hat K
theorem E_istore_n {i : Fin 4} {x : Int32} (hd : decode m.2.1 pc = .ok (.istore_n i, 1)) (hi : (i : Nat) < m.2.2.1) (k : Ev G m d ac az (pc + 1) (Ls.set (i : Nat) (some (vI x))) st h Q) : Ev G m d ac az pc Ls (vI x :: st) h Q := by
  intro p l e R s mid args below meth c H locs cells slots Z ls a1 a2 a3 a4 a5 a6 a7 a8
  exact lv_istore_n a1.1 a1.2.1 hd rfl a5.1 hi rfl (fun ls' hl' => k p l e R s mid args below meth c H locs cells slots Z ls' a1 a2 a3 a4 (lh_st (v := vI x) a5 rfl hl') a6 a7 a8)
theorem E_istore {i : Nat} {x : Int32} (hd : decode m.2.1 pc = .ok (.istore i, 2)) (hi : i < m.2.2.1) (k : Ev G m d ac az (pc + 2) (Ls.set i (some (vI x))) st h Q) : Ev G m d ac az pc Ls (vI x :: st) h Q := by
  intro p l e R s mid args below meth c H locs cells slots Z ls a1 a2 a3 a4 a5 a6 a7 a8
  exact lv_istore a1.1 a1.2.1 hd a5.1 hi rfl (fun ls' hl' => k p l e R s mid args below meth c H locs cells slots Z ls' a1 a2 a3 a4 (lh_st (v := vI x) a5 rfl hl') a6 a7 a8)
theorem E_astore_n {i : Fin 4} {v : iV} (hd : decode m.2.1 pc = .ok (.astore_n i, 1)) (hi : (i : Nat) < m.2.2.1) (hv : rv v = true) (k : Ev G m d ac az (pc + 1) (Ls.set (i : Nat) (some v)) st h Q) : Ev G m d ac az pc Ls (v :: st) h Q := by
  intro p l e R s mid args below meth c H locs cells slots Z ls a1 a2 a3 a4 a5 a6 a7 a8
  rcases v with x | r | x | u
  · cases hv
  · cases r with
    | none => exact lv_astore_nN a1.1 a1.2.1 hd rfl a5.1 hi rfl (fun ls' hl' => k p l e R s mid args below meth c H locs cells slots Z ls' a1 a2 a3 a4 (lh_st (v := vN) a5 rfl hl') a6 a7 a8)
    | some q => exact lv_astore_n a1.1 a1.2.1 hd rfl a5.1 hi rfl (fun ls' hl' => k p l e R s mid args below meth c H locs cells slots Z ls' a1 a2 a3 a4 (lh_st (v := vR q) a5 rfl hl') a6 a7 a8)
  · cases hv
  · exact lv_astore_n a1.1 a1.2.1 hd rfl a5.1 hi rfl (fun ls' hl' => k p l e R s mid args below meth c H locs cells slots Z ls' a1 a2 a3 a4 (lh_st (v := vS) a5 rfl hl') a6 a7 a8)
theorem E_astore {i : Nat} {v : iV} (hd : decode m.2.1 pc = .ok (.astore i, 2)) (hi : i < m.2.2.1) (hv : rv v = true) (k : Ev G m d ac az (pc + 2) (Ls.set i (some v)) st h Q) : Ev G m d ac az pc Ls (v :: st) h Q := by
  intro p l e R s mid args below meth c H locs cells slots Z ls a1 a2 a3 a4 a5 a6 a7 a8
  rcases v with x | r | x | u
  · cases hv
  · cases r with
    | none => exact lv_astoreN a1.1 a1.2.1 hd a5.1 hi rfl (fun ls' hl' => k p l e R s mid args below meth c H locs cells slots Z ls' a1 a2 a3 a4 (lh_st (v := vN) a5 rfl hl') a6 a7 a8)
    | some q => exact lv_astore a1.1 a1.2.1 hd a5.1 hi rfl (fun ls' hl' => k p l e R s mid args below meth c H locs cells slots Z ls' a1 a2 a3 a4 (lh_st (v := vR q) a5 rfl hl') a6 a7 a8)
  · cases hv
  · exact lv_astore a1.1 a1.2.1 hd a5.1 hi rfl (fun ls' hl' => k p l e R s mid args below meth c H locs cells slots Z ls' a1 a2 a3 a4 (lh_st (v := vS) a5 rfl hl') a6 a7 a8)
theorem E_iinc {i : Nat} {n : Int} {x v : Int32} (hd : decode m.2.1 pc = .ok (.iinc i n, 3)) (hl : Ls[i]? = some (some (vI x))) (hv : x + Int32.ofInt n = v) (hi : i < m.2.2.1) (k : Ev G m d ac az (pc + 3) (Ls.set i (some (vI v))) st h Q) : Ev G m d ac az pc Ls st h Q := by
  intro p l e R s mid args below meth c H locs cells slots Z ls a1 a2 a3 a4 a5 a6 a7 a8
  obtain ⟨j, hj⟩ := List.getElem?_of_mem (lz_mem (G := G) Ls 0 i (vI x) hl)
  rw [Nat.zero_add] at hj
  exact lv_iinc a1.1 a1.2.1 hd a5.1 hj hv hi rfl (fun ls' hl' => k p l e R s mid args below meth c H locs cells slots Z ls' a1 a2 a3 a4 (lh_st (v := vI v) a5 rfl hl') a6 a7 a8)
theorem E_iadd {x y : Int32} (hd : decode m.2.1 pc = .ok (.iadd, 1))  (k : Ev G m d ac az (pc + 1) Ls (vI (x + y) :: st) h Q) : Ev G m d ac az pc Ls (vI y :: vI x :: st) h Q := by
  intro p l e R s mid args below meth c H locs cells slots Z ls a1 a2 a3 a4 a5 a6 a7 a8
  exact lv_iadd a1.1 a1.2.1 hd  (k p l e R s mid args below meth c H locs cells slots Z ls a1 a2 a3 a4 a5 a6 a7 a8)
theorem E_isub {x y : Int32} (hd : decode m.2.1 pc = .ok (.isub, 1))  (k : Ev G m d ac az (pc + 1) Ls (vI (x - y) :: st) h Q) : Ev G m d ac az pc Ls (vI y :: vI x :: st) h Q := by
  intro p l e R s mid args below meth c H locs cells slots Z ls a1 a2 a3 a4 a5 a6 a7 a8
  exact lv_isub a1.1 a1.2.1 hd  (k p l e R s mid args below meth c H locs cells slots Z ls a1 a2 a3 a4 a5 a6 a7 a8)
theorem E_imul {x y : Int32} (hd : decode m.2.1 pc = .ok (.imul, 1))  (k : Ev G m d ac az (pc + 1) Ls (vI (x * y) :: st) h Q) : Ev G m d ac az pc Ls (vI y :: vI x :: st) h Q := by
  intro p l e R s mid args below meth c H locs cells slots Z ls a1 a2 a3 a4 a5 a6 a7 a8
  exact lv_imul a1.1 a1.2.1 hd  (k p l e R s mid args below meth c H locs cells slots Z ls a1 a2 a3 a4 a5 a6 a7 a8)
theorem E_iand {x y : Int32} (hd : decode m.2.1 pc = .ok (.iand, 1))  (k : Ev G m d ac az (pc + 1) Ls (vI (x &&& y) :: st) h Q) : Ev G m d ac az pc Ls (vI y :: vI x :: st) h Q := by
  intro p l e R s mid args below meth c H locs cells slots Z ls a1 a2 a3 a4 a5 a6 a7 a8
  exact lv_iand a1.1 a1.2.1 hd  (k p l e R s mid args below meth c H locs cells slots Z ls a1 a2 a3 a4 a5 a6 a7 a8)
theorem E_ior {x y : Int32} (hd : decode m.2.1 pc = .ok (.ior, 1))  (k : Ev G m d ac az (pc + 1) Ls (vI (x ||| y) :: st) h Q) : Ev G m d ac az pc Ls (vI y :: vI x :: st) h Q := by
  intro p l e R s mid args below meth c H locs cells slots Z ls a1 a2 a3 a4 a5 a6 a7 a8
  exact lv_ior a1.1 a1.2.1 hd  (k p l e R s mid args below meth c H locs cells slots Z ls a1 a2 a3 a4 a5 a6 a7 a8)
theorem E_ixor {x y : Int32} (hd : decode m.2.1 pc = .ok (.ixor, 1))  (k : Ev G m d ac az (pc + 1) Ls (vI (x ^^^ y) :: st) h Q) : Ev G m d ac az pc Ls (vI y :: vI x :: st) h Q := by
  intro p l e R s mid args below meth c H locs cells slots Z ls a1 a2 a3 a4 a5 a6 a7 a8
  exact lv_ixor a1.1 a1.2.1 hd  (k p l e R s mid args below meth c H locs cells slots Z ls a1 a2 a3 a4 a5 a6 a7 a8)
theorem E_ishl {x y : Int32} (hd : decode m.2.1 pc = .ok (.ishl, 1))  (k : Ev G m d ac az (pc + 1) Ls (vI (x <<< (y &&& 31)) :: st) h Q) : Ev G m d ac az pc Ls (vI y :: vI x :: st) h Q := by
  intro p l e R s mid args below meth c H locs cells slots Z ls a1 a2 a3 a4 a5 a6 a7 a8
  exact lv_ishl a1.1 a1.2.1 hd  (k p l e R s mid args below meth c H locs cells slots Z ls a1 a2 a3 a4 a5 a6 a7 a8)
theorem E_ishr {x y : Int32} (hd : decode m.2.1 pc = .ok (.ishr, 1))  (k : Ev G m d ac az (pc + 1) Ls (vI (x >>> (y &&& 31)) :: st) h Q) : Ev G m d ac az pc Ls (vI y :: vI x :: st) h Q := by
  intro p l e R s mid args below meth c H locs cells slots Z ls a1 a2 a3 a4 a5 a6 a7 a8
  exact lv_ishr a1.1 a1.2.1 hd  (k p l e R s mid args below meth c H locs cells slots Z ls a1 a2 a3 a4 a5 a6 a7 a8)
theorem E_iushr {x y : Int32} (hd : decode m.2.1 pc = .ok (.iushr, 1))  (k : Ev G m d ac az (pc + 1) Ls (vI ((x.toUInt32 >>> (y.toUInt32 &&& Int32.toUInt32 31)).toInt32) :: st) h Q) : Ev G m d ac az pc Ls (vI y :: vI x :: st) h Q := by
  intro p l e R s mid args below meth c H locs cells slots Z ls a1 a2 a3 a4 a5 a6 a7 a8
  exact lv_iushr a1.1 a1.2.1 hd rfl (k p l e R s mid args below meth c H locs cells slots Z ls a1 a2 a3 a4 a5 a6 a7 a8)
theorem E_idiv {x y : Int32} (hd : decode m.2.1 pc = .ok (.idiv, 1)) (hne : ¬ y = 0) (k : Ev G m d ac az (pc + 1) Ls (vI (x / y) :: st) h Q) : Ev G m d ac az pc Ls (vI y :: vI x :: st) h Q := by
  intro p l e R s mid args below meth c H locs cells slots Z ls a1 a2 a3 a4 a5 a6 a7 a8
  exact lv_idiv a1.1 a1.2.1 hd hne (k p l e R s mid args below meth c H locs cells slots Z ls a1 a2 a3 a4 a5 a6 a7 a8)
theorem E_irem {x y : Int32} (hd : decode m.2.1 pc = .ok (.irem, 1)) (hne : ¬ y = 0) (k : Ev G m d ac az (pc + 1) Ls (vI (x - x / y * y) :: st) h Q) : Ev G m d ac az pc Ls (vI y :: vI x :: st) h Q := by
  intro p l e R s mid args below meth c H locs cells slots Z ls a1 a2 a3 a4 a5 a6 a7 a8
  exact lv_irem a1.1 a1.2.1 hd hne (k p l e R s mid args below meth c H locs cells slots Z ls a1 a2 a3 a4 a5 a6 a7 a8)
theorem E_i2l {x : Int32} (hd : decode m.2.1 pc = .ok (.i2l, 1))  (k : Ev G m d ac az (pc + 1) Ls (vL x.toInt64 :: st) h Q) : Ev G m d ac az pc Ls (vI x :: st) h Q := by
  intro p l e R s mid args below meth c H locs cells slots Z ls a1 a2 a3 a4 a5 a6 a7 a8
  exact lv_i2l a1.1 a1.2.1 hd rfl (k p l e R s mid args below meth c H locs cells slots Z ls a1 a2 a3 a4 a5 a6 a7 a8)
theorem E_land {x y : Int64} (hd : decode m.2.1 pc = .ok (.land, 1))  (k : Ev G m d ac az (pc + 1) Ls (vL (x &&& y) :: st) h Q) : Ev G m d ac az pc Ls (vL y :: vL x :: st) h Q := by
  intro p l e R s mid args below meth c H locs cells slots Z ls a1 a2 a3 a4 a5 a6 a7 a8
  exact lv_land a1.1 a1.2.1 hd  (k p l e R s mid args below meth c H locs cells slots Z ls a1 a2 a3 a4 a5 a6 a7 a8)
theorem E_lcmp {x y : Int64} (hd : decode m.2.1 pc = .ok (.lcmp, 1))  (k : Ev G m d ac az (pc + 1) Ls (vI (lg_cmp x y) :: st) h Q) : Ev G m d ac az pc Ls (vL y :: vL x :: st) h Q := by
  intro p l e R s mid args below meth c H locs cells slots Z ls a1 a2 a3 a4 a5 a6 a7 a8
  exact W.lcmp a1.1 a1.2.1 hd  (k p l e R s mid args below meth c H locs cells slots Z ls a1 a2 a3 a4 a5 a6 a7 a8)
theorem E_null  (hd : decode m.2.1 pc = .ok (.aconst_null, 1))  (k : Ev G m d ac az (pc + 1) Ls (vN :: st) h Q) : Ev G m d ac az pc Ls (st) h Q := by
  intro p l e R s mid args below meth c H locs cells slots Z ls a1 a2 a3 a4 a5 a6 a7 a8
  exact lv_null a1.1 a1.2.1 hd  (k p l e R s mid args below meth c H locs cells slots Z ls a1 a2 a3 a4 a5 a6 a7 a8)
theorem E_dup {v : iV} (hd : decode m.2.1 pc = .ok (.dup, 1)) (hv : ct v = 1) (k : Ev G m d ac az (pc + 1) Ls (v :: v :: st) h Q) : Ev G m d ac az pc Ls (v :: st) h Q := by
  intro p l e R s mid args below meth c H locs cells slots Z ls a1 a2 a3 a4 a5 a6 a7 a8
  exact lv_dup a1.1 a1.2.1 hd ((tv_ct G v).trans hv) (k p l e R s mid args below meth c H locs cells slots Z ls a1 a2 a3 a4 a5 a6 a7 a8)
theorem E_pop {v : iV} (hd : decode m.2.1 pc = .ok (.pop, 1)) (hv : ct v = 1) (k : Ev G m d ac az (pc + 1) Ls st h Q) : Ev G m d ac az pc Ls (v :: st) h Q := by
  intro p l e R s mid args below meth c H locs cells slots Z ls a1 a2 a3 a4 a5 a6 a7 a8
  exact lv_pop a1.1 a1.2.1 hd ((tv_ct G v).trans hv) (k p l e R s mid args below meth c H locs cells slots Z ls a1 a2 a3 a4 a5 a6 a7 a8)
theorem E_dup2 {v w : iV} (hd : decode m.2.1 pc = .ok (.dup2, 1)) (hv : ct v = 1) (hw : ct w = 1) (k : Ev G m d ac az (pc + 1) Ls (v :: w :: v :: w :: st) h Q) : Ev G m d ac az pc Ls (v :: w :: st) h Q := by
  intro p l e R s mid args below meth c H locs cells slots Z ls a1 a2 a3 a4 a5 a6 a7 a8
  exact lv_dup2_11 a1.1 a1.2.1 hd ((tv_ct G v).trans hv) ((tv_ct G w).trans hw) (k p l e R s mid args below meth c H locs cells slots Z ls a1 a2 a3 a4 a5 a6 a7 a8)
theorem E_icmp_eq {x y : Int32} {off : Int} {tgt : Nat} (hd : decode m.2.1 pc = .ok (.if_icmp .eq off, 3)) (ht : (pc : Int) + off = (tgt : Int)) (kt : x = y → Ev G m d ac az tgt Ls st h Q) (kf : ¬ x = y → Ev G m d ac az (pc + 3) Ls st h Q) : Ev G m d ac az pc Ls (vI y :: vI x :: st) h Q := by
  intro p l e R s mid args below meth c H locs cells slots Z ls a1 a2 a3 a4 a5 a6 a7 a8
  exact lv_icmp_eq a1.1 a1.2.1 hd ht (fun z => kt z p l e R s mid args below meth c H locs cells slots Z ls a1 a2 a3 a4 a5 a6 a7 a8) (fun z => kf z p l e R s mid args below meth c H locs cells slots Z ls a1 a2 a3 a4 a5 a6 a7 a8)
theorem E_if_eq {x : Int32} {off : Int} {tgt : Nat} (hd : decode m.2.1 pc = .ok (.ifCond .eq off, 3)) (ht : (pc : Int) + off = (tgt : Int)) (kt : x = 0 → Ev G m d ac az tgt Ls st h Q) (kf : ¬ x = 0 → Ev G m d ac az (pc + 3) Ls st h Q) : Ev G m d ac az pc Ls (vI x :: st) h Q := by
  intro p l e R s mid args below meth c H locs cells slots Z ls a1 a2 a3 a4 a5 a6 a7 a8
  exact lv_if_eq a1.1 a1.2.1 hd ht (fun z => kt z p l e R s mid args below meth c H locs cells slots Z ls a1 a2 a3 a4 a5 a6 a7 a8) (fun z => kf z p l e R s mid args below meth c H locs cells slots Z ls a1 a2 a3 a4 a5 a6 a7 a8)
theorem E_icmp_ne {x y : Int32} {off : Int} {tgt : Nat} (hd : decode m.2.1 pc = .ok (.if_icmp .ne off, 3)) (ht : (pc : Int) + off = (tgt : Int)) (kt : ¬ x = y → Ev G m d ac az tgt Ls st h Q) (kf : x = y → Ev G m d ac az (pc + 3) Ls st h Q) : Ev G m d ac az pc Ls (vI y :: vI x :: st) h Q := by
  intro p l e R s mid args below meth c H locs cells slots Z ls a1 a2 a3 a4 a5 a6 a7 a8
  exact lv_icmp_ne a1.1 a1.2.1 hd ht (fun z => kt z p l e R s mid args below meth c H locs cells slots Z ls a1 a2 a3 a4 a5 a6 a7 a8) (fun z => kf z p l e R s mid args below meth c H locs cells slots Z ls a1 a2 a3 a4 a5 a6 a7 a8)
theorem E_if_ne {x : Int32} {off : Int} {tgt : Nat} (hd : decode m.2.1 pc = .ok (.ifCond .ne off, 3)) (ht : (pc : Int) + off = (tgt : Int)) (kt : ¬ x = 0 → Ev G m d ac az tgt Ls st h Q) (kf : x = 0 → Ev G m d ac az (pc + 3) Ls st h Q) : Ev G m d ac az pc Ls (vI x :: st) h Q := by
  intro p l e R s mid args below meth c H locs cells slots Z ls a1 a2 a3 a4 a5 a6 a7 a8
  exact lv_if_ne a1.1 a1.2.1 hd ht (fun z => kt z p l e R s mid args below meth c H locs cells slots Z ls a1 a2 a3 a4 a5 a6 a7 a8) (fun z => kf z p l e R s mid args below meth c H locs cells slots Z ls a1 a2 a3 a4 a5 a6 a7 a8)
theorem E_icmp_lt {x y : Int32} {off : Int} {tgt : Nat} (hd : decode m.2.1 pc = .ok (.if_icmp .lt off, 3)) (ht : (pc : Int) + off = (tgt : Int)) (kt : x < y → Ev G m d ac az tgt Ls st h Q) (kf : ¬ x < y → Ev G m d ac az (pc + 3) Ls st h Q) : Ev G m d ac az pc Ls (vI y :: vI x :: st) h Q := by
  intro p l e R s mid args below meth c H locs cells slots Z ls a1 a2 a3 a4 a5 a6 a7 a8
  exact lv_icmp_lt a1.1 a1.2.1 hd ht (fun z => kt z p l e R s mid args below meth c H locs cells slots Z ls a1 a2 a3 a4 a5 a6 a7 a8) (fun z => kf z p l e R s mid args below meth c H locs cells slots Z ls a1 a2 a3 a4 a5 a6 a7 a8)
theorem E_if_lt {x : Int32} {off : Int} {tgt : Nat} (hd : decode m.2.1 pc = .ok (.ifCond .lt off, 3)) (ht : (pc : Int) + off = (tgt : Int)) (kt : x < 0 → Ev G m d ac az tgt Ls st h Q) (kf : ¬ x < 0 → Ev G m d ac az (pc + 3) Ls st h Q) : Ev G m d ac az pc Ls (vI x :: st) h Q := by
  intro p l e R s mid args below meth c H locs cells slots Z ls a1 a2 a3 a4 a5 a6 a7 a8
  exact lv_if_lt a1.1 a1.2.1 hd ht (fun z => kt z p l e R s mid args below meth c H locs cells slots Z ls a1 a2 a3 a4 a5 a6 a7 a8) (fun z => kf z p l e R s mid args below meth c H locs cells slots Z ls a1 a2 a3 a4 a5 a6 a7 a8)
theorem E_icmp_ge {x y : Int32} {off : Int} {tgt : Nat} (hd : decode m.2.1 pc = .ok (.if_icmp .ge off, 3)) (ht : (pc : Int) + off = (tgt : Int)) (kt : y ≤ x → Ev G m d ac az tgt Ls st h Q) (kf : ¬ y ≤ x → Ev G m d ac az (pc + 3) Ls st h Q) : Ev G m d ac az pc Ls (vI y :: vI x :: st) h Q := by
  intro p l e R s mid args below meth c H locs cells slots Z ls a1 a2 a3 a4 a5 a6 a7 a8
  exact lv_icmp_ge a1.1 a1.2.1 hd ht (fun z => kt z p l e R s mid args below meth c H locs cells slots Z ls a1 a2 a3 a4 a5 a6 a7 a8) (fun z => kf z p l e R s mid args below meth c H locs cells slots Z ls a1 a2 a3 a4 a5 a6 a7 a8)
theorem E_if_ge {x : Int32} {off : Int} {tgt : Nat} (hd : decode m.2.1 pc = .ok (.ifCond .ge off, 3)) (ht : (pc : Int) + off = (tgt : Int)) (kt : 0 ≤ x → Ev G m d ac az tgt Ls st h Q) (kf : ¬ 0 ≤ x → Ev G m d ac az (pc + 3) Ls st h Q) : Ev G m d ac az pc Ls (vI x :: st) h Q := by
  intro p l e R s mid args below meth c H locs cells slots Z ls a1 a2 a3 a4 a5 a6 a7 a8
  exact lv_if_ge a1.1 a1.2.1 hd ht (fun z => kt z p l e R s mid args below meth c H locs cells slots Z ls a1 a2 a3 a4 a5 a6 a7 a8) (fun z => kf z p l e R s mid args below meth c H locs cells slots Z ls a1 a2 a3 a4 a5 a6 a7 a8)
theorem E_icmp_gt {x y : Int32} {off : Int} {tgt : Nat} (hd : decode m.2.1 pc = .ok (.if_icmp .gt off, 3)) (ht : (pc : Int) + off = (tgt : Int)) (kt : y < x → Ev G m d ac az tgt Ls st h Q) (kf : ¬ y < x → Ev G m d ac az (pc + 3) Ls st h Q) : Ev G m d ac az pc Ls (vI y :: vI x :: st) h Q := by
  intro p l e R s mid args below meth c H locs cells slots Z ls a1 a2 a3 a4 a5 a6 a7 a8
  exact lv_icmp_gt a1.1 a1.2.1 hd ht (fun z => kt z p l e R s mid args below meth c H locs cells slots Z ls a1 a2 a3 a4 a5 a6 a7 a8) (fun z => kf z p l e R s mid args below meth c H locs cells slots Z ls a1 a2 a3 a4 a5 a6 a7 a8)
theorem E_if_gt {x : Int32} {off : Int} {tgt : Nat} (hd : decode m.2.1 pc = .ok (.ifCond .gt off, 3)) (ht : (pc : Int) + off = (tgt : Int)) (kt : 0 < x → Ev G m d ac az tgt Ls st h Q) (kf : ¬ 0 < x → Ev G m d ac az (pc + 3) Ls st h Q) : Ev G m d ac az pc Ls (vI x :: st) h Q := by
  intro p l e R s mid args below meth c H locs cells slots Z ls a1 a2 a3 a4 a5 a6 a7 a8
  exact lv_if_gt a1.1 a1.2.1 hd ht (fun z => kt z p l e R s mid args below meth c H locs cells slots Z ls a1 a2 a3 a4 a5 a6 a7 a8) (fun z => kf z p l e R s mid args below meth c H locs cells slots Z ls a1 a2 a3 a4 a5 a6 a7 a8)
theorem E_icmp_le {x y : Int32} {off : Int} {tgt : Nat} (hd : decode m.2.1 pc = .ok (.if_icmp .le off, 3)) (ht : (pc : Int) + off = (tgt : Int)) (kt : x ≤ y → Ev G m d ac az tgt Ls st h Q) (kf : ¬ x ≤ y → Ev G m d ac az (pc + 3) Ls st h Q) : Ev G m d ac az pc Ls (vI y :: vI x :: st) h Q := by
  intro p l e R s mid args below meth c H locs cells slots Z ls a1 a2 a3 a4 a5 a6 a7 a8
  exact lv_icmp_le a1.1 a1.2.1 hd ht (fun z => kt z p l e R s mid args below meth c H locs cells slots Z ls a1 a2 a3 a4 a5 a6 a7 a8) (fun z => kf z p l e R s mid args below meth c H locs cells slots Z ls a1 a2 a3 a4 a5 a6 a7 a8)
theorem E_if_le {x : Int32} {off : Int} {tgt : Nat} (hd : decode m.2.1 pc = .ok (.ifCond .le off, 3)) (ht : (pc : Int) + off = (tgt : Int)) (kt : x ≤ 0 → Ev G m d ac az tgt Ls st h Q) (kf : ¬ x ≤ 0 → Ev G m d ac az (pc + 3) Ls st h Q) : Ev G m d ac az pc Ls (vI x :: st) h Q := by
  intro p l e R s mid args below meth c H locs cells slots Z ls a1 a2 a3 a4 a5 a6 a7 a8
  exact lv_if_le a1.1 a1.2.1 hd ht (fun z => kt z p l e R s mid args below meth c H locs cells slots Z ls a1 a2 a3 a4 a5 a6 a7 a8) (fun z => kf z p l e R s mid args below meth c H locs cells slots Z ls a1 a2 a3 a4 a5 a6 a7 a8)
theorem E_goto {off : Int} {tgt : Nat} (hd : decode m.2.1 pc = .ok (.goto off, 3)) (ht : (pc : Int) + off = (tgt : Int)) (k : Ev G m d ac az tgt Ls st h Q) : Ev G m d ac az pc Ls st h Q := by
  intro p l e R s mid args below meth c H locs cells slots Z ls a1 a2 a3 a4 a5 a6 a7 a8
  exact lv_goto a1.1 a1.2.1 hd ht (k p l e R s mid args below meth c H locs cells slots Z ls a1 a2 a3 a4 a5 a6 a7 a8)
theorem E_ifnull {r : Option Nat} {off : Int} {tgt : Nat} (hd : decode m.2.1 pc = .ok (.ifnull off, 3)) (ht : (pc : Int) + off = (tgt : Int)) (kt : r = none → Ev G m d ac az tgt Ls st h Q) (kf : ∀ q, r = some q → Ev G m d ac az (pc + 3) Ls st h Q) : Ev G m d ac az pc Ls (vQ r :: st) h Q := by
  intro p l e R s mid args below meth c H locs cells slots Z ls a1 a2 a3 a4 a5 a6 a7 a8
  cases r with
  | none => exact lv_ifnullN a1.1 a1.2.1 hd ht (kt rfl p l e R s mid args below meth c H locs cells slots Z ls a1 a2 a3 a4 a5 a6 a7 a8)
  | some q => exact lv_ifnull a1.1 a1.2.1 hd (kf q rfl p l e R s mid args below meth c H locs cells slots Z ls a1 a2 a3 a4 a5 a6 a7 a8)
theorem E_ifnonnull {r : Option Nat} {off : Int} {tgt : Nat} (hd : decode m.2.1 pc = .ok (.ifnonnull off, 3)) (ht : (pc : Int) + off = (tgt : Int)) (kt : ∀ q, r = some q → Ev G m d ac az tgt Ls st h Q) (kf : r = none → Ev G m d ac az (pc + 3) Ls st h Q) : Ev G m d ac az pc Ls (vQ r :: st) h Q := by
  intro p l e R s mid args below meth c H locs cells slots Z ls a1 a2 a3 a4 a5 a6 a7 a8
  cases r with
  | none => exact lv_ifnonnullN a1.1 a1.2.1 hd (kf rfl p l e R s mid args below meth c H locs cells slots Z ls a1 a2 a3 a4 a5 a6 a7 a8)
  | some q => exact lv_ifnonnull a1.1 a1.2.1 hd ht (kt q rfl p l e R s mid args below meth c H locs cells slots Z ls a1 a2 a3 a4 a5 a6 a7 a8)
theorem E_tsOut {dflt lo hi : Int} {offs : Array Int} {len : Nat} {x : Int32} {tgt : Nat} (hd : decode m.2.1 pc = .ok (.tableswitch dflt lo hi offs, len)) (hx : x.toInt < lo ∨ hi < x.toInt) (ht : (pc : Int) + dflt = (tgt : Int)) (k : Ev G m d ac az tgt Ls st h Q) : Ev G m d ac az pc Ls (vI x :: st) h Q := by
  intro p l e R s mid args below meth c H locs cells slots Z ls a1 a2 a3 a4 a5 a6 a7 a8
  exact lv_tableOut a1.1 a1.2.1 hd hx ht (k p l e R s mid args below meth c H locs cells slots Z ls a1 a2 a3 a4 a5 a6 a7 a8)
theorem E_tsIn {dflt lo hi : Int} {offs : Array Int} {len : Nat} {x : Int32} {off : Int} {tgt : Nat} (hd : decode m.2.1 pc = .ok (.tableswitch dflt lo hi offs, len)) (h1 : ¬ x.toInt < lo) (h2 : ¬ hi < x.toInt) (ho : offs[(x.toInt - lo).toNat]? = some off) (ht : (pc : Int) + off = (tgt : Int)) (k : Ev G m d ac az tgt Ls st h Q) : Ev G m d ac az pc Ls (vI x :: st) h Q := by
  intro p l e R s mid args below meth c H locs cells slots Z ls a1 a2 a3 a4 a5 a6 a7 a8
  exact lv_tableIn a1.1 a1.2.1 hd h1 h2 ho ht (k p l e R s mid args below meth c H locs cells slots Z ls a1 a2 a3 a4 a5 a6 a7 a8)
theorem E_lookup {dflt : Int} {ps : Array (Int × Int)} {len : Nat} {x : Int32} {off : Int} {tgt : Nat} (hd : decode m.2.1 pc = .ok (.lookupswitch dflt ps, len)) (hp : (ps.toList.zip (ps.toList.drop 1)).all (fun (a, next) => a.1 < next.1) = true) (ho : Op.lookupswitch.offset ps.toList dflt x.toInt = off) (ht : (pc : Int) + off = (tgt : Int)) (k : Ev G m d ac az tgt Ls st h Q) : Ev G m d ac az pc Ls (vI x :: st) h Q := by
  intro p l e R s mid args below meth c H locs cells slots Z ls a1 a2 a3 a4 a5 a6 a7 a8
  exact lv_lookup a1.1 a1.2.1 hd hp ho ht (k p l e R s mid args below meth c H locs cells slots Z ls a1 a2 a3 a4 a5 a6 a7 a8)
theorem E_ldc {idx : Nat} {v : Int32} (hd : decode m.2.1 pc = .ok (.ldc idx, 2)) (hc : Jvm.Cond.constant m.1.cls idx v ∈ gw) (k : Ev G m d ac az (pc + 2) Ls (vI v :: st) h Q) : Ev G m d ac az pc Ls st h Q := by
  intro p l e R s mid args below meth c H locs cells slots Z ls a1 a2 a3 a4 a5 a6 a7 a8
  exact lv_ldc a1.1 a1.2.1 a1.2.2.2.1 (a1.2.2.2.2.1 _ hc) hd (k p l e R s mid args below meth c H locs cells slots Z ls a1 a2 a3 a4 a5 a6 a7 a8)
theorem E_ldc2 {idx : Nat} {v : Int64} (hd : decode m.2.1 pc = .ok (.ldc2_w idx, 3)) (hc : Jvm.Cond.constantLong m.1.cls idx v ∈ gw) (k : Ev G m d ac az (pc + 3) Ls (vL v :: st) h Q) : Ev G m d ac az pc Ls st h Q := by
  intro p l e R s mid args below meth c H locs cells slots Z ls a1 a2 a3 a4 a5 a6 a7 a8
  exact lv_ldc2 a1.1 a1.2.1 a1.2.2.2.1 (a1.2.2.2.2.1 _ hc) hd (k p l e R s mid args below meth c H locs cells slots Z ls a1 a2 a3 a4 a5 a6 a7 a8)
theorem E_ireturn {x : Int32} (hd : decode m.2.1 pc = .ok (.ireturn, 1)) (hr : m.2.2.2 = some .int ∨ (m.2.2.2 = some .boolean ∧ (x = 0 ∨ x = 1))) (h0 : ac = 0) (hq : Q (some (vI x)) h) : Ev G m d ac az pc Ls [vI x] h Q := by
  intro p l e R s mid args below meth c H locs cells slots Z ls a1 a2 a3 a4 a5 a6 a7 a8
  subst h0
  exact a8 H locs slots (some (vI x)) h pc ls hq a2 a3 a4 (Nat.le_add_right _ _) (Or.inl ⟨x, rfl, hd, hr⟩)
theorem E_areturn {q : Option Nat} {C : String} (hd : decode m.2.1 pc = .ok (.areturn, 1)) (hr : m.2.2.2 = some (.object C)) (h0 : ac = 0) (hq : Q (some (vQ q)) h) : Ev G m d ac az pc Ls [vQ q] h Q := by
  intro p l e R s mid args below meth c H locs cells slots Z ls a1 a2 a3 a4 a5 a6 a7 a8
  subst h0
  exact a8 H locs slots (some (vQ q)) h pc ls hq a2 a3 a4 (Nat.le_add_right _ _) (Or.inr (Or.inl ⟨q, rfl, hd, C, hr⟩))
theorem E_return (hd : decode m.2.1 pc = .ok (.return_, 1)) (hr : m.2.2.2 = none) (h0 : ac = 0) (hq : Q none h) : Ev G m d ac az pc Ls [] h Q := by
  intro p l e R s mid args below meth c H locs cells slots Z ls a1 a2 a3 a4 a5 a6 a7 a8
  subst h0
  exact a8 H locs slots none h pc ls hq a2 a3 a4 (Nat.le_add_right _ _) (Or.inr (Or.inr ⟨rfl, hd, hr⟩))
/-- pool index idx of class own names field j of class ci -/
def FLk (own : String) (idx ci j : Nat) : Prop := ∃ q : vw_C, cls[ci]? = some q ∧ j < q.2.2 ∧ Cond.fieldLink own idx (q.2.1 j).1 (q.2.1 j).2.1 (q.2.1 j).2.2.1 ∈ gw
def fnl (ci j : Nat) : Bool := match cls[ci]? with
  | some q => (q.2.1 j).2.2.2
  | none => true
def own_ (ci j : Nat) : String := match cls[ci]? with
  | some q => (q.2.1 j).1
  | none => ""
theorem wh_obj {k ci n : Nat} (hk : h.1[k]? = some (ci + 4, n)) : (wh G h)[k]? = some (G.2.2.1 + k, .inr (ci, (List.range n).map (fun j => fv G h k ci j))) := wh_at hk
theorem wh_fld {k ci j n : Nat} (hj : j < n) : ((List.range n).map (fun j => fv G h k ci j))[j]? = some (fv G h k ci j) := by simp [hj]
theorem E_getI {idx ci j k n : Nat} (hd : decode m.2.1 pc = .ok (.getfield idx, 3)) (hf : FLk m.1.cls idx ci j) (hk : h.1[k]? = some (ci + 4, n)) (hj : j < n) (hr : rf ci j = false) (kk : Ev G m d ac az (pc + 3) Ls (vI (h.2.1 k j) :: st) h Q) : Ev G m d ac az pc Ls (vR k :: st) h Q := by
  intro p l e R s mid args below meth c H locs cells slots Z ls a1 a2 a3 a4 a5 a6 a7 a8
  obtain ⟨hx, hb, hml, hown, hts, hK, hX, hg, hfr, hlo, hnm⟩ := id a1
  obtain ⟨⟨C, T, N⟩, hc, hjN, hw⟩ := hf
  exact va_get (D := G.1) (ci := ci) (v := .int (h.2.1 k j)) (C := C) (T := T) (N := N) hx hb hts (cls_in ci _ hc) hown hK.1 a2 k (wh_obj hk) hc j hjN (hts _ hw) (fun _ h9 => h9) (by rw [wh_fld hj, fv, hr]; rfl) hd (kk p l e R s mid args below meth c H locs cells slots Z ls a1 a2 a3 a4 a5 a6 a7 a8)
theorem E_getQ {idx ci j k n : Nat} (hd : decode m.2.1 pc = .ok (.getfield idx, 3)) (hf : FLk m.1.cls idx ci j) (hk : h.1[k]? = some (ci + 4, n)) (hj : j < n) (hr : rf ci j = true) (kk : Ev G m d ac az (pc + 3) Ls (vQ (h.2.2 k j) :: st) h Q) : Ev G m d ac az pc Ls (vR k :: st) h Q := by
  intro p l e R s mid args below meth c H locs cells slots Z ls a1 a2 a3 a4 a5 a6 a7 a8
  obtain ⟨hx, hb, hml, hown, hts, hK, hX, hg, hfr, hlo, hnm⟩ := id a1
  obtain ⟨⟨C, T, N⟩, hc, hjN, hw⟩ := hf
  exact va_get (D := G.1) (ci := ci) (v := va_rf (iw_b G (h.2.2 k j))) (C := C) (T := T) (N := N) hx hb hts (cls_in ci _ hc) hown hK.1 a2 k (wh_obj hk) hc j hjN (hts _ hw) (fun _ h9 => h9) (by rw [wh_fld hj, fv, hr]; rfl) hd (kk p l e R s mid args below meth c H locs cells slots Z ls a1 a2 a3 a4 a5 a6 a7 a8)
theorem fits_i {ci j : Nat} {x : Int32} (ht : tyT ci j = .int ∨ (tyT ci j = .boolean ∧ (x = 0 ∨ x = 1))) : narrow (tyT ci j) (.int x) = .int x ∧ fits (tyT ci j) (.int x) = true ∧ rf ci j = false := by
  rcases ht with ht | ⟨ht, rfl | rfl⟩ <;> (unfold rf; rw [ht]; exact ⟨rfl, rfl, rfl⟩)
theorem fits_q {ci j : Nat} (x : Option Nat) (hr : rf ci j = true) : narrow (tyT ci j) (va_rf (iw_b G x)) = va_rf (iw_b G x) ∧ fits (tyT ci j) (va_rf (iw_b G x)) = true := by
  unfold rf at hr
  generalize tyT ci j = t at hr ⊢
  cases t <;> first | (cases hr; done) | (cases x <;> exact ⟨rfl, rfl⟩)
theorem E_putI {idx ci j k n : Nat} {x : Int32} (hd : decode m.2.1 pc = .ok (.putfield idx, 3)) (hf : FLk m.1.cls idx ci j) (hk : h.1[k]? = some (ci + 4, n)) (hj : j < n) (ht : tyT ci j = .int ∨ (tyT ci j = .boolean ∧ (x = 0 ∨ x = 1))) (hfin : fnl ci j = false) (kk : Ev G m d ac az (pc + 3) Ls st (h.1, up2 h.2.1 k j x, h.2.2) Q) : Ev G m d ac az pc Ls (vI x :: vR k :: st) h Q := by
  intro p l e R s mid args below meth c H locs cells slots Z ls a1 a2 a3 a4 a5 a6 a7 a8
  obtain ⟨hx, hb, hml, hown, hts, hK, hX, hg, hfr, hlo, hnm⟩ := id a1
  obtain ⟨⟨C, T, N⟩, hc, hjN, hw⟩ := hf
  obtain ⟨f1, f2, f3⟩ := fits_i ht
  refine va_put (D := G.1) (ci := ci) (v := .int x) (ty := tyT ci j) (C := C) (T := T) (N := N) hx hb hts (cls_in ci _ hc) (tyT ci) (cls_ty ci _ hc) (cls_nm ci _ hc) hown hK.1 a2 (wh_D G h) a4 k (wh_obj hk) hc j hjN (hts _ hw) (fun _ h9 => h9) (by have := hfin; simp only [fnl, hc] at this; exact this) (cls_ty ci _ hc j hjN) f1 f2 (by simpa using hj) hd (fun H1 locs1 hP1 _ hS1 => ?_)
  rw [wh_set_fi f3 hk] at hP1
  exact kk p l e R s mid args below meth c H1 locs1 cells slots Z ls a1 hP1 a3 hS1 a5 a6 a7 a8
theorem E_putFI {idx ci j k n : Nat} {x : Int32} (hd : decode m.2.1 pc = .ok (.putfield idx, 3)) (hf : FLk m.1.cls idx ci j) (hk : h.1[k]? = some (ci + 4, n)) (hj : j < n) (ht : tyT ci j = .int ∨ (tyT ci j = .boolean ∧ (x = 0 ∨ x = 1))) (hfin : fnl ci j = true) (hin : m.1.name = "<init>") (hown2 : own_ ci j = m.1.cls) (kk : Ev G m d ac az (pc + 3) Ls st (h.1, up2 h.2.1 k j x, h.2.2) Q) : Ev G m d ac az pc Ls (vI x :: vR k :: st) h Q := by
  intro p l e R s mid args below meth c H locs cells slots Z ls a1 a2 a3 a4 a5 a6 a7 a8
  obtain ⟨hx, hb, hml, hown, hts, hK, hX, hg, hfr, hlo, hnm⟩ := id a1
  obtain ⟨⟨C, T, N⟩, hc, hjN, hw⟩ := hf
  obtain ⟨f1, f2, f3⟩ := fits_i ht
  refine va_putF (D := G.1) (ci := ci) (v := .int x) (ty := tyT ci j) (C := C) (T := T) (N := N) hx hb hts (cls_in ci _ hc) (tyT ci) (cls_ty ci _ hc) (cls_nm ci _ hc) hown hK.1 a2 (wh_D G h) a4 k (wh_obj hk) hc j hjN (hts _ hw) (fun _ h9 => h9) (by have := hfin; simp only [fnl, hc] at this; exact this) (hnm.trans hin) (by have := hown2; simp only [own_, hc] at this; exact this) (cls_ty ci _ hc j hjN) f1 f2 (by simpa using hj) hd (fun H1 locs1 hP1 _ hS1 => ?_)
  rw [wh_set_fi f3 hk] at hP1
  exact kk p l e R s mid args below meth c H1 locs1 cells slots Z ls a1 hP1 a3 hS1 a5 a6 a7 a8
theorem E_putFQ {idx ci j k n : Nat} {x : Option Nat} (hd : decode m.2.1 pc = .ok (.putfield idx, 3)) (hf : FLk m.1.cls idx ci j) (hk : h.1[k]? = some (ci + 4, n)) (hj : j < n) (hr : rf ci j = true) (hfin : fnl ci j = true) (hin : m.1.name = "<init>") (hown2 : own_ ci j = m.1.cls) (kk : Ev G m d ac az (pc + 3) Ls st (h.1, h.2.1, up3 h.2.2 k j x) Q) : Ev G m d ac az pc Ls (vQ x :: vR k :: st) h Q := by
  intro p l e R s mid args below meth c H locs cells slots Z ls a1 a2 a3 a4 a5 a6 a7 a8
  obtain ⟨hx, hb, hml, hown, hts, hK, hX, hg, hfr, hlo, hnm⟩ := id a1
  obtain ⟨⟨C, T, N⟩, hc, hjN, hw⟩ := hf
  obtain ⟨f1, f2⟩ := fits_q (G := G) x hr
  refine va_putF (D := G.1) (ci := ci) (v := va_rf (iw_b G x)) (ty := tyT ci j) (C := C) (T := T) (N := N) hx hb hts (cls_in ci _ hc) (tyT ci) (cls_ty ci _ hc) (cls_nm ci _ hc) hown hK.1 a2 (wh_D G h) a4 k (wh_obj hk) hc j hjN (hts _ hw) (fun _ h9 => h9) (by have := hfin; simp only [fnl, hc] at this; exact this) (hnm.trans hin) (by have := hown2; simp only [own_, hc] at this; exact this) (cls_ty ci _ hc j hjN) f1 f2 (by simpa using hj) hd (fun H1 locs1 hP1 _ hS1 => ?_)
  rw [wh_set_fq hr hk] at hP1
  exact kk p l e R s mid args below meth c H1 locs1 cells slots Z ls a1 hP1 a3 hS1 a5 a6 a7 a8
theorem in_of {i : Int32} {j n : Nat} (hi : i = nI j) (hj : j < n) (hn : n < 2 ^ 31) : vp_in i n ∧ i.toNatClampNeg = j := by
  subst hi
  exact ⟨vp_in_nI hj hn, nI_clamp (by omega)⟩
theorem E_iald {i : Int32} {j k n : Nat} (hd : decode m.2.1 pc = .ok (.iaload, 1)) (hk : h.1[k]? = some (0, n)) (hi : i = nI j) (hj : j < n) (hn : n < 2 ^ 31) (kk : Ev G m d ac az (pc + 1) Ls (vI (h.2.1 k j) :: st) h Q) : Ev G m d ac az pc Ls (vI i :: vR k :: st) h Q := by
  intro p l e R s mid args below meth c H locs cells slots Z ls a1 a2 a3 a4 a5 a6 a7 a8
  obtain ⟨hx, hb, hml, hown, hts, hK, hX, hg, hfr, hlo, hnm⟩ := id a1
  obtain ⟨g1, g2⟩ := in_of hi hj hn
  refine va_iald (D := G.1) (cA := G.2.1 0) (n := n) (f := h.2.1 k) hx hb hK.1 a2 k 0 (wh_at hk) rfl g1 hd ?_
  rw [g2]
  exact kk p l e R s mid args below meth c H locs cells slots Z ls a1 a2 a3 a4 a5 a6 a7 a8
theorem E_zald {i : Int32} {j k n : Nat} (hd : decode m.2.1 pc = .ok (.baload, 1)) (hk : h.1[k]? = some (1, n)) (hi : i = nI j) (hj : j < n) (hn : n < 2 ^ 31) (kk : Ev G m d ac az (pc + 1) Ls (vI (h.2.1 k j) :: st) h Q) : Ev G m d ac az pc Ls (vI i :: vR k :: st) h Q := by
  intro p l e R s mid args below meth c H locs cells slots Z ls a1 a2 a3 a4 a5 a6 a7 a8
  obtain ⟨hx, hb, hml, hown, hts, hK, hX, hg, hfr, hlo, hnm⟩ := id a1
  obtain ⟨g1, g2⟩ := in_of hi hj hn
  refine va_zald (D := G.1) (cA := G.2.1 1) (n := n) (f := h.2.1 k) hx hb hK.1 a2 k 1 (wh_at hk) rfl g1 hd ?_
  rw [g2]
  exact kk p l e R s mid args below meth c H locs cells slots Z ls a1 a2 a3 a4 a5 a6 a7 a8
theorem E_iast {i x : Int32} {j k n : Nat} (hd : decode m.2.1 pc = .ok (.iastore, 1)) (hk : h.1[k]? = some (0, n)) (hi : i = nI j) (hj : j < n) (hn : n < 2 ^ 31) (kk : Ev G m d ac az (pc + 1) Ls st (h.1, up2 h.2.1 k j x, h.2.2) Q) : Ev G m d ac az pc Ls (vI x :: vI i :: vR k :: st) h Q := by
  intro p l e R s mid args below meth c H locs cells slots Z ls a1 a2 a3 a4 a5 a6 a7 a8
  obtain ⟨hx, hb, hml, hown, hts, hK, hX, hg, hfr, hlo, hnm⟩ := id a1
  obtain ⟨g1, g2⟩ := in_of hi hj hn
  refine va_iast (D := G.1) (cA := G.2.1 0) (n := n) (f := h.2.1 k) hx hb hK.1 a2 (wh_D G h) a4 k 0 (wh_at hk) rfl g1 hd (fun H1 locs1 hP1 _ hS1 => ?_)
  rw [g2, wh_set_i (Or.inl rfl) hk] at hP1
  exact kk p l e R s mid args below meth c H1 locs1 cells slots Z ls a1 hP1 a3 hS1 a5 a6 a7 a8
theorem E_zast {i x : Int32} {j k n : Nat} (hd : decode m.2.1 pc = .ok (.bastore, 1)) (hk : h.1[k]? = some (1, n)) (hi : i = nI j) (hj : j < n) (hn : n < 2 ^ 31) (hx01 : x = 0 ∨ x = 1) (kk : Ev G m d ac az (pc + 1) Ls st (h.1, up2 h.2.1 k j x, h.2.2) Q) : Ev G m d ac az pc Ls (vI x :: vI i :: vR k :: st) h Q := by
  intro p l e R s mid args below meth c H locs cells slots Z ls a1 a2 a3 a4 a5 a6 a7 a8
  obtain ⟨hx, hb, hml, hown, hts, hK, hX, hg, hfr, hlo, hnm⟩ := id a1
  obtain ⟨g1, g2⟩ := in_of hi hj hn
  have hna : vp_nar .boolean x = x := by rcases hx01 with rfl | rfl <;> rfl
  refine va_zast (D := G.1) (cA := G.2.1 1) (n := n) (f := h.2.1 k) hx hb hK.1 a2 (wh_D G h) a4 k 1 (wh_at hk) rfl g1 hd (fun H1 locs1 hP1 _ hS1 => ?_)
  rw [g2, hna, wh_set_i (Or.inr rfl) hk] at hP1
  exact kk p l e R s mid args below meth c H1 locs1 cells slots Z ls a1 hP1 a3 hS1 a5 a6 a7 a8
theorem E_aald2 {i : Int32} {j k n : Nat} (hd : decode m.2.1 pc = .ok (.aaload, 1)) (hk : h.1[k]? = some (2, n)) (hi : i = nI j) (hj : j < n) (hn : n < 2 ^ 31) (kk : Ev G m d ac az (pc + 1) Ls (vQ (h.2.2 k j) :: st) h Q) : Ev G m d ac az pc Ls (vI i :: vR k :: st) h Q := by
  intro p l e R s mid args below meth c H locs cells slots Z ls a1 a2 a3 a4 a5 a6 a7 a8
  obtain ⟨hx, hb, hml, hown, hts, hK, hX, hg, hfr, hlo, hnm⟩ := id a1
  obtain ⟨g1, g2⟩ := in_of hi hj hn
  refine va_aldq (D := G.1) (cA := G.2.1 2) (C := R_Task) (n := n) (f := fun j => iw_b G (h.2.2 k j)) hx hb hK.1 a2 k 2 (wh_at hk) rfl g1 hd ?_
  rw [g2]
  exact kk p l e R s mid args below meth c H locs cells slots Z ls a1 a2 a3 a4 a5 a6 a7 a8
theorem E_aast2 {i : Int32} {j k n v N ci : Nat} (hd : decode m.2.1 pc = .ok (.aastore, 1)) (hk : h.1[k]? = some (2, n)) (hv : h.1[v]? = some (ci + 4, N)) (hcv : ∃ q : vw_C, cls[ci]? = some q ∧ q.1 = R_Task) (hi : i = nI j) (hj : j < n) (hn : n < 2 ^ 31) (kk : Ev G m d ac az (pc + 1) Ls st (h.1, h.2.1, up3 h.2.2 k j (some v)) Q) : Ev G m d ac az pc Ls (vR v :: vI i :: vR k :: st) h Q := by
  intro p l e R s mid args below meth c H locs cells slots Z ls a1 a2 a3 a4 a5 a6 a7 a8
  obtain ⟨hx, hb, hml, hown, hts, hK, hX, hg, hfr, hlo, hnm⟩ := id a1
  obtain ⟨g1, g2⟩ := in_of hi hj hn
  obtain ⟨q, hc, hqn⟩ := hcv
  refine va_astq (D := G.1) (cA := G.2.1 2) (r := q) (n := n) (f := fun j => iw_b G (h.2.2 k j)) hx hb hK.1 a2 (wh_D G h) a4 k 2 v ci (wh_at hk) (by rw [hqn]; rfl) (wh_obj hv) hc g1 hd (fun H1 locs1 hP1 _ hS1 => ?_)
  have hP2 : va_P G.1 cls ((wh G h).set k (G.2.2.1 + k, .inl (G.2.1 2, n, .inr (.inr (.inr (.inr (va_up (fun j => iw_b G (h.2.2 k j)) j (iw_b G (some v)))))))) ) H1 := by rw [g2] at hP1; exact hP1
  rw [wh_set_q (Or.inl rfl) hk] at hP2
  exact kk p l e R s mid args below meth c H1 locs1 cells slots Z ls a1 hP2 a3 hS1 a5 a6 a7 a8
theorem E_aald3 {i : Int32} {j k n : Nat} (hd : decode m.2.1 pc = .ok (.aaload, 1)) (hk : h.1[k]? = some (3, n)) (hi : i = nI j) (hj : j < n) (hn : n < 2 ^ 31) (kk : Ev G m d ac az (pc + 1) Ls (vQ (h.2.2 k j) :: st) h Q) : Ev G m d ac az pc Ls (vI i :: vR k :: st) h Q := by
  intro p l e R s mid args below meth c H locs cells slots Z ls a1 a2 a3 a4 a5 a6 a7 a8
  obtain ⟨hx, hb, hml, hown, hts, hK, hX, hg, hfr, hlo, hnm⟩ := id a1
  obtain ⟨g1, g2⟩ := in_of hi hj hn
  refine va_aldq (D := G.1) (cA := G.2.1 3) (C := R_Pipe) (n := n) (f := fun j => iw_b G (h.2.2 k j)) hx hb hK.1 a2 k 3 (wh_at hk) rfl g1 hd ?_
  rw [g2]
  exact kk p l e R s mid args below meth c H locs cells slots Z ls a1 a2 a3 a4 a5 a6 a7 a8
theorem E_aast3 {i : Int32} {j k n v N ci : Nat} (hd : decode m.2.1 pc = .ok (.aastore, 1)) (hk : h.1[k]? = some (3, n)) (hv : h.1[v]? = some (ci + 4, N)) (hcv : ∃ q : vw_C, cls[ci]? = some q ∧ q.1 = R_Pipe) (hi : i = nI j) (hj : j < n) (hn : n < 2 ^ 31) (kk : Ev G m d ac az (pc + 1) Ls st (h.1, h.2.1, up3 h.2.2 k j (some v)) Q) : Ev G m d ac az pc Ls (vR v :: vI i :: vR k :: st) h Q := by
  intro p l e R s mid args below meth c H locs cells slots Z ls a1 a2 a3 a4 a5 a6 a7 a8
  obtain ⟨hx, hb, hml, hown, hts, hK, hX, hg, hfr, hlo, hnm⟩ := id a1
  obtain ⟨g1, g2⟩ := in_of hi hj hn
  obtain ⟨q, hc, hqn⟩ := hcv
  refine va_astq (D := G.1) (cA := G.2.1 3) (r := q) (n := n) (f := fun j => iw_b G (h.2.2 k j)) hx hb hK.1 a2 (wh_D G h) a4 k 3 v ci (wh_at hk) (by rw [hqn]; rfl) (wh_obj hv) hc g1 hd (fun H1 locs1 hP1 _ hS1 => ?_)
  have hP2 : va_P G.1 cls ((wh G h).set k (G.2.2.1 + k, .inl (G.2.1 3, n, .inr (.inr (.inr (.inr (va_up (fun j => iw_b G (h.2.2 k j)) j (iw_b G (some v)))))))) ) H1 := by rw [g2] at hP1; exact hP1
  rw [wh_set_q (Or.inr rfl) hk] at hP2
  exact kk p l e R s mid args below meth c H1 locs1 cells slots Z ls a1 hP2 a3 hS1 a5 a6 a7 a8
theorem E_alen0 {k n : Nat} (hd : decode m.2.1 pc = .ok (.arraylength, 1)) (hk : h.1[k]? = some (0, n)) (kk : Ev G m d ac az (pc + 1) Ls (vI (nI n) :: st) h Q) : Ev G m d ac az pc Ls (vR k :: st) h Q := by
  intro p l e R s mid args below meth c H locs cells slots Z ls a1 a2 a3 a4 a5 a6 a7 a8
  exact va_alen (D := G.1) (cA := G.2.1 0) a1.1 a1.2.1 a1.2.2.2.2.2.1.1 a2 k 0 (wh_at hk) rfl rfl hd (kk p l e R s mid args below meth c H locs cells slots Z ls a1 a2 a3 a4 a5 a6 a7 a8)
theorem E_alen1 {k n : Nat} (hd : decode m.2.1 pc = .ok (.arraylength, 1)) (hk : h.1[k]? = some (1, n)) (kk : Ev G m d ac az (pc + 1) Ls (vI (nI n) :: st) h Q) : Ev G m d ac az pc Ls (vR k :: st) h Q := by
  intro p l e R s mid args below meth c H locs cells slots Z ls a1 a2 a3 a4 a5 a6 a7 a8
  exact va_alen (D := G.1) (cA := G.2.1 1) a1.1 a1.2.1 a1.2.2.2.2.2.1.1 a2 k 1 (wh_at hk) rfl rfl hd (kk p l e R s mid args below meth c H locs cells slots Z ls a1 a2 a3 a4 a5 a6 a7 a8)
theorem E_sld {i : Int32} {j : Nat} (hd : decode m.2.1 pc = .ok (.iaload, 1)) (hi : i = nI j) (hj : j < G.2.2.2.2.1) (hn : G.2.2.2.2.1 < 2 ^ 31) (kk : Ev G m d ac az (pc + 1) Ls (vI (G.2.2.2.2.2 j) :: st) h Q) : Ev G m d ac az pc Ls (vI i :: vS :: st) h Q := by
  intro p l e R s mid args below meth c H locs cells slots Z ls a1 a2 a3 a4 a5 a6 a7 a8
  obtain ⟨hx, hb, hml, hown, hts, hK, hX, hg, hfr, hlo, hnm⟩ := id a1
  obtain ⟨g1, g2⟩ := in_of hi hj hn
  refine va_sld (A := gA G) hx hb hX.1 (Nat.lt_of_lt_of_le hX.2 hg) (Nat.not_le.mpr hX.2) a4 g1 hd ?_
  rw [g2]
  exact kk p l e R s mid args below meth c H locs cells slots Z ls a1 a2 a3 a4 a5 a6 a7 a8
theorem E_slen (hd : decode m.2.1 pc = .ok (.arraylength, 1)) (kk : Ev G m d ac az (pc + 1) Ls (vI (nI G.2.2.2.2.1) :: st) h Q) : Ev G m d ac az pc Ls (vS :: st) h Q := by
  intro p l e R s mid args below meth c H locs cells slots Z ls a1 a2 a3 a4 a5 a6 a7 a8
  obtain ⟨hx, hb, hml, hown, hts, hK, hX, hg, hfr, hlo, hnm⟩ := id a1
  exact va_slen (A := gA G) hx hb hX.1 (Nat.lt_of_lt_of_le hX.2 hg) (Nat.not_le.mpr hX.2) a4 hd (kk p l e R s mid args below meth c H locs cells slots Z ls a1 a2 a3 a4 a5 a6 a7 a8)
end EV

/-! ===== the machine layer: worlds by number, Ev (from here the method comes to its end with Q), Mt (a method's contract) ===== -/
abbrev iV : Type := Int32 ⊕ (Option Nat ⊕ (Int64 ⊕ Unit))
abbrev vI (x : Int32) : iV := Sum.inl x
abbrev vQ (r : Option Nat) : iV := Sum.inr (Sum.inl r)
abbrev vR (k : Nat) : iV := Sum.inr (Sum.inl (some k))
abbrev vN : iV := Sum.inr (Sum.inl none)
abbrev vL (x : Int64) : iV := Sum.inr (Sum.inr (Sum.inl x))
abbrev vS : iV := Sum.inr (Sum.inr (Sum.inr ()))
abbrev iH : Type := List (Nat × Nat) × (Nat → Nat → Int32) × (Nat → Nat → Option Nat)
abbrev iM : Type := MethodName × ByteArray × Nat × Option FieldType
abbrev iG : Type := va_G × (Nat → ClassId) × Nat × Nat × Nat × (Nat → Int32)
def iw_b (G : iG) (r : Option Nat) : Option Nat := match r with
  | none => none
  | some k => some (G.2.2.1 + k)
def tv (G : iG) (v : iV) : Value := match v with
  | .inl x => .int x
  | .inr (.inl r) => va_rf (iw_b G r)
  | .inr (.inr (.inl x)) => .long x
  | .inr (.inr (.inr _)) => .ref G.2.2.2.1
def ct (v : iV) : Nat := match v with
  | .inr (.inr (.inl _)) => 2
  | _ => 1
def rv (v : iV) : Bool := match v with
  | .inl _ => false
  | .inr (.inl _) => true
  | .inr (.inr (.inl _)) => false
  | .inr (.inr (.inr _)) => true
theorem tv_ct (G : iG) (v : iV) : (tv G v).category = ct v := by
  rcases v with x | r | x | u
  · rfl
  · cases r <;> rfl
  · rfl
  · rfl
/-- is field j of class ci a reference -/
def rf (ci j : Nat) : Bool := refKind (tyT ci j)
def fv (G : iG) (h : iH) (k ci j : Nat) : Value := if rf ci j = true then va_rf (iw_b G (h.2.2 k j)) else .int (h.2.1 k j)
/-- the cell number k: 0 int[], 1 boolean[], 2 Task[], 3 Pipe[], from 4 on an object of class ci -/
def en (G : iG) (h : iH) (k : Nat) (kn : Nat × Nat) : va_E := match kn.1 with
  | 0 => .inl (G.2.1 0, kn.2, .inl (h.2.1 k))
  | 1 => .inl (G.2.1 1, kn.2, .inl (h.2.1 k))
  | 2 => .inl (G.2.1 2, kn.2, .inr (.inr (.inr (.inr fun j => iw_b G (h.2.2 k j)))))
  | 3 => .inl (G.2.1 3, kn.2, .inr (.inr (.inr (.inr fun j => iw_b G (h.2.2 k j)))))
  | ci + 4 => .inr (ci, (List.range kn.2).map (fun j => fv G h k ci j))
def wh (G : iG) (h : iH) : va_W := h.1.mapIdx (fun k kn => (G.2.2.1 + k, en G h k kn))
theorem wh_at {G : iG} {h : iH} {k : Nat} {kn : Nat × Nat} (hk : h.1[k]? = some kn) : (wh G h)[k]? = some (G.2.2.1 + k, en G h k kn) := by
  simp [wh, hk]
theorem wh_of {G : iG} {h : iH} {k : Nat} {q : Nat × va_E} (hq : (wh G h)[k]? = some q) : ∃ kn, h.1[k]? = some kn ∧ q = (G.2.2.1 + k, en G h k kn) := by
  rw [wh, List.getElem?_mapIdx] at hq
  cases hk : h.1[k]? with
  | none => rw [hk] at hq; cases hq
  | some kn => rw [hk] at hq; exact ⟨kn, rfl, (Option.some.inj hq).symm⟩
theorem wh_D (G : iG) (h : iH) : va_D (fun q => G.2.2.1 ≤ q) (wh G h) := by
  refine ⟨fun i j p q hp hq e => ?_, fun k q hq => ?_⟩
  · obtain ⟨a, -, rfl⟩ := wh_of hp
    obtain ⟨b, -, rfl⟩ := wh_of hq
    have e : G.2.2.1 + i = G.2.2.1 + j := e
    omega
  · obtain ⟨a, -, rfl⟩ := wh_of hq
    exact Nat.le_add_right _ _
theorem wh_set {G : iG} {h h' : iH} {k : Nat} {kn : Nat × Nat} {e : va_E} (h1 : h'.1 = h.1) (hk : h.1[k]? = some kn) (he : en G h' k kn = e) (ho : ∀ i kn', i ≠ k → h.1[i]? = some kn' → en G h' i kn' = en G h i kn') : (wh G h).set k (G.2.2.1 + k, e) = wh G h' := by
  apply List.ext_getElem?
  intro i
  by_cases hik : k = i
  · subst hik
    have hlt : k < (wh G h).length := by
      rw [wh, List.length_mapIdx]
      exact (List.getElem?_eq_some_iff.mp hk).1
    rw [List.getElem?_set_self hlt, wh_at (h1 ▸ hk), he]
  · rw [List.getElem?_set_ne hik, wh, wh, List.getElem?_mapIdx, List.getElem?_mapIdx, h1]
    cases hi : h.1[i]? with
    | none => rfl
    | some kn' =>
      show some (_, _) = some (_, _)
      rw [ho i kn' (fun q => hik q.symm) hi]
/-- σ with x at (k, j) -/
def up2 (σ : Nat → Nat → Int32) (k j : Nat) (x : Int32) : Nat → Nat → Int32 := fun k' j' => if k' = k ∧ j' = j then x else σ k' j'
def up3 (ρ : Nat → Nat → Option Nat) (k j : Nat) (x : Option Nat) : Nat → Nat → Option Nat := fun k' j' => if k' = k ∧ j' = j then x else ρ k' j'
theorem up2_self (σ : Nat → Nat → Int32) (k j : Nat) (x : Int32) : up2 σ k j x k = upd (σ k) j x := by
  funext j'
  simp [up2, upd]
theorem up2_ne (σ : Nat → Nat → Int32) {k i : Nat} (j : Nat) (x : Int32) (h : i ≠ k) : up2 σ k j x i = σ i := by
  funext j'
  simp [up2, h]
theorem up3_ne (ρ : Nat → Nat → Option Nat) {k i : Nat} (j : Nat) (x : Option Nat) (h : i ≠ k) : up3 ρ k j x i = ρ i := by
  funext j'
  simp [up3, h]
theorem en_ne {G : iG} {h h' : iH} {i : Nat} (e1 : h'.2.1 i = h.2.1 i) (e2 : h'.2.2 i = h.2.2 i) (kn : Nat × Nat) : en G h' i kn = en G h i kn := by
  obtain ⟨a, n⟩ := kn
  have e3 : ∀ ci j, fv G h' i ci j = fv G h i ci j := fun ci j => by unfold fv; rw [e1, e2]
  match a with
  | 0 => show Sum.inl (_, _, _) = Sum.inl (_, _, _); rw [e1]
  | 1 => show Sum.inl (_, _, _) = Sum.inl (_, _, _); rw [e1]
  | 2 => show Sum.inl (_, _, _) = Sum.inl (_, _, _); rw [e2]
  | 3 => show Sum.inl (_, _, _) = Sum.inl (_, _, _); rw [e2]
  | ci + 4 => show Sum.inr (_, _) = Sum.inr (_, _); simp only [e3]
theorem wh_set_i {G : iG} {h : iH} {k j n : Nat} {x : Int32} {a : Nat} (ha : a = 0 ∨ a = 1) (hk : h.1[k]? = some (a, n)) : (wh G h).set k (G.2.2.1 + k, .inl (G.2.1 a, n, .inl (upd (h.2.1 k) j x))) = wh G (h.1, up2 h.2.1 k j x, h.2.2) := by
  refine wh_set (h' := (h.1, up2 h.2.1 k j x, h.2.2)) (kn := (a, n)) rfl hk ?_ (fun i kn' hi _ => en_ne (h := h) (h' := (h.1, up2 h.2.1 k j x, h.2.2)) (up2_ne _ _ _ hi) rfl kn')
  rcases ha with rfl | rfl <;> (show Sum.inl (_, _, _) = Sum.inl (_, _, _); rw [show (h.1, up2 h.2.1 k j x, h.2.2).2.1 k = _ from up2_self _ _ _ _])
theorem wh_set_q {G : iG} {h : iH} {k j n : Nat} {x : Option Nat} {a : Nat} (ha : a = 2 ∨ a = 3) (hk : h.1[k]? = some (a, n)) : (wh G h).set k (G.2.2.1 + k, .inl (G.2.1 a, n, .inr (.inr (.inr (.inr (va_up (fun j => iw_b G (h.2.2 k j)) j (iw_b G x))))))) = wh G (h.1, h.2.1, up3 h.2.2 k j x) := by
  have e : (fun j' => iw_b G (up3 h.2.2 k j x k j')) = va_up (fun j => iw_b G (h.2.2 k j)) j (iw_b G x) := by
    funext j'
    by_cases hj : j' = j <;> simp [up3, va_up, hj]
  refine wh_set (h' := (h.1, h.2.1, up3 h.2.2 k j x)) (kn := (a, n)) rfl hk ?_ (fun i kn' hi _ => en_ne (h := h) (h' := (h.1, h.2.1, up3 h.2.2 k j x)) rfl (up3_ne _ _ _ hi) kn')
  rcases ha with rfl | rfl <;> (show Sum.inl (_, _, _) = Sum.inl (_, _, _); rw [← e])
theorem fv_map_set {G : iG} {h h' : iH} {k ci j n : Nat} {v : Value} (hv : fv G h' k ci j = v) (ho : ∀ j', j' ≠ j → fv G h' k ci j' = fv G h k ci j') : ((List.range n).map (fun j => fv G h k ci j)).set j v = (List.range n).map (fun j => fv G h' k ci j) := by
  apply List.ext_getElem?
  intro i
  by_cases hij : j = i
  · subst hij
    by_cases hn : j < n
    · rw [List.getElem?_set_self (by simpa using hn)]
      simp [hn, hv]
    · simp [hn]
  · rw [List.getElem?_set_ne hij]
    by_cases hn : i < n
    · simp [hn, ho i (fun q => hij q.symm)]
    · simp [hn]
theorem wh_set_fi {G : iG} {h : iH} {k ci j n : Nat} {x : Int32} (hr : rf ci j = false) (hk : h.1[k]? = some (ci + 4, n)) : (wh G h).set k (G.2.2.1 + k, .inr (ci, ((List.range n).map (fun j => fv G h k ci j)).set j (.int x))) = wh G (h.1, up2 h.2.1 k j x, h.2.2) := by
  refine wh_set (h' := (h.1, up2 h.2.1 k j x, h.2.2)) (kn := (ci + 4, n)) rfl hk ?_ (fun i kn' hi _ => en_ne (h := h) (h' := (h.1, up2 h.2.1 k j x, h.2.2)) (up2_ne _ _ _ hi) rfl kn')
  show Sum.inr (_, _) = Sum.inr (_, _)
  rw [fv_map_set (h' := (h.1, up2 h.2.1 k j x, h.2.2)) (by simp [fv, hr, up2]) (fun j' hj => by simp [fv, up2, hj])]
theorem wh_set_fq {G : iG} {h : iH} {k ci j n : Nat} {x : Option Nat} (hr : rf ci j = true) (hk : h.1[k]? = some (ci + 4, n)) : (wh G h).set k (G.2.2.1 + k, .inr (ci, ((List.range n).map (fun j => fv G h k ci j)).set j (va_rf (iw_b G x)))) = wh G (h.1, h.2.1, up3 h.2.2 k j x) := by
  refine wh_set (h' := (h.1, h.2.1, up3 h.2.2 k j x)) (kn := (ci + 4, n)) rfl hk ?_ (fun i kn' hi _ => en_ne (h := h) (h' := (h.1, h.2.1, up3 h.2.2 k j x)) rfl (up3_ne _ _ _ hi) kn')
  show Sum.inr (_, _) = Sum.inr (_, _)
  rw [fv_map_set (h' := (h.1, h.2.1, up3 h.2.2 k j x)) (by simp [fv, hr, up3]) (fun j' hj => by simp [fv, up3, hj])]
/-- what the tables say -/
def tl (G : iG) : List (ClassId × FieldType) := [(G.2.1 0, .int), (G.2.1 1, .boolean), (G.2.1 2, .object R_Task), (G.2.1 3, .object R_Pipe)]
abbrev yN_P : MethodName := ⟨"PagedKernel$Pipe", "<init>", "()V"⟩
abbrev yN_R : MethodName := ⟨"PagedKernel$Row", "<init>", "()V"⟩
def KK (G : iG) (U : State) : Prop := va_K G.1 cls (tl G) U ∧ va_AO R_Task U ∧ va_AO R_Pipe U ∧ va_Nw (.methodLinkNest "PagedKernel" 39 yN_P "PagedKernel") U ∧ va_Nw (.methodLinkNest "PagedKernel" 42 yN_R "PagedKernel") U
theorem KK.warm {G : iG} {u U : State} (hW : u.WarmedH U.vm) (h : KK G u) : KK G U := ⟨va_K.moved hW.alike h.1, va_AO.moved hW.alike h.2.1, va_AO.moved hW.alike h.2.2.1, h.2.2.2.1.warmM hW, h.2.2.2.2.warmM hW⟩
theorem KK.same {G : iG} {u U : State} (hvm : u.vm = U.vm) (h : KK G u) : KK G U := ⟨va_K.moved (by rw [hvm]; exact Vm.Alike.refl _) h.1, va_AO.moved (by rw [hvm]; exact Vm.Alike.refl _) h.2.1, va_AO.moved (by rw [hvm]; exact Vm.Alike.refl _) h.2.2.1, h.2.2.2.1.same rfl hvm, h.2.2.2.2.same rfl hvm⟩
def Wd (G : iG) (h : iH) (H : Heap) : Prop := va_P G.1 cls (wh G h) H
def Xs (G : iG) (U : State) (H : Heap) : Prop := va_X G.2.2.2.1 G.2.2.2.2.1 G.2.2.2.2.2 U H ∧ G.2.2.2.1 < G.2.2.1
theorem Xs.moved {G : iG} {u U : State} {H : Heap} (hvm : u.vm.Alike U.vm) (w : Xs G u H) : Xs G U H := ⟨w.1.moved hvm, w.2⟩
/-- the locals -/
def lz (G : iG) : Nat → List (Option iV) → List (Nat × Value)
  | _, [] => []
  | i, none :: r => lz G (i + 1) r
  | i, some v :: r => (i, tv G v) :: lz G (i + 1) r
theorem lz_mem {G : iG} : ∀ (Ls : List (Option iV)) (j i : Nat) (v : iV), Ls[i]? = some (some v) → (j + i, tv G v) ∈ lz G j Ls
  | [], j, i, v, h => by simp at h
  | none :: r, j, 0, v, h => by simp at h
  | none :: r, j, i + 1, v, h => by
    have := lz_mem (G := G) r (j + 1) i v (by simpa using h)
    rw [show j + (i + 1) = j + 1 + i by omega]
    exact this
  | some w :: r, j, 0, v, h => by
    have h : w = v := by simpa using h
    subst h
    exact List.mem_cons_self
  | some w :: r, j, i + 1, v, h => by
    have := lz_mem (G := G) r (j + 1) i v (by simpa using h)
    rw [show j + (i + 1) = j + 1 + i by omega]
    exact List.mem_cons_of_mem _ this
theorem lz_of {G : iG} : ∀ (Ls : List (Option iV)) (j : Nat) (q : Nat × Value), q ∈ lz G j Ls → ∃ i v, q = (j + i, tv G v) ∧ Ls[i]? = some (some v)
  | [], j, q, h => by cases h
  | none :: r, j, q, h => by
    obtain ⟨i, v, h1, h2⟩ := lz_of r (j + 1) q h
    exact ⟨i + 1, v, by rw [h1, show j + (i + 1) = j + 1 + i by omega], by simpa using h2⟩
  | some w :: r, j, q, h => by
    rcases List.mem_cons.mp h with h | h
    · exact ⟨0, w, h, rfl⟩
    · obtain ⟨i, v, h1, h2⟩ := lz_of r (j + 1) q h
      exact ⟨i + 1, v, by rw [h1, show j + (i + 1) = j + 1 + i by omega], by simpa using h2⟩
def lh (G : iG) (ls : Array Slot) (nL : Nat) (Ls : List (Option iV)) : Prop := lv_has ls nL (lz G 0 Ls) ∧ ∀ v, some v ∈ Ls → ct v = 1
theorem lh_at {G : iG} {ls : Array Slot} {nL : Nat} {Ls : List (Option iV)} {i : Nat} {v : iV} (hl : lh G ls nL Ls) (hi : Ls[i]? = some (some v)) : ls[i]? = some (.val (tv G v)) := by
  have := hl.1.2.2 _ (lz_mem Ls 0 i v hi)
  simpa using this
theorem lh_st {G : iG} {ls ls' : Array Slot} {nL : Nat} {Ls : List (Option iV)} {i : Nat} {v : iV} (hl : lh G ls nL Ls) (hv : ct v = 1)
    (h' : lv_has ls' nL ((i, tv G v) :: (lz G 0 Ls).filter (fun q => !(q.1 == i) && !(q.1 + 1 == i && q.2.category == 2)))) : lh G ls' nL (Ls.set i (some v)) := by
  refine ⟨⟨h'.1, h'.2.1, fun q hq => ?_⟩, fun w hw => ?_⟩
  · obtain ⟨j, w, e1, e2⟩ := lz_of _ 0 q hq
    by_cases hij : i = j
    · subst hij
      have hlt : i < Ls.length := by
        have := (List.getElem?_eq_some_iff.mp e2).1
        simpa using this
      rw [List.getElem?_set_self hlt] at e2
      have : v = w := by simpa using e2
      subst this
      rw [e1, show 0 + i = i by omega]
      exact h'.2.2 _ List.mem_cons_self
    · rw [List.getElem?_set_ne hij] at e2
      have hm := lz_mem (G := G) Ls 0 j w e2
      rw [← e1] at hm
      refine h'.2.2 q (List.mem_cons_of_mem _ (List.mem_filter.mpr ⟨hm, ?_⟩))
      have hc : q.2.category = 1 := by rw [e1]; exact (tv_ct G w).trans (hl.2 w (List.mem_of_getElem? e2))
      have hq1 : q.1 ≠ i := by rw [e1]; show 0 + j ≠ i; omega
      simp [hc, hq1]
  · rcases List.mem_or_eq_of_mem_set hw with h | h
    · exact hl.2 w h
    · cases h; exact hv
/-- what stands at a method's end -/
def Rt (m : iM) (pc : Nat) (r : Option iV) : Prop :=
  (∃ x, r = some (vI x) ∧ decode m.2.1 pc = .ok (.ireturn, 1) ∧ (m.2.2.2 = some .int ∨ (m.2.2.2 = some .boolean ∧ (x = 0 ∨ x = 1)))) ∨
  (∃ q, r = some (vQ q) ∧ decode m.2.1 pc = .ok (.areturn, 1) ∧ ∃ C, m.2.2.2 = some (.object C)) ∨
  (r = none ∧ decode m.2.1 pc = .ok (.return_, 1) ∧ m.2.2.2 = none)
def Cx (G : iG) (m : iM) (d : Nat) (p : Program) (R : Room) (s : State) (mid : MethodId) (args : Array Value) (meth : Method) (c : Code) : Prop :=
  p.tables.exec = Jvm.exec ∧ c.code = m.2.1 ∧ c.maxLocals = m.2.2.1 ∧ s.vm.findClass m.1.cls = some mid.cls ∧ (∀ w ∈ gw, w.before args s = true) ∧ KK G s ∧ Xs G s s.heap ∧ G.2.2.1 ≤ s.heap.size ∧ d ≤ R.frames ∧ 36 * d ≤ R.locals ∧ meth.name = m.1.name
abbrev gA (G : iG) : Nat → Prop := fun q => G.2.2.1 ≤ q
def Ev (G : iG) (m : iM) (d ac az pc : Nat) (Ls : List (Option iV)) (st : List iV) (h : iH) (Q : Option iV → iH → Prop) : Prop :=
  ∀ (p : Program) (l : Launch) (e : Env) (R : Room) (s : State) (mid : MethodId) (args : Array Value) (below : List Frame) (meth : Method) (c : Code) (H : Heap) (locs : List Loc) (cells slots : Nat) (Z : State → Prop) (ls : Array Slot),
    Cx G m d p R s mid args meth c → Wd G h H → s.heap.size + cells = G.2.2.1 + h.1.length → va_S (gA G) s.heap H locs → lh G ls m.2.2.1 Ls → cells + ac ≤ R.cells → slots + az ≤ R.slots →
    (∀ (H' : Heap) (locs' : List Loc) (slots' : Nat) (r : Option iV) (h' : iH) (pc' : Nat) (ls' : Array Slot), Q r h' → Wd G h' H' → s.heap.size + (cells + ac) = G.2.2.1 + h'.1.length → va_S (gA G) s.heap H' locs' → slots' ≤ slots + az → Rt m pc' r → W p l e R s mid args below meth c H' locs' (cells + ac) slots' Z (F0 mid pc' ls' (r.toList.map (tv G)))) →
    W p l e R s mid args below meth c H locs cells slots Z (F0 mid pc ls (st.map (tv G)))
def mw (m : iM) : List Cond := .code m.1 m.2.1 m.2.2.1 m.2.2.2 :: gw
def rm (d ac az : Nat) : Room := { frames := d, cells := ac, slots := az, locals := 36 * d }
def Pm (G : iG) (h : iH) (U : State) : Prop := Wd G h U.heap ∧ U.heap.size = G.2.2.1 + h.1.length ∧ Xs G U U.heap ∧ KK G U
def Qm (G : iG) (ac : Nat) (h : iH) (Q : Option iV → iH → Prop) (st : State) (oc : Outcome) (t : State) : Prop :=
  (∃ (r : Option iV) (h' : iH), oc = .returned (r.map (tv G)) ∧ Q r h' ∧ Wd G h' t.heap ∧ h'.1.length = h.1.length + ac) ∧ va_F (gA G) st t
def Mt (G : iG) (m : iM) (d ac az : Nat) (As : List iV) (h : iH) (Q : Option iV → iH → Prop) : Prop :=
  ∀ l : Launch, Met l m.1 (mw m) (rm d ac az) (va_Pc (As.map (tv G)) (Pm G h)) (fun _ st oc t => Qm G ac h Q st oc t) ac az (gA G)
theorem Ev.mono {G : iG} {m : iM} {d ac az pc : Nat} {Ls : List (Option iV)} {st : List iV} {h : iH} {Q Q' : Option iV → iH → Prop} (k : Ev G m d ac az pc Ls st h Q) (hq : ∀ r h', Q r h' → Q' r h') : Ev G m d ac az pc Ls st h Q' :=
  fun p l e R s mid args below meth c H locs cells slots Z ls a1 a2 a3 a4 a5 a6 a7 a8 => k p l e R s mid args below meth c H locs cells slots Z ls a1 a2 a3 a4 a5 a6 a7 (fun H' locs' slots' r h' pc' ls' b1 => a8 H' locs' slots' r h' pc' ls' (hq r h' b1))
theorem lg_len (G : iG) : ∀ As : List iV, (∀ v ∈ As, ct v = 1) → (lg_sl (As.map (tv G))).length = As.length
  | [], _ => rfl
  | v :: As, h => by
    have h1 : (tv G v).category = 1 := (tv_ct G v).trans (h v List.mem_cons_self)
    have ih := lg_len G As (fun w hw => h w (List.mem_cons_of_mem _ hw))
    simp only [lg_sl, List.map_cons, List.flatMap_cons, h1] at ih ⊢
    simp [ih]
theorem lv_args_of (G : iG) : ∀ (As : List iV) (j : Nat) (n : Nat), (∀ v ∈ As, ct v = 1) → ∀ q ∈ lz G j (As.map some ++ List.replicate n none), q ∈ lv_args j (As.map (tv G))
  | [], j, n, _, q, hq => by
    obtain ⟨i, v, -, h2⟩ := lz_of _ j q hq
    have h3 := List.mem_of_getElem? h2
    simp at h3
  | v :: As, j, n, h, q, hq => by
    have h1 : (tv G v).category = 1 := (tv_ct G v).trans (h v List.mem_cons_self)
    have e : lv_args j ((v :: As).map (tv G)) = (j, tv G v) :: lv_args (j + 1) (As.map (tv G)) := by
      simp [lv_args, h1]
    rw [e]
    rcases List.mem_cons.mp hq with hq | hq
    · rw [hq]; exact List.mem_cons_self
    · exact List.mem_cons_of_mem _ (lv_args_of G As (j + 1) n (fun w hw => h w (List.mem_cons_of_mem _ hw)) q hq)
theorem gw_good : ∀ w ∈ gw, goodWord w = true := fun w h => (List.mem_filter.mp h).2
theorem gw_in {m : iM} (h : Cond.code m.1 m.2.1 m.2.2.1 m.2.2.2 ∈ gw) : GoodIn gw (mw m) := fun w hw => by
  rcases List.mem_cons.mp hw with hw | hw
  · rw [hw]; exact ⟨h, good_of_word (gw_good _ h)⟩
  · exact ⟨hw, good_of_word (gw_good _ hw)⟩
/-- a method's contract out of its walk -/
theorem Mt.of {G : iG} {m : iM} {d ac az : Nat} {As : List iV} {h : iH} {Q : Option iV → iH → Prop} (hpl : plainName m.1.cls = true) (hct : ∀ v ∈ As, ct v = 1) (hlen : As.length ≤ m.2.2.1)
    (k : Ev G m d ac az 0 (As.map some ++ List.replicate (m.2.2.1 - As.length) none) [] h Q) : Mt G m d ac az As h Q := by
  intro l
  refine Met.ofW (cc := m.2.1) (maxL := m.2.2.1) (ret := m.2.2.2) hpl rfl ?_
  intro p e s mid args below meth c s₁ B hml hv
  obtain ⟨rfl, hW, hsz, hX, hK⟩ := hv
  have hts := atoms_spec (ws := mw m) B.pre
  have hr := B.returns
  have hb := B.bytes
  have hx := B.exec
  have hlocks := B.notSynchronized
  have hl := lv_entry (As.map (tv G)) (n := m.2.2.1) (by rw [lg_len G As hct]; exact hlen)
  rw [lg_entry_eq]
  generalize (lg_sl (As.map (tv G)) ++ List.replicate (m.2.2.1 - (lg_sl (As.map (tv G))).length) Slot.unset).toArray = ls at hl ⊢
  have hl2 : lh G ls m.2.2.1 (As.map some ++ List.replicate (m.2.2.1 - As.length) none) := by
    refine ⟨⟨hl.1, hl.2.1, fun q hq => hl.2.2 q (lv_args_of G As 0 _ hct q hq)⟩, fun v hv => ?_⟩
    have : v ∈ As := by simpa using hv
    exact hct v this
  have hg : G.2.2.1 ≤ s.heap.size := by rw [hsz]; exact Nat.le_add_right _ _
  refine k p l e _ s mid _ below meth c s.heap [] 0 0 _ ls ⟨hx, hb, hml, findClass_of_methodNamed B.named, fun w hw => hts w (List.mem_cons_of_mem _ hw), hK, hX, hg, Nat.le_refl _, Nat.le_refl _, (name_of_methodNamed B.named B.method).1⟩ hW (by omega) va_S.rf hl2 (by show 0 + ac ≤ ac; omega) (by show 0 + az ≤ az; omega) ?_
  intro H' locs' slots' r h' pc' ls' hq hW' hn hS' hs hRt
  refine W.widen (k := ac) (n := az) (by omega) (by omega) ?_
  have hn' : h'.1.length = h.1.length + ac := by omega
  have hpost : ∀ t : State, t.heap = H' → s.WarmedH t.vm → Qm G ac h Q s (.returned (r.map (tv G))) t := fun t ht hWm => ⟨⟨r, h', rfl, hq, by rw [ht]; exact hW', hn'⟩, hS'.F ht⟩
  rcases hRt with ⟨x, rfl, hd, hty⟩ | ⟨q, rfl, hd, C, hty⟩ | ⟨rfl, hd, hty⟩
  · rcases hty with hty | ⟨hty, hx01⟩
    · exact W.iret (v := x) hx hb (hr.trans hty) hpost hS'.2.2 hd
    · exact W.zret (v := x) (ty := .boolean) hx hb (hr.trans hty) (by rcases hx01 with rfl | rfl <;> rfl) hpost hS'.2.2 hd
  · exact W.aret (v := tv G (vQ q)) (rt := .object C) hx hb (hr.trans hty) (Or.inl ⟨C, rfl⟩) (by cases q <;> first | exact Or.inl rfl | exact Or.inr ⟨_, rfl⟩) hpost hS'.2.2 hd
  · exact W.vret hx hb (hr.trans hty) hpost hS'.2.2 hd

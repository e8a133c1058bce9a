section EC
variable {G : iG} {m : iM} {d ac az pc : Nat} {Ls : List (Option iV)} {st : List iV} {h : iH} {Q : Option iV → iH → Prop}
theorem sz_of {s : State} {H : Heap} {locs : List Loc} (a2 : Wd G h H) (a4 : va_S (gA G) s.heap H locs) (hg : G.2.2.1 ≤ s.heap.size) (hle : H.size ≤ G.2.2.1 + h.1.length) : H.size = G.2.2.1 + h.1.length := by
  have h1 := a4.1
  by_cases h0 : h.1.length = 0
  · omega
  · have hk : h.1[h.1.length - 1]? = some (h.1[h.1.length - 1]'(by omega)) := List.getElem?_eq_getElem (by omega)
    have h2 : G.2.2.1 + (h.1.length - 1) < H.size := (a2 _ _ (wh_at hk)).lt
    omega
theorem W_size {p : Program} {l : Launch} {e : Env} {R : Room} {s : State} {mid : MethodId} {args : Array Value} {below : List Frame} {meth : Method} {c : Code} {H : Heap} {locs : List Loc} {cells slots : Nat} {Z : State → Prop} {g : JFrame} (k : H.size ≤ s.heap.size + cells → W p l e R s mid args below meth c H locs cells slots Z g) : W p l e R s mid args below meth c H locs cells slots Z g := fun T hT X => k (by rw [← hT]; exact X.heapSize) T hT X
theorem Pm_blind (As : List Value) : FrameBlind (va_Pc As (Pm G h)) := fun a U g mk q => by
  obtain ⟨q0, q1, q2, q3, q4⟩ := q
  exact ⟨q0, q1, q2, q3.moved (u := U) (U := U.calling g mk a) (Vm.Alike.refl U.vm), q4.same rfl⟩
theorem Pm_at {s U : State} {H : Heap} {locs : List Loc} (a2 : Wd G h H) (a4 : va_S (gA G) s.heap H locs) (hX : Xs G s s.heap) (hg : G.2.2.1 ≤ s.heap.size) (hK : KK G s) (hsz : H.size = G.2.2.1 + h.1.length) (hU : U.heap = H) (hW : s.WarmedH U.vm) : Pm G h U := by
  refine ⟨by rw [hU]; exact a2, by rw [hU]; exact hsz, ?_, hK.warm hW⟩
  rw [hU]
  exact Xs.moved hW.alike ⟨hX.1.kept (a4.2.1 _ (Nat.lt_of_lt_of_le hX.2 hg) (Nat.not_le.mpr hX.2)), hX.2⟩
/-- behind a call -/
theorem Ev_run {p : Program} {l : Launch} {e : Env} {R : Room} {s : State} {mid : MethodId} {args : Array Value} {below : List Frame} {meth : Method} {c : Code} {H : Heap} {locs : List Loc} {cells slots : Nat} {Z : State → Prop} {ls : Array Slot} {stv : List Value} {rest : List iV} {ac2 az2 : Nat} {Q2 : Option iV → iH → Prop}
    (a1 : Cx G m d p R s mid args meth c) (a3 : s.heap.size + cells = G.2.2.1 + h.1.length) (a4 : va_S (gA G) s.heap H locs) (a5 : lh G ls m.2.2.1 Ls) (a6 : cells + ac ≤ R.cells) (a7 : slots + az ≤ R.slots)
    (a8 : ∀ (H' : Heap) (locs' : List Loc) (slots' : Nat) (r : Option iV) (h' : iH) (pc' : Nat) (ls' : Array Slot), Q r h' → Wd G h' H' → s.heap.size + (cells + ac) = G.2.2.1 + h'.1.length → va_S (gA G) s.heap H' locs' → slots' ≤ slots + az → Rt m pc' r → W p l e R s mid args below meth c H' locs' (cells + ac) slots' Z (F0 mid pc' ls' (r.toList.map (tv G))))
    (hc : ac2 ≤ ac) (hz : az2 ≤ az) (hr : va_Run p l e R s mid args below meth c H locs cells slots ac2 az2 (F0 mid pc ls stv) (rest.map (tv G)) (fun st oc t => Qm G ac2 h Q2 st oc t) (gA G))
    (kk : ∀ r h', Q2 r h' → Ev G m d (ac - ac2) (az - az2) (pc + 3) Ls (r.toList ++ rest) h' Q) : W p l e R s mid args below meth c H locs cells slots Z (F0 mid pc ls stv) := by
  intro T hT X
  obtain ⟨v, st₀, t, T', L, h0, X', hL, e1, e2, ⟨⟨r, h', hv, hq, hW', hn'⟩, hzz, hk⟩, stp⟩ := hr T hT X
  have hv : v = r.map (tv G) := by injection hv
  rw [h0] at hzz hk
  have hcc : cells + ac2 + (ac - ac2) = cells + ac := by omega
  obtain ⟨t2, b1, b2⟩ := kk r h' hq p l e R s mid args below meth c T'.heap (locs ++ L) (cells + ac2) (slots + az2) Z ls a1 (by rw [e1]; exact hW') (by omega)
    ⟨Nat.le_trans a4.1 (by rw [e1]; exact hzz), fun q h1 h2 => by rw [e1, hk q (Nat.lt_of_lt_of_le h1 a4.1) h2]; exact a4.2.1 q h1 h2, fun q hq => by
      rcases List.mem_append.mp hq with h | h
      · exact a4.2.2 q h
      · exact hL q h⟩ a5 (by omega) (by omega)
    (fun H1 locs1 slots1 r1 h1 pc1 ls1 c1 c2 c3 c4 c5 c6 => by rw [hcc] at c3 ⊢; exact a8 H1 locs1 slots1 r1 h1 pc1 ls1 c1 c2 c3 c4 (by omega) c6) T' rfl X'
  refine ⟨t2, stp t2 ?_, b2⟩
  subst hv
  cases r with
  | none => exact b1
  | some w => exact b1
def CMk (m2 : iM) (n : Nat) : Prop := Cond.initialized m2.1.cls ∈ gw ∧ Cond.code m2.1 m2.2.1 m2.2.2.1 m2.2.2.2 ∈ gw ∧ m2.2.2.1 ≤ 17 ∧
  (m2.1.cls ≠ "java/lang/invoke/MethodHandle" ∧ m2.1.cls ≠ "java/lang/invoke/VarHandle" ∧ (parseMethodDescriptor m2.1.desc).map (fun d => d.parameters.length) = some n)
def CBk (own : String) (idx : Nat) (m2 : iM) (n : Nat) : Prop := Cond.methodLink own idx m2.1 ∈ gw ∧ CMk m2 n
def VMk (ci : Nat) (m2 : iM) (n : Nat) : Prop := CMk m2 n ∧ Cond.instanceMethod m2.1 ∈ gw ∧ Cond.selects m2.1.cls m2.1 m2.1 ∈ gw ∧ ∃ q : vw_C, cls[ci]? = some q ∧ q.1 = m2.1.cls
def CVk (own : String) (idx ci : Nat) (m2 : iM) (n : Nat) : Prop := Cond.methodLink own idx m2.1 ∈ gw ∧ VMk ci m2 n
def SMk (m2 : iM) (n : Nat) : Prop := CMk m2 n ∧ Cond.static m2.1 ∈ gw
def CSk (own : String) (idx : Nat) (m2 : iM) (n : Nat) : Prop := Cond.methodLink own idx m2.1 ∈ gw ∧ SMk m2 n
def IMk (m2 : iM) (n : Nat) : Prop := CMk m2 n ∧ m2.1.name = "<init>" ∧ Cond.instanceMethod m2.1 ∈ gw ∧ m2.2.2.2 = none
def CIk (own : String) (idx : Nat) (m2 : iM) (n : Nat) : Prop := Cond.methodLink own idx m2.1 ∈ gw ∧ IMk m2 n
theorem CB_of {R : Room} {s : State} {args : Array Value} {own : String} {idx : Nat} {m2 : iM} {n d2 ac2 az2 : Nat} (hB : CBk own idx m2 n) (hts : ∀ w ∈ gw, w.before args s = true) (hd2 : d2 + 1 ≤ d) (hfr : d ≤ R.frames) (hlo : 36 * d ≤ R.locals) : CallB R s args own idx m2.1 m2.2.1 m2.2.2.1 m2.2.2.2 (mw m2) (rm d2 ac2 az2) ac2 az2 n := by
  obtain ⟨h1, h2, h3, h4, h5⟩ := hB
  exact callB_of (Ts := gw) n hts (gw_in h3) rfl rfl rfl (hts _ h2) (hts _ h1) h5 ⟨by show d2 + 1 ≤ R.frames; omega, by show 8 + (m2.2.2.1 + 11) + 36 * d2 ≤ R.locals; omega⟩
theorem cat_sum (rest : List iV) : ((rest.map (tv G)).map fun v => v.category).sum = (rest.map ct).sum := by
  rw [List.map_map]
  congr 1
  apply List.map_congr_left
  intro v _
  exact tv_ct G v
/-- a call by invokevirtual; As: the arguments, the last one on top -/
theorem E_callV {idx ci n k N d2 ac2 az2 : Nat} {m2 : iM} {As rest : List iV} {Q2 : Option iV → iH → Prop} (hd : decode m.2.1 pc = .ok (.invokevirtual idx, 3)) (hw : CVk m.1.cls idx ci m2 n) (hk : h.1[k]? = some (ci + 4, N)) (hd2 : d2 + 1 ≤ d) (hc : ac2 ≤ ac) (hz : az2 ≤ az) (hn : As.length = n) (hst : st = As.reverse ++ vR k :: rest) (hrest : (rest.map ct).sum ≤ 8)
    (hM : Mt G m2 d2 ac2 az2 (vR k :: As) h Q2) (kk : ∀ r h', Q2 r h' → Ev G m d (ac - ac2) (az - az2) (pc + 3) Ls (r.toList ++ rest) h' Q) : Ev G m d ac az pc Ls st h Q := by
  intro p l e R s mid args below meth c H locs cells slots Z ls a1 a2 a3 a4 a5 a6 a7 a8
  obtain ⟨hx, hb, hml, hown, hts, hK, hX, hg, hfr, hlo, hnm⟩ := id a1
  refine W_size (fun hle => ?_)
  have hsz := sz_of a2 a4 hg (by omega)
  obtain ⟨hlk, hC, hin, hse, q, hcq, hqc⟩ := hw
  have hB : CBk m.1.cls idx m2 n := ⟨hlk, hC⟩
  have hrecv := va_recv hK.1 a2 hcq (wh_obj hk)
  rw [hqc] at hrecv
  refine Ev_run a1 a3 a4 a5 a6 a7 a8 hc hz (rest := rest) (Q2 := Q2) ?_ kk
  exact va_runV (As := As.map (tv G)) (rest := rest.map (tv G)) (b := G.2.2.1 + k) (Ts := gw) (C := m2.1.cls) ⟨hx, hb, hml, hown, hts⟩ (hM l) ⟨CB_of hB hts hd2 hfr hlo, hts _ hin, hts _ hse⟩ ⟨Pm_blind _, hrecv, fun U hU hW => ⟨rfl, Pm_at a2 a4 hX hg hK hsz hU hW⟩⟩ rfl (by rw [List.length_map]; exact hn) a5.1.1 (by rw [hst]; show List.map (tv G) _ = _; rw [List.map_append, List.map_reverse]; rfl) (lv_room (by rw [cat_sum]; exact hrest)) hd ⟨by omega, by omega⟩
theorem E_callS {idx n d2 ac2 az2 : Nat} {m2 : iM} {As rest : List iV} {Q2 : Option iV → iH → Prop} (hd : decode m.2.1 pc = .ok (.invokestatic idx, 3)) (hw : CSk m.1.cls idx m2 n) (hd2 : d2 + 1 ≤ d) (hc : ac2 ≤ ac) (hz : az2 ≤ az) (hn : As.length = n) (hst : st = As.reverse ++ rest) (hrest : (rest.map ct).sum ≤ 8)
    (hM : Mt G m2 d2 ac2 az2 As h Q2) (kk : ∀ r h', Q2 r h' → Ev G m d (ac - ac2) (az - az2) (pc + 3) Ls (r.toList ++ rest) h' Q) : Ev G m d ac az pc Ls st h Q := by
  intro p l e R s mid args below meth c H locs cells slots Z ls a1 a2 a3 a4 a5 a6 a7 a8
  obtain ⟨hx, hb, hml, hown, hts, hK, hX, hg, hfr, hlo, hnm⟩ := id a1
  refine W_size (fun hle => ?_)
  have hsz := sz_of a2 a4 hg (by omega)
  obtain ⟨hlk, hC, hsta⟩ := hw
  have hB : CBk m.1.cls idx m2 n := ⟨hlk, hC⟩
  refine Ev_run a1 a3 a4 a5 a6 a7 a8 hc hz (rest := rest) (Q2 := Q2) ?_ kk
  exact va_runS (As := As.map (tv G)) (rest := rest.map (tv G)) (Ts := gw) ⟨hx, hb, hml, hown, hts⟩ (hM l) ⟨CB_of hB hts hd2 hfr hlo, hts _ hsta⟩ ⟨Pm_blind _, fun U hU hW => ⟨rfl, Pm_at a2 a4 hX hg hK hsz hU hW⟩⟩ rfl (by rw [List.length_map]; exact hn) a5.1.1 (by rw [hst]; show List.map (tv G) _ = _; rw [List.map_append, List.map_reverse]) (lv_room (by rw [cat_sum]; exact hrest)) hd ⟨by omega, by omega⟩
theorem E_callI {idx n k d2 ac2 az2 : Nat} {m2 : iM} {As rest : List iV} {Q2 : Option iV → iH → Prop} (hd : decode m.2.1 pc = .ok (.invokespecial idx, 3)) (hw : CIk m.1.cls idx m2 n) (hd2 : d2 + 1 ≤ d) (hc : ac2 ≤ ac) (hz : az2 ≤ az) (hn : As.length = n) (hst : st = As.reverse ++ vR k :: rest) (hrest : (rest.map ct).sum ≤ 8)
    (hM : Mt G m2 d2 ac2 az2 (vR k :: As) h Q2) (kk : ∀ r h', Q2 r h' → Ev G m d (ac - ac2) (az - az2) (pc + 3) Ls (r.toList ++ rest) h' Q) : Ev G m d ac az pc Ls st h Q := by
  intro p l e R s mid args below meth c H locs cells slots Z ls a1 a2 a3 a4 a5 a6 a7 a8
  obtain ⟨hx, hb, hml, hown, hts, hK, hX, hg, hfr, hlo, hnm⟩ := id a1
  refine W_size (fun hle => ?_)
  have hsz := sz_of a2 a4 hg (by omega)
  obtain ⟨hlk, hC, hy, hin, hret⟩ := hw
  have hB : CBk m.1.cls idx m2 n := ⟨hlk, hC⟩
  have hCB := CB_of (R := R) (s := s) (args := args) (d2 := d2) (ac2 := ac2) (az2 := az2) hB hts hd2 hfr hlo
  rw [hret] at hCB
  refine Ev_run a1 a3 a4 a5 a6 a7 a8 hc hz (rest := rest) (Q2 := Q2) ?_ kk
  exact va_runI (As := As.map (tv G)) (rest := rest.map (tv G)) (b := G.2.2.1 + k) (Ts := gw) ⟨hx, hb, hml, hown, hts⟩ (hM l) ⟨hCB, hy, hts _ hin⟩ ⟨Pm_blind _, fun U hU hW => ⟨rfl, Pm_at a2 a4 hX hg hK hsz hU hW⟩⟩ rfl (by rw [List.length_map]; exact hn) a5.1.1 (by rw [hst]; show List.map (tv G) _ = _; rw [List.map_append, List.map_reverse]; rfl) (lv_room (by rw [cat_sum]; exact hrest)) hd ⟨by omega, by omega⟩
theorem E_callN {idx n k d2 ac2 az2 : Nat} {m2 : iM} {As rest : List iV} {Q2 : Option iV → iH → Prop} (hd : decode m.2.1 pc = .ok (.invokespecial idx, 3)) (hw : IMk m2 n) (hown0 : m.1.cls = "PagedKernel") (hnest : (idx = 39 ∧ m2.1 = yN_P) ∨ (idx = 42 ∧ m2.1 = yN_R)) (hd2 : d2 + 1 ≤ d) (hc : ac2 ≤ ac) (hz : az2 ≤ az) (hn : As.length = n) (hst : st = As.reverse ++ vR k :: rest) (hrest : (rest.map ct).sum ≤ 8)
    (hM : Mt G m2 d2 ac2 az2 (vR k :: As) h Q2) (kk : ∀ r h', Q2 r h' → Ev G m d (ac - ac2) (az - az2) (pc + 3) Ls (r.toList ++ rest) h' Q) : Ev G m d ac az pc Ls st h Q := by
  intro p l e R s mid args below meth c H locs cells slots Z ls a1 a2 a3 a4 a5 a6 a7 a8
  obtain ⟨hx, hb, hml, hown, hts, hK, hX, hg, hfr, hlo, hnm⟩ := id a1
  refine W_size (fun hle => ?_)
  have hsz := sz_of a2 a4 hg (by omega)
  obtain ⟨⟨h2, h3, h4, h5⟩, hy, hin, hret⟩ := hw
  have hl : va_Nw (.methodLinkNest m.1.cls idx m2.1 "PagedKernel") s := by
    rw [hown0]
    rcases hnest with ⟨rfl, e⟩ | ⟨rfl, e⟩
    · rw [e]; exact hK.2.2.2.1
    · rw [e]; exact hK.2.2.2.2
  have hCN : va_CN R s args m.1.cls idx m2.1 "PagedKernel" m2.2.1 m2.2.2.1 m2.2.2.2 (mw m2) (rm d2 ac2 az2) ac2 az2 n := va_cnB (Ts := gw) n hts (gw_in h3) rfl rfl rfl hl (hts _ h2) h5 ⟨by show d2 + 1 ≤ R.frames; omega, by show 8 + (m2.2.2.1 + 11) + 36 * d2 ≤ R.locals; omega⟩
  rw [hret] at hCN
  refine Ev_run a1 a3 a4 a5 a6 a7 a8 hc hz (rest := rest) (Q2 := Q2) ?_ kk
  exact va_runIN (As := As.map (tv G)) (rest := rest.map (tv G)) (b := G.2.2.1 + k) (Ts := gw) ⟨hx, hb, hml, hown, hts⟩ (hM l) ⟨hCN, hy, hts _ hin⟩ ⟨Pm_blind _, fun U hU hW => ⟨rfl, Pm_at a2 a4 hX hg hK hsz hU hW⟩⟩ rfl (by rw [List.length_map]; exact hn) a5.1.1 (by rw [hst]; show List.map (tv G) _ = _; rw [List.map_append, List.map_reverse]; rfl) (lv_room (by rw [cat_sum]; exact hrest)) hd ⟨by omega, by omega⟩
theorem E_objInit {idx k : Nat} (hd : decode m.2.1 pc = .ok (.invokespecial idx, 3)) (hw : Cond.methodLink m.1.cls idx Lib.objectInit ∈ gw ∧ Cond.instanceMethod Lib.objectInit ∈ gw ∧ Cond.code Lib.objectInit ⟨#[0xb1]⟩ 1 none ∈ gw) (hd2 : 1 ≤ d) (hrest : (st.map ct).sum ≤ 8) (k0 : Ev G m d ac az (pc + 3) Ls st h Q) : Ev G m d ac az pc Ls (vR k :: st) h Q := by
  intro p l e R s mid args below meth c H locs cells slots Z ls a1 a2 a3 a4 a5 a6 a7 a8
  obtain ⟨hx, hb, hml, hown, hts, hK, hX, hg, hfr, hlo, hnm⟩ := id a1
  refine W.objInit (g := F0 mid pc ls (.ref (G.2.2.1 + k) :: st.map (tv G))) hx hb hown (hts _ hw.1) (hts _ hw.2.1) (hts _ hw.2.2) rfl (by rw [hml]; exact a5.1.1) rfl hd (by omega) ?_ (k0 p l e R s mid args below meth c H locs cells slots Z ls a1 a2 a3 a4 a5 a6 a7 a8)
  show 2 * 0 + _ + 12 ≤ _
  rw [cat_sum]
  omega
/-- σ with row k put to f -/
def upk (σ : Nat → Nat → Int32) (k : Nat) (f : Nat → Int32) : Nat → Nat → Int32 := fun k' j' => if k' = k then f j' else σ k' j'
theorem wh_set_k {k n : Nat} {f : Nat → Int32} (hk : h.1[k]? = some (0, n)) : (wh G h).set k (G.2.2.1 + k, .inl (G.2.1 0, n, .inl f)) = wh G (h.1, upk h.2.1 k f, h.2.2) := by
  refine wh_set (h' := (h.1, upk h.2.1 k f, h.2.2)) (kn := (0, n)) rfl hk ?_ (fun i kn' hi _ => en_ne (h := h) (h' := (h.1, upk h.2.1 k f, h.2.2)) (by funext j; simp [upk, hi]) rfl kn')
  show Sum.inl (_, _, _) = Sum.inl (_, _, _)
  rw [show (h.1, upk h.2.1 k f, h.2.2).2.1 k = f by funext j; simp [upk]]
theorem E_copy {idx k0 k1 n0 n1 a b n : Nat} {sp dp nn : Int32} (hd : decode m.2.1 pc = .ok (.invokestatic idx, 3)) (hw : Cond.methodLink m.1.cls idx arraycopyName ∈ gw ∧ Cond.native arraycopyName ∈ gw ∧ Cond.static arraycopyName ∈ gw ∧ Cond.initialized "java/lang/System" ∈ gw) (hd2 : 1 ≤ d) (hrest : (st.map ct).sum ≤ 8)
    (hk0 : h.1[k0]? = some (0, n0)) (hk1 : h.1[k1]? = some (0, n1)) (hsp : sp = nI a) (hdp : dp = nI b) (hnn : nn = nI n) (hn0 : a + n ≤ n0) (hn1 : b + n ≤ n1) (hb0 : n0 < 2 ^ 31) (hb1 : n1 < 2 ^ 31)
    (kk : Ev G m d ac az (pc + 3) Ls st (h.1, upk h.2.1 k1 (va_cpy (h.2.1 k0) (h.2.1 k1) a b n), h.2.2) Q) : Ev G m d ac az pc Ls (vI nn :: vI dp :: vR k1 :: vI sp :: vR k0 :: st) h Q := by
  intro p l e R s mid args below meth c H locs cells slots Z ls a1 a2 a3 a4 a5 a6 a7 a8
  obtain ⟨hx, hb, hml, hown, hts, hK, hX, hg, hfr, hlo, hnm⟩ := id a1
  have ea : sp.toNatClampNeg = a := by rw [hsp]; exact nI_clamp (by omega)
  have eb : dp.toNatClampNeg = b := by rw [hdp]; exact nI_clamp (by omega)
  have en' : nn.toNatClampNeg = n := by rw [hnn]; exact nI_clamp (by omega)
  have hnw : nativeFrameWords "java/lang/System" "arraycopy" 5 + 11 ≤ 28 := by decide
  refine va_copyi (D := G.1) (c0 := G.2.1 0) (c1 := G.2.1 0) (ty := .int) hx hb (by rw [hml]; exact a5.1.1.symm) hown (hts _ hw.1) (hts _ hw.2.1) (hts _ hw.2.2.1) (hts _ hw.2.2.2) hK.1 a2 (wh_D G h) a4 k0 k1 0 0 (wh_at hk0) (wh_at hk1) rfl rfl rfl (by rw [hsp]; exact nI_pos (by omega)) (by rw [hdp]; exact nI_pos (by omega)) (by rw [hnn]; exact nI_pos (by omega)) (by rw [ea, en']; exact hn0) (by rw [eb, en']; exact hn1) (fun _ _ => rfl) (by omega) (by rw [cat_sum]; omega) hd (fun H1 locs1 hP1 _ hS1 => ?_)
  rw [ea, eb, en', wh_set_k hk1] at hP1
  exact kk p l e R s mid args below meth c H1 locs1 cells slots Z ls a1 hP1 a3 hS1 a5 a6 a7 a8
def zr (σ : Nat → Nat → Int32) (n : Nat) : Nat → Nat → Int32 := fun k j => if k = n then 0 else σ k j
def zq (ρ : Nat → Nat → Option Nat) (n : Nat) : Nat → Nat → Option Nat := fun k j => if k = n then none else ρ k j
/-- the world with one more cell -/
def hpush (h : iH) (kn : Nat × Nat) : iH := (h.1 ++ [kn], zr h.2.1 h.1.length, zq h.2.2 h.1.length)
theorem wh_push (kn : Nat × Nat) : wh G h ++ [(G.2.2.1 + h.1.length, en G (hpush h kn) h.1.length kn)] = wh G (hpush h kn) := by
  apply List.ext_getElem?
  intro i
  have hl : (wh G h).length = h.1.length := by simp [wh]
  rcases Nat.lt_trichotomy i h.1.length with hi | hi | hi
  · rw [List.getElem?_append_left (by omega)]
    have e1 : h.1[i]? = some (h.1[i]) := List.getElem?_eq_getElem hi
    have e2 : (hpush h kn).1[i]? = some (h.1[i]) := by
      show (h.1 ++ [kn])[i]? = _
      rw [List.getElem?_append_left hi, e1]
    rw [wh_at e1, wh_at e2]
    have hne : i ≠ h.1.length := by omega
    rw [en_ne (h := h) (h' := hpush h kn) (by funext j; simp [hpush, zr, hne]) (by funext j; simp [hpush, zq, hne])]
  · subst hi
    have e2 : (hpush h kn).1[h.1.length]? = some kn := by
      show (h.1 ++ [kn])[_]? = _
      simp
    rw [wh_at e2, List.getElem?_append_right (by omega), hl]
    simp
  · have e2 : (hpush h kn).1[i]? = none := by
      show (h.1 ++ [kn])[i]? = _
      simp; omega
    rw [wh, List.getElem?_append_right (by simp; omega), wh, List.getElem?_mapIdx, e2]
    simp; omega
theorem q_of {q : Nat} {e : va_E} {H1 : Heap} (hP1 : va_P G.1 cls (wh G h ++ [(q, e)]) H1) (hD1 : va_D (gA G) (wh G h ++ [(q, e)])) (hsz : H1.size ≤ G.2.2.1 + h.1.length + 1) : q = G.2.2.1 + h.1.length := by
  have hl : (wh G h).length = h.1.length := by simp [wh]
  have hlast : (wh G h ++ [(q, e)])[h.1.length]? = some (q, e) := by
    rw [List.getElem?_append_right (by omega), hl]
    simp
  have h1 : q < H1.size := (hP1 _ _ hlast).lt
  have h2 : G.2.2.1 ≤ q := hD1.2 _ _ hlast
  by_cases h3 : q < G.2.2.1 + h.1.length
  · exfalso
    have hk : q - G.2.2.1 < h.1.length := by omega
    have h4 := wh_at (G := G) (h := h) (List.getElem?_eq_getElem hk)
    have h5 : (wh G h ++ [(q, e)])[q - G.2.2.1]? = some (G.2.2.1 + (q - G.2.2.1), en G h (q - G.2.2.1) (h.1[q - G.2.2.1])) := by
      rw [List.getElem?_append_left (by omega)]
      exact h4
    have h6 := hD1.1 _ _ _ _ h5 hlast (by show G.2.2.1 + (q - G.2.2.1) = q; omega)
    omega
  · omega
theorem E_newA0 {x : Int32} {N : Nat} (hd : decode m.2.1 pc = .ok (.newarray .int, 2)) (har : Cond.arrayClass .int ∈ gw) (hx : x = nI N) (hN : N ≤ 100000) (hac : 1 ≤ ac) (haz : N ≤ az) (kk : Ev G m d (ac - 1) (az - N) (pc + 2) Ls (vR h.1.length :: st) (hpush h (0, N)) Q) : Ev G m d ac az pc Ls (vI x :: st) h Q := by
  intro p l e R s mid args below meth c H locs cells slots Z ls a1 a2 a3 a4 a5 a6 a7 a8
  obtain ⟨hxx, hb, hml, hown, hts, hK, hX, hg, hfr, hlo, hnm⟩ := id a1
  refine va_newa (atype := .int) (D := G.1) (A := gA G) (ty := .int) (N' := N) (a0 := (N, .inl (fun _ => 0))) hxx hb (hts _ har) rfl hK.1 a2 (wh_D G h) a4 (fun q hq => Nat.le_trans hg hq) (fun _ => rfl) (by rw [hx]; exact nI_pos (by omega)) (by rw [hx]; exact nI_clamp (by omega)) (by show N * _ ≤ _; simp only [componentBytes]; omega) (by omega) (by omega) hd (fun q cA H1 hK1 hP1 hD1 hS1 => ?_)
  refine W_size (fun hle => ?_)
  have hq := q_of hP1 hD1 (by omega)
  have hcA : cA = G.2.1 0 := Option.some.inj ((hK1.2 4 (cA, .int) rfl).2.symm.trans (hK.1.2 0 (G.2.1 0, .int) rfl).2)
  subst hq hcA
  have hP2 : va_P G.1 cls (wh G (hpush h (0, N))) H1 := by
    rw [← wh_push]
    have e : en G (hpush h (0, N)) h.1.length (0, N) = .inl (G.2.1 0, N, .inl (fun _ => 0)) := by
      show Sum.inl (_, _, _) = _
      rw [show (hpush h (0, N)).2.1 h.1.length = fun _ => 0 by funext j; simp [hpush, zr]]
    rw [e]
    exact hP1
  have hcc : cells + 1 + (ac - 1) = cells + ac := by omega
  exact kk p l e R s mid args below meth c H1 locs (cells + 1) (slots + N) Z ls a1 hP2 (by simp only [hpush, List.length_append, List.length_singleton]; omega) hS1 a5 (by omega) (by omega) (fun H1 locs1 slots1 r1 h1 pc1 ls1 c1 c2 c3 c4 c5 c6 => by rw [hcc] at c3 ⊢; exact a8 H1 locs1 slots1 r1 h1 pc1 ls1 c1 c2 c3 c4 (by omega) c6)
theorem E_newA1 {x : Int32} {N : Nat} (hd : decode m.2.1 pc = .ok (.newarray .boolean, 2)) (har : Cond.arrayClass .boolean ∈ gw) (hx : x = nI N) (hN : N ≤ 100000) (hac : 1 ≤ ac) (haz : N ≤ az) (kk : Ev G m d (ac - 1) (az - N) (pc + 2) Ls (vR h.1.length :: st) (hpush h (1, N)) Q) : Ev G m d ac az pc Ls (vI x :: st) h Q := by
  intro p l e R s mid args below meth c H locs cells slots Z ls a1 a2 a3 a4 a5 a6 a7 a8
  obtain ⟨hxx, hb, hml, hown, hts, hK, hX, hg, hfr, hlo, hnm⟩ := id a1
  refine va_newa (atype := .boolean) (D := G.1) (A := gA G) (ty := .boolean) (N' := N) (a0 := (N, .inl (fun _ => 0))) hxx hb (hts _ har) rfl hK.1 a2 (wh_D G h) a4 (fun q hq => Nat.le_trans hg hq) (fun _ => rfl) (by rw [hx]; exact nI_pos (by omega)) (by rw [hx]; exact nI_clamp (by omega)) (by show N * _ ≤ _; simp only [componentBytes]; omega) (by omega) (by omega) hd (fun q cA H1 hK1 hP1 hD1 hS1 => ?_)
  refine W_size (fun hle => ?_)
  have hq := q_of hP1 hD1 (by omega)
  have hcA : cA = G.2.1 1 := Option.some.inj ((hK1.2 4 (cA, .boolean) rfl).2.symm.trans (hK.1.2 1 (G.2.1 1, .boolean) rfl).2)
  subst hq hcA
  have hP2 : va_P G.1 cls (wh G (hpush h (1, N))) H1 := by
    rw [← wh_push]
    have e : en G (hpush h (1, N)) h.1.length (1, N) = .inl (G.2.1 1, N, .inl (fun _ => 0)) := by
      show Sum.inl (_, _, _) = _
      rw [show (hpush h (1, N)).2.1 h.1.length = fun _ => 0 by funext j; simp [hpush, zr]]
    rw [e]
    exact hP1
  have hcc : cells + 1 + (ac - 1) = cells + ac := by omega
  exact kk p l e R s mid args below meth c H1 locs (cells + 1) (slots + N) Z ls a1 hP2 (by simp only [hpush, List.length_append, List.length_singleton]; omega) hS1 a5 (by omega) (by omega) (fun H1 locs1 slots1 r1 h1 pc1 ls1 c1 c2 c3 c4 c5 c6 => by rw [hcc] at c3 ⊢; exact a8 H1 locs1 slots1 r1 h1 pc1 ls1 c1 c2 c3 c4 (by omega) c6)
theorem E_newA2 {x : Int32} {N idx : Nat} (hd : decode m.2.1 pc = .ok (.anewarray idx, 3)) (hcl : Cond.classLink m.1.cls idx R_Task ∈ gw) (hx : x = nI N) (hN : N ≤ 100000) (hac : 1 ≤ ac) (haz : N ≤ az) (kk : Ev G m d (ac - 1) (az - N) (pc + 3) Ls (vR h.1.length :: st) (hpush h (2, N)) Q) : Ev G m d ac az pc Ls (vI x :: st) h Q := by
  intro p l e R s mid args below meth c H locs cells slots Z ls a1 a2 a3 a4 a5 a6 a7 a8
  obtain ⟨hxx, hb, hml, hown, hts, hK, hX, hg, hfr, hlo, hnm⟩ := id a1
  refine va_newq (D := G.1) (A := gA G) (C := R_Task) (N' := N) hxx hb hown (hts _ hcl) hK.2.1 hK.1 a2 (wh_D G h) a4 (fun q hq => Nat.le_trans hg hq) (by rw [hx]; exact nI_pos (by omega)) (by rw [hx]; exact nI_clamp (by omega)) (by omega) (by omega) (by omega) hd (fun q cA H1 hK1 hP1 hD1 hS1 => ?_)
  refine W_size (fun hle => ?_)
  have hq := q_of hP1 hD1 (by omega)
  obtain ⟨_, _, _, _, _, f1⟩ := (hK1.2 4 (cA, .object R_Task) rfl).2
  obtain ⟨_, _, _, _, _, f2⟩ := (hK.1.2 2 (G.2.1 2, .object R_Task) rfl).2
  have hcA : cA = G.2.1 2 := Option.some.inj (f1.symm.trans f2)
  subst hq hcA
  have hP2 : va_P G.1 cls (wh G (hpush h (2, N))) H1 := by
    rw [← wh_push]
    have e : en G (hpush h (2, N)) h.1.length (2, N) = .inl (G.2.1 2, N, .inr (.inr (.inr (.inr (fun _ => none))))) := by
      show Sum.inl (_, _, _) = _
      rw [show (hpush h (2, N)).2.2 h.1.length = fun _ => none by funext j; simp [hpush, zq]]
      rfl
    rw [e]
    exact hP1
  have hcc : cells + 1 + (ac - 1) = cells + ac := by omega
  exact kk p l e R s mid args below meth c H1 locs (cells + 1) (slots + N) Z ls a1 hP2 (by simp only [hpush, List.length_append, List.length_singleton]; omega) hS1 a5 (by omega) (by omega) (fun H1 locs1 slots1 r1 h1 pc1 ls1 c1 c2 c3 c4 c5 c6 => by rw [hcc] at c3 ⊢; exact a8 H1 locs1 slots1 r1 h1 pc1 ls1 c1 c2 c3 c4 (by omega) c6)
theorem E_newA3 {x : Int32} {N idx : Nat} (hd : decode m.2.1 pc = .ok (.anewarray idx, 3)) (hcl : Cond.classLink m.1.cls idx R_Pipe ∈ gw) (hx : x = nI N) (hN : N ≤ 100000) (hac : 1 ≤ ac) (haz : N ≤ az) (kk : Ev G m d (ac - 1) (az - N) (pc + 3) Ls (vR h.1.length :: st) (hpush h (3, N)) Q) : Ev G m d ac az pc Ls (vI x :: st) h Q := by
  intro p l e R s mid args below meth c H locs cells slots Z ls a1 a2 a3 a4 a5 a6 a7 a8
  obtain ⟨hxx, hb, hml, hown, hts, hK, hX, hg, hfr, hlo, hnm⟩ := id a1
  refine va_newq (D := G.1) (A := gA G) (C := R_Pipe) (N' := N) hxx hb hown (hts _ hcl) hK.2.2.1 hK.1 a2 (wh_D G h) a4 (fun q hq => Nat.le_trans hg hq) (by rw [hx]; exact nI_pos (by omega)) (by rw [hx]; exact nI_clamp (by omega)) (by omega) (by omega) (by omega) hd (fun q cA H1 hK1 hP1 hD1 hS1 => ?_)
  refine W_size (fun hle => ?_)
  have hq := q_of hP1 hD1 (by omega)
  obtain ⟨_, _, _, _, _, f1⟩ := (hK1.2 4 (cA, .object R_Pipe) rfl).2
  obtain ⟨_, _, _, _, _, f2⟩ := (hK.1.2 3 (G.2.1 3, .object R_Pipe) rfl).2
  have hcA : cA = G.2.1 3 := Option.some.inj (f1.symm.trans f2)
  subst hq hcA
  have hP2 : va_P G.1 cls (wh G (hpush h (3, N))) H1 := by
    rw [← wh_push]
    have e : en G (hpush h (3, N)) h.1.length (3, N) = .inl (G.2.1 3, N, .inr (.inr (.inr (.inr (fun _ => none))))) := by
      show Sum.inl (_, _, _) = _
      rw [show (hpush h (3, N)).2.2 h.1.length = fun _ => none by funext j; simp [hpush, zq]]
      rfl
    rw [e]
    exact hP1
  have hcc : cells + 1 + (ac - 1) = cells + ac := by omega
  exact kk p l e R s mid args below meth c H1 locs (cells + 1) (slots + N) Z ls a1 hP2 (by simp only [hpush, List.length_append, List.length_singleton]; omega) hS1 a5 (by omega) (by omega) (fun H1 locs1 slots1 r1 h1 pc1 ls1 c1 c2 c3 c4 c5 c6 => by rw [hcc] at c3 ⊢; exact a8 H1 locs1 slots1 r1 h1 pc1 ls1 c1 c2 c3 c4 (by omega) c6)
def NWk (own : String) (idx ci N : Nat) : Prop := ∃ q : vw_C, cls[ci]? = some q ∧ q.2.2 = N ∧ Cond.classLink own idx q.1 ∈ gw ∧ Cond.instantiable q.1 N ∈ gw ∧ Cond.initialized q.1 ∈ gw
theorem E_new {idx ci N : Nat} (hd : decode m.2.1 pc = .ok (.new idx, 3)) (hw : NWk m.1.cls idx ci N) (hac : 1 ≤ ac) (haz : N ≤ az) (kk : Ev G m d (ac - 1) (az - N) (pc + 3) Ls (vR h.1.length :: st) (hpush h (ci + 4, N)) Q) : Ev G m d ac az pc Ls st h Q := by
  intro p l e R s mid args below meth c H locs cells slots Z ls a1 a2 a3 a4 a5 a6 a7 a8
  obtain ⟨hxx, hb, hml, hown, hts, hK, hX, hg, hfr, hlo, hnm⟩ := id a1
  obtain ⟨⟨C, T, N'⟩, hc, hN, hcl, hins, hini⟩ := hw
  have hN : N' = N := hN
  subst hN
  have hfs : ∀ j, j < N' → defaultValue (tyT ci j) = vp_V ((List.range N').map (fun j => fv G (hpush h (ci + 4, N')) h.1.length ci j)) j := fun j hj => by
    have e := cls_df ci _ hc j hj
    change defaultValue (tyT ci j) = if rf ci j = true then Value.null else Value.int 0 at e
    rw [e]
    rw [vp_V, List.getD_eq_getElem?_getD, wh_fld hj, Option.getD_some]
    simp only [fv, hpush, zr, zq]
    cases rf ci j <;> simp [va_rf, iw_b]
  refine va_new (D := G.1) (A := gA G) (ci := ci) (fs := (List.range N').map (fun j => fv G (hpush h (ci + 4, N')) h.1.length ci j)) (C := C) (T := T) (N := N') hxx hb hts (cls_in ci _ hc) (tyT ci) (cls_ty ci _ hc) hown (hts _ hcl) (hts _ hins) (hts _ hini) hK.1 a2 (wh_D G h) a4 (fun q hq => Nat.le_trans hg hq) hc hfs (by omega) (by omega) hd (fun q H1 hP1 hD1 hS1 => ?_)
  refine W_size (fun hle => ?_)
  have hq := q_of hP1 hD1 (by omega)
  subst hq
  have hP2 : va_P G.1 cls (wh G (hpush h (ci + 4, N'))) H1 := by
    rw [← wh_push]
    exact hP1
  have hcc : cells + 1 + (ac - 1) = cells + ac := by omega
  exact kk p l e R s mid args below meth c H1 locs (cells + 1) (slots + N') Z ls a1 hP2 (by simp only [hpush, List.length_append, List.length_singleton]; omega) hS1 a5 (by omega) (by omega) (fun H1 locs1 slots1 r1 h1 pc1 ls1 c1 c2 c3 c4 c5 c6 => by rw [hcc] at c3 ⊢; exact a8 H1 locs1 slots1 r1 h1 pc1 ls1 c1 c2 c3 c4 (by omega) c6)
/-- contracts by what is answered -/
def MI (G : iG) (m : iM) (d : Nat) (As : List iV) (h : iH) (P : Int32 → iH → Prop) : Prop := Mt G m d 0 0 As h (fun r h' => ∃ x, r = some (vI x) ∧ P x h')
def MV (G : iG) (m : iM) (d : Nat) (As : List iV) (h : iH) (P : iH → Prop) : Prop := Mt G m d 0 0 As h (fun r h' => r = none ∧ P h')
def MQ_ (G : iG) (m : iM) (d : Nat) (As : List iV) (h : iH) (P : Option Nat → iH → Prop) : Prop := Mt G m d 0 0 As h (fun r h' => ∃ x, r = some (vQ x) ∧ P x h')
theorem E_V0i {idx d2 ci k N : Nat} {m2 : iM}  {P : Int32 → iH → Prop} (hd : decode m.2.1 pc = .ok (.invokevirtual idx, 3)) (hw : CVk m.1.cls idx ci m2 0) (hk : h.1[k]? = some (ci + 4, N)) (hd2 : d2 + 1 ≤ d) (hrest : (st.map ct).sum ≤ 8) (hM : MI G m2 d2 (vR k :: []) h P) (kk : ∀ (x : Int32) (h' : iH), P x h' → Ev G m d ac az (pc + 3) Ls (vI x :: st) h' Q) : Ev G m d ac az pc Ls (vR k :: st) h Q :=
  E_callV (As := []) (rest := st) hd hw hk hd2 (Nat.zero_le _) (Nat.zero_le _) rfl rfl hrest hM (fun r h' hq => by
    obtain ⟨x, rfl, hp⟩ := hq
    exact kk x h' hp)
theorem E_V0v {idx d2 ci k N : Nat} {m2 : iM}  {P : iH → Prop} (hd : decode m.2.1 pc = .ok (.invokevirtual idx, 3)) (hw : CVk m.1.cls idx ci m2 0) (hk : h.1[k]? = some (ci + 4, N)) (hd2 : d2 + 1 ≤ d) (hrest : (st.map ct).sum ≤ 8) (hM : MV G m2 d2 (vR k :: []) h P) (kk : ∀ (h' : iH), P h' → Ev G m d ac az (pc + 3) Ls (st) h' Q) : Ev G m d ac az pc Ls (vR k :: st) h Q :=
  E_callV (As := []) (rest := st) hd hw hk hd2 (Nat.zero_le _) (Nat.zero_le _) rfl rfl hrest hM (fun r h' hq => by
    obtain ⟨rfl, hp⟩ := hq
    exact kk h' hp)
theorem E_V0q {idx d2 ci k N : Nat} {m2 : iM}  {P : Option Nat → iH → Prop} (hd : decode m.2.1 pc = .ok (.invokevirtual idx, 3)) (hw : CVk m.1.cls idx ci m2 0) (hk : h.1[k]? = some (ci + 4, N)) (hd2 : d2 + 1 ≤ d) (hrest : (st.map ct).sum ≤ 8) (hM : MQ_ G m2 d2 (vR k :: []) h P) (kk : ∀ (x : Option Nat) (h' : iH), P x h' → Ev G m d ac az (pc + 3) Ls (vQ x :: st) h' Q) : Ev G m d ac az pc Ls (vR k :: st) h Q :=
  E_callV (As := []) (rest := st) hd hw hk hd2 (Nat.zero_le _) (Nat.zero_le _) rfl rfl hrest hM (fun r h' hq => by
    obtain ⟨x, rfl, hp⟩ := hq
    exact kk x h' hp)
theorem E_V1i {idx d2 ci k N : Nat} {m2 : iM} {v1 : iV} {P : Int32 → iH → Prop} (hd : decode m.2.1 pc = .ok (.invokevirtual idx, 3)) (hw : CVk m.1.cls idx ci m2 1) (hk : h.1[k]? = some (ci + 4, N)) (hd2 : d2 + 1 ≤ d) (hrest : (st.map ct).sum ≤ 8) (hM : MI G m2 d2 (vR k :: [v1]) h P) (kk : ∀ (x : Int32) (h' : iH), P x h' → Ev G m d ac az (pc + 3) Ls (vI x :: st) h' Q) : Ev G m d ac az pc Ls (v1 :: vR k :: st) h Q :=
  E_callV (As := [v1]) (rest := st) hd hw hk hd2 (Nat.zero_le _) (Nat.zero_le _) rfl rfl hrest hM (fun r h' hq => by
    obtain ⟨x, rfl, hp⟩ := hq
    exact kk x h' hp)
theorem E_V1v {idx d2 ci k N : Nat} {m2 : iM} {v1 : iV} {P : iH → Prop} (hd : decode m.2.1 pc = .ok (.invokevirtual idx, 3)) (hw : CVk m.1.cls idx ci m2 1) (hk : h.1[k]? = some (ci + 4, N)) (hd2 : d2 + 1 ≤ d) (hrest : (st.map ct).sum ≤ 8) (hM : MV G m2 d2 (vR k :: [v1]) h P) (kk : ∀ (h' : iH), P h' → Ev G m d ac az (pc + 3) Ls (st) h' Q) : Ev G m d ac az pc Ls (v1 :: vR k :: st) h Q :=
  E_callV (As := [v1]) (rest := st) hd hw hk hd2 (Nat.zero_le _) (Nat.zero_le _) rfl rfl hrest hM (fun r h' hq => by
    obtain ⟨rfl, hp⟩ := hq
    exact kk h' hp)
theorem E_V1q {idx d2 ci k N : Nat} {m2 : iM} {v1 : iV} {P : Option Nat → iH → Prop} (hd : decode m.2.1 pc = .ok (.invokevirtual idx, 3)) (hw : CVk m.1.cls idx ci m2 1) (hk : h.1[k]? = some (ci + 4, N)) (hd2 : d2 + 1 ≤ d) (hrest : (st.map ct).sum ≤ 8) (hM : MQ_ G m2 d2 (vR k :: [v1]) h P) (kk : ∀ (x : Option Nat) (h' : iH), P x h' → Ev G m d ac az (pc + 3) Ls (vQ x :: st) h' Q) : Ev G m d ac az pc Ls (v1 :: vR k :: st) h Q :=
  E_callV (As := [v1]) (rest := st) hd hw hk hd2 (Nat.zero_le _) (Nat.zero_le _) rfl rfl hrest hM (fun r h' hq => by
    obtain ⟨x, rfl, hp⟩ := hq
    exact kk x h' hp)
theorem E_V2i {idx d2 ci k N : Nat} {m2 : iM} {v1 v2 : iV} {P : Int32 → iH → Prop} (hd : decode m.2.1 pc = .ok (.invokevirtual idx, 3)) (hw : CVk m.1.cls idx ci m2 2) (hk : h.1[k]? = some (ci + 4, N)) (hd2 : d2 + 1 ≤ d) (hrest : (st.map ct).sum ≤ 8) (hM : MI G m2 d2 (vR k :: [v1, v2]) h P) (kk : ∀ (x : Int32) (h' : iH), P x h' → Ev G m d ac az (pc + 3) Ls (vI x :: st) h' Q) : Ev G m d ac az pc Ls (v2 :: v1 :: vR k :: st) h Q :=
  E_callV (As := [v1, v2]) (rest := st) hd hw hk hd2 (Nat.zero_le _) (Nat.zero_le _) rfl rfl hrest hM (fun r h' hq => by
    obtain ⟨x, rfl, hp⟩ := hq
    exact kk x h' hp)
theorem E_V2v {idx d2 ci k N : Nat} {m2 : iM} {v1 v2 : iV} {P : iH → Prop} (hd : decode m.2.1 pc = .ok (.invokevirtual idx, 3)) (hw : CVk m.1.cls idx ci m2 2) (hk : h.1[k]? = some (ci + 4, N)) (hd2 : d2 + 1 ≤ d) (hrest : (st.map ct).sum ≤ 8) (hM : MV G m2 d2 (vR k :: [v1, v2]) h P) (kk : ∀ (h' : iH), P h' → Ev G m d ac az (pc + 3) Ls (st) h' Q) : Ev G m d ac az pc Ls (v2 :: v1 :: vR k :: st) h Q :=
  E_callV (As := [v1, v2]) (rest := st) hd hw hk hd2 (Nat.zero_le _) (Nat.zero_le _) rfl rfl hrest hM (fun r h' hq => by
    obtain ⟨rfl, hp⟩ := hq
    exact kk h' hp)
theorem E_V2q {idx d2 ci k N : Nat} {m2 : iM} {v1 v2 : iV} {P : Option Nat → iH → Prop} (hd : decode m.2.1 pc = .ok (.invokevirtual idx, 3)) (hw : CVk m.1.cls idx ci m2 2) (hk : h.1[k]? = some (ci + 4, N)) (hd2 : d2 + 1 ≤ d) (hrest : (st.map ct).sum ≤ 8) (hM : MQ_ G m2 d2 (vR k :: [v1, v2]) h P) (kk : ∀ (x : Option Nat) (h' : iH), P x h' → Ev G m d ac az (pc + 3) Ls (vQ x :: st) h' Q) : Ev G m d ac az pc Ls (v2 :: v1 :: vR k :: st) h Q :=
  E_callV (As := [v1, v2]) (rest := st) hd hw hk hd2 (Nat.zero_le _) (Nat.zero_le _) rfl rfl hrest hM (fun r h' hq => by
    obtain ⟨x, rfl, hp⟩ := hq
    exact kk x h' hp)
theorem E_V3i {idx d2 ci k N : Nat} {m2 : iM} {v1 v2 v3 : iV} {P : Int32 → iH → Prop} (hd : decode m.2.1 pc = .ok (.invokevirtual idx, 3)) (hw : CVk m.1.cls idx ci m2 3) (hk : h.1[k]? = some (ci + 4, N)) (hd2 : d2 + 1 ≤ d) (hrest : (st.map ct).sum ≤ 8) (hM : MI G m2 d2 (vR k :: [v1, v2, v3]) h P) (kk : ∀ (x : Int32) (h' : iH), P x h' → Ev G m d ac az (pc + 3) Ls (vI x :: st) h' Q) : Ev G m d ac az pc Ls (v3 :: v2 :: v1 :: vR k :: st) h Q :=
  E_callV (As := [v1, v2, v3]) (rest := st) hd hw hk hd2 (Nat.zero_le _) (Nat.zero_le _) rfl rfl hrest hM (fun r h' hq => by
    obtain ⟨x, rfl, hp⟩ := hq
    exact kk x h' hp)
theorem E_V3v {idx d2 ci k N : Nat} {m2 : iM} {v1 v2 v3 : iV} {P : iH → Prop} (hd : decode m.2.1 pc = .ok (.invokevirtual idx, 3)) (hw : CVk m.1.cls idx ci m2 3) (hk : h.1[k]? = some (ci + 4, N)) (hd2 : d2 + 1 ≤ d) (hrest : (st.map ct).sum ≤ 8) (hM : MV G m2 d2 (vR k :: [v1, v2, v3]) h P) (kk : ∀ (h' : iH), P h' → Ev G m d ac az (pc + 3) Ls (st) h' Q) : Ev G m d ac az pc Ls (v3 :: v2 :: v1 :: vR k :: st) h Q :=
  E_callV (As := [v1, v2, v3]) (rest := st) hd hw hk hd2 (Nat.zero_le _) (Nat.zero_le _) rfl rfl hrest hM (fun r h' hq => by
    obtain ⟨rfl, hp⟩ := hq
    exact kk h' hp)
theorem E_V3q {idx d2 ci k N : Nat} {m2 : iM} {v1 v2 v3 : iV} {P : Option Nat → iH → Prop} (hd : decode m.2.1 pc = .ok (.invokevirtual idx, 3)) (hw : CVk m.1.cls idx ci m2 3) (hk : h.1[k]? = some (ci + 4, N)) (hd2 : d2 + 1 ≤ d) (hrest : (st.map ct).sum ≤ 8) (hM : MQ_ G m2 d2 (vR k :: [v1, v2, v3]) h P) (kk : ∀ (x : Option Nat) (h' : iH), P x h' → Ev G m d ac az (pc + 3) Ls (vQ x :: st) h' Q) : Ev G m d ac az pc Ls (v3 :: v2 :: v1 :: vR k :: st) h Q :=
  E_callV (As := [v1, v2, v3]) (rest := st) hd hw hk hd2 (Nat.zero_le _) (Nat.zero_le _) rfl rfl hrest hM (fun r h' hq => by
    obtain ⟨x, rfl, hp⟩ := hq
    exact kk x h' hp)
theorem E_S1i {idx d2 : Nat} {m2 : iM} {v1 : iV} {P : Int32 → iH → Prop} (hd : decode m.2.1 pc = .ok (.invokestatic idx, 3)) (hw : CSk m.1.cls idx m2 1)  (hd2 : d2 + 1 ≤ d) (hrest : (st.map ct).sum ≤ 8) (hM : MI G m2 d2 [v1] h P) (kk : ∀ (x : Int32) (h' : iH), P x h' → Ev G m d ac az (pc + 3) Ls (vI x :: st) h' Q) : Ev G m d ac az pc Ls (v1 :: st) h Q :=
  E_callS (As := [v1]) (rest := st) hd hw hd2 (Nat.zero_le _) (Nat.zero_le _) rfl rfl hrest hM (fun r h' hq => by
    obtain ⟨x, rfl, hp⟩ := hq
    exact kk x h' hp)
theorem E_S1v {idx d2 : Nat} {m2 : iM} {v1 : iV} {P : iH → Prop} (hd : decode m.2.1 pc = .ok (.invokestatic idx, 3)) (hw : CSk m.1.cls idx m2 1)  (hd2 : d2 + 1 ≤ d) (hrest : (st.map ct).sum ≤ 8) (hM : MV G m2 d2 [v1] h P) (kk : ∀ (h' : iH), P h' → Ev G m d ac az (pc + 3) Ls (st) h' Q) : Ev G m d ac az pc Ls (v1 :: st) h Q :=
  E_callS (As := [v1]) (rest := st) hd hw hd2 (Nat.zero_le _) (Nat.zero_le _) rfl rfl hrest hM (fun r h' hq => by
    obtain ⟨rfl, hp⟩ := hq
    exact kk h' hp)
theorem E_S1q {idx d2 : Nat} {m2 : iM} {v1 : iV} {P : Option Nat → iH → Prop} (hd : decode m.2.1 pc = .ok (.invokestatic idx, 3)) (hw : CSk m.1.cls idx m2 1)  (hd2 : d2 + 1 ≤ d) (hrest : (st.map ct).sum ≤ 8) (hM : MQ_ G m2 d2 [v1] h P) (kk : ∀ (x : Option Nat) (h' : iH), P x h' → Ev G m d ac az (pc + 3) Ls (vQ x :: st) h' Q) : Ev G m d ac az pc Ls (v1 :: st) h Q :=
  E_callS (As := [v1]) (rest := st) hd hw hd2 (Nat.zero_le _) (Nat.zero_le _) rfl rfl hrest hM (fun r h' hq => by
    obtain ⟨x, rfl, hp⟩ := hq
    exact kk x h' hp)
theorem E_S2i {idx d2 : Nat} {m2 : iM} {v1 v2 : iV} {P : Int32 → iH → Prop} (hd : decode m.2.1 pc = .ok (.invokestatic idx, 3)) (hw : CSk m.1.cls idx m2 2)  (hd2 : d2 + 1 ≤ d) (hrest : (st.map ct).sum ≤ 8) (hM : MI G m2 d2 [v1, v2] h P) (kk : ∀ (x : Int32) (h' : iH), P x h' → Ev G m d ac az (pc + 3) Ls (vI x :: st) h' Q) : Ev G m d ac az pc Ls (v2 :: v1 :: st) h Q :=
  E_callS (As := [v1, v2]) (rest := st) hd hw hd2 (Nat.zero_le _) (Nat.zero_le _) rfl rfl hrest hM (fun r h' hq => by
    obtain ⟨x, rfl, hp⟩ := hq
    exact kk x h' hp)
theorem E_S2v {idx d2 : Nat} {m2 : iM} {v1 v2 : iV} {P : iH → Prop} (hd : decode m.2.1 pc = .ok (.invokestatic idx, 3)) (hw : CSk m.1.cls idx m2 2)  (hd2 : d2 + 1 ≤ d) (hrest : (st.map ct).sum ≤ 8) (hM : MV G m2 d2 [v1, v2] h P) (kk : ∀ (h' : iH), P h' → Ev G m d ac az (pc + 3) Ls (st) h' Q) : Ev G m d ac az pc Ls (v2 :: v1 :: st) h Q :=
  E_callS (As := [v1, v2]) (rest := st) hd hw hd2 (Nat.zero_le _) (Nat.zero_le _) rfl rfl hrest hM (fun r h' hq => by
    obtain ⟨rfl, hp⟩ := hq
    exact kk h' hp)
theorem E_S2q {idx d2 : Nat} {m2 : iM} {v1 v2 : iV} {P : Option Nat → iH → Prop} (hd : decode m.2.1 pc = .ok (.invokestatic idx, 3)) (hw : CSk m.1.cls idx m2 2)  (hd2 : d2 + 1 ≤ d) (hrest : (st.map ct).sum ≤ 8) (hM : MQ_ G m2 d2 [v1, v2] h P) (kk : ∀ (x : Option Nat) (h' : iH), P x h' → Ev G m d ac az (pc + 3) Ls (vQ x :: st) h' Q) : Ev G m d ac az pc Ls (v2 :: v1 :: st) h Q :=
  E_callS (As := [v1, v2]) (rest := st) hd hw hd2 (Nat.zero_le _) (Nat.zero_le _) rfl rfl hrest hM (fun r h' hq => by
    obtain ⟨x, rfl, hp⟩ := hq
    exact kk x h' hp)
theorem E_S3i {idx d2 : Nat} {m2 : iM} {v1 v2 v3 : iV} {P : Int32 → iH → Prop} (hd : decode m.2.1 pc = .ok (.invokestatic idx, 3)) (hw : CSk m.1.cls idx m2 3)  (hd2 : d2 + 1 ≤ d) (hrest : (st.map ct).sum ≤ 8) (hM : MI G m2 d2 [v1, v2, v3] h P) (kk : ∀ (x : Int32) (h' : iH), P x h' → Ev G m d ac az (pc + 3) Ls (vI x :: st) h' Q) : Ev G m d ac az pc Ls (v3 :: v2 :: v1 :: st) h Q :=
  E_callS (As := [v1, v2, v3]) (rest := st) hd hw hd2 (Nat.zero_le _) (Nat.zero_le _) rfl rfl hrest hM (fun r h' hq => by
    obtain ⟨x, rfl, hp⟩ := hq
    exact kk x h' hp)
theorem E_S3v {idx d2 : Nat} {m2 : iM} {v1 v2 v3 : iV} {P : iH → Prop} (hd : decode m.2.1 pc = .ok (.invokestatic idx, 3)) (hw : CSk m.1.cls idx m2 3)  (hd2 : d2 + 1 ≤ d) (hrest : (st.map ct).sum ≤ 8) (hM : MV G m2 d2 [v1, v2, v3] h P) (kk : ∀ (h' : iH), P h' → Ev G m d ac az (pc + 3) Ls (st) h' Q) : Ev G m d ac az pc Ls (v3 :: v2 :: v1 :: st) h Q :=
  E_callS (As := [v1, v2, v3]) (rest := st) hd hw hd2 (Nat.zero_le _) (Nat.zero_le _) rfl rfl hrest hM (fun r h' hq => by
    obtain ⟨rfl, hp⟩ := hq
    exact kk h' hp)
theorem E_S3q {idx d2 : Nat} {m2 : iM} {v1 v2 v3 : iV} {P : Option Nat → iH → Prop} (hd : decode m.2.1 pc = .ok (.invokestatic idx, 3)) (hw : CSk m.1.cls idx m2 3)  (hd2 : d2 + 1 ≤ d) (hrest : (st.map ct).sum ≤ 8) (hM : MQ_ G m2 d2 [v1, v2, v3] h P) (kk : ∀ (x : Option Nat) (h' : iH), P x h' → Ev G m d ac az (pc + 3) Ls (vQ x :: st) h' Q) : Ev G m d ac az pc Ls (v3 :: v2 :: v1 :: st) h Q :=
  E_callS (As := [v1, v2, v3]) (rest := st) hd hw hd2 (Nat.zero_le _) (Nat.zero_le _) rfl rfl hrest hM (fun r h' hq => by
    obtain ⟨x, rfl, hp⟩ := hq
    exact kk x h' hp)
theorem E_S4i {idx d2 : Nat} {m2 : iM} {v1 v2 v3 v4 : iV} {P : Int32 → iH → Prop} (hd : decode m.2.1 pc = .ok (.invokestatic idx, 3)) (hw : CSk m.1.cls idx m2 4)  (hd2 : d2 + 1 ≤ d) (hrest : (st.map ct).sum ≤ 8) (hM : MI G m2 d2 [v1, v2, v3, v4] h P) (kk : ∀ (x : Int32) (h' : iH), P x h' → Ev G m d ac az (pc + 3) Ls (vI x :: st) h' Q) : Ev G m d ac az pc Ls (v4 :: v3 :: v2 :: v1 :: st) h Q :=
  E_callS (As := [v1, v2, v3, v4]) (rest := st) hd hw hd2 (Nat.zero_le _) (Nat.zero_le _) rfl rfl hrest hM (fun r h' hq => by
    obtain ⟨x, rfl, hp⟩ := hq
    exact kk x h' hp)
theorem E_S4v {idx d2 : Nat} {m2 : iM} {v1 v2 v3 v4 : iV} {P : iH → Prop} (hd : decode m.2.1 pc = .ok (.invokestatic idx, 3)) (hw : CSk m.1.cls idx m2 4)  (hd2 : d2 + 1 ≤ d) (hrest : (st.map ct).sum ≤ 8) (hM : MV G m2 d2 [v1, v2, v3, v4] h P) (kk : ∀ (h' : iH), P h' → Ev G m d ac az (pc + 3) Ls (st) h' Q) : Ev G m d ac az pc Ls (v4 :: v3 :: v2 :: v1 :: st) h Q :=
  E_callS (As := [v1, v2, v3, v4]) (rest := st) hd hw hd2 (Nat.zero_le _) (Nat.zero_le _) rfl rfl hrest hM (fun r h' hq => by
    obtain ⟨rfl, hp⟩ := hq
    exact kk h' hp)
theorem E_S4q {idx d2 : Nat} {m2 : iM} {v1 v2 v3 v4 : iV} {P : Option Nat → iH → Prop} (hd : decode m.2.1 pc = .ok (.invokestatic idx, 3)) (hw : CSk m.1.cls idx m2 4)  (hd2 : d2 + 1 ≤ d) (hrest : (st.map ct).sum ≤ 8) (hM : MQ_ G m2 d2 [v1, v2, v3, v4] h P) (kk : ∀ (x : Option Nat) (h' : iH), P x h' → Ev G m d ac az (pc + 3) Ls (vQ x :: st) h' Q) : Ev G m d ac az pc Ls (v4 :: v3 :: v2 :: v1 :: st) h Q :=
  E_callS (As := [v1, v2, v3, v4]) (rest := st) hd hw hd2 (Nat.zero_le _) (Nat.zero_le _) rfl rfl hrest hM (fun r h' hq => by
    obtain ⟨x, rfl, hp⟩ := hq
    exact kk x h' hp)
end EC

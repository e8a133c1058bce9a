/-! THE CLAIM OUT OF ONE WALK OF THE LAW'S BODY. Your part is whole_start (and what it stands on); all else here is the same for every law, but numbers. -/
def R_law : String := "PagedKernelLaw"
def lw_P (b : Addr) (xs : List Int32) (args : Array Value) (s : State) : Prop := args = #[.ref b] ∧ s.IntsAt b xs ∧ xs.length ≤ 1538 ∧ (Jvm.Cond.and given_1 narrow_1).before args s = true
def lw_Q (_ : Array Value) (s : State) (o : Outcome) (t : State) : Prop := o = .returned (some (.int 1)) ∧ Framed s o t [] 600000 7302250
def lw_Z (below : List Frame) (a : Array Value) (s : State) : State → Prop := fun t => ∃ o, t.status = .running ∧ Ended t below o ∧ lw_Q a s o t
/-- the law's own end, with 1 on the stack, nothing written that was there before, its room as the claim has it -/
theorem lw_ret {p : Program} {l : Launch} {e : Env} {s : State} {m : MethodId} {below : List Frame} {meth : Method} {c : Code} {b : Nat} (hx : p.tables.exec = Jvm.exec) (hb : c.code = code) (hr : meth.sig.returnType = ret) (hlocks : meth.locks = false) {pc : Nat} {H : Heap} {ls : Array Slot} (hdg : decode code pc = .ok (.ireturn, 1)) : W p l e room_1 s m #[Value.ref b] below meth c H [] 600000 7302250 (lw_Z below #[Value.ref b] s) (F0 m pc ls [.int 1]) := by
  intro T hT X
  obtain ⟨fs, hret, hrun, hended, hW, hframe⟩ := X.leave (v := some (.int 1)) (hlocks := hlocks) (fun h => by rw [hr] at h; cases h)
  have hmeth' : T.vm.method? m = some meth := X.method'
  refine ⟨T.setFrames fs, ?_, .returned (some (.int 1)), hrun, hended, rfl, ⟨_, rfl⟩, hW, hframe⟩
  jvm_step X.here [X.here.top, hx, hb, hdg, hmeth', hr, ret, narrow_b1]
  (try refine ⟨rfl, ?_⟩); (try refine ⟨rfl, ?_⟩)
  first | (intro acts; rw [hret _ acts rfl rfl rfl]) | rw [hret _ _ rfl rfl rfl]
  exact Steps.refl _
/-- what holds at the law's entry: the machine, the code, the tables' words (any of lw_tbl by 'hts w (by decide +kernel)'), the script of L ints xs at the cell b, what the Statement gives of the start (any of its parts by flat_of_before) -/
def lw_At (p : Program) (s : State) (m : MethodId) (meth : Method) (c : Code) (b L : Nat) (xs : Nat → Int32) : Prop :=
  p.tables.exec = Jvm.exec ∧ c.code = code ∧ meth.sig.returnType = ret ∧ c.maxLocals = 4 ∧ s.vm.findClass R_law = some m.cls ∧ (∀ w ∈ lw_tbl, w.before #[Value.ref b] s = true) ∧ va_X b L xs s s.heap ∧ b < s.heap.size ∧ meth.locks = false ∧ (Jvm.Cond.and given_1 narrow_1).before #[Value.ref b] s = true
theorem kn_of {s : State} {args : Array Value} {own : String} {idx ci N : Nat} (hg : ∀ w ∈ gw, w.before args s = true) (hw : NWk own idx ci N) : ∃ (cC : ClassId) (iS : Nat → Nat), ∀ q : vw_C, cls[ci]? = some q → u_Kn s q.1 q.2.1 q.2.2 cC iS := by
  obtain ⟨q, hq, hN, _, hi, _⟩ := hw
  obtain ⟨cC, iS, h⟩ := u_known (C := q.1) (T := q.2.1) (N := q.2.2) (n := N) hg (cls_in ci q hq) (hg _ hi)
  refine ⟨cC, iS, fun q' hq' => ?_⟩
  have e : q = q' := Option.some.inj (hq.symm.trans hq')
  subst e
  exact h
theorem ar_of {s : State} {args : Array Value} {ty : FieldType} (hty : refKind ty = false) (h : (Cond.arrayClass ty).before args s = true) : ∃ cA : ClassId, ArrOfT s cA ty ∧ va_RA s cA ty := by
  obtain ⟨cA, kA, comp, hf, hk, hkind⟩ := Cond.arrayClass_spec h
  refine ⟨cA, fun n z => ⟨fun k h => (by cases h), kA, hk, comp, hkind⟩, ?_⟩
  cases ty with
  | object C => cases hty
  | array C => cases hty
  | _ => exact hf
theorem ao_of {s : State} {args : Array Value} {R : String} (h : (Cond.arrayOver (.object R)).before args s = true) : ∃ cA : ClassId, ArrOfT s cA (.object R) ∧ va_RA s cA (.object R) := by
  obtain ⟨comp, cA, kA, h1, h2, h3, h4, h5⟩ := Cond.arrayOver_spec h
  exact ⟨cA, fun n z => ⟨fun k h => (by cases h), kA, h3, comp, h4⟩, kA, comp, h3, h4, h1, h5⟩
set_option maxHeartbeats 4000000 in
set_option maxRecDepth 100000 in
theorem whole_start {p : Program} {e : Env} {s : State} {m : MethodId} {below : List Frame} {meth : Method} {c : Code} (l : Launch) {b L : Nat} {xs : Nat → Int32} (hL : L ≤ 1538) (C0 : lw_At p s m meth c b L xs) : W p l e room_1 s m #[Value.ref b] below meth c s.heap [] 0 0 (lw_Z below #[Value.ref b] s) (entryFrame m ([Value.ref b] : List Value).toArray 4) := by
  obtain ⟨hx, hb, hr, hml, hown, hts, hX, hbl, hlocks, hgv⟩ := id C0
  have hg : ∀ w ∈ gw, w.before #[Value.ref b] s = true := fun w hw => hts w (List.mem_filter.mp hw).1
  obtain ⟨c0, i0, k0⟩ := kn_of hg n_LAW_7
  obtain ⟨c1, i1, k1⟩ := kn_of hg n_K_7
  obtain ⟨c2, i2, k2⟩ := kn_of hg n_K_26
  obtain ⟨c3, i3, k3⟩ := kn_of hg n_K_33
  obtain ⟨c4, i4, k4⟩ := kn_of hg n_K_40
  obtain ⟨c5, i5, k5⟩ := kn_of hg n_LAW_18
  have wT : (Cond.arrayOver (.object R_Task)).before #[Value.ref b] s = true := hts _ (List.mem_of_getElem? (i := 113) (by decide +kernel))
  have wP : (Cond.arrayOver (.object R_Pipe)).before #[Value.ref b] s = true := hts _ (List.mem_of_getElem? (i := 156) (by decide +kernel))
  have w39 : (Cond.methodLinkNest "PagedKernel" 39 yN_P "PagedKernel").before #[Value.ref b] s = true := hts _ (List.mem_of_getElem? (i := 158) (by decide +kernel))
  have w42 : (Cond.methodLinkNest "PagedKernel" 42 yN_R "PagedKernel").before #[Value.ref b] s = true := hts _ (List.mem_of_getElem? (i := 175) (by decide +kernel))
  obtain ⟨a0, r0⟩ := ar_of (ty := .int) rfl (hg _ a_int)
  obtain ⟨a1, r1⟩ := ar_of (ty := .boolean) rfl (hg _ a_boolean)
  obtain ⟨a2, r2⟩ := ao_of wT
  obtain ⟨a3, r3⟩ := ao_of wP
  obtain ⟨G, eG⟩ : ∃ G : iG, G = ((fun k => match k with | 0 => c0 | 1 => c1 | 2 => c2 | 3 => c3 | 4 => c4 | _ => c5, fun k => match k with | 0 => i0 | 1 => i1 | 2 => i2 | 3 => i3 | 4 => i4 | _ => i5), (fun k => match k with | 0 => a0 | 1 => a1 | 2 => a2 | _ => a3), s.heap.size, b, L, xs) := ⟨_, rfl⟩
  have gB : G.2.2.1 = s.heap.size := by rw [eG]
  have gb : G.2.2.2.1 = b := by rw [eG]
  have gL : G.2.2.2.2.1 = L := by rw [eG]
  have gx : G.2.2.2.2.2 = xs := by rw [eG]
  have hK : KK G s := by
    refine ⟨⟨fun k q hq => ?_, fun k q hq => ?_⟩, va_AO.of wT, va_AO.of wP, va_Nw.of rfl w39, va_Nw.of rfl w42⟩
    · rw [eG]
      match k, hq with
      | 0, hq => exact k0 q hq
      | 1, hq => exact k1 q hq
      | 2, hq => exact k2 q hq
      | 3, hq => exact k3 q hq
      | 4, hq => exact k4 q hq
      | 5, hq => exact k5 q hq
      | k + 6, hq => cases hq
    · rw [eG] at hq
      match k, hq with
      | 0, hq =>
        have e := Option.some.inj hq
        subst e
        exact r0
      | 1, hq =>
        have e := Option.some.inj hq
        subst e
        exact r1
      | 2, hq =>
        have e := Option.some.inj hq
        subst e
        exact r2
      | 3, hq =>
        have e := Option.some.inj hq
        subst e
        exact r3
      | k + 4, hq => cases hq
  have hXs : Xs G s s.heap := by
    refine ⟨?_, by rw [gb, gB]; exact hbl⟩
    rw [gb, gL, gx]
    exact hX
  have hct : ∀ v ∈ ([vS] : List iV), ct v = 1 := by simp [ct]
  have eA : ([vS] : List iV).map (tv G) = [Value.ref b] := by
    show [Value.ref G.2.2.2.1] = _
    rw [gb]
  rw [← eA]
  have hl := lv_entry (([vS] : List iV).map (tv G)) (n := 4) (by rw [lg_len G [vS] hct]; decide)
  rw [lg_entry_eq]
  generalize (lg_sl (([vS] : List iV).map (tv G)) ++ List.replicate (4 - (lg_sl (([vS] : List iV).map (tv G))).length) Slot.unset).toArray = ls at hl ⊢
  have hl2 : lh G ls 4 [some vS, none, none, none] := by
    refine ⟨⟨hl.1, hl.2.1, fun q hq => hl.2.2 q (lv_args_of G [vS] 0 3 hct q hq)⟩, fun v hv => ?_⟩
    have : v ∈ ([vS] : List iV) := by simpa using hv
    exact hct v this
  have hW0 : Wd G ([], fun _ _ => 0, fun _ _ => none) s.heap := by
    intro k q hq
    simp [wh] at hq
  have hE := ev_LAW_law (G := G) (nm := meth.name) (h := ([], fun _ _ => 0, fun _ _ => none)) (Q := fun r _ => r = some (vI 1)) (by rw [gL]; omega) rfl (fun _ => rfl)
  refine hE p l e room_1 s m _ below meth c s.heap [] 0 0 _ ls ⟨hx, hb, hml, hown, ?_, hK, hXs, by rw [gB]; exact Nat.le_refl _, Nat.le_of_ble_eq_true rfl, Nat.le_of_ble_eq_true rfl, rfl⟩ hW0 (by rw [gB]; rfl) va_S.rf hl2 (Nat.le_of_ble_eq_true rfl) (Nat.le_of_ble_eq_true rfl) ?_
  · rw [eA]
    exact hg
  · intro H' locs' slots' r h' pc' ls' hq hW' hn hS' hs hRt
    have hq : r = some (vI 1) := hq
    subst hq
    have hd : decode code pc' = .ok (.ireturn, 1) := by
      rcases hRt with ⟨x, ex, hd, _⟩ | ⟨q, ex, _⟩ | ⟨ex, _⟩
      · exact hd
      · cases ex
      · cases ex
    rw [eA]
    refine va_forget (fun q hq => by rw [← gB]; exact hS'.2.2 q hq) ?_
    refine W.widen (k := 600000) (n := 7302250) (Nat.le_of_ble_eq_true rfl) (by omega) ?_
    exact lw_ret hx hb hr hlocks hd
-- ===== YOUR PART ENDS =====
set_option maxHeartbeats 4000000 in
theorem lw_walk (l : Launch) (b : Addr) (xs : List Int32) : MetFree l x (headSpec (Jvm.Cond.code x code maxLocals ret :: tables_1) room_1) (lw_P b xs) (fun _ _ _ _ _ => True) lw_Q := by
  refine MetFree.of_bodyS (code := code) (maxLocals := maxLocals) (ret := ret) (by decide) ?_ ?_
  · intro args s m h hn
    obtain ⟨meth, c, h1, h2, h3, h4, h5, h6, -, -⟩ := Cond.code_spec hn (atoms_spec (ws := Jvm.Cond.code x code maxLocals ret :: tables_1) h _ List.mem_cons_self)
    exact ⟨meth, c, h1, h2, h3, h4, h5, h6⟩
  · intro p e s m args below meth c s₁ B hml0 hP _
    obtain ⟨rfl, hx, hbd, hgv⟩ := hP
    obtain ⟨scr, harrAt, hlist, hof, hsmall⟩ := hx
    obtain ⟨hcb, hkn, -, -⟩ := State.arrayAt?_spec harrAt
    have hown : s.vm.findClass R_law = some m.cls := findClass_of_methodNamed B.named
    have hts0 : ∀ c ∈ (Jvm.Cond.code x code maxLocals ret :: tables_1), c.before #[Value.ref b] s = true := atoms_spec (ws := Jvm.Cond.code x code maxLocals ret :: tables_1) B.pre
    have hts : ∀ w ∈ lw_tbl, w.before #[Value.ref b] s = true := k2_hts_sels lw_privs (fun w hw => hts0 w (List.mem_cons_of_mem _ hw)) lw_privs_ok
    have hml : c.maxLocals = 4 := B.maxLocals_eq (hts0 _ List.mem_cons_self)
    have X₀ : Stand p l e room_1 s m #[Value.ref b] below meth c s₁ [] 0 0 := Stand.of_body B
    have hh0 : s₁.heap = s.heap := by rw [B.state]; rfl
    have hsz : scr.slots.size = xs.length := by rw [← Array.length_toList, hlist, List.length_map]
    have hval : ∀ j : Nat, j < xs.length → scr.slots[j]? = some (.int (xs.getD j 0)) := fun j hj => by
      rw [← Array.getElem?_toList, hlist]
      simp [hj]
    have hbl : b < s.heap.size := (Array.getElem?_eq_some_iff.mp hcb).1
    have hX : va_X b xs.length (fun j => xs.getD j 0) s s.heap := ⟨scr, hcb, hof, hkn, hsz, hval⟩
    have K : W p l e room_1 s m #[Value.ref b] below meth c s₁.heap [] 0 0 (lw_Z below #[Value.ref b] s) (entryFrame m ([Value.ref b] : List Value).toArray 4) := by
      rw [hh0]
      exact whole_start l hbd ⟨B.exec, B.bytes, B.returns, hml, hown, hts, hX, hbl, B.notSynchronized, hgv⟩
    obtain ⟨t, a1, o, b1, b2, b3⟩ := K s₁ rfl X₀
    exact ⟨t, o, a1, b1, b2, b3⟩
theorem lw_pre_spec {args : Array Value} {s : State} (h : (Jvm.Cond.and given_1 narrow_1).before args s = true) (hr : rest_1_c.before args s = true) : ∃ (b : Addr) (xs : List Int32), lw_P b xs args s := by
  have hs := flat_of_before _ h
  have hq := flat_of_before _ hr
  have hc : (Cond.count 1).before args s = true := hs _ (by decide +kernel)
  have harr : (Cond.arrayOf (.arg 0) .int).before args s = true := hs _ (by decide +kernel)
  have hle : (Cond.le (.length (.arg 0)) (.int 1538)).before args s = true := hs _ (by decide +kernel)
  have hlen : (Cond.isInt (.length (.arg 0))).before args s = true := hq _ (by decide +kernel)
  have hall : (Cond.all (.arg 0) (.isInt (.elem (.arg 0) (.index 0)))).before args s = true := hq _ (by decide +kernel)
  obtain ⟨b, xs, hb, hx⟩ := State.ints_of_pre rfl harr hlen hall
  have hsm : xs.length < 2 ^ 31 := hx.choose_spec.2.2.2
  have hev : (Term.length (.arg 0)).eval args s none [] s = some (.int xs.length.toInt32) := hx.length_eval hb
  have hv := Cond.le_ints hev (show (Term.int 1538).eval args s none [] s = some (.int 1538) from rfl)
  have hd : xs.length.toInt32 ≤ 1538 := by
    simpa [Cond.before, Cond.holds, hv] using hle
  have hN : xs.length ≤ 1538 := (Int32.ofNat_le_ofNat hsm (by decide)).mp (show Int32.ofNat xs.length ≤ Int32.ofNat 1538 from hd)
  exact ⟨b, xs, Cond.one_arg hc (show args[0]? = some (.ref b) from hb), hx, hN, h⟩
theorem lw_comes (l : Launch) : Comes l x (Jvm.Cond.code x code maxLocals ret :: tables_1) room_1 (fun tb e args s => Calls_1 tb e args s ∧ rest_1 tb e args s ∧ Pre_1 tb e args s)
    (fun _ _ args s o t => lw_Q args s o t) := by
  intro p e ha hc hk s m args below hf hfit hheap happ hpre
  obtain ⟨b, xs, hP⟩ := lw_pre_spec hpre.2.2 hpre.2.1
  obtain ⟨k, o, h1, h2, h3, hQ⟩ := lw_walk l b xs p e ha hc hk s m args below hf ((Spec.applies_iff_loose hf).mp happ).1 hP trivial
  exact ⟨k, o, h1, h2, h3, hQ⟩
theorem lw_frame {s t : State} {o : Outcome} {args : Array Value} (h : Framed s o t [] 600000 7302250) :
    Framed s o t (fieldLocs frame_1_writes args s ++ arrayLocs frame_1_arrays args s ++ staticLocs frame_1_statics s) 600000 7302250 := h
theorem lw_limb (L : Cond) (hL : ∀ (args : Array Value) (s t : State), L.after args s (.returned (some (.int 1))) t = true) :
    ArmFor flags0 classFile x code maxLocals ret World_1 tables_1 room_1 Calls_1 rest_1 Pre_1
      (fun tb e a s o t => postC L tb e a s o t ∧ Framed s o t (fieldLocs frame_1_writes a s ++ arrayLocs frame_1_arrays a s ++ staticLocs frame_1_statics s) 600000 7302250) := by
  intro l _ _ _ p e ha hc hk s m args below hf hfit hheap happ hpre
  obtain ⟨k, o, h1, h2, h3, rfl, hF⟩ := lw_comes l p e ha hc hk s m args below hf hfit hheap happ hpre
  exact ⟨k, _, h1, h2, h3, hL args s _, lw_frame hF⟩
theorem i_vc : Claimed_1_1 ∧ Claimed_1_2 := ⟨lw_limb limb_1_1 (fun args s t => by simp [limb_1_1, Cond.after, Cond.holds, Cond.value]), lw_limb limb_1_2 (fun args s t => Cond.after_iff.mpr (by
  first | (rw [show limb_1_2 = Cond.eq .result (.int 1) from rfl, Cond.eq_ints (x := 1) (y := 1) rfl rfl]; simp; done) | (simp [limb_1_2, Cond.value, Term.eval]; done)))⟩

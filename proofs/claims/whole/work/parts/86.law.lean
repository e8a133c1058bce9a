/-! ===== the new pair, and the law ===== -/
theorem JI_new {F q : Nat} (hF : F ≤ 40) (hq1 : 1 ≤ q) (hq9 : q ≤ 9) : JI F (Cz F q) (Me F q 54) := by
  have c0 : ∀ j, j ≠ 4 → Cz F q 0 j = 0 := fun j h => by
    rw [Cz, up2_col _ _ _ h]
    exact Cb_0 F j (by decide) (by decide) (by decide)
  have m0 : ∀ a j, a ≠ 0 → a ≠ 11 → Me F q 54 a j = 0 := fun a j h0 h11 => by
    unfold Me
    rw [if_neg (fun c => h11 c.1), up2_row _ _ _ h0, up2_row _ _ _ h0]
    rfl
  have m00 : Me F q 54 0 0 = nI F := by
    unfold Me
    rw [if_neg (by decide), up2_col _ _ _ (by decide), up2_at]
  have m01 : Me F q 54 0 1 = nI q := by
    unfold Me
    rw [if_neg (by decide), up2_at]
  have m0j : ∀ j, j ≠ 0 → j ≠ 1 → Me F q 54 0 j = 0 := fun j h0 h1 => by
    unfold Me
    rw [if_neg (fun c => absurd c.1 (by decide)), up2_col _ _ _ h1, up2_col _ _ _ h0]
    rfl
  have m11 : ∀ j, j < 54 → Me F q 54 11 j = -1 := fun j h => if_pos ⟨rfl, h⟩
  have c22 : ∀ j, j < 48 → Cz F q 22 j = -1 := fun j h => by
    rw [Cz, up2_row _ _ _ (by decide)]
    exact (if_neg (fun c => absurd c.1 (by decide))).trans ((if_neg (fun c => absurd c.1 (by decide))).trans (if_pos ⟨rfl, h⟩))
  have c10 : ∀ i, i < 8 → Cz F q 10 i = nI (i + 1) := fun i h => by
    rw [Cz, up2_row _ _ _ (by decide)]
    exact (if_neg (fun c => absurd c.1 (by decide))).trans (if_pos ⟨rfl, h⟩)
  have cz : ∀ c j, c ≠ 0 ∧ c ≠ 1 ∧ c ≠ 10 ∧ c ≠ 22 → Cz F q c j = 0 := fun c j h => Cz_0 F q j h.1 h.2.1 h.2.2.1 h.2.2.2
  have nf : nfr (Me F q 54) F = F := by
    have : ∀ n, nfr (Me F q 54) n = n := fun n => by
      induction n with
      | zero => rfl
      | succ n ih => rw [nfr, ih, if_pos (m0 2 n (by decide) (by decide))]
    exact this F
  have c12 : Cz F q 1 2 = nI F := by
    rw [Cz, up2_row _ _ _ (by decide)]
    exact if_pos ⟨rfl, rfl⟩
  have nh : ∀ e, 1 ≤ e → e ≤ 8 → ¬ hel (Me F q 54) (nI e) = true := fun e h1 h2 w => by
    obtain ⟨j, hj, w⟩ := List.any_eq_true.mp w
    have w : Me F q 54 11 (6 + j) = nI e := eq_of_beq w
    have hj := List.mem_range.mp hj
    rw [m11 _ (by omega)] at w
    rcases (by omega : e = 1 ∨ e = 2 ∨ e = 3 ∨ e = 4 ∨ e = 5 ∨ e = 6 ∨ e = 7 ∨ e = 8) with rfl | rfl | rfl | rfl | rfl | rfl | rfl | rfl <;> exact absurd w (by decide)
  refine ⟨0, 0, 0, 0, ⟨⟨hF, ?_⟩, ?_, ?_, ?_, ?_⟩, Or.inl ⟨rfl, rfl⟩, Or.inl (m0j 6 (by decide) (by decide)), fun _ => ?_⟩
  · refine ⟨m00, ⟨q, hq1, hq9, up2_at _ _ _ _, m01⟩, ⟨0, by decide, c0 7 (by decide), m0j 4 (by decide) (by decide)⟩, fun j _ => ?_, ⟨0, by decide, c0 8 (by decide), m0j 22 (by decide) (by decide)⟩, fun j _ => ?_, ?_, ?_, c0 10 (by decide), c0 11 (by decide), m0j 17 (by decide) (by decide), m0j 18 (by decide) (by decide)⟩
    · rw [cz 48 j (by decide), m0 3 j (by decide) (by decide)]
    · rw [cz 49 j (by decide), m0 15 j (by decide) (by decide)]
    · rw [c0 9 (by decide), m0j 6 (by decide) (by decide)]
    · rw [c0 12 (by decide), m0j 19 (by decide) (by decide)]
  · refine ⟨by rw [c12, nf], fun f _ => ?_, fun x _ => ?_, fun i _ => ⟨0, by decide, cz 14 i (by decide), m0 8 (i + 1) (by decide) (by decide), fun k hk => absurd hk (by omega)⟩, fun i _ k k' hk hk' => ?_, fun f _ => Or.inl (m0 2 f (by decide) (by decide))⟩
    · rw [cz 3 f (by decide), m0 2 f (by decide) (by decide)]
    · rw [cz 2 x (by decide), m0 1 x (by decide) (by decide)]
    · rw [m0 8 (i + 1) (by decide) (by decide)] at hk'
      exact absurd hk' (by rw [show nv 0 = 0 from rfl]; omega)
  · intro i hi
    have e4 : Me F q 54 4 (i + 1) = 0 := m0 4 (i + 1) (by decide) (by decide)
    refine ⟨c10 i hi, by rw [cz 15 i (by decide), e4], ⟨0, by decide, e4⟩, fun w => absurd e4 w, fun w => absurd (e4.symm.trans w) (by decide), cz 20 _ (by decide), m0 9 _ (by decide) (by decide), fun d hd => ⟨?_, ?_⟩, fun _ => ⟨m0 8 _ (by decide) (by decide), fun d hd => m11 _ (by omega)⟩, SL_no (Or.inl e4)⟩
    · rw [c22 _ (by omega), m11 _ (by omega)]
    · rw [m11 _ (by omega)]
      exact Or.inl rfl
  · intro k hk
    exact ⟨0, 0, by decide, by decide, cz 25 k (by decide), cz 26 k (by decide), fun w => absurd w (fun w => w.elim (nh _ (by omega) (by omega)) (nh _ (by omega) (by omega))), fun _ => m0 14 k (by decide) (by decide)⟩
  · exact ⟨[], by decide, cz 46 1 (by decide), m0j 15 (by decide) (by decide), rfl, rfl, List.nodup_nil, fun x hx => absurd hx List.not_mem_nil⟩
  · exact ⟨fun i _ => m0 4 _ (by decide) (by decide), nf, cz 46 1 (by decide), cz 16 0 (by decide), cz 17 0 (by decide), fun k _ => cz 20 k (by decide), m0 7 1 (by decide) (by decide), m0 6 1 (by decide) (by decide), fun k _ => m0 9 _ (by decide) (by decide)⟩
theorem law_lt {L i : Nat} (hL : L < 2 ^ 31) (hi : i < 2 ^ 31) : nI L - 3 < nI i ↔ L < i + 3 := by
  rcases Nat.lt_or_ge L 3 with h | h
  · refine ⟨fun _ => by omega, fun _ => ?_⟩
    have h0 : (0 : Int32) ≤ nI i := (nI_leI (a := 0) (by decide) hi).mpr (by omega)
    refine Int32.lt_of_lt_of_le ?_ h0
    rcases (by omega : L = 0 ∨ L = 1 ∨ L = 2) with rfl | rfl | rfl <;> decide
  · have e : nI L - 3 = nI (L - 3) := pk_sub (a := L) (b := 3) h
    rw [e, nI_ltI (by omega) hi]
    omega
/-- the law, under whatever name it is called -/
def mL (nm : String) : iM := (⟨m_LAW_law.1.cls, nm, m_LAW_law.1.desc⟩, m_LAW_law.2)
theorem sw_LAW_law {G : iG} {nm : String} {F i az : Nat} {C M : Nat → Nat → Int32} {Q : Option iV → iH → Prop} {r : Int32} (hL : G.2.2.2.2.1 < 2 ^ 31) (hi : i + 3 ≤ G.2.2.2.2.1) (hJ : JI F C M) (K : ∀ C' M', JI F C' M' → Ev G (mL nm) 9 0 az 38 [some vS, some (vR 0), some (vR 50), some (vI (nI (i + 3)))] [] (HW F C' M') Q) : Ev G (mL nm) 9 0 az 52 [some vS, some (vR 0), some (vR 50), some (vI (nI i))] [vI r] (HW F C M) Q := by
  by_cases h0 : r = 0
  · subst h0
    obtain ⟨x, C', M', hJ', hk, hm⟩ := jt_load (G := G) hJ (G.2.2.2.2.2 (i + 1))
    refine E_tsIn (tgt := 140) (off := 88) d_LAW_law_52 (by decide) (by decide) (by decide) (by decide) ?_
    refine E_aload_n d_LAW_law_140 rfl rfl ?_
    refine E_aload_n d_LAW_law_141 rfl rfl ?_
    refine E_iload_n d_LAW_law_142 rfl ?_
    refine E_iconst (v := 1) d_LAW_law_143 (by decide) ?_
    refine E_iadd d_LAW_law_144 ?_
    refine E_tp (y := nI (i + 1)) (nI_add i 1) ?_
    refine E_sld (j := i + 1) d_LAW_law_145 rfl (by omega) (by omega) ?_
    refine E_V1i d_LAW_law_146 w_LAW_21 rfl (by decide) (Nat.le_of_ble_eq_true rfl) (hk) ?_
    rintro _ _ ⟨rfl, rfl⟩
    refine E_aload_n d_LAW_law_149 rfl rfl ?_
    refine E_aload_n d_LAW_law_150 rfl rfl ?_
    refine E_iload_n d_LAW_law_151 rfl ?_
    refine E_iconst (v := 1) d_LAW_law_152 (by decide) ?_
    refine E_iadd d_LAW_law_153 ?_
    refine E_tp (y := nI (i + 1)) (nI_add i 1) ?_
    refine E_sld (j := i + 1) d_LAW_law_154 rfl (by omega) (by omega) ?_
    refine E_V1i d_LAW_law_155 w_LAW_25 rfl (by decide) (Nat.le_of_ble_eq_true rfl) (hm) ?_
    rintro _ _ ⟨rfl, rfl⟩
    refine E_icmp_eq (tgt := 534) d_LAW_law_158 (by decide) (fun _ => ?_) (fun c => absurd rfl c)
    refine E_iinc (v := nI (i + 3)) d_LAW_law_534 rfl (nI_add i 3) (Nat.le_of_ble_eq_true rfl) ?_
    refine E_goto (tgt := 38) d_LAW_law_537 (by decide) ?_
    exact K C' M' hJ'
  by_cases h1 : r = 1
  · subst h1
    obtain ⟨x, C', M', hJ', hk, hm⟩ := jt_boot (G := G) hJ
    refine E_tsIn (tgt := 163) (off := 111) d_LAW_law_52 (by decide) (by decide) (by decide) (by decide) ?_
    refine E_aload_n d_LAW_law_163 rfl rfl ?_
    refine E_V0i d_LAW_law_164 w_LAW_26 rfl (by decide) (Nat.le_of_ble_eq_true rfl) (hk) ?_
    rintro _ _ ⟨rfl, rfl⟩
    refine E_aload_n d_LAW_law_167 rfl rfl ?_
    refine E_V0i d_LAW_law_168 w_LAW_30 rfl (by decide) (Nat.le_of_ble_eq_true rfl) (hm) ?_
    rintro _ _ ⟨rfl, rfl⟩
    refine E_icmp_eq (tgt := 534) d_LAW_law_171 (by decide) (fun _ => ?_) (fun c => absurd rfl c)
    refine E_iinc (v := nI (i + 3)) d_LAW_law_534 rfl (nI_add i 3) (Nat.le_of_ble_eq_true rfl) ?_
    refine E_goto (tgt := 38) d_LAW_law_537 (by decide) ?_
    exact K C' M' hJ'
  by_cases h2 : r = 2
  · subst h2
    obtain ⟨x, C', M', hJ', hk, hm⟩ := jt_step (G := G) hJ
    refine E_tsIn (tgt := 176) (off := 124) d_LAW_law_52 (by decide) (by decide) (by decide) (by decide) ?_
    refine E_aload_n d_LAW_law_176 rfl rfl ?_
    refine E_V0i d_LAW_law_177 w_LAW_31 rfl (by decide) (Nat.le_of_ble_eq_true rfl) (hk) ?_
    rintro _ _ ⟨rfl, rfl⟩
    refine E_aload_n d_LAW_law_180 rfl rfl ?_
    refine E_V0i d_LAW_law_181 w_LAW_34 rfl (by decide) (Nat.le_of_ble_eq_true rfl) (hm) ?_
    rintro _ _ ⟨rfl, rfl⟩
    refine E_icmp_eq (tgt := 534) d_LAW_law_184 (by decide) (fun _ => ?_) (fun c => absurd rfl c)
    refine E_iinc (v := nI (i + 3)) d_LAW_law_534 rfl (nI_add i 3) (Nat.le_of_ble_eq_true rfl) ?_
    refine E_goto (tgt := 38) d_LAW_law_537 (by decide) ?_
    exact K C' M' hJ'
  by_cases h3 : r = 3
  · subst h3
    obtain ⟨x, C', M', hJ', hk, hm⟩ := jt_run (G := G) hJ (G.2.2.2.2.2 (i + 1))
    refine E_tsIn (tgt := 189) (off := 137) d_LAW_law_52 (by decide) (by decide) (by decide) (by decide) ?_
    refine E_aload_n d_LAW_law_189 rfl rfl ?_
    refine E_aload_n d_LAW_law_190 rfl rfl ?_
    refine E_iload_n d_LAW_law_191 rfl ?_
    refine E_iconst (v := 1) d_LAW_law_192 (by decide) ?_
    refine E_iadd d_LAW_law_193 ?_
    refine E_tp (y := nI (i + 1)) (nI_add i 1) ?_
    refine E_sld (j := i + 1) d_LAW_law_194 rfl (by omega) (by omega) ?_
    refine E_V1i d_LAW_law_195 w_LAW_35 rfl (by decide) (Nat.le_of_ble_eq_true rfl) (hk) ?_
    rintro _ _ ⟨rfl, rfl⟩
    refine E_aload_n d_LAW_law_198 rfl rfl ?_
    refine E_aload_n d_LAW_law_199 rfl rfl ?_
    refine E_iload_n d_LAW_law_200 rfl ?_
    refine E_iconst (v := 1) d_LAW_law_201 (by decide) ?_
    refine E_iadd d_LAW_law_202 ?_
    refine E_tp (y := nI (i + 1)) (nI_add i 1) ?_
    refine E_sld (j := i + 1) d_LAW_law_203 rfl (by omega) (by omega) ?_
    refine E_V1i d_LAW_law_204 w_LAW_39 rfl (by decide) (Nat.le_of_ble_eq_true rfl) (hm) ?_
    rintro _ _ ⟨rfl, rfl⟩
    refine E_icmp_eq (tgt := 534) d_LAW_law_207 (by decide) (fun _ => ?_) (fun c => absurd rfl c)
    refine E_iinc (v := nI (i + 3)) d_LAW_law_534 rfl (nI_add i 3) (Nat.le_of_ble_eq_true rfl) ?_
    refine E_goto (tgt := 38) d_LAW_law_537 (by decide) ?_
    exact K C' M' hJ'
  by_cases h4 : r = 4
  · subst h4
    obtain ⟨x, C', M', hJ', hk, hm⟩ := jt_current (G := G) hJ
    refine E_tsIn (tgt := 212) (off := 160) d_LAW_law_52 (by decide) (by decide) (by decide) (by decide) ?_
    refine E_aload_n d_LAW_law_212 rfl rfl ?_
    refine E_V0i d_LAW_law_213 w_LAW_40 rfl (by decide) (Nat.le_of_ble_eq_true rfl) (hk) ?_
    rintro _ _ ⟨rfl, rfl⟩
    refine E_aload_n d_LAW_law_216 rfl rfl ?_
    refine E_V0i d_LAW_law_217 w_LAW_43 rfl (by decide) (Nat.le_of_ble_eq_true rfl) (hm) ?_
    rintro _ _ ⟨rfl, rfl⟩
    refine E_icmp_eq (tgt := 534) d_LAW_law_220 (by decide) (fun _ => ?_) (fun c => absurd rfl c)
    refine E_iinc (v := nI (i + 3)) d_LAW_law_534 rfl (nI_add i 3) (Nat.le_of_ble_eq_true rfl) ?_
    refine E_goto (tgt := 38) d_LAW_law_537 (by decide) ?_
    exact K C' M' hJ'
  by_cases h5 : r = 5
  · subst h5
    obtain ⟨x, C', M', hJ', hk, hm⟩ := jt_stateOf (G := G) hJ (G.2.2.2.2.2 (i + 1))
    refine E_tsIn (tgt := 225) (off := 173) d_LAW_law_52 (by decide) (by decide) (by decide) (by decide) ?_
    refine E_aload_n d_LAW_law_225 rfl rfl ?_
    refine E_aload_n d_LAW_law_226 rfl rfl ?_
    refine E_iload_n d_LAW_law_227 rfl ?_
    refine E_iconst (v := 1) d_LAW_law_228 (by decide) ?_
    refine E_iadd d_LAW_law_229 ?_
    refine E_tp (y := nI (i + 1)) (nI_add i 1) ?_
    refine E_sld (j := i + 1) d_LAW_law_230 rfl (by omega) (by omega) ?_
    refine E_V1i d_LAW_law_231 w_LAW_44 rfl (by decide) (Nat.le_of_ble_eq_true rfl) (hk) ?_
    rintro _ _ ⟨rfl, rfl⟩
    refine E_aload_n d_LAW_law_234 rfl rfl ?_
    refine E_aload_n d_LAW_law_235 rfl rfl ?_
    refine E_iload_n d_LAW_law_236 rfl ?_
    refine E_iconst (v := 1) d_LAW_law_237 (by decide) ?_
    refine E_iadd d_LAW_law_238 ?_
    refine E_tp (y := nI (i + 1)) (nI_add i 1) ?_
    refine E_sld (j := i + 1) d_LAW_law_239 rfl (by omega) (by omega) ?_
    refine E_V1i d_LAW_law_240 w_LAW_47 rfl (by decide) (Nat.le_of_ble_eq_true rfl) (hm) ?_
    rintro _ _ ⟨rfl, rfl⟩
    refine E_icmp_eq (tgt := 534) d_LAW_law_243 (by decide) (fun _ => ?_) (fun c => absurd rfl c)
    refine E_iinc (v := nI (i + 3)) d_LAW_law_534 rfl (nI_add i 3) (Nat.le_of_ble_eq_true rfl) ?_
    refine E_goto (tgt := 38) d_LAW_law_537 (by decide) ?_
    exact K C' M' hJ'
  by_cases h6 : r = 6
  · subst h6
    obtain ⟨x, C', M', hJ', hk, hm⟩ := jt_exitOf (G := G) hJ (G.2.2.2.2.2 (i + 1))
    refine E_tsIn (tgt := 248) (off := 196) d_LAW_law_52 (by decide) (by decide) (by decide) (by decide) ?_
    refine E_aload_n d_LAW_law_248 rfl rfl ?_
    refine E_aload_n d_LAW_law_249 rfl rfl ?_
    refine E_iload_n d_LAW_law_250 rfl ?_
    refine E_iconst (v := 1) d_LAW_law_251 (by decide) ?_
    refine E_iadd d_LAW_law_252 ?_
    refine E_tp (y := nI (i + 1)) (nI_add i 1) ?_
    refine E_sld (j := i + 1) d_LAW_law_253 rfl (by omega) (by omega) ?_
    refine E_V1i d_LAW_law_254 w_LAW_48 rfl (by decide) (Nat.le_of_ble_eq_true rfl) (hk) ?_
    rintro _ _ ⟨rfl, rfl⟩
    refine E_aload_n d_LAW_law_257 rfl rfl ?_
    refine E_aload_n d_LAW_law_258 rfl rfl ?_
    refine E_iload_n d_LAW_law_259 rfl ?_
    refine E_iconst (v := 1) d_LAW_law_260 (by decide) ?_
    refine E_iadd d_LAW_law_261 ?_
    refine E_tp (y := nI (i + 1)) (nI_add i 1) ?_
    refine E_sld (j := i + 1) d_LAW_law_262 rfl (by omega) (by omega) ?_
    refine E_V1i d_LAW_law_263 w_LAW_51 rfl (by decide) (Nat.le_of_ble_eq_true rfl) (hm) ?_
    rintro _ _ ⟨rfl, rfl⟩
    refine E_icmp_eq (tgt := 534) d_LAW_law_266 (by decide) (fun _ => ?_) (fun c => absurd rfl c)
    refine E_iinc (v := nI (i + 3)) d_LAW_law_534 rfl (nI_add i 3) (Nat.le_of_ble_eq_true rfl) ?_
    refine E_goto (tgt := 38) d_LAW_law_537 (by decide) ?_
    exact K C' M' hJ'
  by_cases h7 : r = 7
  · subst h7
    obtain ⟨x, C', M', hJ', hk, hm⟩ := jt_parentOf (G := G) hJ (G.2.2.2.2.2 (i + 1))
    refine E_tsIn (tgt := 271) (off := 219) d_LAW_law_52 (by decide) (by decide) (by decide) (by decide) ?_
    refine E_aload_n d_LAW_law_271 rfl rfl ?_
    refine E_aload_n d_LAW_law_272 rfl rfl ?_
    refine E_iload_n d_LAW_law_273 rfl ?_
    refine E_iconst (v := 1) d_LAW_law_274 (by decide) ?_
    refine E_iadd d_LAW_law_275 ?_
    refine E_tp (y := nI (i + 1)) (nI_add i 1) ?_
    refine E_sld (j := i + 1) d_LAW_law_276 rfl (by omega) (by omega) ?_
    refine E_V1i d_LAW_law_277 w_LAW_52 rfl (by decide) (Nat.le_of_ble_eq_true rfl) (hk) ?_
    rintro _ _ ⟨rfl, rfl⟩
    refine E_aload_n d_LAW_law_280 rfl rfl ?_
    refine E_aload_n d_LAW_law_281 rfl rfl ?_
    refine E_iload_n d_LAW_law_282 rfl ?_
    refine E_iconst (v := 1) d_LAW_law_283 (by decide) ?_
    refine E_iadd d_LAW_law_284 ?_
    refine E_tp (y := nI (i + 1)) (nI_add i 1) ?_
    refine E_sld (j := i + 1) d_LAW_law_285 rfl (by omega) (by omega) ?_
    refine E_V1i d_LAW_law_286 w_LAW_55 rfl (by decide) (Nat.le_of_ble_eq_true rfl) (hm) ?_
    rintro _ _ ⟨rfl, rfl⟩
    refine E_icmp_eq (tgt := 534) d_LAW_law_289 (by decide) (fun _ => ?_) (fun c => absurd rfl c)
    refine E_iinc (v := nI (i + 3)) d_LAW_law_534 rfl (nI_add i 3) (Nat.le_of_ble_eq_true rfl) ?_
    refine E_goto (tgt := 38) d_LAW_law_537 (by decide) ?_
    exact K C' M' hJ'
  by_cases h8 : r = 8
  · subst h8
    obtain ⟨x, C', M', hJ', hk, hm⟩ := jt_freeFrames (G := G) hJ
    refine E_tsIn (tgt := 294) (off := 242) d_LAW_law_52 (by decide) (by decide) (by decide) (by decide) ?_
    refine E_aload_n d_LAW_law_294 rfl rfl ?_
    refine E_V0i d_LAW_law_295 w_LAW_56 rfl (by decide) (Nat.le_of_ble_eq_true rfl) (hk) ?_
    rintro _ _ ⟨rfl, rfl⟩
    refine E_aload_n d_LAW_law_298 rfl rfl ?_
    refine E_V0i d_LAW_law_299 w_LAW_59 rfl (by decide) (Nat.le_of_ble_eq_true rfl) (hm) ?_
    rintro _ _ ⟨rfl, rfl⟩
    refine E_icmp_eq (tgt := 534) d_LAW_law_302 (by decide) (fun _ => ?_) (fun c => absurd rfl c)
    refine E_iinc (v := nI (i + 3)) d_LAW_law_534 rfl (nI_add i 3) (Nat.le_of_ble_eq_true rfl) ?_
    refine E_goto (tgt := 38) d_LAW_law_537 (by decide) ?_
    exact K C' M' hJ'
  by_cases h9 : r = 9
  · subst h9
    obtain ⟨x, C', M', hJ', hk, hm⟩ := jt_pages (G := G) hJ (G.2.2.2.2.2 (i + 1))
    refine E_tsIn (tgt := 307) (off := 255) d_LAW_law_52 (by decide) (by decide) (by decide) (by decide) ?_
    refine E_aload_n d_LAW_law_307 rfl rfl ?_
    refine E_aload_n d_LAW_law_308 rfl rfl ?_
    refine E_iload_n d_LAW_law_309 rfl ?_
    refine E_iconst (v := 1) d_LAW_law_310 (by decide) ?_
    refine E_iadd d_LAW_law_311 ?_
    refine E_tp (y := nI (i + 1)) (nI_add i 1) ?_
    refine E_sld (j := i + 1) d_LAW_law_312 rfl (by omega) (by omega) ?_
    refine E_V1i d_LAW_law_313 w_LAW_60 rfl (by decide) (Nat.le_of_ble_eq_true rfl) (hk) ?_
    rintro _ _ ⟨rfl, rfl⟩
    refine E_aload_n d_LAW_law_316 rfl rfl ?_
    refine E_aload_n d_LAW_law_317 rfl rfl ?_
    refine E_iload_n d_LAW_law_318 rfl ?_
    refine E_iconst (v := 1) d_LAW_law_319 (by decide) ?_
    refine E_iadd d_LAW_law_320 ?_
    refine E_tp (y := nI (i + 1)) (nI_add i 1) ?_
    refine E_sld (j := i + 1) d_LAW_law_321 rfl (by omega) (by omega) ?_
    refine E_V1i d_LAW_law_322 w_LAW_63 rfl (by decide) (Nat.le_of_ble_eq_true rfl) (hm) ?_
    rintro _ _ ⟨rfl, rfl⟩
    refine E_icmp_eq (tgt := 534) d_LAW_law_325 (by decide) (fun _ => ?_) (fun c => absurd rfl c)
    refine E_iinc (v := nI (i + 3)) d_LAW_law_534 rfl (nI_add i 3) (Nat.le_of_ble_eq_true rfl) ?_
    refine E_goto (tgt := 38) d_LAW_law_537 (by decide) ?_
    exact K C' M' hJ'
  by_cases h10 : r = 10
  · subst h10
    obtain ⟨x, C', M', hJ', hk, hm⟩ := jt_register (G := G) hJ (G.2.2.2.2.2 (i + 1)) (G.2.2.2.2.2 (i + 2))
    refine E_tsIn (tgt := 330) (off := 278) d_LAW_law_52 (by decide) (by decide) (by decide) (by decide) ?_
    refine E_aload_n d_LAW_law_330 rfl rfl ?_
    refine E_aload_n d_LAW_law_331 rfl rfl ?_
    refine E_iload_n d_LAW_law_332 rfl ?_
    refine E_iconst (v := 1) d_LAW_law_333 (by decide) ?_
    refine E_iadd d_LAW_law_334 ?_
    refine E_tp (y := nI (i + 1)) (nI_add i 1) ?_
    refine E_sld (j := i + 1) d_LAW_law_335 rfl (by omega) (by omega) ?_
    refine E_aload_n d_LAW_law_336 rfl rfl ?_
    refine E_iload_n d_LAW_law_337 rfl ?_
    refine E_iconst (v := 2) d_LAW_law_338 (by decide) ?_
    refine E_iadd d_LAW_law_339 ?_
    refine E_tp (y := nI (i + 2)) (nI_add i 2) ?_
    refine E_sld (j := i + 2) d_LAW_law_340 rfl (by omega) (by omega) ?_
    refine E_V2i d_LAW_law_341 w_LAW_64 rfl (by decide) (Nat.le_of_ble_eq_true rfl) (hk) ?_
    rintro _ _ ⟨rfl, rfl⟩
    refine E_aload_n d_LAW_law_344 rfl rfl ?_
    refine E_aload_n d_LAW_law_345 rfl rfl ?_
    refine E_iload_n d_LAW_law_346 rfl ?_
    refine E_iconst (v := 1) d_LAW_law_347 (by decide) ?_
    refine E_iadd d_LAW_law_348 ?_
    refine E_tp (y := nI (i + 1)) (nI_add i 1) ?_
    refine E_sld (j := i + 1) d_LAW_law_349 rfl (by omega) (by omega) ?_
    refine E_aload_n d_LAW_law_350 rfl rfl ?_
    refine E_iload_n d_LAW_law_351 rfl ?_
    refine E_iconst (v := 2) d_LAW_law_352 (by decide) ?_
    refine E_iadd d_LAW_law_353 ?_
    refine E_tp (y := nI (i + 2)) (nI_add i 2) ?_
    refine E_sld (j := i + 2) d_LAW_law_354 rfl (by omega) (by omega) ?_
    refine E_V2i d_LAW_law_355 w_LAW_68 rfl (by decide) (Nat.le_of_ble_eq_true rfl) (hm) ?_
    rintro _ _ ⟨rfl, rfl⟩
    refine E_icmp_eq (tgt := 534) d_LAW_law_358 (by decide) (fun _ => ?_) (fun c => absurd rfl c)
    refine E_iinc (v := nI (i + 3)) d_LAW_law_534 rfl (nI_add i 3) (Nat.le_of_ble_eq_true rfl) ?_
    refine E_goto (tgt := 38) d_LAW_law_537 (by decide) ?_
    exact K C' M' hJ'
  by_cases h11 : r = 11
  · subst h11
    obtain ⟨x, C', M', hJ', hk, hm⟩ := jt_pc (G := G) hJ (G.2.2.2.2.2 (i + 1))
    refine E_tsIn (tgt := 363) (off := 311) d_LAW_law_52 (by decide) (by decide) (by decide) (by decide) ?_
    refine E_aload_n d_LAW_law_363 rfl rfl ?_
    refine E_aload_n d_LAW_law_364 rfl rfl ?_
    refine E_iload_n d_LAW_law_365 rfl ?_
    refine E_iconst (v := 1) d_LAW_law_366 (by decide) ?_
    refine E_iadd d_LAW_law_367 ?_
    refine E_tp (y := nI (i + 1)) (nI_add i 1) ?_
    refine E_sld (j := i + 1) d_LAW_law_368 rfl (by omega) (by omega) ?_
    refine E_V1i d_LAW_law_369 w_LAW_69 rfl (by decide) (Nat.le_of_ble_eq_true rfl) (hk) ?_
    rintro _ _ ⟨rfl, rfl⟩
    refine E_aload_n d_LAW_law_372 rfl rfl ?_
    refine E_aload_n d_LAW_law_373 rfl rfl ?_
    refine E_iload_n d_LAW_law_374 rfl ?_
    refine E_iconst (v := 1) d_LAW_law_375 (by decide) ?_
    refine E_iadd d_LAW_law_376 ?_
    refine E_tp (y := nI (i + 1)) (nI_add i 1) ?_
    refine E_sld (j := i + 1) d_LAW_law_377 rfl (by omega) (by omega) ?_
    refine E_V1i d_LAW_law_378 w_LAW_72 rfl (by decide) (Nat.le_of_ble_eq_true rfl) (hm) ?_
    rintro _ _ ⟨rfl, rfl⟩
    refine E_icmp_eq (tgt := 534) d_LAW_law_381 (by decide) (fun _ => ?_) (fun c => absurd rfl c)
    refine E_iinc (v := nI (i + 3)) d_LAW_law_534 rfl (nI_add i 3) (Nat.le_of_ble_eq_true rfl) ?_
    refine E_goto (tgt := 38) d_LAW_law_537 (by decide) ?_
    exact K C' M' hJ'
  by_cases h12 : r = 12
  · subst h12
    obtain ⟨x, C', M', hJ', hk, hm⟩ := jt_word (G := G) hJ (G.2.2.2.2.2 (i + 1)) (G.2.2.2.2.2 (i + 2))
    refine E_tsIn (tgt := 386) (off := 334) d_LAW_law_52 (by decide) (by decide) (by decide) (by decide) ?_
    refine E_aload_n d_LAW_law_386 rfl rfl ?_
    refine E_aload_n d_LAW_law_387 rfl rfl ?_
    refine E_iload_n d_LAW_law_388 rfl ?_
    refine E_iconst (v := 1) d_LAW_law_389 (by decide) ?_
    refine E_iadd d_LAW_law_390 ?_
    refine E_tp (y := nI (i + 1)) (nI_add i 1) ?_
    refine E_sld (j := i + 1) d_LAW_law_391 rfl (by omega) (by omega) ?_
    refine E_aload_n d_LAW_law_392 rfl rfl ?_
    refine E_iload_n d_LAW_law_393 rfl ?_
    refine E_iconst (v := 2) d_LAW_law_394 (by decide) ?_
    refine E_iadd d_LAW_law_395 ?_
    refine E_tp (y := nI (i + 2)) (nI_add i 2) ?_
    refine E_sld (j := i + 2) d_LAW_law_396 rfl (by omega) (by omega) ?_
    refine E_V2i d_LAW_law_397 w_LAW_73 rfl (by decide) (Nat.le_of_ble_eq_true rfl) (hk) ?_
    rintro _ _ ⟨rfl, rfl⟩
    refine E_aload_n d_LAW_law_400 rfl rfl ?_
    refine E_aload_n d_LAW_law_401 rfl rfl ?_
    refine E_iload_n d_LAW_law_402 rfl ?_
    refine E_iconst (v := 1) d_LAW_law_403 (by decide) ?_
    refine E_iadd d_LAW_law_404 ?_
    refine E_tp (y := nI (i + 1)) (nI_add i 1) ?_
    refine E_sld (j := i + 1) d_LAW_law_405 rfl (by omega) (by omega) ?_
    refine E_aload_n d_LAW_law_406 rfl rfl ?_
    refine E_iload_n d_LAW_law_407 rfl ?_
    refine E_iconst (v := 2) d_LAW_law_408 (by decide) ?_
    refine E_iadd d_LAW_law_409 ?_
    refine E_tp (y := nI (i + 2)) (nI_add i 2) ?_
    refine E_sld (j := i + 2) d_LAW_law_410 rfl (by omega) (by omega) ?_
    refine E_V2i d_LAW_law_411 w_LAW_76 rfl (by decide) (Nat.le_of_ble_eq_true rfl) (hm) ?_
    rintro _ _ ⟨rfl, rfl⟩
    refine E_icmp_eq (tgt := 534) d_LAW_law_414 (by decide) (fun _ => ?_) (fun c => absurd rfl c)
    refine E_iinc (v := nI (i + 3)) d_LAW_law_534 rfl (nI_add i 3) (Nat.le_of_ble_eq_true rfl) ?_
    refine E_goto (tgt := 38) d_LAW_law_537 (by decide) ?_
    exact K C' M' hJ'
  by_cases h13 : r = 13
  · subst h13
    obtain ⟨x, C', M', hJ', hk, hm⟩ := jt_descriptor (G := G) hJ (G.2.2.2.2.2 (i + 1)) (G.2.2.2.2.2 (i + 2))
    refine E_tsIn (tgt := 419) (off := 367) d_LAW_law_52 (by decide) (by decide) (by decide) (by decide) ?_
    refine E_aload_n d_LAW_law_419 rfl rfl ?_
    refine E_aload_n d_LAW_law_420 rfl rfl ?_
    refine E_iload_n d_LAW_law_421 rfl ?_
    refine E_iconst (v := 1) d_LAW_law_422 (by decide) ?_
    refine E_iadd d_LAW_law_423 ?_
    refine E_tp (y := nI (i + 1)) (nI_add i 1) ?_
    refine E_sld (j := i + 1) d_LAW_law_424 rfl (by omega) (by omega) ?_
    refine E_aload_n d_LAW_law_425 rfl rfl ?_
    refine E_iload_n d_LAW_law_426 rfl ?_
    refine E_iconst (v := 2) d_LAW_law_427 (by decide) ?_
    refine E_iadd d_LAW_law_428 ?_
    refine E_tp (y := nI (i + 2)) (nI_add i 2) ?_
    refine E_sld (j := i + 2) d_LAW_law_429 rfl (by omega) (by omega) ?_
    refine E_V2i d_LAW_law_430 w_LAW_77 rfl (by decide) (Nat.le_of_ble_eq_true rfl) (hk) ?_
    rintro _ _ ⟨rfl, rfl⟩
    refine E_aload_n d_LAW_law_433 rfl rfl ?_
    refine E_aload_n d_LAW_law_434 rfl rfl ?_
    refine E_iload_n d_LAW_law_435 rfl ?_
    refine E_iconst (v := 1) d_LAW_law_436 (by decide) ?_
    refine E_iadd d_LAW_law_437 ?_
    refine E_tp (y := nI (i + 1)) (nI_add i 1) ?_
    refine E_sld (j := i + 1) d_LAW_law_438 rfl (by omega) (by omega) ?_
    refine E_aload_n d_LAW_law_439 rfl rfl ?_
    refine E_iload_n d_LAW_law_440 rfl ?_
    refine E_iconst (v := 2) d_LAW_law_441 (by decide) ?_
    refine E_iadd d_LAW_law_442 ?_
    refine E_tp (y := nI (i + 2)) (nI_add i 2) ?_
    refine E_sld (j := i + 2) d_LAW_law_443 rfl (by omega) (by omega) ?_
    refine E_V2i d_LAW_law_444 w_LAW_80 rfl (by decide) (Nat.le_of_ble_eq_true rfl) (hm) ?_
    rintro _ _ ⟨rfl, rfl⟩
    refine E_icmp_eq (tgt := 534) d_LAW_law_447 (by decide) (fun _ => ?_) (fun c => absurd rfl c)
    refine E_iinc (v := nI (i + 3)) d_LAW_law_534 rfl (nI_add i 3) (Nat.le_of_ble_eq_true rfl) ?_
    refine E_goto (tgt := 38) d_LAW_law_537 (by decide) ?_
    exact K C' M' hJ'
  by_cases h14 : r = 14
  · subst h14
    obtain ⟨x, C', M', hJ', hk, hm⟩ := jt_held (G := G) hJ (G.2.2.2.2.2 (i + 1))
    refine E_tsIn (tgt := 452) (off := 400) d_LAW_law_52 (by decide) (by decide) (by decide) (by decide) ?_
    refine E_aload_n d_LAW_law_452 rfl rfl ?_
    refine E_aload_n d_LAW_law_453 rfl rfl ?_
    refine E_iload_n d_LAW_law_454 rfl ?_
    refine E_iconst (v := 1) d_LAW_law_455 (by decide) ?_
    refine E_iadd d_LAW_law_456 ?_
    refine E_tp (y := nI (i + 1)) (nI_add i 1) ?_
    refine E_sld (j := i + 1) d_LAW_law_457 rfl (by omega) (by omega) ?_
    refine E_V1i d_LAW_law_458 w_LAW_81 rfl (by decide) (Nat.le_of_ble_eq_true rfl) (hk) ?_
    rintro _ _ ⟨rfl, rfl⟩
    refine E_aload_n d_LAW_law_461 rfl rfl ?_
    refine E_aload_n d_LAW_law_462 rfl rfl ?_
    refine E_iload_n d_LAW_law_463 rfl ?_
    refine E_iconst (v := 1) d_LAW_law_464 (by decide) ?_
    refine E_iadd d_LAW_law_465 ?_
    refine E_tp (y := nI (i + 1)) (nI_add i 1) ?_
    refine E_sld (j := i + 1) d_LAW_law_466 rfl (by omega) (by omega) ?_
    refine E_V1i d_LAW_law_467 w_LAW_84 rfl (by decide) (Nat.le_of_ble_eq_true rfl) (hm) ?_
    rintro _ _ ⟨rfl, rfl⟩
    refine E_icmp_eq (tgt := 534) d_LAW_law_470 (by decide) (fun _ => ?_) (fun c => absurd rfl c)
    refine E_iinc (v := nI (i + 3)) d_LAW_law_534 rfl (nI_add i 3) (Nat.le_of_ble_eq_true rfl) ?_
    refine E_goto (tgt := 38) d_LAW_law_537 (by decide) ?_
    exact K C' M' hJ'
  by_cases h15 : r = 15
  · subst h15
    obtain ⟨x, C', M', hJ', hk, hm⟩ := jt_consoleLength (G := G) hJ
    refine E_tsIn (tgt := 475) (off := 423) d_LAW_law_52 (by decide) (by decide) (by decide) (by decide) ?_
    refine E_aload_n d_LAW_law_475 rfl rfl ?_
    refine E_V0i d_LAW_law_476 w_LAW_85 rfl (by decide) (Nat.le_of_ble_eq_true rfl) (hk) ?_
    rintro _ _ ⟨rfl, rfl⟩
    refine E_aload_n d_LAW_law_479 rfl rfl ?_
    refine E_V0i d_LAW_law_480 w_LAW_88 rfl (by decide) (Nat.le_of_ble_eq_true rfl) (hm) ?_
    rintro _ _ ⟨rfl, rfl⟩
    refine E_icmp_eq (tgt := 534) d_LAW_law_483 (by decide) (fun _ => ?_) (fun c => absurd rfl c)
    refine E_iinc (v := nI (i + 3)) d_LAW_law_534 rfl (nI_add i 3) (Nat.le_of_ble_eq_true rfl) ?_
    refine E_goto (tgt := 38) d_LAW_law_537 (by decide) ?_
    exact K C' M' hJ'
  by_cases h16 : r = 16
  · subst h16
    obtain ⟨x, C', M', hJ', hk, hm⟩ := jt_console (G := G) hJ (G.2.2.2.2.2 (i + 1))
    refine E_tsIn (tgt := 488) (off := 436) d_LAW_law_52 (by decide) (by decide) (by decide) (by decide) ?_
    refine E_aload_n d_LAW_law_488 rfl rfl ?_
    refine E_aload_n d_LAW_law_489 rfl rfl ?_
    refine E_iload_n d_LAW_law_490 rfl ?_
    refine E_iconst (v := 1) d_LAW_law_491 (by decide) ?_
    refine E_iadd d_LAW_law_492 ?_
    refine E_tp (y := nI (i + 1)) (nI_add i 1) ?_
    refine E_sld (j := i + 1) d_LAW_law_493 rfl (by omega) (by omega) ?_
    refine E_V1i d_LAW_law_494 w_LAW_89 rfl (by decide) (Nat.le_of_ble_eq_true rfl) (hk) ?_
    rintro _ _ ⟨rfl, rfl⟩
    refine E_aload_n d_LAW_law_497 rfl rfl ?_
    refine E_aload_n d_LAW_law_498 rfl rfl ?_
    refine E_iload_n d_LAW_law_499 rfl ?_
    refine E_iconst (v := 1) d_LAW_law_500 (by decide) ?_
    refine E_iadd d_LAW_law_501 ?_
    refine E_tp (y := nI (i + 1)) (nI_add i 1) ?_
    refine E_sld (j := i + 1) d_LAW_law_502 rfl (by omega) (by omega) ?_
    refine E_V1i d_LAW_law_503 w_LAW_92 rfl (by decide) (Nat.le_of_ble_eq_true rfl) (hm) ?_
    rintro _ _ ⟨rfl, rfl⟩
    refine E_icmp_eq (tgt := 534) d_LAW_law_506 (by decide) (fun _ => ?_) (fun c => absurd rfl c)
    refine E_iinc (v := nI (i + 3)) d_LAW_law_534 rfl (nI_add i 3) (Nat.le_of_ble_eq_true rfl) ?_
    refine E_goto (tgt := 38) d_LAW_law_537 (by decide) ?_
    exact K C' M' hJ'
  by_cases h17 : r = 17
  · subst h17
    obtain ⟨x, C', M', hJ', hk, hm⟩ := jt_waitingTurn (G := G) hJ (G.2.2.2.2.2 (i + 1))
    refine E_tsIn (tgt := 511) (off := 459) d_LAW_law_52 (by decide) (by decide) (by decide) (by decide) ?_
    refine E_aload_n d_LAW_law_511 rfl rfl ?_
    refine E_aload_n d_LAW_law_512 rfl rfl ?_
    refine E_iload_n d_LAW_law_513 rfl ?_
    refine E_iconst (v := 1) d_LAW_law_514 (by decide) ?_
    refine E_iadd d_LAW_law_515 ?_
    refine E_tp (y := nI (i + 1)) (nI_add i 1) ?_
    refine E_sld (j := i + 1) d_LAW_law_516 rfl (by omega) (by omega) ?_
    refine E_V1i d_LAW_law_517 w_LAW_93 rfl (by decide) (Nat.le_of_ble_eq_true rfl) (hk) ?_
    rintro _ _ ⟨rfl, rfl⟩
    refine E_aload_n d_LAW_law_520 rfl rfl ?_
    refine E_aload_n d_LAW_law_521 rfl rfl ?_
    refine E_iload_n d_LAW_law_522 rfl ?_
    refine E_iconst (v := 1) d_LAW_law_523 (by decide) ?_
    refine E_iadd d_LAW_law_524 ?_
    refine E_tp (y := nI (i + 1)) (nI_add i 1) ?_
    refine E_sld (j := i + 1) d_LAW_law_525 rfl (by omega) (by omega) ?_
    refine E_V1i d_LAW_law_526 w_LAW_96 rfl (by decide) (Nat.le_of_ble_eq_true rfl) (hm) ?_
    rintro _ _ ⟨rfl, rfl⟩
    refine E_icmp_eq (tgt := 534) d_LAW_law_529 (by decide) (fun _ => ?_) (fun c => absurd rfl c)
    refine E_iinc (v := nI (i + 3)) d_LAW_law_534 rfl (nI_add i 3) (Nat.le_of_ble_eq_true rfl) ?_
    refine E_goto (tgt := 38) d_LAW_law_537 (by decide) ?_
    exact K C' M' hJ'
  refine E_tsOut (tgt := 534) d_LAW_law_52 ?_ (by decide) ?_
  · have n0 : r.toInt ≠ 0 := fun q => h0 (Int32.toInt_inj.mp (q.trans (by decide)))
    have n1 : r.toInt ≠ 1 := fun q => h1 (Int32.toInt_inj.mp (q.trans (by decide)))
    have n2 : r.toInt ≠ 2 := fun q => h2 (Int32.toInt_inj.mp (q.trans (by decide)))
    have n3 : r.toInt ≠ 3 := fun q => h3 (Int32.toInt_inj.mp (q.trans (by decide)))
    have n4 : r.toInt ≠ 4 := fun q => h4 (Int32.toInt_inj.mp (q.trans (by decide)))
    have n5 : r.toInt ≠ 5 := fun q => h5 (Int32.toInt_inj.mp (q.trans (by decide)))
    have n6 : r.toInt ≠ 6 := fun q => h6 (Int32.toInt_inj.mp (q.trans (by decide)))
    have n7 : r.toInt ≠ 7 := fun q => h7 (Int32.toInt_inj.mp (q.trans (by decide)))
    have n8 : r.toInt ≠ 8 := fun q => h8 (Int32.toInt_inj.mp (q.trans (by decide)))
    have n9 : r.toInt ≠ 9 := fun q => h9 (Int32.toInt_inj.mp (q.trans (by decide)))
    have n10 : r.toInt ≠ 10 := fun q => h10 (Int32.toInt_inj.mp (q.trans (by decide)))
    have n11 : r.toInt ≠ 11 := fun q => h11 (Int32.toInt_inj.mp (q.trans (by decide)))
    have n12 : r.toInt ≠ 12 := fun q => h12 (Int32.toInt_inj.mp (q.trans (by decide)))
    have n13 : r.toInt ≠ 13 := fun q => h13 (Int32.toInt_inj.mp (q.trans (by decide)))
    have n14 : r.toInt ≠ 14 := fun q => h14 (Int32.toInt_inj.mp (q.trans (by decide)))
    have n15 : r.toInt ≠ 15 := fun q => h15 (Int32.toInt_inj.mp (q.trans (by decide)))
    have n16 : r.toInt ≠ 16 := fun q => h16 (Int32.toInt_inj.mp (q.trans (by decide)))
    have n17 : r.toInt ≠ 17 := fun q => h17 (Int32.toInt_inj.mp (q.trans (by decide)))
    omega
  · refine E_iinc (v := nI (i + 3)) d_LAW_law_534 rfl (nI_add i 3) (Nat.le_of_ble_eq_true rfl) ?_
    refine E_goto (tgt := 38) d_LAW_law_537 (by decide) ?_
    exact K C M hJ
theorem lp_LAW_law {G : iG} {nm : String} {F az : Nat} {Q : Option iV → iH → Prop} (hL : G.2.2.2.2.1 < 2 ^ 31) (hQ : ∀ h, Q (some (vI 1)) h) : ∀ (n i : Nat) (C M : Nat → Nat → Int32), JI F C M → G.2.2.2.2.1 < i + n → (i ≤ G.2.2.2.2.1 ∨ i = 2) → Ev G (mL nm) 9 0 az 38 [some vS, some (vR 0), some (vR 50), some (vI (nI i))] [] (HW F C M) Q := by
  intro n
  induction n with
  | zero =>
    intro i C M hJ hn hi
    refine E_iload_n d_LAW_law_38 rfl ?_
    refine E_aload_n d_LAW_law_39 rfl rfl ?_
    refine E_slen d_LAW_law_40 ?_
    refine E_iconst (v := 3) d_LAW_law_41 (by decide) ?_
    refine E_isub d_LAW_law_42 ?_
    refine E_icmp_gt (tgt := 540) d_LAW_law_43 (by decide) (fun _ => ?_) (fun c => absurd ((law_lt hL (by omega)).mpr (by omega)) c)
    refine E_iconst (v := 1) d_LAW_law_540 (by decide) ?_
    exact E_ireturn d_LAW_law_541 (Or.inr ⟨rfl, by decide⟩) rfl (hQ _)
  | succ n ih =>
    intro i C M hJ hn hi
    refine E_iload_n d_LAW_law_38 rfl ?_
    refine E_aload_n d_LAW_law_39 rfl rfl ?_
    refine E_slen d_LAW_law_40 ?_
    refine E_iconst (v := 3) d_LAW_law_41 (by decide) ?_
    refine E_isub d_LAW_law_42 ?_
    by_cases hc : G.2.2.2.2.1 < i + 3
    · skip
      refine E_icmp_gt (tgt := 540) d_LAW_law_43 (by decide) (fun _ => ?_) (fun c => absurd ((law_lt hL (by omega)).mpr (by omega)) c)
      refine E_iconst (v := 1) d_LAW_law_540 (by decide) ?_
      exact E_ireturn d_LAW_law_541 (Or.inr ⟨rfl, by decide⟩) rfl (hQ _)
    · refine E_icmp_gt (tgt := 540) d_LAW_law_43 (by decide) (fun c => absurd ((law_lt hL (by omega)).mp c) hc) (fun _ => ?_)
      refine E_aload_n d_LAW_law_46 rfl rfl ?_
      refine E_iload_n d_LAW_law_47 rfl ?_
      refine E_sld (j := i) d_LAW_law_48 rfl (by omega) hL ?_
      refine E_bipush (v := 31) d_LAW_law_49 (by decide) ?_
      refine E_iand d_LAW_law_51 ?_
      exact sw_LAW_law hL (by omega) hJ (fun C' M' hJ' => ih (i + 3) C' M' hJ' (by omega) (by omega))
theorem ev_LAW_law {G : iG} {nm : String} {h : iH} {Q : Option iV → iH → Prop} (hL : G.2.2.2.2.1 < 2 ^ 31) (h0 : h.1 = []) (hQ : ∀ h, Q (some (vI 1)) h) : Ev G (mL nm) 9 66 3050 0 [some vS, none, none, none] [] h Q := by
  obtain ⟨x, hx⟩ : ∃ x : Int32, x = (if 0 < G.2.2.2.2.1 then G.2.2.2.2.2 0 else 0) := ⟨_, rfl⟩
  obtain ⟨y, hy⟩ : ∃ y : Int32, y = (if 1 < G.2.2.2.2.1 then G.2.2.2.2.2 1 else 0) := ⟨_, rfl⟩
  obtain ⟨F, hF⟩ : ∃ F, F = wN x 40 12 := ⟨_, rfl⟩
  obtain ⟨q, hq⟩ : ∃ q, q = wN y 9 4 := ⟨_, rfl⟩
  have bF := (wN_v (x := x) (a := 40) (b := 12) (by decide)).2 (by decide) (by decide)
  have bq := (wN_v (x := y) (a := 9) (b := 4) (by decide)).2 (by decide) (by decide)
  rw [← hF] at bF
  rw [← hq] at bq
  refine Ev_AG (h' := X F 0 (fl (Cb F) M0) (RI 0 0 0 0)) ⟨h0.symm, fun k hk => by rw [h0] at hk; exact absurd hk (by simp)⟩ ?_
  refine N_new (n := 0) (σ' := fl (Cb F) M0) (ρ' := RI 0 0 0 0) d_LAW_law_0 n_LAW_7 rfl (by decide) (by decide) (fun _ _ => rfl) (fun _ _ => rfl) (fun j => by rw [fr_K _ (by decide)]; exact Cb_0 F j (by decide) (by decide) (by decide)) (fun j => if_pos (by omega)) ?_
  refine E_dup d_LAW_law_3 rfl ?_
  refine E_aload_n d_LAW_law_4 rfl rfl ?_
  refine E_iconst (v := 0) d_LAW_law_5 (by decide) ?_
  refine E_S2i d_LAW_law_6 w_LAW_9 (by decide) (Nat.le_of_ble_eq_true rfl) (c_LAW_cell hL (k := 0) (by decide)) ?_
  rintro _ _ ⟨rfl, rfl⟩
  refine E_tp (y := x) hx.symm ?_
  refine E_aload_n d_LAW_law_9 rfl rfl ?_
  refine E_iconst (v := 1) d_LAW_law_10 (by decide) ?_
  refine E_S2i d_LAW_law_11 w_LAW_9 (by decide) (Nat.le_of_ble_eq_true rfl) (c_LAW_cell hL (k := 1) (by decide)) ?_
  rintro _ _ ⟨rfl, rfl⟩
  refine E_tp (y := y) hy.symm ?_
  refine E_I2 (hx := X F 50 (fl (Cz F q) M0) (RI 8 4 7 0)) d_LAW_law_14 w_LAW_15 (by decide) (by decide) (by decide) (Nat.le_of_ble_eq_true rfl) (c_K_init hF hq) ?_
  refine E_astore_n d_LAW_law_17 (Nat.le_of_ble_eq_true rfl) rfl ?_
  refine N_new (n := 50) (σ' := fl (Cz F q) M0) (ρ' := RI 8 4 7 0) d_LAW_law_18 n_LAW_18 rfl (by decide) (by decide) (fun _ _ => rfl) (fun _ _ => rfl) (fun j => fr_M 0 j) (fun j => if_pos (by omega)) ?_
  refine E_dup d_LAW_law_21 rfl ?_
  refine E_aload_n d_LAW_law_22 rfl rfl ?_
  refine E_iconst (v := 0) d_LAW_law_23 (by decide) ?_
  refine E_S2i d_LAW_law_24 w_LAW_9 (by decide) (Nat.le_of_ble_eq_true rfl) (c_LAW_cell hL (k := 0) (by decide)) ?_
  rintro _ _ ⟨rfl, rfl⟩
  refine E_tp (y := x) hx.symm ?_
  refine E_aload_n d_LAW_law_27 rfl rfl ?_
  refine E_iconst (v := 1) d_LAW_law_28 (by decide) ?_
  refine E_S2i d_LAW_law_29 w_LAW_9 (by decide) (Nat.le_of_ble_eq_true rfl) (c_LAW_cell hL (k := 1) (by decide)) ?_
  rintro _ _ ⟨rfl, rfl⟩
  refine E_tp (y := y) hy.symm ?_
  refine E_I2 (hx := X F 66 (fl (Cz F q) (Me F q 54)) (RI 8 4 7 24)) d_LAW_law_32 w_LAW_20 (by decide) (by decide) (by decide) (Nat.le_of_ble_eq_true rfl) (c_MOD_init hF hq) ?_
  refine E_astore_n d_LAW_law_35 (Nat.le_of_ble_eq_true rfl) rfl ?_
  refine E_iconst (v := 2) d_LAW_law_36 (by decide) ?_
  refine E_istore_n d_LAW_law_37 (Nat.le_of_ble_eq_true rfl) ?_
  exact Ev_RH (lp_LAW_law hL hQ (G.2.2.2.2.1 + 1) 2 _ _ (JI_new bF.2 bq.1 bq.2) (by omega) (Or.inr rfl))

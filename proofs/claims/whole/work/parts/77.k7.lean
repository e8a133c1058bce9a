/-! ===== the class beside the reference: the sleepers, the whole step ===== -/
theorem sl_iff {D : Nat → Int32} {C M : Nat → Nat → Int32} {k : Nat} (h : PR D C M k) : slC C k = true ↔ 1 < M 4 (k + 1) ∧ M 4 (k + 1) < 5 := by
  obtain ⟨_, a2, ⟨s, hs, e⟩, _⟩ := h
  rw [slC, a2, e]
  rcases (by omega : s = 0 ∨ s = 1 ∨ s = 2 ∨ s = 3 ∨ s = 4 ∨ s = 5) with rfl | rfl | rfl | rfl | rfl | rfl <;> decide
theorem ob_mg {F t k : Nat} {D : Nat → Int32} {T U V W : Int32} {C M : Nat → Nat → Int32} (h : J F t D T U V W C M) (hk : k < 8) (hs : 1 < M 4 (k + 1) ∧ M 4 (k + 1) < 5) : obC C k = 1 ↔ mgb M (k + 1) = true := by
  obtain ⟨_, _, g2, g3, _⟩ := h
  have hp := g2 k hk
  obtain ⟨a1, a2, ⟨s, hs5, e⟩, a4, a5, a6, a7, a8, a9, a10⟩ := id hp
  have n0 : M 4 (k + 1) ≠ 0 := fun q => by rw [q] at hs; exact absurd hs.1 (by decide)
  have hreg := (a4 n0).2.2
  have e17 := hreg 17 (by decide)
  have e10 := hreg 10 (by decide)
  obtain ⟨s2, s3, s4⟩ := a10
  have hst : M 4 (k + 1) = 2 ∨ M 4 (k + 1) = 3 ∨ M 4 (k + 1) = 4 := by
    rw [e] at hs ⊢
    rcases (by omega : s = 0 ∨ s = 1 ∨ s = 2 ∨ s = 3 ∨ s = 4 ∨ s = 5) with rfl | rfl | rfl | rfl | rfl | rfl
    · exact absurd hs.1 (by decide)
    · exact absurd hs.1 (by decide)
    · exact Or.inl rfl
    · exact Or.inr (Or.inl rfl)
    · exact Or.inr (Or.inr rfl)
    · exact absurd hs.2 (by decide)
  rw [obC, e17, e10, eA_eq hp]
  rcases hst with q | q | q
  · obtain ⟨r17, j, hj, hx⟩ := s2 q
    have hpp : pip M j := Or.inl (dsc_hel (by omega) (by omega) (by omega) hx)
    obtain ⟨pa, pc, ha8, hc8, ea, ec, hk5, _⟩ := g3 j hj
    have e14 := (hk5 hpp).1
    have ek : (nv (nI (1 + 2 * j)) - 1) / 2 = j := by rw [nv_nI (by omega)]; omega
    have ek2 : nv (nI (1 + 2 * j)) / 2 = j := by rw [nv_nI (by omega)]; omega
    have emg : mgb M (k + 1) = (decide (0 < nI pc) || !hel M (nI (2 + 2 * j))) := by rw [mgb, if_pos q, hx, ek2, e14, e_p1 j hj]
    rw [r17, if_neg (by decide), if_neg (by decide), if_pos rfl, hx, obR, ek, re_t j hj, e_p1 j hj, he_eq g2, ec, emg]
    have hz : nI pc = 0 ↔ pc = 0 := nI_eq (b := 0) (by omega) (by decide)
    have hl : 0 < nI pc ↔ 0 < pc := nI_ltI (a := 0) (by decide) (by omega)
    cases hh : hel M (nI (2 + 2 * j)) with
    | false => simp
    | true =>
      by_cases c0 : pc = 0
      · subst c0; simp; decide
      · have : 0 < pc := by omega
        simp [hz, hl, c0, this]
  · obtain ⟨r17, j, hj, hx⟩ := s3 q
    have hpp : pip M j := Or.inr (dsc_hel (by omega) (by omega) (by omega) hx)
    obtain ⟨pa, pc, ha8, hc8, ea, ec, hk5, _⟩ := g3 j hj
    have e14 := (hk5 hpp).1
    have ek : (nv (nI (2 + 2 * j)) - 1) / 2 = j := by rw [nv_nI (by omega)]; omega
    have emg : mgb M (k + 1) = (decide (nI pc < 8) || !hel M (nI (1 + 2 * j))) := by rw [mgb, if_neg (show ¬ M 4 (k + 1) = 2 by rw [q]; decide), if_pos q, hx, ek, e14, e_m1 j hj]
    rw [r17, if_neg (by decide), if_pos rfl, hx, obW, ek, wr_t j hj, e_m1 j hj, he_eq g2, ec, emg]
    have hz : 8 ≤ nI pc ↔ 8 ≤ pc := nI_leI (a := 8) (by decide) (by omega)
    have hl : nI pc < 8 ↔ pc < 8 := nI_ltI (b := 8) (by omega) (by decide)
    cases hh : hel M (nI (1 + 2 * j)) with
    | false => simp
    | true =>
      by_cases c0 : pc = 8
      · subst c0; simp
      · have : pc < 8 := by omega
        have h8 : ¬ 8 ≤ pc := by omega
        simp [hz, hl, this, h8]
  · have r17 := s4 q
    obtain ⟨l0, _, _⟩ := lcf_0 g2 hk
    have emg : mgb M (k + 1) = !decide (lcf M (nI (k + 1)) 8 = 0) := by
      rw [mgb, if_neg (show ¬ M 4 (k + 1) = 2 by rw [q]; decide), if_neg (show ¬ M 4 (k + 1) = 3 by rw [q]; decide), decide_eq_true q]
      rfl
    rw [r17, if_pos rfl, obK, emg]
    by_cases hl : lcf M (nI (k + 1)) 8 = 0
    · rw [if_pos (l0.mp hl), hl]
      decide
    · rw [if_neg (fun w => hl (l0.mpr w))]
      simp [hl]
theorem J_wake {F t : Nat} {D : Nat → Int32} {T U V W : Int32} {C M : Nat → Nat → Int32} (h : J F t D T U V W C M) (ht : t = 0 ∨ M 4 t = 1) : ∀ k, k ≤ 8 → J F t D T U V W (wsk C k) (wkl M k) ∧ (t = 0 ∨ wkl M k 4 t = 1)
  | 0, _ => ⟨h, ht⟩
  | k + 1, hk => by
    obtain ⟨hJ, ht'⟩ := J_wake h ht k (by omega)
    have hp := hJ.2.2.1 k (by omega)
    obtain ⟨z, hz8, hz, hm⟩ := RW_z hJ.2.2.2.2
    unfold wsk wkl
    by_cases hs : slC (wsk C k) k = true
    · have hs2 := (sl_iff hp).mp hs
      have hob := ob_mg hJ (by omega) hs2
      by_cases ho : obC (wsk C k) k = 1
      · rw [if_pos ⟨hs, ho⟩, if_pos ⟨hs2.1, hs2.2, hob.mp ho⟩, hz, hm, nv_nI (by omega)]
        have n0 : wkl M k 4 (k + 1) ≠ 0 := fun q => by rw [q] at hs2; exact absurd hs2.1 (by decide)
        have n1 : wkl M k 4 (k + 1) ≠ 1 := fun q => by rw [q] at hs2; exact absurd hs2.1 (by decide)
        have n5 : wkl M k 4 (k + 1) ≠ 5 := fun q => by rw [q] at hs2; exact absurd hs2.2 (by decide)
        have hkt : k + 1 ≠ t := fun q => by
          rcases ht' with w | w
          · omega
          · rw [← q] at w; exact n1 w
        refine ⟨J_wak hJ (by omega) n0 n1 n5 hkt hz hz8, ?_⟩
        rcases ht' with w | w
        · exact Or.inl w
        · right
          rw [wakM, up2_row _ _ _ (by decide), up2_row _ _ _ (by decide), up2_col _ _ _ (fun q => hkt q.symm)]
          exact w
      · rw [if_neg (fun q => ho q.2), if_neg (fun q => ho (hob.mpr q.2.2))]
        exact ⟨hJ, ht'⟩
    · rw [if_neg (fun q => hs q.1), if_neg (fun q => hs ((sl_iff hp).mpr ⟨q.1, q.2.1⟩))]
      exact ⟨hJ, ht'⟩
theorem wkok_of {F t k : Nat} {D : Nat → Int32} {T U V W : Int32} {C M : Nat → Nat → Int32} (h : J F t D T U V W C M) (hk : k < 8) : wkok M (k + 1) := by
  obtain ⟨z, hz8, _, hm⟩ := RW_z h.2.2.2.2
  obtain ⟨s2, s3, _⟩ := (h.2.2.1 k hk).2.2.2.2.2.2.2.2.2
  exact ⟨⟨z, by omega, hm⟩, fun q => (s2 q).2, fun q => (s3 q).2⟩
theorem CW_of {F t i s z : Nat} {D : Nat → Int32} {T U V W : Int32} {C M : Nat → Nat → Int32} (h : J F t D T U V W C M) (hi : i < 8) (h24 : M 0 24 = nI (i + 1)) (h4 : M 4 (i + 1) = 1) (hs : C 14 i = nI s) (hs8 : s ≤ 8) (hz : C 46 1 = nI z) (hz8 : z ≤ 8) : CW M (i + 1) z s F := by
  obtain ⟨⟨hF, g0⟩, g1, g2, g3, g4⟩ := h
  obtain ⟨z', hz', e1, e2⟩ := RW_z g4
  have ez : z' = z := (nI_eq (by omega) (by omega)).mp (e1.symm.trans hz)
  obtain ⟨s', hs', f1, f2, hpg⟩ := g1.2.2.2.1 i hi
  have es : s' = s := (nI_eq (by omega) (by omega)).mp (f1.symm.trans hs)
  subst ez
  subst es
  obtain ⟨sh, hsh, _, esh⟩ := g0.2.2.2.2.1
  refine ⟨h24, by omega, by omega, e2, hz8, f2, hs8, fun k hk => ?_, g0.1, hF, by rw [h4]; decide, fun d hd => ((g2 i hi).2.2.2.2.2.2.2.1 d hd).2, fun k hk => ?_, sh, hsh, esh⟩
  · obtain ⟨f, hf, _, fm, _⟩ := hpg k hk
    exact ⟨f, by omega, fm⟩
  · obtain ⟨pa, pc, ha8, hc8, ea, ec, hk5, hk6⟩ := g3 k hk
    by_cases hp : hel M (nI (1 + 2 * k)) = true ∨ hel M (nI (2 + 2 * k)) = true
    · exact ⟨pc, hc8, (hk5 hp).1⟩
    · exact ⟨0, by decide, hk6 hp⟩
theorem dsE_of {F t : Nat} {D : Nat → Int32} {T U V W : Int32} {C M : Nat → Nat → Int32} (h : J F t D T U V W C M) : ∀ j, j < 8 → dsE C j := fun j hj d hd => by
  obtain ⟨e1, e2⟩ := (h.2.2.1 j hj).2.2.2.2.2.2.2.1 d hd
  rw [e1]
  exact e2
theorem pg_of {F t : Nat} {D : Nat → Int32} {T U V W : Int32} {C M : Nat → Nat → Int32} (h : J F t D T U V W C M) : ∀ i, i < 8 → ∃ s, s ≤ 8 ∧ C 14 i = nI s ∧ pgC C i s F := fun i hi => by
  obtain ⟨s, hs, e1, _, hpg⟩ := h.2.1.2.2.2.1 i hi
  exact ⟨s, hs, e1, fun k hk => by
    obtain ⟨f, hf, f1, _⟩ := hpg k hk
    exact ⟨f, hf, f1⟩⟩
theorem KW_of {F i z s n : Nat} {T U V W : Int32} {B N : Nat → Nat → Int32} (h : CX F i z s n T U V W B N) : KW B i F s (nfr N F) z n := by
  obtain ⟨hi, hJ, h4, h16, h27, h24, hs, hs8, hz, hz8, hn, hn2⟩ := h
  have hF := hJ.1.1
  have hnf := nfr_le N F
  obtain ⟨s', hs', e1, hpg⟩ := pg_of hJ i hi
  have es : s' = s := (nI_eq (by omega) (by omega)).mp (e1.symm.trans hs)
  subst es
  refine ⟨hi, hF, hs, hs8, hpg, hJ.2.1.1, by omega, hz, hz8, hn, hn2, dsE_of hJ i hi, ?_, pg_of hJ, ?_⟩
  · intro k hk
    obtain ⟨pa, pc, ha8, hc8, ea, ec, _⟩ := hJ.2.2.2.1 k hk
    exact ⟨⟨pa, ha8, ea⟩, pc, hc8, ec⟩
  · intro hl hu
    have hc15 : B 15 (laC B 8 0) = 0 := (laC_spec B 8 0).2.2 (by omega)
    have hpc := hJ.2.2.1 _ hl
    have hc4 : N 4 (laC B 8 0 + 1) = 0 := by rw [← hpc.2.1]; exact hc15
    have hic : i ≠ laC B 8 0 := fun q => by rw [q, hc4] at h4; exact absurd h4 (by decide)
    obtain ⟨m1, _, m3, m4, m5, m6, _⟩ := fk_mem hF hJ.2.1 hi hl hic hs hs8 (hpc.2.2.2.2.2.2.2.2.1 (Or.inl hc4)).1 hu
    exact ⟨m1, m3, m4, m5, m6⟩
/-- before the first boot -/
def FR (F : Nat) (C M : Nat → Nat → Int32) : Prop := (∀ i, i < 8 → M 4 (i + 1) = 0) ∧ nfr M F = F ∧ C 46 1 = 0 ∧ C 16 0 = 0 ∧ C 17 0 = 0 ∧ (∀ k, k < 32 → C 20 k = 0) ∧ M 7 1 = 0 ∧ M 6 1 = 0 ∧ ∀ k, k < 32 → M 9 (32 + k) = 0
/-- what holds between two calls -/
def JI (F : Nat) (C M : Nat → Nat → Int32) : Prop := ∃ t T U W, J F t D0 T U T W C M ∧ ((T = 0 ∧ t = 0) ∨ (T = nI t ∧ 1 ≤ t ∧ t ≤ 8 ∧ M 4 t = 1 ∧ ∃ a q, a < q ∧ q ≤ 9 ∧ M 0 1 = nI q ∧ U = nI (q - a) ∧ W = nI a)) ∧ (M 0 6 = 0 ∨ M 0 6 = 1) ∧ (M 0 6 = 0 → FR F C M)

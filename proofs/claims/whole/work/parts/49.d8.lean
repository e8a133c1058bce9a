/-! ===== the class's kernel, fourth row ===== -/
/-- what fork must know of the frames given -/
def fkW (C : Nat → Nat → Int32) (i s u F : Nat) : Prop := laC C 8 0 < 8 → s ≤ u → C 14 (laC C 8 0) = 0 ∧ fkG C i (laC C 8 0) s F 14 i = nI s ∧ fkG C i (laC C 8 0) s F 14 (laC C 8 0) = nI s ∧ pgC (fkG C i (laC C 8 0) s F) i s F ∧ pgC (fkG C i (laC C 8 0) s F) (laC C 8 0) s F
/-- what a call of task i must know -/
def KW (C : Nat → Nat → Int32) (i F s u z n : Nat) : Prop := i < 8 ∧ F ≤ 40 ∧ C 14 i = nI s ∧ s ≤ 8 ∧ pgC C i s F ∧ C 1 2 = nI u ∧ u ≤ 40 ∧ C 46 1 = nI z ∧ z ≤ 8 ∧ C 0 8 = nI n ∧ n ≤ 200 ∧ dsE C i ∧ piB C ∧ (∀ i, i < 8 → ∃ s, s ≤ 8 ∧ C 14 i = nI s ∧ pgC C i s F) ∧ fkW C i s u F
theorem c_K_fork {G : iG} {F : Nat} {C M : Nat → Nat → Int32} {i : Nat} (hi : i < 8) {s u : Nat} (hF : F ≤ 40) (hs : C 14 i = nI s) (hs8 : s ≤ 8) (hu : C 1 2 = nI u) (hu40 : u ≤ 40) (hw : fkW C i s u F) {z : Nat} (hz : C 46 1 = nI z) (hz8 : z ≤ 8) : MI G m_K_fork 2 [vR 0, vR (tk i)] (HW F C M) (fun x h' => x = (fkC C i s u z F).1 ∧ h' = HW F (fkC C i s u z F).2 M) := by
  refine Mt.of' (Ls := [some (vR 0), some (vR (tk i)), none]) (by decide) (by simp [ct]) (Nat.le_of_ble_eq_true rfl) rfl ?_
  have hun := fkC.eq_1 C i s u z F
  unfold fkW at hw
  by_cases hl : laC C 8 0 < 8
  · obtain ⟨c, hc⟩ : ∃ c, c = laC C 8 0 := ⟨_, rfl⟩
    rw [← hc] at hun hw hl
    refine E_aload_n d_K_fork_0 rfl rfl ?_
    refine E_V0q d_K_fork_1 w_K_238 rfl (by decide) (Nat.le_of_ble_eq_true rfl) (c_K_leastAbsent) ?_
    rintro _ _ ⟨rfl, rfl⟩
    rw [← hc, if_pos hl]
    refine E_astore_n d_K_fork_4 (by decide) rfl ?_
    refine E_aload_n d_K_fork_5 rfl rfl ?_
    refine E_ifnull d_K_fork_6 (tgt := 23) (by decide) (fun c => by cases c) (fun _ _ => ?_)
    refine E_aload_n d_K_fork_9 rfl rfl ?_
    refine L_gr d_K_fork_10 f_K_18 rfl (by decide) rfl rfl ?_
    refine L_gi d_K_fork_13 f_K_61 rfl (by decide) rfl (fr_K 2 (by decide)) ?_
    refine E_tp (y := nI (u)) hu ?_
    refine E_aload_n d_K_fork_16 rfl rfl ?_
    refine L_gi d_K_fork_17 f_K_107 (SH_T0 hi) (by decide) rfl (fr_T4 hi) ?_
    refine E_tp (y := nI (s)) hs ?_
    refine E_icmp_ge (tgt := 25) d_K_fork_20 (by decide) (fun c20 => ?_) (fun c20 => ?_)
    · have q := (nI_leI (a := s) (b := u) (by omega) (by omega)).mp c20
      obtain ⟨h14, g1, g2, g3, g4⟩ := hw hl q
      rw [if_pos ⟨hl, q⟩] at hun
      refine E_aload_n d_K_fork_25 rfl rfl ?_
      refine E_aload_n d_K_fork_26 rfl rfl ?_
      refine E_V1v d_K_fork_27 w_K_242 (SH_T0 hl) (by decide) (Nat.le_of_ble_eq_true rfl) (c_T_copyFrom hl hi) ?_
      rintro _ rfl
      refine E_aload_n d_K_fork_30 rfl rfl ?_
      refine E_aload_n d_K_fork_31 rfl rfl ?_
      refine L_gi d_K_fork_32 f_K_140 (SH_T0 hi) (by decide) rfl (fr_T0 hi) ?_
      refine E_tp (y := C 10 i) (cfC_ne _ _ _ _ (by decide) (by decide) (by decide)) ?_
      refine L_pi d_K_fork_35 f_K_104 (SH_T0 hl) (by decide) (Or.inl rfl) rfl (fu_T7 _ hl) ?_
      refine E_aload_n d_K_fork_38 rfl rfl ?_
      refine E_bipush (v := 10) d_K_fork_39 (by decide) ?_
      refine E_iconst (v := 0) d_K_fork_41 (by decide) ?_
      refine E_V2v d_K_fork_42 w_K_72 (SH_T0 hl) (by decide) (Nat.le_of_ble_eq_true rfl) (c_T_setRegister hl (k := 10) (by decide)) ?_
      rintro _ rfl
      change Ev G m_K_fork _ 0 0 _ _ _ (HW F (fk1 C i c) M) _
      refine E_aload_n d_K_fork_45 rfl rfl ?_
      refine L_gr d_K_fork_46 f_K_18 rfl (by decide) rfl rfl ?_
      refine E_aload_n d_K_fork_49 rfl rfl ?_
      refine E_aload_n d_K_fork_50 rfl rfl ?_
      refine L_gi d_K_fork_51 f_K_107 (SH_T0 hi) (by decide) rfl (fr_T4 hi) ?_
      refine E_tp (y := nI (s)) ((fk1_ne C i c _ (by decide) (by decide) (by decide) (by decide)).trans hs) ?_
      refine E_V2v d_K_fork_54 w_K_64 rfl (by decide) (Nat.le_of_ble_eq_true rfl) (c_MEM_give hl (s := 0) (by omega) hF ((fk1_ne C i c _ (by decide) (by decide) (by decide) (by decide)).trans h14) (by decide)) ?_
      rintro _ rfl
      change Ev G m_K_fork _ 0 0 _ _ _ (HW F (fkG C i c s F) M) _
      refine E_aload_n d_K_fork_57 rfl rfl ?_
      refine L_gr d_K_fork_58 f_K_18 rfl (by decide) rfl rfl ?_
      refine E_aload_n d_K_fork_61 rfl rfl ?_
      refine E_aload_n d_K_fork_62 rfl rfl ?_
      refine E_V2v d_K_fork_63 w_K_245 rfl (by decide) (Nat.le_of_ble_eq_true rfl) (c_MEM_copyPages hi hl hF g1 g2 hs8 g3 g4) ?_
      rintro _ rfl
      refine E_aload_n d_K_fork_66 rfl rfl ?_
      refine E_aload_n d_K_fork_67 rfl rfl ?_
      refine E_V1v d_K_fork_68 w_K_79 rfl (by decide) (Nat.le_of_ble_eq_true rfl) (c_K_makeReady hl ((cpg_ne _ _ _ _ (by decide) s).trans (((gvC_ne c s _ (by decide) (by decide) (by decide) (by decide) (by decide) F (fk1 C i c) 0 0 0).trans (fk1_ne C i c _ (by decide) (by decide) (by decide) (by decide))).trans hz)) hz8) ?_
      rintro _ rfl
      refine E_aload_n d_K_fork_71 rfl rfl ?_
      refine L_gi d_K_fork_72 f_K_140 (SH_T0 hl) (by decide) rfl (fr_T0 hl) ?_
      exact E_ireturn d_K_fork_75 (Or.inl rfl) rfl ⟨_, rfl, by rw [hun], by rw [hun]⟩
    · have q := (not_congr (nI_leI (a := s) (b := u) (by omega) (by omega))).mp c20
      rw [if_neg (fun h => q h.2)] at hun
      refine E_iconst (v := -1) d_K_fork_23 (by decide) ?_
      exact E_ireturn d_K_fork_24 (Or.inl rfl) rfl ⟨_, rfl, by rw [hun], by rw [hun]⟩
  · refine E_aload_n d_K_fork_0 rfl rfl ?_
    refine E_V0q d_K_fork_1 w_K_238 rfl (by decide) (Nat.le_of_ble_eq_true rfl) (c_K_leastAbsent) ?_
    rintro _ _ ⟨rfl, rfl⟩
    rw [if_neg hl]
    refine E_astore_n d_K_fork_4 (by decide) rfl ?_
    refine E_aload_n d_K_fork_5 rfl rfl ?_
    refine E_ifnull d_K_fork_6 (tgt := 23) (by decide) (fun _ => ?_) (fun _ c => by cases c)
    refine E_iconst (v := -1) d_K_fork_23 (by decide) ?_
    exact E_ireturn d_K_fork_24 (Or.inl rfl) rfl ⟨_, rfl, by rw [hun, if_neg (fun q => hl q.1)], by rw [hun, if_neg (fun q => hl q.1)]⟩
theorem md_K_answerOf {G : iG} {F : Nat} {C M : Nat → Nat → Int32} {Q : Option iV → iH → Prop} {i s u z n : Nat} {a : Int32} (hw : KW C i F s u z n) (hQ : Q (some (vI (anC C i F s u z n a).1)) (HW F (anC C i F s u z n a).2 M)) : Ev G m_K_answerOf 4 0 0 6 [some (vR 0), some (vR (tk i)), some (vI a)] [vI (C 20 (32 * i + 17))] (HW F C M) Q := by
  obtain ⟨hi, hF, hs, hs8, hpg, hu, hu40, hz, hz8, hn, hn2, hd, hp, hpa, hfk⟩ := hw
  have hun := anC.eq_1 C i F s u z n a
  obtain ⟨r, hr⟩ : ∃ r, r = C 20 (32 * i + 17) := ⟨_, rfl⟩
  rw [← hr] at hun ⊢
  by_cases h0 : r = 0
  · subst h0
    rw [if_pos rfl] at hun
    refine E_tsIn (tgt := 68) (off := 62) d_K_answerOf_6 (by decide) (by decide) (by decide) (by decide) ?_
    refine E_aload_n d_K_answerOf_68 rfl rfl ?_
    refine E_iconst (v := 1) d_K_answerOf_69 (by decide) ?_
    refine L_pi d_K_answerOf_70 f_K_152 rfl (by decide) (Or.inr ⟨rfl, (by decide)⟩) rfl (fu_K 12 _ (by decide)) ?_
    refine E_iload_n d_K_answerOf_73 rfl ?_
    exact E_ireturn d_K_answerOf_74 (Or.inl rfl) rfl (by rw [hun] at hQ; (try dsimp only at hQ); exact hQ)
  rw [if_neg h0] at hun
  by_cases h1 : r = 1
  · subst h1
    rw [if_pos rfl] at hun
    refine E_tsIn (tgt := 75) (off := 69) d_K_answerOf_6 (by decide) (by decide) (by decide) (by decide) ?_
    refine E_aload_n d_K_answerOf_75 rfl rfl ?_
    refine E_aload_n d_K_answerOf_76 rfl rfl ?_
    refine E_iload_n d_K_answerOf_77 rfl ?_
    refine E_V2v d_K_answerOf_78 w_K_168 rfl (by decide) (Nat.le_of_ble_eq_true rfl) (c_K_end hi hF hs hs8 hpg hz hz8) ?_
    rintro _ rfl
    refine E_iload_n d_K_answerOf_81 rfl ?_
    exact E_ireturn d_K_answerOf_82 (Or.inl rfl) rfl (by rw [hun] at hQ; (try dsimp only at hQ); exact hQ)
  rw [if_neg h1] at hun
  by_cases h2 : r = 2
  · subst h2
    rw [if_pos rfl] at hun
    refine E_tsIn (tgt := 83) (off := 77) d_K_answerOf_6 (by decide) (by decide) (by decide) (by decide) ?_
    refine E_aload_n d_K_answerOf_83 rfl rfl ?_
    refine L_gi d_K_answerOf_84 f_K_140 (SH_T0 hi) (by decide) rfl (fr_T0 hi) ?_
    exact E_ireturn d_K_answerOf_87 (Or.inl rfl) rfl (by rw [hun] at hQ; (try dsimp only at hQ); exact hQ)
  rw [if_neg h2] at hun
  by_cases h3 : r = 3
  · subst h3
    rw [if_pos rfl] at hun
    refine E_tsIn (tgt := 88) (off := 82) d_K_answerOf_6 (by decide) (by decide) (by decide) (by decide) ?_
    refine E_aload_n d_K_answerOf_88 rfl rfl ?_
    refine E_aload_n d_K_answerOf_89 rfl rfl ?_
    refine E_V1i d_K_answerOf_90 w_K_210 rfl (by decide) (Nat.le_of_ble_eq_true rfl) (c_K_fork hi hF hs hs8 hu hu40 hfk hz hz8) ?_
    rintro _ _ ⟨rfl, rfl⟩
    exact E_ireturn d_K_answerOf_93 (Or.inl rfl) rfl (by rw [hun] at hQ; (try dsimp only at hQ); exact hQ)
  rw [if_neg h3] at hun
  by_cases h4 : r = 4
  · subst h4
    rw [if_pos rfl] at hun
    refine E_tsIn (tgt := 94) (off := 88) d_K_answerOf_6 (by decide) (by decide) (by decide) (by decide) ?_
    refine E_aload_n d_K_answerOf_94 rfl rfl ?_
    refine E_aload_n d_K_answerOf_95 rfl rfl ?_
    refine E_V1i d_K_answerOf_96 w_K_213 rfl (by decide) (Nat.le_of_ble_eq_true rfl) (c_K_collectChild hi) ?_
    rintro _ _ ⟨rfl, rfl⟩
    exact E_ireturn d_K_answerOf_99 (Or.inl rfl) rfl (by rw [hun] at hQ; (try dsimp only at hQ); exact hQ)
  rw [if_neg h4] at hun
  by_cases h5 : r = 5
  · subst h5
    rw [if_pos rfl] at hun
    refine E_tsIn (tgt := 100) (off := 94) d_K_answerOf_6 (by decide) (by decide) (by decide) (by decide) ?_
    refine E_aload_n d_K_answerOf_100 rfl rfl ?_
    refine E_aload_n d_K_answerOf_101 rfl rfl ?_
    refine E_iload_n d_K_answerOf_102 rfl ?_
    refine E_V2i d_K_answerOf_103 w_K_216 rfl (by decide) (Nat.le_of_ble_eq_true rfl) (c_K_grow hi hF hs hs8 hu hu40) ?_
    rintro _ _ ⟨rfl, rfl⟩
    exact E_ireturn d_K_answerOf_106 (Or.inl rfl) rfl (by rw [hun] at hQ; (try dsimp only at hQ); exact hQ)
  rw [if_neg h5] at hun
  by_cases h6 : r = 6
  · subst h6
    rw [if_pos rfl] at hun
    refine E_tsIn (tgt := 107) (off := 101) d_K_answerOf_6 (by decide) (by decide) (by decide) (by decide) ?_
    refine E_aload_n d_K_answerOf_107 rfl rfl ?_
    refine E_aload_n d_K_answerOf_108 rfl rfl ?_
    refine E_iload_n d_K_answerOf_109 rfl ?_
    refine E_V1i d_K_answerOf_110 w_K_124 (SH_T0 hi) (by decide) (Nat.le_of_ble_eq_true rfl) (c_T_endAt hi) ?_
    rintro _ _ ⟨rfl, rfl⟩
    refine E_aload_n d_K_answerOf_113 rfl rfl ?_
    refine E_bipush (v := 11) d_K_answerOf_114 (by decide) ?_
    refine E_V1i d_K_answerOf_116 w_K_110 (SH_T0 hi) (by decide) (Nat.le_of_ble_eq_true rfl) (c_T_getRegister hi) ?_
    rintro _ _ ⟨rfl, rfl⟩
    refine E_tp (y := C 20 (32 * i + 11)) (gR_nI C i (k := 11) (by decide)) ?_
    refine E_sipush (v := 255) d_K_answerOf_119 (by decide) ?_
    refine E_iand d_K_answerOf_122 ?_
    refine E_V2i d_K_answerOf_123 w_K_219 rfl (by decide) (Nat.le_of_ble_eq_true rfl) (c_K_write hn hn2 hp (eA_edr hd _)) ?_
    rintro _ _ ⟨rfl, rfl⟩
    exact E_ireturn d_K_answerOf_126 (Or.inl rfl) rfl (by rw [hun] at hQ; (try dsimp only at hQ); exact hQ)
  rw [if_neg h6] at hun
  by_cases h7 : r = 7
  · subst h7
    rw [if_pos rfl] at hun
    refine E_tsIn (tgt := 127) (off := 121) d_K_answerOf_6 (by decide) (by decide) (by decide) (by decide) ?_
    refine E_aload_n d_K_answerOf_127 rfl rfl ?_
    refine E_aload_n d_K_answerOf_128 rfl rfl ?_
    refine E_iload_n d_K_answerOf_129 rfl ?_
    refine E_V1i d_K_answerOf_130 w_K_124 (SH_T0 hi) (by decide) (Nat.le_of_ble_eq_true rfl) (c_T_endAt hi) ?_
    rintro _ _ ⟨rfl, rfl⟩
    refine E_V1i d_K_answerOf_133 w_K_223 rfl (by decide) (Nat.le_of_ble_eq_true rfl) (c_K_read hp (eA_edr hd _)) ?_
    rintro _ _ ⟨rfl, rfl⟩
    exact E_ireturn d_K_answerOf_136 (Or.inl rfl) rfl (by rw [hun] at hQ; (try dsimp only at hQ); exact hQ)
  rw [if_neg h7] at hun
  by_cases h8 : r = 8
  · subst h8
    rw [if_pos rfl] at hun
    refine E_tsIn (tgt := 137) (off := 131) d_K_answerOf_6 (by decide) (by decide) (by decide) (by decide) ?_
    refine E_aload_n d_K_answerOf_137 rfl rfl ?_
    refine E_aload_n d_K_answerOf_138 rfl rfl ?_
    refine E_V1i d_K_answerOf_139 w_K_226 rfl (by decide) (Nat.le_of_ble_eq_true rfl) (c_K_openPipe hi) ?_
    rintro _ _ ⟨rfl, rfl⟩
    exact E_ireturn d_K_answerOf_142 (Or.inl rfl) rfl (by rw [hun] at hQ; (try dsimp only at hQ); exact hQ)
  rw [if_neg h8] at hun
  by_cases h9 : r = 9
  · subst h9
    rw [if_pos rfl] at hun
    refine E_tsIn (tgt := 143) (off := 137) d_K_answerOf_6 (by decide) (by decide) (by decide) (by decide) ?_
    refine E_aload_n d_K_answerOf_143 rfl rfl ?_
    refine E_aload_n d_K_answerOf_144 rfl rfl ?_
    refine E_iload_n d_K_answerOf_145 rfl ?_
    refine E_V2i d_K_answerOf_146 w_K_229 rfl (by decide) (Nat.le_of_ble_eq_true rfl) (c_K_close hi) ?_
    rintro _ _ ⟨rfl, rfl⟩
    exact E_ireturn d_K_answerOf_149 (Or.inl rfl) rfl (by rw [hun] at hQ; (try dsimp only at hQ); exact hQ)
  rw [if_neg h9] at hun
  by_cases h10 : r = 10
  · subst h10
    rw [if_pos rfl] at hun
    refine E_tsIn (tgt := 150) (off := 144) d_K_answerOf_6 (by decide) (by decide) (by decide) (by decide) ?_
    refine E_aload_n d_K_answerOf_150 rfl rfl ?_
    refine E_aload_n d_K_answerOf_151 rfl rfl ?_
    refine E_iload_n d_K_answerOf_152 rfl ?_
    refine E_V2i d_K_answerOf_153 w_K_232 rfl (by decide) (Nat.le_of_ble_eq_true rfl) (c_K_duplicate hi) ?_
    rintro _ _ ⟨rfl, rfl⟩
    exact E_ireturn d_K_answerOf_156 (Or.inl rfl) rfl (by rw [hun] at hQ; (try dsimp only at hQ); exact hQ)
  rw [if_neg h10] at hun
  by_cases h11 : r = 11
  · subst h11
    rw [if_pos rfl] at hun
    refine E_tsIn (tgt := 157) (off := 151) d_K_answerOf_6 (by decide) (by decide) (by decide) (by decide) ?_
    refine E_aload_n d_K_answerOf_157 rfl rfl ?_
    refine E_iload_n d_K_answerOf_158 rfl ?_
    refine E_V1i d_K_answerOf_159 w_K_235 rfl (by decide) (Nat.le_of_ble_eq_true rfl) (c_K_kill hF hpa hz hz8) ?_
    rintro _ _ ⟨rfl, rfl⟩
    exact E_ireturn d_K_answerOf_162 (Or.inl rfl) rfl (by rw [hun] at hQ; (try dsimp only at hQ); exact hQ)
  rw [if_neg h11] at hun
  refine E_tsOut (tgt := 163) d_K_answerOf_6 ?_ (by decide) ?_
  · have n0 : r.toInt ≠ 0 := fun q => h0 (Int32.toInt_inj.mp (q.trans (by decide)))
    have n1 : r.toInt ≠ 1 := fun q => h1 (Int32.toInt_inj.mp (q.trans (by decide)))
    have n2 : r.toInt ≠ 2 := fun q => h2 (Int32.toInt_inj.mp (q.trans (by decide)))
    have n3 : r.toInt ≠ 3 := fun q => h3 (Int32.toInt_inj.mp (q.trans (by decide)))
    have n4 : r.toInt ≠ 4 := fun q => h4 (Int32.toInt_inj.mp (q.trans (by decide)))
    have n5 : r.toInt ≠ 5 := fun q => h5 (Int32.toInt_inj.mp (q.trans (by decide)))
    have n6 : r.toInt ≠ 6 := fun q => h6 (Int32.toInt_inj.mp (q.trans (by decide)))
    have n7 : r.toInt ≠ 7 := fun q => h7 (Int32.toInt_inj.mp (q.trans (by decide)))
    have n8 : r.toInt ≠ 8 := fun q => h8 (Int32.toInt_inj.mp (q.trans (by decide)))
    have n9 : r.toInt ≠ 9 := fun q => h9 (Int32.toInt_inj.mp (q.trans (by decide)))
    have n10 : r.toInt ≠ 10 := fun q => h10 (Int32.toInt_inj.mp (q.trans (by decide)))
    have n11 : r.toInt ≠ 11 := fun q => h11 (Int32.toInt_inj.mp (q.trans (by decide)))
    omega
  refine E_iconst (v := -1) d_K_answerOf_163 (by decide) ?_
  exact E_ireturn d_K_answerOf_164 (Or.inl rfl) rfl (by rw [hun] at hQ; (try dsimp only at hQ); exact hQ)
theorem c_K_answerOf {G : iG} {F : Nat} {C M : Nat → Nat → Int32} {i s u z n : Nat} {a : Int32} (hw : KW C i F s u z n) : MI G m_K_answerOf 4 [vR 0, vR (tk i), vI a] (HW F C M) (fun x h' => x = (anC C i F s u z n a).1 ∧ h' = HW F (anC C i F s u z n a).2 M) := by
  refine Mt.of' (Ls := [some (vR 0), some (vR (tk i)), some (vI a)]) (by decide) (by simp [ct]) (Nat.le_of_ble_eq_true rfl) rfl ?_
  refine E_aload_n d_K_answerOf_0 rfl rfl ?_
  refine E_bipush (v := 17) d_K_answerOf_1 (by decide) ?_
  refine E_V1i d_K_answerOf_3 w_K_110 (SH_T0 hw.1) (by decide) (Nat.le_of_ble_eq_true rfl) (c_T_getRegister hw.1) ?_
  rintro _ _ ⟨rfl, rfl⟩
  refine E_tp (y := C 20 (32 * i + 17)) (gR_nI C i (k := 17) (by decide)) ?_
  exact md_K_answerOf hw ⟨_, rfl, rfl, rfl⟩
theorem lp_K_wakeSleepers {G : iG} {F : Nat} {C M : Nat → Nat → Int32} {Q : Option iV → iH → Prop} (hd : ∀ i, i < 8 → dsE C i) {z : Nat} (hz : C 46 1 = nI z) (hz8 : z ≤ 8) (hQ : Q none (HW F (wsk C 8) M)) : ∀ (n k : Nat) (l2 : Option iV), k + n = 8 → Ev G m_K_wakeSleepers 3 0 0 2 [some (vR 0), some (vI (nI k)), l2] [] (HW F (wsk C k) M) Q := by
  intro n
  induction n with
  | zero =>
    intro k l2 hk
    have e : k = 8 := by omega
    subst e
    refine E_iload_n d_K_wakeSleepers_2 rfl ?_
    refine E_bipush (v := 8) d_K_wakeSleepers_3 (by decide) ?_
    refine E_icmp_ge (tgt := 42) d_K_wakeSleepers_5 (by decide) (fun _ => ?_) (fun c => absurd (by decide) c)
    exact E_return d_K_wakeSleepers_42 rfl rfl hQ
  | succ n ih =>
    intro k l2 hk
    obtain ⟨z', hz2, hz3⟩ := wsk_z hz hz8 k
    have hdk : dsE (wsk C k) k := fun d hd6 => by rw [wsk_ne C _ (by decide) (by decide) (by decide) k]; exact hd k (by omega) d hd6
    refine E_iload_n d_K_wakeSleepers_2 rfl ?_
    refine E_bipush (v := 8) d_K_wakeSleepers_3 (by decide) ?_
    refine E_icmp_ge (tgt := 42) d_K_wakeSleepers_5 (by decide) (fun c => absurd c (nI_ge (b := 8) (by omega) (by decide))) (fun _ => ?_)
    refine E_aload_n d_K_wakeSleepers_8 rfl rfl ?_
    refine L_gr d_K_wakeSleepers_9 f_K_28 rfl (by decide) rfl rfl ?_
    refine E_iload_n d_K_wakeSleepers_12 rfl ?_
    refine L_ar2 (j := k) d_K_wakeSleepers_13 rfl rfl (by omega) (by decide) rfl ?_
    refine E_astore_n d_K_wakeSleepers_14 (by decide) rfl ?_
    refine E_aload_n d_K_wakeSleepers_15 rfl rfl ?_
    refine E_V0i d_K_wakeSleepers_16 w_K_177 (SH_T0 (by omega)) (by decide) (Nat.le_of_ble_eq_true rfl) (c_T_sleeps (by omega)) ?_
    rintro _ _ ⟨rfl, rfl⟩
    refine E_if_eq (tgt := 36) d_K_wakeSleepers_19 (by decide) (fun c19 => ?_) (fun c19 => ?_)
    · refine E_iinc (v := nI (k + 1)) d_K_wakeSleepers_36 rfl (nI_1 _) (by decide) ?_
      refine E_goto (tgt := 2) d_K_wakeSleepers_39 (by decide) ?_
      have r : wsk C (k + 1) = wsk C k := by rw [wsk, if_neg (fun q => absurd q.1 (by rw [b2i_eq0 c19]; decide))]
      rw [← r]
      exact ih (k + 1) _ (by omega)
    · refine E_aload_n d_K_wakeSleepers_22 rfl rfl ?_
      refine E_aload_n d_K_wakeSleepers_23 rfl rfl ?_
      refine E_V1i d_K_wakeSleepers_24 w_K_180 rfl (by decide) (Nat.le_of_ble_eq_true rfl) (c_K_obstacleOf (by omega) hdk) ?_
      rintro _ _ ⟨rfl, rfl⟩
      refine E_iconst (v := 1) d_K_wakeSleepers_27 (by decide) ?_
      refine E_icmp_ne (tgt := 36) d_K_wakeSleepers_28 (by decide) (fun c28 => ?_) (fun c28 => ?_)
      · refine E_iinc (v := nI (k + 1)) d_K_wakeSleepers_36 rfl (nI_1 _) (by decide) ?_
        refine E_goto (tgt := 2) d_K_wakeSleepers_39 (by decide) ?_
        have r : wsk C (k + 1) = wsk C k := by rw [wsk, if_neg (fun q => c28 q.2)]
        rw [← r]
        exact ih (k + 1) _ (by omega)
      · refine E_aload_n d_K_wakeSleepers_31 rfl rfl ?_
        refine E_aload_n d_K_wakeSleepers_32 rfl rfl ?_
        refine E_V1v d_K_wakeSleepers_33 w_K_79 rfl (by decide) (Nat.le_of_ble_eq_true rfl) (c_K_makeReady (by omega) hz3 hz2) ?_
        rintro _ rfl
        refine E_iinc (v := nI (k + 1)) d_K_wakeSleepers_36 rfl (nI_1 _) (by decide) ?_
        refine E_goto (tgt := 2) d_K_wakeSleepers_39 (by decide) ?_
        have r : wsk C (k + 1) = mrC (wsk C k) k z' := by rw [wsk, if_pos ⟨b2i_ne0 c19, c28⟩, hz3, nv_nI (by omega)]
        rw [← r]
        exact ih (k + 1) _ (by omega)
theorem c_K_wakeSleepers {G : iG} {F : Nat} {C M : Nat → Nat → Int32} (hd : ∀ i, i < 8 → dsE C i) {z : Nat} (hz : C 46 1 = nI z) (hz8 : z ≤ 8) : MV G m_K_wakeSleepers 3 [vR 0] (HW F C M) (fun h' => h' = HW F (wsk C 8) M) := by
  refine Mt.of' (Ls := [some (vR 0), none, none]) (by decide) (by simp [ct]) (Nat.le_of_ble_eq_true rfl) rfl ?_
  refine E_iconst (v := 0) d_K_wakeSleepers_0 (by decide) ?_
  refine E_istore_n d_K_wakeSleepers_1 (by decide) ?_
  exact lp_K_wakeSleepers (C := C) hd hz hz8 ⟨rfl, rfl⟩ 8 0 none rfl
theorem tl_K_makeStep {G : iG} {F : Nat} {C M : Nat → Nat → Int32} {Q : Option iV → iH → Prop} {i : Nat} (hi : i < 8) {v : Int32} {l3 : Option iV} {z : Nat} (hz : C 46 1 = nI z) (hz8 : z ≤ 8) (hd : ∀ i, i < 8 → dsE C i) (hQ : Q (some (vI v)) (HW F (ms4 C i) M)) : Ev G m_K_makeStep 5 0 0 115 [some (vR 0), some (vI v), some (vR (tk i)), l3] [] (HW F C M) Q := by
  obtain ⟨z', h1, h2⟩ := ptn_z (i := i) hz hz8
  have e : ms4 C i = wsk (ptn C i z) 8 := by rw [ms4, hz, nv_nI (by omega)]
  refine E_aload_n d_K_makeStep_115 rfl rfl ?_
  refine E_aload_n d_K_makeStep_116 rfl rfl ?_
  refine E_V1v d_K_makeStep_117 w_K_171 rfl (by decide) (Nat.le_of_ble_eq_true rfl) (c_K_passTurn hi hz hz8) ?_
  rintro _ rfl
  refine E_aload_n d_K_makeStep_120 rfl rfl ?_
  refine E_V0v d_K_makeStep_121 w_K_174 rfl (by decide) (Nat.le_of_ble_eq_true rfl) (c_K_wakeSleepers (fun i hi d hd6 => by rw [ptn_ne _ _ _ _ (by decide) (by decide) (by decide)]; exact hd i hi d hd6) h2 h1) ?_
  rintro _ rfl
  refine E_iload_n d_K_makeStep_124 rfl ?_
  exact E_ireturn d_K_makeStep_125 (Or.inl rfl) rfl (by rw [e] at hQ; exact hQ)
theorem md_K_makeStep {G : iG} {F : Nat} {C M : Nat → Nat → Int32} {Q : Option iV → iH → Prop} {i s u z n : Nat} {v o : Int32} (hi : i < 8) (h2 : o = -2 → dsE C i ∧ (obC C i = 1 → KW (bcC C i) i F s u z n)) (h0 : 0 ≤ o → F ≤ 40 ∧ C 14 i = nI s ∧ s ≤ 8 ∧ pgC C i s F ∧ C 46 1 = nI z ∧ z ≤ 8) (hz : ∃ z', z' ≤ 8 ∧ ms3 C i F s u z n o 46 1 = nI z') (hd : ∀ j, j < 8 → dsE (ms3 C i F s u z n o) j) (hQ : Q (some (vI v)) (HW F (ms4 (ms3 C i F s u z n o) i) M)) : Ev G m_K_makeStep 5 0 0 67 [some (vR 0), some (vI v), some (vR (tk i)), some (vI o)] [] (HW F C M) Q := by
  have hun := ms3.eq_1 C i F s u z n o
  obtain ⟨z', hz8, hz⟩ := hz
  by_cases ho : o = -2
  · obtain ⟨hdi, hk⟩ := h2 ho
    rw [if_pos ho] at hun
    by_cases hob : obC C i = 1
    · have hkw := hk hob
      rw [if_pos hob] at hun
      rw [hun] at hz hd hQ
      refine E_iload_n d_K_makeStep_67 rfl ?_
      refine E_bipush (v := -2) d_K_makeStep_68 (by decide) ?_
      refine E_icmp_ne (tgt := 101) d_K_makeStep_70 (by decide) (fun c => absurd ho c) (fun _ => ?_)
      refine E_aload_n d_K_makeStep_73 rfl rfl ?_
      refine E_aload_n d_K_makeStep_74 rfl rfl ?_
      refine E_V1i d_K_makeStep_75 w_K_161 rfl (by decide) (Nat.le_of_ble_eq_true rfl) (c_K_beginCall hi hdi) ?_
      rintro _ _ ⟨rfl, rfl⟩
      rw [if_pos hob]
      refine E_if_eq (tgt := 101) d_K_makeStep_78 (by decide) (fun c => absurd c (by decide)) (fun _ => ?_)
      refine E_aload_n d_K_makeStep_81 rfl rfl ?_
      refine E_bipush (v := 10) d_K_makeStep_82 (by decide) ?_
      refine E_aload_n d_K_makeStep_84 rfl rfl ?_
      refine E_aload_n d_K_makeStep_85 rfl rfl ?_
      refine E_aload_n d_K_makeStep_86 rfl rfl ?_
      refine E_bipush (v := 10) d_K_makeStep_87 (by decide) ?_
      refine E_V1i d_K_makeStep_89 w_K_110 (SH_T0 hi) (by decide) (Nat.le_of_ble_eq_true rfl) (c_T_getRegister hi) ?_
      rintro _ _ ⟨rfl, rfl⟩
      refine E_tp (y := bcC C i 20 (32 * i + 10)) (gR_nI _ i (k := 10) (by decide)) ?_
      refine E_V2i d_K_makeStep_92 w_K_165 rfl (by decide) (Nat.le_of_ble_eq_true rfl) (c_K_answerOf hkw) ?_
      rintro _ _ ⟨rfl, rfl⟩
      refine E_V2v d_K_makeStep_95 w_K_72 (SH_T0 hi) (by decide) (Nat.le_of_ble_eq_true rfl) (c_T_setRegister hi (k := 10) (by decide)) ?_
      rintro _ rfl
      refine E_goto (tgt := 115) d_K_makeStep_98 (by decide) ?_
      exact tl_K_makeStep hi hz hz8 hd hQ
    · rw [if_neg hob] at hun
      rw [hun] at hz hd hQ
      refine E_iload_n d_K_makeStep_67 rfl ?_
      refine E_bipush (v := -2) d_K_makeStep_68 (by decide) ?_
      refine E_icmp_ne (tgt := 101) d_K_makeStep_70 (by decide) (fun c => absurd ho c) (fun _ => ?_)
      refine E_aload_n d_K_makeStep_73 rfl rfl ?_
      refine E_aload_n d_K_makeStep_74 rfl rfl ?_
      refine E_V1i d_K_makeStep_75 w_K_161 rfl (by decide) (Nat.le_of_ble_eq_true rfl) (c_K_beginCall hi hdi) ?_
      rintro _ _ ⟨rfl, rfl⟩
      rw [if_neg hob]
      refine E_if_eq (tgt := 101) d_K_makeStep_78 (by decide) (fun _ => ?_) (fun c => absurd (by decide) c)
      refine E_iload_n d_K_makeStep_101 rfl ?_
      refine E_if_lt (tgt := 115) d_K_makeStep_102 (by decide) (fun _ => ?_) (fun c => absurd (by rw [ho]; decide) c)
      exact tl_K_makeStep hi hz hz8 hd hQ
  · rw [if_neg ho] at hun
    by_cases hlt : o < 0
    · rw [if_pos hlt] at hun
      rw [hun] at hz hd hQ
      refine E_iload_n d_K_makeStep_67 rfl ?_
      refine E_bipush (v := -2) d_K_makeStep_68 (by decide) ?_
      refine E_icmp_ne (tgt := 101) d_K_makeStep_70 (by decide) (fun _ => ?_) (fun c => absurd c ho)
      refine E_iload_n d_K_makeStep_101 rfl ?_
      refine E_if_lt (tgt := 115) d_K_makeStep_102 (by decide) (fun _ => ?_) (fun c => absurd hlt c)
      exact tl_K_makeStep hi hz hz8 hd hQ
    · rw [if_neg hlt] at hun
      obtain ⟨hF, hs, hs8, hpg, hz1, hz18⟩ := h0 (Int32.not_lt.mp hlt)
      rw [hun] at hz hd hQ
      refine E_iload_n d_K_makeStep_67 rfl ?_
      refine E_bipush (v := -2) d_K_makeStep_68 (by decide) ?_
      refine E_icmp_ne (tgt := 101) d_K_makeStep_70 (by decide) (fun _ => ?_) (fun c => absurd c ho)
      refine E_iload_n d_K_makeStep_101 rfl ?_
      refine E_if_lt (tgt := 115) d_K_makeStep_102 (by decide) (fun c => absurd c hlt) (fun _ => ?_)
      refine E_aload_n d_K_makeStep_105 rfl rfl ?_
      refine E_aload_n d_K_makeStep_106 rfl rfl ?_
      refine E_sipush (v := 128) d_K_makeStep_107 (by decide) ?_
      refine E_iload_n d_K_makeStep_110 rfl ?_
      refine E_iadd d_K_makeStep_111 ?_
      refine E_V2v d_K_makeStep_112 w_K_168 rfl (by decide) (Nat.le_of_ble_eq_true rfl) (c_K_end hi hF hs hs8 hpg hz1 hz18) ?_
      rintro _ rfl
      exact tl_K_makeStep hi hz hz8 hd hQ
theorem hd_K_makeStep {G : iG} {F : Nat} {C M : Nat → Nat → Int32} {Q : Option iV → iH → Prop} {z : Nat} (hz : C 46 1 = nI z) (hz8 : z ≤ 8) (hK : Ev G m_K_makeStep 5 0 0 26 [some (vR 0), none, none, none] [] (HW F (ms1 C z) M) Q) : Ev G m_K_makeStep 5 0 0 0 [some (vR 0), none, none, none] [] (HW F C M) Q := by
  refine E_aload_n d_K_makeStep_0 rfl rfl ?_
  refine L_gi d_K_makeStep_1 f_K_91 rfl (by decide) rfl (fr_K 10 (by decide)) ?_
  refine E_if_ne (tgt := 26) d_K_makeStep_4 (by decide) (fun c4 => ?_) (fun c4 => ?_)
  · rw [ms1, if_neg c4] at hK
    exact hK
  · refine E_aload_n d_K_makeStep_7 rfl rfl ?_
    refine E_aload_n d_K_makeStep_8 rfl rfl ?_
    refine L_gr d_K_makeStep_9 f_K_43 rfl (by decide) rfl rfl ?_
    refine E_V0i d_K_makeStep_12 w_K_146 rfl (by decide) (Nat.le_of_ble_eq_true rfl) (c_ROW_takeFirst hz hz8) ?_
    rintro _ _ ⟨rfl, rfl⟩
    refine L_pi d_K_makeStep_15 f_K_91 rfl (by decide) (Or.inl rfl) rfl (fu_K 10 _ (by decide)) ?_
    refine E_aload_n d_K_makeStep_18 rfl rfl ?_
    refine E_aload_n d_K_makeStep_19 rfl rfl ?_
    refine L_gi d_K_makeStep_20 f_K_22 rfl (by decide) rfl (fr_K 4 (by decide)) ?_
    refine E_tp (y := C 0 4) ((by simp [up2] : up2 (drC C z (atC C z 0)) 0 10 (atC C z 0) 0 4 = drC C z (atC C z 0) 0 4).trans (drC_ne _ _ _ _ (by decide) (by decide))) ?_
    refine L_pi d_K_makeStep_23 f_K_149 rfl (by decide) (Or.inl rfl) rfl (fu_K 11 _ (by decide)) ?_
    rw [ms1, if_pos c4] at hK
    exact hK
theorem c_makeStep_none {G : iG} {F : Nat} {C M : Nat → Nat → Int32} {z : Nat} (hz : C 46 1 = nI z) (hz8 : z ≤ 8) (hb : ¬ isbC (ms1 C z) (ms1 C z 0 10) = true) : MI G m_K_makeStep 5 [vR 0] (HW F C M) (fun x h' => x = 0 ∧ h' = HW F (ms1 C z) M) := by
  refine Mt.of' (Ls := [some (vR 0), none, none, none]) (by decide) (by simp [ct]) (Nat.le_of_ble_eq_true rfl) rfl ?_
  refine hd_K_makeStep hz hz8 ?_
  generalize ms1 C z = C1 at hb ⊢
  refine E_aload_n d_K_makeStep_26 rfl rfl ?_
  refine L_gi d_K_makeStep_27 f_K_91 rfl (by decide) rfl (fr_K 10 (by decide)) ?_
  refine E_istore_n d_K_makeStep_30 (by decide) ?_
  refine E_aload_n d_K_makeStep_31 rfl rfl ?_
  refine E_iload_n d_K_makeStep_32 rfl ?_
  refine E_V1q d_K_makeStep_33 w_K_94 rfl (by decide) (Nat.le_of_ble_eq_true rfl) (c_find_none hb) ?_
  rintro _ _ ⟨rfl, rfl⟩
  refine E_astore_n d_K_makeStep_36 (by decide) rfl ?_
  refine E_aload_n d_K_makeStep_37 rfl rfl ?_
  refine E_ifnonnull d_K_makeStep_38 (tgt := 43) (by decide) (fun _ c => by cases c) (fun _ => ?_)
  refine E_iconst (v := 0) d_K_makeStep_41 (by decide) ?_
  exact E_ireturn d_K_makeStep_42 (Or.inl rfl) rfl ⟨_, rfl, rfl, rfl⟩
theorem c_makeStep_go {G : iG} {F : Nat} {C M : Nat → Nat → Int32} {z : Nat} (hz : C 46 1 = nI z) (hz8 : z ≤ 8) {i s u z1 n : Nat} (hi : i < 8) (ht : ms1 C z 0 10 = nI (i + 1)) (h15 : ms1 C z 15 i ≠ 0) (hF : F ≤ 40) (hs : ms2 (ms1 C z) 14 i = nI s) (hs8 : s ≤ 8) (hpg : pgC (ms2 (ms1 C z)) i s F) (h2 : (exC (ms2 (ms1 C z)) i s).1 = -2 → dsE (exC (ms2 (ms1 C z)) i s).2 i ∧ (obC (exC (ms2 (ms1 C z)) i s).2 i = 1 → KW (bcC (exC (ms2 (ms1 C z)) i s).2 i) i F s u z1 n)) (h0 : 0 ≤ (exC (ms2 (ms1 C z)) i s).1 → F ≤ 40 ∧ (exC (ms2 (ms1 C z)) i s).2 14 i = nI s ∧ s ≤ 8 ∧ pgC (exC (ms2 (ms1 C z)) i s).2 i s F ∧ (exC (ms2 (ms1 C z)) i s).2 46 1 = nI z1 ∧ z1 ≤ 8) (hz3 : ∃ z', z' ≤ 8 ∧ ms3 (exC (ms2 (ms1 C z)) i s).2 i F s u z1 n (exC (ms2 (ms1 C z)) i s).1 46 1 = nI z') (hd : ∀ j, j < 8 → dsE (ms3 (exC (ms2 (ms1 C z)) i s).2 i F s u z1 n (exC (ms2 (ms1 C z)) i s).1) j) : MI G m_K_makeStep 5 [vR 0] (HW F C M) (fun x h' => x = nI (i + 1) ∧ h' = HW F (ms4 (ms3 (exC (ms2 (ms1 C z)) i s).2 i F s u z1 n (exC (ms2 (ms1 C z)) i s).1) i) M) := by
  refine Mt.of' (Ls := [some (vR 0), none, none, none]) (by decide) (by simp [ct]) (Nat.le_of_ble_eq_true rfl) rfl ?_
  refine hd_K_makeStep hz hz8 ?_
  generalize ms1 C z = C1 at ht h15 hs hpg h2 h0 hz3 hd ⊢
  refine E_aload_n d_K_makeStep_26 rfl rfl ?_
  refine L_gi d_K_makeStep_27 f_K_91 rfl (by decide) rfl (fr_K 10 (by decide)) ?_
  refine E_tp (y := nI (i + 1)) ht ?_
  refine E_istore_n d_K_makeStep_30 (by decide) ?_
  refine E_aload_n d_K_makeStep_31 rfl rfl ?_
  refine E_iload_n d_K_makeStep_32 rfl ?_
  refine E_V1q d_K_makeStep_33 w_K_94 rfl (by decide) (Nat.le_of_ble_eq_true rfl) (c_find_some hi h15) ?_
  rintro _ _ ⟨rfl, rfl⟩
  refine E_astore_n d_K_makeStep_36 (by decide) rfl ?_
  refine E_aload_n d_K_makeStep_37 rfl rfl ?_
  refine E_ifnonnull d_K_makeStep_38 (tgt := 43) (by decide) (fun _ _ => ?_) (fun c => by cases c)
  refine E_aload_n d_K_makeStep_43 rfl rfl ?_
  refine E_iconst (v := 0) d_K_makeStep_44 (by decide) ?_
  refine L_pi d_K_makeStep_45 f_K_152 rfl (by decide) (Or.inr ⟨rfl, (by decide)⟩) rfl (fu_K 12 _ (by decide)) ?_
  refine E_aload_n d_K_makeStep_48 rfl rfl ?_
  refine E_dup d_K_makeStep_49 rfl ?_
  refine L_gi d_K_makeStep_50 f_K_149 rfl (by decide) rfl (fr_K 11 (by decide)) ?_
  refine E_tp (y := C1 0 11) (by simp [up2]) ?_
  refine E_iconst (v := 1) d_K_makeStep_53 (by decide) ?_
  refine E_isub d_K_makeStep_54 ?_
  refine L_pi d_K_makeStep_55 f_K_149 rfl (by decide) (Or.inl rfl) rfl (fu_K 11 _ (by decide)) ?_
  change Ev G m_K_makeStep _ 0 0 _ _ _ (HW F (ms2 C1) M) _
  refine E_aload_n d_K_makeStep_58 rfl rfl ?_
  refine L_gr d_K_makeStep_59 f_K_18 rfl (by decide) rfl rfl ?_
  refine E_aload_n d_K_makeStep_62 rfl rfl ?_
  refine E_S2i d_K_makeStep_63 w_K_155 (by decide) (Nat.le_of_ble_eq_true rfl) (c_X_execute hi hF hs hs8 hpg) ?_
  rintro _ _ ⟨rfl, rfl⟩
  refine E_istore_n d_K_makeStep_66 (by decide) ?_
  exact md_K_makeStep hi h2 h0 hz3 hd ⟨_, rfl, rfl, rfl⟩
theorem c_K_boot {G : iG} {F : Nat} {C M : Nat → Nat → Int32} {n u : Nat} (hn : C 0 7 = nI n) (hn64 : n ≤ 64) (hF : F ≤ 40) (hu : C 1 2 = nI u) (hu40 : u ≤ 40) (hb : C 0 9 = 0 ∨ C 0 9 = 1) (h0 : C 0 9 = 0 → (n + 15) / 16 + 1 ≤ u → C 14 0 = 0 ∧ C 46 1 = 0 ∧ gvC 0 ((n + 15) / 16 + 1) F (up2 C 0 9 1) 0 0 0 14 0 = nI ((n + 15) / 16 + 1) ∧ pgC (gvC 0 ((n + 15) / 16 + 1) F (up2 C 0 9 1) 0 0 0) 0 ((n + 15) / 16 + 1) F) : MI G m_K_boot 2 [vR 0] (HW F C M) (fun x h' => (x = if C 0 9 = 0 then (if n = 0 ∨ u < (n + 15) / 16 + 1 then 2 else 0) else 1) ∧ h' = HW F (if C 0 9 = 0 ∧ ¬ (n = 0 ∨ u < (n + 15) / 16 + 1) then mrC (up2 (sR (cpr (gvC 0 ((n + 15) / 16 + 1) F (up2 C 0 9 1) 0 0 0) 0 n) 0 2 (nI (64 * ((n + 15) / 16 + 1)))) 22 1 0) 0 0 else C) M) := by
  refine Mt.of' (Ls := [some (vR 0), none, none]) (by decide) (by simp [ct]) (Nat.le_of_ble_eq_true rfl) rfl ?_
  obtain ⟨nd, hnd⟩ : ∃ nd, nd = (n + 15) / 16 + 1 := ⟨_, rfl⟩
  rw [← hnd] at h0 ⊢
  refine E_aload_n d_K_boot_0 rfl rfl ?_
  refine L_gi d_K_boot_1 f_K_54 rfl (by decide) rfl (fr_K 9 (by decide)) ?_
  refine E_if_eq (tgt := 9) d_K_boot_4 (by decide) (fun c4 => ?_) (fun c4 => ?_)
  · refine E_aload_n d_K_boot_9 rfl rfl ?_
    refine L_gi d_K_boot_10 f_K_58 rfl (by decide) rfl (fr_K 7 (by decide)) ?_
    refine E_tp (y := nI (n)) hn ?_
    refine E_bipush (v := 16) d_K_boot_13 (by decide) ?_
    refine E_iadd d_K_boot_15 ?_
    refine E_tp (y := nI (n + 16)) (nI_add n 16) ?_
    refine E_iconst (v := 1) d_K_boot_16 (by decide) ?_
    refine E_isub d_K_boot_17 ?_
    refine E_tp (y := nI (n + 15)) ((pk_sub (a := n + 16) (b := 1) (by omega)).trans (by rw [show n + 16 - 1 = n + 15 by omega])) ?_
    refine E_bipush (v := 16) d_K_boot_18 (by decide) ?_
    refine E_idiv d_K_boot_20 (by decide) ?_
    refine E_tp (y := nI ((n + 15) / 16)) (pk_div (d := 16) (by omega) (by decide) (by decide)) ?_
    refine E_iconst (v := 1) d_K_boot_21 (by decide) ?_
    refine E_iadd d_K_boot_22 ?_
    refine E_tp (y := nI ((n + 15) / 16 + 1)) (nI_add ((n + 15) / 16) 1) ?_
    rw [← hnd]
    refine E_istore_n d_K_boot_23 (by decide) ?_
    refine E_aload_n d_K_boot_24 rfl rfl ?_
    refine L_gi d_K_boot_25 f_K_58 rfl (by decide) rfl (fr_K 7 (by decide)) ?_
    refine E_tp (y := nI (n)) hn ?_
    refine E_if_eq (tgt := 42) d_K_boot_28 (by decide) (fun c28 => ?_) (fun c28 => ?_)
    · have c : n = 0 ∨ u < nd := Or.inl ((nI_eq (b := 0) (by omega) (by decide)).mp c28)
      refine E_iconst (v := 2) d_K_boot_42 (by decide) ?_
      exact E_ireturn d_K_boot_43 (Or.inl rfl) rfl ⟨_, rfl, by rw [if_pos c4, if_pos c], by rw [if_neg (fun q => q.2 c)]⟩
    · have c28n : n ≠ 0 := fun q => c28 (by rw [q]; rfl)
      refine E_aload_n d_K_boot_31 rfl rfl ?_
      refine L_gr d_K_boot_32 f_K_18 rfl (by decide) rfl rfl ?_
      refine L_gi d_K_boot_35 f_K_61 rfl (by decide) rfl (fr_K 2 (by decide)) ?_
      refine E_tp (y := nI (u)) hu ?_
      refine E_iload_n d_K_boot_38 rfl ?_
      refine E_icmp_ge (tgt := 44) d_K_boot_39 (by decide) (fun c39 => ?_) (fun c39 => ?_)
      · have c39n := (nI_leI (a := nd) (b := u) (by omega) (by omega)).mp c39
        have c : ¬ (n = 0 ∨ u < nd) := by omega
        obtain ⟨h14, h46, g1, g2⟩ := h0 c4 c39n
        refine E_aload_n d_K_boot_44 rfl rfl ?_
        refine E_iconst (v := 1) d_K_boot_45 (by decide) ?_
        refine L_pi d_K_boot_46 f_K_54 rfl (by decide) (Or.inr ⟨rfl, (by decide)⟩) rfl (fu_K 9 _ (by decide)) ?_
        refine E_aload_n d_K_boot_49 rfl rfl ?_
        refine L_gr d_K_boot_50 f_K_28 rfl (by decide) rfl rfl ?_
        refine E_iconst (v := 0) d_K_boot_53 (by decide) ?_
        refine L_ar2 (j := 0) d_K_boot_54 rfl rfl (by omega) (by decide) rfl ?_
        refine E_astore_n d_K_boot_55 (by decide) rfl ?_
        refine E_aload_n d_K_boot_56 rfl rfl ?_
        refine L_gr d_K_boot_57 f_K_18 rfl (by decide) rfl rfl ?_
        refine E_aload_n d_K_boot_60 rfl rfl ?_
        refine E_iload_n d_K_boot_61 rfl ?_
        refine E_V2v d_K_boot_62 w_K_64 rfl (by decide) (Nat.le_of_ble_eq_true rfl) (c_MEM_give (i := 0) (s := 0) (by decide) (by omega) hF ((up2_ne2 _ _ _ _ (by decide)).trans h14) (by decide)) ?_
        rintro _ rfl
        refine E_aload_n d_K_boot_65 rfl rfl ?_
        refine L_gr d_K_boot_66 f_K_18 rfl (by decide) rfl rfl ?_
        refine E_aload_n d_K_boot_69 rfl rfl ?_
        refine E_aload_n d_K_boot_70 rfl rfl ?_
        refine L_gr d_K_boot_71 f_K_47 rfl (by decide) rfl rfl ?_
        refine E_aload_n d_K_boot_74 rfl rfl ?_
        refine L_gi d_K_boot_75 f_K_58 rfl (by decide) rfl (fr_K 7 (by decide)) ?_
        refine E_tp (y := nI (n)) ((gvC_ne 0 nd _ (by decide) (by decide) (by decide) (by decide) (by decide) F (up2 C 0 9 1) 0 0 0).trans ((by simp [up2] : up2 C 0 9 1 0 7 = C 0 7).trans hn)) ?_
        refine E_V3v d_K_boot_78 w_K_68 rfl (by decide) (Nat.le_of_ble_eq_true rfl) (c_MEM_copyProgram (i := 0) (by decide) hF g1 (by omega) g2 hn64 (by omega)) ?_
        rintro _ rfl
        refine E_aload_n d_K_boot_81 rfl rfl ?_
        refine E_iconst (v := 2) d_K_boot_82 (by decide) ?_
        refine E_bipush (v := 64) d_K_boot_83 (by decide) ?_
        refine E_iload_n d_K_boot_85 rfl ?_
        refine E_imul d_K_boot_86 ?_
        refine E_tp (y := nI (64 * nd)) (pk_mul 64 nd) ?_
        refine E_V2v d_K_boot_87 w_K_72 (SH_T0 (by decide)) (by decide) (Nat.le_of_ble_eq_true rfl) (c_T_setRegister (i := 0) (by decide) (k := 2) (by decide)) ?_
        rintro _ rfl
        refine E_aload_n d_K_boot_90 rfl rfl ?_
        refine L_gr d_K_boot_91 f_K_76 (SH_T0 (by decide)) (by decide) rfl (RH_T 3 (by decide)) ?_
        refine E_iconst (v := 1) d_K_boot_94 (by decide) ?_
        refine E_iconst (v := 0) d_K_boot_95 (by decide) ?_
        refine L_st (j := 1) d_K_boot_96 (SH_T3 (by decide)) rfl (by omega) (by decide) (fu_D _ (by decide) (by omega)) ?_
        refine E_aload_n d_K_boot_97 rfl rfl ?_
        refine E_aload_n d_K_boot_98 rfl rfl ?_
        refine E_V1v d_K_boot_99 w_K_79 rfl (by decide) (Nat.le_of_ble_eq_true rfl) (c_K_makeReady (i := 0) (z := 0) (by decide) ((up2_ne2 _ _ _ _ (by decide)).trans ((sR_ne _ _ _ _ _ (by decide)).trans ((cpr_ne _ 0 _ (by decide) n).trans ((gvC_ne 0 nd _ (by decide) (by decide) (by decide) (by decide) (by decide) F (up2 C 0 9 1) 0 0 0).trans ((up2_ne2 _ _ _ _ (by decide)).trans h46))))) (by decide)) ?_
        rintro _ rfl
        refine E_iconst (v := 0) d_K_boot_102 (by decide) ?_
        exact E_ireturn d_K_boot_103 (Or.inl rfl) rfl ⟨_, rfl, by rw [if_pos c4, if_neg c], by rw [if_pos ⟨c4, c⟩]⟩
      · have c : n = 0 ∨ u < nd := Or.inr (by have := (not_congr (nI_leI (a := nd) (b := u) (by omega) (by omega))).mp c39; omega)
        refine E_iconst (v := 2) d_K_boot_42 (by decide) ?_
        exact E_ireturn d_K_boot_43 (Or.inl rfl) rfl ⟨_, rfl, by rw [if_pos c4, if_pos c], by rw [if_neg (fun q => q.2 c)]⟩
  · refine E_iconst (v := 1) d_K_boot_7 (by decide) ?_
    exact E_ireturn d_K_boot_8 (Or.inl rfl) rfl ⟨_, rfl, by rw [if_neg c4], by rw [if_neg (fun q => c4 q.1)]⟩

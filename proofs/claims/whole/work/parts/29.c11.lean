/-! ===== the reference's call, mayGo ===== -/
theorem c_send {G : iG} {F : Nat} {C M : Nat → Nat → Int32} {p : Nat} (hp : M 0 24 = nI p) (hp8 : p ≤ 8) {x : Int32} (hx : edr x) (hc : cts M) (hsh : ∃ sh, sh ≤ 200 ∧ M 0 22 = nI sh) : MV G m_MOD_send 1 [vR 50, vI x] (HW F C M) (fun h' => h' = HW F C (sndM M p x)) := by
  obtain ⟨sh, hs2, hsh⟩ := hsh
  obtain ⟨d0, e0, f0⟩ := hc 0 (by decide)
  obtain ⟨d1, e1, f1⟩ := hc 1 (by decide)
  obtain ⟨d2, e2, f2⟩ := hc 2 (by decide)
  obtain ⟨d3, e3, f3⟩ := hc 3 (by decide)
  have hx : x = -1 ∨ x = 0 ∨ x = 1 ∨ x = 2 ∨ x = 3 ∨ x = 4 ∨ x = 5 ∨ x = 6 ∨ x = 7 ∨ x = 8 := by
    rcases hx with h | ⟨e, he, rfl⟩
    · exact Or.inl h
    · rcases (show e = 0 ∨ e = 1 ∨ e = 2 ∨ e = 3 ∨ e = 4 ∨ e = 5 ∨ e = 6 ∨ e = 7 ∨ e = 8 by omega) with rfl | rfl | rfl | rfl | rfl | rfl | rfl | rfl | rfl <;> simp [nI]
  rcases hx with rfl | rfl | rfl | rfl | rfl | rfl | rfl | rfl | rfl | rfl
  · rw [sndM, if_neg (by decide), if_neg (by decide), if_neg (by decide), if_neg (by decide), if_neg (by decide)]
    exact c_send_m1 hp hp8
  · rw [sndM, if_pos rfl, hsh, nv_nI (by omega)]
    exact c_send_con hp hp8 hsh hs2
  · rw [sndM, if_neg (by decide), if_neg (by decide), if_neg (by decide), if_neg (by decide), if_neg (by decide)]
    exact c_send_1 hp hp8
  · rw [sndM, if_neg (by decide), if_pos rfl, f0, nv_nI (by omega)]
    exact c_send_2 hp hp8 f0 e0
  · rw [sndM, if_neg (by decide), if_neg (by decide), if_neg (by decide), if_neg (by decide), if_neg (by decide)]
    exact c_send_3 hp hp8
  · rw [sndM, if_neg (by decide), if_neg (by decide), if_pos rfl, f1, nv_nI (by omega)]
    exact c_send_4 hp hp8 f1 e1
  · rw [sndM, if_neg (by decide), if_neg (by decide), if_neg (by decide), if_neg (by decide), if_neg (by decide)]
    exact c_send_5 hp hp8
  · rw [sndM, if_neg (by decide), if_neg (by decide), if_neg (by decide), if_pos rfl, f2, nv_nI (by omega)]
    exact c_send_6 hp hp8 f2 e2
  · rw [sndM, if_neg (by decide), if_neg (by decide), if_neg (by decide), if_neg (by decide), if_neg (by decide)]
    exact c_send_7 hp hp8
  · rw [sndM, if_neg (by decide), if_neg (by decide), if_neg (by decide), if_neg (by decide), if_pos rfl, f3, nv_nI (by omega)]
    exact c_send_8 hp hp8 f3 e3
theorem c_take {G : iG} {F : Nat} {C M : Nat → Nat → Int32} {p : Nat} (hp : M 0 24 = nI p) (hp8 : p ≤ 8) {x : Int32} (hx : edr x) (hc : cts M) (hsh : ∃ sh, sh ≤ 200 ∧ M 0 22 = nI sh) : MV G m_MOD_take 1 [vR 50, vI x] (HW F C M) (fun h' => h' = HW F C (takM M p x)) := by
  obtain ⟨sh, hs2, hsh⟩ := hsh
  obtain ⟨d0, e0, f0⟩ := hc 0 (by decide)
  obtain ⟨d1, e1, f1⟩ := hc 1 (by decide)
  obtain ⟨d2, e2, f2⟩ := hc 2 (by decide)
  obtain ⟨d3, e3, f3⟩ := hc 3 (by decide)
  have hx : x = -1 ∨ x = 0 ∨ x = 1 ∨ x = 2 ∨ x = 3 ∨ x = 4 ∨ x = 5 ∨ x = 6 ∨ x = 7 ∨ x = 8 := by
    rcases hx with h | ⟨e, he, rfl⟩
    · exact Or.inl h
    · rcases (show e = 0 ∨ e = 1 ∨ e = 2 ∨ e = 3 ∨ e = 4 ∨ e = 5 ∨ e = 6 ∨ e = 7 ∨ e = 8 by omega) with rfl | rfl | rfl | rfl | rfl | rfl | rfl | rfl | rfl <;> simp [nI]
  rcases hx with rfl | rfl | rfl | rfl | rfl | rfl | rfl | rfl | rfl | rfl
  · rw [takM, if_neg (by decide), if_neg (by decide), if_neg (by decide), if_neg (by decide)]
    exact c_take_m1 hp hp8
  · rw [takM, if_neg (by decide), if_neg (by decide), if_neg (by decide), if_neg (by decide)]
    exact c_take_0 hp hp8
  · rw [takM, if_pos rfl, f0, nv_nI (by omega)]
    exact c_take_1 hp hp8 f0 e0
  · rw [takM, if_neg (by decide), if_neg (by decide), if_neg (by decide), if_neg (by decide)]
    exact c_take_2 hp hp8
  · rw [takM, if_neg (by decide), if_pos rfl, f1, nv_nI (by omega)]
    exact c_take_3 hp hp8 f1 e1
  · rw [takM, if_neg (by decide), if_neg (by decide), if_neg (by decide), if_neg (by decide)]
    exact c_take_4 hp hp8
  · rw [takM, if_neg (by decide), if_neg (by decide), if_pos rfl, f2, nv_nI (by omega)]
    exact c_take_5 hp hp8 f2 e2
  · rw [takM, if_neg (by decide), if_neg (by decide), if_neg (by decide), if_neg (by decide)]
    exact c_take_6 hp hp8
  · rw [takM, if_neg (by decide), if_neg (by decide), if_neg (by decide), if_pos rfl, f3, nv_nI (by omega)]
    exact c_take_7 hp hp8 f3 e3
  · rw [takM, if_neg (by decide), if_neg (by decide), if_neg (by decide), if_neg (by decide)]
    exact c_take_8 hp hp8
theorem c_MOD_call {G : iG} {F : Nat} {C M : Nat → Nat → Int32} {p m s fr : Nat} (hw : CW M p m s fr) : MV G m_MOD_call 4 [vR 50] (HW F C M) (fun h' => h' = HW F C (calM M p m s fr)) := by
  refine Mt.of' (Ls := [some (vR 50), none, none]) (by decide) (by simp [ct]) (Nat.le_of_ble_eq_true rfl) rfl ?_
  obtain ⟨hp, hp1, hp8, hm, hm8, hs, hs8, hpg, hf, hfr, h4, hed, hct, hsh⟩ := hw
  refine E_aload_n d_MOD_call_0 rfl rfl ?_
  refine E_bipush (v := 10) d_MOD_call_1 (by decide) ?_
  refine E_V1i d_MOD_call_3 w_MOD_113 rfl (by decide) (Nat.le_of_ble_eq_true rfl) (c_MOD_get hp hp8 (by decide)) ?_
  rintro _ _ ⟨rfl, rfl⟩
  refine E_istore_n d_MOD_call_6 (by decide) ?_
  refine E_aload_n d_MOD_call_7 rfl rfl ?_
  refine E_bipush (v := 17) d_MOD_call_8 (by decide) ?_
  refine E_V1i d_MOD_call_10 w_MOD_113 rfl (by decide) (Nat.le_of_ble_eq_true rfl) (c_MOD_get hp hp8 (by decide)) ?_
  rintro _ _ ⟨rfl, rfl⟩
  refine E_istore_n d_MOD_call_13 (by decide) ?_
  refine E_iload_n d_MOD_call_14 rfl ?_
  refine E_if_ne (tgt := 26) d_MOD_call_15 (by decide) (fun c15 => ?_) (fun c15 => ?_)
  · refine E_iload_n d_MOD_call_26 rfl ?_
    refine E_iconst (v := 1) d_MOD_call_27 (by decide) ?_
    refine E_icmp_ne (tgt := 39) d_MOD_call_28 (by decide) (fun c28 => ?_) (fun c28 => ?_)
    · refine E_iload_n d_MOD_call_39 rfl ?_
      refine E_iconst (v := 2) d_MOD_call_40 (by decide) ?_
      refine E_icmp_ne (tgt := 57) d_MOD_call_41 (by decide) (fun c41 => ?_) (fun c41 => ?_)
      · refine E_iload_n d_MOD_call_57 rfl ?_
        refine E_iconst (v := 3) d_MOD_call_58 (by decide) ?_
        refine E_icmp_ne (tgt := 75) d_MOD_call_59 (by decide) (fun c59 => ?_) (fun c59 => ?_)
        · refine E_iload_n d_MOD_call_75 rfl ?_
          refine E_iconst (v := 4) d_MOD_call_76 (by decide) ?_
          refine E_icmp_ne (tgt := 87) d_MOD_call_77 (by decide) (fun c77 => ?_) (fun c77 => ?_)
          · refine E_iload_n d_MOD_call_87 rfl ?_
            refine E_iconst (v := 5) d_MOD_call_88 (by decide) ?_
            refine E_icmp_ne (tgt := 106) d_MOD_call_89 (by decide) (fun c89 => ?_) (fun c89 => ?_)
            · refine E_iload_n d_MOD_call_106 rfl ?_
              refine E_bipush (v := 6) d_MOD_call_107 (by decide) ?_
              refine E_icmp_ne (tgt := 128) d_MOD_call_109 (by decide) (fun c109 => ?_) (fun c109 => ?_)
              · refine E_iload_n d_MOD_call_128 rfl ?_
                refine E_bipush (v := 7) d_MOD_call_129 (by decide) ?_
                refine E_icmp_ne (tgt := 150) d_MOD_call_131 (by decide) (fun c131 => ?_) (fun c131 => ?_)
                · refine E_iload_n d_MOD_call_150 rfl ?_
                  refine E_bipush (v := 8) d_MOD_call_151 (by decide) ?_
                  refine E_icmp_ne (tgt := 163) d_MOD_call_153 (by decide) (fun c153 => ?_) (fun c153 => ?_)
                  · refine E_iload_n d_MOD_call_163 rfl ?_
                    refine E_bipush (v := 9) d_MOD_call_164 (by decide) ?_
                    refine E_icmp_ne (tgt := 183) d_MOD_call_166 (by decide) (fun c166 => ?_) (fun c166 => ?_)
                    · refine E_iload_n d_MOD_call_183 rfl ?_
                      refine E_bipush (v := 10) d_MOD_call_184 (by decide) ?_
                      refine E_icmp_ne (tgt := 211) d_MOD_call_186 (by decide) (fun c186 => ?_) (fun c186 => ?_)
                      · refine E_iload_n d_MOD_call_211 rfl ?_
                        refine E_bipush (v := 11) d_MOD_call_212 (by decide) ?_
                        refine E_icmp_ne (tgt := 225) d_MOD_call_214 (by decide) (fun c214 => ?_) (fun c214 => ?_)
                        · refine E_aload_n d_MOD_call_225 rfl rfl ?_
                          refine E_bipush (v := 10) d_MOD_call_226 (by decide) ?_
                          refine E_iconst (v := -1) d_MOD_call_228 (by decide) ?_
                          refine E_V2v d_MOD_call_229 w_MOD_135 rfl (by decide) (Nat.le_of_ble_eq_true rfl) (c_MOD_set hp hp8 (by decide)) ?_
                          rintro _ rfl
                          exact E_return d_MOD_call_232 rfl rfl ⟨rfl, by rw [calM, if_neg c15, if_neg c28, if_neg c41, if_neg c59, if_neg c77, if_neg c89, if_neg c109, if_neg c131, if_neg c153, if_neg c166, if_neg c186, if_neg c214]; try rfl⟩
                        · refine E_aload_n d_MOD_call_217 rfl rfl ?_
                          refine E_iload_n d_MOD_call_218 rfl ?_
                          refine E_V1v d_MOD_call_219 w_MOD_209 rfl (by decide) (Nat.le_of_ble_eq_true rfl) (c_MOD_kill hp hp8 hm (by omega)) ?_
                          rintro _ rfl
                          refine E_goto (tgt := 232) d_MOD_call_222 (by decide) ?_
                          exact E_return d_MOD_call_232 rfl rfl ⟨rfl, by rw [calM, if_neg c15, if_neg c28, if_neg c41, if_neg c59, if_neg c77, if_neg c89, if_neg c109, if_neg c131, if_neg c153, if_neg c166, if_neg c186, if_pos c214]; try rfl⟩
                      · refine E_aload_n d_MOD_call_189 rfl rfl ?_
                        refine E_bipush (v := 10) d_MOD_call_190 (by decide) ?_
                        refine E_aload_n d_MOD_call_192 rfl rfl ?_
                        refine E_aload_n d_MOD_call_193 rfl rfl ?_
                        refine E_aload_n d_MOD_call_194 rfl rfl ?_
                        refine L_gi d_MOD_call_195 f_MOD_97 rfl (by decide) rfl (fr_M 0 24) ?_
                        refine E_tp (y := nI (p)) hp ?_
                        refine E_iload_n d_MOD_call_198 rfl ?_
                        refine E_V2i d_MOD_call_199 w_MOD_191 rfl (by decide) (Nat.le_of_ble_eq_true rfl) (c_MOD_descriptorOf hp8) ?_
                        rintro _ _ ⟨rfl, rfl⟩
                        rw [show (if 0 ≤ M 9 (32 * p + 10) ∧ M 9 (32 * p + 10) < 6 then M 11 (6 * p + (M 9 (32 * p + 10)).toNatClampNeg) else -1) = dsc M p (M 9 (32 * p + 10)) from rfl]
                        refine E_V1i d_MOD_call_202 w_MOD_206 rfl (by decide) (Nat.le_of_ble_eq_true rfl) (c_MOD_duplicate hp hp8) ?_
                        rintro _ _ ⟨rfl, rfl⟩
                        rw [show (if 0 ≤ dsc M p (M 9 (32 * p + 10)) ∧ fds M p 6 0 < 6 then up2 M 11 (6 * p + fds M p 6 0) (dsc M p (M 9 (32 * p + 10))) else M) = dupA M p (dsc M p (M 9 (32 * p + 10))) from rfl]
                        refine E_V2v d_MOD_call_205 w_MOD_135 rfl (by decide) (Nat.le_of_ble_eq_true rfl) (c_MOD_set ((dupA_0 _ 24).trans hp) hp8 (by decide)) ?_
                        rintro _ rfl
                        refine E_goto (tgt := 232) d_MOD_call_208 (by decide) ?_
                        exact E_return d_MOD_call_232 rfl rfl ⟨rfl, by rw [calM, if_neg c15, if_neg c28, if_neg c41, if_neg c59, if_neg c77, if_neg c89, if_neg c109, if_neg c131, if_neg c153, if_neg c166, if_pos c186]; try rfl⟩
                    · refine E_aload_n d_MOD_call_169 rfl rfl ?_
                      refine E_bipush (v := 10) d_MOD_call_170 (by decide) ?_
                      refine E_aload_n d_MOD_call_172 rfl rfl ?_
                      refine E_iload_n d_MOD_call_173 rfl ?_
                      refine E_V1i d_MOD_call_174 w_MOD_203 rfl (by decide) (Nat.le_of_ble_eq_true rfl) (c_MOD_close hp hp8) ?_
                      rintro _ _ ⟨rfl, rfl⟩
                      rw [show (if 0 ≤ M 9 (32 * p + 10) ∧ M 9 (32 * p + 10) < 6 ∧ 0 ≤ M 11 (6 * p + nv (M 9 (32 * p + 10))) then clsM M p (nv (M 9 (32 * p + 10))) else M) = cloA M p (M 9 (32 * p + 10)) from rfl]
                      refine E_V2v d_MOD_call_177 w_MOD_135 rfl (by decide) (Nat.le_of_ble_eq_true rfl) (c_MOD_set ((cloA_0 _ 24).trans hp) hp8 (by decide)) ?_
                      rintro _ rfl
                      refine E_goto (tgt := 232) d_MOD_call_180 (by decide) ?_
                      exact E_return d_MOD_call_232 rfl rfl ⟨rfl, by rw [calM, if_neg c15, if_neg c28, if_neg c41, if_neg c59, if_neg c77, if_neg c89, if_neg c109, if_neg c131, if_neg c153, if_pos c166]; try rfl⟩
                  · refine E_aload_n d_MOD_call_156 rfl rfl ?_
                    refine E_V0v d_MOD_call_157 w_MOD_200 rfl (by decide) (Nat.le_of_ble_eq_true rfl) (c_MOD_pipe hp hp8) ?_
                    rintro _ rfl
                    refine E_goto (tgt := 232) d_MOD_call_160 (by decide) ?_
                    exact E_return d_MOD_call_232 rfl rfl ⟨rfl, by rw [calM, if_neg c15, if_neg c28, if_neg c41, if_neg c59, if_neg c77, if_neg c89, if_neg c109, if_neg c131, if_pos c153]; try rfl⟩
                · refine E_aload_n d_MOD_call_134 rfl rfl ?_
                  refine E_aload_n d_MOD_call_135 rfl rfl ?_
                  refine E_aload_n d_MOD_call_136 rfl rfl ?_
                  refine L_gi d_MOD_call_137 f_MOD_97 rfl (by decide) rfl (fr_M 0 24) ?_
                  refine E_tp (y := nI (p)) hp ?_
                  refine E_iload_n d_MOD_call_140 rfl ?_
                  refine E_V2i d_MOD_call_141 w_MOD_191 rfl (by decide) (Nat.le_of_ble_eq_true rfl) (c_MOD_descriptorOf hp8) ?_
                  rintro _ _ ⟨rfl, rfl⟩
                  rw [show (if 0 ≤ M 9 (32 * p + 10) ∧ M 9 (32 * p + 10) < 6 then M 11 (6 * p + (M 9 (32 * p + 10)).toNatClampNeg) else -1) = dsc M p (M 9 (32 * p + 10)) from rfl]
                  refine E_V1v d_MOD_call_144 w_MOD_197 rfl (by decide) (Nat.le_of_ble_eq_true rfl) (c_take hp hp8 (dsc_edr hed _) hct hsh) ?_
                  rintro _ rfl
                  refine E_goto (tgt := 232) d_MOD_call_147 (by decide) ?_
                  exact E_return d_MOD_call_232 rfl rfl ⟨rfl, by rw [calM, if_neg c15, if_neg c28, if_neg c41, if_neg c59, if_neg c77, if_neg c89, if_neg c109, if_pos c131]; try rfl⟩
              · refine E_aload_n d_MOD_call_112 rfl rfl ?_
                refine E_aload_n d_MOD_call_113 rfl rfl ?_
                refine E_aload_n d_MOD_call_114 rfl rfl ?_
                refine L_gi d_MOD_call_115 f_MOD_97 rfl (by decide) rfl (fr_M 0 24) ?_
                refine E_tp (y := nI (p)) hp ?_
                refine E_iload_n d_MOD_call_118 rfl ?_
                refine E_V2i d_MOD_call_119 w_MOD_191 rfl (by decide) (Nat.le_of_ble_eq_true rfl) (c_MOD_descriptorOf hp8) ?_
                rintro _ _ ⟨rfl, rfl⟩
                rw [show (if 0 ≤ M 9 (32 * p + 10) ∧ M 9 (32 * p + 10) < 6 then M 11 (6 * p + (M 9 (32 * p + 10)).toNatClampNeg) else -1) = dsc M p (M 9 (32 * p + 10)) from rfl]
                refine E_V1v d_MOD_call_122 w_MOD_194 rfl (by decide) (Nat.le_of_ble_eq_true rfl) (c_send hp hp8 (dsc_edr hed _) hct hsh) ?_
                rintro _ rfl
                refine E_goto (tgt := 232) d_MOD_call_125 (by decide) ?_
                exact E_return d_MOD_call_232 rfl rfl ⟨rfl, by rw [calM, if_neg c15, if_neg c28, if_neg c41, if_neg c59, if_neg c77, if_neg c89, if_pos c109]; try rfl⟩
            · refine E_aload_n d_MOD_call_92 rfl rfl ?_
              refine E_bipush (v := 10) d_MOD_call_93 (by decide) ?_
              refine E_aload_n d_MOD_call_95 rfl rfl ?_
              refine E_iload_n d_MOD_call_96 rfl ?_
              refine E_V1i d_MOD_call_97 w_MOD_188 rfl (by decide) (Nat.le_of_ble_eq_true rfl) (c_MOD_more hp hp8 hp1 hs hs8 hf hfr) ?_
              rintro _ _ ⟨rfl, rfl⟩
              rw [show (if morb (M 9 (32 * p + 10)) s (nfr M fr) = true then gro M p (nv (M 9 (32 * p + 10))) else M) = morA M p s fr (M 9 (32 * p + 10)) from rfl]
              refine E_V2v d_MOD_call_100 w_MOD_135 rfl (by decide) (Nat.le_of_ble_eq_true rfl) (c_MOD_set ((morA_0 _ 24).trans hp) hp8 (by decide)) ?_
              rintro _ rfl
              refine E_goto (tgt := 232) d_MOD_call_103 (by decide) ?_
              exact E_return d_MOD_call_232 rfl rfl ⟨rfl, by rw [calM, if_neg c15, if_neg c28, if_neg c41, if_neg c59, if_neg c77, if_pos c89]; try rfl⟩
          · refine E_aload_n d_MOD_call_80 rfl rfl ?_
            refine E_V0v d_MOD_call_81 w_MOD_185 rfl (by decide) (Nat.le_of_ble_eq_true rfl) (c_MOD_waits hp hp8) ?_
            rintro _ rfl
            refine E_goto (tgt := 232) d_MOD_call_84 (by decide) ?_
            exact E_return d_MOD_call_232 rfl rfl ⟨rfl, by rw [calM, if_neg c15, if_neg c28, if_neg c41, if_neg c59, if_pos c77]; try rfl⟩
        · refine E_aload_n d_MOD_call_62 rfl rfl ?_
          refine E_bipush (v := 10) d_MOD_call_63 (by decide) ?_
          refine E_aload_n d_MOD_call_65 rfl rfl ?_
          refine E_V0i d_MOD_call_66 w_MOD_182 rfl (by decide) (Nat.le_of_ble_eq_true rfl) (c_MOD_fork hp hp8 hs hs8 hpg hf hfr hm (by omega) h4) ?_
          rintro _ _ ⟨rfl, rfl⟩
          rw [show (if frkb M s fr = true then frkM M p (fas M 8 1) s m else M) = frkA M p m s fr from rfl]
          refine E_V2v d_MOD_call_69 w_MOD_135 rfl (by decide) (Nat.le_of_ble_eq_true rfl) (c_MOD_set ((frkA_0 24 (by decide)).trans hp) hp8 (by decide)) ?_
          rintro _ rfl
          refine E_goto (tgt := 232) d_MOD_call_72 (by decide) ?_
          exact E_return d_MOD_call_232 rfl rfl ⟨rfl, by rw [calM, if_neg c15, if_neg c28, if_neg c41, if_pos c59]; try rfl⟩
      · refine E_aload_n d_MOD_call_44 rfl rfl ?_
        refine E_bipush (v := 10) d_MOD_call_45 (by decide) ?_
        refine E_aload_n d_MOD_call_47 rfl rfl ?_
        refine L_gi d_MOD_call_48 f_MOD_97 rfl (by decide) rfl (fr_M 0 24) ?_
        refine E_tp (y := nI (p)) hp ?_
        refine E_V2v d_MOD_call_51 w_MOD_135 rfl (by decide) (Nat.le_of_ble_eq_true rfl) (c_MOD_set hp hp8 (by decide)) ?_
        rintro _ rfl
        refine E_goto (tgt := 232) d_MOD_call_54 (by decide) ?_
        exact E_return d_MOD_call_232 rfl rfl ⟨rfl, by rw [calM, if_neg c15, if_neg c28, if_pos c41]; try rfl⟩
    · refine E_aload_n d_MOD_call_31 rfl rfl ?_
      refine E_iload_n d_MOD_call_32 rfl ?_
      refine E_V1v d_MOD_call_33 w_MOD_179 rfl (by decide) (Nat.le_of_ble_eq_true rfl) (c_MOD_leave hp hp8 hm (by omega)) ?_
      rintro _ rfl
      refine E_goto (tgt := 232) d_MOD_call_36 (by decide) ?_
      exact E_return d_MOD_call_232 rfl rfl ⟨rfl, by rw [calM, if_neg c15, if_pos c28]; try rfl⟩
  · refine E_aload_n d_MOD_call_18 rfl rfl ?_
    refine E_iconst (v := 1) d_MOD_call_19 (by decide) ?_
    refine L_pi d_MOD_call_20 f_MOD_118 rfl (by decide) (Or.inr ⟨rfl, (by decide)⟩) rfl (fu_M 0 19 _) ?_
    refine E_goto (tgt := 232) d_MOD_call_23 (by decide) ?_
    exact E_return d_MOD_call_232 rfl rfl ⟨rfl, by rw [calM, if_pos c15]; try rfl⟩
theorem c_MOD_mayGo {G : iG} {F : Nat} {C M : Nat → Nat → Int32} {p : Nat} (hp8 : p ≤ 8) (h2 : M 4 p = 2 → ∃ k, k < 4 ∧ dsc M p (M 9 (32 * p + 10)) = nI (1 + 2 * k)) (h3 : M 4 p = 3 → ∃ k, k < 4 ∧ dsc M p (M 9 (32 * p + 10)) = nI (2 + 2 * k)) : MI G m_MOD_mayGo 1 [vR 50, vI (nI p)] (HW F C M) (fun x h' => x = b2i (mgb M p) ∧ h' = HW F C M) := by
  refine Mt.of' (Ls := [some (vR 50), some (vI (nI p)), none]) (by decide) (by simp [ct]) (Nat.le_of_ble_eq_true rfl) rfl ?_
  refine E_aload_n d_MOD_mayGo_0 rfl rfl ?_
  refine E_iload_n d_MOD_mayGo_1 rfl ?_
  refine E_aload_n d_MOD_mayGo_2 rfl rfl ?_
  refine L_gr d_MOD_mayGo_3 f_MOD_34 rfl (by decide) rfl rfl ?_
  refine E_bipush (v := 32) d_MOD_mayGo_6 (by decide) ?_
  refine E_iload_n d_MOD_mayGo_8 rfl ?_
  refine E_imul d_MOD_mayGo_9 ?_
  refine E_tp (y := nI (32 * p)) (pk_mul 32 p) ?_
  refine E_bipush (v := 10) d_MOD_mayGo_10 (by decide) ?_
  refine E_iadd d_MOD_mayGo_12 ?_
  refine E_tp (y := nI (32 * p + 10)) (nI_add (32 * p) 10) ?_
  refine L_ld (j := 32 * p + 10) d_MOD_mayGo_13 rfl rfl (by omega) (by decide) (fr_M 9 _) ?_
  refine E_V2i d_MOD_mayGo_14 w_MOD_191 rfl (by decide) (Nat.le_of_ble_eq_true rfl) (c_MOD_descriptorOf hp8) ?_
  rintro _ _ ⟨rfl, rfl⟩
  rw [show (if 0 ≤ M 9 (32 * p + 10) ∧ M 9 (32 * p + 10) < 6 then M 11 (6 * p + (M 9 (32 * p + 10)).toNatClampNeg) else -1) = dsc M p (M 9 (32 * p + 10)) from rfl]
  refine E_istore_n d_MOD_mayGo_17 (by decide) ?_
  refine E_aload_n d_MOD_mayGo_18 rfl rfl ?_
  refine L_gr d_MOD_mayGo_19 f_MOD_19 rfl (by decide) rfl rfl ?_
  refine E_iload_n d_MOD_mayGo_22 rfl ?_
  refine L_ld (j := p) d_MOD_mayGo_23 rfl rfl (by omega) (by decide) (fr_M 4 _) ?_
  refine E_iconst (v := 2) d_MOD_mayGo_24 (by decide) ?_
  refine E_icmp_ne (tgt := 55) d_MOD_mayGo_25 (by decide) (fun c25 => ?_) (fun c25 => ?_)
  · refine E_aload_n d_MOD_mayGo_55 rfl rfl ?_
    refine L_gr d_MOD_mayGo_56 f_MOD_19 rfl (by decide) rfl rfl ?_
    refine E_iload_n d_MOD_mayGo_59 rfl ?_
    refine L_ld (j := p) d_MOD_mayGo_60 rfl rfl (by omega) (by decide) (fr_M 4 _) ?_
    refine E_iconst (v := 3) d_MOD_mayGo_61 (by decide) ?_
    refine E_icmp_ne (tgt := 96) d_MOD_mayGo_62 (by decide) (fun c62 => ?_) (fun c62 => ?_)
    · refine E_aload_n d_MOD_mayGo_96 rfl rfl ?_
      refine L_gr d_MOD_mayGo_97 f_MOD_19 rfl (by decide) rfl rfl ?_
      refine E_iload_n d_MOD_mayGo_100 rfl ?_
      refine L_ld (j := p) d_MOD_mayGo_101 rfl rfl (by omega) (by decide) (fr_M 4 _) ?_
      refine E_iconst (v := 4) d_MOD_mayGo_102 (by decide) ?_
      refine E_icmp_ne (tgt := 118) d_MOD_mayGo_103 (by decide) (fun c103 => ?_) (fun c103 => ?_)
      · have em2 : mgb M p = false := by rw [mgb, if_neg c25, if_neg c62, decide_eq_false c103]; rfl
        refine E_iconst (v := 0) d_MOD_mayGo_118 (by decide) ?_
        exact E_ireturn d_MOD_mayGo_119 (Or.inr ⟨rfl, (by decide)⟩) rfl ⟨_, rfl, by rw [em2]; rfl, rfl⟩
      · refine E_aload_n d_MOD_mayGo_106 rfl rfl ?_
        refine E_iload_n d_MOD_mayGo_107 rfl ?_
        refine E_V1i d_MOD_mayGo_108 w_MOD_215 rfl (by decide) (Nat.le_of_ble_eq_true rfl) (c_MOD_lostChild) ?_
        rintro _ _ ⟨rfl, rfl⟩
        refine E_if_eq (tgt := 118) d_MOD_mayGo_111 (by decide) (fun c111 => ?_) (fun c111 => ?_)
        · have em2 : mgb M p = false := by rw [mgb, if_neg c25, if_neg c62, decide_eq_true c111]; simp
          refine E_iconst (v := 0) d_MOD_mayGo_118 (by decide) ?_
          exact E_ireturn d_MOD_mayGo_119 (Or.inr ⟨rfl, (by decide)⟩) rfl ⟨_, rfl, by rw [em2]; rfl, rfl⟩
        · have em2 : mgb M p = true := by rw [mgb, if_neg c25, if_neg c62, decide_eq_false c111, decide_eq_true c103]; rfl
          refine E_iconst (v := 1) d_MOD_mayGo_114 (by decide) ?_
          refine E_goto (tgt := 119) d_MOD_mayGo_115 (by decide) ?_
          exact E_ireturn d_MOD_mayGo_119 (Or.inr ⟨rfl, (by decide)⟩) rfl ⟨_, rfl, by rw [em2]; rfl, rfl⟩
    · obtain ⟨k, hk, ek⟩ := h3 c62
      rw [ek]
      have e1 : nI (2 + 2 * k) - 1 = nI (2 * k + 1) := by rw [show nI (2 + 2 * k) - 1 = nI (2 + 2 * k - 1) from pk_sub (b := 1) (by omega), show 2 + 2 * k - 1 = 2 * k + 1 by omega]
      have em : mgb M p = (decide (M 14 k < 8) || !hel M (nI (2 * k + 1))) := by rw [mgb, if_neg c25, if_pos c62, ek, nv_nI (by omega), show (2 + 2 * k - 1) / 2 = k by omega, e1]
      refine E_aload_n d_MOD_mayGo_65 rfl rfl ?_
      refine L_gr d_MOD_mayGo_66 f_MOD_49 rfl (by decide) rfl rfl ?_
      refine E_iload_n d_MOD_mayGo_69 rfl ?_
      refine E_iconst (v := 1) d_MOD_mayGo_70 (by decide) ?_
      refine E_isub d_MOD_mayGo_71 ?_
      refine E_tp (y := nI (2 * k + 1)) e1 ?_
      refine E_iconst (v := 2) d_MOD_mayGo_72 (by decide) ?_
      refine E_idiv d_MOD_mayGo_73 (by decide) ?_
      refine E_tp (y := nI (k)) (by rw [show nI (2 * k + 1) / 2 = nI ((2 * k + 1) / 2) from pk_div (d := 2) (by omega) (by decide) (by decide), show (2 * k + 1) / 2 = k by omega]) ?_
      refine L_ld (j := k) d_MOD_mayGo_74 rfl rfl (by omega) (by decide) (fr_M 14 _) ?_
      refine E_bipush (v := 8) d_MOD_mayGo_75 (by decide) ?_
      refine E_icmp_lt (tgt := 90) d_MOD_mayGo_77 (by decide) (fun c77 => ?_) (fun c77 => ?_)
      · have em2 : mgb M p = true := by rw [em, decide_eq_true c77]; rfl
        refine E_iconst (v := 1) d_MOD_mayGo_90 (by decide) ?_
        refine E_goto (tgt := 95) d_MOD_mayGo_91 (by decide) ?_
        exact E_ireturn d_MOD_mayGo_95 (Or.inr ⟨rfl, (by decide)⟩) rfl ⟨_, rfl, by rw [em2]; rfl, rfl⟩
      · refine E_aload_n d_MOD_mayGo_80 rfl rfl ?_
        refine E_iload_n d_MOD_mayGo_81 rfl ?_
        refine E_iconst (v := 1) d_MOD_mayGo_82 (by decide) ?_
        refine E_isub d_MOD_mayGo_83 ?_
        refine E_tp (y := nI (2 * k + 1)) e1 ?_
        refine E_V1i d_MOD_mayGo_84 w_MOD_84 rfl (by decide) (Nat.le_of_ble_eq_true rfl) (c_MOD_isHeld) ?_
        rintro _ _ ⟨rfl, rfl⟩
        refine E_if_ne (tgt := 94) d_MOD_mayGo_87 (by decide) (fun c87 => ?_) (fun c87 => ?_)
        · have em2 : mgb M p = false := by rw [em, decide_eq_false c77, b2i_ne0 c87]; rfl
          refine E_iconst (v := 0) d_MOD_mayGo_94 (by decide) ?_
          exact E_ireturn d_MOD_mayGo_95 (Or.inr ⟨rfl, (by decide)⟩) rfl ⟨_, rfl, by rw [em2]; rfl, rfl⟩
        · have em2 : mgb M p = true := by rw [em, b2i_eq0 c87]; simp
          refine E_iconst (v := 1) d_MOD_mayGo_90 (by decide) ?_
          refine E_goto (tgt := 95) d_MOD_mayGo_91 (by decide) ?_
          exact E_ireturn d_MOD_mayGo_95 (Or.inr ⟨rfl, (by decide)⟩) rfl ⟨_, rfl, by rw [em2]; rfl, rfl⟩
  · obtain ⟨k, hk, ek⟩ := h2 c25
    rw [ek]
    have em : mgb M p = (decide (0 < M 14 k) || !hel M (nI (1 + 2 * k + 1))) := by rw [mgb, if_pos c25, ek, nv_nI (by omega), show (1 + 2 * k) / 2 = k by omega, nI_1]
    refine E_aload_n d_MOD_mayGo_28 rfl rfl ?_
    refine L_gr d_MOD_mayGo_29 f_MOD_49 rfl (by decide) rfl rfl ?_
    refine E_iload_n d_MOD_mayGo_32 rfl ?_
    refine E_iconst (v := 2) d_MOD_mayGo_33 (by decide) ?_
    refine E_idiv d_MOD_mayGo_34 (by decide) ?_
    refine E_tp (y := nI (k)) (by rw [show nI (1 + 2 * k) / 2 = nI ((1 + 2 * k) / 2) from pk_div (d := 2) (by omega) (by decide) (by decide), show (1 + 2 * k) / 2 = k by omega]) ?_
    refine L_ld (j := k) d_MOD_mayGo_35 rfl rfl (by omega) (by decide) (fr_M 14 _) ?_
    refine E_if_gt (tgt := 49) d_MOD_mayGo_36 (by decide) (fun c36 => ?_) (fun c36 => ?_)
    · have em2 : mgb M p = true := by rw [em, decide_eq_true c36]; rfl
      refine E_iconst (v := 1) d_MOD_mayGo_49 (by decide) ?_
      refine E_goto (tgt := 54) d_MOD_mayGo_50 (by decide) ?_
      exact E_ireturn d_MOD_mayGo_54 (Or.inr ⟨rfl, (by decide)⟩) rfl ⟨_, rfl, by rw [em2]; rfl, rfl⟩
    · refine E_aload_n d_MOD_mayGo_39 rfl rfl ?_
      refine E_iload_n d_MOD_mayGo_40 rfl ?_
      refine E_iconst (v := 1) d_MOD_mayGo_41 (by decide) ?_
      refine E_iadd d_MOD_mayGo_42 ?_
      refine E_tp (y := nI (1 + 2 * k + 1)) (nI_add (1 + 2 * k) 1) ?_
      refine E_V1i d_MOD_mayGo_43 w_MOD_84 rfl (by decide) (Nat.le_of_ble_eq_true rfl) (c_MOD_isHeld) ?_
      rintro _ _ ⟨rfl, rfl⟩
      refine E_if_ne (tgt := 53) d_MOD_mayGo_46 (by decide) (fun c46 => ?_) (fun c46 => ?_)
      · have em2 : mgb M p = false := by rw [em, decide_eq_false c36, b2i_ne0 c46]; rfl
        refine E_iconst (v := 0) d_MOD_mayGo_53 (by decide) ?_
        exact E_ireturn d_MOD_mayGo_54 (Or.inr ⟨rfl, (by decide)⟩) rfl ⟨_, rfl, by rw [em2]; rfl, rfl⟩
      · have em2 : mgb M p = true := by rw [em, b2i_eq0 c46]; simp
        refine E_iconst (v := 1) d_MOD_mayGo_49 (by decide) ?_
        refine E_goto (tgt := 54) d_MOD_mayGo_50 (by decide) ?_
        exact E_ireturn d_MOD_mayGo_54 (Or.inr ⟨rfl, (by decide)⟩) rfl ⟨_, rfl, by rw [em2]; rfl, rfl⟩

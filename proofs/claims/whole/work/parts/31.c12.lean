/-! ===== the reference's instruction ===== -/
theorem tl_MOD_instruction {G : iG} {F : Nat} {C M : Nat → Nat → Int32} {Q : Option iV → iH → Prop} {p : Nat} {l1 l2 : Option iV} (hp : M 0 24 = nI p) (hp8 : p ≤ 8) (hQ : Q none (HW F C (fin M p))) : Ev G m_MOD_instruction 6 0 0 349 [some (vR 50), l1, l2] [] (HW F C M) Q := by
  refine E_aload_n d_MOD_instruction_349 rfl rfl ?_
  refine L_gi d_MOD_instruction_350 f_MOD_100 rfl (by decide) rfl (fr_M 0 27) ?_
  refine E_if_eq (tgt := 369) d_MOD_instruction_353 (by decide) (fun c353 => ?_) (fun c353 => ?_)
  · exact E_return d_MOD_instruction_369 rfl rfl (by rw [fin, if_pos c353] at hQ; exact hQ)
  · refine E_aload_n d_MOD_instruction_356 rfl rfl ?_
    refine L_gr d_MOD_instruction_357 f_MOD_28 rfl (by decide) rfl rfl ?_
    refine E_aload_n d_MOD_instruction_360 rfl rfl ?_
    refine L_gi d_MOD_instruction_361 f_MOD_97 rfl (by decide) rfl (fr_M 0 24) ?_
    refine E_tp (y := nI (p)) hp ?_
    refine E_aload_n d_MOD_instruction_364 rfl rfl ?_
    refine L_gi d_MOD_instruction_365 f_MOD_121 rfl (by decide) rfl (fr_M 0 26) ?_
    refine L_st (j := p) d_MOD_instruction_368 rfl rfl (by omega) (by decide) (fu_M 7 _ _) ?_
    exact E_return d_MOD_instruction_369 rfl rfl (by rw [fin, if_neg c353] at hQ; exact hQ)
theorem md_MOD_instruction {G : iG} {F : Nat} {C M : Nat → Nat → Int32} {Q : Option iV → iH → Prop} {p m s fr : Nat} {pc : Int32} {l2 : Option iV} (hw : CW M p m s fr) (hgo : M 0 27 = 1) (hQ : Q none (HW F C (fin (insX M p m s fr pc) p))) : Ev G m_MOD_instruction 6 0 0 63 [some (vR 50), some (vI pc), l2] [] (HW F C M) Q := by
  obtain ⟨hp, hp1, hp8, hm, hm8, hs, hs8, hpg, hf, hfr, h4, hed, hct, hsh⟩ := id hw
  have hop : bf (M 0 25) 0 7 < 128 := bf_lt _ _ 7
  have hf3 : bf (M 0 25) 12 3 < 8 := bf_lt _ _ 3
  refine E_aload_n d_MOD_instruction_63 rfl rfl ?_
  refine E_iconst (v := 0) d_MOD_instruction_64 (by decide) ?_
  refine E_bipush (v := 7) d_MOD_instruction_65 (by decide) ?_
  refine E_V2i d_MOD_instruction_67 w_MOD_110 rfl (by decide) (Nat.le_of_ble_eq_true rfl) (c_MOD_bits (a := 0) (k := 7) (by decide) (by decide) (by decide)) ?_
  rintro _ _ ⟨rfl, rfl⟩
  refine E_istore_n d_MOD_instruction_70 (by decide) ?_
  refine E_iload_n d_MOD_instruction_71 rfl ?_
  refine E_bipush (v := 55) d_MOD_instruction_72 (by decide) ?_
  refine E_icmp_ne (tgt := 96) d_MOD_instruction_74 (by decide) (fun c74 => ?_) (fun c74 => ?_)
  · have o74 : ¬ bf (M 0 25) 0 7 = 55 := fun q => c74 (by rw [q]; rfl)
    refine E_iload_n d_MOD_instruction_96 rfl ?_
    refine E_bipush (v := 23) d_MOD_instruction_97 (by decide) ?_
    refine E_icmp_ne (tgt := 123) d_MOD_instruction_99 (by decide) (fun c99 => ?_) (fun c99 => ?_)
    · have o99 : ¬ bf (M 0 25) 0 7 = 23 := fun q => c99 (by rw [q]; rfl)
      refine E_iload_n d_MOD_instruction_123 rfl ?_
      refine E_bipush (v := 111) d_MOD_instruction_124 (by decide) ?_
      refine E_icmp_ne (tgt := 182) d_MOD_instruction_126 (by decide) (fun c126 => ?_) (fun c126 => ?_)
      · have o126 : ¬ bf (M 0 25) 0 7 = 111 := fun q => c126 (by rw [q]; rfl)
        refine E_iload_n d_MOD_instruction_182 rfl ?_
        refine E_bipush (v := 103) d_MOD_instruction_183 (by decide) ?_
        refine E_icmp_ne (tgt := 220) d_MOD_instruction_185 (by decide) (fun c185 => ?_) (fun c185 => ?_)
        · have o185 : ¬ bf (M 0 25) 0 7 = 103 := fun q => c185 (by rw [q]; rfl)
          refine E_iload_n d_MOD_instruction_220 rfl ?_
          refine E_bipush (v := 99) d_MOD_instruction_221 (by decide) ?_
          refine E_icmp_ne (tgt := 234) d_MOD_instruction_223 (by decide) (fun c223 => ?_) (fun c223 => ?_)
          · have o223 : ¬ bf (M 0 25) 0 7 = 99 := fun q => c223 (by rw [q]; rfl)
            refine E_iload_n d_MOD_instruction_234 rfl ?_
            refine E_iconst (v := 3) d_MOD_instruction_235 (by decide) ?_
            refine E_icmp_ne (tgt := 246) d_MOD_instruction_236 (by decide) (fun c236 => ?_) (fun c236 => ?_)
            · have o236 : ¬ bf (M 0 25) 0 7 = 3 := fun q => c236 (by rw [q]; rfl)
              refine E_iload_n d_MOD_instruction_246 rfl ?_
              refine E_bipush (v := 35) d_MOD_instruction_247 (by decide) ?_
              refine E_icmp_ne (tgt := 259) d_MOD_instruction_249 (by decide) (fun c249 => ?_) (fun c249 => ?_)
              · have o249 : ¬ bf (M 0 25) 0 7 = 35 := fun q => c249 (by rw [q]; rfl)
                refine E_iload_n d_MOD_instruction_259 rfl ?_
                refine E_bipush (v := 19) d_MOD_instruction_260 (by decide) ?_
                refine E_icmp_eq (tgt := 271) d_MOD_instruction_262 (by decide) (fun c262 => ?_) (fun c262 => ?_)
                · have o262 : bf (M 0 25) 0 7 = 19 := (nI_eq (b := 19) (by omega) (by decide)).mp c262
                  refine E_aload_n d_MOD_instruction_271 rfl rfl ?_
                  refine E_iload_n d_MOD_instruction_272 rfl ?_
                  refine E_bipush (v := 51) d_MOD_instruction_273 (by decide) ?_
                  refine E_icmp_ne (tgt := 282) d_MOD_instruction_275 (by decide) (fun _ => ?_) (fun c => absurd c (fun q => absurd (o262.symm.trans ((nI_eq (b := 51) (by omega) (by decide)).mp q)) (by decide)))
                  refine E_iconst (v := 0) d_MOD_instruction_282 (by decide) ?_
                  refine E_V1v d_MOD_instruction_283 w_MOD_153 rfl (by decide) (Nat.le_of_ble_eq_true rfl) (c_MOD_compute (two := false) hp hp8 hm (by omega)) ?_
                  rintro _ rfl
                  refine E_goto (tgt := 349) d_MOD_instruction_286 (by decide) ?_
                  rw [insX, if_neg o74, if_neg o99, if_neg o126, if_neg (fun q => o185 q.1), if_neg o223, if_neg o236, if_neg o249, if_pos o262] at hQ
                  exact tl_MOD_instruction ((cmpM_24 _).trans hp) hp8 hQ
                · have o262 : ¬ bf (M 0 25) 0 7 = 19 := fun q => c262 (by rw [q]; rfl)
                  refine E_iload_n d_MOD_instruction_265 rfl ?_
                  refine E_bipush (v := 51) d_MOD_instruction_266 (by decide) ?_
                  refine E_icmp_ne (tgt := 289) d_MOD_instruction_268 (by decide) (fun c268 => ?_) (fun c268 => ?_)
                  · have o268 : ¬ bf (M 0 25) 0 7 = 51 := fun q => c268 (by rw [q]; rfl)
                    refine E_iload_n d_MOD_instruction_289 rfl ?_
                    refine E_bipush (v := 115) d_MOD_instruction_290 (by decide) ?_
                    refine E_icmp_ne (tgt := 311) d_MOD_instruction_292 (by decide) (fun c292 => ?_) (fun c292 => ?_)
                    · have o292 : ¬ bf (M 0 25) 0 7 = 115 := fun q => c292 (by rw [q]; rfl)
                      refine E_aload_n d_MOD_instruction_311 rfl rfl ?_
                      refine L_gi d_MOD_instruction_312 f_MOD_107 rfl (by decide) rfl (fr_M 0 25) ?_
                      refine E_ldc (v := 1048691) d_MOD_instruction_315 (by decide +kernel) ?_
                      refine E_icmp_ne (tgt := 328) d_MOD_instruction_317 (by decide) (fun c317 => ?_) (fun c317 => ?_)
                      · refine E_iload_n d_MOD_instruction_328 rfl ?_
                        refine E_bipush (v := 15) d_MOD_instruction_329 (by decide) ?_
                        refine E_icmp_ne (tgt := 344) d_MOD_instruction_331 (by decide) (fun c331 => ?_) (fun c331 => ?_)
                        · have o331 : ¬ bf (M 0 25) 0 7 = 15 := fun q => c331 (by rw [q]; rfl)
                          refine E_aload_n d_MOD_instruction_344 rfl rfl ?_
                          refine E_iconst (v := 2) d_MOD_instruction_345 (by decide) ?_
                          refine E_V1v d_MOD_instruction_346 w_MOD_128 rfl (by decide) (Nat.le_of_ble_eq_true rfl) (c_MOD_fault hp hp8 hm (by omega)) ?_
                          rintro _ rfl
                          rw [insX, if_neg o74, if_neg o99, if_neg o126, if_neg (fun q => o185 q.1), if_neg o223, if_neg o236, if_neg o249, if_neg o262, if_neg o268, if_neg (fun q => o292 q.1), if_neg c317, if_neg (fun q => o331 q.1)] at hQ
                          exact tl_MOD_instruction ((endM_0 _ _ _ _ (by decide) (by decide)).trans hp) hp8 hQ
                        · have o331 : bf (M 0 25) 0 7 = 15 := (nI_eq (b := 15) (by omega) (by decide)).mp c331
                          refine E_aload_n d_MOD_instruction_334 rfl rfl ?_
                          refine E_bipush (v := 12) d_MOD_instruction_335 (by decide) ?_
                          refine E_iconst (v := 3) d_MOD_instruction_337 (by decide) ?_
                          refine E_V2i d_MOD_instruction_338 w_MOD_110 rfl (by decide) (Nat.le_of_ble_eq_true rfl) (c_MOD_bits (a := 12) (k := 3) (by decide) (by decide) (by decide)) ?_
                          rintro _ _ ⟨rfl, rfl⟩
                          refine E_if_eq (tgt := 349) d_MOD_instruction_341 (by decide) (fun c341 => ?_) (fun c341 => ?_)
                          · have o341 : bf (M 0 25) 12 3 = 0 := (nI_eq (b := 0) (by omega) (by decide)).mp c341
                            rw [insX, if_neg o74, if_neg o99, if_neg o126, if_neg (fun q => o185 q.1), if_neg o223, if_neg o236, if_neg o249, if_neg o262, if_neg o268, if_neg (fun q => o292 q.1), if_neg c317, if_pos ⟨o331, o341⟩] at hQ
                            exact tl_MOD_instruction hp hp8 hQ
                          · have o341 : ¬ bf (M 0 25) 12 3 = 0 := fun q => c341 (by rw [q]; rfl)
                            refine E_aload_n d_MOD_instruction_344 rfl rfl ?_
                            refine E_iconst (v := 2) d_MOD_instruction_345 (by decide) ?_
                            refine E_V1v d_MOD_instruction_346 w_MOD_128 rfl (by decide) (Nat.le_of_ble_eq_true rfl) (c_MOD_fault hp hp8 hm (by omega)) ?_
                            rintro _ rfl
                            rw [insX, if_neg o74, if_neg o99, if_neg o126, if_neg (fun q => o185 q.1), if_neg o223, if_neg o236, if_neg o249, if_neg o262, if_neg o268, if_neg (fun q => o292 q.1), if_neg c317, if_neg (fun q => o341 q.2)] at hQ
                            exact tl_MOD_instruction ((endM_0 _ _ _ _ (by decide) (by decide)).trans hp) hp8 hQ
                      · refine E_aload_n d_MOD_instruction_320 rfl rfl ?_
                        refine E_iconst (v := 3) d_MOD_instruction_321 (by decide) ?_
                        refine E_V1v d_MOD_instruction_322 w_MOD_128 rfl (by decide) (Nat.le_of_ble_eq_true rfl) (c_MOD_fault hp hp8 hm (by omega)) ?_
                        rintro _ rfl
                        refine E_goto (tgt := 349) d_MOD_instruction_325 (by decide) ?_
                        rw [insX, if_neg o74, if_neg o99, if_neg o126, if_neg (fun q => o185 q.1), if_neg o223, if_neg o236, if_neg o249, if_neg o262, if_neg o268, if_neg (fun q => o292 q.1), if_pos c317] at hQ
                        exact tl_MOD_instruction ((endM_0 _ _ _ _ (by decide) (by decide)).trans hp) hp8 hQ
                    · have o292 : bf (M 0 25) 0 7 = 115 := (nI_eq (b := 115) (by omega) (by decide)).mp c292
                      refine E_aload_n d_MOD_instruction_295 rfl rfl ?_
                      refine L_gi d_MOD_instruction_296 f_MOD_107 rfl (by decide) rfl (fr_M 0 25) ?_
                      refine E_bipush (v := 115) d_MOD_instruction_299 (by decide) ?_
                      refine E_icmp_ne (tgt := 311) d_MOD_instruction_301 (by decide) (fun c301 => ?_) (fun c301 => ?_)
                      · refine E_aload_n d_MOD_instruction_311 rfl rfl ?_
                        refine L_gi d_MOD_instruction_312 f_MOD_107 rfl (by decide) rfl (fr_M 0 25) ?_
                        refine E_ldc (v := 1048691) d_MOD_instruction_315 (by decide +kernel) ?_
                        refine E_icmp_ne (tgt := 328) d_MOD_instruction_317 (by decide) (fun c317 => ?_) (fun c317 => ?_)
                        · refine E_iload_n d_MOD_instruction_328 rfl ?_
                          refine E_bipush (v := 15) d_MOD_instruction_329 (by decide) ?_
                          refine E_icmp_ne (tgt := 344) d_MOD_instruction_331 (by decide) (fun c331 => ?_) (fun c331 => ?_)
                          · have o331 : ¬ bf (M 0 25) 0 7 = 15 := fun q => c331 (by rw [q]; rfl)
                            refine E_aload_n d_MOD_instruction_344 rfl rfl ?_
                            refine E_iconst (v := 2) d_MOD_instruction_345 (by decide) ?_
                            refine E_V1v d_MOD_instruction_346 w_MOD_128 rfl (by decide) (Nat.le_of_ble_eq_true rfl) (c_MOD_fault hp hp8 hm (by omega)) ?_
                            rintro _ rfl
                            rw [insX, if_neg o74, if_neg o99, if_neg o126, if_neg (fun q => o185 q.1), if_neg o223, if_neg o236, if_neg o249, if_neg o262, if_neg o268, if_neg (fun q => c301 q.2), if_neg c317, if_neg (fun q => o331 q.1)] at hQ
                            exact tl_MOD_instruction ((endM_0 _ _ _ _ (by decide) (by decide)).trans hp) hp8 hQ
                          · have o331 : bf (M 0 25) 0 7 = 15 := (nI_eq (b := 15) (by omega) (by decide)).mp c331
                            refine E_aload_n d_MOD_instruction_334 rfl rfl ?_
                            refine E_bipush (v := 12) d_MOD_instruction_335 (by decide) ?_
                            refine E_iconst (v := 3) d_MOD_instruction_337 (by decide) ?_
                            refine E_V2i d_MOD_instruction_338 w_MOD_110 rfl (by decide) (Nat.le_of_ble_eq_true rfl) (c_MOD_bits (a := 12) (k := 3) (by decide) (by decide) (by decide)) ?_
                            rintro _ _ ⟨rfl, rfl⟩
                            refine E_if_eq (tgt := 349) d_MOD_instruction_341 (by decide) (fun c341 => ?_) (fun c341 => ?_)
                            · have o341 : bf (M 0 25) 12 3 = 0 := (nI_eq (b := 0) (by omega) (by decide)).mp c341
                              rw [insX, if_neg o74, if_neg o99, if_neg o126, if_neg (fun q => o185 q.1), if_neg o223, if_neg o236, if_neg o249, if_neg o262, if_neg o268, if_neg (fun q => c301 q.2), if_neg c317, if_pos ⟨o331, o341⟩] at hQ
                              exact tl_MOD_instruction hp hp8 hQ
                            · have o341 : ¬ bf (M 0 25) 12 3 = 0 := fun q => c341 (by rw [q]; rfl)
                              refine E_aload_n d_MOD_instruction_344 rfl rfl ?_
                              refine E_iconst (v := 2) d_MOD_instruction_345 (by decide) ?_
                              refine E_V1v d_MOD_instruction_346 w_MOD_128 rfl (by decide) (Nat.le_of_ble_eq_true rfl) (c_MOD_fault hp hp8 hm (by omega)) ?_
                              rintro _ rfl
                              rw [insX, if_neg o74, if_neg o99, if_neg o126, if_neg (fun q => o185 q.1), if_neg o223, if_neg o236, if_neg o249, if_neg o262, if_neg o268, if_neg (fun q => c301 q.2), if_neg c317, if_neg (fun q => o341 q.2)] at hQ
                              exact tl_MOD_instruction ((endM_0 _ _ _ _ (by decide) (by decide)).trans hp) hp8 hQ
                        · refine E_aload_n d_MOD_instruction_320 rfl rfl ?_
                          refine E_iconst (v := 3) d_MOD_instruction_321 (by decide) ?_
                          refine E_V1v d_MOD_instruction_322 w_MOD_128 rfl (by decide) (Nat.le_of_ble_eq_true rfl) (c_MOD_fault hp hp8 hm (by omega)) ?_
                          rintro _ rfl
                          refine E_goto (tgt := 349) d_MOD_instruction_325 (by decide) ?_
                          rw [insX, if_neg o74, if_neg o99, if_neg o126, if_neg (fun q => o185 q.1), if_neg o223, if_neg o236, if_neg o249, if_neg o262, if_neg o268, if_neg (fun q => c301 q.2), if_pos c317] at hQ
                          exact tl_MOD_instruction ((endM_0 _ _ _ _ (by decide) (by decide)).trans hp) hp8 hQ
                      · refine E_aload_n d_MOD_instruction_304 rfl rfl ?_
                        refine E_V0v d_MOD_instruction_305 w_MOD_157 rfl (by decide) (Nat.le_of_ble_eq_true rfl) (c_MOD_call hw) ?_
                        rintro _ rfl
                        refine E_goto (tgt := 349) d_MOD_instruction_308 (by decide) ?_
                        rw [insX, if_neg o74, if_neg o99, if_neg o126, if_neg (fun q => o185 q.1), if_neg o223, if_neg o236, if_neg o249, if_neg o262, if_neg o268, if_pos ⟨o292, c301⟩] at hQ
                        exact tl_MOD_instruction ((calM_24).trans hp) hp8 hQ
                  · have o268 : bf (M 0 25) 0 7 = 51 := (nI_eq (b := 51) (by omega) (by decide)).mp c268
                    refine E_aload_n d_MOD_instruction_271 rfl rfl ?_
                    refine E_iload_n d_MOD_instruction_272 rfl ?_
                    refine E_bipush (v := 51) d_MOD_instruction_273 (by decide) ?_
                    refine E_icmp_ne (tgt := 282) d_MOD_instruction_275 (by decide) (fun c => absurd c268 c) (fun _ => ?_)
                    refine E_iconst (v := 1) d_MOD_instruction_278 (by decide) ?_
                    refine E_goto (tgt := 283) d_MOD_instruction_279 (by decide) ?_
                    refine E_V1v d_MOD_instruction_283 w_MOD_153 rfl (by decide) (Nat.le_of_ble_eq_true rfl) (c_MOD_compute (two := true) hp hp8 hm (by omega)) ?_
                    rintro _ rfl
                    refine E_goto (tgt := 349) d_MOD_instruction_286 (by decide) ?_
                    rw [insX, if_neg o74, if_neg o99, if_neg o126, if_neg (fun q => o185 q.1), if_neg o223, if_neg o236, if_neg o249, if_neg o262, if_pos o268] at hQ
                    exact tl_MOD_instruction ((cmpM_24 _).trans hp) hp8 hQ
              · have o249 : bf (M 0 25) 0 7 = 35 := (nI_eq (b := 35) (by omega) (by decide)).mp c249
                refine E_aload_n d_MOD_instruction_252 rfl rfl ?_
                refine E_V0v d_MOD_instruction_253 w_MOD_150 rfl (by decide) (Nat.le_of_ble_eq_true rfl) (c_MOD_write hp hp8 hm (by omega) hs hs8 hpg hgo) ?_
                rintro _ rfl
                refine E_goto (tgt := 349) d_MOD_instruction_256 (by decide) ?_
                rw [insX, if_neg o74, if_neg o99, if_neg o126, if_neg (fun q => o185 q.1), if_neg o223, if_neg o236, if_pos o249] at hQ
                exact tl_MOD_instruction ((wrtM_24).trans hp) hp8 hQ
            · have o236 : bf (M 0 25) 0 7 = 3 := (nI_eq (b := 3) (by omega) (by decide)).mp c236
              refine E_aload_n d_MOD_instruction_239 rfl rfl ?_
              refine E_V0v d_MOD_instruction_240 w_MOD_147 rfl (by decide) (Nat.le_of_ble_eq_true rfl) (c_MOD_read hp hp8 hm (by omega) hs hs8 hpg hgo) ?_
              rintro _ rfl
              refine E_goto (tgt := 349) d_MOD_instruction_243 (by decide) ?_
              rw [insX, if_neg o74, if_neg o99, if_neg o126, if_neg (fun q => o185 q.1), if_neg o223, if_pos o236] at hQ
              exact tl_MOD_instruction ((redM_24).trans hp) hp8 hQ
          · have o223 : bf (M 0 25) 0 7 = 99 := (nI_eq (b := 99) (by omega) (by decide)).mp c223
            refine E_aload_n d_MOD_instruction_226 rfl rfl ?_
            refine E_iload_n d_MOD_instruction_227 rfl ?_
            refine E_V1v d_MOD_instruction_228 w_MOD_144 rfl (by decide) (Nat.le_of_ble_eq_true rfl) (c_MOD_branch hp hp8 hm (by omega)) ?_
            rintro _ rfl
            refine E_goto (tgt := 349) d_MOD_instruction_231 (by decide) ?_
            rw [insX, if_neg o74, if_neg o99, if_neg o126, if_neg (fun q => o185 q.1), if_pos o223] at hQ
            exact tl_MOD_instruction ((brM_24 _).trans hp) hp8 hQ
        · have o185 : bf (M 0 25) 0 7 = 103 := (nI_eq (b := 103) (by omega) (by decide)).mp c185
          refine E_aload_n d_MOD_instruction_188 rfl rfl ?_
          refine E_bipush (v := 12) d_MOD_instruction_189 (by decide) ?_
          refine E_iconst (v := 3) d_MOD_instruction_191 (by decide) ?_
          refine E_V2i d_MOD_instruction_192 w_MOD_110 rfl (by decide) (Nat.le_of_ble_eq_true rfl) (c_MOD_bits (a := 12) (k := 3) (by decide) (by decide) (by decide)) ?_
          rintro _ _ ⟨rfl, rfl⟩
          refine E_if_ne (tgt := 220) d_MOD_instruction_195 (by decide) (fun c195 => ?_) (fun c195 => ?_)
          · have o195 : ¬ bf (M 0 25) 12 3 = 0 := fun q => c195 (by rw [q]; rfl)
            refine E_iload_n d_MOD_instruction_220 rfl ?_
            refine E_bipush (v := 99) d_MOD_instruction_221 (by decide) ?_
            refine E_icmp_ne (tgt := 234) d_MOD_instruction_223 (by decide) (fun c223 => ?_) (fun c223 => ?_)
            · have o223 : ¬ bf (M 0 25) 0 7 = 99 := fun q => c223 (by rw [q]; rfl)
              refine E_iload_n d_MOD_instruction_234 rfl ?_
              refine E_iconst (v := 3) d_MOD_instruction_235 (by decide) ?_
              refine E_icmp_ne (tgt := 246) d_MOD_instruction_236 (by decide) (fun c236 => ?_) (fun c236 => ?_)
              · have o236 : ¬ bf (M 0 25) 0 7 = 3 := fun q => c236 (by rw [q]; rfl)
                refine E_iload_n d_MOD_instruction_246 rfl ?_
                refine E_bipush (v := 35) d_MOD_instruction_247 (by decide) ?_
                refine E_icmp_ne (tgt := 259) d_MOD_instruction_249 (by decide) (fun c249 => ?_) (fun c249 => ?_)
                · have o249 : ¬ bf (M 0 25) 0 7 = 35 := fun q => c249 (by rw [q]; rfl)
                  refine E_iload_n d_MOD_instruction_259 rfl ?_
                  refine E_bipush (v := 19) d_MOD_instruction_260 (by decide) ?_
                  refine E_icmp_eq (tgt := 271) d_MOD_instruction_262 (by decide) (fun c262 => ?_) (fun c262 => ?_)
                  · have o262 : bf (M 0 25) 0 7 = 19 := (nI_eq (b := 19) (by omega) (by decide)).mp c262
                    refine E_aload_n d_MOD_instruction_271 rfl rfl ?_
                    refine E_iload_n d_MOD_instruction_272 rfl ?_
                    refine E_bipush (v := 51) d_MOD_instruction_273 (by decide) ?_
                    refine E_icmp_ne (tgt := 282) d_MOD_instruction_275 (by decide) (fun _ => ?_) (fun c => absurd c (fun q => absurd (o262.symm.trans ((nI_eq (b := 51) (by omega) (by decide)).mp q)) (by decide)))
                    refine E_iconst (v := 0) d_MOD_instruction_282 (by decide) ?_
                    refine E_V1v d_MOD_instruction_283 w_MOD_153 rfl (by decide) (Nat.le_of_ble_eq_true rfl) (c_MOD_compute (two := false) hp hp8 hm (by omega)) ?_
                    rintro _ rfl
                    refine E_goto (tgt := 349) d_MOD_instruction_286 (by decide) ?_
                    rw [insX, if_neg o74, if_neg o99, if_neg o126, if_neg (fun q => o195 q.2), if_neg o223, if_neg o236, if_neg o249, if_pos o262] at hQ
                    exact tl_MOD_instruction ((cmpM_24 _).trans hp) hp8 hQ
                  · have o262 : ¬ bf (M 0 25) 0 7 = 19 := fun q => c262 (by rw [q]; rfl)
                    refine E_iload_n d_MOD_instruction_265 rfl ?_
                    refine E_bipush (v := 51) d_MOD_instruction_266 (by decide) ?_
                    refine E_icmp_ne (tgt := 289) d_MOD_instruction_268 (by decide) (fun c268 => ?_) (fun c268 => ?_)
                    · have o268 : ¬ bf (M 0 25) 0 7 = 51 := fun q => c268 (by rw [q]; rfl)
                      refine E_iload_n d_MOD_instruction_289 rfl ?_
                      refine E_bipush (v := 115) d_MOD_instruction_290 (by decide) ?_
                      refine E_icmp_ne (tgt := 311) d_MOD_instruction_292 (by decide) (fun c292 => ?_) (fun c292 => ?_)
                      · have o292 : ¬ bf (M 0 25) 0 7 = 115 := fun q => c292 (by rw [q]; rfl)
                        refine E_aload_n d_MOD_instruction_311 rfl rfl ?_
                        refine L_gi d_MOD_instruction_312 f_MOD_107 rfl (by decide) rfl (fr_M 0 25) ?_
                        refine E_ldc (v := 1048691) d_MOD_instruction_315 (by decide +kernel) ?_
                        refine E_icmp_ne (tgt := 328) d_MOD_instruction_317 (by decide) (fun c317 => ?_) (fun c317 => ?_)
                        · refine E_iload_n d_MOD_instruction_328 rfl ?_
                          refine E_bipush (v := 15) d_MOD_instruction_329 (by decide) ?_
                          refine E_icmp_ne (tgt := 344) d_MOD_instruction_331 (by decide) (fun c331 => ?_) (fun c331 => ?_)
                          · have o331 : ¬ bf (M 0 25) 0 7 = 15 := fun q => c331 (by rw [q]; rfl)
                            refine E_aload_n d_MOD_instruction_344 rfl rfl ?_
                            refine E_iconst (v := 2) d_MOD_instruction_345 (by decide) ?_
                            refine E_V1v d_MOD_instruction_346 w_MOD_128 rfl (by decide) (Nat.le_of_ble_eq_true rfl) (c_MOD_fault hp hp8 hm (by omega)) ?_
                            rintro _ rfl
                            rw [insX, if_neg o74, if_neg o99, if_neg o126, if_neg (fun q => o195 q.2), if_neg o223, if_neg o236, if_neg o249, if_neg o262, if_neg o268, if_neg (fun q => o292 q.1), if_neg c317, if_neg (fun q => o331 q.1)] at hQ
                            exact tl_MOD_instruction ((endM_0 _ _ _ _ (by decide) (by decide)).trans hp) hp8 hQ
                          · have o331 : bf (M 0 25) 0 7 = 15 := (nI_eq (b := 15) (by omega) (by decide)).mp c331
                            refine E_aload_n d_MOD_instruction_334 rfl rfl ?_
                            refine E_bipush (v := 12) d_MOD_instruction_335 (by decide) ?_
                            refine E_iconst (v := 3) d_MOD_instruction_337 (by decide) ?_
                            refine E_V2i d_MOD_instruction_338 w_MOD_110 rfl (by decide) (Nat.le_of_ble_eq_true rfl) (c_MOD_bits (a := 12) (k := 3) (by decide) (by decide) (by decide)) ?_
                            rintro _ _ ⟨rfl, rfl⟩
                            refine E_if_eq (tgt := 349) d_MOD_instruction_341 (by decide) (fun c341 => ?_) (fun c341 => ?_)
                            · have o341 : bf (M 0 25) 12 3 = 0 := (nI_eq (b := 0) (by omega) (by decide)).mp c341
                              rw [insX, if_neg o74, if_neg o99, if_neg o126, if_neg (fun q => o195 q.2), if_neg o223, if_neg o236, if_neg o249, if_neg o262, if_neg o268, if_neg (fun q => o292 q.1), if_neg c317, if_pos ⟨o331, o341⟩] at hQ
                              exact tl_MOD_instruction hp hp8 hQ
                            · have o341 : ¬ bf (M 0 25) 12 3 = 0 := fun q => c341 (by rw [q]; rfl)
                              refine E_aload_n d_MOD_instruction_344 rfl rfl ?_
                              refine E_iconst (v := 2) d_MOD_instruction_345 (by decide) ?_
                              refine E_V1v d_MOD_instruction_346 w_MOD_128 rfl (by decide) (Nat.le_of_ble_eq_true rfl) (c_MOD_fault hp hp8 hm (by omega)) ?_
                              rintro _ rfl
                              rw [insX, if_neg o74, if_neg o99, if_neg o126, if_neg (fun q => o195 q.2), if_neg o223, if_neg o236, if_neg o249, if_neg o262, if_neg o268, if_neg (fun q => o292 q.1), if_neg c317, if_neg (fun q => o341 q.2)] at hQ
                              exact tl_MOD_instruction ((endM_0 _ _ _ _ (by decide) (by decide)).trans hp) hp8 hQ
                        · refine E_aload_n d_MOD_instruction_320 rfl rfl ?_
                          refine E_iconst (v := 3) d_MOD_instruction_321 (by decide) ?_
                          refine E_V1v d_MOD_instruction_322 w_MOD_128 rfl (by decide) (Nat.le_of_ble_eq_true rfl) (c_MOD_fault hp hp8 hm (by omega)) ?_
                          rintro _ rfl
                          refine E_goto (tgt := 349) d_MOD_instruction_325 (by decide) ?_
                          rw [insX, if_neg o74, if_neg o99, if_neg o126, if_neg (fun q => o195 q.2), if_neg o223, if_neg o236, if_neg o249, if_neg o262, if_neg o268, if_neg (fun q => o292 q.1), if_pos c317] at hQ
                          exact tl_MOD_instruction ((endM_0 _ _ _ _ (by decide) (by decide)).trans hp) hp8 hQ
                      · have o292 : bf (M 0 25) 0 7 = 115 := (nI_eq (b := 115) (by omega) (by decide)).mp c292
                        refine E_aload_n d_MOD_instruction_295 rfl rfl ?_
                        refine L_gi d_MOD_instruction_296 f_MOD_107 rfl (by decide) rfl (fr_M 0 25) ?_
                        refine E_bipush (v := 115) d_MOD_instruction_299 (by decide) ?_
                        refine E_icmp_ne (tgt := 311) d_MOD_instruction_301 (by decide) (fun c301 => ?_) (fun c301 => ?_)
                        · refine E_aload_n d_MOD_instruction_311 rfl rfl ?_
                          refine L_gi d_MOD_instruction_312 f_MOD_107 rfl (by decide) rfl (fr_M 0 25) ?_
                          refine E_ldc (v := 1048691) d_MOD_instruction_315 (by decide +kernel) ?_
                          refine E_icmp_ne (tgt := 328) d_MOD_instruction_317 (by decide) (fun c317 => ?_) (fun c317 => ?_)
                          · refine E_iload_n d_MOD_instruction_328 rfl ?_
                            refine E_bipush (v := 15) d_MOD_instruction_329 (by decide) ?_
                            refine E_icmp_ne (tgt := 344) d_MOD_instruction_331 (by decide) (fun c331 => ?_) (fun c331 => ?_)
                            · have o331 : ¬ bf (M 0 25) 0 7 = 15 := fun q => c331 (by rw [q]; rfl)
                              refine E_aload_n d_MOD_instruction_344 rfl rfl ?_
                              refine E_iconst (v := 2) d_MOD_instruction_345 (by decide) ?_
                              refine E_V1v d_MOD_instruction_346 w_MOD_128 rfl (by decide) (Nat.le_of_ble_eq_true rfl) (c_MOD_fault hp hp8 hm (by omega)) ?_
                              rintro _ rfl
                              rw [insX, if_neg o74, if_neg o99, if_neg o126, if_neg (fun q => o195 q.2), if_neg o223, if_neg o236, if_neg o249, if_neg o262, if_neg o268, if_neg (fun q => c301 q.2), if_neg c317, if_neg (fun q => o331 q.1)] at hQ
                              exact tl_MOD_instruction ((endM_0 _ _ _ _ (by decide) (by decide)).trans hp) hp8 hQ
                            · have o331 : bf (M 0 25) 0 7 = 15 := (nI_eq (b := 15) (by omega) (by decide)).mp c331
                              refine E_aload_n d_MOD_instruction_334 rfl rfl ?_
                              refine E_bipush (v := 12) d_MOD_instruction_335 (by decide) ?_
                              refine E_iconst (v := 3) d_MOD_instruction_337 (by decide) ?_
                              refine E_V2i d_MOD_instruction_338 w_MOD_110 rfl (by decide) (Nat.le_of_ble_eq_true rfl) (c_MOD_bits (a := 12) (k := 3) (by decide) (by decide) (by decide)) ?_
                              rintro _ _ ⟨rfl, rfl⟩
                              refine E_if_eq (tgt := 349) d_MOD_instruction_341 (by decide) (fun c341 => ?_) (fun c341 => ?_)
                              · have o341 : bf (M 0 25) 12 3 = 0 := (nI_eq (b := 0) (by omega) (by decide)).mp c341
                                rw [insX, if_neg o74, if_neg o99, if_neg o126, if_neg (fun q => o195 q.2), if_neg o223, if_neg o236, if_neg o249, if_neg o262, if_neg o268, if_neg (fun q => c301 q.2), if_neg c317, if_pos ⟨o331, o341⟩] at hQ
                                exact tl_MOD_instruction hp hp8 hQ
                              · have o341 : ¬ bf (M 0 25) 12 3 = 0 := fun q => c341 (by rw [q]; rfl)
                                refine E_aload_n d_MOD_instruction_344 rfl rfl ?_
                                refine E_iconst (v := 2) d_MOD_instruction_345 (by decide) ?_
                                refine E_V1v d_MOD_instruction_346 w_MOD_128 rfl (by decide) (Nat.le_of_ble_eq_true rfl) (c_MOD_fault hp hp8 hm (by omega)) ?_
                                rintro _ rfl
                                rw [insX, if_neg o74, if_neg o99, if_neg o126, if_neg (fun q => o195 q.2), if_neg o223, if_neg o236, if_neg o249, if_neg o262, if_neg o268, if_neg (fun q => c301 q.2), if_neg c317, if_neg (fun q => o341 q.2)] at hQ
                                exact tl_MOD_instruction ((endM_0 _ _ _ _ (by decide) (by decide)).trans hp) hp8 hQ
                          · refine E_aload_n d_MOD_instruction_320 rfl rfl ?_
                            refine E_iconst (v := 3) d_MOD_instruction_321 (by decide) ?_
                            refine E_V1v d_MOD_instruction_322 w_MOD_128 rfl (by decide) (Nat.le_of_ble_eq_true rfl) (c_MOD_fault hp hp8 hm (by omega)) ?_
                            rintro _ rfl
                            refine E_goto (tgt := 349) d_MOD_instruction_325 (by decide) ?_
                            rw [insX, if_neg o74, if_neg o99, if_neg o126, if_neg (fun q => o195 q.2), if_neg o223, if_neg o236, if_neg o249, if_neg o262, if_neg o268, if_neg (fun q => c301 q.2), if_pos c317] at hQ
                            exact tl_MOD_instruction ((endM_0 _ _ _ _ (by decide) (by decide)).trans hp) hp8 hQ
                        · refine E_aload_n d_MOD_instruction_304 rfl rfl ?_
                          refine E_V0v d_MOD_instruction_305 w_MOD_157 rfl (by decide) (Nat.le_of_ble_eq_true rfl) (c_MOD_call hw) ?_
                          rintro _ rfl
                          refine E_goto (tgt := 349) d_MOD_instruction_308 (by decide) ?_
                          rw [insX, if_neg o74, if_neg o99, if_neg o126, if_neg (fun q => o195 q.2), if_neg o223, if_neg o236, if_neg o249, if_neg o262, if_neg o268, if_pos ⟨o292, c301⟩] at hQ
                          exact tl_MOD_instruction ((calM_24).trans hp) hp8 hQ
                    · have o268 : bf (M 0 25) 0 7 = 51 := (nI_eq (b := 51) (by omega) (by decide)).mp c268
                      refine E_aload_n d_MOD_instruction_271 rfl rfl ?_
                      refine E_iload_n d_MOD_instruction_272 rfl ?_
                      refine E_bipush (v := 51) d_MOD_instruction_273 (by decide) ?_
                      refine E_icmp_ne (tgt := 282) d_MOD_instruction_275 (by decide) (fun c => absurd c268 c) (fun _ => ?_)
                      refine E_iconst (v := 1) d_MOD_instruction_278 (by decide) ?_
                      refine E_goto (tgt := 283) d_MOD_instruction_279 (by decide) ?_
                      refine E_V1v d_MOD_instruction_283 w_MOD_153 rfl (by decide) (Nat.le_of_ble_eq_true rfl) (c_MOD_compute (two := true) hp hp8 hm (by omega)) ?_
                      rintro _ rfl
                      refine E_goto (tgt := 349) d_MOD_instruction_286 (by decide) ?_
                      rw [insX, if_neg o74, if_neg o99, if_neg o126, if_neg (fun q => o195 q.2), if_neg o223, if_neg o236, if_neg o249, if_neg o262, if_pos o268] at hQ
                      exact tl_MOD_instruction ((cmpM_24 _).trans hp) hp8 hQ
                · have o249 : bf (M 0 25) 0 7 = 35 := (nI_eq (b := 35) (by omega) (by decide)).mp c249
                  refine E_aload_n d_MOD_instruction_252 rfl rfl ?_
                  refine E_V0v d_MOD_instruction_253 w_MOD_150 rfl (by decide) (Nat.le_of_ble_eq_true rfl) (c_MOD_write hp hp8 hm (by omega) hs hs8 hpg hgo) ?_
                  rintro _ rfl
                  refine E_goto (tgt := 349) d_MOD_instruction_256 (by decide) ?_
                  rw [insX, if_neg o74, if_neg o99, if_neg o126, if_neg (fun q => o195 q.2), if_neg o223, if_neg o236, if_pos o249] at hQ
                  exact tl_MOD_instruction ((wrtM_24).trans hp) hp8 hQ
              · have o236 : bf (M 0 25) 0 7 = 3 := (nI_eq (b := 3) (by omega) (by decide)).mp c236
                refine E_aload_n d_MOD_instruction_239 rfl rfl ?_
                refine E_V0v d_MOD_instruction_240 w_MOD_147 rfl (by decide) (Nat.le_of_ble_eq_true rfl) (c_MOD_read hp hp8 hm (by omega) hs hs8 hpg hgo) ?_
                rintro _ rfl
                refine E_goto (tgt := 349) d_MOD_instruction_243 (by decide) ?_
                rw [insX, if_neg o74, if_neg o99, if_neg o126, if_neg (fun q => o195 q.2), if_neg o223, if_pos o236] at hQ
                exact tl_MOD_instruction ((redM_24).trans hp) hp8 hQ
            · have o223 : bf (M 0 25) 0 7 = 99 := (nI_eq (b := 99) (by omega) (by decide)).mp c223
              refine E_aload_n d_MOD_instruction_226 rfl rfl ?_
              refine E_iload_n d_MOD_instruction_227 rfl ?_
              refine E_V1v d_MOD_instruction_228 w_MOD_144 rfl (by decide) (Nat.le_of_ble_eq_true rfl) (c_MOD_branch hp hp8 hm (by omega)) ?_
              rintro _ rfl
              refine E_goto (tgt := 349) d_MOD_instruction_231 (by decide) ?_
              rw [insX, if_neg o74, if_neg o99, if_neg o126, if_neg (fun q => o195 q.2), if_pos o223] at hQ
              exact tl_MOD_instruction ((brM_24 _).trans hp) hp8 hQ
          · have o195 : bf (M 0 25) 12 3 = 0 := (nI_eq (b := 0) (by omega) (by decide)).mp c195
            refine E_aload_n d_MOD_instruction_198 rfl rfl ?_
            refine E_aload_n d_MOD_instruction_199 rfl rfl ?_
            refine E_V0i d_MOD_instruction_200 w_MOD_141 rfl (by decide) (Nat.le_of_ble_eq_true rfl) (c_MOD_s hp hp8) ?_
            rintro _ _ ⟨rfl, rfl⟩
            refine E_aload_n d_MOD_instruction_203 rfl rfl ?_
            refine L_gi d_MOD_instruction_204 f_MOD_107 rfl (by decide) rfl (fr_M 0 25) ?_
            refine E_bipush (v := 20) d_MOD_instruction_207 (by decide) ?_
            refine E_ishr d_MOD_instruction_209 ?_
            refine E_iadd d_MOD_instruction_210 ?_
            refine E_bipush (v := -2) d_MOD_instruction_211 (by decide) ?_
            refine E_iand d_MOD_instruction_213 ?_
            refine E_V1v d_MOD_instruction_214 w_MOD_138 rfl (by decide) (Nat.le_of_ble_eq_true rfl) (c_MOD_jump hp hp8 hm (by omega)) ?_
            rintro _ rfl
            refine E_goto (tgt := 349) d_MOD_instruction_217 (by decide) ?_
            rw [insX, if_neg o74, if_neg o99, if_neg o126, if_pos ⟨o185, o195⟩] at hQ
            exact tl_MOD_instruction ((jmpM_24 _).trans hp) hp8 hQ
      · have o126 : bf (M 0 25) 0 7 = 111 := (nI_eq (b := 111) (by omega) (by decide)).mp c126
        refine E_aload_n d_MOD_instruction_129 rfl rfl ?_
        refine E_iload_n d_MOD_instruction_130 rfl ?_
        refine E_aload_n d_MOD_instruction_131 rfl rfl ?_
        refine L_gi d_MOD_instruction_132 f_MOD_107 rfl (by decide) rfl (fr_M 0 25) ?_
        refine E_bipush (v := 31) d_MOD_instruction_135 (by decide) ?_
        refine E_ishr d_MOD_instruction_137 ?_
        refine E_bipush (v := 20) d_MOD_instruction_138 (by decide) ?_
        refine E_ishl d_MOD_instruction_140 ?_
        refine E_aload_n d_MOD_instruction_141 rfl rfl ?_
        refine E_bipush (v := 12) d_MOD_instruction_142 (by decide) ?_
        refine E_bipush (v := 8) d_MOD_instruction_144 (by decide) ?_
        refine E_V2i d_MOD_instruction_146 w_MOD_110 rfl (by decide) (Nat.le_of_ble_eq_true rfl) (c_MOD_bits (a := 12) (k := 8) (by decide) (by decide) (by decide)) ?_
        rintro _ _ ⟨rfl, rfl⟩
        refine E_bipush (v := 12) d_MOD_instruction_149 (by decide) ?_
        refine E_ishl d_MOD_instruction_151 ?_
        refine E_ior d_MOD_instruction_152 ?_
        refine E_aload_n d_MOD_instruction_153 rfl rfl ?_
        refine E_bipush (v := 20) d_MOD_instruction_154 (by decide) ?_
        refine E_iconst (v := 1) d_MOD_instruction_156 (by decide) ?_
        refine E_V2i d_MOD_instruction_157 w_MOD_110 rfl (by decide) (Nat.le_of_ble_eq_true rfl) (c_MOD_bits (a := 20) (k := 1) (by decide) (by decide) (by decide)) ?_
        rintro _ _ ⟨rfl, rfl⟩
        refine E_bipush (v := 11) d_MOD_instruction_160 (by decide) ?_
        refine E_ishl d_MOD_instruction_162 ?_
        refine E_ior d_MOD_instruction_163 ?_
        refine E_aload_n d_MOD_instruction_164 rfl rfl ?_
        refine E_bipush (v := 21) d_MOD_instruction_165 (by decide) ?_
        refine E_bipush (v := 10) d_MOD_instruction_167 (by decide) ?_
        refine E_V2i d_MOD_instruction_169 w_MOD_110 rfl (by decide) (Nat.le_of_ble_eq_true rfl) (c_MOD_bits (a := 21) (k := 10) (by decide) (by decide) (by decide)) ?_
        rintro _ _ ⟨rfl, rfl⟩
        refine E_iconst (v := 1) d_MOD_instruction_172 (by decide) ?_
        refine E_ishl d_MOD_instruction_173 ?_
        refine E_ior d_MOD_instruction_174 ?_
        refine E_iadd d_MOD_instruction_175 ?_
        refine E_V1v d_MOD_instruction_176 w_MOD_138 rfl (by decide) (Nat.le_of_ble_eq_true rfl) (c_MOD_jump hp hp8 hm (by omega)) ?_
        rintro _ rfl
        refine E_goto (tgt := 349) d_MOD_instruction_179 (by decide) ?_
        rw [insX, if_neg o74, if_neg o99, if_pos o126] at hQ
        exact tl_MOD_instruction ((jmpM_24 _).trans hp) hp8 hQ
    · have o99 : bf (M 0 25) 0 7 = 23 := (nI_eq (b := 23) (by omega) (by decide)).mp c99
      refine E_aload_n d_MOD_instruction_102 rfl rfl ?_
      refine E_aload_n d_MOD_instruction_103 rfl rfl ?_
      refine E_V0i d_MOD_instruction_104 w_MOD_131 rfl (by decide) (Nat.le_of_ble_eq_true rfl) (c_MOD_d) ?_
      rintro _ _ ⟨rfl, rfl⟩
      refine E_iload_n d_MOD_instruction_107 rfl ?_
      refine E_aload_n d_MOD_instruction_108 rfl rfl ?_
      refine L_gi d_MOD_instruction_109 f_MOD_107 rfl (by decide) rfl (fr_M 0 25) ?_
      refine E_sipush (v := -4096) d_MOD_instruction_112 (by decide) ?_
      refine E_iand d_MOD_instruction_115 ?_
      refine E_iadd d_MOD_instruction_116 ?_
      refine E_V2v d_MOD_instruction_117 w_MOD_135 rfl (by decide) (Nat.le_of_ble_eq_true rfl) (c_MOD_set hp hp8 (bf_lt _ _ 5)) ?_
      rintro _ rfl
      refine E_goto (tgt := 349) d_MOD_instruction_120 (by decide) ?_
      rw [insX, if_neg o74, if_pos o99] at hQ
      exact tl_MOD_instruction ((setM_0 _ _ _).trans hp) hp8 hQ
  · have o74 : bf (M 0 25) 0 7 = 55 := (nI_eq (b := 55) (by omega) (by decide)).mp c74
    refine E_aload_n d_MOD_instruction_77 rfl rfl ?_
    refine E_aload_n d_MOD_instruction_78 rfl rfl ?_
    refine E_V0i d_MOD_instruction_79 w_MOD_131 rfl (by decide) (Nat.le_of_ble_eq_true rfl) (c_MOD_d) ?_
    rintro _ _ ⟨rfl, rfl⟩
    refine E_aload_n d_MOD_instruction_82 rfl rfl ?_
    refine L_gi d_MOD_instruction_83 f_MOD_107 rfl (by decide) rfl (fr_M 0 25) ?_
    refine E_sipush (v := -4096) d_MOD_instruction_86 (by decide) ?_
    refine E_iand d_MOD_instruction_89 ?_
    refine E_V2v d_MOD_instruction_90 w_MOD_135 rfl (by decide) (Nat.le_of_ble_eq_true rfl) (c_MOD_set hp hp8 (bf_lt _ _ 5)) ?_
    rintro _ rfl
    refine E_goto (tgt := 349) d_MOD_instruction_93 (by decide) ?_
    rw [insX, if_pos o74] at hQ
    exact tl_MOD_instruction ((setM_0 _ _ _).trans hp) hp8 hQ
theorem c_MOD_instruction {G : iG} {F : Nat} {C M : Nat → Nat → Int32} {p m s fr : Nat} (hw : CW M p m s fr) : MV G m_MOD_instruction 6 [vR 50] (HW F C M) (fun h' => h' = HW F C (insM M p m s fr)) := by
  refine Mt.of' (Ls := [some (vR 50), none, none]) (by decide) (by simp [ct]) (Nat.le_of_ble_eq_true rfl) rfl ?_
  obtain ⟨hp, hp1, hp8, hm, hm8, hs, hs8, hpg, hf, hfr, h4, hed, hct, hsh⟩ := id hw
  obtain ⟨pc, hpc⟩ : ∃ pc, pc = M 7 p := ⟨_, rfl⟩
  refine E_aload_n d_MOD_instruction_0 rfl rfl ?_
  refine L_gr d_MOD_instruction_1 f_MOD_28 rfl (by decide) rfl rfl ?_
  refine E_aload_n d_MOD_instruction_4 rfl rfl ?_
  refine L_gi d_MOD_instruction_5 f_MOD_97 rfl (by decide) rfl (fr_M 0 24) ?_
  refine E_tp (y := nI (p)) hp ?_
  refine L_ld (j := p) d_MOD_instruction_8 rfl rfl (by omega) (by decide) (fr_M 7 _) ?_
  refine E_tp (y := pc) hpc.symm ?_
  refine E_istore_n d_MOD_instruction_9 (by decide) ?_
  refine E_aload_n d_MOD_instruction_10 rfl rfl ?_
  refine E_iconst (v := 1) d_MOD_instruction_11 (by decide) ?_
  refine L_pi d_MOD_instruction_12 f_MOD_100 rfl (by decide) (Or.inr ⟨rfl, (by decide)⟩) rfl (fu_M 0 27 _) ?_
  refine E_aload_n d_MOD_instruction_15 rfl rfl ?_
  refine E_iconst (v := 0) d_MOD_instruction_16 (by decide) ?_
  refine L_pi d_MOD_instruction_17 f_MOD_118 rfl (by decide) (Or.inr ⟨rfl, (by decide)⟩) rfl (fu_M 0 19 _) ?_
  refine E_aload_n d_MOD_instruction_20 rfl rfl ?_
  refine E_iload_n d_MOD_instruction_21 rfl ?_
  refine E_iconst (v := 4) d_MOD_instruction_22 (by decide) ?_
  refine E_iadd d_MOD_instruction_23 ?_
  refine L_pi d_MOD_instruction_24 f_MOD_121 rfl (by decide) (Or.inl rfl) rfl (fu_M 0 26 _) ?_
  refine E_aload_n d_MOD_instruction_27 rfl rfl ?_
  refine E_aload_n d_MOD_instruction_28 rfl rfl ?_
  refine L_gi d_MOD_instruction_29 f_MOD_97 rfl (by decide) rfl (fr_M 0 24) ?_
  refine E_tp (y := nI (p)) (by simp [up2, hp]) ?_
  refine E_iload_n d_MOD_instruction_32 rfl ?_
  refine E_V2i d_MOD_instruction_33 w_MOD_124 rfl (by decide) (Nat.le_of_ble_eq_true rfl) (c_MOD_there hp8 (s := s) (by simp [up2, hs])) ?_
  rintro _ _ ⟨rfl, rfl⟩
  rw [show up2 (up2 (up2 M 0 27 1) 0 19 0) 0 26 (pc + 4) = ins1 M p by rw [hpc]; rfl]
  refine E_if_ne (tgt := 45) d_MOD_instruction_36 (by decide) (fun c36 => ?_) (fun c36 => ?_)
  · have ok : 0 ≤ pc ∧ pc < nI (64 * s) := by by_cases h : 0 ≤ pc ∧ pc < nI (64 * s); exact h; exact absurd (by simp [h, b2i]) c36
    obtain ⟨a, ha, ea⟩ : ∃ a : Nat, a < 64 * s ∧ pc = nI a := by rcases pk_ix pc (n := 64 * s) (by omega) with q | q | q; exact absurd q (Int32.not_lt.mpr ok.1); exact absurd ok.2 (Int32.not_lt.mpr q); exact q
    obtain ⟨f, hf40, hff⟩ := hpg (a / 64) (by omega)
    have eM : insM M p m s fr = fin (insX (ins2 M p a) p m s fr pc) p := by rw [insM, ← hpc, if_pos ok, ea, nv_nI (by omega)]
    refine E_aload_n d_MOD_instruction_45 rfl rfl ?_
    refine E_aload_n d_MOD_instruction_46 rfl rfl ?_
    refine L_gr d_MOD_instruction_47 f_MOD_7 rfl (by decide) rfl rfl ?_
    refine E_aload_n d_MOD_instruction_50 rfl rfl ?_
    refine E_aload_n d_MOD_instruction_51 rfl rfl ?_
    refine L_gi d_MOD_instruction_52 f_MOD_97 rfl (by decide) rfl (fr_M 0 24) ?_
    refine E_tp (y := nI (p)) ((ins1_0 (by decide) (by decide) (by decide)).trans hp) ?_
    refine E_iload_n d_MOD_instruction_55 rfl ?_
    rw [ea]
    refine E_V2i d_MOD_instruction_56 w_MOD_80 rfl (by decide) (Nat.le_of_ble_eq_true rfl) (c_MOD_cellOf hp8 hs8 ha) ?_
    rintro _ _ ⟨rfl, rfl⟩
    refine E_tp (y := nI (16 * f + a % 64 / 4)) (by rw [ins1_ne _ (by decide), hff, pk_mul, nI_add]) ?_
    refine L_ld (j := 16 * f + a % 64 / 4) d_MOD_instruction_59 rfl rfl (by omega) (by decide) (fr_M 1 _) ?_
    refine E_tp (y := M 1 (cel M p a)) (by rw [ins1_ne _ (by decide), cel, hff, nv_nI (by omega)]) ?_
    refine L_pi d_MOD_instruction_60 f_MOD_107 rfl (by decide) (Or.inl rfl) rfl (fu_M 0 25 _) ?_
    exact md_MOD_instruction (M := ins2 M p a) hw.ins (by simp [ins2, ins1, up2]) ⟨rfl, by rw [eM, ea]⟩
  · have ok : ¬ (0 ≤ pc ∧ pc < nI (64 * s)) := fun h => by simp [h, b2i] at c36
    refine E_aload_n d_MOD_instruction_39 rfl rfl ?_
    refine E_iconst (v := 1) d_MOD_instruction_40 (by decide) ?_
    refine E_V1v d_MOD_instruction_41 w_MOD_128 rfl (by decide) (Nat.le_of_ble_eq_true rfl) (c_MOD_fault ((ins1_0 (by decide) (by decide) (by decide)).trans hp) hp8 ((ins1_0 (by decide) (by decide) (by decide)).trans hm) (by omega)) ?_
    rintro _ rfl
    exact E_return d_MOD_instruction_44 rfl rfl ⟨rfl, by rw [insM, ← hpc, if_neg ok]⟩

set_option maxRecDepth 100000 in
theorem s_P_init : IMk m_P_init 0 := ⟨⟨(gw_at 75 (by decide +kernel) (by decide +kernel)), (gw_at 160 rfl rfl), by decide, by decide +kernel⟩, rfl, (gw_at 159 (by decide +kernel) (by decide +kernel)), rfl⟩
set_option maxRecDepth 100000 in
theorem s_P_isEmpty : VMk 3 m_P_isEmpty 0 := ⟨⟨(gw_at 75 (by decide +kernel) (by decide +kernel)), (gw_at 420 rfl rfl), by decide, by decide +kernel⟩, (gw_at 418 (by decide +kernel) (by decide +kernel)), (gw_at 419 (by decide +kernel) (by decide +kernel)), ⟨_, rfl, rfl⟩⟩
set_option maxRecDepth 100000 in
theorem s_P_isFull : VMk 3 m_P_isFull 0 := ⟨⟨(gw_at 75 (by decide +kernel) (by decide +kernel)), (gw_at 409 rfl rfl), by decide, by decide +kernel⟩, (gw_at 407 (by decide +kernel) (by decide +kernel)), (gw_at 408 (by decide +kernel) (by decide +kernel)), ⟨_, rfl, rfl⟩⟩
set_option maxRecDepth 100000 in
theorem s_P_put : VMk 3 m_P_put 1 := ⟨⟨(gw_at 75 (by decide +kernel) (by decide +kernel)), (gw_at 481 rfl rfl), by decide, by decide +kernel⟩, (gw_at 479 (by decide +kernel) (by decide +kernel)), (gw_at 480 (by decide +kernel) (by decide +kernel)), ⟨_, rfl, rfl⟩⟩
set_option maxRecDepth 100000 in
theorem s_P_take : VMk 3 m_P_take 0 := ⟨⟨(gw_at 75 (by decide +kernel) (by decide +kernel)), (gw_at 490 rfl rfl), by decide, by decide +kernel⟩, (gw_at 488 (by decide +kernel) (by decide +kernel)), (gw_at 489 (by decide +kernel) (by decide +kernel)), ⟨_, rfl, rfl⟩⟩
set_option maxRecDepth 100000 in
theorem s_P_empty : VMk 3 m_P_empty 0 := ⟨⟨(gw_at 75 (by decide +kernel) (by decide +kernel)), (gw_at 511 rfl rfl), by decide, by decide +kernel⟩, (gw_at 509 (by decide +kernel) (by decide +kernel)), (gw_at 510 (by decide +kernel) (by decide +kernel)), ⟨_, rfl, rfl⟩⟩
set_option maxRecDepth 100000 in
theorem s_ROW_init : IMk m_ROW_init 0 := ⟨⟨(gw_at 76 (by decide +kernel) (by decide +kernel)), (gw_at 177 rfl rfl), by decide, by decide +kernel⟩, rfl, (gw_at 176 (by decide +kernel) (by decide +kernel)), rfl⟩
set_option maxRecDepth 100000 in
theorem s_ROW_append : VMk 4 m_ROW_append 1 := ⟨⟨(gw_at 76 (by decide +kernel) (by decide +kernel)), (gw_at 261 rfl rfl), by decide, by decide +kernel⟩, (gw_at 259 (by decide +kernel) (by decide +kernel)), (gw_at 260 (by decide +kernel) (by decide +kernel)), ⟨_, rfl, rfl⟩⟩
set_option maxRecDepth 100000 in
theorem s_ROW_at : VMk 4 m_ROW_at 1 := ⟨⟨(gw_at 76 (by decide +kernel) (by decide +kernel)), (gw_at 277 rfl rfl), by decide, by decide +kernel⟩, (gw_at 275 (by decide +kernel) (by decide +kernel)), (gw_at 276 (by decide +kernel) (by decide +kernel)), ⟨_, rfl, rfl⟩⟩
set_option maxRecDepth 100000 in
theorem s_ROW_takeFirst : VMk 4 m_ROW_takeFirst 0 := ⟨⟨(gw_at 76 (by decide +kernel) (by decide +kernel)), (gw_at 273 rfl rfl), by decide, by decide +kernel⟩, (gw_at 271 (by decide +kernel) (by decide +kernel)), (gw_at 272 (by decide +kernel) (by decide +kernel)), ⟨_, rfl, rfl⟩⟩
set_option maxRecDepth 100000 in
theorem s_ROW_drop : VMk 4 m_ROW_drop 1 := ⟨⟨(gw_at 76 (by decide +kernel) (by decide +kernel)), (gw_at 281 rfl rfl), by decide, by decide +kernel⟩, (gw_at 279 (by decide +kernel) (by decide +kernel)), (gw_at 280 (by decide +kernel) (by decide +kernel)), ⟨_, rfl, rfl⟩⟩
set_option maxRecDepth 100000 in
theorem s_T_init : IMk m_T_init 1 := ⟨⟨(gw_at 74 (by decide +kernel) (by decide +kernel)), (gw_at 117 rfl rfl), by decide, by decide +kernel⟩, rfl, (gw_at 116 (by decide +kernel) (by decide +kernel)), rfl⟩
set_option maxRecDepth 100000 in
theorem s_T_getRegister : VMk 2 m_T_getRegister 1 := ⟨⟨(gw_at 74 (by decide +kernel) (by decide +kernel)), (gw_at 319 rfl rfl), by decide, by decide +kernel⟩, (gw_at 317 (by decide +kernel) (by decide +kernel)), (gw_at 318 (by decide +kernel) (by decide +kernel)), ⟨_, rfl, rfl⟩⟩
set_option maxRecDepth 100000 in
theorem s_T_setRegister : VMk 2 m_T_setRegister 2 := ⟨⟨(gw_at 74 (by decide +kernel) (by decide +kernel)), (gw_at 253 rfl rfl), by decide, by decide +kernel⟩, (gw_at 251 (by decide +kernel) (by decide +kernel)), (gw_at 252 (by decide +kernel) (by decide +kernel)), ⟨_, rfl, rfl⟩⟩
set_option maxRecDepth 100000 in
theorem s_T_endAt : VMk 2 m_T_endAt 1 := ⟨⟨(gw_at 74 (by decide +kernel) (by decide +kernel)), (gw_at 386 rfl rfl), by decide, by decide +kernel⟩, (gw_at 384 (by decide +kernel) (by decide +kernel)), (gw_at 385 (by decide +kernel) (by decide +kernel)), ⟨_, rfl, rfl⟩⟩
set_option maxRecDepth 100000 in
theorem s_T_leastNothing : VMk 2 m_T_leastNothing 1 := ⟨⟨(gw_at 74 (by decide +kernel) (by decide +kernel)), (gw_at 507 rfl rfl), by decide, by decide +kernel⟩, (gw_at 505 (by decide +kernel) (by decide +kernel)), (gw_at 506 (by decide +kernel) (by decide +kernel)), ⟨_, rfl, rfl⟩⟩
set_option maxRecDepth 100000 in
theorem s_T_forgetDescriptors : VMk 2 m_T_forgetDescriptors 0 := ⟨⟨(gw_at 74 (by decide +kernel) (by decide +kernel)), (gw_at 436 rfl rfl), by decide, by decide +kernel⟩, (gw_at 434 (by decide +kernel) (by decide +kernel)), (gw_at 435 (by decide +kernel) (by decide +kernel)), ⟨_, rfl, rfl⟩⟩
set_option maxRecDepth 100000 in
theorem s_T_isChildOf : VMk 2 m_T_isChildOf 1 := ⟨⟨(gw_at 74 (by decide +kernel) (by decide +kernel)), (gw_at 394 rfl rfl), by decide, by decide +kernel⟩, (gw_at 392 (by decide +kernel) (by decide +kernel)), (gw_at 393 (by decide +kernel) (by decide +kernel)), ⟨_, rfl, rfl⟩⟩
set_option maxRecDepth 100000 in
theorem s_T_sleeps : VMk 2 m_T_sleeps 0 := ⟨⟨(gw_at 74 (by decide +kernel) (by decide +kernel)), (gw_at 535 rfl rfl), by decide, by decide +kernel⟩, (gw_at 533 (by decide +kernel) (by decide +kernel)), (gw_at 534 (by decide +kernel) (by decide +kernel)), ⟨_, rfl, rfl⟩⟩
set_option maxRecDepth 100000 in
theorem s_T_copyFrom : VMk 2 m_T_copyFrom 1 := ⟨⟨(gw_at 74 (by decide +kernel) (by decide +kernel)), (gw_at 453 rfl rfl), by decide, by decide +kernel⟩, (gw_at 451 (by decide +kernel) (by decide +kernel)), (gw_at 452 (by decide +kernel) (by decide +kernel)), ⟨_, rfl, rfl⟩⟩
set_option maxRecDepth 100000 in
theorem s_LAW_cell : SMk m_LAW_cell 2 := ⟨⟨(gw_at 71 (by decide +kernel) (by decide +kernel)), (gw_at 604 rfl rfl), by decide, by decide +kernel⟩, (gw_at 603 (by decide +kernel) (by decide +kernel))⟩
set_option maxRecDepth 100000 in
theorem w_K_1 : Cond.methodLink R_K 1 Lib.objectInit ∈ gw ∧ Cond.instanceMethod Lib.objectInit ∈ gw ∧ Cond.code Lib.objectInit ⟨#[0xb1]⟩ 1 none ∈ gw := ⟨(gw_at 85 (by decide +kernel) (by decide +kernel)), (gw_at 86 (by decide +kernel) (by decide +kernel)), (gw_at 87 rfl rfl)⟩
theorem n_K_7 : NWk R_K 7 1 3 := ⟨_, rfl, rfl, (gw_at 88 (by decide +kernel) (by decide +kernel)), (gw_at 89 (by decide +kernel) (by decide +kernel)), (gw_at 73 (by decide +kernel) (by decide +kernel))⟩
theorem w_K_11 : CSk R_K 11 m_K_within 3 := ⟨(gw_at 90 (by decide +kernel) (by decide +kernel)), s_K_within⟩
theorem w_K_15 : CIk R_K 15 m_MEM_init 1 := ⟨(gw_at 93 (by decide +kernel) (by decide +kernel)), s_MEM_init⟩
theorem f_K_18 : FLk R_K 18 0 0 := ⟨_, rfl, by decide, (gw_at 186 (by decide +kernel) (by decide +kernel))⟩
theorem f_K_22 : FLk R_K 22 0 4 := ⟨_, rfl, by decide, (gw_at 190 (by decide +kernel) (by decide +kernel))⟩
theorem na_K_26 : Cond.classLink R_K 26 R_T ∈ gw := (gw_at 112 (by decide +kernel) (by decide +kernel))
theorem f_K_28 : FLk R_K 28 0 1 := ⟨_, rfl, by decide, (gw_at 187 (by decide +kernel) (by decide +kernel))⟩
theorem n_K_26 : NWk R_K 26 2 9 := ⟨_, rfl, rfl, (gw_at 112 (by decide +kernel) (by decide +kernel)), (gw_at 114 (by decide +kernel) (by decide +kernel)), (gw_at 74 (by decide +kernel) (by decide +kernel))⟩
theorem w_K_32 : CIk R_K 32 m_T_init 1 := ⟨(gw_at 115 (by decide +kernel) (by decide +kernel)), s_T_init⟩
theorem na_K_33 : Cond.classLink R_K 33 R_P ∈ gw := (gw_at 155 (by decide +kernel) (by decide +kernel))
theorem f_K_35 : FLk R_K 35 0 2 := ⟨_, rfl, by decide, (gw_at 188 (by decide +kernel) (by decide +kernel))⟩
theorem n_K_33 : NWk R_K 33 3 3 := ⟨_, rfl, rfl, (gw_at 155 (by decide +kernel) (by decide +kernel)), (gw_at 157 (by decide +kernel) (by decide +kernel)), (gw_at 75 (by decide +kernel) (by decide +kernel))⟩
theorem n_K_40 : NWk R_K 40 4 2 := ⟨_, rfl, rfl, (gw_at 173 (by decide +kernel) (by decide +kernel)), (gw_at 174 (by decide +kernel) (by decide +kernel)), (gw_at 76 (by decide +kernel) (by decide +kernel))⟩
theorem f_K_43 : FLk R_K 43 0 3 := ⟨_, rfl, by decide, (gw_at 189 (by decide +kernel) (by decide +kernel))⟩
theorem f_K_47 : FLk R_K 47 0 5 := ⟨_, rfl, by decide, (gw_at 191 (by decide +kernel) (by decide +kernel))⟩
theorem f_K_51 : FLk R_K 51 0 6 := ⟨_, rfl, by decide, (gw_at 192 (by decide +kernel) (by decide +kernel))⟩
theorem f_K_54 : FLk R_K 54 0 9 := ⟨_, rfl, by decide, (gw_at 195 (by decide +kernel) (by decide +kernel))⟩
theorem f_K_58 : FLk R_K 58 0 7 := ⟨_, rfl, by decide, (gw_at 193 (by decide +kernel) (by decide +kernel))⟩
theorem f_K_61 : FLk R_K 61 1 2 := ⟨_, rfl, by decide, (gw_at 102 (by decide +kernel) (by decide +kernel))⟩
theorem w_K_64 : CVk R_K 64 1 m_MEM_give 2 := ⟨(gw_at 234 (by decide +kernel) (by decide +kernel)), s_MEM_give⟩
theorem w_K_68 : CVk R_K 68 1 m_MEM_copyProgram 3 := ⟨(gw_at 242 (by decide +kernel) (by decide +kernel)), s_MEM_copyProgram⟩
theorem w_K_72 : CVk R_K 72 2 m_T_setRegister 2 := ⟨(gw_at 250 (by decide +kernel) (by decide +kernel)), s_T_setRegister⟩
theorem f_K_76 : FLk R_K 76 2 3 := ⟨_, rfl, by decide, (gw_at 125 (by decide +kernel) (by decide +kernel))⟩
theorem w_K_79 : CVk R_K 79 0 m_K_makeReady 1 := ⟨(gw_at 254 (by decide +kernel) (by decide +kernel)), s_K_makeReady⟩
theorem w_K_83 : CVk R_K 83 0 m_K_makeStep 0 := ⟨(gw_at 266 (by decide +kernel) (by decide +kernel)), s_K_makeStep⟩
theorem w_K_87 : CVk R_K 87 0 m_K_allHaveEnded 0 := ⟨(gw_at 536 (by decide +kernel) (by decide +kernel)), s_K_allHaveEnded⟩
theorem f_K_91 : FLk R_K 91 0 10 := ⟨_, rfl, by decide, (gw_at 196 (by decide +kernel) (by decide +kernel))⟩
theorem w_K_94 : CVk R_K 94 0 m_K_find 1 := ⟨(gw_at 282 (by decide +kernel) (by decide +kernel)), s_K_find⟩
theorem f_K_98 : FLk R_K 98 2 5 := ⟨_, rfl, by decide, (gw_at 129 (by decide +kernel) (by decide +kernel))⟩
theorem f_K_101 : FLk R_K 101 2 8 := ⟨_, rfl, by decide, (gw_at 135 (by decide +kernel) (by decide +kernel))⟩
theorem f_K_104 : FLk R_K 104 2 7 := ⟨_, rfl, by decide, (gw_at 134 (by decide +kernel) (by decide +kernel))⟩
theorem f_K_107 : FLk R_K 107 2 4 := ⟨_, rfl, by decide, (gw_at 127 (by decide +kernel) (by decide +kernel))⟩
theorem w_K_110 : CVk R_K 110 2 m_T_getRegister 1 := ⟨(gw_at 382 (by decide +kernel) (by decide +kernel)), s_T_getRegister⟩
theorem f_K_114 : FLk R_K 114 2 6 := ⟨_, rfl, by decide, (gw_at 132 (by decide +kernel) (by decide +kernel))⟩
theorem w_K_117 : CVk R_K 117 1 m_MEM_placeOf 2 := ⟨(gw_at 580 (by decide +kernel) (by decide +kernel)), s_MEM_placeOf⟩
theorem f_K_121 : FLk R_K 121 1 0 := ⟨_, rfl, by decide, (gw_at 99 (by decide +kernel) (by decide +kernel))⟩
theorem w_K_124 : CVk R_K 124 2 m_T_endAt 1 := ⟨(gw_at 383 (by decide +kernel) (by decide +kernel)), s_T_endAt⟩
theorem w_K_127 : CVk R_K 127 0 m_K_isFreePipe 1 := ⟨(gw_at 500 (by decide +kernel) (by decide +kernel)), s_K_isFreePipe⟩
theorem f_K_131 : FLk R_K 131 3 2 := ⟨_, rfl, by decide, (gw_at 165 (by decide +kernel) (by decide +kernel))⟩
theorem f_K_134 : FLk R_K 134 0 8 := ⟨_, rfl, by decide, (gw_at 194 (by decide +kernel) (by decide +kernel))⟩
theorem w_K_137 : CVk R_K 137 4 m_ROW_at 1 := ⟨(gw_at 601 (by decide +kernel) (by decide +kernel)), s_ROW_at⟩
theorem f_K_140 : FLk R_K 140 2 0 := ⟨_, rfl, by decide, (gw_at 120 (by decide +kernel) (by decide +kernel))⟩
theorem w_K_143 : CVk R_K 143 4 m_ROW_append 1 := ⟨(gw_at 258 (by decide +kernel) (by decide +kernel)), s_ROW_append⟩
theorem w_K_146 : CVk R_K 146 4 m_ROW_takeFirst 0 := ⟨(gw_at 270 (by decide +kernel) (by decide +kernel)), s_ROW_takeFirst⟩
theorem f_K_149 : FLk R_K 149 0 11 := ⟨_, rfl, by decide, (gw_at 197 (by decide +kernel) (by decide +kernel))⟩
theorem f_K_152 : FLk R_K 152 0 12 := ⟨_, rfl, by decide, (gw_at 198 (by decide +kernel) (by decide +kernel))⟩
theorem w_K_155 : CSk R_K 155 m_X_execute 2 := ⟨(gw_at 286 (by decide +kernel) (by decide +kernel)), s_X_execute⟩
theorem w_K_161 : CVk R_K 161 0 m_K_beginCall 1 := ⟨(gw_at 374 (by decide +kernel) (by decide +kernel)), s_K_beginCall⟩
theorem w_K_165 : CVk R_K 165 0 m_K_answerOf 2 := ⟨(gw_at 421 (by decide +kernel) (by decide +kernel)), s_K_answerOf⟩
theorem w_K_168 : CVk R_K 168 0 m_K_end 2 := ⟨(gw_at 425 (by decide +kernel) (by decide +kernel)), s_K_end⟩
theorem w_K_171 : CVk R_K 171 0 m_K_passTurn 1 := ⟨(gw_at 524 (by decide +kernel) (by decide +kernel)), s_K_passTurn⟩
theorem w_K_174 : CVk R_K 174 0 m_K_wakeSleepers 0 := ⟨(gw_at 528 (by decide +kernel) (by decide +kernel)), s_K_wakeSleepers⟩
theorem w_K_177 : CVk R_K 177 2 m_T_sleeps 0 := ⟨(gw_at 532 (by decide +kernel) (by decide +kernel)), s_T_sleeps⟩
theorem w_K_180 : CVk R_K 180 0 m_K_obstacleOf 1 := ⟨(gw_at 378 (by decide +kernel) (by decide +kernel)), s_K_obstacleOf⟩
theorem w_K_184 : CVk R_K 184 0 m_K_hasChild 1 := ⟨(gw_at 387 (by decide +kernel) (by decide +kernel)), s_K_hasChild⟩
theorem w_K_187 : CVk R_K 187 0 m_K_endedChildOf 1 := ⟨(gw_at 395 (by decide +kernel) (by decide +kernel)), s_K_endedChildOf⟩
theorem w_K_191 : CSk R_K 191 m_K_isWritingEnd 1 := ⟨(gw_at 399 (by decide +kernel) (by decide +kernel)), s_K_isWritingEnd⟩
theorem w_K_194 : CVk R_K 194 0 m_K_pipeOf 1 := ⟨(gw_at 402 (by decide +kernel) (by decide +kernel)), s_K_pipeOf⟩
theorem w_K_198 : CVk R_K 198 3 m_P_isFull 0 := ⟨(gw_at 406 (by decide +kernel) (by decide +kernel)), s_P_isFull⟩
theorem w_K_201 : CVk R_K 201 0 m_K_isHeld 1 := ⟨(gw_at 410 (by decide +kernel) (by decide +kernel)), s_K_isHeld⟩
theorem w_K_204 : CSk R_K 204 m_K_isReadingEnd 1 := ⟨(gw_at 414 (by decide +kernel) (by decide +kernel)), s_K_isReadingEnd⟩
theorem w_K_207 : CVk R_K 207 3 m_P_isEmpty 0 := ⟨(gw_at 417 (by decide +kernel) (by decide +kernel)), s_P_isEmpty⟩
theorem w_K_210 : CVk R_K 210 0 m_K_fork 1 := ⟨(gw_at 442 (by decide +kernel) (by decide +kernel)), s_K_fork⟩
theorem w_K_213 : CVk R_K 213 0 m_K_collectChild 1 := ⟨(gw_at 462 (by decide +kernel) (by decide +kernel)), s_K_collectChild⟩
theorem w_K_216 : CVk R_K 216 0 m_K_grow 2 := ⟨(gw_at 466 (by decide +kernel) (by decide +kernel)), s_K_grow⟩
theorem w_K_219 : CVk R_K 219 0 m_K_write 2 := ⟨(gw_at 470 (by decide +kernel) (by decide +kernel)), s_K_write⟩
theorem w_K_223 : CVk R_K 223 0 m_K_read 1 := ⟨(gw_at 483 (by decide +kernel) (by decide +kernel)), s_K_read⟩
theorem w_K_226 : CVk R_K 226 0 m_K_openPipe 1 := ⟨(gw_at 492 (by decide +kernel) (by decide +kernel)), s_K_openPipe⟩
theorem w_K_229 : CVk R_K 229 0 m_K_close 2 := ⟨(gw_at 512 (by decide +kernel) (by decide +kernel)), s_K_close⟩
theorem w_K_232 : CVk R_K 232 0 m_K_duplicate 2 := ⟨(gw_at 516 (by decide +kernel) (by decide +kernel)), s_K_duplicate⟩
theorem w_K_235 : CVk R_K 235 0 m_K_kill 1 := ⟨(gw_at 520 (by decide +kernel) (by decide +kernel)), s_K_kill⟩
theorem w_K_238 : CVk R_K 238 0 m_K_leastAbsent 0 := ⟨(gw_at 446 (by decide +kernel) (by decide +kernel)), s_K_leastAbsent⟩
theorem w_K_242 : CVk R_K 242 2 m_T_copyFrom 1 := ⟨(gw_at 450 (by decide +kernel) (by decide +kernel)), s_T_copyFrom⟩
theorem w_K_245 : CVk R_K 245 1 m_MEM_copyPages 2 := ⟨(gw_at 457 (by decide +kernel) (by decide +kernel)), s_MEM_copyPages⟩
theorem w_K_249 : CVk R_K 249 2 m_T_isChildOf 1 := ⟨(gw_at 391 (by decide +kernel) (by decide +kernel)), s_T_isChildOf⟩
theorem w_K_252 : CVk R_K 252 0 m_K_print 1 := ⟨(gw_at 474 (by decide +kernel) (by decide +kernel)), s_K_print⟩
theorem w_K_255 : CVk R_K 255 3 m_P_put 1 := ⟨(gw_at 478 (by decide +kernel) (by decide +kernel)), s_P_put⟩
theorem w_K_258 : CVk R_K 258 3 m_P_take 0 := ⟨(gw_at 487 (by decide +kernel) (by decide +kernel)), s_P_take⟩
theorem w_K_261 : CVk R_K 261 0 m_K_leastFreeReadingEnd 0 := ⟨(gw_at 496 (by decide +kernel) (by decide +kernel)), s_K_leastFreeReadingEnd⟩
theorem w_K_264 : CVk R_K 264 2 m_T_leastNothing 1 := ⟨(gw_at 504 (by decide +kernel) (by decide +kernel)), s_T_leastNothing⟩
theorem w_K_267 : CVk R_K 267 3 m_P_empty 0 := ⟨(gw_at 508 (by decide +kernel) (by decide +kernel)), s_P_empty⟩
theorem w_K_270 : CVk R_K 270 1 m_MEM_takeBack 1 := ⟨(gw_at 429 (by decide +kernel) (by decide +kernel)), s_MEM_takeBack⟩
theorem w_K_273 : CVk R_K 273 2 m_T_forgetDescriptors 0 := ⟨(gw_at 433 (by decide +kernel) (by decide +kernel)), s_T_forgetDescriptors⟩
theorem w_K_276 : CVk R_K 276 4 m_ROW_drop 1 := ⟨(gw_at 437 (by decide +kernel) (by decide +kernel)), s_ROW_drop⟩
theorem w_K_279 : CVk R_K 279 0 m_K_handOverChildren 1 := ⟨(gw_at 438 (by decide +kernel) (by decide +kernel)), s_K_handOverChildren⟩
set_option maxRecDepth 100000 in
theorem w_MOD_1 : Cond.methodLink R_MOD 1 Lib.objectInit ∈ gw ∧ Cond.instanceMethod Lib.objectInit ∈ gw ∧ Cond.code Lib.objectInit ⟨#[0xb1]⟩ 1 none ∈ gw := ⟨(gw_at 610 (by decide +kernel) (by decide +kernel)), (gw_at 86 (by decide +kernel) (by decide +kernel)), (gw_at 87 rfl rfl)⟩
theorem f_MOD_7 : FLk R_MOD 7 5 2 := ⟨_, rfl, by decide, (gw_at 613 (by decide +kernel) (by decide +kernel))⟩
theorem f_MOD_13 : FLk R_MOD 13 5 3 := ⟨_, rfl, by decide, (gw_at 614 (by decide +kernel) (by decide +kernel))⟩
theorem f_MOD_16 : FLk R_MOD 16 5 5 := ⟨_, rfl, by decide, (gw_at 616 (by decide +kernel) (by decide +kernel))⟩
theorem f_MOD_19 : FLk R_MOD 19 5 7 := ⟨_, rfl, by decide, (gw_at 618 (by decide +kernel) (by decide +kernel))⟩
theorem f_MOD_22 : FLk R_MOD 22 5 8 := ⟨_, rfl, by decide, (gw_at 619 (by decide +kernel) (by decide +kernel))⟩
theorem f_MOD_25 : FLk R_MOD 25 5 9 := ⟨_, rfl, by decide, (gw_at 620 (by decide +kernel) (by decide +kernel))⟩
theorem f_MOD_28 : FLk R_MOD 28 5 10 := ⟨_, rfl, by decide, (gw_at 621 (by decide +kernel) (by decide +kernel))⟩
theorem f_MOD_31 : FLk R_MOD 31 5 11 := ⟨_, rfl, by decide, (gw_at 622 (by decide +kernel) (by decide +kernel))⟩
theorem f_MOD_34 : FLk R_MOD 34 5 12 := ⟨_, rfl, by decide, (gw_at 623 (by decide +kernel) (by decide +kernel))⟩
theorem f_MOD_37 : FLk R_MOD 37 5 13 := ⟨_, rfl, by decide, (gw_at 624 (by decide +kernel) (by decide +kernel))⟩
theorem f_MOD_40 : FLk R_MOD 40 5 14 := ⟨_, rfl, by decide, (gw_at 625 (by decide +kernel) (by decide +kernel))⟩
theorem f_MOD_43 : FLk R_MOD 43 5 16 := ⟨_, rfl, by decide, (gw_at 627 (by decide +kernel) (by decide +kernel))⟩
theorem f_MOD_46 : FLk R_MOD 46 5 20 := ⟨_, rfl, by decide, (gw_at 631 (by decide +kernel) (by decide +kernel))⟩
theorem f_MOD_49 : FLk R_MOD 49 5 21 := ⟨_, rfl, by decide, (gw_at 632 (by decide +kernel) (by decide +kernel))⟩
theorem f_MOD_52 : FLk R_MOD 52 5 23 := ⟨_, rfl, by decide, (gw_at 634 (by decide +kernel) (by decide +kernel))⟩
theorem f_MOD_55 : FLk R_MOD 55 5 0 := ⟨_, rfl, by decide, (gw_at 611 (by decide +kernel) (by decide +kernel))⟩
theorem f_MOD_59 : FLk R_MOD 59 5 1 := ⟨_, rfl, by decide, (gw_at 612 (by decide +kernel) (by decide +kernel))⟩
theorem f_MOD_62 : FLk R_MOD 62 5 6 := ⟨_, rfl, by decide, (gw_at 617 (by decide +kernel) (by decide +kernel))⟩
theorem f_MOD_66 : FLk R_MOD 66 5 4 := ⟨_, rfl, by decide, (gw_at 615 (by decide +kernel) (by decide +kernel))⟩
theorem w_MOD_69 : CVk R_MOD 69 5 m_MOD_grow 1 := ⟨(gw_at 708 (by decide +kernel) (by decide +kernel)), s_MOD_grow⟩
theorem w_MOD_73 : CVk R_MOD 73 5 m_MOD_wake 1 := ⟨(gw_at 712 (by decide +kernel) (by decide +kernel)), s_MOD_wake⟩
theorem f_MOD_77 : FLk R_MOD 77 5 15 := ⟨_, rfl, by decide, (gw_at 626 (by decide +kernel) (by decide +kernel))⟩
theorem w_MOD_80 : CVk R_MOD 80 5 m_MOD_cellOf 2 := ⟨(gw_at 752 (by decide +kernel) (by decide +kernel)), s_MOD_cellOf⟩
theorem w_MOD_84 : CVk R_MOD 84 5 m_MOD_isHeld 1 := ⟨(gw_at 744 (by decide +kernel) (by decide +kernel)), s_MOD_isHeld⟩
theorem w_MOD_88 : CVk R_MOD 88 5 m_MOD_tidyPipes 0 := ⟨(gw_at 740 (by decide +kernel) (by decide +kernel)), s_MOD_tidyPipes⟩
theorem w_MOD_91 : CVk R_MOD 91 5 m_MOD_unrow 1 := ⟨(gw_at 720 (by decide +kernel) (by decide +kernel)), s_MOD_unrow⟩
theorem w_MOD_94 : CVk R_MOD 94 5 m_MOD_remove 1 := ⟨(gw_at 748 (by decide +kernel) (by decide +kernel)), s_MOD_remove⟩
theorem f_MOD_97 : FLk R_MOD 97 5 24 := ⟨_, rfl, by decide, (gw_at 635 (by decide +kernel) (by decide +kernel))⟩
theorem f_MOD_100 : FLk R_MOD 100 5 27 := ⟨_, rfl, by decide, (gw_at 638 (by decide +kernel) (by decide +kernel))⟩
theorem w_MOD_103 : CVk R_MOD 103 5 m_MOD_end 2 := ⟨(gw_at 736 (by decide +kernel) (by decide +kernel)), s_MOD_end⟩
theorem f_MOD_107 : FLk R_MOD 107 5 25 := ⟨_, rfl, by decide, (gw_at 636 (by decide +kernel) (by decide +kernel))⟩
theorem w_MOD_110 : CVk R_MOD 110 5 m_MOD_bits 2 := ⟨(gw_at 756 (by decide +kernel) (by decide +kernel)), s_MOD_bits⟩
theorem w_MOD_113 : CVk R_MOD 113 5 m_MOD_get 1 := ⟨(gw_at 776 (by decide +kernel) (by decide +kernel)), s_MOD_get⟩
theorem k_MOD_116 : Jvm.Cond.constantLong R_MOD 116 4294967295 ∈ gw := (gw_at 791 (by decide +kernel) (by decide +kernel))
theorem f_MOD_118 : FLk R_MOD 118 5 19 := ⟨_, rfl, by decide, (gw_at 630 (by decide +kernel) (by decide +kernel))⟩
theorem f_MOD_121 : FLk R_MOD 121 5 26 := ⟨_, rfl, by decide, (gw_at 637 (by decide +kernel) (by decide +kernel))⟩
theorem w_MOD_124 : CVk R_MOD 124 5 m_MOD_there 2 := ⟨(gw_at 728 (by decide +kernel) (by decide +kernel)), s_MOD_there⟩

set_option maxRecDepth 100000 in
theorem s_K_init : IMk m_K_init 2 := ⟨⟨(gw_at 72 (by decide +kernel) (by decide +kernel)), (gw_at 84 rfl rfl), by decide, by decide +kernel⟩, rfl, (gw_at 83 (by decide +kernel) (by decide +kernel)), rfl⟩
set_option maxRecDepth 100000 in
theorem s_K_load : VMk 0 m_K_load 1 := ⟨⟨(gw_at 72 (by decide +kernel) (by decide +kernel)), (gw_at 229 rfl rfl), by decide, by decide +kernel⟩, (gw_at 227 (by decide +kernel) (by decide +kernel)), (gw_at 228 (by decide +kernel) (by decide +kernel)), ⟨_, rfl, rfl⟩⟩
set_option maxRecDepth 100000 in
theorem s_K_boot : VMk 0 m_K_boot 0 := ⟨⟨(gw_at 72 (by decide +kernel) (by decide +kernel)), (gw_at 233 rfl rfl), by decide, by decide +kernel⟩, (gw_at 231 (by decide +kernel) (by decide +kernel)), (gw_at 232 (by decide +kernel) (by decide +kernel)), ⟨_, rfl, rfl⟩⟩
set_option maxRecDepth 100000 in
theorem s_K_step : VMk 0 m_K_step 0 := ⟨⟨(gw_at 72 (by decide +kernel) (by decide +kernel)), (gw_at 265 rfl rfl), by decide, by decide +kernel⟩, (gw_at 263 (by decide +kernel) (by decide +kernel)), (gw_at 264 (by decide +kernel) (by decide +kernel)), ⟨_, rfl, rfl⟩⟩
set_option maxRecDepth 100000 in
theorem s_K_run : VMk 0 m_K_run 1 := ⟨⟨(gw_at 72 (by decide +kernel) (by decide +kernel)), (gw_at 543 rfl rfl), by decide, by decide +kernel⟩, (gw_at 541 (by decide +kernel) (by decide +kernel)), (gw_at 542 (by decide +kernel) (by decide +kernel)), ⟨_, rfl, rfl⟩⟩
set_option maxRecDepth 100000 in
theorem s_K_current : VMk 0 m_K_current 0 := ⟨⟨(gw_at 72 (by decide +kernel) (by decide +kernel)), (gw_at 547 rfl rfl), by decide, by decide +kernel⟩, (gw_at 545 (by decide +kernel) (by decide +kernel)), (gw_at 546 (by decide +kernel) (by decide +kernel)), ⟨_, rfl, rfl⟩⟩
set_option maxRecDepth 100000 in
theorem s_K_stateOf : VMk 0 m_K_stateOf 1 := ⟨⟨(gw_at 72 (by decide +kernel) (by decide +kernel)), (gw_at 551 rfl rfl), by decide, by decide +kernel⟩, (gw_at 549 (by decide +kernel) (by decide +kernel)), (gw_at 550 (by decide +kernel) (by decide +kernel)), ⟨_, rfl, rfl⟩⟩
set_option maxRecDepth 100000 in
theorem s_K_exitOf : VMk 0 m_K_exitOf 1 := ⟨⟨(gw_at 72 (by decide +kernel) (by decide +kernel)), (gw_at 555 rfl rfl), by decide, by decide +kernel⟩, (gw_at 553 (by decide +kernel) (by decide +kernel)), (gw_at 554 (by decide +kernel) (by decide +kernel)), ⟨_, rfl, rfl⟩⟩
set_option maxRecDepth 100000 in
theorem s_K_parentOf : VMk 0 m_K_parentOf 1 := ⟨⟨(gw_at 72 (by decide +kernel) (by decide +kernel)), (gw_at 559 rfl rfl), by decide, by decide +kernel⟩, (gw_at 557 (by decide +kernel) (by decide +kernel)), (gw_at 558 (by decide +kernel) (by decide +kernel)), ⟨_, rfl, rfl⟩⟩
set_option maxRecDepth 100000 in
theorem s_K_freeFrames : VMk 0 m_K_freeFrames 0 := ⟨⟨(gw_at 72 (by decide +kernel) (by decide +kernel)), (gw_at 563 rfl rfl), by decide, by decide +kernel⟩, (gw_at 561 (by decide +kernel) (by decide +kernel)), (gw_at 562 (by decide +kernel) (by decide +kernel)), ⟨_, rfl, rfl⟩⟩
set_option maxRecDepth 100000 in
theorem s_K_pages : VMk 0 m_K_pages 1 := ⟨⟨(gw_at 72 (by decide +kernel) (by decide +kernel)), (gw_at 567 rfl rfl), by decide, by decide +kernel⟩, (gw_at 565 (by decide +kernel) (by decide +kernel)), (gw_at 566 (by decide +kernel) (by decide +kernel)), ⟨_, rfl, rfl⟩⟩
set_option maxRecDepth 100000 in
theorem s_K_register : VMk 0 m_K_register 2 := ⟨⟨(gw_at 72 (by decide +kernel) (by decide +kernel)), (gw_at 571 rfl rfl), by decide, by decide +kernel⟩, (gw_at 569 (by decide +kernel) (by decide +kernel)), (gw_at 570 (by decide +kernel) (by decide +kernel)), ⟨_, rfl, rfl⟩⟩
set_option maxRecDepth 100000 in
theorem s_K_pc : VMk 0 m_K_pc 1 := ⟨⟨(gw_at 72 (by decide +kernel) (by decide +kernel)), (gw_at 575 rfl rfl), by decide, by decide +kernel⟩, (gw_at 573 (by decide +kernel) (by decide +kernel)), (gw_at 574 (by decide +kernel) (by decide +kernel)), ⟨_, rfl, rfl⟩⟩
set_option maxRecDepth 100000 in
theorem s_K_word : VMk 0 m_K_word 2 := ⟨⟨(gw_at 72 (by decide +kernel) (by decide +kernel)), (gw_at 579 rfl rfl), by decide, by decide +kernel⟩, (gw_at 577 (by decide +kernel) (by decide +kernel)), (gw_at 578 (by decide +kernel) (by decide +kernel)), ⟨_, rfl, rfl⟩⟩
set_option maxRecDepth 100000 in
theorem s_K_descriptor : VMk 0 m_K_descriptor 2 := ⟨⟨(gw_at 72 (by decide +kernel) (by decide +kernel)), (gw_at 584 rfl rfl), by decide, by decide +kernel⟩, (gw_at 582 (by decide +kernel) (by decide +kernel)), (gw_at 583 (by decide +kernel) (by decide +kernel)), ⟨_, rfl, rfl⟩⟩
set_option maxRecDepth 100000 in
theorem s_K_held : VMk 0 m_K_held 1 := ⟨⟨(gw_at 72 (by decide +kernel) (by decide +kernel)), (gw_at 588 rfl rfl), by decide, by decide +kernel⟩, (gw_at 586 (by decide +kernel) (by decide +kernel)), (gw_at 587 (by decide +kernel) (by decide +kernel)), ⟨_, rfl, rfl⟩⟩
set_option maxRecDepth 100000 in
theorem s_K_consoleLength : VMk 0 m_K_consoleLength 0 := ⟨⟨(gw_at 72 (by decide +kernel) (by decide +kernel)), (gw_at 592 rfl rfl), by decide, by decide +kernel⟩, (gw_at 590 (by decide +kernel) (by decide +kernel)), (gw_at 591 (by decide +kernel) (by decide +kernel)), ⟨_, rfl, rfl⟩⟩
set_option maxRecDepth 100000 in
theorem s_K_console : VMk 0 m_K_console 1 := ⟨⟨(gw_at 72 (by decide +kernel) (by decide +kernel)), (gw_at 596 rfl rfl), by decide, by decide +kernel⟩, (gw_at 594 (by decide +kernel) (by decide +kernel)), (gw_at 595 (by decide +kernel) (by decide +kernel)), ⟨_, rfl, rfl⟩⟩
set_option maxRecDepth 100000 in
theorem s_K_waitingTurn : VMk 0 m_K_waitingTurn 1 := ⟨⟨(gw_at 72 (by decide +kernel) (by decide +kernel)), (gw_at 600 rfl rfl), by decide, by decide +kernel⟩, (gw_at 598 (by decide +kernel) (by decide +kernel)), (gw_at 599 (by decide +kernel) (by decide +kernel)), ⟨_, rfl, rfl⟩⟩
set_option maxRecDepth 100000 in
theorem s_K_within : SMk m_K_within 3 := ⟨⟨(gw_at 72 (by decide +kernel) (by decide +kernel)), (gw_at 92 rfl rfl), by decide, by decide +kernel⟩, (gw_at 91 (by decide +kernel) (by decide +kernel))⟩
set_option maxRecDepth 100000 in
theorem s_K_find : VMk 0 m_K_find 1 := ⟨⟨(gw_at 72 (by decide +kernel) (by decide +kernel)), (gw_at 285 rfl rfl), by decide, by decide +kernel⟩, (gw_at 284 (by decide +kernel) (by decide +kernel)), (gw_at 3 (by decide +kernel) (by decide +kernel)), ⟨_, rfl, rfl⟩⟩
set_option maxRecDepth 100000 in
theorem s_K_allHaveEnded : VMk 0 m_K_allHaveEnded 0 := ⟨⟨(gw_at 72 (by decide +kernel) (by decide +kernel)), (gw_at 539 rfl rfl), by decide, by decide +kernel⟩, (gw_at 538 (by decide +kernel) (by decide +kernel)), (gw_at 28 (by decide +kernel) (by decide +kernel)), ⟨_, rfl, rfl⟩⟩
set_option maxRecDepth 100000 in
theorem s_K_makeReady : VMk 0 m_K_makeReady 1 := ⟨⟨(gw_at 72 (by decide +kernel) (by decide +kernel)), (gw_at 257 rfl rfl), by decide, by decide +kernel⟩, (gw_at 256 (by decide +kernel) (by decide +kernel)), (gw_at 1 (by decide +kernel) (by decide +kernel)), ⟨_, rfl, rfl⟩⟩
set_option maxRecDepth 100000 in
theorem s_K_makeStep : VMk 0 m_K_makeStep 0 := ⟨⟨(gw_at 72 (by decide +kernel) (by decide +kernel)), (gw_at 269 rfl rfl), by decide, by decide +kernel⟩, (gw_at 268 (by decide +kernel) (by decide +kernel)), (gw_at 2 (by decide +kernel) (by decide +kernel)), ⟨_, rfl, rfl⟩⟩
set_option maxRecDepth 100000 in
theorem s_K_passTurn : VMk 0 m_K_passTurn 1 := ⟨⟨(gw_at 72 (by decide +kernel) (by decide +kernel)), (gw_at 527 rfl rfl), by decide, by decide +kernel⟩, (gw_at 526 (by decide +kernel) (by decide +kernel)), (gw_at 26 (by decide +kernel) (by decide +kernel)), ⟨_, rfl, rfl⟩⟩
set_option maxRecDepth 100000 in
theorem s_K_wakeSleepers : VMk 0 m_K_wakeSleepers 0 := ⟨⟨(gw_at 72 (by decide +kernel) (by decide +kernel)), (gw_at 531 rfl rfl), by decide, by decide +kernel⟩, (gw_at 530 (by decide +kernel) (by decide +kernel)), (gw_at 27 (by decide +kernel) (by decide +kernel)), ⟨_, rfl, rfl⟩⟩
set_option maxRecDepth 100000 in
theorem s_K_beginCall : VMk 0 m_K_beginCall 1 := ⟨⟨(gw_at 72 (by decide +kernel) (by decide +kernel)), (gw_at 377 rfl rfl), by decide, by decide +kernel⟩, (gw_at 376 (by decide +kernel) (by decide +kernel)), (gw_at 4 (by decide +kernel) (by decide +kernel)), ⟨_, rfl, rfl⟩⟩
set_option maxRecDepth 100000 in
theorem s_K_obstacleOf : VMk 0 m_K_obstacleOf 1 := ⟨⟨(gw_at 72 (by decide +kernel) (by decide +kernel)), (gw_at 381 rfl rfl), by decide, by decide +kernel⟩, (gw_at 380 (by decide +kernel) (by decide +kernel)), (gw_at 5 (by decide +kernel) (by decide +kernel)), ⟨_, rfl, rfl⟩⟩
set_option maxRecDepth 100000 in
theorem s_K_answerOf : VMk 0 m_K_answerOf 2 := ⟨⟨(gw_at 72 (by decide +kernel) (by decide +kernel)), (gw_at 424 rfl rfl), by decide, by decide +kernel⟩, (gw_at 423 (by decide +kernel) (by decide +kernel)), (gw_at 10 (by decide +kernel) (by decide +kernel)), ⟨_, rfl, rfl⟩⟩
set_option maxRecDepth 100000 in
theorem s_K_fork : VMk 0 m_K_fork 1 := ⟨⟨(gw_at 72 (by decide +kernel) (by decide +kernel)), (gw_at 445 rfl rfl), by decide, by decide +kernel⟩, (gw_at 444 (by decide +kernel) (by decide +kernel)), (gw_at 13 (by decide +kernel) (by decide +kernel)), ⟨_, rfl, rfl⟩⟩
set_option maxRecDepth 100000 in
theorem s_K_leastAbsent : VMk 0 m_K_leastAbsent 0 := ⟨⟨(gw_at 72 (by decide +kernel) (by decide +kernel)), (gw_at 449 rfl rfl), by decide, by decide +kernel⟩, (gw_at 448 (by decide +kernel) (by decide +kernel)), (gw_at 14 (by decide +kernel) (by decide +kernel)), ⟨_, rfl, rfl⟩⟩
set_option maxRecDepth 100000 in
theorem s_K_collectChild : VMk 0 m_K_collectChild 1 := ⟨⟨(gw_at 72 (by decide +kernel) (by decide +kernel)), (gw_at 465 rfl rfl), by decide, by decide +kernel⟩, (gw_at 464 (by decide +kernel) (by decide +kernel)), (gw_at 15 (by decide +kernel) (by decide +kernel)), ⟨_, rfl, rfl⟩⟩
set_option maxRecDepth 100000 in
theorem s_K_endedChildOf : VMk 0 m_K_endedChildOf 1 := ⟨⟨(gw_at 72 (by decide +kernel) (by decide +kernel)), (gw_at 398 rfl rfl), by decide, by decide +kernel⟩, (gw_at 397 (by decide +kernel) (by decide +kernel)), (gw_at 7 (by decide +kernel) (by decide +kernel)), ⟨_, rfl, rfl⟩⟩
set_option maxRecDepth 100000 in
theorem s_K_hasChild : VMk 0 m_K_hasChild 1 := ⟨⟨(gw_at 72 (by decide +kernel) (by decide +kernel)), (gw_at 390 rfl rfl), by decide, by decide +kernel⟩, (gw_at 389 (by decide +kernel) (by decide +kernel)), (gw_at 6 (by decide +kernel) (by decide +kernel)), ⟨_, rfl, rfl⟩⟩
set_option maxRecDepth 100000 in
theorem s_K_grow : VMk 0 m_K_grow 2 := ⟨⟨(gw_at 72 (by decide +kernel) (by decide +kernel)), (gw_at 469 rfl rfl), by decide, by decide +kernel⟩, (gw_at 468 (by decide +kernel) (by decide +kernel)), (gw_at 16 (by decide +kernel) (by decide +kernel)), ⟨_, rfl, rfl⟩⟩
set_option maxRecDepth 100000 in
theorem s_K_write : VMk 0 m_K_write 2 := ⟨⟨(gw_at 72 (by decide +kernel) (by decide +kernel)), (gw_at 473 rfl rfl), by decide, by decide +kernel⟩, (gw_at 472 (by decide +kernel) (by decide +kernel)), (gw_at 17 (by decide +kernel) (by decide +kernel)), ⟨_, rfl, rfl⟩⟩
set_option maxRecDepth 100000 in
theorem s_K_print : VMk 0 m_K_print 1 := ⟨⟨(gw_at 72 (by decide +kernel) (by decide +kernel)), (gw_at 477 rfl rfl), by decide, by decide +kernel⟩, (gw_at 476 (by decide +kernel) (by decide +kernel)), (gw_at 18 (by decide +kernel) (by decide +kernel)), ⟨_, rfl, rfl⟩⟩
set_option maxRecDepth 100000 in
theorem s_K_read : VMk 0 m_K_read 1 := ⟨⟨(gw_at 72 (by decide +kernel) (by decide +kernel)), (gw_at 486 rfl rfl), by decide, by decide +kernel⟩, (gw_at 485 (by decide +kernel) (by decide +kernel)), (gw_at 19 (by decide +kernel) (by decide +kernel)), ⟨_, rfl, rfl⟩⟩
set_option maxRecDepth 100000 in
theorem s_K_openPipe : VMk 0 m_K_openPipe 1 := ⟨⟨(gw_at 72 (by decide +kernel) (by decide +kernel)), (gw_at 495 rfl rfl), by decide, by decide +kernel⟩, (gw_at 494 (by decide +kernel) (by decide +kernel)), (gw_at 20 (by decide +kernel) (by decide +kernel)), ⟨_, rfl, rfl⟩⟩
set_option maxRecDepth 100000 in
theorem s_K_close : VMk 0 m_K_close 2 := ⟨⟨(gw_at 72 (by decide +kernel) (by decide +kernel)), (gw_at 515 rfl rfl), by decide, by decide +kernel⟩, (gw_at 514 (by decide +kernel) (by decide +kernel)), (gw_at 23 (by decide +kernel) (by decide +kernel)), ⟨_, rfl, rfl⟩⟩
set_option maxRecDepth 100000 in
theorem s_K_duplicate : VMk 0 m_K_duplicate 2 := ⟨⟨(gw_at 72 (by decide +kernel) (by decide +kernel)), (gw_at 519 rfl rfl), by decide, by decide +kernel⟩, (gw_at 518 (by decide +kernel) (by decide +kernel)), (gw_at 24 (by decide +kernel) (by decide +kernel)), ⟨_, rfl, rfl⟩⟩
set_option maxRecDepth 100000 in
theorem s_K_kill : VMk 0 m_K_kill 1 := ⟨⟨(gw_at 72 (by decide +kernel) (by decide +kernel)), (gw_at 523 rfl rfl), by decide, by decide +kernel⟩, (gw_at 522 (by decide +kernel) (by decide +kernel)), (gw_at 25 (by decide +kernel) (by decide +kernel)), ⟨_, rfl, rfl⟩⟩
set_option maxRecDepth 100000 in
theorem s_K_end : VMk 0 m_K_end 2 := ⟨⟨(gw_at 72 (by decide +kernel) (by decide +kernel)), (gw_at 428 rfl rfl), by decide, by decide +kernel⟩, (gw_at 427 (by decide +kernel) (by decide +kernel)), (gw_at 11 (by decide +kernel) (by decide +kernel)), ⟨_, rfl, rfl⟩⟩
set_option maxRecDepth 100000 in
theorem s_K_handOverChildren : VMk 0 m_K_handOverChildren 1 := ⟨⟨(gw_at 72 (by decide +kernel) (by decide +kernel)), (gw_at 441 rfl rfl), by decide, by decide +kernel⟩, (gw_at 440 (by decide +kernel) (by decide +kernel)), (gw_at 12 (by decide +kernel) (by decide +kernel)), ⟨_, rfl, rfl⟩⟩
set_option maxRecDepth 100000 in
theorem s_K_isReadingEnd : SMk m_K_isReadingEnd 1 := ⟨⟨(gw_at 72 (by decide +kernel) (by decide +kernel)), (gw_at 416 rfl rfl), by decide, by decide +kernel⟩, (gw_at 415 (by decide +kernel) (by decide +kernel))⟩
set_option maxRecDepth 100000 in
theorem s_K_isWritingEnd : SMk m_K_isWritingEnd 1 := ⟨⟨(gw_at 72 (by decide +kernel) (by decide +kernel)), (gw_at 401 rfl rfl), by decide, by decide +kernel⟩, (gw_at 400 (by decide +kernel) (by decide +kernel))⟩
set_option maxRecDepth 100000 in
theorem s_K_pipeOf : VMk 0 m_K_pipeOf 1 := ⟨⟨(gw_at 72 (by decide +kernel) (by decide +kernel)), (gw_at 405 rfl rfl), by decide, by decide +kernel⟩, (gw_at 404 (by decide +kernel) (by decide +kernel)), (gw_at 8 (by decide +kernel) (by decide +kernel)), ⟨_, rfl, rfl⟩⟩
set_option maxRecDepth 100000 in
theorem s_K_isHeld : VMk 0 m_K_isHeld 1 := ⟨⟨(gw_at 72 (by decide +kernel) (by decide +kernel)), (gw_at 413 rfl rfl), by decide, by decide +kernel⟩, (gw_at 412 (by decide +kernel) (by decide +kernel)), (gw_at 9 (by decide +kernel) (by decide +kernel)), ⟨_, rfl, rfl⟩⟩
set_option maxRecDepth 100000 in
theorem s_K_leastFreeReadingEnd : VMk 0 m_K_leastFreeReadingEnd 0 := ⟨⟨(gw_at 72 (by decide +kernel) (by decide +kernel)), (gw_at 499 rfl rfl), by decide, by decide +kernel⟩, (gw_at 498 (by decide +kernel) (by decide +kernel)), (gw_at 21 (by decide +kernel) (by decide +kernel)), ⟨_, rfl, rfl⟩⟩
set_option maxRecDepth 100000 in
theorem s_K_isFreePipe : VMk 0 m_K_isFreePipe 1 := ⟨⟨(gw_at 72 (by decide +kernel) (by decide +kernel)), (gw_at 503 rfl rfl), by decide, by decide +kernel⟩, (gw_at 502 (by decide +kernel) (by decide +kernel)), (gw_at 22 (by decide +kernel) (by decide +kernel)), ⟨_, rfl, rfl⟩⟩
set_option maxRecDepth 100000 in
theorem s_MOD_init : IMk m_MOD_init 2 := ⟨⟨(gw_at 77 (by decide +kernel) (by decide +kernel)), (gw_at 609 rfl rfl), by decide, by decide +kernel⟩, rfl, (gw_at 608 (by decide +kernel) (by decide +kernel)), rfl⟩
set_option maxRecDepth 100000 in
theorem s_MOD_load : VMk 5 m_MOD_load 1 := ⟨⟨(gw_at 77 (by decide +kernel) (by decide +kernel)), (gw_at 699 rfl rfl), by decide, by decide +kernel⟩, (gw_at 697 (by decide +kernel) (by decide +kernel)), (gw_at 698 (by decide +kernel) (by decide +kernel)), ⟨_, rfl, rfl⟩⟩
set_option maxRecDepth 100000 in
theorem s_MOD_freeFrames : VMk 5 m_MOD_freeFrames 0 := ⟨⟨(gw_at 77 (by decide +kernel) (by decide +kernel)), (gw_at 703 rfl rfl), by decide, by decide +kernel⟩, (gw_at 701 (by decide +kernel) (by decide +kernel)), (gw_at 702 (by decide +kernel) (by decide +kernel)), ⟨_, rfl, rfl⟩⟩
set_option maxRecDepth 100000 in
theorem s_MOD_grow : VMk 5 m_MOD_grow 1 := ⟨⟨(gw_at 77 (by decide +kernel) (by decide +kernel)), (gw_at 711 rfl rfl), by decide, by decide +kernel⟩, (gw_at 710 (by decide +kernel) (by decide +kernel)), (gw_at 29 (by decide +kernel) (by decide +kernel)), ⟨_, rfl, rfl⟩⟩
set_option maxRecDepth 100000 in
theorem s_MOD_boot : VMk 5 m_MOD_boot 0 := ⟨⟨(gw_at 77 (by decide +kernel) (by decide +kernel)), (gw_at 707 rfl rfl), by decide, by decide +kernel⟩, (gw_at 705 (by decide +kernel) (by decide +kernel)), (gw_at 706 (by decide +kernel) (by decide +kernel)), ⟨_, rfl, rfl⟩⟩
set_option maxRecDepth 100000 in
theorem s_MOD_wake : VMk 5 m_MOD_wake 1 := ⟨⟨(gw_at 77 (by decide +kernel) (by decide +kernel)), (gw_at 715 rfl rfl), by decide, by decide +kernel⟩, (gw_at 714 (by decide +kernel) (by decide +kernel)), (gw_at 30 (by decide +kernel) (by decide +kernel)), ⟨_, rfl, rfl⟩⟩
set_option maxRecDepth 100000 in
theorem s_MOD_there : VMk 5 m_MOD_there 2 := ⟨⟨(gw_at 77 (by decide +kernel) (by decide +kernel)), (gw_at 731 rfl rfl), by decide, by decide +kernel⟩, (gw_at 730 (by decide +kernel) (by decide +kernel)), (gw_at 33 (by decide +kernel) (by decide +kernel)), ⟨_, rfl, rfl⟩⟩
set_option maxRecDepth 100000 in
theorem s_MOD_cellOf : VMk 5 m_MOD_cellOf 2 := ⟨⟨(gw_at 77 (by decide +kernel) (by decide +kernel)), (gw_at 755 rfl rfl), by decide, by decide +kernel⟩, (gw_at 754 (by decide +kernel) (by decide +kernel)), (gw_at 39 (by decide +kernel) (by decide +kernel)), ⟨_, rfl, rfl⟩⟩
set_option maxRecDepth 100000 in
theorem s_MOD_byteAt : VMk 5 m_MOD_byteAt 2 := ⟨⟨(gw_at 77 (by decide +kernel) (by decide +kernel)), (gw_at 803 rfl rfl), by decide, by decide +kernel⟩, (gw_at 802 (by decide +kernel) (by decide +kernel)), (gw_at 50 (by decide +kernel) (by decide +kernel)), ⟨_, rfl, rfl⟩⟩
set_option maxRecDepth 100000 in
theorem s_MOD_putByte : VMk 5 m_MOD_putByte 3 := ⟨⟨(gw_at 77 (by decide +kernel) (by decide +kernel)), (gw_at 811 rfl rfl), by decide, by decide +kernel⟩, (gw_at 810 (by decide +kernel) (by decide +kernel)), (gw_at 52 (by decide +kernel) (by decide +kernel)), ⟨_, rfl, rfl⟩⟩
set_option maxRecDepth 100000 in
theorem s_MOD_isHeld : VMk 5 m_MOD_isHeld 1 := ⟨⟨(gw_at 77 (by decide +kernel) (by decide +kernel)), (gw_at 747 rfl rfl), by decide, by decide +kernel⟩, (gw_at 746 (by decide +kernel) (by decide +kernel)), (gw_at 37 (by decide +kernel) (by decide +kernel)), ⟨_, rfl, rfl⟩⟩
set_option maxRecDepth 100000 in
theorem s_MOD_tidyPipes : VMk 5 m_MOD_tidyPipes 0 := ⟨⟨(gw_at 77 (by decide +kernel) (by decide +kernel)), (gw_at 743 rfl rfl), by decide, by decide +kernel⟩, (gw_at 742 (by decide +kernel) (by decide +kernel)), (gw_at 36 (by decide +kernel) (by decide +kernel)), ⟨_, rfl, rfl⟩⟩
set_option maxRecDepth 100000 in
theorem s_MOD_descriptorOf : VMk 5 m_MOD_descriptorOf 2 := ⟨⟨(gw_at 77 (by decide +kernel) (by decide +kernel)), (gw_at 848 rfl rfl), by decide, by decide +kernel⟩, (gw_at 847 (by decide +kernel) (by decide +kernel)), (gw_at 61 (by decide +kernel) (by decide +kernel)), ⟨_, rfl, rfl⟩⟩
set_option maxRecDepth 100000 in
theorem s_MOD_freeDescriptor : VMk 5 m_MOD_freeDescriptor 1 := ⟨⟨(gw_at 77 (by decide +kernel) (by decide +kernel)), (gw_at 864 rfl rfl), by decide, by decide +kernel⟩, (gw_at 863 (by decide +kernel) (by decide +kernel)), (gw_at 65 (by decide +kernel) (by decide +kernel)), ⟨_, rfl, rfl⟩⟩
set_option maxRecDepth 100000 in
theorem s_MOD_end : VMk 5 m_MOD_end 2 := ⟨⟨(gw_at 77 (by decide +kernel) (by decide +kernel)), (gw_at 739 rfl rfl), by decide, by decide +kernel⟩, (gw_at 738 (by decide +kernel) (by decide +kernel)), (gw_at 35 (by decide +kernel) (by decide +kernel)), ⟨_, rfl, rfl⟩⟩
set_option maxRecDepth 100000 in
theorem s_MOD_unrow : VMk 5 m_MOD_unrow 1 := ⟨⟨(gw_at 77 (by decide +kernel) (by decide +kernel)), (gw_at 723 rfl rfl), by decide, by decide +kernel⟩, (gw_at 722 (by decide +kernel) (by decide +kernel)), (gw_at 31 (by decide +kernel) (by decide +kernel)), ⟨_, rfl, rfl⟩⟩
set_option maxRecDepth 100000 in
theorem s_MOD_remove : VMk 5 m_MOD_remove 1 := ⟨⟨(gw_at 77 (by decide +kernel) (by decide +kernel)), (gw_at 751 rfl rfl), by decide, by decide +kernel⟩, (gw_at 750 (by decide +kernel) (by decide +kernel)), (gw_at 38 (by decide +kernel) (by decide +kernel)), ⟨_, rfl, rfl⟩⟩
set_option maxRecDepth 100000 in
theorem s_MOD_fault : VMk 5 m_MOD_fault 1 := ⟨⟨(gw_at 77 (by decide +kernel) (by decide +kernel)), (gw_at 735 rfl rfl), by decide, by decide +kernel⟩, (gw_at 734 (by decide +kernel) (by decide +kernel)), (gw_at 34 (by decide +kernel) (by decide +kernel)), ⟨_, rfl, rfl⟩⟩
set_option maxRecDepth 100000 in
theorem s_MOD_get : VMk 5 m_MOD_get 1 := ⟨⟨(gw_at 77 (by decide +kernel) (by decide +kernel)), (gw_at 779 rfl rfl), by decide, by decide +kernel⟩, (gw_at 778 (by decide +kernel) (by decide +kernel)), (gw_at 45 (by decide +kernel) (by decide +kernel)), ⟨_, rfl, rfl⟩⟩
set_option maxRecDepth 100000 in
theorem s_MOD_set : VMk 5 m_MOD_set 2 := ⟨⟨(gw_at 77 (by decide +kernel) (by decide +kernel)), (gw_at 767 rfl rfl), by decide, by decide +kernel⟩, (gw_at 766 (by decide +kernel) (by decide +kernel)), (gw_at 42 (by decide +kernel) (by decide +kernel)), ⟨_, rfl, rfl⟩⟩
set_option maxRecDepth 100000 in
theorem s_MOD_bits : VMk 5 m_MOD_bits 2 := ⟨⟨(gw_at 77 (by decide +kernel) (by decide +kernel)), (gw_at 759 rfl rfl), by decide, by decide +kernel⟩, (gw_at 758 (by decide +kernel) (by decide +kernel)), (gw_at 40 (by decide +kernel) (by decide +kernel)), ⟨_, rfl, rfl⟩⟩
set_option maxRecDepth 100000 in
theorem s_MOD_d : VMk 5 m_MOD_d 0 := ⟨⟨(gw_at 77 (by decide +kernel) (by decide +kernel)), (gw_at 763 rfl rfl), by decide, by decide +kernel⟩, (gw_at 762 (by decide +kernel) (by decide +kernel)), (gw_at 41 (by decide +kernel) (by decide +kernel)), ⟨_, rfl, rfl⟩⟩
set_option maxRecDepth 100000 in
theorem s_MOD_s : VMk 5 m_MOD_s 0 := ⟨⟨(gw_at 77 (by decide +kernel) (by decide +kernel)), (gw_at 775 rfl rfl), by decide, by decide +kernel⟩, (gw_at 774 (by decide +kernel) (by decide +kernel)), (gw_at 44 (by decide +kernel) (by decide +kernel)), ⟨_, rfl, rfl⟩⟩
set_option maxRecDepth 100000 in
theorem s_MOD_t : VMk 5 m_MOD_t 0 := ⟨⟨(gw_at 77 (by decide +kernel) (by decide +kernel)), (gw_at 787 rfl rfl), by decide, by decide +kernel⟩, (gw_at 786 (by decide +kernel) (by decide +kernel)), (gw_at 47 (by decide +kernel) (by decide +kernel)), ⟨_, rfl, rfl⟩⟩
set_option maxRecDepth 100000 in
theorem s_MOD_less : SMk m_MOD_less 3 := ⟨⟨(gw_at 77 (by decide +kernel) (by decide +kernel)), (gw_at 790 rfl rfl), by decide, by decide +kernel⟩, (gw_at 789 (by decide +kernel) (by decide +kernel))⟩
set_option maxRecDepth 100000 in
theorem s_MOD_instruction : VMk 5 m_MOD_instruction 0 := ⟨⟨(gw_at 77 (by decide +kernel) (by decide +kernel)), (gw_at 727 rfl rfl), by decide, by decide +kernel⟩, (gw_at 726 (by decide +kernel) (by decide +kernel)), (gw_at 32 (by decide +kernel) (by decide +kernel)), ⟨_, rfl, rfl⟩⟩
set_option maxRecDepth 100000 in
theorem s_MOD_jump : VMk 5 m_MOD_jump 1 := ⟨⟨(gw_at 77 (by decide +kernel) (by decide +kernel)), (gw_at 771 rfl rfl), by decide, by decide +kernel⟩, (gw_at 770 (by decide +kernel) (by decide +kernel)), (gw_at 43 (by decide +kernel) (by decide +kernel)), ⟨_, rfl, rfl⟩⟩
set_option maxRecDepth 100000 in
theorem s_MOD_branch : VMk 5 m_MOD_branch 1 := ⟨⟨(gw_at 77 (by decide +kernel) (by decide +kernel)), (gw_at 783 rfl rfl), by decide, by decide +kernel⟩, (gw_at 782 (by decide +kernel) (by decide +kernel)), (gw_at 46 (by decide +kernel) (by decide +kernel)), ⟨_, rfl, rfl⟩⟩
set_option maxRecDepth 100000 in
theorem s_MOD_reach : VMk 5 m_MOD_reach 3 := ⟨⟨(gw_at 77 (by decide +kernel) (by decide +kernel)), (gw_at 799 rfl rfl), by decide, by decide +kernel⟩, (gw_at 798 (by decide +kernel) (by decide +kernel)), (gw_at 49 (by decide +kernel) (by decide +kernel)), ⟨_, rfl, rfl⟩⟩
set_option maxRecDepth 100000 in
theorem s_MOD_read : VMk 5 m_MOD_read 0 := ⟨⟨(gw_at 77 (by decide +kernel) (by decide +kernel)), (gw_at 795 rfl rfl), by decide, by decide +kernel⟩, (gw_at 794 (by decide +kernel) (by decide +kernel)), (gw_at 48 (by decide +kernel) (by decide +kernel)), ⟨_, rfl, rfl⟩⟩
set_option maxRecDepth 100000 in
theorem s_MOD_write : VMk 5 m_MOD_write 0 := ⟨⟨(gw_at 77 (by decide +kernel) (by decide +kernel)), (gw_at 807 rfl rfl), by decide, by decide +kernel⟩, (gw_at 806 (by decide +kernel) (by decide +kernel)), (gw_at 51 (by decide +kernel) (by decide +kernel)), ⟨_, rfl, rfl⟩⟩
set_option maxRecDepth 100000 in
theorem s_MOD_compute : VMk 5 m_MOD_compute 1 := ⟨⟨(gw_at 77 (by decide +kernel) (by decide +kernel)), (gw_at 815 rfl rfl), by decide, by decide +kernel⟩, (gw_at 814 (by decide +kernel) (by decide +kernel)), (gw_at 53 (by decide +kernel) (by decide +kernel)), ⟨_, rfl, rfl⟩⟩
set_option maxRecDepth 100000 in
theorem s_MOD_call : VMk 5 m_MOD_call 0 := ⟨⟨(gw_at 77 (by decide +kernel) (by decide +kernel)), (gw_at 819 rfl rfl), by decide, by decide +kernel⟩, (gw_at 818 (by decide +kernel) (by decide +kernel)), (gw_at 54 (by decide +kernel) (by decide +kernel)), ⟨_, rfl, rfl⟩⟩
set_option maxRecDepth 100000 in
theorem s_MOD_leave : VMk 5 m_MOD_leave 1 := ⟨⟨(gw_at 77 (by decide +kernel) (by decide +kernel)), (gw_at 823 rfl rfl), by decide, by decide +kernel⟩, (gw_at 822 (by decide +kernel) (by decide +kernel)), (gw_at 55 (by decide +kernel) (by decide +kernel)), ⟨_, rfl, rfl⟩⟩
set_option maxRecDepth 100000 in
theorem s_MOD_block : VMk 5 m_MOD_block 1 := ⟨⟨(gw_at 77 (by decide +kernel) (by decide +kernel)), (gw_at 840 rfl rfl), by decide, by decide +kernel⟩, (gw_at 839 (by decide +kernel) (by decide +kernel)), (gw_at 59 (by decide +kernel) (by decide +kernel)), ⟨_, rfl, rfl⟩⟩
set_option maxRecDepth 100000 in
theorem s_MOD_fork : VMk 5 m_MOD_fork 0 := ⟨⟨(gw_at 77 (by decide +kernel) (by decide +kernel)), (gw_at 827 rfl rfl), by decide, by decide +kernel⟩, (gw_at 826 (by decide +kernel) (by decide +kernel)), (gw_at 56 (by decide +kernel) (by decide +kernel)), ⟨_, rfl, rfl⟩⟩
set_option maxRecDepth 100000 in
theorem s_MOD_lostChild : VMk 5 m_MOD_lostChild 1 := ⟨⟨(gw_at 77 (by decide +kernel) (by decide +kernel)), (gw_at 836 rfl rfl), by decide, by decide +kernel⟩, (gw_at 835 (by decide +kernel) (by decide +kernel)), (gw_at 58 (by decide +kernel) (by decide +kernel)), ⟨_, rfl, rfl⟩⟩
set_option maxRecDepth 100000 in
theorem s_MOD_waits : VMk 5 m_MOD_waits 0 := ⟨⟨(gw_at 77 (by decide +kernel) (by decide +kernel)), (gw_at 832 rfl rfl), by decide, by decide +kernel⟩, (gw_at 831 (by decide +kernel) (by decide +kernel)), (gw_at 57 (by decide +kernel) (by decide +kernel)), ⟨_, rfl, rfl⟩⟩
set_option maxRecDepth 100000 in
theorem s_MOD_more : VMk 5 m_MOD_more 1 := ⟨⟨(gw_at 77 (by decide +kernel) (by decide +kernel)), (gw_at 844 rfl rfl), by decide, by decide +kernel⟩, (gw_at 843 (by decide +kernel) (by decide +kernel)), (gw_at 60 (by decide +kernel) (by decide +kernel)), ⟨_, rfl, rfl⟩⟩
set_option maxRecDepth 100000 in
theorem s_MOD_send : VMk 5 m_MOD_send 1 := ⟨⟨(gw_at 77 (by decide +kernel) (by decide +kernel)), (gw_at 852 rfl rfl), by decide, by decide +kernel⟩, (gw_at 851 (by decide +kernel) (by decide +kernel)), (gw_at 62 (by decide +kernel) (by decide +kernel)), ⟨_, rfl, rfl⟩⟩
set_option maxRecDepth 100000 in
theorem s_MOD_take : VMk 5 m_MOD_take 1 := ⟨⟨(gw_at 77 (by decide +kernel) (by decide +kernel)), (gw_at 856 rfl rfl), by decide, by decide +kernel⟩, (gw_at 855 (by decide +kernel) (by decide +kernel)), (gw_at 63 (by decide +kernel) (by decide +kernel)), ⟨_, rfl, rfl⟩⟩
set_option maxRecDepth 100000 in
theorem s_MOD_pipe : VMk 5 m_MOD_pipe 0 := ⟨⟨(gw_at 77 (by decide +kernel) (by decide +kernel)), (gw_at 860 rfl rfl), by decide, by decide +kernel⟩, (gw_at 859 (by decide +kernel) (by decide +kernel)), (gw_at 64 (by decide +kernel) (by decide +kernel)), ⟨_, rfl, rfl⟩⟩
set_option maxRecDepth 100000 in
theorem s_MOD_close : VMk 5 m_MOD_close 1 := ⟨⟨(gw_at 77 (by decide +kernel) (by decide +kernel)), (gw_at 868 rfl rfl), by decide, by decide +kernel⟩, (gw_at 867 (by decide +kernel) (by decide +kernel)), (gw_at 66 (by decide +kernel) (by decide +kernel)), ⟨_, rfl, rfl⟩⟩
set_option maxRecDepth 100000 in
theorem s_MOD_duplicate : VMk 5 m_MOD_duplicate 1 := ⟨⟨(gw_at 77 (by decide +kernel) (by decide +kernel)), (gw_at 872 rfl rfl), by decide, by decide +kernel⟩, (gw_at 871 (by decide +kernel) (by decide +kernel)), (gw_at 67 (by decide +kernel) (by decide +kernel)), ⟨_, rfl, rfl⟩⟩
set_option maxRecDepth 100000 in
theorem s_MOD_kill : VMk 5 m_MOD_kill 1 := ⟨⟨(gw_at 77 (by decide +kernel) (by decide +kernel)), (gw_at 876 rfl rfl), by decide, by decide +kernel⟩, (gw_at 875 (by decide +kernel) (by decide +kernel)), (gw_at 68 (by decide +kernel) (by decide +kernel)), ⟨_, rfl, rfl⟩⟩
set_option maxRecDepth 100000 in
theorem s_MOD_mayGo : VMk 5 m_MOD_mayGo 1 := ⟨⟨(gw_at 77 (by decide +kernel) (by decide +kernel)), (gw_at 881 rfl rfl), by decide, by decide +kernel⟩, (gw_at 880 (by decide +kernel) (by decide +kernel)), (gw_at 69 (by decide +kernel) (by decide +kernel)), ⟨_, rfl, rfl⟩⟩
set_option maxRecDepth 100000 in
theorem s_MOD_step : VMk 5 m_MOD_step 0 := ⟨⟨(gw_at 77 (by decide +kernel) (by decide +kernel)), (gw_at 719 rfl rfl), by decide, by decide +kernel⟩, (gw_at 717 (by decide +kernel) (by decide +kernel)), (gw_at 718 (by decide +kernel) (by decide +kernel)), ⟨_, rfl, rfl⟩⟩
set_option maxRecDepth 100000 in
theorem s_MOD_run : VMk 5 m_MOD_run 1 := ⟨⟨(gw_at 77 (by decide +kernel) (by decide +kernel)), (gw_at 885 rfl rfl), by decide, by decide +kernel⟩, (gw_at 883 (by decide +kernel) (by decide +kernel)), (gw_at 884 (by decide +kernel) (by decide +kernel)), ⟨_, rfl, rfl⟩⟩
set_option maxRecDepth 100000 in
theorem s_MOD_is : VMk 5 m_MOD_is 1 := ⟨⟨(gw_at 77 (by decide +kernel) (by decide +kernel)), (gw_at 898 rfl rfl), by decide, by decide +kernel⟩, (gw_at 897 (by decide +kernel) (by decide +kernel)), (gw_at 70 (by decide +kernel) (by decide +kernel)), ⟨_, rfl, rfl⟩⟩
set_option maxRecDepth 100000 in
theorem s_MOD_current : VMk 5 m_MOD_current 0 := ⟨⟨(gw_at 77 (by decide +kernel) (by decide +kernel)), (gw_at 890 rfl rfl), by decide, by decide +kernel⟩, (gw_at 888 (by decide +kernel) (by decide +kernel)), (gw_at 889 (by decide +kernel) (by decide +kernel)), ⟨_, rfl, rfl⟩⟩
set_option maxRecDepth 100000 in
theorem s_MOD_stateOf : VMk 5 m_MOD_stateOf 1 := ⟨⟨(gw_at 77 (by decide +kernel) (by decide +kernel)), (gw_at 894 rfl rfl), by decide, by decide +kernel⟩, (gw_at 892 (by decide +kernel) (by decide +kernel)), (gw_at 893 (by decide +kernel) (by decide +kernel)), ⟨_, rfl, rfl⟩⟩
set_option maxRecDepth 100000 in
theorem s_MOD_exitOf : VMk 5 m_MOD_exitOf 1 := ⟨⟨(gw_at 77 (by decide +kernel) (by decide +kernel)), (gw_at 902 rfl rfl), by decide, by decide +kernel⟩, (gw_at 900 (by decide +kernel) (by decide +kernel)), (gw_at 901 (by decide +kernel) (by decide +kernel)), ⟨_, rfl, rfl⟩⟩
set_option maxRecDepth 100000 in
theorem s_MOD_parentOf : VMk 5 m_MOD_parentOf 1 := ⟨⟨(gw_at 77 (by decide +kernel) (by decide +kernel)), (gw_at 906 rfl rfl), by decide, by decide +kernel⟩, (gw_at 904 (by decide +kernel) (by decide +kernel)), (gw_at 905 (by decide +kernel) (by decide +kernel)), ⟨_, rfl, rfl⟩⟩
set_option maxRecDepth 100000 in
theorem s_MOD_pages : VMk 5 m_MOD_pages 1 := ⟨⟨(gw_at 77 (by decide +kernel) (by decide +kernel)), (gw_at 910 rfl rfl), by decide, by decide +kernel⟩, (gw_at 908 (by decide +kernel) (by decide +kernel)), (gw_at 909 (by decide +kernel) (by decide +kernel)), ⟨_, rfl, rfl⟩⟩
set_option maxRecDepth 100000 in
theorem s_MOD_register : VMk 5 m_MOD_register 2 := ⟨⟨(gw_at 77 (by decide +kernel) (by decide +kernel)), (gw_at 914 rfl rfl), by decide, by decide +kernel⟩, (gw_at 912 (by decide +kernel) (by decide +kernel)), (gw_at 913 (by decide +kernel) (by decide +kernel)), ⟨_, rfl, rfl⟩⟩
set_option maxRecDepth 100000 in
theorem s_MOD_pc : VMk 5 m_MOD_pc 1 := ⟨⟨(gw_at 77 (by decide +kernel) (by decide +kernel)), (gw_at 918 rfl rfl), by decide, by decide +kernel⟩, (gw_at 916 (by decide +kernel) (by decide +kernel)), (gw_at 917 (by decide +kernel) (by decide +kernel)), ⟨_, rfl, rfl⟩⟩
set_option maxRecDepth 100000 in
theorem s_MOD_word : VMk 5 m_MOD_word 2 := ⟨⟨(gw_at 77 (by decide +kernel) (by decide +kernel)), (gw_at 922 rfl rfl), by decide, by decide +kernel⟩, (gw_at 920 (by decide +kernel) (by decide +kernel)), (gw_at 921 (by decide +kernel) (by decide +kernel)), ⟨_, rfl, rfl⟩⟩
set_option maxRecDepth 100000 in
theorem s_MOD_descriptor : VMk 5 m_MOD_descriptor 2 := ⟨⟨(gw_at 77 (by decide +kernel) (by decide +kernel)), (gw_at 926 rfl rfl), by decide, by decide +kernel⟩, (gw_at 924 (by decide +kernel) (by decide +kernel)), (gw_at 925 (by decide +kernel) (by decide +kernel)), ⟨_, rfl, rfl⟩⟩
set_option maxRecDepth 100000 in
theorem s_MOD_held : VMk 5 m_MOD_held 1 := ⟨⟨(gw_at 77 (by decide +kernel) (by decide +kernel)), (gw_at 930 rfl rfl), by decide, by decide +kernel⟩, (gw_at 928 (by decide +kernel) (by decide +kernel)), (gw_at 929 (by decide +kernel) (by decide +kernel)), ⟨_, rfl, rfl⟩⟩
set_option maxRecDepth 100000 in
theorem s_MOD_consoleLength : VMk 5 m_MOD_consoleLength 0 := ⟨⟨(gw_at 77 (by decide +kernel) (by decide +kernel)), (gw_at 934 rfl rfl), by decide, by decide +kernel⟩, (gw_at 932 (by decide +kernel) (by decide +kernel)), (gw_at 933 (by decide +kernel) (by decide +kernel)), ⟨_, rfl, rfl⟩⟩
set_option maxRecDepth 100000 in
theorem s_MOD_console : VMk 5 m_MOD_console 1 := ⟨⟨(gw_at 77 (by decide +kernel) (by decide +kernel)), (gw_at 938 rfl rfl), by decide, by decide +kernel⟩, (gw_at 936 (by decide +kernel) (by decide +kernel)), (gw_at 937 (by decide +kernel) (by decide +kernel)), ⟨_, rfl, rfl⟩⟩
set_option maxRecDepth 100000 in
theorem s_MOD_waitingTurn : VMk 5 m_MOD_waitingTurn 1 := ⟨⟨(gw_at 77 (by decide +kernel) (by decide +kernel)), (gw_at 942 rfl rfl), by decide, by decide +kernel⟩, (gw_at 940 (by decide +kernel) (by decide +kernel)), (gw_at 941 (by decide +kernel) (by decide +kernel)), ⟨_, rfl, rfl⟩⟩
set_option maxRecDepth 100000 in
theorem s_X_execute : SMk m_X_execute 2 := ⟨⟨(gw_at 78 (by decide +kernel) (by decide +kernel)), (gw_at 288 rfl rfl), by decide, by decide +kernel⟩, (gw_at 287 (by decide +kernel) (by decide +kernel))⟩
set_option maxRecDepth 100000 in
theorem s_X_special : SMk m_X_special 1 := ⟨⟨(gw_at 78 (by decide +kernel) (by decide +kernel)), (gw_at 372 rfl rfl), by decide, by decide +kernel⟩, (gw_at 371 (by decide +kernel) (by decide +kernel))⟩
set_option maxRecDepth 100000 in
theorem s_X_go : SMk m_X_go 1 := ⟨⟨(gw_at 78 (by decide +kernel) (by decide +kernel)), (gw_at 299 rfl rfl), by decide, by decide +kernel⟩, (gw_at 298 (by decide +kernel) (by decide +kernel))⟩
set_option maxRecDepth 100000 in
theorem s_X_setAndGo : SMk m_X_setAndGo 3 := ⟨⟨(gw_at 78 (by decide +kernel) (by decide +kernel)), (gw_at 295 rfl rfl), by decide, by decide +kernel⟩, (gw_at 294 (by decide +kernel) (by decide +kernel))⟩
set_option maxRecDepth 100000 in
theorem s_X_jump : SMk m_X_jump 3 := ⟨⟨(gw_at 78 (by decide +kernel) (by decide +kernel)), (gw_at 306 rfl rfl), by decide, by decide +kernel⟩, (gw_at 305 (by decide +kernel) (by decide +kernel))⟩
set_option maxRecDepth 100000 in
theorem s_X_jumpByRegister : SMk m_X_jumpByRegister 2 := ⟨⟨(gw_at 78 (by decide +kernel) (by decide +kernel)), (gw_at 309 rfl rfl), by decide, by decide +kernel⟩, (gw_at 308 (by decide +kernel) (by decide +kernel))⟩
set_option maxRecDepth 100000 in
theorem s_X_branch : SMk m_X_branch 2 := ⟨⟨(gw_at 78 (by decide +kernel) (by decide +kernel)), (gw_at 325 rfl rfl), by decide, by decide +kernel⟩, (gw_at 324 (by decide +kernel) (by decide +kernel))⟩
set_option maxRecDepth 100000 in
theorem s_X_holdsTrue : SMk m_X_holdsTrue 3 := ⟨⟨(gw_at 78 (by decide +kernel) (by decide +kernel)), (gw_at 331 rfl rfl), by decide, by decide +kernel⟩, (gw_at 330 (by decide +kernel) (by decide +kernel))⟩
set_option maxRecDepth 100000 in
theorem s_X_fetch : SMk m_X_fetch 3 := ⟨⟨(gw_at 78 (by decide +kernel) (by decide +kernel)), (gw_at 341 rfl rfl), by decide, by decide +kernel⟩, (gw_at 340 (by decide +kernel) (by decide +kernel))⟩
set_option maxRecDepth 100000 in
theorem s_X_widen : SMk m_X_widen 2 := ⟨⟨(gw_at 78 (by decide +kernel) (by decide +kernel)), (gw_at 347 rfl rfl), by decide, by decide +kernel⟩, (gw_at 346 (by decide +kernel) (by decide +kernel))⟩
set_option maxRecDepth 100000 in
theorem s_X_put : SMk m_X_put 3 := ⟨⟨(gw_at 78 (by decide +kernel) (by decide +kernel)), (gw_at 351 rfl rfl), by decide, by decide +kernel⟩, (gw_at 350 (by decide +kernel) (by decide +kernel))⟩
set_option maxRecDepth 100000 in
theorem s_X_maskOf : SMk m_X_maskOf 1 := ⟨⟨(gw_at 78 (by decide +kernel) (by decide +kernel)), (gw_at 357 rfl rfl), by decide, by decide +kernel⟩, (gw_at 356 (by decide +kernel) (by decide +kernel))⟩
set_option maxRecDepth 100000 in
theorem s_X_isCrooked : SMk m_X_isCrooked 2 := ⟨⟨(gw_at 78 (by decide +kernel) (by decide +kernel)), (gw_at 344 rfl rfl), by decide, by decide +kernel⟩, (gw_at 343 (by decide +kernel) (by decide +kernel))⟩
set_option maxRecDepth 100000 in
theorem s_X_computeWithNumber : SMk m_X_computeWithNumber 2 := ⟨⟨(gw_at 78 (by decide +kernel) (by decide +kernel)), (gw_at 360 rfl rfl), by decide, by decide +kernel⟩, (gw_at 359 (by decide +kernel) (by decide +kernel))⟩
set_option maxRecDepth 100000 in
theorem s_X_computeWithRegister : SMk m_X_computeWithRegister 2 := ⟨⟨(gw_at 78 (by decide +kernel) (by decide +kernel)), (gw_at 369 rfl rfl), by decide, by decide +kernel⟩, (gw_at 368 (by decide +kernel) (by decide +kernel))⟩
set_option maxRecDepth 100000 in
theorem s_X_compute : SMk m_X_compute 3 := ⟨⟨(gw_at 78 (by decide +kernel) (by decide +kernel)), (gw_at 366 rfl rfl), by decide, by decide +kernel⟩, (gw_at 365 (by decide +kernel) (by decide +kernel))⟩
set_option maxRecDepth 100000 in
theorem s_X_isBelow : SMk m_X_isBelow 2 := ⟨⟨(gw_at 78 (by decide +kernel) (by decide +kernel)), (gw_at 334 rfl rfl), by decide, by decide +kernel⟩, (gw_at 333 (by decide +kernel) (by decide +kernel))⟩
set_option maxRecDepth 100000 in
theorem s_X_first : SMk m_X_first 2 := ⟨⟨(gw_at 78 (by decide +kernel) (by decide +kernel)), (gw_at 315 rfl rfl), by decide, by decide +kernel⟩, (gw_at 314 (by decide +kernel) (by decide +kernel))⟩
set_option maxRecDepth 100000 in
theorem s_X_second : SMk m_X_second 2 := ⟨⟨(gw_at 78 (by decide +kernel) (by decide +kernel)), (gw_at 328 rfl rfl), by decide, by decide +kernel⟩, (gw_at 327 (by decide +kernel) (by decide +kernel))⟩
set_option maxRecDepth 100000 in
theorem s_X_selector : SMk m_X_selector 1 := ⟨⟨(gw_at 78 (by decide +kernel) (by decide +kernel)), (gw_at 312 rfl rfl), by decide, by decide +kernel⟩, (gw_at 311 (by decide +kernel) (by decide +kernel))⟩
set_option maxRecDepth 100000 in
theorem s_X_variant : SMk m_X_variant 1 := ⟨⟨(gw_at 78 (by decide +kernel) (by decide +kernel)), (gw_at 363 rfl rfl), by decide, by decide +kernel⟩, (gw_at 362 (by decide +kernel) (by decide +kernel))⟩
set_option maxRecDepth 100000 in
theorem s_X_shortNumber : SMk m_X_shortNumber 1 := ⟨⟨(gw_at 78 (by decide +kernel) (by decide +kernel)), (gw_at 322 rfl rfl), by decide, by decide +kernel⟩, (gw_at 321 (by decide +kernel) (by decide +kernel))⟩
set_option maxRecDepth 100000 in
theorem s_X_putNumber : SMk m_X_putNumber 1 := ⟨⟨(gw_at 78 (by decide +kernel) (by decide +kernel)), (gw_at 354 rfl rfl), by decide, by decide +kernel⟩, (gw_at 353 (by decide +kernel) (by decide +kernel))⟩
set_option maxRecDepth 100000 in
theorem s_X_branchNumber : SMk m_X_branchNumber 1 := ⟨⟨(gw_at 78 (by decide +kernel) (by decide +kernel)), (gw_at 338 rfl rfl), by decide, by decide +kernel⟩, (gw_at 337 (by decide +kernel) (by decide +kernel))⟩
set_option maxRecDepth 100000 in
theorem s_X_jumpNumber : SMk m_X_jumpNumber 1 := ⟨⟨(gw_at 78 (by decide +kernel) (by decide +kernel)), (gw_at 302 rfl rfl), by decide, by decide +kernel⟩, (gw_at 301 (by decide +kernel) (by decide +kernel))⟩
set_option maxRecDepth 100000 in
theorem s_X_upperNumber : SMk m_X_upperNumber 1 := ⟨⟨(gw_at 78 (by decide +kernel) (by decide +kernel)), (gw_at 292 rfl rfl), by decide, by decide +kernel⟩, (gw_at 291 (by decide +kernel) (by decide +kernel))⟩
set_option maxRecDepth 100000 in
theorem s_MEM_init : IMk m_MEM_init 1 := ⟨⟨(gw_at 73 (by decide +kernel) (by decide +kernel)), (gw_at 95 rfl rfl), by decide, by decide +kernel⟩, rfl, (gw_at 94 (by decide +kernel) (by decide +kernel)), rfl⟩
set_option maxRecDepth 100000 in
theorem s_MEM_give : VMk 1 m_MEM_give 2 := ⟨⟨(gw_at 73 (by decide +kernel) (by decide +kernel)), (gw_at 237 rfl rfl), by decide, by decide +kernel⟩, (gw_at 235 (by decide +kernel) (by decide +kernel)), (gw_at 236 (by decide +kernel) (by decide +kernel)), ⟨_, rfl, rfl⟩⟩
set_option maxRecDepth 100000 in
theorem s_MEM_takeBack : VMk 1 m_MEM_takeBack 1 := ⟨⟨(gw_at 73 (by decide +kernel) (by decide +kernel)), (gw_at 432 rfl rfl), by decide, by decide +kernel⟩, (gw_at 430 (by decide +kernel) (by decide +kernel)), (gw_at 431 (by decide +kernel) (by decide +kernel)), ⟨_, rfl, rfl⟩⟩
set_option maxRecDepth 100000 in
theorem s_MEM_copyPages : VMk 1 m_MEM_copyPages 2 := ⟨⟨(gw_at 73 (by decide +kernel) (by decide +kernel)), (gw_at 460 rfl rfl), by decide, by decide +kernel⟩, (gw_at 458 (by decide +kernel) (by decide +kernel)), (gw_at 459 (by decide +kernel) (by decide +kernel)), ⟨_, rfl, rfl⟩⟩
set_option maxRecDepth 100000 in
theorem s_MEM_copyProgram : VMk 1 m_MEM_copyProgram 3 := ⟨⟨(gw_at 73 (by decide +kernel) (by decide +kernel)), (gw_at 245 rfl rfl), by decide, by decide +kernel⟩, (gw_at 243 (by decide +kernel) (by decide +kernel)), (gw_at 244 (by decide +kernel) (by decide +kernel)), ⟨_, rfl, rfl⟩⟩
set_option maxRecDepth 100000 in
theorem s_MEM_placeOf : VMk 1 m_MEM_placeOf 2 := ⟨⟨(gw_at 73 (by decide +kernel) (by decide +kernel)), (gw_at 249 rfl rfl), by decide, by decide +kernel⟩, (gw_at 247 (by decide +kernel) (by decide +kernel)), (gw_at 248 (by decide +kernel) (by decide +kernel)), ⟨_, rfl, rfl⟩⟩
set_option maxRecDepth 100000 in
theorem s_MEM_clear : VMk 1 m_MEM_clear 1 := ⟨⟨(gw_at 73 (by decide +kernel) (by decide +kernel)), (gw_at 241 rfl rfl), by decide, by decide +kernel⟩, (gw_at 240 (by decide +kernel) (by decide +kernel)), (gw_at 0 (by decide +kernel) (by decide +kernel)), ⟨_, rfl, rfl⟩⟩

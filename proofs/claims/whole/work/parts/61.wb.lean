/-! THE LAW: its words among the tables, by their places -/
set_option maxRecDepth 20000 in
theorem wm351 : Cond.methodLink RX3 71 yX3_widthOfItem ∈ lw_tbl := List.mem_of_getElem? (i := 404) (by decide +kernel)
set_option maxRecDepth 20000 in
theorem wm352 : Cond.instanceMethod yX3_widthOfItem ∈ lw_tbl := List.mem_of_getElem? (i := 406) (by decide +kernel)
set_option maxRecDepth 20000 in
theorem wm353 : Cond.selects RX3 yX3_widthOfItem yX3_widthOfItem ∈ lw_tbl := List.mem_of_getElem? (i := 11) (by decide +kernel)
set_option maxRecDepth 20000 in
theorem wm354 : Cond.code yX3_widthOfItem cX3_widthOfItem 3 (some .int) ∈ lw_tbl := List.mem_of_getElem? (i := 407) (by decide +kernel)
set_option maxRecDepth 20000 in
theorem wm355 : Cond.code yX5_perform cX5_perform 2 (some .int) ∈ lw_tbl := List.mem_of_getElem? (i := 754) (by decide +kernel)
set_option maxRecDepth 20000 in
theorem wm356 : Cond.fieldLink RX5 141 "ThirdVotesModel" "at" "I" ∈ lw_tbl := List.mem_of_getElem? (i := 581) (by decide +kernel)
set_option maxRecDepth 20000 in
theorem wm357 : Cond.fieldLink RX5 153 "ThirdVotesModel" "deep" "I" ∈ lw_tbl := List.mem_of_getElem? (i := 582) (by decide +kernel)
set_option maxRecDepth 20000 in
theorem wm358 : Cond.methodLink RX5 162 yX5_fault ∈ lw_tbl := List.mem_of_getElem? (i := 755) (by decide +kernel)
set_option maxRecDepth 20000 in
theorem wm359 : Cond.instanceMethod yX5_fault ∈ lw_tbl := List.mem_of_getElem? (i := 757) (by decide +kernel)
set_option maxRecDepth 20000 in
theorem wm360 : Cond.selects RX5 yX5_fault yX5_fault ∈ lw_tbl := List.mem_of_getElem? (i := 33) (by decide +kernel)
set_option maxRecDepth 20000 in
theorem wm361 : Cond.code yX5_fault cX5_fault 1 (some .int) ∈ lw_tbl := List.mem_of_getElem? (i := 758) (by decide +kernel)
set_option maxRecDepth 20000 in
theorem wm362 : Cond.methodLink RX5 156 yX5_isRepeat ∈ lw_tbl := List.mem_of_getElem? (i := 759) (by decide +kernel)
set_option maxRecDepth 20000 in
theorem wm363 : Cond.instanceMethod yX5_isRepeat ∈ lw_tbl := List.mem_of_getElem? (i := 761) (by decide +kernel)
set_option maxRecDepth 20000 in
theorem wm364 : Cond.selects RX5 yX5_isRepeat yX5_isRepeat ∈ lw_tbl := List.mem_of_getElem? (i := 34) (by decide +kernel)
set_option maxRecDepth 20000 in
theorem wm365 : Cond.code yX5_isRepeat cX5_isRepeat 1 (some .boolean) ∈ lw_tbl := List.mem_of_getElem? (i := 762) (by decide +kernel)
set_option maxRecDepth 20000 in
theorem wm366 : Cond.methodLink RX5 144 yX5_codeAt ∈ lw_tbl := List.mem_of_getElem? (i := 763) (by decide +kernel)
set_option maxRecDepth 20000 in
theorem wm367 : Cond.instanceMethod yX5_codeAt ∈ lw_tbl := List.mem_of_getElem? (i := 765) (by decide +kernel)
set_option maxRecDepth 20000 in
theorem wm368 : Cond.selects RX5 yX5_codeAt yX5_codeAt ∈ lw_tbl := List.mem_of_getElem? (i := 35) (by decide +kernel)
set_option maxRecDepth 20000 in
theorem wm369 : Cond.code yX5_codeAt cX5_codeAt 2 (some .int) ∈ lw_tbl := List.mem_of_getElem? (i := 766) (by decide +kernel)
set_option maxRecDepth 20000 in
theorem wm370 : Cond.methodLink RX5 159 yX5_passesItem ∈ lw_tbl := List.mem_of_getElem? (i := 767) (by decide +kernel)
set_option maxRecDepth 20000 in
theorem wm371 : Cond.instanceMethod yX5_passesItem ∈ lw_tbl := List.mem_of_getElem? (i := 769) (by decide +kernel)
set_option maxRecDepth 20000 in
theorem wm372 : Cond.selects RX5 yX5_passesItem yX5_passesItem ∈ lw_tbl := List.mem_of_getElem? (i := 36) (by decide +kernel)
set_option maxRecDepth 20000 in
theorem wm373 : Cond.code yX5_passesItem cX5_passesItem 2 (some .boolean) ∈ lw_tbl := List.mem_of_getElem? (i := 770) (by decide +kernel)
set_option maxRecDepth 20000 in
theorem wm374 : Cond.methodLink RX5 147 yX5_readNumber ∈ lw_tbl := List.mem_of_getElem? (i := 771) (by decide +kernel)
set_option maxRecDepth 20000 in
theorem wm375 : Cond.instanceMethod yX5_readNumber ∈ lw_tbl := List.mem_of_getElem? (i := 773) (by decide +kernel)
set_option maxRecDepth 20000 in
theorem wm376 : Cond.selects RX5 yX5_readNumber yX5_readNumber ∈ lw_tbl := List.mem_of_getElem? (i := 37) (by decide +kernel)
set_option maxRecDepth 20000 in
theorem wm377 : Cond.code yX5_readNumber cX5_readNumber 2 (some .int) ∈ lw_tbl := List.mem_of_getElem? (i := 774) (by decide +kernel)
set_option maxRecDepth 20000 in
theorem wm378 : Cond.methodLink RX5 150 yX5_hex ∈ lw_tbl := List.mem_of_getElem? (i := 775) (by decide +kernel)
set_option maxRecDepth 20000 in
theorem wm379 : Cond.static yX5_hex ∈ lw_tbl := List.mem_of_getElem? (i := 776) (by decide +kernel)
set_option maxRecDepth 20000 in
theorem wm380 : Cond.code yX5_hex cX5_hex 1 (some .int) ∈ lw_tbl := List.mem_of_getElem? (i := 777) (by decide +kernel)
set_option maxRecDepth 20000 in
theorem wm381 : Cond.methodLink RX5 165 yX5_sendsItem ∈ lw_tbl := List.mem_of_getElem? (i := 778) (by decide +kernel)
set_option maxRecDepth 20000 in
theorem wm382 : Cond.instanceMethod yX5_sendsItem ∈ lw_tbl := List.mem_of_getElem? (i := 780) (by decide +kernel)
set_option maxRecDepth 20000 in
theorem wm383 : Cond.selects RX5 yX5_sendsItem yX5_sendsItem ∈ lw_tbl := List.mem_of_getElem? (i := 38) (by decide +kernel)
set_option maxRecDepth 20000 in
theorem wm384 : Cond.code yX5_sendsItem cX5_sendsItem 3 (some .boolean) ∈ lw_tbl := List.mem_of_getElem? (i := 781) (by decide +kernel)
set_option maxRecDepth 20000 in
theorem wm385 : Cond.methodLink RX5 168 yX5_takeBack ∈ lw_tbl := List.mem_of_getElem? (i := 782) (by decide +kernel)
set_option maxRecDepth 20000 in
theorem wm386 : Cond.instanceMethod yX5_takeBack ∈ lw_tbl := List.mem_of_getElem? (i := 784) (by decide +kernel)
set_option maxRecDepth 20000 in
theorem wm387 : Cond.selects RX5 yX5_takeBack yX5_takeBack ∈ lw_tbl := List.mem_of_getElem? (i := 39) (by decide +kernel)
set_option maxRecDepth 20000 in
theorem wm388 : Cond.code yX5_takeBack cX5_takeBack 2 none ∈ lw_tbl := List.mem_of_getElem? (i := 785) (by decide +kernel)
set_option maxRecDepth 20000 in
theorem wm389 : Cond.methodLink RX5 171 yX5_goOn ∈ lw_tbl := List.mem_of_getElem? (i := 786) (by decide +kernel)
set_option maxRecDepth 20000 in
theorem wm390 : Cond.instanceMethod yX5_goOn ∈ lw_tbl := List.mem_of_getElem? (i := 788) (by decide +kernel)
set_option maxRecDepth 20000 in
theorem wm391 : Cond.selects RX5 yX5_goOn yX5_goOn ∈ lw_tbl := List.mem_of_getElem? (i := 40) (by decide +kernel)
set_option maxRecDepth 20000 in
theorem wm392 : Cond.code yX5_goOn cX5_goOn 2 none ∈ lw_tbl := List.mem_of_getElem? (i := 789) (by decide +kernel)
set_option maxRecDepth 20000 in
theorem wm393 : Cond.code yX4_undo cX4_undo 1 (some .int) ∈ lw_tbl := List.mem_of_getElem? (i := 411) (by decide +kernel)
set_option maxRecDepth 20000 in
theorem wm394 : Cond.methodLink RX4 112 yX0_takeBack ∈ lw_tbl := List.mem_of_getElem? (i := 412) (by decide +kernel)
set_option maxRecDepth 20000 in
theorem wm395 : Cond.instanceMethod yX0_takeBack ∈ lw_tbl := List.mem_of_getElem? (i := 413) (by decide +kernel)
set_option maxRecDepth 20000 in
theorem wm396 : Cond.selects RX0 yX0_takeBack yX0_takeBack ∈ lw_tbl := List.mem_of_getElem? (i := 414) (by decide +kernel)
set_option maxRecDepth 20000 in
theorem wm397 : Cond.code yX0_takeBack cX0_takeBack 2 (some .boolean) ∈ lw_tbl := List.mem_of_getElem? (i := 415) (by decide +kernel)
set_option maxRecDepth 20000 in
theorem wm398 : Cond.methodLink RX4 115 yX0_size ∈ lw_tbl := List.mem_of_getElem? (i := 416) (by decide +kernel)
set_option maxRecDepth 20000 in
theorem wm399 : Cond.instanceMethod yX0_size ∈ lw_tbl := List.mem_of_getElem? (i := 417) (by decide +kernel)
set_option maxRecDepth 20000 in
theorem wm400 : Cond.selects RX0 yX0_size yX0_size ∈ lw_tbl := List.mem_of_getElem? (i := 418) (by decide +kernel)
set_option maxRecDepth 20000 in
theorem wm401 : Cond.code yX0_size cX0_size 1 (some .int) ∈ lw_tbl := List.mem_of_getElem? (i := 419) (by decide +kernel)
set_option maxRecDepth 20000 in
theorem wm402 : Cond.code yX5_undo cX5_undo 2 (some .int) ∈ lw_tbl := List.mem_of_getElem? (i := 637) (by decide +kernel)
set_option maxRecDepth 20000 in
theorem wm403 : Cond.code yX4_keep cX4_keep 1 (some .int) ∈ lw_tbl := List.mem_of_getElem? (i := 423) (by decide +kernel)
set_option maxRecDepth 20000 in
theorem wm404 : Cond.methodLink RX4 118 yX0_takeSnapshot ∈ lw_tbl := List.mem_of_getElem? (i := 424) (by decide +kernel)
set_option maxRecDepth 20000 in
theorem wm405 : Cond.instanceMethod yX0_takeSnapshot ∈ lw_tbl := List.mem_of_getElem? (i := 425) (by decide +kernel)
set_option maxRecDepth 20000 in
theorem wm406 : Cond.selects RX0 yX0_takeSnapshot yX0_takeSnapshot ∈ lw_tbl := List.mem_of_getElem? (i := 426) (by decide +kernel)
set_option maxRecDepth 20000 in
theorem wm407 : Cond.code yX0_takeSnapshot cX0_takeSnapshot 2 none ∈ lw_tbl := List.mem_of_getElem? (i := 427) (by decide +kernel)
set_option maxRecDepth 20000 in
theorem wm408 : Cond.fieldLink RX0 24 "ThirdVotes$History" "hasSnapshot" "Z" ∈ lw_tbl := List.mem_of_getElem? (i := 159) (by decide +kernel)
set_option maxRecDepth 20000 in
theorem wm409 : Cond.code yX5_keep cX5_keep 2 (some .int) ∈ lw_tbl := List.mem_of_getElem? (i := 641) (by decide +kernel)
set_option maxRecDepth 20000 in
theorem wm410 : Cond.fieldLink RX5 56 "ThirdVotesModel" "hasSnapshot" "Z" ∈ lw_tbl := List.mem_of_getElem? (i := 577) (by decide +kernel)
set_option maxRecDepth 20000 in
theorem wm411 : Cond.code yX4_restore cX4_restore 1 (some .int) ∈ lw_tbl := List.mem_of_getElem? (i := 431) (by decide +kernel)
set_option maxRecDepth 20000 in
theorem wm412 : Cond.methodLink RX4 121 yX0_hasSnapshot ∈ lw_tbl := List.mem_of_getElem? (i := 432) (by decide +kernel)
set_option maxRecDepth 20000 in
theorem wm413 : Cond.instanceMethod yX0_hasSnapshot ∈ lw_tbl := List.mem_of_getElem? (i := 433) (by decide +kernel)
set_option maxRecDepth 20000 in
theorem wm414 : Cond.selects RX0 yX0_hasSnapshot yX0_hasSnapshot ∈ lw_tbl := List.mem_of_getElem? (i := 434) (by decide +kernel)
set_option maxRecDepth 20000 in
theorem wm415 : Cond.code yX0_hasSnapshot cX0_hasSnapshot 1 (some .boolean) ∈ lw_tbl := List.mem_of_getElem? (i := 435) (by decide +kernel)
set_option maxRecDepth 20000 in
theorem wm416 : Cond.methodLink RX4 125 yX0_copySnapshotTo ∈ lw_tbl := List.mem_of_getElem? (i := 436) (by decide +kernel)
set_option maxRecDepth 20000 in
theorem wm417 : Cond.instanceMethod yX0_copySnapshotTo ∈ lw_tbl := List.mem_of_getElem? (i := 437) (by decide +kernel)
set_option maxRecDepth 20000 in
theorem wm418 : Cond.selects RX0 yX0_copySnapshotTo yX0_copySnapshotTo ∈ lw_tbl := List.mem_of_getElem? (i := 438) (by decide +kernel)
set_option maxRecDepth 20000 in
theorem wm419 : Cond.code yX0_copySnapshotTo cX0_copySnapshotTo 2 none ∈ lw_tbl := List.mem_of_getElem? (i := 439) (by decide +kernel)
set_option maxRecDepth 20000 in
theorem wm420 : Cond.code yX5_restore cX5_restore 2 (some .int) ∈ lw_tbl := List.mem_of_getElem? (i := 645) (by decide +kernel)
set_option maxRecDepth 20000 in
theorem wm421 : Cond.code yX4_level cX4_level 2 (some .int) ∈ lw_tbl := List.mem_of_getElem? (i := 443) (by decide +kernel)
set_option maxRecDepth 20000 in
theorem wm422 : Cond.methodLink RX4 128 yX2_levelAt ∈ lw_tbl := List.mem_of_getElem? (i := 444) (by decide +kernel)
set_option maxRecDepth 20000 in
theorem wm423 : Cond.code yX5_level cX5_level 2 (some .int) ∈ lw_tbl := List.mem_of_getElem? (i := 793) (by decide +kernel)
set_option maxRecDepth 20000 in
theorem wm424 : Cond.code yX4_fall cX4_fall 2 (some .int) ∈ lw_tbl := List.mem_of_getElem? (i := 448) (by decide +kernel)
set_option maxRecDepth 20000 in
theorem wm425 : Cond.methodLink RX4 131 yX2_fallOfRank ∈ lw_tbl := List.mem_of_getElem? (i := 449) (by decide +kernel)
set_option maxRecDepth 20000 in
theorem wm426 : Cond.code yX5_fall cX5_fall 2 (some .int) ∈ lw_tbl := List.mem_of_getElem? (i := 797) (by decide +kernel)
set_option maxRecDepth 20000 in
theorem wm427 : Cond.code yX4_sent cX4_sent 2 (some .int) ∈ lw_tbl := List.mem_of_getElem? (i := 453) (by decide +kernel)
set_option maxRecDepth 20000 in
theorem wm428 : Cond.methodLink RX4 134 yX2_wordOfRank ∈ lw_tbl := List.mem_of_getElem? (i := 454) (by decide +kernel)
set_option maxRecDepth 20000 in
theorem wm429 : Cond.instanceMethod yX2_wordOfRank ∈ lw_tbl := List.mem_of_getElem? (i := 455) (by decide +kernel)
set_option maxRecDepth 20000 in
theorem wm430 : Cond.selects RX2 yX2_wordOfRank yX2_wordOfRank ∈ lw_tbl := List.mem_of_getElem? (i := 456) (by decide +kernel)
set_option maxRecDepth 20000 in
theorem wm431 : Cond.code yX2_wordOfRank cX2_wordOfRank 2 (some .int) ∈ lw_tbl := List.mem_of_getElem? (i := 457) (by decide +kernel)
set_option maxRecDepth 20000 in
theorem wm432 : Cond.code yX5_sent cX5_sent 2 (some .int) ∈ lw_tbl := List.mem_of_getElem? (i := 801) (by decide +kernel)
set_option maxRecDepth 20000 in
theorem wm433 : Cond.code yX4_received cX4_received 3 (some .int) ∈ lw_tbl := List.mem_of_getElem? (i := 461) (by decide +kernel)
set_option maxRecDepth 20000 in
theorem wm434 : Cond.methodLink RX4 137 yX1_receive ∈ lw_tbl := List.mem_of_getElem? (i := 462) (by decide +kernel)
set_option maxRecDepth 20000 in
theorem wm435 : Cond.instanceMethod yX1_receive ∈ lw_tbl := List.mem_of_getElem? (i := 463) (by decide +kernel)
set_option maxRecDepth 20000 in
theorem wm436 : Cond.selects RX1 yX1_receive yX1_receive ∈ lw_tbl := List.mem_of_getElem? (i := 464) (by decide +kernel)
set_option maxRecDepth 20000 in
theorem wm437 : Cond.code yX1_receive cX1_receive 5 none ∈ lw_tbl := List.mem_of_getElem? (i := 465) (by decide +kernel)
set_option maxRecDepth 20000 in
theorem wm438 : Cond.fieldLink RX1 16 "ThirdVotes$Receiver" "count" "I" ∈ lw_tbl := List.mem_of_getElem? (i := 112) (by decide +kernel)
set_option maxRecDepth 20000 in
theorem wm439 : Cond.fieldLink RX1 20 "ThirdVotes$Receiver" "falseStarts" "I" ∈ lw_tbl := List.mem_of_getElem? (i := 113) (by decide +kernel)
set_option maxRecDepth 20000 in
theorem wm440 : Cond.methodLink RX1 23 yX2_nextFall ∈ lw_tbl := List.mem_of_getElem? (i := 466) (by decide +kernel)
set_option maxRecDepth 20000 in
theorem wm441 : Cond.methodLink RX1 29 yX2_end ∈ lw_tbl := List.mem_of_getElem? (i := 467) (by decide +kernel)
set_option maxRecDepth 20000 in
theorem wm442 : Cond.methodLink RX1 33 yX1_tellFrom ∈ lw_tbl := List.mem_of_getElem? (i := 468) (by decide +kernel)
set_option maxRecDepth 20000 in
theorem wm443 : Cond.instanceMethod yX1_tellFrom ∈ lw_tbl := List.mem_of_getElem? (i := 470) (by decide +kernel)
set_option maxRecDepth 20000 in
theorem wm444 : Cond.selects RX1 yX1_tellFrom yX1_tellFrom ∈ lw_tbl := List.mem_of_getElem? (i := 12) (by decide +kernel)
set_option maxRecDepth 20000 in
theorem wm445 : Cond.code yX1_tellFrom cX1_tellFrom 8 (some .int) ∈ lw_tbl := List.mem_of_getElem? (i := 471) (by decide +kernel)
set_option maxRecDepth 20000 in
theorem wm446 : Cond.fieldLink RX1 51 "ThirdVotes$Receiver" "doubtfulBits" "I" ∈ lw_tbl := List.mem_of_getElem? (i := 114) (by decide +kernel)
set_option maxRecDepth 20000 in
theorem wm447 : Cond.methodLink RX1 54 yX1_tellBit ∈ lw_tbl := List.mem_of_getElem? (i := 472) (by decide +kernel)
set_option maxRecDepth 20000 in
theorem wm448 : Cond.instanceMethod yX1_tellBit ∈ lw_tbl := List.mem_of_getElem? (i := 474) (by decide +kernel)
set_option maxRecDepth 20000 in
theorem wm449 : Cond.selects RX1 yX1_tellBit yX1_tellBit ∈ lw_tbl := List.mem_of_getElem? (i := 13) (by decide +kernel)
set_option maxRecDepth 20000 in
theorem wm450 : Cond.code yX1_tellBit cX1_tellBit 6 (some .int) ∈ lw_tbl := List.mem_of_getElem? (i := 475) (by decide +kernel)
set_option maxRecDepth 20000 in
theorem wm451 : Cond.methodLink RX1 74 yX2_levelAt ∈ lw_tbl := List.mem_of_getElem? (i := 476) (by decide +kernel)
set_option maxRecDepth 20000 in
theorem wm452 : Cond.methodLink RX1 57 yX1_thirdLook ∈ lw_tbl := List.mem_of_getElem? (i := 477) (by decide +kernel)
set_option maxRecDepth 20000 in
theorem wm453 : Cond.static yX1_thirdLook ∈ lw_tbl := List.mem_of_getElem? (i := 478) (by decide +kernel)
set_option maxRecDepth 20000 in
theorem wm454 : Cond.code yX1_thirdLook cX1_thirdLook 2 (some .int) ∈ lw_tbl := List.mem_of_getElem? (i := 479) (by decide +kernel)
set_option maxRecDepth 20000 in
theorem wm455 : Cond.methodLink RX1 60 yX2_setting ∈ lw_tbl := List.mem_of_getElem? (i := 480) (by decide +kernel)
set_option maxRecDepth 20000 in
theorem wm456 : Cond.methodLink RX1 63 yX1_kindOf ∈ lw_tbl := List.mem_of_getElem? (i := 481) (by decide +kernel)
set_option maxRecDepth 20000 in
theorem wm457 : Cond.static yX1_kindOf ∈ lw_tbl := List.mem_of_getElem? (i := 482) (by decide +kernel)
set_option maxRecDepth 20000 in
theorem wm458 : Cond.code yX1_kindOf cX1_kindOf 3 (some .int) ∈ lw_tbl := List.mem_of_getElem? (i := 483) (by decide +kernel)
set_option maxRecDepth 20000 in
theorem wm459 : Cond.methodLink RX1 67 yX1_wordIn ∈ lw_tbl := List.mem_of_getElem? (i := 484) (by decide +kernel)
set_option maxRecDepth 20000 in
theorem wm460 : Cond.static yX1_wordIn ∈ lw_tbl := List.mem_of_getElem? (i := 485) (by decide +kernel)
set_option maxRecDepth 20000 in
theorem wm461 : Cond.code yX1_wordIn cX1_wordIn 1 (some .int) ∈ lw_tbl := List.mem_of_getElem? (i := 486) (by decide +kernel)
set_option maxRecDepth 20000 in
theorem wm462 : Cond.methodLink RX1 70 yX1_add ∈ lw_tbl := List.mem_of_getElem? (i := 488) (by decide +kernel)
set_option maxRecDepth 20000 in
theorem wm463 : Cond.instanceMethod yX1_add ∈ lw_tbl := List.mem_of_getElem? (i := 490) (by decide +kernel)
set_option maxRecDepth 20000 in
theorem wm464 : Cond.selects RX1 yX1_add yX1_add ∈ lw_tbl := List.mem_of_getElem? (i := 14) (by decide +kernel)
set_option maxRecDepth 20000 in
theorem wm465 : Cond.code yX1_add cX1_add 5 none ∈ lw_tbl := List.mem_of_getElem? (i := 491) (by decide +kernel)
set_option maxRecDepth 20000 in
theorem wm466 : Cond.methodLink RX4 141 yX1_note ∈ lw_tbl := List.mem_of_getElem? (i := 492) (by decide +kernel)
set_option maxRecDepth 20000 in
theorem wm467 : Cond.instanceMethod yX1_note ∈ lw_tbl := List.mem_of_getElem? (i := 493) (by decide +kernel)
set_option maxRecDepth 20000 in
theorem wm468 : Cond.selects RX1 yX1_note yX1_note ∈ lw_tbl := List.mem_of_getElem? (i := 494) (by decide +kernel)
set_option maxRecDepth 20000 in
theorem wm469 : Cond.code yX1_note cX1_note 3 (some .int) ∈ lw_tbl := List.mem_of_getElem? (i := 495) (by decide +kernel)
set_option maxRecDepth 20000 in
theorem wm470 : Cond.code yX5_received cX5_received 3 (some .int) ∈ lw_tbl := List.mem_of_getElem? (i := 805) (by decide +kernel)
set_option maxRecDepth 20000 in
theorem wm471 : Cond.fieldLink RX5 109 "ThirdVotesModel" "many" "I" ∈ lw_tbl := List.mem_of_getElem? (i := 585) (by decide +kernel)
set_option maxRecDepth 20000 in
theorem wm472 : Cond.methodLink RX5 127 yX5_receive ∈ lw_tbl := List.mem_of_getElem? (i := 806) (by decide +kernel)
set_option maxRecDepth 20000 in
theorem wm473 : Cond.instanceMethod yX5_receive ∈ lw_tbl := List.mem_of_getElem? (i := 808) (by decide +kernel)
set_option maxRecDepth 20000 in
theorem wm474 : Cond.selects RX5 yX5_receive yX5_receive ∈ lw_tbl := List.mem_of_getElem? (i := 41) (by decide +kernel)
set_option maxRecDepth 20000 in
theorem wm475 : Cond.code yX5_receive cX5_receive 3 none ∈ lw_tbl := List.mem_of_getElem? (i := 809) (by decide +kernel)
set_option maxRecDepth 20000 in
theorem wm476 : Cond.fieldLink RX5 115 "ThirdVotesModel" "falseStarts" "I" ∈ lw_tbl := List.mem_of_getElem? (i := 586) (by decide +kernel)
set_option maxRecDepth 20000 in
theorem wm477 : Cond.fieldLink RX5 118 "ThirdVotesModel" "doubtful" "I" ∈ lw_tbl := List.mem_of_getElem? (i := 592) (by decide +kernel)
set_option maxRecDepth 20000 in
theorem wm478 : Cond.methodLink RX5 124 yX5_tells ∈ lw_tbl := List.mem_of_getElem? (i := 810) (by decide +kernel)
set_option maxRecDepth 20000 in
theorem wm479 : Cond.instanceMethod yX5_tells ∈ lw_tbl := List.mem_of_getElem? (i := 812) (by decide +kernel)
set_option maxRecDepth 20000 in
theorem wm480 : Cond.selects RX5 yX5_tells yX5_tells ∈ lw_tbl := List.mem_of_getElem? (i := 42) (by decide +kernel)
set_option maxRecDepth 20000 in
theorem wm481 : Cond.code yX5_tells cX5_tells 9 (some .boolean) ∈ lw_tbl := List.mem_of_getElem? (i := 813) (by decide +kernel)
set_option maxRecDepth 20000 in
theorem wm482 : Cond.methodLink RX5 112 yX5_bit ∈ lw_tbl := List.mem_of_getElem? (i := 814) (by decide +kernel)
set_option maxRecDepth 20000 in
theorem wm483 : Cond.instanceMethod yX5_bit ∈ lw_tbl := List.mem_of_getElem? (i := 816) (by decide +kernel)
set_option maxRecDepth 20000 in
theorem wm484 : Cond.selects RX5 yX5_bit yX5_bit ∈ lw_tbl := List.mem_of_getElem? (i := 43) (by decide +kernel)
set_option maxRecDepth 20000 in
theorem wm485 : Cond.code yX5_bit cX5_bit 7 (some .int) ∈ lw_tbl := List.mem_of_getElem? (i := 817) (by decide +kernel)
set_option maxRecDepth 20000 in
theorem wm486 : Cond.code yX4_total cX4_total 2 (some .int) ∈ lw_tbl := List.mem_of_getElem? (i := 499) (by decide +kernel)
set_option maxRecDepth 20000 in
theorem wm487 : Cond.methodLink RX4 144 yX2_wordCount ∈ lw_tbl := List.mem_of_getElem? (i := 500) (by decide +kernel)
set_option maxRecDepth 20000 in
theorem wm488 : Cond.instanceMethod yX2_wordCount ∈ lw_tbl := List.mem_of_getElem? (i := 501) (by decide +kernel)
set_option maxRecDepth 20000 in
theorem wm489 : Cond.selects RX2 yX2_wordCount yX2_wordCount ∈ lw_tbl := List.mem_of_getElem? (i := 502) (by decide +kernel)
set_option maxRecDepth 20000 in
theorem wm490 : Cond.code yX2_wordCount cX2_wordCount 1 (some .int) ∈ lw_tbl := List.mem_of_getElem? (i := 503) (by decide +kernel)
set_option maxRecDepth 20000 in
theorem wm491 : Cond.methodLink RX4 147 yX2_countFalls ∈ lw_tbl := List.mem_of_getElem? (i := 504) (by decide +kernel)
set_option maxRecDepth 20000 in
theorem wm492 : Cond.instanceMethod yX2_countFalls ∈ lw_tbl := List.mem_of_getElem? (i := 505) (by decide +kernel)
set_option maxRecDepth 20000 in
theorem wm493 : Cond.selects RX2 yX2_countFalls yX2_countFalls ∈ lw_tbl := List.mem_of_getElem? (i := 506) (by decide +kernel)
set_option maxRecDepth 20000 in
theorem wm494 : Cond.code yX2_countFalls cX2_countFalls 3 (some .int) ∈ lw_tbl := List.mem_of_getElem? (i := 507) (by decide +kernel)
set_option maxRecDepth 20000 in
theorem wm495 : Cond.methodLink RX4 150 yX2_countLowTicks ∈ lw_tbl := List.mem_of_getElem? (i := 508) (by decide +kernel)
set_option maxRecDepth 20000 in
theorem wm496 : Cond.instanceMethod yX2_countLowTicks ∈ lw_tbl := List.mem_of_getElem? (i := 509) (by decide +kernel)
set_option maxRecDepth 20000 in
theorem wm497 : Cond.selects RX2 yX2_countLowTicks yX2_countLowTicks ∈ lw_tbl := List.mem_of_getElem? (i := 510) (by decide +kernel)
set_option maxRecDepth 20000 in
theorem wm498 : Cond.code yX2_countLowTicks cX2_countLowTicks 3 (some .int) ∈ lw_tbl := List.mem_of_getElem? (i := 511) (by decide +kernel)
set_option maxRecDepth 20000 in
theorem wm499 : Cond.methodLink RX4 153 yX4_totalReceived ∈ lw_tbl := List.mem_of_getElem? (i := 512) (by decide +kernel)
set_option maxRecDepth 20000 in
theorem wm500 : Cond.instanceMethod yX4_totalReceived ∈ lw_tbl := List.mem_of_getElem? (i := 514) (by decide +kernel)
set_option maxRecDepth 20000 in
theorem wm501 : Cond.selects RX4 yX4_totalReceived yX4_totalReceived ∈ lw_tbl := List.mem_of_getElem? (i := 15) (by decide +kernel)
set_option maxRecDepth 20000 in
theorem wm502 : Cond.code yX4_totalReceived cX4_totalReceived 2 (some .int) ∈ lw_tbl := List.mem_of_getElem? (i := 515) (by decide +kernel)
set_option maxRecDepth 20000 in
theorem wm503 : Cond.methodLink RX4 156 yX1_count ∈ lw_tbl := List.mem_of_getElem? (i := 516) (by decide +kernel)
set_option maxRecDepth 20000 in
theorem wm504 : Cond.instanceMethod yX1_count ∈ lw_tbl := List.mem_of_getElem? (i := 517) (by decide +kernel)
set_option maxRecDepth 20000 in
theorem wm505 : Cond.selects RX1 yX1_count yX1_count ∈ lw_tbl := List.mem_of_getElem? (i := 518) (by decide +kernel)
set_option maxRecDepth 20000 in
theorem wm506 : Cond.code yX1_count cX1_count 1 (some .int) ∈ lw_tbl := List.mem_of_getElem? (i := 519) (by decide +kernel)
set_option maxRecDepth 20000 in
theorem wm507 : Cond.methodLink RX4 159 yX1_countKind ∈ lw_tbl := List.mem_of_getElem? (i := 520) (by decide +kernel)
set_option maxRecDepth 20000 in
theorem wm508 : Cond.instanceMethod yX1_countKind ∈ lw_tbl := List.mem_of_getElem? (i := 521) (by decide +kernel)
set_option maxRecDepth 20000 in
theorem wm509 : Cond.selects RX1 yX1_countKind yX1_countKind ∈ lw_tbl := List.mem_of_getElem? (i := 522) (by decide +kernel)
set_option maxRecDepth 20000 in
theorem wm510 : Cond.code yX1_countKind cX1_countKind 4 (some .int) ∈ lw_tbl := List.mem_of_getElem? (i := 523) (by decide +kernel)
set_option maxRecDepth 20000 in
theorem wm511 : Cond.methodLink RX1 37 yX1_note ∈ lw_tbl := List.mem_of_getElem? (i := 524) (by decide +kernel)
set_option maxRecDepth 20000 in
theorem wm512 : Cond.methodLink RX4 184 yX1_falseStarts ∈ lw_tbl := List.mem_of_getElem? (i := 525) (by decide +kernel)
set_option maxRecDepth 20000 in
theorem wm513 : Cond.instanceMethod yX1_falseStarts ∈ lw_tbl := List.mem_of_getElem? (i := 526) (by decide +kernel)
set_option maxRecDepth 20000 in
theorem wm514 : Cond.selects RX1 yX1_falseStarts yX1_falseStarts ∈ lw_tbl := List.mem_of_getElem? (i := 527) (by decide +kernel)
set_option maxRecDepth 20000 in
theorem wm515 : Cond.code yX1_falseStarts cX1_falseStarts 1 (some .int) ∈ lw_tbl := List.mem_of_getElem? (i := 528) (by decide +kernel)
set_option maxRecDepth 20000 in
theorem wm516 : Cond.methodLink RX4 162 yX1_countDoubtful ∈ lw_tbl := List.mem_of_getElem? (i := 529) (by decide +kernel)
set_option maxRecDepth 20000 in
theorem wm517 : Cond.instanceMethod yX1_countDoubtful ∈ lw_tbl := List.mem_of_getElem? (i := 530) (by decide +kernel)
set_option maxRecDepth 20000 in
theorem wm518 : Cond.selects RX1 yX1_countDoubtful yX1_countDoubtful ∈ lw_tbl := List.mem_of_getElem? (i := 531) (by decide +kernel)
set_option maxRecDepth 20000 in
theorem wm519 : Cond.code yX1_countDoubtful cX1_countDoubtful 3 (some .int) ∈ lw_tbl := List.mem_of_getElem? (i := 532) (by decide +kernel)
set_option maxRecDepth 20000 in
theorem wm520 : Cond.methodLink RX4 165 yX1_isAllWell ∈ lw_tbl := List.mem_of_getElem? (i := 533) (by decide +kernel)
set_option maxRecDepth 20000 in
theorem wm521 : Cond.instanceMethod yX1_isAllWell ∈ lw_tbl := List.mem_of_getElem? (i := 534) (by decide +kernel)
set_option maxRecDepth 20000 in
theorem wm522 : Cond.selects RX1 yX1_isAllWell yX1_isAllWell ∈ lw_tbl := List.mem_of_getElem? (i := 535) (by decide +kernel)
set_option maxRecDepth 20000 in
theorem wm523 : Cond.code yX1_isAllWell cX1_isAllWell 3 (some .boolean) ∈ lw_tbl := List.mem_of_getElem? (i := 536) (by decide +kernel)
set_option maxRecDepth 20000 in
theorem wm524 : Cond.methodLink RX1 45 yX2_wordCount ∈ lw_tbl := List.mem_of_getElem? (i := 537) (by decide +kernel)
set_option maxRecDepth 20000 in
theorem wm525 : Cond.methodLink RX1 48 yX2_wordOfRank ∈ lw_tbl := List.mem_of_getElem? (i := 538) (by decide +kernel)
set_option maxRecDepth 20000 in
theorem wm526 : Cond.methodLink RX1 41 yX1_isGoodWord ∈ lw_tbl := List.mem_of_getElem? (i := 539) (by decide +kernel)
set_option maxRecDepth 20000 in
theorem wm527 : Cond.instanceMethod yX1_isGoodWord ∈ lw_tbl := List.mem_of_getElem? (i := 541) (by decide +kernel)
set_option maxRecDepth 20000 in
theorem wm528 : Cond.selects RX1 yX1_isGoodWord yX1_isGoodWord ∈ lw_tbl := List.mem_of_getElem? (i := 16) (by decide +kernel)
set_option maxRecDepth 20000 in
theorem wm529 : Cond.code yX1_isGoodWord cX1_isGoodWord 3 (some .boolean) ∈ lw_tbl := List.mem_of_getElem? (i := 542) (by decide +kernel)
set_option maxRecDepth 20000 in
theorem wm530 : Cond.code yX5_total cX5_total 2 (some .int) ∈ lw_tbl := List.mem_of_getElem? (i := 821) (by decide +kernel)
set_option maxRecDepth 20000 in
theorem wm531 : Cond.methodLink RX5 177 yX5_tellsReceived ∈ lw_tbl := List.mem_of_getElem? (i := 822) (by decide +kernel)
set_option maxRecDepth 20000 in
theorem wm532 : Cond.instanceMethod yX5_tellsReceived ∈ lw_tbl := List.mem_of_getElem? (i := 824) (by decide +kernel)
set_option maxRecDepth 20000 in
theorem wm533 : Cond.selects RX5 yX5_tellsReceived yX5_tellsReceived ∈ lw_tbl := List.mem_of_getElem? (i := 44) (by decide +kernel)
set_option maxRecDepth 20000 in
theorem wm534 : Cond.code yX5_tellsReceived cX5_tellsReceived 2 (some .int) ∈ lw_tbl := List.mem_of_getElem? (i := 825) (by decide +kernel)
set_option maxRecDepth 20000 in
theorem wm535 : Cond.methodLink RX5 131 yX5_isWell ∈ lw_tbl := List.mem_of_getElem? (i := 826) (by decide +kernel)
set_option maxRecDepth 20000 in
theorem wm536 : Cond.instanceMethod yX5_isWell ∈ lw_tbl := List.mem_of_getElem? (i := 828) (by decide +kernel)
set_option maxRecDepth 20000 in
theorem wm537 : Cond.selects RX5 yX5_isWell yX5_isWell ∈ lw_tbl := List.mem_of_getElem? (i := 45) (by decide +kernel)
set_option maxRecDepth 20000 in
theorem wm538 : Cond.code yX5_isWell cX5_isWell 3 (some .boolean) ∈ lw_tbl := List.mem_of_getElem? (i := 829) (by decide +kernel)
set_option maxRecDepth 20000 in
theorem wm539 : Cond.methodLink RX5 174 yX5_ofKind ∈ lw_tbl := List.mem_of_getElem? (i := 830) (by decide +kernel)
set_option maxRecDepth 20000 in
theorem wm540 : Cond.instanceMethod yX5_ofKind ∈ lw_tbl := List.mem_of_getElem? (i := 832) (by decide +kernel)
set_option maxRecDepth 20000 in
theorem wm541 : Cond.selects RX5 yX5_ofKind yX5_ofKind ∈ lw_tbl := List.mem_of_getElem? (i := 46) (by decide +kernel)
set_option maxRecDepth 20000 in
theorem wm542 : Cond.code yX5_ofKind cX5_ofKind 4 (some .int) ∈ lw_tbl := List.mem_of_getElem? (i := 833) (by decide +kernel)
set_option maxRecDepth 20000 in
theorem wm543 : Cond.methodLink RX5 180 yX5_falls ∈ lw_tbl := List.mem_of_getElem? (i := 834) (by decide +kernel)
set_option maxRecDepth 20000 in
theorem wm544 : Cond.instanceMethod yX5_falls ∈ lw_tbl := List.mem_of_getElem? (i := 836) (by decide +kernel)
set_option maxRecDepth 20000 in
theorem wm545 : Cond.selects RX5 yX5_falls yX5_falls ∈ lw_tbl := List.mem_of_getElem? (i := 47) (by decide +kernel)
set_option maxRecDepth 20000 in
theorem wm546 : Cond.code yX5_falls cX5_falls 3 (some .int) ∈ lw_tbl := List.mem_of_getElem? (i := 837) (by decide +kernel)
set_option maxRecDepth 20000 in
theorem wm547 : Cond.methodLink RX5 183 yX5_zeros ∈ lw_tbl := List.mem_of_getElem? (i := 838) (by decide +kernel)
set_option maxRecDepth 20000 in
theorem wm548 : Cond.instanceMethod yX5_zeros ∈ lw_tbl := List.mem_of_getElem? (i := 840) (by decide +kernel)
set_option maxRecDepth 20000 in
theorem wm549 : Cond.selects RX5 yX5_zeros yX5_zeros ∈ lw_tbl := List.mem_of_getElem? (i := 48) (by decide +kernel)
set_option maxRecDepth 20000 in
theorem wm550 : Cond.code yX5_zeros cX5_zeros 3 (some .int) ∈ lw_tbl := List.mem_of_getElem? (i := 841) (by decide +kernel)
set_option maxRecDepth 20000 in
theorem wm551 : Cond.code yX4_ifLength cX4_ifLength 3 (some .int) ∈ lw_tbl := List.mem_of_getElem? (i := 546) (by decide +kernel)
set_option maxRecDepth 20000 in
theorem wm552 : Cond.code yX5_ifLength cX5_ifLength 3 (some .int) ∈ lw_tbl := List.mem_of_getElem? (i := 845) (by decide +kernel)
set_option maxRecDepth 20000 in
theorem wm553 : Cond.code yX4_goodLength cX4_goodLength 4 (some .int) ∈ lw_tbl := List.mem_of_getElem? (i := 550) (by decide +kernel)
set_option maxRecDepth 20000 in
theorem wm554 : Cond.methodLink RX4 168 yX4_isWellWith ∈ lw_tbl := List.mem_of_getElem? (i := 551) (by decide +kernel)
set_option maxRecDepth 20000 in
theorem wm555 : Cond.instanceMethod yX4_isWellWith ∈ lw_tbl := List.mem_of_getElem? (i := 553) (by decide +kernel)
set_option maxRecDepth 20000 in
theorem wm556 : Cond.selects RX4 yX4_isWellWith yX4_isWellWith ∈ lw_tbl := List.mem_of_getElem? (i := 17) (by decide +kernel)
set_option maxRecDepth 20000 in
theorem wm557 : Cond.code yX4_isWellWith cX4_isWellWith 3 (some .boolean) ∈ lw_tbl := List.mem_of_getElem? (i := 554) (by decide +kernel)
set_option maxRecDepth 20000 in
theorem wm558 : Cond.code yX5_goodLength cX5_goodLength 4 (some .int) ∈ lw_tbl := List.mem_of_getElem? (i := 849) (by decide +kernel)
set_option maxRecDepth 20000 in
theorem wm559 : Cond.methodLink RX5 186 yX5_isWellWith ∈ lw_tbl := List.mem_of_getElem? (i := 850) (by decide +kernel)
set_option maxRecDepth 20000 in
theorem wm560 : Cond.instanceMethod yX5_isWellWith ∈ lw_tbl := List.mem_of_getElem? (i := 852) (by decide +kernel)
set_option maxRecDepth 20000 in
theorem wm561 : Cond.selects RX5 yX5_isWellWith yX5_isWellWith ∈ lw_tbl := List.mem_of_getElem? (i := 49) (by decide +kernel)
set_option maxRecDepth 20000 in
theorem wm562 : Cond.code yX5_isWellWith cX5_isWellWith 2 (some .boolean) ∈ lw_tbl := List.mem_of_getElem? (i := 853) (by decide +kernel)
set_option maxRecDepth 20000 in
theorem wm563 : Cond.code yX4_harm cX4_harm 4 (some .int) ∈ lw_tbl := List.mem_of_getElem? (i := 558) (by decide +kernel)
set_option maxRecDepth 20000 in
theorem wm564 : Cond.code yX5_harm cX5_harm 4 (some .int) ∈ lw_tbl := List.mem_of_getElem? (i := 857) (by decide +kernel)
set_option maxRecDepth 20000 in
theorem wm565 : Cond.code yX4_ifSent cX4_ifSent 2 (some .int) ∈ lw_tbl := List.mem_of_getElem? (i := 562) (by decide +kernel)
set_option maxRecDepth 20000 in
theorem wm566 : Cond.methodLink RX4 172 yX1_countGoodWord ∈ lw_tbl := List.mem_of_getElem? (i := 563) (by decide +kernel)
set_option maxRecDepth 20000 in
theorem wm567 : Cond.instanceMethod yX1_countGoodWord ∈ lw_tbl := List.mem_of_getElem? (i := 564) (by decide +kernel)
set_option maxRecDepth 20000 in
theorem wm568 : Cond.selects RX1 yX1_countGoodWord yX1_countGoodWord ∈ lw_tbl := List.mem_of_getElem? (i := 565) (by decide +kernel)
set_option maxRecDepth 20000 in
theorem wm569 : Cond.code yX1_countGoodWord cX1_countGoodWord 4 (some .int) ∈ lw_tbl := List.mem_of_getElem? (i := 566) (by decide +kernel)
set_option maxRecDepth 20000 in
theorem wm570 : Cond.code yX5_ifSent cX5_ifSent 4 (some .int) ∈ lw_tbl := List.mem_of_getElem? (i := 861) (by decide +kernel)
set_option maxRecDepth 20000 in
theorem wm571 : Cond.methodLink RL 13 yX4_send ∈ lw_tbl := List.mem_of_getElem? (i := 185) (by decide +kernel)
set_option maxRecDepth 20000 in
theorem wm572 : Cond.instanceMethod yX4_send ∈ lw_tbl := List.mem_of_getElem? (i := 186) (by decide +kernel)
set_option maxRecDepth 20000 in
theorem wm573 : Cond.selects RX4 yX4_send yX4_send ∈ lw_tbl := List.mem_of_getElem? (i := 187) (by decide +kernel)
set_option maxRecDepth 20000 in
theorem wm574 : Cond.methodLink RL 17 yX5_send ∈ lw_tbl := List.mem_of_getElem? (i := 658) (by decide +kernel)
set_option maxRecDepth 20000 in
theorem wm575 : Cond.instanceMethod yX5_send ∈ lw_tbl := List.mem_of_getElem? (i := 659) (by decide +kernel)
set_option maxRecDepth 20000 in
theorem wm576 : Cond.selects RX5 yX5_send yX5_send ∈ lw_tbl := List.mem_of_getElem? (i := 660) (by decide +kernel)
set_option maxRecDepth 20000 in
theorem wm577 : Cond.methodLink RL 18 yX4_pause ∈ lw_tbl := List.mem_of_getElem? (i := 246) (by decide +kernel)
set_option maxRecDepth 20000 in
theorem wm578 : Cond.instanceMethod yX4_pause ∈ lw_tbl := List.mem_of_getElem? (i := 247) (by decide +kernel)
set_option maxRecDepth 20000 in
theorem wm579 : Cond.selects RX4 yX4_pause yX4_pause ∈ lw_tbl := List.mem_of_getElem? (i := 248) (by decide +kernel)
set_option maxRecDepth 20000 in
theorem wm580 : Cond.methodLink RL 21 yX5_pause ∈ lw_tbl := List.mem_of_getElem? (i := 688) (by decide +kernel)
set_option maxRecDepth 20000 in
theorem wm581 : Cond.instanceMethod yX5_pause ∈ lw_tbl := List.mem_of_getElem? (i := 689) (by decide +kernel)
set_option maxRecDepth 20000 in
theorem wm582 : Cond.selects RX5 yX5_pause yX5_pause ∈ lw_tbl := List.mem_of_getElem? (i := 690) (by decide +kernel)
set_option maxRecDepth 20000 in
theorem wm583 : Cond.methodLink RL 22 yX4_sendBreak ∈ lw_tbl := List.mem_of_getElem? (i := 258) (by decide +kernel)
set_option maxRecDepth 20000 in
theorem wm584 : Cond.instanceMethod yX4_sendBreak ∈ lw_tbl := List.mem_of_getElem? (i := 259) (by decide +kernel)
set_option maxRecDepth 20000 in
theorem wm585 : Cond.selects RX4 yX4_sendBreak yX4_sendBreak ∈ lw_tbl := List.mem_of_getElem? (i := 260) (by decide +kernel)
set_option maxRecDepth 20000 in
theorem wm586 : Cond.methodLink RL 25 yX5_sendBreak ∈ lw_tbl := List.mem_of_getElem? (i := 700) (by decide +kernel)
set_option maxRecDepth 20000 in
theorem wm587 : Cond.instanceMethod yX5_sendBreak ∈ lw_tbl := List.mem_of_getElem? (i := 701) (by decide +kernel)
set_option maxRecDepth 20000 in
theorem wm588 : Cond.selects RX5 yX5_sendBreak yX5_sendBreak ∈ lw_tbl := List.mem_of_getElem? (i := 702) (by decide +kernel)
set_option maxRecDepth 20000 in
theorem wm589 : Cond.methodLink RL 26 yX4_disturb ∈ lw_tbl := List.mem_of_getElem? (i := 262) (by decide +kernel)
set_option maxRecDepth 20000 in
theorem wm590 : Cond.instanceMethod yX4_disturb ∈ lw_tbl := List.mem_of_getElem? (i := 263) (by decide +kernel)
set_option maxRecDepth 20000 in
theorem wm591 : Cond.selects RX4 yX4_disturb yX4_disturb ∈ lw_tbl := List.mem_of_getElem? (i := 264) (by decide +kernel)
set_option maxRecDepth 20000 in
theorem wm592 : Cond.methodLink RL 30 yX5_disturb ∈ lw_tbl := List.mem_of_getElem? (i := 704) (by decide +kernel)
set_option maxRecDepth 20000 in
theorem wm593 : Cond.instanceMethod yX5_disturb ∈ lw_tbl := List.mem_of_getElem? (i := 705) (by decide +kernel)
set_option maxRecDepth 20000 in
theorem wm594 : Cond.selects RX5 yX5_disturb yX5_disturb ∈ lw_tbl := List.mem_of_getElem? (i := 706) (by decide +kernel)
set_option maxRecDepth 20000 in
theorem wm595 : Cond.methodLink RL 31 yX4_clear ∈ lw_tbl := List.mem_of_getElem? (i := 277) (by decide +kernel)
set_option maxRecDepth 20000 in
theorem wm596 : Cond.instanceMethod yX4_clear ∈ lw_tbl := List.mem_of_getElem? (i := 278) (by decide +kernel)
set_option maxRecDepth 20000 in
theorem wm597 : Cond.selects RX4 yX4_clear yX4_clear ∈ lw_tbl := List.mem_of_getElem? (i := 279) (by decide +kernel)
set_option maxRecDepth 20000 in
theorem wm598 : Cond.methodLink RL 35 yX5_clear ∈ lw_tbl := List.mem_of_getElem? (i := 712) (by decide +kernel)
set_option maxRecDepth 20000 in
theorem wm599 : Cond.instanceMethod yX5_clear ∈ lw_tbl := List.mem_of_getElem? (i := 713) (by decide +kernel)
set_option maxRecDepth 20000 in
theorem wm600 : Cond.selects RX5 yX5_clear yX5_clear ∈ lw_tbl := List.mem_of_getElem? (i := 714) (by decide +kernel)
set_option maxRecDepth 20000 in
theorem wm601 : Cond.methodLink RL 36 yX4_set ∈ lw_tbl := List.mem_of_getElem? (i := 285) (by decide +kernel)
set_option maxRecDepth 20000 in
theorem wm602 : Cond.instanceMethod yX4_set ∈ lw_tbl := List.mem_of_getElem? (i := 286) (by decide +kernel)
set_option maxRecDepth 20000 in
theorem wm603 : Cond.selects RX4 yX4_set yX4_set ∈ lw_tbl := List.mem_of_getElem? (i := 287) (by decide +kernel)
set_option maxRecDepth 20000 in
theorem wm604 : Cond.methodLink RL 39 yX5_set ∈ lw_tbl := List.mem_of_getElem? (i := 716) (by decide +kernel)
set_option maxRecDepth 20000 in
theorem wm605 : Cond.instanceMethod yX5_set ∈ lw_tbl := List.mem_of_getElem? (i := 717) (by decide +kernel)
set_option maxRecDepth 20000 in
theorem wm606 : Cond.selects RX5 yX5_set yX5_set ∈ lw_tbl := List.mem_of_getElem? (i := 718) (by decide +kernel)
set_option maxRecDepth 20000 in
theorem wm607 : Cond.methodLink RL 40 yX4_learn ∈ lw_tbl := List.mem_of_getElem? (i := 301) (by decide +kernel)
set_option maxRecDepth 20000 in
theorem wm608 : Cond.instanceMethod yX4_learn ∈ lw_tbl := List.mem_of_getElem? (i := 302) (by decide +kernel)
set_option maxRecDepth 20000 in
theorem wm609 : Cond.selects RX4 yX4_learn yX4_learn ∈ lw_tbl := List.mem_of_getElem? (i := 303) (by decide +kernel)
set_option maxRecDepth 20000 in
theorem wm610 : Cond.methodLink RL 43 yX5_learn ∈ lw_tbl := List.mem_of_getElem? (i := 723) (by decide +kernel)
set_option maxRecDepth 20000 in
theorem wm611 : Cond.instanceMethod yX5_learn ∈ lw_tbl := List.mem_of_getElem? (i := 724) (by decide +kernel)
set_option maxRecDepth 20000 in
theorem wm612 : Cond.selects RX5 yX5_learn yX5_learn ∈ lw_tbl := List.mem_of_getElem? (i := 725) (by decide +kernel)
set_option maxRecDepth 20000 in
theorem wm613 : Cond.methodLink RL 44 yX4_type ∈ lw_tbl := List.mem_of_getElem? (i := 327) (by decide +kernel)
set_option maxRecDepth 20000 in
theorem wm614 : Cond.instanceMethod yX4_type ∈ lw_tbl := List.mem_of_getElem? (i := 328) (by decide +kernel)
set_option maxRecDepth 20000 in
theorem wm615 : Cond.selects RX4 yX4_type yX4_type ∈ lw_tbl := List.mem_of_getElem? (i := 329) (by decide +kernel)
set_option maxRecDepth 20000 in
theorem wm616 : Cond.methodLink RL 48 yX5_type ∈ lw_tbl := List.mem_of_getElem? (i := 743) (by decide +kernel)
set_option maxRecDepth 20000 in
theorem wm617 : Cond.instanceMethod yX5_type ∈ lw_tbl := List.mem_of_getElem? (i := 744) (by decide +kernel)
set_option maxRecDepth 20000 in
theorem wm618 : Cond.selects RX5 yX5_type yX5_type ∈ lw_tbl := List.mem_of_getElem? (i := 745) (by decide +kernel)
set_option maxRecDepth 20000 in
theorem wm619 : Cond.methodLink RL 49 yX4_clearText ∈ lw_tbl := List.mem_of_getElem? (i := 339) (by decide +kernel)
set_option maxRecDepth 20000 in
theorem wm620 : Cond.instanceMethod yX4_clearText ∈ lw_tbl := List.mem_of_getElem? (i := 340) (by decide +kernel)
set_option maxRecDepth 20000 in
theorem wm621 : Cond.selects RX4 yX4_clearText yX4_clearText ∈ lw_tbl := List.mem_of_getElem? (i := 341) (by decide +kernel)
set_option maxRecDepth 20000 in
theorem wm622 : Cond.methodLink RL 52 yX5_clearText ∈ lw_tbl := List.mem_of_getElem? (i := 747) (by decide +kernel)
set_option maxRecDepth 20000 in
theorem wm623 : Cond.instanceMethod yX5_clearText ∈ lw_tbl := List.mem_of_getElem? (i := 748) (by decide +kernel)
set_option maxRecDepth 20000 in
theorem wm624 : Cond.selects RX5 yX5_clearText yX5_clearText ∈ lw_tbl := List.mem_of_getElem? (i := 749) (by decide +kernel)
set_option maxRecDepth 20000 in
theorem wm625 : Cond.methodLink RL 53 yX4_perform ∈ lw_tbl := List.mem_of_getElem? (i := 347) (by decide +kernel)
set_option maxRecDepth 20000 in
theorem wm626 : Cond.instanceMethod yX4_perform ∈ lw_tbl := List.mem_of_getElem? (i := 348) (by decide +kernel)
set_option maxRecDepth 20000 in
theorem wm627 : Cond.selects RX4 yX4_perform yX4_perform ∈ lw_tbl := List.mem_of_getElem? (i := 349) (by decide +kernel)
set_option maxRecDepth 20000 in
theorem wm628 : Cond.methodLink RL 56 yX5_perform ∈ lw_tbl := List.mem_of_getElem? (i := 751) (by decide +kernel)
set_option maxRecDepth 20000 in
theorem wm629 : Cond.instanceMethod yX5_perform ∈ lw_tbl := List.mem_of_getElem? (i := 752) (by decide +kernel)
set_option maxRecDepth 20000 in
theorem wm630 : Cond.selects RX5 yX5_perform yX5_perform ∈ lw_tbl := List.mem_of_getElem? (i := 753) (by decide +kernel)
set_option maxRecDepth 20000 in
theorem wm631 : Cond.methodLink RL 57 yX4_undo ∈ lw_tbl := List.mem_of_getElem? (i := 408) (by decide +kernel)
set_option maxRecDepth 20000 in
theorem wm632 : Cond.instanceMethod yX4_undo ∈ lw_tbl := List.mem_of_getElem? (i := 409) (by decide +kernel)
set_option maxRecDepth 20000 in
theorem wm633 : Cond.selects RX4 yX4_undo yX4_undo ∈ lw_tbl := List.mem_of_getElem? (i := 410) (by decide +kernel)
set_option maxRecDepth 20000 in
theorem wm634 : Cond.methodLink RL 60 yX5_undo ∈ lw_tbl := List.mem_of_getElem? (i := 634) (by decide +kernel)
set_option maxRecDepth 20000 in
theorem wm635 : Cond.instanceMethod yX5_undo ∈ lw_tbl := List.mem_of_getElem? (i := 635) (by decide +kernel)
set_option maxRecDepth 20000 in
theorem wm636 : Cond.selects RX5 yX5_undo yX5_undo ∈ lw_tbl := List.mem_of_getElem? (i := 636) (by decide +kernel)
set_option maxRecDepth 20000 in
theorem wm637 : Cond.methodLink RL 61 yX4_keep ∈ lw_tbl := List.mem_of_getElem? (i := 420) (by decide +kernel)
set_option maxRecDepth 20000 in
theorem wm638 : Cond.instanceMethod yX4_keep ∈ lw_tbl := List.mem_of_getElem? (i := 421) (by decide +kernel)
set_option maxRecDepth 20000 in
theorem wm639 : Cond.selects RX4 yX4_keep yX4_keep ∈ lw_tbl := List.mem_of_getElem? (i := 422) (by decide +kernel)
set_option maxRecDepth 20000 in
theorem wm640 : Cond.methodLink RL 64 yX5_keep ∈ lw_tbl := List.mem_of_getElem? (i := 638) (by decide +kernel)
set_option maxRecDepth 20000 in
theorem wm641 : Cond.instanceMethod yX5_keep ∈ lw_tbl := List.mem_of_getElem? (i := 639) (by decide +kernel)
set_option maxRecDepth 20000 in
theorem wm642 : Cond.selects RX5 yX5_keep yX5_keep ∈ lw_tbl := List.mem_of_getElem? (i := 640) (by decide +kernel)
set_option maxRecDepth 20000 in
theorem wm643 : Cond.methodLink RL 65 yX4_restore ∈ lw_tbl := List.mem_of_getElem? (i := 428) (by decide +kernel)
set_option maxRecDepth 20000 in
theorem wm644 : Cond.instanceMethod yX4_restore ∈ lw_tbl := List.mem_of_getElem? (i := 429) (by decide +kernel)
set_option maxRecDepth 20000 in
theorem wm645 : Cond.selects RX4 yX4_restore yX4_restore ∈ lw_tbl := List.mem_of_getElem? (i := 430) (by decide +kernel)
set_option maxRecDepth 20000 in
theorem wm646 : Cond.methodLink RL 68 yX5_restore ∈ lw_tbl := List.mem_of_getElem? (i := 642) (by decide +kernel)
set_option maxRecDepth 20000 in
theorem wm647 : Cond.instanceMethod yX5_restore ∈ lw_tbl := List.mem_of_getElem? (i := 643) (by decide +kernel)
set_option maxRecDepth 20000 in
theorem wm648 : Cond.selects RX5 yX5_restore yX5_restore ∈ lw_tbl := List.mem_of_getElem? (i := 644) (by decide +kernel)
set_option maxRecDepth 20000 in
theorem wm649 : Cond.methodLink RL 69 yX4_level ∈ lw_tbl := List.mem_of_getElem? (i := 440) (by decide +kernel)
set_option maxRecDepth 20000 in
theorem wm650 : Cond.instanceMethod yX4_level ∈ lw_tbl := List.mem_of_getElem? (i := 441) (by decide +kernel)
set_option maxRecDepth 20000 in
theorem wm651 : Cond.selects RX4 yX4_level yX4_level ∈ lw_tbl := List.mem_of_getElem? (i := 442) (by decide +kernel)
set_option maxRecDepth 20000 in
theorem wm652 : Cond.methodLink RL 72 yX5_level ∈ lw_tbl := List.mem_of_getElem? (i := 790) (by decide +kernel)
set_option maxRecDepth 20000 in
theorem wm653 : Cond.instanceMethod yX5_level ∈ lw_tbl := List.mem_of_getElem? (i := 791) (by decide +kernel)
set_option maxRecDepth 20000 in
theorem wm654 : Cond.selects RX5 yX5_level yX5_level ∈ lw_tbl := List.mem_of_getElem? (i := 792) (by decide +kernel)
set_option maxRecDepth 20000 in
theorem wm655 : Cond.methodLink RL 73 yX4_fall ∈ lw_tbl := List.mem_of_getElem? (i := 445) (by decide +kernel)
set_option maxRecDepth 20000 in
theorem wm656 : Cond.instanceMethod yX4_fall ∈ lw_tbl := List.mem_of_getElem? (i := 446) (by decide +kernel)
set_option maxRecDepth 20000 in
theorem wm657 : Cond.selects RX4 yX4_fall yX4_fall ∈ lw_tbl := List.mem_of_getElem? (i := 447) (by decide +kernel)
set_option maxRecDepth 20000 in
theorem wm658 : Cond.methodLink RL 76 yX5_fall ∈ lw_tbl := List.mem_of_getElem? (i := 794) (by decide +kernel)
set_option maxRecDepth 20000 in
theorem wm659 : Cond.instanceMethod yX5_fall ∈ lw_tbl := List.mem_of_getElem? (i := 795) (by decide +kernel)
set_option maxRecDepth 20000 in
theorem wm660 : Cond.selects RX5 yX5_fall yX5_fall ∈ lw_tbl := List.mem_of_getElem? (i := 796) (by decide +kernel)
set_option maxRecDepth 20000 in
theorem wm661 : Cond.methodLink RL 77 yX4_sent ∈ lw_tbl := List.mem_of_getElem? (i := 450) (by decide +kernel)
set_option maxRecDepth 20000 in
theorem wm662 : Cond.instanceMethod yX4_sent ∈ lw_tbl := List.mem_of_getElem? (i := 451) (by decide +kernel)
set_option maxRecDepth 20000 in
theorem wm663 : Cond.selects RX4 yX4_sent yX4_sent ∈ lw_tbl := List.mem_of_getElem? (i := 452) (by decide +kernel)
set_option maxRecDepth 20000 in
theorem wm664 : Cond.methodLink RL 80 yX5_sent ∈ lw_tbl := List.mem_of_getElem? (i := 798) (by decide +kernel)
set_option maxRecDepth 20000 in
theorem wm665 : Cond.instanceMethod yX5_sent ∈ lw_tbl := List.mem_of_getElem? (i := 799) (by decide +kernel)
set_option maxRecDepth 20000 in
theorem wm666 : Cond.selects RX5 yX5_sent yX5_sent ∈ lw_tbl := List.mem_of_getElem? (i := 800) (by decide +kernel)
set_option maxRecDepth 20000 in
theorem wm667 : Cond.methodLink RL 81 yX4_received ∈ lw_tbl := List.mem_of_getElem? (i := 458) (by decide +kernel)
set_option maxRecDepth 20000 in
theorem wm668 : Cond.instanceMethod yX4_received ∈ lw_tbl := List.mem_of_getElem? (i := 459) (by decide +kernel)
set_option maxRecDepth 20000 in
theorem wm669 : Cond.selects RX4 yX4_received yX4_received ∈ lw_tbl := List.mem_of_getElem? (i := 460) (by decide +kernel)
set_option maxRecDepth 20000 in
theorem wm670 : Cond.methodLink RL 84 yX5_received ∈ lw_tbl := List.mem_of_getElem? (i := 802) (by decide +kernel)
set_option maxRecDepth 20000 in
theorem wm671 : Cond.instanceMethod yX5_received ∈ lw_tbl := List.mem_of_getElem? (i := 803) (by decide +kernel)
set_option maxRecDepth 20000 in
theorem wm672 : Cond.selects RX5 yX5_received yX5_received ∈ lw_tbl := List.mem_of_getElem? (i := 804) (by decide +kernel)
set_option maxRecDepth 20000 in
theorem wm673 : Cond.methodLink RL 85 yX4_total ∈ lw_tbl := List.mem_of_getElem? (i := 496) (by decide +kernel)
set_option maxRecDepth 20000 in
theorem wm674 : Cond.instanceMethod yX4_total ∈ lw_tbl := List.mem_of_getElem? (i := 497) (by decide +kernel)
set_option maxRecDepth 20000 in
theorem wm675 : Cond.selects RX4 yX4_total yX4_total ∈ lw_tbl := List.mem_of_getElem? (i := 498) (by decide +kernel)
set_option maxRecDepth 20000 in
theorem wm676 : Cond.methodLink RL 88 yX5_total ∈ lw_tbl := List.mem_of_getElem? (i := 818) (by decide +kernel)
set_option maxRecDepth 20000 in
theorem wm677 : Cond.instanceMethod yX5_total ∈ lw_tbl := List.mem_of_getElem? (i := 819) (by decide +kernel)
set_option maxRecDepth 20000 in
theorem wm678 : Cond.selects RX5 yX5_total yX5_total ∈ lw_tbl := List.mem_of_getElem? (i := 820) (by decide +kernel)
set_option maxRecDepth 20000 in
theorem wm679 : Cond.methodLink RL 89 yX4_ifLength ∈ lw_tbl := List.mem_of_getElem? (i := 543) (by decide +kernel)
set_option maxRecDepth 20000 in
theorem wm680 : Cond.instanceMethod yX4_ifLength ∈ lw_tbl := List.mem_of_getElem? (i := 544) (by decide +kernel)
set_option maxRecDepth 20000 in
theorem wm681 : Cond.selects RX4 yX4_ifLength yX4_ifLength ∈ lw_tbl := List.mem_of_getElem? (i := 545) (by decide +kernel)
set_option maxRecDepth 20000 in
theorem wm682 : Cond.methodLink RL 92 yX5_ifLength ∈ lw_tbl := List.mem_of_getElem? (i := 842) (by decide +kernel)
set_option maxRecDepth 20000 in
theorem wm683 : Cond.instanceMethod yX5_ifLength ∈ lw_tbl := List.mem_of_getElem? (i := 843) (by decide +kernel)
set_option maxRecDepth 20000 in
theorem wm684 : Cond.selects RX5 yX5_ifLength yX5_ifLength ∈ lw_tbl := List.mem_of_getElem? (i := 844) (by decide +kernel)
set_option maxRecDepth 20000 in
theorem wm685 : Cond.methodLink RL 93 yX4_goodLength ∈ lw_tbl := List.mem_of_getElem? (i := 547) (by decide +kernel)
set_option maxRecDepth 20000 in
theorem wm686 : Cond.instanceMethod yX4_goodLength ∈ lw_tbl := List.mem_of_getElem? (i := 548) (by decide +kernel)
set_option maxRecDepth 20000 in
theorem wm687 : Cond.selects RX4 yX4_goodLength yX4_goodLength ∈ lw_tbl := List.mem_of_getElem? (i := 549) (by decide +kernel)
set_option maxRecDepth 20000 in
theorem wm688 : Cond.methodLink RL 97 yX5_goodLength ∈ lw_tbl := List.mem_of_getElem? (i := 846) (by decide +kernel)
set_option maxRecDepth 20000 in
theorem wm689 : Cond.instanceMethod yX5_goodLength ∈ lw_tbl := List.mem_of_getElem? (i := 847) (by decide +kernel)
set_option maxRecDepth 20000 in
theorem wm690 : Cond.selects RX5 yX5_goodLength yX5_goodLength ∈ lw_tbl := List.mem_of_getElem? (i := 848) (by decide +kernel)
set_option maxRecDepth 20000 in
theorem wm691 : Cond.methodLink RL 98 yX4_harm ∈ lw_tbl := List.mem_of_getElem? (i := 555) (by decide +kernel)
set_option maxRecDepth 20000 in
theorem wm692 : Cond.instanceMethod yX4_harm ∈ lw_tbl := List.mem_of_getElem? (i := 556) (by decide +kernel)
set_option maxRecDepth 20000 in
theorem wm693 : Cond.selects RX4 yX4_harm yX4_harm ∈ lw_tbl := List.mem_of_getElem? (i := 557) (by decide +kernel)
set_option maxRecDepth 20000 in
theorem wm694 : Cond.methodLink RL 101 yX5_harm ∈ lw_tbl := List.mem_of_getElem? (i := 854) (by decide +kernel)
set_option maxRecDepth 20000 in
theorem wm695 : Cond.instanceMethod yX5_harm ∈ lw_tbl := List.mem_of_getElem? (i := 855) (by decide +kernel)
set_option maxRecDepth 20000 in
theorem wm696 : Cond.selects RX5 yX5_harm yX5_harm ∈ lw_tbl := List.mem_of_getElem? (i := 856) (by decide +kernel)
set_option maxRecDepth 20000 in
theorem wm697 : Cond.methodLink RL 102 yX4_ifSent ∈ lw_tbl := List.mem_of_getElem? (i := 559) (by decide +kernel)
set_option maxRecDepth 20000 in
theorem wm698 : Cond.instanceMethod yX4_ifSent ∈ lw_tbl := List.mem_of_getElem? (i := 560) (by decide +kernel)
set_option maxRecDepth 20000 in
theorem wm699 : Cond.selects RX4 yX4_ifSent yX4_ifSent ∈ lw_tbl := List.mem_of_getElem? (i := 561) (by decide +kernel)
set_option maxRecDepth 20000 in
theorem wm700 : Cond.methodLink RL 105 yX5_ifSent ∈ lw_tbl := List.mem_of_getElem? (i := 858) (by decide +kernel)
set_option maxRecDepth 20000 in
theorem wm701 : Cond.instanceMethod yX5_ifSent ∈ lw_tbl := List.mem_of_getElem? (i := 859) (by decide +kernel)
set_option maxRecDepth 20000 in
theorem wm702 : Cond.selects RX5 yX5_ifSent yX5_ifSent ∈ lw_tbl := List.mem_of_getElem? (i := 860) (by decide +kernel)

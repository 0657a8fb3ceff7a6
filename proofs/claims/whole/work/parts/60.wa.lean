/-! THE LAW: its words among the tables, by their places -/
set_option maxRecDepth 20000 in
theorem inX0_r : wsX00 = ([160, 162, 164, 166] : List Nat).filterMap (fun i => lw_tbl[i]?) := by decide +kernel
set_option maxRecDepth 20000 in
theorem inX0 : ∀ w ∈ wsX00, w ∈ lw_tbl := fun w h => by
  rw [inX0_r] at h
  obtain ⟨i, -, hi⟩ := List.mem_filterMap.mp h
  exact List.mem_of_getElem? hi
set_option maxRecDepth 20000 in
theorem inX1_r : wsX10 = ([115, 117, 119, 121] : List Nat).filterMap (fun i => lw_tbl[i]?) := by decide +kernel
set_option maxRecDepth 20000 in
theorem inX1 : ∀ w ∈ wsX10, w ∈ lw_tbl := fun w h => by
  rw [inX1_r] at h
  obtain ⟨i, -, hi⟩ := List.mem_filterMap.mp h
  exact List.mem_of_getElem? hi
set_option maxRecDepth 20000 in
theorem inX2_r : wsX20 = ([90, 92, 94, 96, 98] : List Nat).filterMap (fun i => lw_tbl[i]?) := by decide +kernel
set_option maxRecDepth 20000 in
theorem inX2 : ∀ w ∈ wsX20, w ∈ lw_tbl := fun w h => by
  rw [inX2_r] at h
  obtain ⟨i, -, hi⟩ := List.mem_filterMap.mp h
  exact List.mem_of_getElem? hi
set_option maxRecDepth 20000 in
theorem inX3_r : wsX30 = ([135, 137, 139, 141, 143] : List Nat).filterMap (fun i => lw_tbl[i]?) := by decide +kernel
set_option maxRecDepth 20000 in
theorem inX3 : ∀ w ∈ wsX30, w ∈ lw_tbl := fun w h => by
  rw [inX3_r] at h
  obtain ⟨i, -, hi⟩ := List.mem_filterMap.mp h
  exact List.mem_of_getElem? hi
set_option maxRecDepth 20000 in
theorem inX4_r : wsX40 = ([174, 176, 178, 180, 182] : List Nat).filterMap (fun i => lw_tbl[i]?) := by decide +kernel
set_option maxRecDepth 20000 in
theorem inX4 : ∀ w ∈ wsX40, w ∈ lw_tbl := fun w h => by
  rw [inX4_r] at h
  obtain ⟨i, -, hi⟩ := List.mem_filterMap.mp h
  exact List.mem_of_getElem? hi
set_option maxRecDepth 20000 in
theorem inX5_r : wsX50 = ([593, 595, 597, 599, 601, 603, 605, 607, 609, 611, 613, 615, 617, 619, 621, 623, 625, 627, 629, 631] : List Nat).filterMap (fun i => lw_tbl[i]?) := by decide +kernel
set_option maxRecDepth 20000 in
theorem inX5 : ∀ w ∈ wsX50, w ∈ lw_tbl := fun w h => by
  rw [inX5_r] at h
  obtain ⟨i, -, hi⟩ := List.mem_filterMap.mp h
  exact List.mem_of_getElem? hi
set_option maxRecDepth 20000 in
theorem wm0 : Cond.code yX4_init cX4_init 1 none ∈ lw_tbl := List.mem_of_getElem? (i := 66) (by decide +kernel)
set_option maxRecDepth 20000 in
theorem wm1 : Cond.methodLink RX4 3 objectInit ∈ lw_tbl := List.mem_of_getElem? (i := 67) (by decide +kernel)
set_option maxRecDepth 20000 in
theorem wm2 : Cond.instanceMethod objectInit ∈ lw_tbl := List.mem_of_getElem? (i := 68) (by decide +kernel)
set_option maxRecDepth 20000 in
theorem wm3 : Cond.code objectInit ⟨#[0xb1]⟩ 1 none ∈ lw_tbl := List.mem_of_getElem? (i := 69) (by decide +kernel)
set_option maxRecDepth 20000 in
theorem wm4 : Cond.classLink RX4 9 RX2 ∈ lw_tbl := List.mem_of_getElem? (i := 70) (by decide +kernel)
set_option maxRecDepth 20000 in
theorem wm5 : Cond.instantiable RX2 5 ∈ lw_tbl := List.mem_of_getElem? (i := 71) (by decide +kernel)
set_option maxRecDepth 20000 in
theorem wm6 : Cond.initialized RX2 ∈ lw_tbl := List.mem_of_getElem? (i := 52) (by decide +kernel)
set_option maxRecDepth 20000 in
theorem wm7 : Cond.fieldLink RX4 12 "ThirdVotes" "state" "LThirdVotes$State;" ∈ lw_tbl := List.mem_of_getElem? (i := 169) (by decide +kernel)
set_option maxRecDepth 20000 in
theorem wm8 : Cond.fieldLink RX4 16 "ThirdVotes" "trial" "LThirdVotes$State;" ∈ lw_tbl := List.mem_of_getElem? (i := 170) (by decide +kernel)
set_option maxRecDepth 20000 in
theorem wm9 : Cond.classLink RX4 19 RX1 ∈ lw_tbl := List.mem_of_getElem? (i := 103) (by decide +kernel)
set_option maxRecDepth 20000 in
theorem wm10 : Cond.instantiable RX1 4 ∈ lw_tbl := List.mem_of_getElem? (i := 104) (by decide +kernel)
set_option maxRecDepth 20000 in
theorem wm11 : Cond.initialized RX1 ∈ lw_tbl := List.mem_of_getElem? (i := 55) (by decide +kernel)
set_option maxRecDepth 20000 in
theorem wm12 : Cond.fieldLink RX4 22 "ThirdVotes" "receiver" "LThirdVotes$Receiver;" ∈ lw_tbl := List.mem_of_getElem? (i := 171) (by decide +kernel)
set_option maxRecDepth 20000 in
theorem wm13 : Cond.classLink RX4 26 RX3 ∈ lw_tbl := List.mem_of_getElem? (i := 124) (by decide +kernel)
set_option maxRecDepth 20000 in
theorem wm14 : Cond.instantiable RX3 5 ∈ lw_tbl := List.mem_of_getElem? (i := 125) (by decide +kernel)
set_option maxRecDepth 20000 in
theorem wm15 : Cond.initialized RX3 ∈ lw_tbl := List.mem_of_getElem? (i := 56) (by decide +kernel)
set_option maxRecDepth 20000 in
theorem wm16 : Cond.fieldLink RX4 29 "ThirdVotes" "text" "LThirdVotes$Text;" ∈ lw_tbl := List.mem_of_getElem? (i := 172) (by decide +kernel)
set_option maxRecDepth 20000 in
theorem wm17 : Cond.classLink RX4 33 RX0 ∈ lw_tbl := List.mem_of_getElem? (i := 147) (by decide +kernel)
set_option maxRecDepth 20000 in
theorem wm18 : Cond.instantiable RX0 4 ∈ lw_tbl := List.mem_of_getElem? (i := 148) (by decide +kernel)
set_option maxRecDepth 20000 in
theorem wm19 : Cond.initialized RX0 ∈ lw_tbl := List.mem_of_getElem? (i := 57) (by decide +kernel)
set_option maxRecDepth 20000 in
theorem wm20 : Cond.fieldLink RX4 36 "ThirdVotes" "history" "LThirdVotes$History;" ∈ lw_tbl := List.mem_of_getElem? (i := 173) (by decide +kernel)
set_option maxRecDepth 20000 in
theorem wm21 : Cond.methodLink RX4 11 yX2_init ∈ lw_tbl := List.mem_of_getElem? (i := 72) (by decide +kernel)
set_option maxRecDepth 20000 in
theorem wm22 : Cond.instanceMethod yX2_init ∈ lw_tbl := List.mem_of_getElem? (i := 73) (by decide +kernel)
set_option maxRecDepth 20000 in
theorem wm23 : Cond.code yX2_init cX2_init 1 none ∈ lw_tbl := List.mem_of_getElem? (i := 74) (by decide +kernel)
set_option maxRecDepth 20000 in
theorem wm24 : Cond.methodLink RX2 5 objectInit ∈ lw_tbl := List.mem_of_getElem? (i := 75) (by decide +kernel)
set_option maxRecDepth 20000 in
theorem wm25 : Cond.arrayClass .long ∈ lw_tbl := List.mem_of_getElem? (i := 101) (by decide +kernel)
set_option maxRecDepth 20000 in
theorem wm26 : Cond.fieldLink RX2 11 "ThirdVotes$State" "levels" "[J" ∈ lw_tbl := List.mem_of_getElem? (i := 85) (by decide +kernel)
set_option maxRecDepth 20000 in
theorem wm27 : Cond.arrayClass .int ∈ lw_tbl := List.mem_of_getElem? (i := 102) (by decide +kernel)
set_option maxRecDepth 20000 in
theorem wm28 : Cond.fieldLink RX2 15 "ThirdVotes$State" "words" "[I" ∈ lw_tbl := List.mem_of_getElem? (i := 86) (by decide +kernel)
set_option maxRecDepth 20000 in
theorem wm29 : Cond.fieldLink RX2 19 "ThirdVotes$State" "settings" "[I" ∈ lw_tbl := List.mem_of_getElem? (i := 87) (by decide +kernel)
set_option maxRecDepth 20000 in
theorem wm30 : Cond.constantLong RX2 22 (-1) ∈ lw_tbl := List.mem_of_getElem? (i := 76) (by decide +kernel)
set_option maxRecDepth 20000 in
theorem wm31 : Cond.methodLink RX2 33 arraycopyName ∈ lw_tbl := List.mem_of_getElem? (i := 82) (by decide +kernel)
set_option maxRecDepth 20000 in
theorem wm32 : Cond.native arraycopyName ∈ lw_tbl := List.mem_of_getElem? (i := 84) (by decide +kernel)
set_option maxRecDepth 20000 in
theorem wm33 : Cond.static arraycopyName ∈ lw_tbl := List.mem_of_getElem? (i := 83) (by decide +kernel)
set_option maxRecDepth 20000 in
theorem wm34 : Cond.initialized "java/lang/System" ∈ lw_tbl := List.mem_of_getElem? (i := 54) (by decide +kernel)
set_option maxRecDepth 20000 in
theorem wm35 : Cond.methodLink RX2 24 yJ7_fill_d0a16 ∈ lw_tbl := List.mem_of_getElem? (i := 77) (by decide +kernel)
set_option maxRecDepth 20000 in
theorem wm36 : Cond.static yJ7_fill_d0a16 ∈ lw_tbl := List.mem_of_getElem? (i := 78) (by decide +kernel)
set_option maxRecDepth 20000 in
theorem wm37 : Cond.initialized RJ7 ∈ lw_tbl := List.mem_of_getElem? (i := 53) (by decide +kernel)
set_option maxRecDepth 20000 in
theorem wm38 : Cond.code yJ7_fill_d0a16 cJ7_fill_d0a16 5 none ∈ lw_tbl := List.mem_of_getElem? (i := 79) (by decide +kernel)
set_option maxRecDepth 20000 in
theorem wm39 : Cond.methodLink RX4 21 yX1_init ∈ lw_tbl := List.mem_of_getElem? (i := 105) (by decide +kernel)
set_option maxRecDepth 20000 in
theorem wm40 : Cond.instanceMethod yX1_init ∈ lw_tbl := List.mem_of_getElem? (i := 106) (by decide +kernel)
set_option maxRecDepth 20000 in
theorem wm41 : Cond.code yX1_init cX1_init 1 none ∈ lw_tbl := List.mem_of_getElem? (i := 107) (by decide +kernel)
set_option maxRecDepth 20000 in
theorem wm42 : Cond.methodLink RX1 3 objectInit ∈ lw_tbl := List.mem_of_getElem? (i := 108) (by decide +kernel)
set_option maxRecDepth 20000 in
theorem wm43 : Cond.classLink RX1 11 "[[I" ∈ lw_tbl := List.mem_of_getElem? (i := 109) (by decide +kernel)
set_option maxRecDepth 20000 in
theorem wm44 : Cond.fieldLink RX1 13 "ThirdVotes$Receiver" "notes" "[[I" ∈ lw_tbl := List.mem_of_getElem? (i := 111) (by decide +kernel)
set_option maxRecDepth 20000 in
theorem wm45 : Cond.methodLink RX4 28 yX3_init ∈ lw_tbl := List.mem_of_getElem? (i := 126) (by decide +kernel)
set_option maxRecDepth 20000 in
theorem wm46 : Cond.instanceMethod yX3_init ∈ lw_tbl := List.mem_of_getElem? (i := 127) (by decide +kernel)
set_option maxRecDepth 20000 in
theorem wm47 : Cond.code yX3_init cX3_init 1 none ∈ lw_tbl := List.mem_of_getElem? (i := 128) (by decide +kernel)
set_option maxRecDepth 20000 in
theorem wm48 : Cond.methodLink RX3 5 objectInit ∈ lw_tbl := List.mem_of_getElem? (i := 129) (by decide +kernel)
set_option maxRecDepth 20000 in
theorem wm49 : Cond.arrayClass .char ∈ lw_tbl := List.mem_of_getElem? (i := 146) (by decide +kernel)
set_option maxRecDepth 20000 in
theorem wm50 : Cond.fieldLink RX3 11 "ThirdVotes$Text" "characters" "[C" ∈ lw_tbl := List.mem_of_getElem? (i := 130) (by decide +kernel)
set_option maxRecDepth 20000 in
theorem wm51 : Cond.fieldLink RX3 15 "ThirdVotes$Text" "repeatFrom" "[I" ∈ lw_tbl := List.mem_of_getElem? (i := 131) (by decide +kernel)
set_option maxRecDepth 20000 in
theorem wm52 : Cond.fieldLink RX3 19 "ThirdVotes$Text" "repeatsLeft" "[I" ∈ lw_tbl := List.mem_of_getElem? (i := 132) (by decide +kernel)
set_option maxRecDepth 20000 in
theorem wm53 : Cond.methodLink RX4 35 yX0_init ∈ lw_tbl := List.mem_of_getElem? (i := 149) (by decide +kernel)
set_option maxRecDepth 20000 in
theorem wm54 : Cond.instanceMethod yX0_init ∈ lw_tbl := List.mem_of_getElem? (i := 150) (by decide +kernel)
set_option maxRecDepth 20000 in
theorem wm55 : Cond.code yX0_init cX0_init 2 none ∈ lw_tbl := List.mem_of_getElem? (i := 151) (by decide +kernel)
set_option maxRecDepth 20000 in
theorem wm56 : Cond.methodLink RX0 1 objectInit ∈ lw_tbl := List.mem_of_getElem? (i := 152) (by decide +kernel)
set_option maxRecDepth 20000 in
theorem wm57 : Cond.classLink RX0 9 RX2 ∈ lw_tbl := List.mem_of_getElem? (i := 153) (by decide +kernel)
set_option maxRecDepth 20000 in
theorem wm58 : Cond.fieldLink RX0 11 "ThirdVotes$History" "states" "[LThirdVotes$State;" ∈ lw_tbl := List.mem_of_getElem? (i := 156) (by decide +kernel)
set_option maxRecDepth 20000 in
theorem wm59 : Cond.fieldLink RX0 16 "ThirdVotes$History" "snapshot" "LThirdVotes$State;" ∈ lw_tbl := List.mem_of_getElem? (i := 157) (by decide +kernel)
set_option maxRecDepth 20000 in
theorem wm60 : Cond.methodLink RX0 15 yX2_init ∈ lw_tbl := List.mem_of_getElem? (i := 155) (by decide +kernel)
set_option maxRecDepth 20000 in
theorem wm61 : Cond.code yX5_init cX5_init 1 none ∈ lw_tbl := List.mem_of_getElem? (i := 571) (by decide +kernel)
set_option maxRecDepth 20000 in
theorem wm62 : Cond.methodLink RX5 1 objectInit ∈ lw_tbl := List.mem_of_getElem? (i := 572) (by decide +kernel)
set_option maxRecDepth 20000 in
theorem wm63 : Cond.fieldLink RX5 7 "ThirdVotesModel" "state" "[I" ∈ lw_tbl := List.mem_of_getElem? (i := 573) (by decide +kernel)
set_option maxRecDepth 20000 in
theorem wm64 : Cond.fieldLink RX5 13 "ThirdVotesModel" "history" "[I" ∈ lw_tbl := List.mem_of_getElem? (i := 574) (by decide +kernel)
set_option maxRecDepth 20000 in
theorem wm65 : Cond.fieldLink RX5 16 "ThirdVotesModel" "snapshot" "[I" ∈ lw_tbl := List.mem_of_getElem? (i := 576) (by decide +kernel)
set_option maxRecDepth 20000 in
theorem wm66 : Cond.fieldLink RX5 19 "ThirdVotesModel" "spare" "[I" ∈ lw_tbl := List.mem_of_getElem? (i := 578) (by decide +kernel)
set_option maxRecDepth 20000 in
theorem wm67 : Cond.fieldLink RX5 22 "ThirdVotesModel" "text" "[I" ∈ lw_tbl := List.mem_of_getElem? (i := 579) (by decide +kernel)
set_option maxRecDepth 20000 in
theorem wm68 : Cond.fieldLink RX5 25 "ThirdVotesModel" "begins" "[I" ∈ lw_tbl := List.mem_of_getElem? (i := 583) (by decide +kernel)
set_option maxRecDepth 20000 in
theorem wm69 : Cond.fieldLink RX5 28 "ThirdVotesModel" "times" "[I" ∈ lw_tbl := List.mem_of_getElem? (i := 584) (by decide +kernel)
set_option maxRecDepth 20000 in
theorem wm70 : Cond.fieldLink RX5 31 "ThirdVotesModel" "kinds" "[I" ∈ lw_tbl := List.mem_of_getElem? (i := 587) (by decide +kernel)
set_option maxRecDepth 20000 in
theorem wm71 : Cond.fieldLink RX5 34 "ThirdVotesModel" "words" "[I" ∈ lw_tbl := List.mem_of_getElem? (i := 588) (by decide +kernel)
set_option maxRecDepth 20000 in
theorem wm72 : Cond.fieldLink RX5 37 "ThirdVotesModel" "starts" "[I" ∈ lw_tbl := List.mem_of_getElem? (i := 589) (by decide +kernel)
set_option maxRecDepth 20000 in
theorem wm73 : Cond.fieldLink RX5 40 "ThirdVotesModel" "doubts" "[I" ∈ lw_tbl := List.mem_of_getElem? (i := 590) (by decide +kernel)
set_option maxRecDepth 20000 in
theorem wm74 : Cond.fieldLink RX5 43 "ThirdVotesModel" "lasts" "[I" ∈ lw_tbl := List.mem_of_getElem? (i := 591) (by decide +kernel)
set_option maxRecDepth 20000 in
theorem wm75 : Cond.code yX4_send cX4_send 2 (some .int) ∈ lw_tbl := List.mem_of_getElem? (i := 188) (by decide +kernel)
set_option maxRecDepth 20000 in
theorem wm76 : Cond.methodLink RX4 40 yX4_isWord ∈ lw_tbl := List.mem_of_getElem? (i := 189) (by decide +kernel)
set_option maxRecDepth 20000 in
theorem wm77 : Cond.static yX4_isWord ∈ lw_tbl := List.mem_of_getElem? (i := 190) (by decide +kernel)
set_option maxRecDepth 20000 in
theorem wm78 : Cond.initialized RX4 ∈ lw_tbl := List.mem_of_getElem? (i := 51) (by decide +kernel)
set_option maxRecDepth 20000 in
theorem wm79 : Cond.code yX4_isWord cX4_isWord 1 (some .boolean) ∈ lw_tbl := List.mem_of_getElem? (i := 191) (by decide +kernel)
set_option maxRecDepth 20000 in
theorem wm80 : Cond.methodLink RX4 44 yX2_ticksOfWord ∈ lw_tbl := List.mem_of_getElem? (i := 192) (by decide +kernel)
set_option maxRecDepth 20000 in
theorem wm81 : Cond.instanceMethod yX2_ticksOfWord ∈ lw_tbl := List.mem_of_getElem? (i := 193) (by decide +kernel)
set_option maxRecDepth 20000 in
theorem wm82 : Cond.selects RX2 yX2_ticksOfWord yX2_ticksOfWord ∈ lw_tbl := List.mem_of_getElem? (i := 194) (by decide +kernel)
set_option maxRecDepth 20000 in
theorem wm83 : Cond.code yX2_ticksOfWord cX2_ticksOfWord 1 (some .int) ∈ lw_tbl := List.mem_of_getElem? (i := 195) (by decide +kernel)
set_option maxRecDepth 20000 in
theorem wm84 : Cond.methodLink RX2 46 yX2_bitsOfWord ∈ lw_tbl := List.mem_of_getElem? (i := 196) (by decide +kernel)
set_option maxRecDepth 20000 in
theorem wm85 : Cond.instanceMethod yX2_bitsOfWord ∈ lw_tbl := List.mem_of_getElem? (i := 198) (by decide +kernel)
set_option maxRecDepth 20000 in
theorem wm86 : Cond.selects RX2 yX2_bitsOfWord yX2_bitsOfWord ∈ lw_tbl := List.mem_of_getElem? (i := 0) (by decide +kernel)
set_option maxRecDepth 20000 in
theorem wm87 : Cond.code yX2_bitsOfWord cX2_bitsOfWord 2 (some .int) ∈ lw_tbl := List.mem_of_getElem? (i := 199) (by decide +kernel)
set_option maxRecDepth 20000 in
theorem wm88 : Cond.methodLink RX4 48 yX2_hasRoom ∈ lw_tbl := List.mem_of_getElem? (i := 200) (by decide +kernel)
set_option maxRecDepth 20000 in
theorem wm89 : Cond.instanceMethod yX2_hasRoom ∈ lw_tbl := List.mem_of_getElem? (i := 201) (by decide +kernel)
set_option maxRecDepth 20000 in
theorem wm90 : Cond.selects RX2 yX2_hasRoom yX2_hasRoom ∈ lw_tbl := List.mem_of_getElem? (i := 202) (by decide +kernel)
set_option maxRecDepth 20000 in
theorem wm91 : Cond.code yX2_hasRoom cX2_hasRoom 2 (some .boolean) ∈ lw_tbl := List.mem_of_getElem? (i := 203) (by decide +kernel)
set_option maxRecDepth 20000 in
theorem wm92 : Cond.fieldLink RX2 39 "ThirdVotes$State" "end" "I" ∈ lw_tbl := List.mem_of_getElem? (i := 88) (by decide +kernel)
set_option maxRecDepth 20000 in
theorem wm93 : Cond.methodLink RX4 51 yX0_remember ∈ lw_tbl := List.mem_of_getElem? (i := 204) (by decide +kernel)
set_option maxRecDepth 20000 in
theorem wm94 : Cond.instanceMethod yX0_remember ∈ lw_tbl := List.mem_of_getElem? (i := 205) (by decide +kernel)
set_option maxRecDepth 20000 in
theorem wm95 : Cond.selects RX0 yX0_remember yX0_remember ∈ lw_tbl := List.mem_of_getElem? (i := 206) (by decide +kernel)
set_option maxRecDepth 20000 in
theorem wm96 : Cond.code yX0_remember cX0_remember 2 none ∈ lw_tbl := List.mem_of_getElem? (i := 207) (by decide +kernel)
set_option maxRecDepth 20000 in
theorem wm97 : Cond.fieldLink RX0 20 "ThirdVotes$History" "size" "I" ∈ lw_tbl := List.mem_of_getElem? (i := 158) (by decide +kernel)
set_option maxRecDepth 20000 in
theorem wm98 : Cond.methodLink RX0 28 yX0_dropOldest ∈ lw_tbl := List.mem_of_getElem? (i := 208) (by decide +kernel)
set_option maxRecDepth 20000 in
theorem wm99 : Cond.instanceMethod yX0_dropOldest ∈ lw_tbl := List.mem_of_getElem? (i := 210) (by decide +kernel)
set_option maxRecDepth 20000 in
theorem wm100 : Cond.selects RX0 yX0_dropOldest yX0_dropOldest ∈ lw_tbl := List.mem_of_getElem? (i := 1) (by decide +kernel)
set_option maxRecDepth 20000 in
theorem wm101 : Cond.code yX0_dropOldest cX0_dropOldest 3 none ∈ lw_tbl := List.mem_of_getElem? (i := 211) (by decide +kernel)
set_option maxRecDepth 20000 in
theorem wm102 : Cond.methodLink RX0 31 yX2_copyFrom ∈ lw_tbl := List.mem_of_getElem? (i := 212) (by decide +kernel)
set_option maxRecDepth 20000 in
theorem wm103 : Cond.instanceMethod yX2_copyFrom ∈ lw_tbl := List.mem_of_getElem? (i := 213) (by decide +kernel)
set_option maxRecDepth 20000 in
theorem wm104 : Cond.selects RX2 yX2_copyFrom yX2_copyFrom ∈ lw_tbl := List.mem_of_getElem? (i := 214) (by decide +kernel)
set_option maxRecDepth 20000 in
theorem wm105 : Cond.code yX2_copyFrom cX2_copyFrom 2 none ∈ lw_tbl := List.mem_of_getElem? (i := 215) (by decide +kernel)
set_option maxRecDepth 20000 in
theorem wm106 : Cond.fieldLink RX2 43 "ThirdVotes$State" "wordCount" "I" ∈ lw_tbl := List.mem_of_getElem? (i := 89) (by decide +kernel)
set_option maxRecDepth 20000 in
theorem wm107 : Cond.methodLink RX4 55 yX2_addWord ∈ lw_tbl := List.mem_of_getElem? (i := 216) (by decide +kernel)
set_option maxRecDepth 20000 in
theorem wm108 : Cond.instanceMethod yX2_addWord ∈ lw_tbl := List.mem_of_getElem? (i := 217) (by decide +kernel)
set_option maxRecDepth 20000 in
theorem wm109 : Cond.selects RX2 yX2_addWord yX2_addWord ∈ lw_tbl := List.mem_of_getElem? (i := 218) (by decide +kernel)
set_option maxRecDepth 20000 in
theorem wm110 : Cond.code yX2_addWord cX2_addWord 7 (some .boolean) ∈ lw_tbl := List.mem_of_getElem? (i := 219) (by decide +kernel)
set_option maxRecDepth 20000 in
theorem wm111 : Cond.methodLink RX2 50 yX2_ticksOfWord ∈ lw_tbl := List.mem_of_getElem? (i := 220) (by decide +kernel)
set_option maxRecDepth 20000 in
theorem wm112 : Cond.methodLink RX2 53 yX2_hasRoom ∈ lw_tbl := List.mem_of_getElem? (i := 221) (by decide +kernel)
set_option maxRecDepth 20000 in
theorem wm113 : Cond.methodLink RX2 57 yX2_bitsOf ∈ lw_tbl := List.mem_of_getElem? (i := 222) (by decide +kernel)
set_option maxRecDepth 20000 in
theorem wm114 : Cond.instanceMethod yX2_bitsOf ∈ lw_tbl := List.mem_of_getElem? (i := 224) (by decide +kernel)
set_option maxRecDepth 20000 in
theorem wm115 : Cond.selects RX2 yX2_bitsOf yX2_bitsOf ∈ lw_tbl := List.mem_of_getElem? (i := 2) (by decide +kernel)
set_option maxRecDepth 20000 in
theorem wm116 : Cond.code yX2_bitsOf cX2_bitsOf 4 (some .int) ∈ lw_tbl := List.mem_of_getElem? (i := 225) (by decide +kernel)
set_option maxRecDepth 20000 in
theorem wm117 : Cond.static yX4_parityOf ∈ lw_tbl := List.mem_of_getElem? (i := 227) (by decide +kernel)
set_option maxRecDepth 20000 in
theorem wm118 : Cond.code yX4_parityOf cX4_parityOf 3 (some .int) ∈ lw_tbl := List.mem_of_getElem? (i := 228) (by decide +kernel)
set_option maxRecDepth 20000 in
theorem wm119 : Cond.methodLink RX4 175 yJ6_bitCount_0f7a4 ∈ lw_tbl := List.mem_of_getElem? (i := 229) (by decide +kernel)
set_option maxRecDepth 20000 in
theorem wm120 : Cond.static yJ6_bitCount_0f7a4 ∈ lw_tbl := List.mem_of_getElem? (i := 230) (by decide +kernel)
set_option maxRecDepth 20000 in
theorem wm121 : Cond.initialized RJ6 ∈ lw_tbl := List.mem_of_getElem? (i := 59) (by decide +kernel)
set_option maxRecDepth 20000 in
theorem wm122 : Cond.code yJ6_bitCount_0f7a4 cJ6_bitCount_0f7a4 1 (some .int) ∈ lw_tbl := List.mem_of_getElem? (i := 231) (by decide +kernel)
set_option maxRecDepth 20000 in
theorem wm123 : Cond.constant RJ6 265 (1431655765) ∈ lw_tbl := List.mem_of_getElem? (i := 232) (by decide +kernel)
set_option maxRecDepth 20000 in
theorem wm124 : Cond.constant RJ6 266 (858993459) ∈ lw_tbl := List.mem_of_getElem? (i := 233) (by decide +kernel)
set_option maxRecDepth 20000 in
theorem wm125 : Cond.constant RJ6 267 (252645135) ∈ lw_tbl := List.mem_of_getElem? (i := 234) (by decide +kernel)
set_option maxRecDepth 20000 in
theorem wm126 : Cond.methodLink RX2 61 yX2_putLow ∈ lw_tbl := List.mem_of_getElem? (i := 235) (by decide +kernel)
set_option maxRecDepth 20000 in
theorem wm127 : Cond.instanceMethod yX2_putLow ∈ lw_tbl := List.mem_of_getElem? (i := 237) (by decide +kernel)
set_option maxRecDepth 20000 in
theorem wm128 : Cond.selects RX2 yX2_putLow yX2_putLow ∈ lw_tbl := List.mem_of_getElem? (i := 3) (by decide +kernel)
set_option maxRecDepth 20000 in
theorem wm129 : Cond.code yX2_putLow cX2_putLow 4 none ∈ lw_tbl := List.mem_of_getElem? (i := 238) (by decide +kernel)
set_option maxRecDepth 20000 in
theorem wm130 : Cond.methodLink RX2 65 Lib.Math.max.name ∈ lw_tbl := List.mem_of_getElem? (i := 239) (by decide +kernel)
set_option maxRecDepth 20000 in
theorem wm131 : Cond.static Lib.Math.max.name ∈ lw_tbl := List.mem_of_getElem? (i := 240) (by decide +kernel)
set_option maxRecDepth 20000 in
theorem wm132 : Cond.initialized "java/lang/Math" ∈ lw_tbl := List.mem_of_getElem? (i := 60) (by decide +kernel)
set_option maxRecDepth 20000 in
theorem wm133 : Cond.code Lib.Math.max.name Lib.Math.max.code 2 (some .int) ∈ lw_tbl := List.mem_of_getElem? (i := 241) (by decide +kernel)
set_option maxRecDepth 20000 in
theorem wm134 : Cond.methodLink RX4 58 yX2_end ∈ lw_tbl := List.mem_of_getElem? (i := 242) (by decide +kernel)
set_option maxRecDepth 20000 in
theorem wm135 : Cond.instanceMethod yX2_end ∈ lw_tbl := List.mem_of_getElem? (i := 243) (by decide +kernel)
set_option maxRecDepth 20000 in
theorem wm136 : Cond.selects RX2 yX2_end yX2_end ∈ lw_tbl := List.mem_of_getElem? (i := 244) (by decide +kernel)
set_option maxRecDepth 20000 in
theorem wm137 : Cond.code yX2_end cX2_end 1 (some .int) ∈ lw_tbl := List.mem_of_getElem? (i := 245) (by decide +kernel)
set_option maxRecDepth 20000 in
theorem wm138 : Cond.code yX5_send cX5_send 2 (some .int) ∈ lw_tbl := List.mem_of_getElem? (i := 661) (by decide +kernel)
set_option maxRecDepth 20000 in
theorem wm139 : Cond.methodLink RX5 80 yX5_within ∈ lw_tbl := List.mem_of_getElem? (i := 662) (by decide +kernel)
set_option maxRecDepth 20000 in
theorem wm140 : Cond.static yX5_within ∈ lw_tbl := List.mem_of_getElem? (i := 663) (by decide +kernel)
set_option maxRecDepth 20000 in
theorem wm141 : Cond.initialized RX5 ∈ lw_tbl := List.mem_of_getElem? (i := 58) (by decide +kernel)
set_option maxRecDepth 20000 in
theorem wm142 : Cond.code yX5_within cX5_within 3 (some .boolean) ∈ lw_tbl := List.mem_of_getElem? (i := 664) (by decide +kernel)
set_option maxRecDepth 20000 in
theorem wm143 : Cond.methodLink RX5 50 yX5_putAside ∈ lw_tbl := List.mem_of_getElem? (i := 650) (by decide +kernel)
set_option maxRecDepth 20000 in
theorem wm144 : Cond.instanceMethod yX5_putAside ∈ lw_tbl := List.mem_of_getElem? (i := 652) (by decide +kernel)
set_option maxRecDepth 20000 in
theorem wm145 : Cond.selects RX5 yX5_putAside yX5_putAside ∈ lw_tbl := List.mem_of_getElem? (i := 19) (by decide +kernel)
set_option maxRecDepth 20000 in
theorem wm146 : Cond.code yX5_putAside cX5_putAside 2 none ∈ lw_tbl := List.mem_of_getElem? (i := 653) (by decide +kernel)
set_option maxRecDepth 20000 in
theorem wm147 : Cond.methodLink RX5 84 yX5_putWord ∈ lw_tbl := List.mem_of_getElem? (i := 665) (by decide +kernel)
set_option maxRecDepth 20000 in
theorem wm148 : Cond.instanceMethod yX5_putWord ∈ lw_tbl := List.mem_of_getElem? (i := 667) (by decide +kernel)
set_option maxRecDepth 20000 in
theorem wm149 : Cond.selects RX5 yX5_putWord yX5_putWord ∈ lw_tbl := List.mem_of_getElem? (i := 21) (by decide +kernel)
set_option maxRecDepth 20000 in
theorem wm150 : Cond.code yX5_putWord cX5_putWord 7 (some .boolean) ∈ lw_tbl := List.mem_of_getElem? (i := 668) (by decide +kernel)
set_option maxRecDepth 20000 in
theorem wm151 : Cond.methodLink RX5 70 yX5_bitMany ∈ lw_tbl := List.mem_of_getElem? (i := 669) (by decide +kernel)
set_option maxRecDepth 20000 in
theorem wm152 : Cond.instanceMethod yX5_bitMany ∈ lw_tbl := List.mem_of_getElem? (i := 671) (by decide +kernel)
set_option maxRecDepth 20000 in
theorem wm153 : Cond.selects RX5 yX5_bitMany yX5_bitMany ∈ lw_tbl := List.mem_of_getElem? (i := 22) (by decide +kernel)
set_option maxRecDepth 20000 in
theorem wm154 : Cond.code yX5_bitMany cX5_bitMany 1 (some .int) ∈ lw_tbl := List.mem_of_getElem? (i := 672) (by decide +kernel)
set_option maxRecDepth 20000 in
theorem wm155 : Cond.methodLink RX5 74 yX5_lengthOf ∈ lw_tbl := List.mem_of_getElem? (i := 673) (by decide +kernel)
set_option maxRecDepth 20000 in
theorem wm156 : Cond.instanceMethod yX5_lengthOf ∈ lw_tbl := List.mem_of_getElem? (i := 675) (by decide +kernel)
set_option maxRecDepth 20000 in
theorem wm157 : Cond.selects RX5 yX5_lengthOf yX5_lengthOf ∈ lw_tbl := List.mem_of_getElem? (i := 23) (by decide +kernel)
set_option maxRecDepth 20000 in
theorem wm158 : Cond.code yX5_lengthOf cX5_lengthOf 2 (some .int) ∈ lw_tbl := List.mem_of_getElem? (i := 676) (by decide +kernel)
set_option maxRecDepth 20000 in
theorem wm159 : Cond.methodLink RX5 77 yX5_bitsOf ∈ lw_tbl := List.mem_of_getElem? (i := 677) (by decide +kernel)
set_option maxRecDepth 20000 in
theorem wm160 : Cond.instanceMethod yX5_bitsOf ∈ lw_tbl := List.mem_of_getElem? (i := 679) (by decide +kernel)
set_option maxRecDepth 20000 in
theorem wm161 : Cond.selects RX5 yX5_bitsOf yX5_bitsOf ∈ lw_tbl := List.mem_of_getElem? (i := 24) (by decide +kernel)
set_option maxRecDepth 20000 in
theorem wm162 : Cond.code yX5_bitsOf cX5_bitsOf 4 (some .int) ∈ lw_tbl := List.mem_of_getElem? (i := 680) (by decide +kernel)
set_option maxRecDepth 20000 in
theorem wm163 : Cond.methodLink RX5 67 yX5_parityOf ∈ lw_tbl := List.mem_of_getElem? (i := 681) (by decide +kernel)
set_option maxRecDepth 20000 in
theorem wm164 : Cond.instanceMethod yX5_parityOf ∈ lw_tbl := List.mem_of_getElem? (i := 683) (by decide +kernel)
set_option maxRecDepth 20000 in
theorem wm165 : Cond.selects RX5 yX5_parityOf yX5_parityOf ∈ lw_tbl := List.mem_of_getElem? (i := 25) (by decide +kernel)
set_option maxRecDepth 20000 in
theorem wm166 : Cond.code yX5_parityOf cX5_parityOf 3 (some .int) ∈ lw_tbl := List.mem_of_getElem? (i := 684) (by decide +kernel)
set_option maxRecDepth 20000 in
theorem wm167 : Cond.methodLink RX5 63 yX5_ones ∈ lw_tbl := List.mem_of_getElem? (i := 685) (by decide +kernel)
set_option maxRecDepth 20000 in
theorem wm168 : Cond.static yX5_ones ∈ lw_tbl := List.mem_of_getElem? (i := 686) (by decide +kernel)
set_option maxRecDepth 20000 in
theorem wm169 : Cond.code yX5_ones cX5_ones 3 (some .int) ∈ lw_tbl := List.mem_of_getElem? (i := 687) (by decide +kernel)
set_option maxRecDepth 20000 in
theorem wm170 : Cond.methodLink RX5 53 yX5_push ∈ lw_tbl := List.mem_of_getElem? (i := 654) (by decide +kernel)
set_option maxRecDepth 20000 in
theorem wm171 : Cond.instanceMethod yX5_push ∈ lw_tbl := List.mem_of_getElem? (i := 656) (by decide +kernel)
set_option maxRecDepth 20000 in
theorem wm172 : Cond.selects RX5 yX5_push yX5_push ∈ lw_tbl := List.mem_of_getElem? (i := 20) (by decide +kernel)
set_option maxRecDepth 20000 in
theorem wm173 : Cond.code yX5_push cX5_push 2 none ∈ lw_tbl := List.mem_of_getElem? (i := 657) (by decide +kernel)
set_option maxRecDepth 20000 in
theorem wm174 : Cond.fieldLink RX5 46 "ThirdVotesModel" "states" "I" ∈ lw_tbl := List.mem_of_getElem? (i := 575) (by decide +kernel)
set_option maxRecDepth 20000 in
theorem wm175 : Cond.code yX4_pause cX4_pause 2 (some .int) ∈ lw_tbl := List.mem_of_getElem? (i := 249) (by decide +kernel)
set_option maxRecDepth 20000 in
theorem wm176 : Cond.methodLink RX4 61 yX4_sendStretch ∈ lw_tbl := List.mem_of_getElem? (i := 250) (by decide +kernel)
set_option maxRecDepth 20000 in
theorem wm177 : Cond.instanceMethod yX4_sendStretch ∈ lw_tbl := List.mem_of_getElem? (i := 252) (by decide +kernel)
set_option maxRecDepth 20000 in
theorem wm178 : Cond.selects RX4 yX4_sendStretch yX4_sendStretch ∈ lw_tbl := List.mem_of_getElem? (i := 4) (by decide +kernel)
set_option maxRecDepth 20000 in
theorem wm179 : Cond.code yX4_sendStretch cX4_sendStretch 3 (some .int) ∈ lw_tbl := List.mem_of_getElem? (i := 253) (by decide +kernel)
set_option maxRecDepth 20000 in
theorem wm180 : Cond.methodLink RX4 180 yX2_addStretch ∈ lw_tbl := List.mem_of_getElem? (i := 254) (by decide +kernel)
set_option maxRecDepth 20000 in
theorem wm181 : Cond.instanceMethod yX2_addStretch ∈ lw_tbl := List.mem_of_getElem? (i := 255) (by decide +kernel)
set_option maxRecDepth 20000 in
theorem wm182 : Cond.selects RX2 yX2_addStretch yX2_addStretch ∈ lw_tbl := List.mem_of_getElem? (i := 256) (by decide +kernel)
set_option maxRecDepth 20000 in
theorem wm183 : Cond.code yX2_addStretch cX2_addStretch 3 (some .boolean) ∈ lw_tbl := List.mem_of_getElem? (i := 257) (by decide +kernel)
set_option maxRecDepth 20000 in
theorem wm184 : Cond.code yX5_pause cX5_pause 2 (some .int) ∈ lw_tbl := List.mem_of_getElem? (i := 691) (by decide +kernel)
set_option maxRecDepth 20000 in
theorem wm185 : Cond.methodLink RX5 92 yX5_putsLevel ∈ lw_tbl := List.mem_of_getElem? (i := 692) (by decide +kernel)
set_option maxRecDepth 20000 in
theorem wm186 : Cond.instanceMethod yX5_putsLevel ∈ lw_tbl := List.mem_of_getElem? (i := 694) (by decide +kernel)
set_option maxRecDepth 20000 in
theorem wm187 : Cond.selects RX5 yX5_putsLevel yX5_putsLevel ∈ lw_tbl := List.mem_of_getElem? (i := 26) (by decide +kernel)
set_option maxRecDepth 20000 in
theorem wm188 : Cond.code yX5_putsLevel cX5_putsLevel 3 (some .int) ∈ lw_tbl := List.mem_of_getElem? (i := 695) (by decide +kernel)
set_option maxRecDepth 20000 in
theorem wm189 : Cond.methodLink RX5 88 yX5_putLevel ∈ lw_tbl := List.mem_of_getElem? (i := 696) (by decide +kernel)
set_option maxRecDepth 20000 in
theorem wm190 : Cond.instanceMethod yX5_putLevel ∈ lw_tbl := List.mem_of_getElem? (i := 698) (by decide +kernel)
set_option maxRecDepth 20000 in
theorem wm191 : Cond.selects RX5 yX5_putLevel yX5_putLevel ∈ lw_tbl := List.mem_of_getElem? (i := 27) (by decide +kernel)
set_option maxRecDepth 20000 in
theorem wm192 : Cond.code yX5_putLevel cX5_putLevel 4 (some .boolean) ∈ lw_tbl := List.mem_of_getElem? (i := 699) (by decide +kernel)
set_option maxRecDepth 20000 in
theorem wm193 : Cond.code yX4_sendBreak cX4_sendBreak 2 (some .int) ∈ lw_tbl := List.mem_of_getElem? (i := 261) (by decide +kernel)
set_option maxRecDepth 20000 in
theorem wm194 : Cond.code yX5_sendBreak cX5_sendBreak 2 (some .int) ∈ lw_tbl := List.mem_of_getElem? (i := 703) (by decide +kernel)
set_option maxRecDepth 20000 in
theorem wm195 : Cond.code yX4_disturb cX4_disturb 3 (some .int) ∈ lw_tbl := List.mem_of_getElem? (i := 265) (by decide +kernel)
set_option maxRecDepth 20000 in
theorem wm196 : Cond.methodLink RX4 65 yX4_isDisturbance ∈ lw_tbl := List.mem_of_getElem? (i := 266) (by decide +kernel)
set_option maxRecDepth 20000 in
theorem wm197 : Cond.static yX4_isDisturbance ∈ lw_tbl := List.mem_of_getElem? (i := 267) (by decide +kernel)
set_option maxRecDepth 20000 in
theorem wm198 : Cond.code yX4_isDisturbance cX4_isDisturbance 1 (some .boolean) ∈ lw_tbl := List.mem_of_getElem? (i := 268) (by decide +kernel)
set_option maxRecDepth 20000 in
theorem wm199 : Cond.methodLink RX4 68 yX2_flip ∈ lw_tbl := List.mem_of_getElem? (i := 269) (by decide +kernel)
set_option maxRecDepth 20000 in
theorem wm200 : Cond.instanceMethod yX2_flip ∈ lw_tbl := List.mem_of_getElem? (i := 270) (by decide +kernel)
set_option maxRecDepth 20000 in
theorem wm201 : Cond.selects RX2 yX2_flip yX2_flip ∈ lw_tbl := List.mem_of_getElem? (i := 271) (by decide +kernel)
set_option maxRecDepth 20000 in
theorem wm202 : Cond.code yX2_flip cX2_flip 5 (some .int) ∈ lw_tbl := List.mem_of_getElem? (i := 272) (by decide +kernel)
set_option maxRecDepth 20000 in
theorem wm203 : Cond.methodLink RX2 71 yX2_levelAt ∈ lw_tbl := List.mem_of_getElem? (i := 273) (by decide +kernel)
set_option maxRecDepth 20000 in
theorem wm204 : Cond.instanceMethod yX2_levelAt ∈ lw_tbl := List.mem_of_getElem? (i := 274) (by decide +kernel)
set_option maxRecDepth 20000 in
theorem wm205 : Cond.selects RX2 yX2_levelAt yX2_levelAt ∈ lw_tbl := List.mem_of_getElem? (i := 275) (by decide +kernel)
set_option maxRecDepth 20000 in
theorem wm206 : Cond.code yX2_levelAt cX2_levelAt 2 (some .int) ∈ lw_tbl := List.mem_of_getElem? (i := 276) (by decide +kernel)
set_option maxRecDepth 20000 in
theorem wm207 : Cond.code yX5_disturb cX5_disturb 5 (some .int) ∈ lw_tbl := List.mem_of_getElem? (i := 707) (by decide +kernel)
set_option maxRecDepth 20000 in
theorem wm208 : Cond.methodLink RX5 60 yX5_record ∈ lw_tbl := List.mem_of_getElem? (i := 646) (by decide +kernel)
set_option maxRecDepth 20000 in
theorem wm209 : Cond.instanceMethod yX5_record ∈ lw_tbl := List.mem_of_getElem? (i := 648) (by decide +kernel)
set_option maxRecDepth 20000 in
theorem wm210 : Cond.selects RX5 yX5_record yX5_record ∈ lw_tbl := List.mem_of_getElem? (i := 18) (by decide +kernel)
set_option maxRecDepth 20000 in
theorem wm211 : Cond.code yX5_record cX5_record 1 none ∈ lw_tbl := List.mem_of_getElem? (i := 649) (by decide +kernel)
set_option maxRecDepth 20000 in
theorem wm212 : Cond.methodLink RX5 96 yX5_flip ∈ lw_tbl := List.mem_of_getElem? (i := 708) (by decide +kernel)
set_option maxRecDepth 20000 in
theorem wm213 : Cond.instanceMethod yX5_flip ∈ lw_tbl := List.mem_of_getElem? (i := 710) (by decide +kernel)
set_option maxRecDepth 20000 in
theorem wm214 : Cond.selects RX5 yX5_flip yX5_flip ∈ lw_tbl := List.mem_of_getElem? (i := 28) (by decide +kernel)
set_option maxRecDepth 20000 in
theorem wm215 : Cond.code yX5_flip cX5_flip 4 none ∈ lw_tbl := List.mem_of_getElem? (i := 711) (by decide +kernel)
set_option maxRecDepth 20000 in
theorem wm216 : Cond.code yX4_clear cX4_clear 2 (some .int) ∈ lw_tbl := List.mem_of_getElem? (i := 280) (by decide +kernel)
set_option maxRecDepth 20000 in
theorem wm217 : Cond.methodLink RX4 71 yX2_clearWire ∈ lw_tbl := List.mem_of_getElem? (i := 281) (by decide +kernel)
set_option maxRecDepth 20000 in
theorem wm218 : Cond.instanceMethod yX2_clearWire ∈ lw_tbl := List.mem_of_getElem? (i := 282) (by decide +kernel)
set_option maxRecDepth 20000 in
theorem wm219 : Cond.selects RX2 yX2_clearWire yX2_clearWire ∈ lw_tbl := List.mem_of_getElem? (i := 283) (by decide +kernel)
set_option maxRecDepth 20000 in
theorem wm220 : Cond.code yX2_clearWire cX2_clearWire 1 none ∈ lw_tbl := List.mem_of_getElem? (i := 284) (by decide +kernel)
set_option maxRecDepth 20000 in
theorem wm221 : Cond.code yX5_clear cX5_clear 3 (some .int) ∈ lw_tbl := List.mem_of_getElem? (i := 715) (by decide +kernel)
set_option maxRecDepth 20000 in
theorem wm222 : Cond.code yX4_set cX4_set 4 (some .int) ∈ lw_tbl := List.mem_of_getElem? (i := 288) (by decide +kernel)
set_option maxRecDepth 20000 in
theorem wm223 : Cond.fieldLink RX4 74 "ThirdVotes" "LEAST_VALUES" "[I" ∈ lw_tbl := List.mem_of_getElem? (i := 289) (by decide +kernel)
set_option maxRecDepth 20000 in
theorem wm224 : Cond.fieldLink RX4 78 "ThirdVotes" "GREATEST_VALUES" "[I" ∈ lw_tbl := List.mem_of_getElem? (i := 291) (by decide +kernel)
set_option maxRecDepth 20000 in
theorem wm225 : Cond.methodLink RX4 81 yX2_setting ∈ lw_tbl := List.mem_of_getElem? (i := 293) (by decide +kernel)
set_option maxRecDepth 20000 in
theorem wm226 : Cond.instanceMethod yX2_setting ∈ lw_tbl := List.mem_of_getElem? (i := 294) (by decide +kernel)
set_option maxRecDepth 20000 in
theorem wm227 : Cond.selects RX2 yX2_setting yX2_setting ∈ lw_tbl := List.mem_of_getElem? (i := 295) (by decide +kernel)
set_option maxRecDepth 20000 in
theorem wm228 : Cond.code yX2_setting cX2_setting 2 (some .int) ∈ lw_tbl := List.mem_of_getElem? (i := 296) (by decide +kernel)
set_option maxRecDepth 20000 in
theorem wm229 : Cond.methodLink RX4 85 yX2_change ∈ lw_tbl := List.mem_of_getElem? (i := 297) (by decide +kernel)
set_option maxRecDepth 20000 in
theorem wm230 : Cond.instanceMethod yX2_change ∈ lw_tbl := List.mem_of_getElem? (i := 298) (by decide +kernel)
set_option maxRecDepth 20000 in
theorem wm231 : Cond.selects RX2 yX2_change yX2_change ∈ lw_tbl := List.mem_of_getElem? (i := 299) (by decide +kernel)
set_option maxRecDepth 20000 in
theorem wm232 : Cond.code yX2_change cX2_change 3 none ∈ lw_tbl := List.mem_of_getElem? (i := 300) (by decide +kernel)
set_option maxRecDepth 20000 in
theorem wm233 : Cond.code yX5_set cX5_set 4 (some .int) ∈ lw_tbl := List.mem_of_getElem? (i := 719) (by decide +kernel)
set_option maxRecDepth 20000 in
theorem wm234 : Cond.methodLink RX5 100 yX5_isValue ∈ lw_tbl := List.mem_of_getElem? (i := 720) (by decide +kernel)
set_option maxRecDepth 20000 in
theorem wm235 : Cond.static yX5_isValue ∈ lw_tbl := List.mem_of_getElem? (i := 721) (by decide +kernel)
set_option maxRecDepth 20000 in
theorem wm236 : Cond.code yX5_isValue cX5_isValue 2 (some .boolean) ∈ lw_tbl := List.mem_of_getElem? (i := 722) (by decide +kernel)
set_option maxRecDepth 20000 in
theorem wm237 : Cond.code yX4_learn cX4_learn 2 (some .int) ∈ lw_tbl := List.mem_of_getElem? (i := 304) (by decide +kernel)
set_option maxRecDepth 20000 in
theorem wm238 : Cond.methodLink RX4 89 yX2_learnedLength ∈ lw_tbl := List.mem_of_getElem? (i := 305) (by decide +kernel)
set_option maxRecDepth 20000 in
theorem wm239 : Cond.instanceMethod yX2_learnedLength ∈ lw_tbl := List.mem_of_getElem? (i := 306) (by decide +kernel)
set_option maxRecDepth 20000 in
theorem wm240 : Cond.selects RX2 yX2_learnedLength yX2_learnedLength ∈ lw_tbl := List.mem_of_getElem? (i := 307) (by decide +kernel)
set_option maxRecDepth 20000 in
theorem wm241 : Cond.code yX2_learnedLength cX2_learnedLength 4 (some .int) ∈ lw_tbl := List.mem_of_getElem? (i := 308) (by decide +kernel)
set_option maxRecDepth 20000 in
theorem wm242 : Cond.methodLink RX2 87 yX2_fallOfRank ∈ lw_tbl := List.mem_of_getElem? (i := 309) (by decide +kernel)
set_option maxRecDepth 20000 in
theorem wm243 : Cond.instanceMethod yX2_fallOfRank ∈ lw_tbl := List.mem_of_getElem? (i := 310) (by decide +kernel)
set_option maxRecDepth 20000 in
theorem wm244 : Cond.selects RX2 yX2_fallOfRank yX2_fallOfRank ∈ lw_tbl := List.mem_of_getElem? (i := 311) (by decide +kernel)
set_option maxRecDepth 20000 in
theorem wm245 : Cond.code yX2_fallOfRank cX2_fallOfRank 4 (some .int) ∈ lw_tbl := List.mem_of_getElem? (i := 312) (by decide +kernel)
set_option maxRecDepth 20000 in
theorem wm246 : Cond.methodLink RX2 84 yX2_nextFall ∈ lw_tbl := List.mem_of_getElem? (i := 313) (by decide +kernel)
set_option maxRecDepth 20000 in
theorem wm247 : Cond.instanceMethod yX2_nextFall ∈ lw_tbl := List.mem_of_getElem? (i := 314) (by decide +kernel)
set_option maxRecDepth 20000 in
theorem wm248 : Cond.selects RX2 yX2_nextFall yX2_nextFall ∈ lw_tbl := List.mem_of_getElem? (i := 315) (by decide +kernel)
set_option maxRecDepth 20000 in
theorem wm249 : Cond.code yX2_nextFall cX2_nextFall 9 (some .int) ∈ lw_tbl := List.mem_of_getElem? (i := 316) (by decide +kernel)
set_option maxRecDepth 20000 in
theorem wm250 : Cond.methodLink RX2 74 yX2_fallsIn ∈ lw_tbl := List.mem_of_getElem? (i := 317) (by decide +kernel)
set_option maxRecDepth 20000 in
theorem wm251 : Cond.instanceMethod yX2_fallsIn ∈ lw_tbl := List.mem_of_getElem? (i := 319) (by decide +kernel)
set_option maxRecDepth 20000 in
theorem wm252 : Cond.selects RX2 yX2_fallsIn yX2_fallsIn ∈ lw_tbl := List.mem_of_getElem? (i := 5) (by decide +kernel)
set_option maxRecDepth 20000 in
theorem wm253 : Cond.code yX2_fallsIn cX2_fallsIn 4 (some .long) ∈ lw_tbl := List.mem_of_getElem? (i := 320) (by decide +kernel)
set_option maxRecDepth 20000 in
theorem wm254 : Cond.methodLink RX2 78 yJ13_bitCount_95d88 ∈ lw_tbl := List.mem_of_getElem? (i := 321) (by decide +kernel)
set_option maxRecDepth 20000 in
theorem wm255 : Cond.static yJ13_bitCount_95d88 ∈ lw_tbl := List.mem_of_getElem? (i := 322) (by decide +kernel)
set_option maxRecDepth 20000 in
theorem wm256 : Cond.initialized RJ13 ∈ lw_tbl := List.mem_of_getElem? (i := 61) (by decide +kernel)
set_option maxRecDepth 20000 in
theorem wm257 : Cond.code yJ13_bitCount_95d88 cJ13_bitCount_95d88 2 (some .int) ∈ lw_tbl := List.mem_of_getElem? (i := 323) (by decide +kernel)
set_option maxRecDepth 20000 in
theorem wm258 : Cond.constantLong RJ13 314 (6148914691236517205) ∈ lw_tbl := List.mem_of_getElem? (i := 324) (by decide +kernel)
set_option maxRecDepth 20000 in
theorem wm259 : Cond.constantLong RJ13 316 (3689348814741910323) ∈ lw_tbl := List.mem_of_getElem? (i := 325) (by decide +kernel)
set_option maxRecDepth 20000 in
theorem wm260 : Cond.constantLong RJ13 318 (1085102592571150095) ∈ lw_tbl := List.mem_of_getElem? (i := 326) (by decide +kernel)
set_option maxRecDepth 20000 in
theorem wm261 : Cond.code yX5_learn cX5_learn 2 (some .int) ∈ lw_tbl := List.mem_of_getElem? (i := 726) (by decide +kernel)
set_option maxRecDepth 20000 in
theorem wm262 : Cond.methodLink RX5 103 yX5_learned ∈ lw_tbl := List.mem_of_getElem? (i := 727) (by decide +kernel)
set_option maxRecDepth 20000 in
theorem wm263 : Cond.instanceMethod yX5_learned ∈ lw_tbl := List.mem_of_getElem? (i := 729) (by decide +kernel)
set_option maxRecDepth 20000 in
theorem wm264 : Cond.selects RX5 yX5_learned yX5_learned ∈ lw_tbl := List.mem_of_getElem? (i := 29) (by decide +kernel)
set_option maxRecDepth 20000 in
theorem wm265 : Cond.code yX5_learned cX5_learned 3 (some .int) ∈ lw_tbl := List.mem_of_getElem? (i := 730) (by decide +kernel)
set_option maxRecDepth 20000 in
theorem wm266 : Cond.methodLink RX5 135 yX5_fallOf ∈ lw_tbl := List.mem_of_getElem? (i := 731) (by decide +kernel)
set_option maxRecDepth 20000 in
theorem wm267 : Cond.instanceMethod yX5_fallOf ∈ lw_tbl := List.mem_of_getElem? (i := 733) (by decide +kernel)
set_option maxRecDepth 20000 in
theorem wm268 : Cond.selects RX5 yX5_fallOf yX5_fallOf ∈ lw_tbl := List.mem_of_getElem? (i := 30) (by decide +kernel)
set_option maxRecDepth 20000 in
theorem wm269 : Cond.code yX5_fallOf cX5_fallOf 4 (some .int) ∈ lw_tbl := List.mem_of_getElem? (i := 734) (by decide +kernel)
set_option maxRecDepth 20000 in
theorem wm270 : Cond.methodLink RX5 121 yX5_isFall ∈ lw_tbl := List.mem_of_getElem? (i := 735) (by decide +kernel)
set_option maxRecDepth 20000 in
theorem wm271 : Cond.instanceMethod yX5_isFall ∈ lw_tbl := List.mem_of_getElem? (i := 737) (by decide +kernel)
set_option maxRecDepth 20000 in
theorem wm272 : Cond.selects RX5 yX5_isFall yX5_isFall ∈ lw_tbl := List.mem_of_getElem? (i := 31) (by decide +kernel)
set_option maxRecDepth 20000 in
theorem wm273 : Cond.code yX5_isFall cX5_isFall 2 (some .boolean) ∈ lw_tbl := List.mem_of_getElem? (i := 738) (by decide +kernel)
set_option maxRecDepth 20000 in
theorem wm274 : Cond.methodLink RX5 106 yX5_levelAt ∈ lw_tbl := List.mem_of_getElem? (i := 739) (by decide +kernel)
set_option maxRecDepth 20000 in
theorem wm275 : Cond.instanceMethod yX5_levelAt ∈ lw_tbl := List.mem_of_getElem? (i := 741) (by decide +kernel)
set_option maxRecDepth 20000 in
theorem wm276 : Cond.selects RX5 yX5_levelAt yX5_levelAt ∈ lw_tbl := List.mem_of_getElem? (i := 32) (by decide +kernel)
set_option maxRecDepth 20000 in
theorem wm277 : Cond.code yX5_levelAt cX5_levelAt 2 (some .int) ∈ lw_tbl := List.mem_of_getElem? (i := 742) (by decide +kernel)
set_option maxRecDepth 20000 in
theorem wm278 : Cond.code yX4_type cX4_type 2 (some .int) ∈ lw_tbl := List.mem_of_getElem? (i := 330) (by decide +kernel)
set_option maxRecDepth 20000 in
theorem wm279 : Cond.methodLink RX4 92 yX3_append ∈ lw_tbl := List.mem_of_getElem? (i := 331) (by decide +kernel)
set_option maxRecDepth 20000 in
theorem wm280 : Cond.instanceMethod yX3_append ∈ lw_tbl := List.mem_of_getElem? (i := 332) (by decide +kernel)
set_option maxRecDepth 20000 in
theorem wm281 : Cond.selects RX3 yX3_append yX3_append ∈ lw_tbl := List.mem_of_getElem? (i := 333) (by decide +kernel)
set_option maxRecDepth 20000 in
theorem wm282 : Cond.code yX3_append cX3_append 2 (some .boolean) ∈ lw_tbl := List.mem_of_getElem? (i := 334) (by decide +kernel)
set_option maxRecDepth 20000 in
theorem wm283 : Cond.fieldLink RX3 22 "ThirdVotes$Text" "length" "I" ∈ lw_tbl := List.mem_of_getElem? (i := 133) (by decide +kernel)
set_option maxRecDepth 20000 in
theorem wm284 : Cond.methodLink RX4 96 yX3_length ∈ lw_tbl := List.mem_of_getElem? (i := 335) (by decide +kernel)
set_option maxRecDepth 20000 in
theorem wm285 : Cond.instanceMethod yX3_length ∈ lw_tbl := List.mem_of_getElem? (i := 336) (by decide +kernel)
set_option maxRecDepth 20000 in
theorem wm286 : Cond.selects RX3 yX3_length yX3_length ∈ lw_tbl := List.mem_of_getElem? (i := 337) (by decide +kernel)
set_option maxRecDepth 20000 in
theorem wm287 : Cond.code yX3_length cX3_length 1 (some .int) ∈ lw_tbl := List.mem_of_getElem? (i := 338) (by decide +kernel)
set_option maxRecDepth 20000 in
theorem wm288 : Cond.code yX5_type cX5_type 2 (some .int) ∈ lw_tbl := List.mem_of_getElem? (i := 746) (by decide +kernel)
set_option maxRecDepth 20000 in
theorem wm289 : Cond.fieldLink RX5 138 "ThirdVotesModel" "length" "I" ∈ lw_tbl := List.mem_of_getElem? (i := 580) (by decide +kernel)
set_option maxRecDepth 20000 in
theorem wm290 : Cond.code yX4_clearText cX4_clearText 2 (some .int) ∈ lw_tbl := List.mem_of_getElem? (i := 342) (by decide +kernel)
set_option maxRecDepth 20000 in
theorem wm291 : Cond.methodLink RX4 99 yX3_empty ∈ lw_tbl := List.mem_of_getElem? (i := 343) (by decide +kernel)
set_option maxRecDepth 20000 in
theorem wm292 : Cond.instanceMethod yX3_empty ∈ lw_tbl := List.mem_of_getElem? (i := 344) (by decide +kernel)
set_option maxRecDepth 20000 in
theorem wm293 : Cond.selects RX3 yX3_empty yX3_empty ∈ lw_tbl := List.mem_of_getElem? (i := 345) (by decide +kernel)
set_option maxRecDepth 20000 in
theorem wm294 : Cond.code yX3_empty cX3_empty 1 none ∈ lw_tbl := List.mem_of_getElem? (i := 346) (by decide +kernel)
set_option maxRecDepth 20000 in
theorem wm295 : Cond.code yX5_clearText cX5_clearText 2 (some .int) ∈ lw_tbl := List.mem_of_getElem? (i := 750) (by decide +kernel)
set_option maxRecDepth 20000 in
theorem wm296 : Cond.code yX4_perform cX4_perform 2 (some .int) ∈ lw_tbl := List.mem_of_getElem? (i := 350) (by decide +kernel)
set_option maxRecDepth 20000 in
theorem wm297 : Cond.methodLink RX4 102 yX3_fault ∈ lw_tbl := List.mem_of_getElem? (i := 351) (by decide +kernel)
set_option maxRecDepth 20000 in
theorem wm298 : Cond.instanceMethod yX3_fault ∈ lw_tbl := List.mem_of_getElem? (i := 352) (by decide +kernel)
set_option maxRecDepth 20000 in
theorem wm299 : Cond.selects RX3 yX3_fault yX3_fault ∈ lw_tbl := List.mem_of_getElem? (i := 353) (by decide +kernel)
set_option maxRecDepth 20000 in
theorem wm300 : Cond.code yX3_fault cX3_fault 5 (some .int) ∈ lw_tbl := List.mem_of_getElem? (i := 354) (by decide +kernel)
set_option maxRecDepth 20000 in
theorem wm301 : Cond.methodLink RX3 26 yX3_characterAt ∈ lw_tbl := List.mem_of_getElem? (i := 355) (by decide +kernel)
set_option maxRecDepth 20000 in
theorem wm302 : Cond.instanceMethod yX3_characterAt ∈ lw_tbl := List.mem_of_getElem? (i := 357) (by decide +kernel)
set_option maxRecDepth 20000 in
theorem wm303 : Cond.selects RX3 yX3_characterAt yX3_characterAt ∈ lw_tbl := List.mem_of_getElem? (i := 6) (by decide +kernel)
set_option maxRecDepth 20000 in
theorem wm304 : Cond.code yX3_characterAt cX3_characterAt 2 (some .char) ∈ lw_tbl := List.mem_of_getElem? (i := 358) (by decide +kernel)
set_option maxRecDepth 20000 in
theorem wm305 : Cond.methodLink RX3 30 yX3_placeBehind ∈ lw_tbl := List.mem_of_getElem? (i := 359) (by decide +kernel)
set_option maxRecDepth 20000 in
theorem wm306 : Cond.static yX3_placeBehind ∈ lw_tbl := List.mem_of_getElem? (i := 360) (by decide +kernel)
set_option maxRecDepth 20000 in
theorem wm307 : Cond.code yX3_placeBehind cX3_placeBehind 3 (some .int) ∈ lw_tbl := List.mem_of_getElem? (i := 361) (by decide +kernel)
set_option maxRecDepth 20000 in
theorem wm308 : Cond.methodLink RX3 74 yX3_placeInItem ∈ lw_tbl := List.mem_of_getElem? (i := 362) (by decide +kernel)
set_option maxRecDepth 20000 in
theorem wm309 : Cond.static yX3_placeInItem ∈ lw_tbl := List.mem_of_getElem? (i := 363) (by decide +kernel)
set_option maxRecDepth 20000 in
theorem wm310 : Cond.code yX3_placeInItem cX3_placeInItem 1 (some .int) ∈ lw_tbl := List.mem_of_getElem? (i := 364) (by decide +kernel)
set_option maxRecDepth 20000 in
theorem wm311 : Cond.methodLink RX3 54 yX3_isStretch ∈ lw_tbl := List.mem_of_getElem? (i := 365) (by decide +kernel)
set_option maxRecDepth 20000 in
theorem wm312 : Cond.static yX3_isStretch ∈ lw_tbl := List.mem_of_getElem? (i := 366) (by decide +kernel)
set_option maxRecDepth 20000 in
theorem wm313 : Cond.code yX3_isStretch cX3_isStretch 1 (some .boolean) ∈ lw_tbl := List.mem_of_getElem? (i := 367) (by decide +kernel)
set_option maxRecDepth 20000 in
theorem wm314 : Cond.methodLink RX3 80 yX3_isBetween ∈ lw_tbl := List.mem_of_getElem? (i := 368) (by decide +kernel)
set_option maxRecDepth 20000 in
theorem wm315 : Cond.static yX3_isBetween ∈ lw_tbl := List.mem_of_getElem? (i := 369) (by decide +kernel)
set_option maxRecDepth 20000 in
theorem wm316 : Cond.code yX3_isBetween cX3_isBetween 3 (some .boolean) ∈ lw_tbl := List.mem_of_getElem? (i := 370) (by decide +kernel)
set_option maxRecDepth 20000 in
theorem wm317 : Cond.methodLink RX3 42 yX3_digit ∈ lw_tbl := List.mem_of_getElem? (i := 371) (by decide +kernel)
set_option maxRecDepth 20000 in
theorem wm318 : Cond.static yX3_digit ∈ lw_tbl := List.mem_of_getElem? (i := 372) (by decide +kernel)
set_option maxRecDepth 20000 in
theorem wm319 : Cond.code yX3_digit cX3_digit 1 (some .int) ∈ lw_tbl := List.mem_of_getElem? (i := 373) (by decide +kernel)
set_option maxRecDepth 20000 in
theorem wm320 : Cond.methodLink RX3 77 yX3_placeBehindDigit ∈ lw_tbl := List.mem_of_getElem? (i := 374) (by decide +kernel)
set_option maxRecDepth 20000 in
theorem wm321 : Cond.static yX3_placeBehindDigit ∈ lw_tbl := List.mem_of_getElem? (i := 375) (by decide +kernel)
set_option maxRecDepth 20000 in
theorem wm322 : Cond.code yX3_placeBehindDigit cX3_placeBehindDigit 1 (some .int) ∈ lw_tbl := List.mem_of_getElem? (i := 376) (by decide +kernel)
set_option maxRecDepth 20000 in
theorem wm323 : Cond.methodLink RX3 84 yX3_placeBehindItem ∈ lw_tbl := List.mem_of_getElem? (i := 377) (by decide +kernel)
set_option maxRecDepth 20000 in
theorem wm324 : Cond.static yX3_placeBehindItem ∈ lw_tbl := List.mem_of_getElem? (i := 378) (by decide +kernel)
set_option maxRecDepth 20000 in
theorem wm325 : Cond.code yX3_placeBehindItem cX3_placeBehindItem 2 (some .int) ∈ lw_tbl := List.mem_of_getElem? (i := 379) (by decide +kernel)
set_option maxRecDepth 20000 in
theorem wm326 : Cond.methodLink RX4 105 yX2_copyFrom ∈ lw_tbl := List.mem_of_getElem? (i := 380) (by decide +kernel)
set_option maxRecDepth 20000 in
theorem wm327 : Cond.methodLink RX4 108 yX3_sendTo ∈ lw_tbl := List.mem_of_getElem? (i := 381) (by decide +kernel)
set_option maxRecDepth 20000 in
theorem wm328 : Cond.instanceMethod yX3_sendTo ∈ lw_tbl := List.mem_of_getElem? (i := 382) (by decide +kernel)
set_option maxRecDepth 20000 in
theorem wm329 : Cond.selects RX3 yX3_sendTo yX3_sendTo ∈ lw_tbl := List.mem_of_getElem? (i := 383) (by decide +kernel)
set_option maxRecDepth 20000 in
theorem wm330 : Cond.code yX3_sendTo cX3_sendTo 5 (some .boolean) ∈ lw_tbl := List.mem_of_getElem? (i := 384) (by decide +kernel)
set_option maxRecDepth 20000 in
theorem wm331 : Cond.fieldLink RX3 34 "ThirdVotes$Text" "openRepeats" "I" ∈ lw_tbl := List.mem_of_getElem? (i := 134) (by decide +kernel)
set_option maxRecDepth 20000 in
theorem wm332 : Cond.constant RX3 37 (1000000) ∈ lw_tbl := List.mem_of_getElem? (i := 385) (by decide +kernel)
set_option maxRecDepth 20000 in
theorem wm333 : Cond.methodLink RX3 38 yX3_endRepeat ∈ lw_tbl := List.mem_of_getElem? (i := 386) (by decide +kernel)
set_option maxRecDepth 20000 in
theorem wm334 : Cond.instanceMethod yX3_endRepeat ∈ lw_tbl := List.mem_of_getElem? (i := 388) (by decide +kernel)
set_option maxRecDepth 20000 in
theorem wm335 : Cond.selects RX3 yX3_endRepeat yX3_endRepeat ∈ lw_tbl := List.mem_of_getElem? (i := 7) (by decide +kernel)
set_option maxRecDepth 20000 in
theorem wm336 : Cond.code yX3_endRepeat cX3_endRepeat 3 (some .int) ∈ lw_tbl := List.mem_of_getElem? (i := 389) (by decide +kernel)
set_option maxRecDepth 20000 in
theorem wm337 : Cond.methodLink RX3 46 yX3_beginRepeat ∈ lw_tbl := List.mem_of_getElem? (i := 390) (by decide +kernel)
set_option maxRecDepth 20000 in
theorem wm338 : Cond.instanceMethod yX3_beginRepeat ∈ lw_tbl := List.mem_of_getElem? (i := 392) (by decide +kernel)
set_option maxRecDepth 20000 in
theorem wm339 : Cond.selects RX3 yX3_beginRepeat yX3_beginRepeat ∈ lw_tbl := List.mem_of_getElem? (i := 8) (by decide +kernel)
set_option maxRecDepth 20000 in
theorem wm340 : Cond.code yX3_beginRepeat cX3_beginRepeat 3 (some .int) ∈ lw_tbl := List.mem_of_getElem? (i := 393) (by decide +kernel)
set_option maxRecDepth 20000 in
theorem wm341 : Cond.methodLink RX3 50 yX3_sendItem ∈ lw_tbl := List.mem_of_getElem? (i := 394) (by decide +kernel)
set_option maxRecDepth 20000 in
theorem wm342 : Cond.instanceMethod yX3_sendItem ∈ lw_tbl := List.mem_of_getElem? (i := 396) (by decide +kernel)
set_option maxRecDepth 20000 in
theorem wm343 : Cond.selects RX3 yX3_sendItem yX3_sendItem ∈ lw_tbl := List.mem_of_getElem? (i := 9) (by decide +kernel)
set_option maxRecDepth 20000 in
theorem wm344 : Cond.code yX3_sendItem cX3_sendItem 5 (some .int) ∈ lw_tbl := List.mem_of_getElem? (i := 397) (by decide +kernel)
set_option maxRecDepth 20000 in
theorem wm345 : Cond.methodLink RX3 58 yX3_numberAt ∈ lw_tbl := List.mem_of_getElem? (i := 398) (by decide +kernel)
set_option maxRecDepth 20000 in
theorem wm346 : Cond.instanceMethod yX3_numberAt ∈ lw_tbl := List.mem_of_getElem? (i := 400) (by decide +kernel)
set_option maxRecDepth 20000 in
theorem wm347 : Cond.selects RX3 yX3_numberAt yX3_numberAt ∈ lw_tbl := List.mem_of_getElem? (i := 10) (by decide +kernel)
set_option maxRecDepth 20000 in
theorem wm348 : Cond.code yX3_numberAt cX3_numberAt 4 (some .int) ∈ lw_tbl := List.mem_of_getElem? (i := 401) (by decide +kernel)
set_option maxRecDepth 20000 in
theorem wm349 : Cond.methodLink RX3 61 yX2_addStretch ∈ lw_tbl := List.mem_of_getElem? (i := 402) (by decide +kernel)
set_option maxRecDepth 20000 in
theorem wm350 : Cond.methodLink RX3 67 yX2_addWord ∈ lw_tbl := List.mem_of_getElem? (i := 403) (by decide +kernel)

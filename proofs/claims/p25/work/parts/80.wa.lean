/-! THE LAW: its words among the tables, by their places -/
set_option maxRecDepth 20000 in
theorem inX0_r : wsX00 = ([118, 120, 122, 124] : List Nat).filterMap (fun i => lw_tbl[i]?) := by decide +kernel
set_option maxRecDepth 20000 in
theorem inX0 : ∀ w ∈ wsX00, w ∈ lw_tbl := fun w h => by
  rw [inX0_r] at h
  obtain ⟨i, -, hi⟩ := List.mem_filterMap.mp h
  exact List.mem_of_getElem? hi
set_option maxRecDepth 20000 in
theorem inX1_r : wsX10 = ([75, 77, 79, 81] : List Nat).filterMap (fun i => lw_tbl[i]?) := by decide +kernel
set_option maxRecDepth 20000 in
theorem inX1 : ∀ w ∈ wsX10, w ∈ lw_tbl := fun w h => by
  rw [inX1_r] at h
  obtain ⟨i, -, hi⟩ := List.mem_filterMap.mp h
  exact List.mem_of_getElem? hi
set_option maxRecDepth 20000 in
theorem inX2_r : wsX20 = ([50, 52, 54, 56, 58] : List Nat).filterMap (fun i => lw_tbl[i]?) := by decide +kernel
set_option maxRecDepth 20000 in
theorem inX2 : ∀ w ∈ wsX20, w ∈ lw_tbl := fun w h => by
  rw [inX2_r] at h
  obtain ⟨i, -, hi⟩ := List.mem_filterMap.mp h
  exact List.mem_of_getElem? hi
set_option maxRecDepth 20000 in
theorem inX3_r : wsX30 = ([94, 96, 98, 100, 102] : List Nat).filterMap (fun i => lw_tbl[i]?) := by decide +kernel
set_option maxRecDepth 20000 in
theorem inX3 : ∀ w ∈ wsX30, w ∈ lw_tbl := fun w h => by
  rw [inX3_r] at h
  obtain ⟨i, -, hi⟩ := List.mem_filterMap.mp h
  exact List.mem_of_getElem? hi
set_option maxRecDepth 20000 in
theorem inX4_r : wsX40 = ([132, 134, 136, 138, 140] : List Nat).filterMap (fun i => lw_tbl[i]?) := by decide +kernel
set_option maxRecDepth 20000 in
theorem inX4 : ∀ w ∈ wsX40, w ∈ lw_tbl := fun w h => by
  rw [inX4_r] at h
  obtain ⟨i, -, hi⟩ := List.mem_filterMap.mp h
  exact List.mem_of_getElem? hi
set_option maxRecDepth 20000 in
theorem wm0 : Cond.code yX4_init cX4_init 1 none ∈ lw_tbl := List.mem_of_getElem? (i := 26) (by decide +kernel)
set_option maxRecDepth 20000 in
theorem wm1 : Cond.methodLink RX4 3 objectInit ∈ lw_tbl := List.mem_of_getElem? (i := 27) (by decide +kernel)
set_option maxRecDepth 20000 in
theorem wm2 : Cond.instanceMethod objectInit ∈ lw_tbl := List.mem_of_getElem? (i := 28) (by decide +kernel)
set_option maxRecDepth 20000 in
theorem wm3 : Cond.code objectInit ⟨#[0xb1]⟩ 1 none ∈ lw_tbl := List.mem_of_getElem? (i := 29) (by decide +kernel)
set_option maxRecDepth 20000 in
theorem wm4 : Cond.classLink RX4 9 RX2 ∈ lw_tbl := List.mem_of_getElem? (i := 30) (by decide +kernel)
set_option maxRecDepth 20000 in
theorem wm5 : Cond.instantiable RX2 5 ∈ lw_tbl := List.mem_of_getElem? (i := 31) (by decide +kernel)
set_option maxRecDepth 20000 in
theorem wm6 : Cond.initialized RX2 ∈ lw_tbl := List.mem_of_getElem? (i := 13) (by decide +kernel)
set_option maxRecDepth 20000 in
theorem wm7 : Cond.fieldLink RX4 12 "ThirdVotes" "state" "LThirdVotes$State;" ∈ lw_tbl := List.mem_of_getElem? (i := 127) (by decide +kernel)
set_option maxRecDepth 20000 in
theorem wm8 : Cond.fieldLink RX4 16 "ThirdVotes" "trial" "LThirdVotes$State;" ∈ lw_tbl := List.mem_of_getElem? (i := 128) (by decide +kernel)
set_option maxRecDepth 20000 in
theorem wm9 : Cond.classLink RX4 19 RX1 ∈ lw_tbl := List.mem_of_getElem? (i := 63) (by decide +kernel)
set_option maxRecDepth 20000 in
theorem wm10 : Cond.instantiable RX1 4 ∈ lw_tbl := List.mem_of_getElem? (i := 64) (by decide +kernel)
set_option maxRecDepth 20000 in
theorem wm11 : Cond.initialized RX1 ∈ lw_tbl := List.mem_of_getElem? (i := 16) (by decide +kernel)
set_option maxRecDepth 20000 in
theorem wm12 : Cond.fieldLink RX4 22 "ThirdVotes" "receiver" "LThirdVotes$Receiver;" ∈ lw_tbl := List.mem_of_getElem? (i := 129) (by decide +kernel)
set_option maxRecDepth 20000 in
theorem wm13 : Cond.classLink RX4 26 RX3 ∈ lw_tbl := List.mem_of_getElem? (i := 84) (by decide +kernel)
set_option maxRecDepth 20000 in
theorem wm14 : Cond.instantiable RX3 5 ∈ lw_tbl := List.mem_of_getElem? (i := 85) (by decide +kernel)
set_option maxRecDepth 20000 in
theorem wm15 : Cond.initialized RX3 ∈ lw_tbl := List.mem_of_getElem? (i := 17) (by decide +kernel)
set_option maxRecDepth 20000 in
theorem wm16 : Cond.fieldLink RX4 29 "ThirdVotes" "text" "LThirdVotes$Text;" ∈ lw_tbl := List.mem_of_getElem? (i := 130) (by decide +kernel)
set_option maxRecDepth 20000 in
theorem wm17 : Cond.classLink RX4 33 RX0 ∈ lw_tbl := List.mem_of_getElem? (i := 106) (by decide +kernel)
set_option maxRecDepth 20000 in
theorem wm18 : Cond.instantiable RX0 4 ∈ lw_tbl := List.mem_of_getElem? (i := 107) (by decide +kernel)
set_option maxRecDepth 20000 in
theorem wm19 : Cond.initialized RX0 ∈ lw_tbl := List.mem_of_getElem? (i := 18) (by decide +kernel)
set_option maxRecDepth 20000 in
theorem wm20 : Cond.fieldLink RX4 36 "ThirdVotes" "history" "LThirdVotes$History;" ∈ lw_tbl := List.mem_of_getElem? (i := 131) (by decide +kernel)
set_option maxRecDepth 20000 in
theorem wm21 : Cond.methodLink RX4 11 yX2_init ∈ lw_tbl := List.mem_of_getElem? (i := 32) (by decide +kernel)
set_option maxRecDepth 20000 in
theorem wm22 : Cond.instanceMethod yX2_init ∈ lw_tbl := List.mem_of_getElem? (i := 33) (by decide +kernel)
set_option maxRecDepth 20000 in
theorem wm23 : Cond.code yX2_init cX2_init 1 none ∈ lw_tbl := List.mem_of_getElem? (i := 34) (by decide +kernel)
set_option maxRecDepth 20000 in
theorem wm24 : Cond.methodLink RX2 5 objectInit ∈ lw_tbl := List.mem_of_getElem? (i := 35) (by decide +kernel)
set_option maxRecDepth 20000 in
theorem wm25 : Cond.arrayClass .long ∈ lw_tbl := List.mem_of_getElem? (i := 61) (by decide +kernel)
set_option maxRecDepth 20000 in
theorem wm26 : Cond.fieldLink RX2 11 "ThirdVotes$State" "levels" "[J" ∈ lw_tbl := List.mem_of_getElem? (i := 45) (by decide +kernel)
set_option maxRecDepth 20000 in
theorem wm27 : Cond.arrayClass .int ∈ lw_tbl := List.mem_of_getElem? (i := 62) (by decide +kernel)
set_option maxRecDepth 20000 in
theorem wm28 : Cond.fieldLink RX2 15 "ThirdVotes$State" "words" "[I" ∈ lw_tbl := List.mem_of_getElem? (i := 46) (by decide +kernel)
set_option maxRecDepth 20000 in
theorem wm29 : Cond.fieldLink RX2 19 "ThirdVotes$State" "settings" "[I" ∈ lw_tbl := List.mem_of_getElem? (i := 47) (by decide +kernel)
set_option maxRecDepth 20000 in
theorem wm30 : Cond.constantLong RX2 22 (-1) ∈ lw_tbl := List.mem_of_getElem? (i := 36) (by decide +kernel)
set_option maxRecDepth 20000 in
theorem wm31 : Cond.methodLink RX2 33 arraycopyName ∈ lw_tbl := List.mem_of_getElem? (i := 42) (by decide +kernel)
set_option maxRecDepth 20000 in
theorem wm32 : Cond.native arraycopyName ∈ lw_tbl := List.mem_of_getElem? (i := 44) (by decide +kernel)
set_option maxRecDepth 20000 in
theorem wm33 : Cond.static arraycopyName ∈ lw_tbl := List.mem_of_getElem? (i := 43) (by decide +kernel)
set_option maxRecDepth 20000 in
theorem wm34 : Cond.initialized "java/lang/System" ∈ lw_tbl := List.mem_of_getElem? (i := 15) (by decide +kernel)
set_option maxRecDepth 20000 in
theorem wm35 : Cond.methodLink RX2 24 yJ7_fill_d0a16 ∈ lw_tbl := List.mem_of_getElem? (i := 37) (by decide +kernel)
set_option maxRecDepth 20000 in
theorem wm36 : Cond.static yJ7_fill_d0a16 ∈ lw_tbl := List.mem_of_getElem? (i := 38) (by decide +kernel)
set_option maxRecDepth 20000 in
theorem wm37 : Cond.initialized RJ7 ∈ lw_tbl := List.mem_of_getElem? (i := 14) (by decide +kernel)
set_option maxRecDepth 20000 in
theorem wm38 : Cond.code yJ7_fill_d0a16 cJ7_fill_d0a16 5 none ∈ lw_tbl := List.mem_of_getElem? (i := 39) (by decide +kernel)
set_option maxRecDepth 20000 in
theorem wm39 : Cond.methodLink RX4 21 yX1_init ∈ lw_tbl := List.mem_of_getElem? (i := 65) (by decide +kernel)
set_option maxRecDepth 20000 in
theorem wm40 : Cond.instanceMethod yX1_init ∈ lw_tbl := List.mem_of_getElem? (i := 66) (by decide +kernel)
set_option maxRecDepth 20000 in
theorem wm41 : Cond.code yX1_init cX1_init 1 none ∈ lw_tbl := List.mem_of_getElem? (i := 67) (by decide +kernel)
set_option maxRecDepth 20000 in
theorem wm42 : Cond.methodLink RX1 3 objectInit ∈ lw_tbl := List.mem_of_getElem? (i := 68) (by decide +kernel)
set_option maxRecDepth 20000 in
theorem wm43 : Cond.classLink RX1 11 "[[I" ∈ lw_tbl := List.mem_of_getElem? (i := 69) (by decide +kernel)
set_option maxRecDepth 20000 in
theorem wm44 : Cond.fieldLink RX1 13 "ThirdVotes$Receiver" "notes" "[[I" ∈ lw_tbl := List.mem_of_getElem? (i := 71) (by decide +kernel)
set_option maxRecDepth 20000 in
theorem wm45 : Cond.methodLink RX4 28 yX3_init ∈ lw_tbl := List.mem_of_getElem? (i := 86) (by decide +kernel)
set_option maxRecDepth 20000 in
theorem wm46 : Cond.instanceMethod yX3_init ∈ lw_tbl := List.mem_of_getElem? (i := 87) (by decide +kernel)
set_option maxRecDepth 20000 in
theorem wm47 : Cond.code yX3_init cX3_init 1 none ∈ lw_tbl := List.mem_of_getElem? (i := 88) (by decide +kernel)
set_option maxRecDepth 20000 in
theorem wm48 : Cond.methodLink RX3 5 objectInit ∈ lw_tbl := List.mem_of_getElem? (i := 89) (by decide +kernel)
set_option maxRecDepth 20000 in
theorem wm49 : Cond.arrayClass .char ∈ lw_tbl := List.mem_of_getElem? (i := 105) (by decide +kernel)
set_option maxRecDepth 20000 in
theorem wm50 : Cond.fieldLink RX3 11 "ThirdVotes$Text" "characters" "[C" ∈ lw_tbl := List.mem_of_getElem? (i := 90) (by decide +kernel)
set_option maxRecDepth 20000 in
theorem wm51 : Cond.fieldLink RX3 15 "ThirdVotes$Text" "repeatFrom" "[I" ∈ lw_tbl := List.mem_of_getElem? (i := 91) (by decide +kernel)
set_option maxRecDepth 20000 in
theorem wm52 : Cond.fieldLink RX3 19 "ThirdVotes$Text" "repeatsLeft" "[I" ∈ lw_tbl := List.mem_of_getElem? (i := 92) (by decide +kernel)
set_option maxRecDepth 20000 in
theorem wm53 : Cond.methodLink RX4 35 yX0_init ∈ lw_tbl := List.mem_of_getElem? (i := 108) (by decide +kernel)
set_option maxRecDepth 20000 in
theorem wm54 : Cond.instanceMethod yX0_init ∈ lw_tbl := List.mem_of_getElem? (i := 109) (by decide +kernel)
set_option maxRecDepth 20000 in
theorem wm55 : Cond.code yX0_init cX0_init 2 none ∈ lw_tbl := List.mem_of_getElem? (i := 110) (by decide +kernel)
set_option maxRecDepth 20000 in
theorem wm56 : Cond.methodLink RX0 1 objectInit ∈ lw_tbl := List.mem_of_getElem? (i := 111) (by decide +kernel)
set_option maxRecDepth 20000 in
theorem wm57 : Cond.classLink RX0 9 RX2 ∈ lw_tbl := List.mem_of_getElem? (i := 112) (by decide +kernel)
set_option maxRecDepth 20000 in
theorem wm58 : Cond.fieldLink RX0 11 "ThirdVotes$History" "states" "[LThirdVotes$State;" ∈ lw_tbl := List.mem_of_getElem? (i := 115) (by decide +kernel)
set_option maxRecDepth 20000 in
theorem wm59 : Cond.fieldLink RX0 16 "ThirdVotes$History" "snapshot" "LThirdVotes$State;" ∈ lw_tbl := List.mem_of_getElem? (i := 116) (by decide +kernel)
set_option maxRecDepth 20000 in
theorem wm60 : Cond.methodLink RX0 15 yX2_init ∈ lw_tbl := List.mem_of_getElem? (i := 114) (by decide +kernel)
set_option maxRecDepth 20000 in
theorem wm61 : Cond.code yX4_undo cX4_undo 1 (some .int) ∈ lw_tbl := List.mem_of_getElem? (i := 146) (by decide +kernel)
set_option maxRecDepth 20000 in
theorem wm62 : Cond.methodLink RX4 112 yX0_takeBack ∈ lw_tbl := List.mem_of_getElem? (i := 147) (by decide +kernel)
set_option maxRecDepth 20000 in
theorem wm63 : Cond.instanceMethod yX0_takeBack ∈ lw_tbl := List.mem_of_getElem? (i := 148) (by decide +kernel)
set_option maxRecDepth 20000 in
theorem wm64 : Cond.selects RX0 yX0_takeBack yX0_takeBack ∈ lw_tbl := List.mem_of_getElem? (i := 149) (by decide +kernel)
set_option maxRecDepth 20000 in
theorem wm65 : Cond.code yX0_takeBack cX0_takeBack 2 (some .boolean) ∈ lw_tbl := List.mem_of_getElem? (i := 150) (by decide +kernel)
set_option maxRecDepth 20000 in
theorem wm66 : Cond.fieldLink RX0 20 "ThirdVotes$History" "size" "I" ∈ lw_tbl := List.mem_of_getElem? (i := 117) (by decide +kernel)
set_option maxRecDepth 20000 in
theorem wm67 : Cond.methodLink RX0 31 yX2_copyFrom ∈ lw_tbl := List.mem_of_getElem? (i := 151) (by decide +kernel)
set_option maxRecDepth 20000 in
theorem wm68 : Cond.instanceMethod yX2_copyFrom ∈ lw_tbl := List.mem_of_getElem? (i := 152) (by decide +kernel)
set_option maxRecDepth 20000 in
theorem wm69 : Cond.selects RX2 yX2_copyFrom yX2_copyFrom ∈ lw_tbl := List.mem_of_getElem? (i := 153) (by decide +kernel)
set_option maxRecDepth 20000 in
theorem wm70 : Cond.code yX2_copyFrom cX2_copyFrom 2 none ∈ lw_tbl := List.mem_of_getElem? (i := 154) (by decide +kernel)
set_option maxRecDepth 20000 in
theorem wm71 : Cond.fieldLink RX2 39 "ThirdVotes$State" "end" "I" ∈ lw_tbl := List.mem_of_getElem? (i := 48) (by decide +kernel)
set_option maxRecDepth 20000 in
theorem wm72 : Cond.fieldLink RX2 43 "ThirdVotes$State" "wordCount" "I" ∈ lw_tbl := List.mem_of_getElem? (i := 49) (by decide +kernel)
set_option maxRecDepth 20000 in
theorem wm73 : Cond.methodLink RX4 115 yX0_size ∈ lw_tbl := List.mem_of_getElem? (i := 155) (by decide +kernel)
set_option maxRecDepth 20000 in
theorem wm74 : Cond.instanceMethod yX0_size ∈ lw_tbl := List.mem_of_getElem? (i := 156) (by decide +kernel)
set_option maxRecDepth 20000 in
theorem wm75 : Cond.selects RX0 yX0_size yX0_size ∈ lw_tbl := List.mem_of_getElem? (i := 157) (by decide +kernel)
set_option maxRecDepth 20000 in
theorem wm76 : Cond.code yX0_size cX0_size 1 (some .int) ∈ lw_tbl := List.mem_of_getElem? (i := 158) (by decide +kernel)
set_option maxRecDepth 20000 in
theorem wm77 : Cond.code yL_cell cL_cell 2 (some .int) ∈ lw_tbl := List.mem_of_getElem? (i := 161) (by decide +kernel)
set_option maxRecDepth 20000 in
theorem wm78 : Cond.constant RL 7 (39733) ∈ lw_tbl := List.mem_of_getElem? (i := 162) (by decide +kernel)
set_option maxRecDepth 20000 in
theorem wm79 : Cond.constant RL 8 (1993623) ∈ lw_tbl := List.mem_of_getElem? (i := 163) (by decide +kernel)
set_option maxRecDepth 20000 in
theorem wm80 : Cond.code yL_low cL_low 2 (some .int) ∈ lw_tbl := List.mem_of_getElem? (i := 166) (by decide +kernel)
set_option maxRecDepth 20000 in
theorem wm81 : Cond.constant RL 9 (2147483647) ∈ lw_tbl := List.mem_of_getElem? (i := 167) (by decide +kernel)
set_option maxRecDepth 20000 in
theorem wm82 : Cond.code yL_told cL_told 4 (some .long) ∈ lw_tbl := List.mem_of_getElem? (i := 450) (by decide +kernel)
set_option maxRecDepth 20000 in
theorem wm83 : Cond.constantLong RL 90 (79) ∈ lw_tbl := List.mem_of_getElem? (i := 451) (by decide +kernel)
set_option maxRecDepth 20000 in
theorem wm84 : Cond.constantLong RL 92 (31) ∈ lw_tbl := List.mem_of_getElem? (i := 452) (by decide +kernel)
set_option maxRecDepth 20000 in
theorem wm85 : Cond.constantLong RL 94 (3) ∈ lw_tbl := List.mem_of_getElem? (i := 453) (by decide +kernel)
set_option maxRecDepth 20000 in
theorem wm86 : Cond.methodLink RL 43 yX4_total ∈ lw_tbl := List.mem_of_getElem? (i := 183) (by decide +kernel)
set_option maxRecDepth 20000 in
theorem wm87 : Cond.instanceMethod yX4_total ∈ lw_tbl := List.mem_of_getElem? (i := 184) (by decide +kernel)
set_option maxRecDepth 20000 in
theorem wm88 : Cond.selects RX4 yX4_total yX4_total ∈ lw_tbl := List.mem_of_getElem? (i := 185) (by decide +kernel)
set_option maxRecDepth 20000 in
theorem wm89 : Cond.initialized RX4 ∈ lw_tbl := List.mem_of_getElem? (i := 12) (by decide +kernel)
set_option maxRecDepth 20000 in
theorem wm90 : Cond.code yX4_total cX4_total 2 (some .int) ∈ lw_tbl := List.mem_of_getElem? (i := 186) (by decide +kernel)
set_option maxRecDepth 20000 in
theorem wm91 : Cond.methodLink RX4 81 yX2_setting ∈ lw_tbl := List.mem_of_getElem? (i := 187) (by decide +kernel)
set_option maxRecDepth 20000 in
theorem wm92 : Cond.instanceMethod yX2_setting ∈ lw_tbl := List.mem_of_getElem? (i := 188) (by decide +kernel)
set_option maxRecDepth 20000 in
theorem wm93 : Cond.selects RX2 yX2_setting yX2_setting ∈ lw_tbl := List.mem_of_getElem? (i := 189) (by decide +kernel)
set_option maxRecDepth 20000 in
theorem wm94 : Cond.code yX2_setting cX2_setting 2 (some .int) ∈ lw_tbl := List.mem_of_getElem? (i := 190) (by decide +kernel)
set_option maxRecDepth 20000 in
theorem wm95 : Cond.methodLink RX4 58 yX2_end ∈ lw_tbl := List.mem_of_getElem? (i := 191) (by decide +kernel)
set_option maxRecDepth 20000 in
theorem wm96 : Cond.instanceMethod yX2_end ∈ lw_tbl := List.mem_of_getElem? (i := 192) (by decide +kernel)
set_option maxRecDepth 20000 in
theorem wm97 : Cond.selects RX2 yX2_end yX2_end ∈ lw_tbl := List.mem_of_getElem? (i := 193) (by decide +kernel)
set_option maxRecDepth 20000 in
theorem wm98 : Cond.code yX2_end cX2_end 1 (some .int) ∈ lw_tbl := List.mem_of_getElem? (i := 194) (by decide +kernel)
set_option maxRecDepth 20000 in
theorem wm99 : Cond.methodLink RX4 144 yX2_wordCount ∈ lw_tbl := List.mem_of_getElem? (i := 195) (by decide +kernel)
set_option maxRecDepth 20000 in
theorem wm100 : Cond.instanceMethod yX2_wordCount ∈ lw_tbl := List.mem_of_getElem? (i := 196) (by decide +kernel)
set_option maxRecDepth 20000 in
theorem wm101 : Cond.selects RX2 yX2_wordCount yX2_wordCount ∈ lw_tbl := List.mem_of_getElem? (i := 197) (by decide +kernel)
set_option maxRecDepth 20000 in
theorem wm102 : Cond.code yX2_wordCount cX2_wordCount 1 (some .int) ∈ lw_tbl := List.mem_of_getElem? (i := 198) (by decide +kernel)
set_option maxRecDepth 20000 in
theorem wm103 : Cond.methodLink RX4 147 yX2_countFalls ∈ lw_tbl := List.mem_of_getElem? (i := 199) (by decide +kernel)
set_option maxRecDepth 20000 in
theorem wm104 : Cond.instanceMethod yX2_countFalls ∈ lw_tbl := List.mem_of_getElem? (i := 200) (by decide +kernel)
set_option maxRecDepth 20000 in
theorem wm105 : Cond.selects RX2 yX2_countFalls yX2_countFalls ∈ lw_tbl := List.mem_of_getElem? (i := 201) (by decide +kernel)
set_option maxRecDepth 20000 in
theorem wm106 : Cond.code yX2_countFalls cX2_countFalls 3 (some .int) ∈ lw_tbl := List.mem_of_getElem? (i := 202) (by decide +kernel)
set_option maxRecDepth 20000 in
theorem wm107 : Cond.methodLink RX2 74 yX2_fallsIn ∈ lw_tbl := List.mem_of_getElem? (i := 203) (by decide +kernel)
set_option maxRecDepth 20000 in
theorem wm108 : Cond.instanceMethod yX2_fallsIn ∈ lw_tbl := List.mem_of_getElem? (i := 205) (by decide +kernel)
set_option maxRecDepth 20000 in
theorem wm109 : Cond.selects RX2 yX2_fallsIn yX2_fallsIn ∈ lw_tbl := List.mem_of_getElem? (i := 0) (by decide +kernel)
set_option maxRecDepth 20000 in
theorem wm110 : Cond.code yX2_fallsIn cX2_fallsIn 4 (some .long) ∈ lw_tbl := List.mem_of_getElem? (i := 206) (by decide +kernel)
set_option maxRecDepth 20000 in
theorem wm111 : Cond.methodLink RX2 78 yJ13_bitCount_95d88 ∈ lw_tbl := List.mem_of_getElem? (i := 207) (by decide +kernel)
set_option maxRecDepth 20000 in
theorem wm112 : Cond.static yJ13_bitCount_95d88 ∈ lw_tbl := List.mem_of_getElem? (i := 208) (by decide +kernel)
set_option maxRecDepth 20000 in
theorem wm113 : Cond.initialized RJ13 ∈ lw_tbl := List.mem_of_getElem? (i := 19) (by decide +kernel)
set_option maxRecDepth 20000 in
theorem wm114 : Cond.code yJ13_bitCount_95d88 cJ13_bitCount_95d88 2 (some .int) ∈ lw_tbl := List.mem_of_getElem? (i := 209) (by decide +kernel)
set_option maxRecDepth 20000 in
theorem wm115 : Cond.constantLong RJ13 314 (6148914691236517205) ∈ lw_tbl := List.mem_of_getElem? (i := 210) (by decide +kernel)
set_option maxRecDepth 20000 in
theorem wm116 : Cond.constantLong RJ13 316 (3689348814741910323) ∈ lw_tbl := List.mem_of_getElem? (i := 211) (by decide +kernel)
set_option maxRecDepth 20000 in
theorem wm117 : Cond.constantLong RJ13 318 (1085102592571150095) ∈ lw_tbl := List.mem_of_getElem? (i := 212) (by decide +kernel)
set_option maxRecDepth 20000 in
theorem wm118 : Cond.methodLink RX4 150 yX2_countLowTicks ∈ lw_tbl := List.mem_of_getElem? (i := 213) (by decide +kernel)
set_option maxRecDepth 20000 in
theorem wm119 : Cond.instanceMethod yX2_countLowTicks ∈ lw_tbl := List.mem_of_getElem? (i := 214) (by decide +kernel)
set_option maxRecDepth 20000 in
theorem wm120 : Cond.selects RX2 yX2_countLowTicks yX2_countLowTicks ∈ lw_tbl := List.mem_of_getElem? (i := 215) (by decide +kernel)
set_option maxRecDepth 20000 in
theorem wm121 : Cond.code yX2_countLowTicks cX2_countLowTicks 3 (some .int) ∈ lw_tbl := List.mem_of_getElem? (i := 216) (by decide +kernel)
set_option maxRecDepth 20000 in
theorem wm122 : Cond.methodLink RX4 89 yX2_learnedLength ∈ lw_tbl := List.mem_of_getElem? (i := 217) (by decide +kernel)
set_option maxRecDepth 20000 in
theorem wm123 : Cond.instanceMethod yX2_learnedLength ∈ lw_tbl := List.mem_of_getElem? (i := 218) (by decide +kernel)
set_option maxRecDepth 20000 in
theorem wm124 : Cond.selects RX2 yX2_learnedLength yX2_learnedLength ∈ lw_tbl := List.mem_of_getElem? (i := 219) (by decide +kernel)
set_option maxRecDepth 20000 in
theorem wm125 : Cond.code yX2_learnedLength cX2_learnedLength 4 (some .int) ∈ lw_tbl := List.mem_of_getElem? (i := 220) (by decide +kernel)
set_option maxRecDepth 20000 in
theorem wm126 : Cond.methodLink RX2 87 yX2_fallOfRank ∈ lw_tbl := List.mem_of_getElem? (i := 221) (by decide +kernel)
set_option maxRecDepth 20000 in
theorem wm127 : Cond.instanceMethod yX2_fallOfRank ∈ lw_tbl := List.mem_of_getElem? (i := 222) (by decide +kernel)
set_option maxRecDepth 20000 in
theorem wm128 : Cond.selects RX2 yX2_fallOfRank yX2_fallOfRank ∈ lw_tbl := List.mem_of_getElem? (i := 223) (by decide +kernel)
set_option maxRecDepth 20000 in
theorem wm129 : Cond.code yX2_fallOfRank cX2_fallOfRank 4 (some .int) ∈ lw_tbl := List.mem_of_getElem? (i := 224) (by decide +kernel)
set_option maxRecDepth 20000 in
theorem wm130 : Cond.methodLink RX2 84 yX2_nextFall ∈ lw_tbl := List.mem_of_getElem? (i := 225) (by decide +kernel)
set_option maxRecDepth 20000 in
theorem wm131 : Cond.instanceMethod yX2_nextFall ∈ lw_tbl := List.mem_of_getElem? (i := 226) (by decide +kernel)
set_option maxRecDepth 20000 in
theorem wm132 : Cond.selects RX2 yX2_nextFall yX2_nextFall ∈ lw_tbl := List.mem_of_getElem? (i := 227) (by decide +kernel)
set_option maxRecDepth 20000 in
theorem wm133 : Cond.code yX2_nextFall cX2_nextFall 9 (some .int) ∈ lw_tbl := List.mem_of_getElem? (i := 228) (by decide +kernel)
set_option maxRecDepth 20000 in
theorem wm134 : Cond.methodLink RX2 65 Lib.Math.max.name ∈ lw_tbl := List.mem_of_getElem? (i := 229) (by decide +kernel)
set_option maxRecDepth 20000 in
theorem wm135 : Cond.static Lib.Math.max.name ∈ lw_tbl := List.mem_of_getElem? (i := 230) (by decide +kernel)
set_option maxRecDepth 20000 in
theorem wm136 : Cond.initialized "java/lang/Math" ∈ lw_tbl := List.mem_of_getElem? (i := 20) (by decide +kernel)
set_option maxRecDepth 20000 in
theorem wm137 : Cond.code Lib.Math.max.name Lib.Math.max.code 2 (some .int) ∈ lw_tbl := List.mem_of_getElem? (i := 231) (by decide +kernel)
set_option maxRecDepth 20000 in
theorem wm138 : Cond.methodLink RX4 96 yX3_length ∈ lw_tbl := List.mem_of_getElem? (i := 232) (by decide +kernel)
set_option maxRecDepth 20000 in
theorem wm139 : Cond.instanceMethod yX3_length ∈ lw_tbl := List.mem_of_getElem? (i := 233) (by decide +kernel)
set_option maxRecDepth 20000 in
theorem wm140 : Cond.selects RX3 yX3_length yX3_length ∈ lw_tbl := List.mem_of_getElem? (i := 234) (by decide +kernel)
set_option maxRecDepth 20000 in
theorem wm141 : Cond.code yX3_length cX3_length 1 (some .int) ∈ lw_tbl := List.mem_of_getElem? (i := 235) (by decide +kernel)
set_option maxRecDepth 20000 in
theorem wm142 : Cond.fieldLink RX3 22 "ThirdVotes$Text" "length" "I" ∈ lw_tbl := List.mem_of_getElem? (i := 93) (by decide +kernel)
set_option maxRecDepth 20000 in
theorem wm143 : Cond.methodLink RX4 153 yX4_totalReceived ∈ lw_tbl := List.mem_of_getElem? (i := 236) (by decide +kernel)
set_option maxRecDepth 20000 in
theorem wm144 : Cond.instanceMethod yX4_totalReceived ∈ lw_tbl := List.mem_of_getElem? (i := 238) (by decide +kernel)
set_option maxRecDepth 20000 in
theorem wm145 : Cond.selects RX4 yX4_totalReceived yX4_totalReceived ∈ lw_tbl := List.mem_of_getElem? (i := 1) (by decide +kernel)
set_option maxRecDepth 20000 in
theorem wm146 : Cond.code yX4_totalReceived cX4_totalReceived 2 (some .int) ∈ lw_tbl := List.mem_of_getElem? (i := 239) (by decide +kernel)
set_option maxRecDepth 20000 in
theorem wm147 : Cond.methodLink RX4 137 yX1_receive ∈ lw_tbl := List.mem_of_getElem? (i := 240) (by decide +kernel)
set_option maxRecDepth 20000 in
theorem wm148 : Cond.instanceMethod yX1_receive ∈ lw_tbl := List.mem_of_getElem? (i := 241) (by decide +kernel)
set_option maxRecDepth 20000 in
theorem wm149 : Cond.selects RX1 yX1_receive yX1_receive ∈ lw_tbl := List.mem_of_getElem? (i := 242) (by decide +kernel)
set_option maxRecDepth 20000 in
theorem wm150 : Cond.code yX1_receive cX1_receive 5 none ∈ lw_tbl := List.mem_of_getElem? (i := 243) (by decide +kernel)
set_option maxRecDepth 20000 in
theorem wm151 : Cond.fieldLink RX1 16 "ThirdVotes$Receiver" "count" "I" ∈ lw_tbl := List.mem_of_getElem? (i := 72) (by decide +kernel)
set_option maxRecDepth 20000 in
theorem wm152 : Cond.fieldLink RX1 20 "ThirdVotes$Receiver" "falseStarts" "I" ∈ lw_tbl := List.mem_of_getElem? (i := 73) (by decide +kernel)
set_option maxRecDepth 20000 in
theorem wm153 : Cond.methodLink RX1 23 yX2_nextFall ∈ lw_tbl := List.mem_of_getElem? (i := 244) (by decide +kernel)
set_option maxRecDepth 20000 in
theorem wm154 : Cond.methodLink RX1 29 yX2_end ∈ lw_tbl := List.mem_of_getElem? (i := 245) (by decide +kernel)
set_option maxRecDepth 20000 in
theorem wm155 : Cond.methodLink RX1 33 yX1_tellFrom ∈ lw_tbl := List.mem_of_getElem? (i := 246) (by decide +kernel)
set_option maxRecDepth 20000 in
theorem wm156 : Cond.instanceMethod yX1_tellFrom ∈ lw_tbl := List.mem_of_getElem? (i := 248) (by decide +kernel)
set_option maxRecDepth 20000 in
theorem wm157 : Cond.selects RX1 yX1_tellFrom yX1_tellFrom ∈ lw_tbl := List.mem_of_getElem? (i := 2) (by decide +kernel)
set_option maxRecDepth 20000 in
theorem wm158 : Cond.code yX1_tellFrom cX1_tellFrom 8 (some .int) ∈ lw_tbl := List.mem_of_getElem? (i := 249) (by decide +kernel)
set_option maxRecDepth 20000 in
theorem wm159 : Cond.fieldLink RX1 51 "ThirdVotes$Receiver" "doubtfulBits" "I" ∈ lw_tbl := List.mem_of_getElem? (i := 74) (by decide +kernel)
set_option maxRecDepth 20000 in
theorem wm160 : Cond.methodLink RX1 54 yX1_tellBit ∈ lw_tbl := List.mem_of_getElem? (i := 250) (by decide +kernel)
set_option maxRecDepth 20000 in
theorem wm161 : Cond.instanceMethod yX1_tellBit ∈ lw_tbl := List.mem_of_getElem? (i := 252) (by decide +kernel)
set_option maxRecDepth 20000 in
theorem wm162 : Cond.selects RX1 yX1_tellBit yX1_tellBit ∈ lw_tbl := List.mem_of_getElem? (i := 3) (by decide +kernel)
set_option maxRecDepth 20000 in
theorem wm163 : Cond.code yX1_tellBit cX1_tellBit 6 (some .int) ∈ lw_tbl := List.mem_of_getElem? (i := 253) (by decide +kernel)
set_option maxRecDepth 20000 in
theorem wm164 : Cond.methodLink RX1 74 yX2_levelAt ∈ lw_tbl := List.mem_of_getElem? (i := 254) (by decide +kernel)
set_option maxRecDepth 20000 in
theorem wm165 : Cond.instanceMethod yX2_levelAt ∈ lw_tbl := List.mem_of_getElem? (i := 255) (by decide +kernel)
set_option maxRecDepth 20000 in
theorem wm166 : Cond.selects RX2 yX2_levelAt yX2_levelAt ∈ lw_tbl := List.mem_of_getElem? (i := 256) (by decide +kernel)
set_option maxRecDepth 20000 in
theorem wm167 : Cond.code yX2_levelAt cX2_levelAt 2 (some .int) ∈ lw_tbl := List.mem_of_getElem? (i := 257) (by decide +kernel)
set_option maxRecDepth 20000 in
theorem wm168 : Cond.methodLink RX1 57 yX1_thirdLook ∈ lw_tbl := List.mem_of_getElem? (i := 258) (by decide +kernel)
set_option maxRecDepth 20000 in
theorem wm169 : Cond.static yX1_thirdLook ∈ lw_tbl := List.mem_of_getElem? (i := 259) (by decide +kernel)
set_option maxRecDepth 20000 in
theorem wm170 : Cond.code yX1_thirdLook cX1_thirdLook 2 (some .int) ∈ lw_tbl := List.mem_of_getElem? (i := 260) (by decide +kernel)
set_option maxRecDepth 20000 in
theorem wm171 : Cond.methodLink RX1 60 yX2_setting ∈ lw_tbl := List.mem_of_getElem? (i := 261) (by decide +kernel)
set_option maxRecDepth 20000 in
theorem wm172 : Cond.methodLink RX1 63 yX1_kindOf ∈ lw_tbl := List.mem_of_getElem? (i := 262) (by decide +kernel)
set_option maxRecDepth 20000 in
theorem wm173 : Cond.static yX1_kindOf ∈ lw_tbl := List.mem_of_getElem? (i := 263) (by decide +kernel)
set_option maxRecDepth 20000 in
theorem wm174 : Cond.code yX1_kindOf cX1_kindOf 3 (some .int) ∈ lw_tbl := List.mem_of_getElem? (i := 264) (by decide +kernel)
set_option maxRecDepth 20000 in
theorem wm175 : Cond.methodLink RX1 67 yX1_wordIn ∈ lw_tbl := List.mem_of_getElem? (i := 265) (by decide +kernel)
set_option maxRecDepth 20000 in
theorem wm176 : Cond.static yX1_wordIn ∈ lw_tbl := List.mem_of_getElem? (i := 266) (by decide +kernel)
set_option maxRecDepth 20000 in
theorem wm177 : Cond.code yX1_wordIn cX1_wordIn 1 (some .int) ∈ lw_tbl := List.mem_of_getElem? (i := 267) (by decide +kernel)
set_option maxRecDepth 20000 in
theorem wm178 : Cond.static yX4_parityOf ∈ lw_tbl := List.mem_of_getElem? (i := 269) (by decide +kernel)
set_option maxRecDepth 20000 in
theorem wm179 : Cond.code yX4_parityOf cX4_parityOf 3 (some .int) ∈ lw_tbl := List.mem_of_getElem? (i := 270) (by decide +kernel)
set_option maxRecDepth 20000 in
theorem wm180 : Cond.methodLink RX4 175 yJ6_bitCount_0f7a4 ∈ lw_tbl := List.mem_of_getElem? (i := 271) (by decide +kernel)
set_option maxRecDepth 20000 in
theorem wm181 : Cond.static yJ6_bitCount_0f7a4 ∈ lw_tbl := List.mem_of_getElem? (i := 272) (by decide +kernel)
set_option maxRecDepth 20000 in
theorem wm182 : Cond.initialized RJ6 ∈ lw_tbl := List.mem_of_getElem? (i := 21) (by decide +kernel)
set_option maxRecDepth 20000 in
theorem wm183 : Cond.code yJ6_bitCount_0f7a4 cJ6_bitCount_0f7a4 1 (some .int) ∈ lw_tbl := List.mem_of_getElem? (i := 273) (by decide +kernel)
set_option maxRecDepth 20000 in
theorem wm184 : Cond.constant RJ6 265 (1431655765) ∈ lw_tbl := List.mem_of_getElem? (i := 274) (by decide +kernel)
set_option maxRecDepth 20000 in
theorem wm185 : Cond.constant RJ6 266 (858993459) ∈ lw_tbl := List.mem_of_getElem? (i := 275) (by decide +kernel)
set_option maxRecDepth 20000 in
theorem wm186 : Cond.constant RJ6 267 (252645135) ∈ lw_tbl := List.mem_of_getElem? (i := 276) (by decide +kernel)
set_option maxRecDepth 20000 in
theorem wm187 : Cond.methodLink RX1 70 yX1_add ∈ lw_tbl := List.mem_of_getElem? (i := 277) (by decide +kernel)
set_option maxRecDepth 20000 in
theorem wm188 : Cond.instanceMethod yX1_add ∈ lw_tbl := List.mem_of_getElem? (i := 279) (by decide +kernel)
set_option maxRecDepth 20000 in
theorem wm189 : Cond.selects RX1 yX1_add yX1_add ∈ lw_tbl := List.mem_of_getElem? (i := 4) (by decide +kernel)

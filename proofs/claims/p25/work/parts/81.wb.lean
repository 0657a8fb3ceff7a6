/-! THE LAW: its words among the tables, by their places -/
set_option maxRecDepth 20000 in
theorem wm190 : Cond.code yX1_add cX1_add 5 none ∈ lw_tbl := List.mem_of_getElem? (i := 280) (by decide +kernel)
set_option maxRecDepth 20000 in
theorem wm191 : Cond.methodLink RX4 156 yX1_count ∈ lw_tbl := List.mem_of_getElem? (i := 281) (by decide +kernel)
set_option maxRecDepth 20000 in
theorem wm192 : Cond.instanceMethod yX1_count ∈ lw_tbl := List.mem_of_getElem? (i := 282) (by decide +kernel)
set_option maxRecDepth 20000 in
theorem wm193 : Cond.selects RX1 yX1_count yX1_count ∈ lw_tbl := List.mem_of_getElem? (i := 283) (by decide +kernel)
set_option maxRecDepth 20000 in
theorem wm194 : Cond.code yX1_count cX1_count 1 (some .int) ∈ lw_tbl := List.mem_of_getElem? (i := 284) (by decide +kernel)
set_option maxRecDepth 20000 in
theorem wm195 : Cond.methodLink RX4 159 yX1_countKind ∈ lw_tbl := List.mem_of_getElem? (i := 285) (by decide +kernel)
set_option maxRecDepth 20000 in
theorem wm196 : Cond.instanceMethod yX1_countKind ∈ lw_tbl := List.mem_of_getElem? (i := 286) (by decide +kernel)
set_option maxRecDepth 20000 in
theorem wm197 : Cond.selects RX1 yX1_countKind yX1_countKind ∈ lw_tbl := List.mem_of_getElem? (i := 287) (by decide +kernel)
set_option maxRecDepth 20000 in
theorem wm198 : Cond.code yX1_countKind cX1_countKind 4 (some .int) ∈ lw_tbl := List.mem_of_getElem? (i := 288) (by decide +kernel)
set_option maxRecDepth 20000 in
theorem wm199 : Cond.methodLink RX1 37 yX1_note ∈ lw_tbl := List.mem_of_getElem? (i := 289) (by decide +kernel)
set_option maxRecDepth 20000 in
theorem wm200 : Cond.instanceMethod yX1_note ∈ lw_tbl := List.mem_of_getElem? (i := 290) (by decide +kernel)
set_option maxRecDepth 20000 in
theorem wm201 : Cond.selects RX1 yX1_note yX1_note ∈ lw_tbl := List.mem_of_getElem? (i := 291) (by decide +kernel)
set_option maxRecDepth 20000 in
theorem wm202 : Cond.code yX1_note cX1_note 3 (some .int) ∈ lw_tbl := List.mem_of_getElem? (i := 292) (by decide +kernel)
set_option maxRecDepth 20000 in
theorem wm203 : Cond.methodLink RX4 184 yX1_falseStarts ∈ lw_tbl := List.mem_of_getElem? (i := 293) (by decide +kernel)
set_option maxRecDepth 20000 in
theorem wm204 : Cond.instanceMethod yX1_falseStarts ∈ lw_tbl := List.mem_of_getElem? (i := 294) (by decide +kernel)
set_option maxRecDepth 20000 in
theorem wm205 : Cond.selects RX1 yX1_falseStarts yX1_falseStarts ∈ lw_tbl := List.mem_of_getElem? (i := 295) (by decide +kernel)
set_option maxRecDepth 20000 in
theorem wm206 : Cond.code yX1_falseStarts cX1_falseStarts 1 (some .int) ∈ lw_tbl := List.mem_of_getElem? (i := 296) (by decide +kernel)
set_option maxRecDepth 20000 in
theorem wm207 : Cond.methodLink RX4 162 yX1_countDoubtful ∈ lw_tbl := List.mem_of_getElem? (i := 297) (by decide +kernel)
set_option maxRecDepth 20000 in
theorem wm208 : Cond.instanceMethod yX1_countDoubtful ∈ lw_tbl := List.mem_of_getElem? (i := 298) (by decide +kernel)
set_option maxRecDepth 20000 in
theorem wm209 : Cond.selects RX1 yX1_countDoubtful yX1_countDoubtful ∈ lw_tbl := List.mem_of_getElem? (i := 299) (by decide +kernel)
set_option maxRecDepth 20000 in
theorem wm210 : Cond.code yX1_countDoubtful cX1_countDoubtful 3 (some .int) ∈ lw_tbl := List.mem_of_getElem? (i := 300) (by decide +kernel)
set_option maxRecDepth 20000 in
theorem wm211 : Cond.methodLink RX4 165 yX1_isAllWell ∈ lw_tbl := List.mem_of_getElem? (i := 301) (by decide +kernel)
set_option maxRecDepth 20000 in
theorem wm212 : Cond.instanceMethod yX1_isAllWell ∈ lw_tbl := List.mem_of_getElem? (i := 302) (by decide +kernel)
set_option maxRecDepth 20000 in
theorem wm213 : Cond.selects RX1 yX1_isAllWell yX1_isAllWell ∈ lw_tbl := List.mem_of_getElem? (i := 303) (by decide +kernel)
set_option maxRecDepth 20000 in
theorem wm214 : Cond.code yX1_isAllWell cX1_isAllWell 3 (some .boolean) ∈ lw_tbl := List.mem_of_getElem? (i := 304) (by decide +kernel)
set_option maxRecDepth 20000 in
theorem wm215 : Cond.methodLink RX1 45 yX2_wordCount ∈ lw_tbl := List.mem_of_getElem? (i := 305) (by decide +kernel)
set_option maxRecDepth 20000 in
theorem wm216 : Cond.methodLink RX1 48 yX2_wordOfRank ∈ lw_tbl := List.mem_of_getElem? (i := 306) (by decide +kernel)
set_option maxRecDepth 20000 in
theorem wm217 : Cond.instanceMethod yX2_wordOfRank ∈ lw_tbl := List.mem_of_getElem? (i := 307) (by decide +kernel)
set_option maxRecDepth 20000 in
theorem wm218 : Cond.selects RX2 yX2_wordOfRank yX2_wordOfRank ∈ lw_tbl := List.mem_of_getElem? (i := 308) (by decide +kernel)
set_option maxRecDepth 20000 in
theorem wm219 : Cond.code yX2_wordOfRank cX2_wordOfRank 2 (some .int) ∈ lw_tbl := List.mem_of_getElem? (i := 309) (by decide +kernel)
set_option maxRecDepth 20000 in
theorem wm220 : Cond.methodLink RX1 41 yX1_isGoodWord ∈ lw_tbl := List.mem_of_getElem? (i := 310) (by decide +kernel)
set_option maxRecDepth 20000 in
theorem wm221 : Cond.instanceMethod yX1_isGoodWord ∈ lw_tbl := List.mem_of_getElem? (i := 312) (by decide +kernel)
set_option maxRecDepth 20000 in
theorem wm222 : Cond.selects RX1 yX1_isGoodWord yX1_isGoodWord ∈ lw_tbl := List.mem_of_getElem? (i := 5) (by decide +kernel)
set_option maxRecDepth 20000 in
theorem wm223 : Cond.code yX1_isGoodWord cX1_isGoodWord 3 (some .boolean) ∈ lw_tbl := List.mem_of_getElem? (i := 313) (by decide +kernel)
set_option maxRecDepth 20000 in
theorem wm224 : Cond.methodLink RL 56 yX4_level ∈ lw_tbl := List.mem_of_getElem? (i := 322) (by decide +kernel)
set_option maxRecDepth 20000 in
theorem wm225 : Cond.instanceMethod yX4_level ∈ lw_tbl := List.mem_of_getElem? (i := 323) (by decide +kernel)
set_option maxRecDepth 20000 in
theorem wm226 : Cond.selects RX4 yX4_level yX4_level ∈ lw_tbl := List.mem_of_getElem? (i := 324) (by decide +kernel)
set_option maxRecDepth 20000 in
theorem wm227 : Cond.code yX4_level cX4_level 2 (some .int) ∈ lw_tbl := List.mem_of_getElem? (i := 325) (by decide +kernel)
set_option maxRecDepth 20000 in
theorem wm228 : Cond.methodLink RX4 128 yX2_levelAt ∈ lw_tbl := List.mem_of_getElem? (i := 326) (by decide +kernel)
set_option maxRecDepth 20000 in
theorem wm229 : Cond.code yL_call cL_call 4 (some .int) ∈ lw_tbl := List.mem_of_getElem? (i := 338) (by decide +kernel)
set_option maxRecDepth 20000 in
theorem wm230 : Cond.methodLink RL 64 yX4_send ∈ lw_tbl := List.mem_of_getElem? (i := 339) (by decide +kernel)
set_option maxRecDepth 20000 in
theorem wm231 : Cond.instanceMethod yX4_send ∈ lw_tbl := List.mem_of_getElem? (i := 340) (by decide +kernel)
set_option maxRecDepth 20000 in
theorem wm232 : Cond.selects RX4 yX4_send yX4_send ∈ lw_tbl := List.mem_of_getElem? (i := 341) (by decide +kernel)
set_option maxRecDepth 20000 in
theorem wm233 : Cond.code yX4_send cX4_send 2 (some .int) ∈ lw_tbl := List.mem_of_getElem? (i := 342) (by decide +kernel)
set_option maxRecDepth 20000 in
theorem wm234 : Cond.methodLink RX4 40 yX4_isWord ∈ lw_tbl := List.mem_of_getElem? (i := 343) (by decide +kernel)
set_option maxRecDepth 20000 in
theorem wm235 : Cond.static yX4_isWord ∈ lw_tbl := List.mem_of_getElem? (i := 344) (by decide +kernel)
set_option maxRecDepth 20000 in
theorem wm236 : Cond.code yX4_isWord cX4_isWord 1 (some .boolean) ∈ lw_tbl := List.mem_of_getElem? (i := 345) (by decide +kernel)
set_option maxRecDepth 20000 in
theorem wm237 : Cond.methodLink RX4 44 yX2_ticksOfWord ∈ lw_tbl := List.mem_of_getElem? (i := 346) (by decide +kernel)
set_option maxRecDepth 20000 in
theorem wm238 : Cond.instanceMethod yX2_ticksOfWord ∈ lw_tbl := List.mem_of_getElem? (i := 347) (by decide +kernel)
set_option maxRecDepth 20000 in
theorem wm239 : Cond.selects RX2 yX2_ticksOfWord yX2_ticksOfWord ∈ lw_tbl := List.mem_of_getElem? (i := 348) (by decide +kernel)
set_option maxRecDepth 20000 in
theorem wm240 : Cond.code yX2_ticksOfWord cX2_ticksOfWord 1 (some .int) ∈ lw_tbl := List.mem_of_getElem? (i := 349) (by decide +kernel)
set_option maxRecDepth 20000 in
theorem wm241 : Cond.methodLink RX2 46 yX2_bitsOfWord ∈ lw_tbl := List.mem_of_getElem? (i := 350) (by decide +kernel)
set_option maxRecDepth 20000 in
theorem wm242 : Cond.instanceMethod yX2_bitsOfWord ∈ lw_tbl := List.mem_of_getElem? (i := 352) (by decide +kernel)
set_option maxRecDepth 20000 in
theorem wm243 : Cond.selects RX2 yX2_bitsOfWord yX2_bitsOfWord ∈ lw_tbl := List.mem_of_getElem? (i := 6) (by decide +kernel)
set_option maxRecDepth 20000 in
theorem wm244 : Cond.code yX2_bitsOfWord cX2_bitsOfWord 2 (some .int) ∈ lw_tbl := List.mem_of_getElem? (i := 353) (by decide +kernel)
set_option maxRecDepth 20000 in
theorem wm245 : Cond.methodLink RX4 48 yX2_hasRoom ∈ lw_tbl := List.mem_of_getElem? (i := 354) (by decide +kernel)
set_option maxRecDepth 20000 in
theorem wm246 : Cond.instanceMethod yX2_hasRoom ∈ lw_tbl := List.mem_of_getElem? (i := 355) (by decide +kernel)
set_option maxRecDepth 20000 in
theorem wm247 : Cond.selects RX2 yX2_hasRoom yX2_hasRoom ∈ lw_tbl := List.mem_of_getElem? (i := 356) (by decide +kernel)
set_option maxRecDepth 20000 in
theorem wm248 : Cond.code yX2_hasRoom cX2_hasRoom 2 (some .boolean) ∈ lw_tbl := List.mem_of_getElem? (i := 357) (by decide +kernel)
set_option maxRecDepth 20000 in
theorem wm249 : Cond.methodLink RX4 51 yX0_remember ∈ lw_tbl := List.mem_of_getElem? (i := 358) (by decide +kernel)
set_option maxRecDepth 20000 in
theorem wm250 : Cond.instanceMethod yX0_remember ∈ lw_tbl := List.mem_of_getElem? (i := 359) (by decide +kernel)
set_option maxRecDepth 20000 in
theorem wm251 : Cond.selects RX0 yX0_remember yX0_remember ∈ lw_tbl := List.mem_of_getElem? (i := 360) (by decide +kernel)
set_option maxRecDepth 20000 in
theorem wm252 : Cond.code yX0_remember cX0_remember 2 none ∈ lw_tbl := List.mem_of_getElem? (i := 361) (by decide +kernel)
set_option maxRecDepth 20000 in
theorem wm253 : Cond.methodLink RX0 28 yX0_dropOldest ∈ lw_tbl := List.mem_of_getElem? (i := 362) (by decide +kernel)
set_option maxRecDepth 20000 in
theorem wm254 : Cond.instanceMethod yX0_dropOldest ∈ lw_tbl := List.mem_of_getElem? (i := 364) (by decide +kernel)
set_option maxRecDepth 20000 in
theorem wm255 : Cond.selects RX0 yX0_dropOldest yX0_dropOldest ∈ lw_tbl := List.mem_of_getElem? (i := 7) (by decide +kernel)
set_option maxRecDepth 20000 in
theorem wm256 : Cond.code yX0_dropOldest cX0_dropOldest 3 none ∈ lw_tbl := List.mem_of_getElem? (i := 365) (by decide +kernel)
set_option maxRecDepth 20000 in
theorem wm257 : Cond.methodLink RX4 55 yX2_addWord ∈ lw_tbl := List.mem_of_getElem? (i := 366) (by decide +kernel)
set_option maxRecDepth 20000 in
theorem wm258 : Cond.instanceMethod yX2_addWord ∈ lw_tbl := List.mem_of_getElem? (i := 367) (by decide +kernel)
set_option maxRecDepth 20000 in
theorem wm259 : Cond.selects RX2 yX2_addWord yX2_addWord ∈ lw_tbl := List.mem_of_getElem? (i := 368) (by decide +kernel)
set_option maxRecDepth 20000 in
theorem wm260 : Cond.code yX2_addWord cX2_addWord 7 (some .boolean) ∈ lw_tbl := List.mem_of_getElem? (i := 369) (by decide +kernel)
set_option maxRecDepth 20000 in
theorem wm261 : Cond.methodLink RX2 50 yX2_ticksOfWord ∈ lw_tbl := List.mem_of_getElem? (i := 370) (by decide +kernel)
set_option maxRecDepth 20000 in
theorem wm262 : Cond.methodLink RX2 53 yX2_hasRoom ∈ lw_tbl := List.mem_of_getElem? (i := 371) (by decide +kernel)
set_option maxRecDepth 20000 in
theorem wm263 : Cond.methodLink RX2 57 yX2_bitsOf ∈ lw_tbl := List.mem_of_getElem? (i := 372) (by decide +kernel)
set_option maxRecDepth 20000 in
theorem wm264 : Cond.instanceMethod yX2_bitsOf ∈ lw_tbl := List.mem_of_getElem? (i := 374) (by decide +kernel)
set_option maxRecDepth 20000 in
theorem wm265 : Cond.selects RX2 yX2_bitsOf yX2_bitsOf ∈ lw_tbl := List.mem_of_getElem? (i := 8) (by decide +kernel)
set_option maxRecDepth 20000 in
theorem wm266 : Cond.code yX2_bitsOf cX2_bitsOf 4 (some .int) ∈ lw_tbl := List.mem_of_getElem? (i := 375) (by decide +kernel)
set_option maxRecDepth 20000 in
theorem wm267 : Cond.methodLink RX2 61 yX2_putLow ∈ lw_tbl := List.mem_of_getElem? (i := 377) (by decide +kernel)
set_option maxRecDepth 20000 in
theorem wm268 : Cond.instanceMethod yX2_putLow ∈ lw_tbl := List.mem_of_getElem? (i := 379) (by decide +kernel)
set_option maxRecDepth 20000 in
theorem wm269 : Cond.selects RX2 yX2_putLow yX2_putLow ∈ lw_tbl := List.mem_of_getElem? (i := 9) (by decide +kernel)
set_option maxRecDepth 20000 in
theorem wm270 : Cond.code yX2_putLow cX2_putLow 4 none ∈ lw_tbl := List.mem_of_getElem? (i := 380) (by decide +kernel)
set_option maxRecDepth 20000 in
theorem wm271 : Cond.methodLink RL 67 yX4_pause ∈ lw_tbl := List.mem_of_getElem? (i := 381) (by decide +kernel)
set_option maxRecDepth 20000 in
theorem wm272 : Cond.instanceMethod yX4_pause ∈ lw_tbl := List.mem_of_getElem? (i := 382) (by decide +kernel)
set_option maxRecDepth 20000 in
theorem wm273 : Cond.selects RX4 yX4_pause yX4_pause ∈ lw_tbl := List.mem_of_getElem? (i := 383) (by decide +kernel)
set_option maxRecDepth 20000 in
theorem wm274 : Cond.code yX4_pause cX4_pause 2 (some .int) ∈ lw_tbl := List.mem_of_getElem? (i := 384) (by decide +kernel)
set_option maxRecDepth 20000 in
theorem wm275 : Cond.methodLink RX4 61 yX4_sendStretch ∈ lw_tbl := List.mem_of_getElem? (i := 385) (by decide +kernel)
set_option maxRecDepth 20000 in
theorem wm276 : Cond.instanceMethod yX4_sendStretch ∈ lw_tbl := List.mem_of_getElem? (i := 387) (by decide +kernel)
set_option maxRecDepth 20000 in
theorem wm277 : Cond.selects RX4 yX4_sendStretch yX4_sendStretch ∈ lw_tbl := List.mem_of_getElem? (i := 10) (by decide +kernel)
set_option maxRecDepth 20000 in
theorem wm278 : Cond.code yX4_sendStretch cX4_sendStretch 3 (some .int) ∈ lw_tbl := List.mem_of_getElem? (i := 388) (by decide +kernel)
set_option maxRecDepth 20000 in
theorem wm279 : Cond.methodLink RX4 180 yX2_addStretch ∈ lw_tbl := List.mem_of_getElem? (i := 389) (by decide +kernel)
set_option maxRecDepth 20000 in
theorem wm280 : Cond.instanceMethod yX2_addStretch ∈ lw_tbl := List.mem_of_getElem? (i := 390) (by decide +kernel)
set_option maxRecDepth 20000 in
theorem wm281 : Cond.selects RX2 yX2_addStretch yX2_addStretch ∈ lw_tbl := List.mem_of_getElem? (i := 391) (by decide +kernel)
set_option maxRecDepth 20000 in
theorem wm282 : Cond.code yX2_addStretch cX2_addStretch 3 (some .boolean) ∈ lw_tbl := List.mem_of_getElem? (i := 392) (by decide +kernel)
set_option maxRecDepth 20000 in
theorem wm283 : Cond.methodLink RL 70 yX4_sendBreak ∈ lw_tbl := List.mem_of_getElem? (i := 393) (by decide +kernel)
set_option maxRecDepth 20000 in
theorem wm284 : Cond.instanceMethod yX4_sendBreak ∈ lw_tbl := List.mem_of_getElem? (i := 394) (by decide +kernel)
set_option maxRecDepth 20000 in
theorem wm285 : Cond.selects RX4 yX4_sendBreak yX4_sendBreak ∈ lw_tbl := List.mem_of_getElem? (i := 395) (by decide +kernel)
set_option maxRecDepth 20000 in
theorem wm286 : Cond.code yX4_sendBreak cX4_sendBreak 2 (some .int) ∈ lw_tbl := List.mem_of_getElem? (i := 396) (by decide +kernel)
set_option maxRecDepth 20000 in
theorem wm287 : Cond.methodLink RL 73 yX4_disturb ∈ lw_tbl := List.mem_of_getElem? (i := 397) (by decide +kernel)
set_option maxRecDepth 20000 in
theorem wm288 : Cond.instanceMethod yX4_disturb ∈ lw_tbl := List.mem_of_getElem? (i := 398) (by decide +kernel)
set_option maxRecDepth 20000 in
theorem wm289 : Cond.selects RX4 yX4_disturb yX4_disturb ∈ lw_tbl := List.mem_of_getElem? (i := 399) (by decide +kernel)
set_option maxRecDepth 20000 in
theorem wm290 : Cond.code yX4_disturb cX4_disturb 3 (some .int) ∈ lw_tbl := List.mem_of_getElem? (i := 400) (by decide +kernel)
set_option maxRecDepth 20000 in
theorem wm291 : Cond.methodLink RX4 65 yX4_isDisturbance ∈ lw_tbl := List.mem_of_getElem? (i := 401) (by decide +kernel)
set_option maxRecDepth 20000 in
theorem wm292 : Cond.static yX4_isDisturbance ∈ lw_tbl := List.mem_of_getElem? (i := 402) (by decide +kernel)
set_option maxRecDepth 20000 in
theorem wm293 : Cond.code yX4_isDisturbance cX4_isDisturbance 1 (some .boolean) ∈ lw_tbl := List.mem_of_getElem? (i := 403) (by decide +kernel)
set_option maxRecDepth 20000 in
theorem wm294 : Cond.methodLink RX4 68 yX2_flip ∈ lw_tbl := List.mem_of_getElem? (i := 404) (by decide +kernel)
set_option maxRecDepth 20000 in
theorem wm295 : Cond.instanceMethod yX2_flip ∈ lw_tbl := List.mem_of_getElem? (i := 405) (by decide +kernel)
set_option maxRecDepth 20000 in
theorem wm296 : Cond.selects RX2 yX2_flip yX2_flip ∈ lw_tbl := List.mem_of_getElem? (i := 406) (by decide +kernel)
set_option maxRecDepth 20000 in
theorem wm297 : Cond.code yX2_flip cX2_flip 5 (some .int) ∈ lw_tbl := List.mem_of_getElem? (i := 407) (by decide +kernel)
set_option maxRecDepth 20000 in
theorem wm298 : Cond.methodLink RX2 71 yX2_levelAt ∈ lw_tbl := List.mem_of_getElem? (i := 408) (by decide +kernel)
set_option maxRecDepth 20000 in
theorem wm299 : Cond.methodLink RL 76 yX4_clear ∈ lw_tbl := List.mem_of_getElem? (i := 409) (by decide +kernel)
set_option maxRecDepth 20000 in
theorem wm300 : Cond.instanceMethod yX4_clear ∈ lw_tbl := List.mem_of_getElem? (i := 410) (by decide +kernel)
set_option maxRecDepth 20000 in
theorem wm301 : Cond.selects RX4 yX4_clear yX4_clear ∈ lw_tbl := List.mem_of_getElem? (i := 411) (by decide +kernel)
set_option maxRecDepth 20000 in
theorem wm302 : Cond.code yX4_clear cX4_clear 2 (some .int) ∈ lw_tbl := List.mem_of_getElem? (i := 412) (by decide +kernel)
set_option maxRecDepth 20000 in
theorem wm303 : Cond.methodLink RX4 71 yX2_clearWire ∈ lw_tbl := List.mem_of_getElem? (i := 413) (by decide +kernel)
set_option maxRecDepth 20000 in
theorem wm304 : Cond.instanceMethod yX2_clearWire ∈ lw_tbl := List.mem_of_getElem? (i := 414) (by decide +kernel)
set_option maxRecDepth 20000 in
theorem wm305 : Cond.selects RX2 yX2_clearWire yX2_clearWire ∈ lw_tbl := List.mem_of_getElem? (i := 415) (by decide +kernel)
set_option maxRecDepth 20000 in
theorem wm306 : Cond.code yX2_clearWire cX2_clearWire 1 none ∈ lw_tbl := List.mem_of_getElem? (i := 416) (by decide +kernel)
set_option maxRecDepth 20000 in
theorem wm307 : Cond.methodLink RL 80 yX4_set ∈ lw_tbl := List.mem_of_getElem? (i := 417) (by decide +kernel)
set_option maxRecDepth 20000 in
theorem wm308 : Cond.instanceMethod yX4_set ∈ lw_tbl := List.mem_of_getElem? (i := 418) (by decide +kernel)
set_option maxRecDepth 20000 in
theorem wm309 : Cond.selects RX4 yX4_set yX4_set ∈ lw_tbl := List.mem_of_getElem? (i := 419) (by decide +kernel)
set_option maxRecDepth 20000 in
theorem wm310 : Cond.code yX4_set cX4_set 4 (some .int) ∈ lw_tbl := List.mem_of_getElem? (i := 420) (by decide +kernel)
set_option maxRecDepth 20000 in
theorem wm311 : Cond.fieldLink RX4 74 "ThirdVotes" "LEAST_VALUES" "[I" ∈ lw_tbl := List.mem_of_getElem? (i := 421) (by decide +kernel)
set_option maxRecDepth 20000 in
theorem wm312 : Cond.fieldLink RX4 78 "ThirdVotes" "GREATEST_VALUES" "[I" ∈ lw_tbl := List.mem_of_getElem? (i := 423) (by decide +kernel)
set_option maxRecDepth 20000 in
theorem wm313 : Cond.methodLink RX4 85 yX2_change ∈ lw_tbl := List.mem_of_getElem? (i := 425) (by decide +kernel)
set_option maxRecDepth 20000 in
theorem wm314 : Cond.instanceMethod yX2_change ∈ lw_tbl := List.mem_of_getElem? (i := 426) (by decide +kernel)
set_option maxRecDepth 20000 in
theorem wm315 : Cond.selects RX2 yX2_change yX2_change ∈ lw_tbl := List.mem_of_getElem? (i := 427) (by decide +kernel)
set_option maxRecDepth 20000 in
theorem wm316 : Cond.code yX2_change cX2_change 3 none ∈ lw_tbl := List.mem_of_getElem? (i := 428) (by decide +kernel)
set_option maxRecDepth 20000 in
theorem wm317 : Cond.methodLink RL 83 yX4_learn ∈ lw_tbl := List.mem_of_getElem? (i := 429) (by decide +kernel)
set_option maxRecDepth 20000 in
theorem wm318 : Cond.instanceMethod yX4_learn ∈ lw_tbl := List.mem_of_getElem? (i := 430) (by decide +kernel)
set_option maxRecDepth 20000 in
theorem wm319 : Cond.selects RX4 yX4_learn yX4_learn ∈ lw_tbl := List.mem_of_getElem? (i := 431) (by decide +kernel)
set_option maxRecDepth 20000 in
theorem wm320 : Cond.code yX4_learn cX4_learn 2 (some .int) ∈ lw_tbl := List.mem_of_getElem? (i := 432) (by decide +kernel)
set_option maxRecDepth 20000 in
theorem wm321 : Cond.code yL_due cL_due 10 (some .int) ∈ lw_tbl := List.mem_of_getElem? (i := 435) (by decide +kernel)
set_option maxRecDepth 20000 in
theorem wm322 : Cond.methodLink RL 86 yL_sends ∈ lw_tbl := List.mem_of_getElem? (i := 436) (by decide +kernel)
set_option maxRecDepth 20000 in
theorem wm323 : Cond.static yL_sends ∈ lw_tbl := List.mem_of_getElem? (i := 437) (by decide +kernel)
set_option maxRecDepth 20000 in
theorem wm324 : Cond.initialized RL ∈ lw_tbl := List.mem_of_getElem? (i := 11) (by decide +kernel)
set_option maxRecDepth 20000 in
theorem wm325 : Cond.code yL_sends cL_sends 8 (some .int) ∈ lw_tbl := List.mem_of_getElem? (i := 438) (by decide +kernel)
set_option maxRecDepth 20000 in
theorem wm326 : Cond.methodLink RL 16 yL_bitMany ∈ lw_tbl := List.mem_of_getElem? (i := 439) (by decide +kernel)
set_option maxRecDepth 20000 in
theorem wm327 : Cond.static yL_bitMany ∈ lw_tbl := List.mem_of_getElem? (i := 440) (by decide +kernel)
set_option maxRecDepth 20000 in
theorem wm328 : Cond.code yL_bitMany cL_bitMany 1 (some .int) ∈ lw_tbl := List.mem_of_getElem? (i := 441) (by decide +kernel)
set_option maxRecDepth 20000 in
theorem wm329 : Cond.methodLink RL 20 yL_parity ∈ lw_tbl := List.mem_of_getElem? (i := 180) (by decide +kernel)
set_option maxRecDepth 20000 in
theorem wm330 : Cond.static yL_parity ∈ lw_tbl := List.mem_of_getElem? (i := 181) (by decide +kernel)
set_option maxRecDepth 20000 in
theorem wm331 : Cond.code yL_parity cL_parity 4 (some .int) ∈ lw_tbl := List.mem_of_getElem? (i := 182) (by decide +kernel)
set_option maxRecDepth 20000 in
theorem wm332 : Cond.methodLink RL 24 yL_runs ∈ lw_tbl := List.mem_of_getElem? (i := 442) (by decide +kernel)
set_option maxRecDepth 20000 in
theorem wm333 : Cond.static yL_runs ∈ lw_tbl := List.mem_of_getElem? (i := 443) (by decide +kernel)
set_option maxRecDepth 20000 in
theorem wm334 : Cond.code yL_runs cL_runs 5 (some .int) ∈ lw_tbl := List.mem_of_getElem? (i := 444) (by decide +kernel)
set_option maxRecDepth 20000 in
theorem wm335 : Cond.methodLink RL 10 yL_puts ∈ lw_tbl := List.mem_of_getElem? (i := 445) (by decide +kernel)
set_option maxRecDepth 20000 in
theorem wm336 : Cond.static yL_puts ∈ lw_tbl := List.mem_of_getElem? (i := 446) (by decide +kernel)
set_option maxRecDepth 20000 in
theorem wm337 : Cond.code yL_puts cL_puts 3 none ∈ lw_tbl := List.mem_of_getElem? (i := 447) (by decide +kernel)
set_option maxRecDepth 20000 in
theorem wm338 : Cond.methodLink RL 28 yL_level ∈ lw_tbl := List.mem_of_getElem? (i := 174) (by decide +kernel)
set_option maxRecDepth 20000 in
theorem wm339 : Cond.static yL_level ∈ lw_tbl := List.mem_of_getElem? (i := 175) (by decide +kernel)
set_option maxRecDepth 20000 in
theorem wm340 : Cond.code yL_level cL_level 3 (some .int) ∈ lw_tbl := List.mem_of_getElem? (i := 176) (by decide +kernel)
set_option maxRecDepth 20000 in
theorem wm341 : Cond.methodLink RL 49 yL_learned ∈ lw_tbl := List.mem_of_getElem? (i := 314) (by decide +kernel)
set_option maxRecDepth 20000 in
theorem wm342 : Cond.static yL_learned ∈ lw_tbl := List.mem_of_getElem? (i := 315) (by decide +kernel)
set_option maxRecDepth 20000 in
theorem wm343 : Cond.code yL_learned cL_learned 7 (some .int) ∈ lw_tbl := List.mem_of_getElem? (i := 316) (by decide +kernel)
set_option maxRecDepth 20000 in
theorem wm344 : Cond.code yL_isSo cL_isSo 15 (some .boolean) ∈ lw_tbl := List.mem_of_getElem? (i := 170) (by decide +kernel)
set_option maxRecDepth 20000 in
theorem wm345 : Cond.methodLink RL 35 yL_low ∈ lw_tbl := List.mem_of_getElem? (i := 164) (by decide +kernel)
set_option maxRecDepth 20000 in
theorem wm346 : Cond.static yL_low ∈ lw_tbl := List.mem_of_getElem? (i := 165) (by decide +kernel)
set_option maxRecDepth 20000 in
theorem wm347 : Cond.methodLink RL 39 yL_receives ∈ lw_tbl := List.mem_of_getElem? (i := 171) (by decide +kernel)
set_option maxRecDepth 20000 in
theorem wm348 : Cond.static yL_receives ∈ lw_tbl := List.mem_of_getElem? (i := 172) (by decide +kernel)
set_option maxRecDepth 20000 in
theorem wm349 : Cond.code yL_receives cL_receives 16 (some .boolean) ∈ lw_tbl := List.mem_of_getElem? (i := 173) (by decide +kernel)
set_option maxRecDepth 20000 in
theorem wm350 : Cond.methodLink RL 32 yL_looks ∈ lw_tbl := List.mem_of_getElem? (i := 177) (by decide +kernel)
set_option maxRecDepth 20000 in
theorem wm351 : Cond.static yL_looks ∈ lw_tbl := List.mem_of_getElem? (i := 178) (by decide +kernel)
set_option maxRecDepth 20000 in
theorem wm352 : Cond.code yL_looks cL_looks 7 (some .int) ∈ lw_tbl := List.mem_of_getElem? (i := 179) (by decide +kernel)
set_option maxRecDepth 20000 in
theorem wm353 : Cond.methodLink RL 53 yX4_received ∈ lw_tbl := List.mem_of_getElem? (i := 317) (by decide +kernel)
set_option maxRecDepth 20000 in
theorem wm354 : Cond.instanceMethod yX4_received ∈ lw_tbl := List.mem_of_getElem? (i := 318) (by decide +kernel)
set_option maxRecDepth 20000 in
theorem wm355 : Cond.selects RX4 yX4_received yX4_received ∈ lw_tbl := List.mem_of_getElem? (i := 319) (by decide +kernel)
set_option maxRecDepth 20000 in
theorem wm356 : Cond.code yX4_received cX4_received 3 (some .int) ∈ lw_tbl := List.mem_of_getElem? (i := 320) (by decide +kernel)
set_option maxRecDepth 20000 in
theorem wm357 : Cond.methodLink RX4 141 yX1_note ∈ lw_tbl := List.mem_of_getElem? (i := 321) (by decide +kernel)
set_option maxRecDepth 20000 in
theorem wm358 : Cond.methodLink RL 58 yX4_sent ∈ lw_tbl := List.mem_of_getElem? (i := 327) (by decide +kernel)
set_option maxRecDepth 20000 in
theorem wm359 : Cond.instanceMethod yX4_sent ∈ lw_tbl := List.mem_of_getElem? (i := 328) (by decide +kernel)
set_option maxRecDepth 20000 in
theorem wm360 : Cond.selects RX4 yX4_sent yX4_sent ∈ lw_tbl := List.mem_of_getElem? (i := 329) (by decide +kernel)
set_option maxRecDepth 20000 in
theorem wm361 : Cond.code yX4_sent cX4_sent 2 (some .int) ∈ lw_tbl := List.mem_of_getElem? (i := 330) (by decide +kernel)
set_option maxRecDepth 20000 in
theorem wm362 : Cond.methodLink RX4 134 yX2_wordOfRank ∈ lw_tbl := List.mem_of_getElem? (i := 331) (by decide +kernel)
set_option maxRecDepth 20000 in
theorem wm363 : Cond.methodLink RL 61 yX4_ifLength ∈ lw_tbl := List.mem_of_getElem? (i := 332) (by decide +kernel)
set_option maxRecDepth 20000 in
theorem wm364 : Cond.instanceMethod yX4_ifLength ∈ lw_tbl := List.mem_of_getElem? (i := 333) (by decide +kernel)
set_option maxRecDepth 20000 in
theorem wm365 : Cond.selects RX4 yX4_ifLength yX4_ifLength ∈ lw_tbl := List.mem_of_getElem? (i := 334) (by decide +kernel)
set_option maxRecDepth 20000 in
theorem wm366 : Cond.code yX4_ifLength cX4_ifLength 3 (some .int) ∈ lw_tbl := List.mem_of_getElem? (i := 335) (by decide +kernel)
set_option maxRecDepth 20000 in
theorem wm367 : Cond.methodLink RL 97 yL_cell ∈ lw_tbl := List.mem_of_getElem? (i := 159) (by decide +kernel)
set_option maxRecDepth 20000 in
theorem wm368 : Cond.static yL_cell ∈ lw_tbl := List.mem_of_getElem? (i := 160) (by decide +kernel)
set_option maxRecDepth 20000 in
theorem wm369 : Cond.methodLink RL 101 yL_told ∈ lw_tbl := List.mem_of_getElem? (i := 448) (by decide +kernel)
set_option maxRecDepth 20000 in
theorem wm370 : Cond.static yL_told ∈ lw_tbl := List.mem_of_getElem? (i := 449) (by decide +kernel)
set_option maxRecDepth 20000 in
theorem wm371 : Cond.methodLink RL 105 yL_call ∈ lw_tbl := List.mem_of_getElem? (i := 336) (by decide +kernel)
set_option maxRecDepth 20000 in
theorem wm372 : Cond.static yL_call ∈ lw_tbl := List.mem_of_getElem? (i := 337) (by decide +kernel)
set_option maxRecDepth 20000 in
theorem wm373 : Cond.methodLink RL 109 yX4_undo ∈ lw_tbl := List.mem_of_getElem? (i := 143) (by decide +kernel)
set_option maxRecDepth 20000 in
theorem wm374 : Cond.instanceMethod yX4_undo ∈ lw_tbl := List.mem_of_getElem? (i := 144) (by decide +kernel)
set_option maxRecDepth 20000 in
theorem wm375 : Cond.selects RX4 yX4_undo yX4_undo ∈ lw_tbl := List.mem_of_getElem? (i := 145) (by decide +kernel)
set_option maxRecDepth 20000 in
theorem wm376 : Cond.methodLink RL 112 yL_due ∈ lw_tbl := List.mem_of_getElem? (i := 433) (by decide +kernel)
set_option maxRecDepth 20000 in
theorem wm377 : Cond.static yL_due ∈ lw_tbl := List.mem_of_getElem? (i := 434) (by decide +kernel)
set_option maxRecDepth 20000 in
theorem wm378 : Cond.methodLink RL 116 yL_isSo ∈ lw_tbl := List.mem_of_getElem? (i := 168) (by decide +kernel)
set_option maxRecDepth 20000 in
theorem wm379 : Cond.static yL_isSo ∈ lw_tbl := List.mem_of_getElem? (i := 169) (by decide +kernel)

theorem tb_125 : Cond.methodLink RX7 3 objectInit ∈ aTb := tm_1_15 (List.mem_of_getElem? (i := 5) rfl) rfl
theorem tb_126 : Cond.fieldLink RX7 9 "LitCoast$LawReader" "faultPlace" "I" ∈ aTb := tm_1_15 (List.mem_of_getElem? (i := 6) rfl) rfl
theorem tb_127 : Cond.fieldLink RX10 181 "LitCoast$LawReader" "faultPlace" "I" ∈ aTb := tm_1_15 (List.mem_of_getElem? (i := 7) rfl) rfl
theorem tb_128 : Cond.fieldLink RX7 28 "LitCoast$LawReader" "tape" "LLitCoast$Tape;" ∈ aTb := tm_1_16 (List.mem_of_getElem? (i := 0) rfl) rfl
theorem tb_129 : Cond.fieldLink RX7 15 "LitCoast$LawReader" "kinds" "[I" ∈ aTb := tm_1_16 (List.mem_of_getElem? (i := 1) rfl) rfl
theorem tb_130 : Cond.fieldLink RX7 19 "LitCoast$LawReader" "places" "[I" ∈ aTb := tm_1_16 (List.mem_of_getElem? (i := 2) rfl) rfl
theorem tb_131 : Cond.fieldLink RX7 22 "LitCoast$LawReader" "steps" "[I" ∈ aTb := tm_1_16 (List.mem_of_getElem? (i := 3) rfl) rfl
theorem tb_132 : Cond.fieldLink RX7 25 "LitCoast$LawReader" "marks" "[I" ∈ aTb := tm_1_16 (List.mem_of_getElem? (i := 4) rfl) rfl
theorem tb_133 : Cond.fieldLink RX7 116 "LitCoast$LawReader" "tokenCount" "I" ∈ aTb := tm_1_16 (List.mem_of_getElem? (i := 5) rfl) rfl
theorem tb_134 : Cond.fieldLink RX7 35 "LitCoast$LawReader" "token" "I" ∈ aTb := tm_1_16 (List.mem_of_getElem? (i := 6) rfl) rfl
theorem tb_135 : Cond.fieldLink RX7 38 "LitCoast$LawReader" "kind" "I" ∈ aTb := tm_1_16 (List.mem_of_getElem? (i := 7) rfl) rfl
theorem tb_136 : Cond.fieldLink RX7 41 "LitCoast$LawReader" "stepCount" "I" ∈ aTb := tm_1_17 (List.mem_of_getElem? (i := 0) rfl) rfl
theorem tb_137 : Cond.fieldLink RX7 44 "LitCoast$LawReader" "partCount" "I" ∈ aTb := tm_1_17 (List.mem_of_getElem? (i := 1) rfl) rfl
theorem tb_138 : Cond.fieldLink RX7 47 "LitCoast$LawReader" "clauseCount" "I" ∈ aTb := tm_1_17 (List.mem_of_getElem? (i := 2) rfl) rfl
theorem tb_164 : Cond.classLink RX10 36 RX0 ∈ aTb := tm_1_20 (List.mem_of_getElem? (i := 4) rfl) rfl
theorem tb_167 : Cond.instanceMethod yX0_init ∈ aTb := tm_1_20 (List.mem_of_getElem? (i := 7) rfl) rfl
theorem tb_169 : Cond.methodLink RX0 3 objectInit ∈ aTb := tm_1_21 (List.mem_of_getElem? (i := 1) rfl) rfl
theorem tb_170 : Cond.fieldLink RX0 11 "LitCoast$Asker" "words" "[I" ∈ aTb := tm_1_21 (List.mem_of_getElem? (i := 2) rfl) rfl
theorem tb_171 : Cond.fieldLink RX0 17 "LitCoast$Asker" "stack" "[J" ∈ aTb := tm_1_21 (List.mem_of_getElem? (i := 3) rfl) rfl
theorem tb_177 : Cond.arrayClass .long ∈ aTb := tm_1_22 (List.mem_of_getElem? (i := 1) rfl) rfl
theorem tb_178 : Cond.classLink RX10 43 RX4 ∈ aTb := tm_1_22 (List.mem_of_getElem? (i := 2) rfl) rfl
theorem tb_180 : Cond.methodLink RX10 45 yX4_init ∈ aTb := tm_1_22 (List.mem_of_getElem? (i := 4) rfl) rfl
theorem tb_181 : Cond.instanceMethod yX4_init ∈ aTb := tm_1_22 (List.mem_of_getElem? (i := 5) rfl) rfl
theorem tb_183 : Cond.methodLink RX4 3 objectInit ∈ aTb := tm_1_22 (List.mem_of_getElem? (i := 7) rfl) rfl
theorem tb_184 : Cond.classLink RX4 21 RX5 ∈ aTb := tm_1_23 (List.mem_of_getElem? (i := 0) rfl) rfl
theorem tb_186 : Cond.methodLink RX4 23 yX5_init ∈ aTb := tm_1_23 (List.mem_of_getElem? (i := 2) rfl) rfl
theorem tb_187 : Cond.instanceMethod yX5_init ∈ aTb := tm_1_23 (List.mem_of_getElem? (i := 3) rfl) rfl
theorem tb_189 : Cond.methodLink RX5 3 objectInit ∈ aTb := tm_1_23 (List.mem_of_getElem? (i := 5) rfl) rfl
theorem tb_190 : Cond.fieldLink RX5 15 "LitCoast$Lasting" "of" "[I" ∈ aTb := tm_1_23 (List.mem_of_getElem? (i := 6) rfl) rfl
theorem tb_191 : Cond.fieldLink RX4 67 "LitCoast$Lasting" "of" "[I" ∈ aTb := tm_1_23 (List.mem_of_getElem? (i := 7) rfl) rfl
theorem tb_192 : Cond.fieldLink RX2 63 "LitCoast$Lasting" "of" "[I" ∈ aTb := tm_1_24 (List.mem_of_getElem? (i := 0) rfl) rfl
theorem tb_193 : Cond.fieldLink RX5 9 "LitCoast$Lasting" "best" "[I" ∈ aTb := tm_1_24 (List.mem_of_getElem? (i := 1) rfl) rfl
theorem tb_199 : Cond.fieldLink RX3 26 "LitCoast$Keeper" "coast" "LLitCoast$Coast;" ∈ aTb := tm_1_24 (List.mem_of_getElem? (i := 7) rfl) rfl
theorem tb_200 : Cond.fieldLink RX4 47 "LitCoast$Keeper" "coast" "LLitCoast$Coast;" ∈ aTb := tm_1_25 (List.mem_of_getElem? (i := 0) rfl) rfl
theorem tb_201 : Cond.fieldLink RX8 43 "LitCoast$Keeper" "coast" "LLitCoast$Coast;" ∈ aTb := tm_1_25 (List.mem_of_getElem? (i := 1) rfl) rfl
theorem tb_202 : Cond.fieldLink RX4 9 "LitCoast$Keeper" "oilTable" "[I" ∈ aTb := tm_1_25 (List.mem_of_getElem? (i := 2) rfl) rfl
theorem tb_203 : Cond.fieldLink RX3 87 "LitCoast$Keeper" "oilTable" "[I" ∈ aTb := tm_1_25 (List.mem_of_getElem? (i := 3) rfl) rfl
theorem tb_204 : Cond.fieldLink RX4 15 "LitCoast$Keeper" "failingNews" "[I" ∈ aTb := tm_1_25 (List.mem_of_getElem? (i := 4) rfl) rfl
theorem tb_205 : Cond.fieldLink RX10 219 "LitCoast$Keeper" "failingNews" "[I" ∈ aTb := tm_1_25 (List.mem_of_getElem? (i := 5) rfl) rfl
theorem tb_206 : Cond.fieldLink RX4 18 "LitCoast$Keeper" "chosen" "[I" ∈ aTb := tm_1_25 (List.mem_of_getElem? (i := 6) rfl) rfl
theorem tb_207 : Cond.fieldLink RX8 57 "LitCoast$Keeper" "chosen" "[I" ∈ aTb := tm_1_25 (List.mem_of_getElem? (i := 7) rfl) rfl
theorem tb_208 : Cond.fieldLink RX4 26 "LitCoast$Keeper" "lasting" "LLitCoast$Lasting;" ∈ aTb := tm_1_26 (List.mem_of_getElem? (i := 0) rfl) rfl
theorem tb_209 : Cond.fieldLink RX4 30 "LitCoast$Keeper" "hurtLasting" "LLitCoast$Lasting;" ∈ aTb := tm_1_26 (List.mem_of_getElem? (i := 1) rfl) rfl
theorem tb_210 : Cond.fieldLink RX4 33 "LitCoast$Keeper" "meanTable" "[J" ∈ aTb := tm_1_26 (List.mem_of_getElem? (i := 2) rfl) rfl
theorem tb_211 : Cond.fieldLink RX4 37 "LitCoast$Keeper" "richest" "[J" ∈ aTb := tm_1_26 (List.mem_of_getElem? (i := 3) rfl) rfl
theorem tb_212 : Cond.fieldLink RX4 40 "LitCoast$Keeper" "newsAtDistance" "[I" ∈ aTb := tm_1_26 (List.mem_of_getElem? (i := 4) rfl) rfl
theorem tb_213 : Cond.fieldLink RX4 43 "LitCoast$Keeper" "meanUnit" "J" ∈ aTb := tm_1_26 (List.mem_of_getElem? (i := 5) rfl) rfl
theorem tb_214 : Cond.fieldLink RX4 51 "LitCoast$Keeper" "oilFresh" "Z" ∈ aTb := tm_1_26 (List.mem_of_getElem? (i := 6) rfl) rfl
theorem tb_215 : Cond.fieldLink RX10 124 "LitCoast$Keeper" "oilFresh" "Z" ∈ aTb := tm_1_26 (List.mem_of_getElem? (i := 7) rfl) rfl
theorem tb_216 : Cond.fieldLink RX4 55 "LitCoast$Keeper" "lastingFresh" "Z" ∈ aTb := tm_1_27 (List.mem_of_getElem? (i := 0) rfl) rfl
theorem tb_217 : Cond.fieldLink RX4 58 "LitCoast$Keeper" "meanFresh" "Z" ∈ aTb := tm_1_27 (List.mem_of_getElem? (i := 1) rfl) rfl
theorem tb_245 : Cond.classLink RX10 52 RX8 ∈ aTb := tm_2_0 (List.mem_of_getElem? (i := 5) rfl) rfl
theorem tb_247 : Cond.methodLink RX10 54 yX8_init ∈ aTb := tm_2_0 (List.mem_of_getElem? (i := 7) rfl) rfl
theorem tb_248 : Cond.instanceMethod yX8_init ∈ aTb := tm_2_1 (List.mem_of_getElem? (i := 0) rfl) rfl
theorem tb_250 : Cond.methodLink RX8 3 objectInit ∈ aTb := tm_2_1 (List.mem_of_getElem? (i := 2) rfl) rfl
theorem tb_251 : Cond.fieldLink RX8 15 "LitCoast$RowCounter" "keeper" "LLitCoast$Keeper;" ∈ aTb := tm_2_1 (List.mem_of_getElem? (i := 3) rfl) rfl
theorem tb_252 : Cond.fieldLink RX8 9 "LitCoast$RowCounter" "many" "[J" ∈ aTb := tm_2_1 (List.mem_of_getElem? (i := 4) rfl) rfl
theorem tb_258 : Cond.classLink RX10 61 RX3 ∈ aTb := tm_2_2 (List.mem_of_getElem? (i := 2) rfl) rfl
theorem tb_260 : Cond.methodLink RX10 63 yX3_init ∈ aTb := tm_2_2 (List.mem_of_getElem? (i := 4) rfl) rfl
theorem tb_261 : Cond.instanceMethod yX3_init ∈ aTb := tm_2_2 (List.mem_of_getElem? (i := 5) rfl) rfl
theorem tb_263 : Cond.methodLink RX3 3 objectInit ∈ aTb := tm_2_2 (List.mem_of_getElem? (i := 7) rfl) rfl
theorem tb_264 : Cond.fieldLink RX3 9 "LitCoast$Errand" "states" "[I" ∈ aTb := tm_2_3 (List.mem_of_getElem? (i := 0) rfl) rfl
theorem tb_265 : Cond.fieldLink RX10 290 "LitCoast$Errand" "states" "[I" ∈ aTb := tm_2_3 (List.mem_of_getElem? (i := 1) rfl) rfl
theorem tb_266 : Cond.fieldLink RX3 46 "LitCoast$Errand" "least" "I" ∈ aTb := tm_2_3 (List.mem_of_getElem? (i := 2) rfl) rfl
theorem tb_267 : Cond.fieldLink RX10 284 "LitCoast$Errand" "least" "I" ∈ aTb := tm_2_3 (List.mem_of_getElem? (i := 3) rfl) rfl
theorem tb_268 : Cond.fieldLink RX3 98 "LitCoast$Errand" "manyWays" "I" ∈ aTb := tm_2_3 (List.mem_of_getElem? (i := 4) rfl) rfl
theorem tb_269 : Cond.fieldLink RX10 287 "LitCoast$Errand" "manyWays" "I" ∈ aTb := tm_2_3 (List.mem_of_getElem? (i := 5) rfl) rfl
theorem tb_270 : Cond.fieldLink RX3 33 "LitCoast$Errand" "fresh" "Z" ∈ aTb := tm_2_3 (List.mem_of_getElem? (i := 6) rfl) rfl
theorem tb_271 : Cond.fieldLink RX10 128 "LitCoast$Errand" "fresh" "Z" ∈ aTb := tm_2_3 (List.mem_of_getElem? (i := 7) rfl) rfl
theorem tb_272 : Cond.fieldLink RX3 22 "LitCoast$Errand" "keeper" "LLitCoast$Keeper;" ∈ aTb := tm_2_4 (List.mem_of_getElem? (i := 0) rfl) rfl
theorem tb_273 : Cond.fieldLink RX3 32 "LitCoast$Errand" "coast" "LLitCoast$Coast;" ∈ aTb := tm_2_4 (List.mem_of_getElem? (i := 1) rfl) rfl
theorem tb_274 : Cond.fieldLink RX3 15 "LitCoast$Errand" "ways" "[J" ∈ aTb := tm_2_4 (List.mem_of_getElem? (i := 2) rfl) rfl
theorem tb_275 : Cond.fieldLink RX3 19 "LitCoast$Errand" "open" "[I" ∈ aTb := tm_2_4 (List.mem_of_getElem? (i := 3) rfl) rfl
theorem tb_293 : Cond.classLink RX10 68 RX2 ∈ aTb := tm_2_6 (List.mem_of_getElem? (i := 5) rfl) rfl
theorem tb_296 : Cond.instanceMethod yX2_init ∈ aTb := tm_2_7 (List.mem_of_getElem? (i := 0) rfl) rfl
theorem tb_298 : Cond.methodLink RX2 3 objectInit ∈ aTb := tm_2_7 (List.mem_of_getElem? (i := 2) rfl) rfl
theorem tb_299 : Cond.classLink RX2 9 RX5 ∈ aTb := tm_2_7 (List.mem_of_getElem? (i := 3) rfl) rfl
theorem tb_300 : Cond.methodLink RX2 11 yX5_init ∈ aTb := tm_2_7 (List.mem_of_getElem? (i := 4) rfl) rfl
theorem tb_301 : Cond.fieldLink RX2 14 "LitCoast$CodeSearch" "lasting" "LLitCoast$Lasting;" ∈ aTb := tm_2_7 (List.mem_of_getElem? (i := 5) rfl) rfl
theorem tb_302 : Cond.fieldLink RX2 18 "LitCoast$CodeSearch" "row" "[I" ∈ aTb := tm_2_7 (List.mem_of_getElem? (i := 6) rfl) rfl
theorem tb_303 : Cond.fieldLink RX2 22 "LitCoast$CodeSearch" "peak" "[I" ∈ aTb := tm_2_7 (List.mem_of_getElem? (i := 7) rfl) rfl
theorem tb_304 : Cond.fieldLink RX2 25 "LitCoast$CodeSearch" "counts" "[I" ∈ aTb := tm_2_8 (List.mem_of_getElem? (i := 0) rfl) rfl
theorem tb_305 : Cond.fieldLink RX2 28 "LitCoast$CodeSearch" "firsts" "[I" ∈ aTb := tm_2_8 (List.mem_of_getElem? (i := 1) rfl) rfl
theorem tb_306 : Cond.fieldLink RX2 31 "LitCoast$CodeSearch" "searched" "[Z" ∈ aTb := tm_2_8 (List.mem_of_getElem? (i := 2) rfl) rfl
theorem tb_320 : Cond.arrayClass .boolean ∈ aTb := tm_2_10 (List.mem_of_getElem? (i := 0) rfl) rfl
theorem tb_321 : Cond.fieldLink RX10 10 "LitCoast" "coast" "LLitCoast$Coast;" ∈ aTb := tm_2_10 (List.mem_of_getElem? (i := 1) rfl) rfl
theorem tb_322 : Cond.fieldLink RX10 16 "LitCoast" "images" "[LLitCoast$Coast;" ∈ aTb := tm_2_10 (List.mem_of_getElem? (i := 2) rfl) rfl
theorem tb_323 : Cond.fieldLink RX10 23 "LitCoast" "tape" "LLitCoast$Tape;" ∈ aTb := tm_2_10 (List.mem_of_getElem? (i := 3) rfl) rfl
theorem tb_324 : Cond.fieldLink RX10 32 "LitCoast" "lawReader" "LLitCoast$LawReader;" ∈ aTb := tm_2_10 (List.mem_of_getElem? (i := 4) rfl) rfl
theorem tb_325 : Cond.fieldLink RX10 39 "LitCoast" "asker" "LLitCoast$Asker;" ∈ aTb := tm_2_10 (List.mem_of_getElem? (i := 5) rfl) rfl
theorem tb_326 : Cond.fieldLink RX10 48 "LitCoast" "keeper" "LLitCoast$Keeper;" ∈ aTb := tm_2_10 (List.mem_of_getElem? (i := 6) rfl) rfl
theorem tb_327 : Cond.fieldLink RX10 57 "LitCoast" "rowCounter" "LLitCoast$RowCounter;" ∈ aTb := tm_2_10 (List.mem_of_getElem? (i := 7) rfl) rfl
theorem tb_328 : Cond.fieldLink RX10 64 "LitCoast" "errand" "LLitCoast$Errand;" ∈ aTb := tm_2_11 (List.mem_of_getElem? (i := 0) rfl) rfl
theorem tb_329 : Cond.fieldLink RX10 71 "LitCoast" "codeSearch" "LLitCoast$CodeSearch;" ∈ aTb := tm_2_11 (List.mem_of_getElem? (i := 1) rfl) rfl
theorem tb_330 : Cond.fieldLink RX10 75 "LitCoast" "trailStates" "[I" ∈ aTb := tm_2_11 (List.mem_of_getElem? (i := 2) rfl) rfl
theorem tb_331 : Cond.fieldLink RX10 79 "LitCoast" "drawnStates" "[I" ∈ aTb := tm_2_11 (List.mem_of_getElem? (i := 3) rfl) rfl
theorem tb_332 : Cond.fieldLink RX10 82 "LitCoast" "refusals" "[I" ∈ aTb := tm_2_11 (List.mem_of_getElem? (i := 4) rfl) rfl
theorem tb_333 : Cond.fieldLink RX10 256 "LitCoast" "trailCount" "I" ∈ aTb := tm_2_11 (List.mem_of_getElem? (i := 5) rfl) rfl
theorem tb_334 : Cond.fieldLink RX10 298 "LitCoast" "drawnCount" "I" ∈ aTb := tm_2_11 (List.mem_of_getElem? (i := 6) rfl) rfl
theorem tb_335 : Cond.fieldLink RX10 85 "LitCoast" "unsent" "I" ∈ aTb := tm_2_11 (List.mem_of_getElem? (i := 7) rfl) rfl
theorem tb_336 : Cond.fieldLink RX10 164 "LitCoast" "tornBytes" "I" ∈ aTb := tm_2_12 (List.mem_of_getElem? (i := 0) rfl) rfl
theorem tb_337 : Cond.fieldLink RX10 304 "LitCoast" "latest" "I" ∈ aTb := tm_2_12 (List.mem_of_getElem? (i := 1) rfl) rfl
theorem tb_373 : Cond.methodLink RL 13 yX10_lamps ∈ aTb := tm_2_16 (List.mem_of_getElem? (i := 5) rfl) rfl
theorem tb_374 : Cond.instanceMethod yX10_lamps ∈ aTb := tm_2_16 (List.mem_of_getElem? (i := 6) rfl) rfl
theorem tb_375 : Cond.selects RX10 yX10_lamps yX10_lamps ∈ aTb := tm_2_16 (List.mem_of_getElem? (i := 7) rfl) rfl
theorem tb_377 : Cond.methodLink RX10 89 yX10_refuse ∈ aTb := tm_2_17 (List.mem_of_getElem? (i := 1) rfl) rfl
theorem tb_379 : Cond.instanceMethod yX10_refuse ∈ aTb := tm_2_17 (List.mem_of_getElem? (i := 3) rfl) rfl
theorem tb_381 : Cond.methodLink RX10 102 yJ7_fill_53178 ∈ aTb := tm_2_17 (List.mem_of_getElem? (i := 5) rfl) rfl
theorem tb_382 : Cond.methodLink RX10 108 yX1_forget ∈ aTb := tm_2_17 (List.mem_of_getElem? (i := 6) rfl) rfl
theorem tb_383 : Cond.instanceMethod yX1_forget ∈ aTb := tm_2_17 (List.mem_of_getElem? (i := 7) rfl) rfl
theorem tb_384 : Cond.selects RX1 yX1_forget yX1_forget ∈ aTb := tm_2_18 (List.mem_of_getElem? (i := 0) rfl) rfl
theorem tb_386 : Cond.methodLink RX10 111 yX10_codeChanged ∈ aTb := tm_2_18 (List.mem_of_getElem? (i := 2) rfl) rfl
theorem tb_388 : Cond.instanceMethod yX10_codeChanged ∈ aTb := tm_2_18 (List.mem_of_getElem? (i := 4) rfl) rfl
theorem tb_390 : Cond.methodLink RX10 307 yX4_forgetTables ∈ aTb := tm_2_18 (List.mem_of_getElem? (i := 6) rfl) rfl
theorem tb_391 : Cond.instanceMethod yX4_forgetTables ∈ aTb := tm_2_18 (List.mem_of_getElem? (i := 7) rfl) rfl
theorem tb_392 : Cond.selects RX4 yX4_forgetTables yX4_forgetTables ∈ aTb := tm_2_19 (List.mem_of_getElem? (i := 0) rfl) rfl
theorem tb_394 : Cond.methodLink RX10 114 yX10_accept ∈ aTb := tm_2_19 (List.mem_of_getElem? (i := 2) rfl) rfl
theorem tb_396 : Cond.instanceMethod yX10_accept ∈ aTb := tm_2_19 (List.mem_of_getElem? (i := 4) rfl) rfl
theorem tb_398 : Cond.methodLink RL 18 yX10_news ∈ aTb := tm_2_19 (List.mem_of_getElem? (i := 6) rfl) rfl
theorem tb_399 : Cond.instanceMethod yX10_news ∈ aTb := tm_2_19 (List.mem_of_getElem? (i := 7) rfl) rfl
theorem tb_400 : Cond.selects RX10 yX10_news yX10_news ∈ aTb := tm_2_20 (List.mem_of_getElem? (i := 0) rfl) rfl
theorem tb_402 : Cond.methodLink RL 22 yX10_oil ∈ aTb := tm_2_20 (List.mem_of_getElem? (i := 2) rfl) rfl
theorem tb_403 : Cond.instanceMethod yX10_oil ∈ aTb := tm_2_20 (List.mem_of_getElem? (i := 3) rfl) rfl
theorem tb_404 : Cond.selects RX10 yX10_oil yX10_oil ∈ aTb := tm_2_20 (List.mem_of_getElem? (i := 4) rfl) rfl
theorem tb_406 : Cond.methodLink RX10 120 yX1_isLamp ∈ aTb := tm_2_20 (List.mem_of_getElem? (i := 6) rfl) rfl
theorem tb_407 : Cond.instanceMethod yX1_isLamp ∈ aTb := tm_2_20 (List.mem_of_getElem? (i := 7) rfl) rfl
theorem tb_408 : Cond.selects RX1 yX1_isLamp yX1_isLamp ∈ aTb := tm_2_21 (List.mem_of_getElem? (i := 0) rfl) rfl
theorem tb_410 : Cond.methodLink RL 27 yX10_broken ∈ aTb := tm_2_21 (List.mem_of_getElem? (i := 2) rfl) rfl
theorem tb_411 : Cond.instanceMethod yX10_broken ∈ aTb := tm_2_21 (List.mem_of_getElem? (i := 3) rfl) rfl
theorem tb_412 : Cond.selects RX10 yX10_broken yX10_broken ∈ aTb := tm_2_21 (List.mem_of_getElem? (i := 4) rfl) rfl
theorem tb_414 : Cond.methodLink RL 31 yX10_read ∈ aTb := tm_2_21 (List.mem_of_getElem? (i := 6) rfl) rfl
theorem tb_415 : Cond.instanceMethod yX10_read ∈ aTb := tm_2_21 (List.mem_of_getElem? (i := 7) rfl) rfl
theorem tb_416 : Cond.selects RX10 yX10_read yX10_read ∈ aTb := tm_2_22 (List.mem_of_getElem? (i := 0) rfl) rfl
theorem tb_418 : Cond.methodLink RX10 131 yX1_isState ∈ aTb := tm_2_22 (List.mem_of_getElem? (i := 2) rfl) rfl
theorem tb_419 : Cond.instanceMethod yX1_isState ∈ aTb := tm_2_22 (List.mem_of_getElem? (i := 3) rfl) rfl
theorem tb_420 : Cond.selects RX1 yX1_isState yX1_isState ∈ aTb := tm_2_22 (List.mem_of_getElem? (i := 4) rfl) rfl
theorem tb_422 : Cond.methodLink RX1 43 yX1_full ∈ aTb := tm_2_22 (List.mem_of_getElem? (i := 6) rfl) rfl
theorem tb_423 : Cond.instanceMethod yX1_full ∈ aTb := tm_2_22 (List.mem_of_getElem? (i := 7) rfl) rfl
theorem tb_424 : Cond.selects RX1 yX1_full yX1_full ∈ aTb := tm_2_23 (List.mem_of_getElem? (i := 0) rfl) rfl
theorem tb_426 : Cond.methodLink RX10 134 yX1_isNews ∈ aTb := tm_2_23 (List.mem_of_getElem? (i := 2) rfl) rfl
theorem tb_427 : Cond.instanceMethod yX1_isNews ∈ aTb := tm_2_23 (List.mem_of_getElem? (i := 3) rfl) rfl
theorem tb_428 : Cond.selects RX1 yX1_isNews yX1_isNews ∈ aTb := tm_2_23 (List.mem_of_getElem? (i := 4) rfl) rfl
theorem tb_430 : Cond.methodLink RL 35 yX10_of ∈ aTb := tm_2_23 (List.mem_of_getElem? (i := 6) rfl) rfl
theorem tb_431 : Cond.instanceMethod yX10_of ∈ aTb := tm_2_23 (List.mem_of_getElem? (i := 7) rfl) rfl
theorem tb_432 : Cond.selects RX10 yX10_of yX10_of ∈ aTb := tm_2_24 (List.mem_of_getElem? (i := 0) rfl) rfl
theorem tb_434 : Cond.methodLink RL 39 yX10_feed ∈ aTb := tm_2_24 (List.mem_of_getElem? (i := 2) rfl) rfl
theorem tb_435 : Cond.instanceMethod yX10_feed ∈ aTb := tm_2_24 (List.mem_of_getElem? (i := 3) rfl) rfl
theorem tb_436 : Cond.selects RX10 yX10_feed yX10_feed ∈ aTb := tm_2_24 (List.mem_of_getElem? (i := 4) rfl) rfl
theorem tb_438 : Cond.methodLink RX10 140 yX9_hasRoom ∈ aTb := tm_2_24 (List.mem_of_getElem? (i := 6) rfl) rfl
theorem tb_439 : Cond.instanceMethod yX9_hasRoom ∈ aTb := tm_2_24 (List.mem_of_getElem? (i := 7) rfl) rfl
theorem tb_440 : Cond.selects RX9 yX9_hasRoom yX9_hasRoom ∈ aTb := tm_2_25 (List.mem_of_getElem? (i := 0) rfl) rfl
theorem tb_442 : Cond.methodLink RX10 144 yX9_put ∈ aTb := tm_2_25 (List.mem_of_getElem? (i := 2) rfl) rfl
theorem tb_443 : Cond.instanceMethod yX9_put ∈ aTb := tm_2_25 (List.mem_of_getElem? (i := 3) rfl) rfl
theorem tb_444 : Cond.selects RX9 yX9_put yX9_put ∈ aTb := tm_2_25 (List.mem_of_getElem? (i := 4) rfl) rfl
theorem tb_446 : Cond.methodLink RL 44 yX10_end ∈ aTb := tm_2_25 (List.mem_of_getElem? (i := 6) rfl) rfl
theorem tb_447 : Cond.instanceMethod yX10_end ∈ aTb := tm_2_25 (List.mem_of_getElem? (i := 7) rfl) rfl
theorem tb_448 : Cond.selects RX10 yX10_end yX10_end ∈ aTb := tm_2_26 (List.mem_of_getElem? (i := 0) rfl) rfl
theorem tb_450 : Cond.methodLink RL 48 yX10_row ∈ aTb := tm_2_26 (List.mem_of_getElem? (i := 2) rfl) rfl
theorem tb_451 : Cond.instanceMethod yX10_row ∈ aTb := tm_2_26 (List.mem_of_getElem? (i := 3) rfl) rfl
theorem tb_452 : Cond.selects RX10 yX10_row yX10_row ∈ aTb := tm_2_26 (List.mem_of_getElem? (i := 4) rfl) rfl
theorem tb_454 : Cond.methodLink RX10 151 yX1_full ∈ aTb := tm_2_26 (List.mem_of_getElem? (i := 6) rfl) rfl
theorem tb_455 : Cond.methodLink RX10 155 yX9_byteAt ∈ aTb := tm_2_26 (List.mem_of_getElem? (i := 7) rfl) rfl
theorem tb_456 : Cond.instanceMethod yX9_byteAt ∈ aTb := tm_2_27 (List.mem_of_getElem? (i := 0) rfl) rfl
theorem tb_457 : Cond.selects RX9 yX9_byteAt yX9_byteAt ∈ aTb := tm_2_27 (List.mem_of_getElem? (i := 1) rfl) rfl
theorem tb_459 : Cond.methodLink RX10 158 Lib.Math.max.name ∈ aTb := tm_2_27 (List.mem_of_getElem? (i := 3) rfl) rfl
theorem tb_460 : Cond.static Lib.Math.max.name ∈ aTb := tm_2_27 (List.mem_of_getElem? (i := 4) rfl) rfl
theorem tb_461 : Cond.code Lib.Math.max.name Lib.Math.max.code 2 (some .int) ∈ aTb := tm_2_27 (List.mem_of_getElem? (i := 5) rfl) rfl
theorem tb_462 : Cond.methodLink RX10 167 yX1_readCount ∈ aTb := tm_2_27 (List.mem_of_getElem? (i := 6) rfl) rfl
theorem tb_463 : Cond.instanceMethod yX1_readCount ∈ aTb := tm_2_27 (List.mem_of_getElem? (i := 7) rfl) rfl
theorem tb_464 : Cond.selects RX1 yX1_readCount yX1_readCount ∈ aTb := tm_2_28 (List.mem_of_getElem? (i := 0) rfl) rfl
theorem tb_466 : Cond.methodLink RL 53 yX10_torn ∈ aTb := tm_2_28 (List.mem_of_getElem? (i := 2) rfl) rfl
theorem tb_467 : Cond.instanceMethod yX10_torn ∈ aTb := tm_2_28 (List.mem_of_getElem? (i := 3) rfl) rfl
theorem tb_468 : Cond.selects RX10 yX10_torn yX10_torn ∈ aTb := tm_2_28 (List.mem_of_getElem? (i := 4) rfl) rfl
theorem tb_470 : Cond.methodLink RL 57 yX10_law ∈ aTb := tm_2_28 (List.mem_of_getElem? (i := 6) rfl) rfl
theorem tb_471 : Cond.instanceMethod yX10_law ∈ aTb := tm_2_28 (List.mem_of_getElem? (i := 7) rfl) rfl
theorem tb_472 : Cond.selects RX10 yX10_law yX10_law ∈ aTb := tm_2_29 (List.mem_of_getElem? (i := 0) rfl) rfl
theorem tb_474 : Cond.methodLink RX10 173 yX7_understand ∈ aTb := tm_2_29 (List.mem_of_getElem? (i := 2) rfl) rfl
theorem tb_475 : Cond.instanceMethod yX7_understand ∈ aTb := tm_2_29 (List.mem_of_getElem? (i := 3) rfl) rfl
theorem tb_476 : Cond.selects RX7 yX7_understand yX7_understand ∈ aTb := tm_2_29 (List.mem_of_getElem? (i := 4) rfl) rfl
theorem tb_478 : Cond.methodLink RX7 32 yX7_findTokens ∈ aTb := tm_2_29 (List.mem_of_getElem? (i := 6) rfl) rfl
theorem tb_480 : Cond.instanceMethod yX7_findTokens ∈ aTb := tm_3_0 (List.mem_of_getElem? (i := 0) rfl) rfl
theorem tb_482 : Cond.methodLink RX7 125 yX7_skipBlanks ∈ aTb := tm_3_0 (List.mem_of_getElem? (i := 2) rfl) rfl
theorem tb_484 : Cond.instanceMethod yX7_skipBlanks ∈ aTb := tm_3_0 (List.mem_of_getElem? (i := 4) rfl) rfl
theorem tb_486 : Cond.methodLink RX7 139 yX9_byteAt ∈ aTb := tm_3_0 (List.mem_of_getElem? (i := 6) rfl) rfl
theorem tb_487 : Cond.methodLink RX7 133 yX7_stopOf ∈ aTb := tm_3_0 (List.mem_of_getElem? (i := 7) rfl) rfl
theorem tb_489 : Cond.instanceMethod yX7_stopOf ∈ aTb := tm_3_1 (List.mem_of_getElem? (i := 1) rfl) rfl
theorem tb_491 : Cond.methodLink RX7 142 yX7_isLetter ∈ aTb := tm_3_1 (List.mem_of_getElem? (i := 3) rfl) rfl
theorem tb_492 : Cond.static yX7_isLetter ∈ aTb := tm_3_1 (List.mem_of_getElem? (i := 4) rfl) rfl
theorem tb_494 : Cond.methodLink RX7 145 yX7_isDigit ∈ aTb := tm_3_1 (List.mem_of_getElem? (i := 6) rfl) rfl
theorem tb_495 : Cond.static yX7_isDigit ∈ aTb := tm_3_1 (List.mem_of_getElem? (i := 7) rfl) rfl
theorem tb_497 : Cond.methodLink RX7 136 yX7_kindOf ∈ aTb := tm_3_2 (List.mem_of_getElem? (i := 1) rfl) rfl
theorem tb_499 : Cond.instanceMethod yX7_kindOf ∈ aTb := tm_3_2 (List.mem_of_getElem? (i := 3) rfl) rfl
theorem tb_501 : Cond.methodLink RX7 148 yX7_wordKind ∈ aTb := tm_3_2 (List.mem_of_getElem? (i := 5) rfl) rfl
theorem tb_503 : Cond.instanceMethod yX7_wordKind ∈ aTb := tm_3_2 (List.mem_of_getElem? (i := 7) rfl) rfl
theorem tb_506 : Cond.methodLink RX7 156 yX9_spells ∈ aTb := tm_3_3 (List.mem_of_getElem? (i := 2) rfl) rfl
theorem tb_507 : Cond.instanceMethod yX9_spells ∈ aTb := tm_3_3 (List.mem_of_getElem? (i := 3) rfl) rfl
theorem tb_508 : Cond.selects RX9 yX9_spells yX9_spells ∈ aTb := tm_3_3 (List.mem_of_getElem? (i := 4) rfl) rfl
theorem tb_510 : Cond.methodLink RX9 19 yJ0_length_8abf5 ∈ aTb := tm_3_3 (List.mem_of_getElem? (i := 6) rfl) rfl
theorem tb_511 : Cond.instanceMethod yJ0_length_8abf5 ∈ aTb := tm_3_3 (List.mem_of_getElem? (i := 7) rfl) rfl
theorem tb_512 : Cond.selects RJ0 yJ0_length_8abf5 yJ0_length_8abf5 ∈ aTb := tm_3_4 (List.mem_of_getElem? (i := 0) rfl) rfl
theorem tb_514 : Cond.methodLink RJ0 335 yJ0_coder_7d493 ∈ aTb := tm_3_4 (List.mem_of_getElem? (i := 2) rfl) rfl
theorem tb_515 : Cond.instanceMethod yJ0_coder_7d493 ∈ aTb := tm_3_4 (List.mem_of_getElem? (i := 3) rfl) rfl
theorem tb_516 : Cond.selects RJ0 yJ0_coder_7d493 yJ0_coder_7d493 ∈ aTb := tm_3_4 (List.mem_of_getElem? (i := 4) rfl) rfl
theorem tb_518 : Cond.fieldLink RJ0 38 "java/lang/String" "COMPACT_STRINGS" "Z" ∈ aTb := tm_3_4 (List.mem_of_getElem? (i := 6) rfl) rfl
theorem tb_520 : Cond.methodLink RX9 24 yJ0_charAt_5068e ∈ aTb := tm_3_5 (List.mem_of_getElem? (i := 0) rfl) rfl
theorem tb_521 : Cond.instanceMethod yJ0_charAt_5068e ∈ aTb := tm_3_5 (List.mem_of_getElem? (i := 1) rfl) rfl
theorem tb_522 : Cond.selects RJ0 yJ0_charAt_5068e yJ0_charAt_5068e ∈ aTb := tm_3_5 (List.mem_of_getElem? (i := 2) rfl) rfl
theorem tb_524 : Cond.methodLink RJ0 492 yJ0_isLatin1_aae02 ∈ aTb := tm_3_5 (List.mem_of_getElem? (i := 4) rfl) rfl
theorem tb_525 : Cond.instanceMethod yJ0_isLatin1_aae02 ∈ aTb := tm_3_5 (List.mem_of_getElem? (i := 5) rfl) rfl
theorem tb_526 : Cond.selects RJ0 yJ0_isLatin1_aae02 yJ0_isLatin1_aae02 ∈ aTb := tm_3_5 (List.mem_of_getElem? (i := 6) rfl) rfl
theorem tb_528 : Cond.methodLink RJ0 495 yJ1_charAt_3b067 ∈ aTb := tm_3_6 (List.mem_of_getElem? (i := 0) rfl) rfl
theorem tb_529 : Cond.static yJ1_charAt_3b067 ∈ aTb := tm_3_6 (List.mem_of_getElem? (i := 1) rfl) rfl
theorem tb_531 : Cond.methodLink RJ1 9 yJ0_checkIndex_df160 ∈ aTb := tm_3_6 (List.mem_of_getElem? (i := 3) rfl) rfl
theorem tb_532 : Cond.static yJ0_checkIndex_df160 ∈ aTb := tm_3_6 (List.mem_of_getElem? (i := 4) rfl) rfl
theorem tb_534 : Cond.fieldLink RJ0 1053 "jdk/internal/util/Preconditions" "SIOOBE_FORMATTER" "Ljava/util/function/BiFunction;" ∈ aTb := tm_3_6 (List.mem_of_getElem? (i := 6) rfl) rfl
theorem tb_536 : Cond.methodLink RJ0 1059 yJ3_checkIndex_8e157 ∈ aTb := tm_3_7 (List.mem_of_getElem? (i := 0) rfl) rfl
theorem tb_537 : Cond.static yJ3_checkIndex_8e157 ∈ aTb := tm_3_7 (List.mem_of_getElem? (i := 1) rfl) rfl
theorem tb_562 : Cond.methodLink RX7 168 yX7_partKind ∈ aTb := tm_3_10 (List.mem_of_getElem? (i := 2) rfl) rfl
theorem tb_564 : Cond.instanceMethod yX7_partKind ∈ aTb := tm_3_10 (List.mem_of_getElem? (i := 4) rfl) rfl
theorem tb_574 : Cond.methodLink RX7 151 yX7_numberAt ∈ aTb := tm_3_11 (List.mem_of_getElem? (i := 6) rfl) rfl
theorem tb_576 : Cond.instanceMethod yX7_numberAt ∈ aTb := tm_3_12 (List.mem_of_getElem? (i := 0) rfl) rfl
theorem tb_578 : Cond.methodLink RX7 119 Lib.Math.min.name ∈ aTb := tm_3_12 (List.mem_of_getElem? (i := 2) rfl) rfl
theorem tb_579 : Cond.static Lib.Math.min.name ∈ aTb := tm_3_12 (List.mem_of_getElem? (i := 3) rfl) rfl
theorem tb_580 : Cond.code Lib.Math.min.name Lib.Math.min.code 2 (some .int) ∈ aTb := tm_3_12 (List.mem_of_getElem? (i := 4) rfl) rfl
theorem tb_581 : Cond.methodLink RX7 50 yX7_takeClauses ∈ aTb := tm_3_12 (List.mem_of_getElem? (i := 5) rfl) rfl
theorem tb_583 : Cond.instanceMethod yX7_takeClauses ∈ aTb := tm_3_12 (List.mem_of_getElem? (i := 7) rfl) rfl
theorem tb_585 : Cond.methodLink RX7 65 yX7_takeClause ∈ aTb := tm_3_13 (List.mem_of_getElem? (i := 1) rfl) rfl
theorem tb_587 : Cond.instanceMethod yX7_takeClause ∈ aTb := tm_3_13 (List.mem_of_getElem? (i := 3) rfl) rfl
theorem tb_589 : Cond.methodLink RX7 68 yX7_fail ∈ aTb := tm_3_13 (List.mem_of_getElem? (i := 5) rfl) rfl
theorem tb_591 : Cond.instanceMethod yX7_fail ∈ aTb := tm_3_13 (List.mem_of_getElem? (i := 7) rfl) rfl
theorem tb_593 : Cond.methodLink RX7 71 yX7_advance ∈ aTb := tm_3_14 (List.mem_of_getElem? (i := 1) rfl) rfl
theorem tb_595 : Cond.instanceMethod yX7_advance ∈ aTb := tm_3_14 (List.mem_of_getElem? (i := 3) rfl) rfl
theorem tb_597 : Cond.methodLink RX7 74 yX7_takeSum ∈ aTb := tm_3_14 (List.mem_of_getElem? (i := 5) rfl) rfl
theorem tb_599 : Cond.instanceMethod yX7_takeSum ∈ aTb := tm_3_14 (List.mem_of_getElem? (i := 7) rfl) rfl
theorem tb_601 : Cond.methodLink RX7 110 yX7_takeTerm ∈ aTb := tm_3_15 (List.mem_of_getElem? (i := 1) rfl) rfl
theorem tb_603 : Cond.instanceMethod yX7_takeTerm ∈ aTb := tm_3_15 (List.mem_of_getElem? (i := 3) rfl) rfl
theorem tb_605 : Cond.methodLink RX7 113 yX7_takePart ∈ aTb := tm_3_15 (List.mem_of_getElem? (i := 5) rfl) rfl
theorem tb_607 : Cond.instanceMethod yX7_takePart ∈ aTb := tm_3_15 (List.mem_of_getElem? (i := 7) rfl) rfl
theorem tb_609 : Cond.methodLink RX7 104 yX7_takeSign ∈ aTb := tm_3_16 (List.mem_of_getElem? (i := 1) rfl) rfl
theorem tb_611 : Cond.instanceMethod yX7_takeSign ∈ aTb := tm_3_16 (List.mem_of_getElem? (i := 3) rfl) rfl
theorem tb_613 : Cond.methodLink RX7 101 yX7_step ∈ aTb := tm_3_16 (List.mem_of_getElem? (i := 5) rfl) rfl
theorem tb_615 : Cond.instanceMethod yX7_step ∈ aTb := tm_3_16 (List.mem_of_getElem? (i := 7) rfl) rfl
theorem tb_617 : Cond.methodLink RX7 107 yX7_stepOf ∈ aTb := tm_3_17 (List.mem_of_getElem? (i := 1) rfl) rfl
theorem tb_618 : Cond.static yX7_stepOf ∈ aTb := tm_3_17 (List.mem_of_getElem? (i := 2) rfl) rfl
theorem tb_620 : Cond.methodLink RX7 78 yX7_takeTest ∈ aTb := tm_3_17 (List.mem_of_getElem? (i := 4) rfl) rfl
theorem tb_622 : Cond.instanceMethod yX7_takeTest ∈ aTb := tm_3_17 (List.mem_of_getElem? (i := 6) rfl) rfl
theorem tb_624 : Cond.methodLink RX7 81 yX7_takeBoth ∈ aTb := tm_3_18 (List.mem_of_getElem? (i := 0) rfl) rfl
theorem tb_626 : Cond.instanceMethod yX7_takeBoth ∈ aTb := tm_3_18 (List.mem_of_getElem? (i := 2) rfl) rfl
theorem tb_628 : Cond.methodLink RX7 92 yX7_takePlain ∈ aTb := tm_3_18 (List.mem_of_getElem? (i := 4) rfl) rfl
theorem tb_630 : Cond.instanceMethod yX7_takePlain ∈ aTb := tm_3_18 (List.mem_of_getElem? (i := 6) rfl) rfl
theorem tb_632 : Cond.methodLink RX7 95 yX7_takeBracketed ∈ aTb := tm_3_19 (List.mem_of_getElem? (i := 0) rfl) rfl
theorem tb_634 : Cond.instanceMethod yX7_takeBracketed ∈ aTb := tm_3_19 (List.mem_of_getElem? (i := 2) rfl) rfl
theorem tb_636 : Cond.methodLink RX7 98 yX7_takeComparison ∈ aTb := tm_3_19 (List.mem_of_getElem? (i := 4) rfl) rfl
theorem tb_638 : Cond.instanceMethod yX7_takeComparison ∈ aTb := tm_3_19 (List.mem_of_getElem? (i := 6) rfl) rfl
theorem tb_640 : Cond.methodLink RX7 84 yX7_openSkip ∈ aTb := tm_3_20 (List.mem_of_getElem? (i := 0) rfl) rfl
theorem tb_642 : Cond.instanceMethod yX7_openSkip ∈ aTb := tm_3_20 (List.mem_of_getElem? (i := 2) rfl) rfl
theorem tb_644 : Cond.methodLink RX7 88 yX7_closeSkip ∈ aTb := tm_3_20 (List.mem_of_getElem? (i := 4) rfl) rfl
theorem tb_646 : Cond.instanceMethod yX7_closeSkip ∈ aTb := tm_3_20 (List.mem_of_getElem? (i := 6) rfl) rfl
theorem tb_648 : Cond.classLink RX7 54 RX6 ∈ aTb := tm_3_21 (List.mem_of_getElem? (i := 0) rfl) rfl
theorem tb_650 : Cond.methodLink RX7 56 yJ7_copyOf_59c91 ∈ aTb := tm_3_21 (List.mem_of_getElem? (i := 2) rfl) rfl
theorem tb_651 : Cond.static yJ7_copyOf_59c91 ∈ aTb := tm_3_21 (List.mem_of_getElem? (i := 3) rfl) rfl
theorem tb_659 : Cond.classLink RJ7 317 "[I" ∈ aTb := tm_3_22 (List.mem_of_getElem? (i := 3) rfl) rfl
theorem tb_660 : Cond.methodLink RJ7 304 Lib.Math.min.name ∈ aTb := tm_3_22 (List.mem_of_getElem? (i := 4) rfl) rfl
theorem tb_661 : Cond.methodLink RJ7 150 arraycopyName ∈ aTb := tm_3_22 (List.mem_of_getElem? (i := 5) rfl) rfl
theorem tb_662 : Cond.static arraycopyName ∈ aTb := tm_3_22 (List.mem_of_getElem? (i := 6) rfl) rfl
theorem tb_663 : Cond.native arraycopyName ∈ aTb := tm_3_22 (List.mem_of_getElem? (i := 7) rfl) rfl
theorem tb_664 : Cond.methodLink RX7 62 yX6_init ∈ aTb := tm_3_23 (List.mem_of_getElem? (i := 0) rfl) rfl
theorem tb_665 : Cond.instanceMethod yX6_init ∈ aTb := tm_3_23 (List.mem_of_getElem? (i := 1) rfl) rfl
theorem tb_667 : Cond.methodLink RX6 1 objectInit ∈ aTb := tm_3_23 (List.mem_of_getElem? (i := 3) rfl) rfl
theorem tb_668 : Cond.fieldLink RX6 7 "LitCoast$Law" "steps" "[I" ∈ aTb := tm_3_23 (List.mem_of_getElem? (i := 4) rfl) rfl
theorem tb_669 : Cond.fieldLink RX0 32 "LitCoast$Law" "steps" "[I" ∈ aTb := tm_3_23 (List.mem_of_getElem? (i := 5) rfl) rfl
theorem tb_670 : Cond.fieldLink RX6 13 "LitCoast$Law" "marks" "[I" ∈ aTb := tm_3_23 (List.mem_of_getElem? (i := 6) rfl) rfl
theorem tb_671 : Cond.fieldLink RX0 29 "LitCoast$Law" "marks" "[I" ∈ aTb := tm_3_23 (List.mem_of_getElem? (i := 7) rfl) rfl
theorem tb_672 : Cond.fieldLink RX6 16 "LitCoast$Law" "clauses" "I" ∈ aTb := tm_3_24 (List.mem_of_getElem? (i := 0) rfl) rfl
theorem tb_673 : Cond.fieldLink RX0 25 "LitCoast$Law" "clauses" "I" ∈ aTb := tm_3_24 (List.mem_of_getElem? (i := 1) rfl) rfl
theorem tb_681 : Cond.arrayClass .byte ∈ aTb := tm_3_25 (List.mem_of_getElem? (i := 1) rfl) rfl
theorem tb_682 : Cond.methodLink RL 61 yX10_fault ∈ aTb := tm_3_25 (List.mem_of_getElem? (i := 2) rfl) rfl
theorem tb_683 : Cond.instanceMethod yX10_fault ∈ aTb := tm_3_25 (List.mem_of_getElem? (i := 3) rfl) rfl
theorem tb_684 : Cond.selects RX10 yX10_fault yX10_fault ∈ aTb := tm_3_25 (List.mem_of_getElem? (i := 4) rfl) rfl
theorem tb_686 : Cond.methodLink RL 65 yX10_learn ∈ aTb := tm_3_25 (List.mem_of_getElem? (i := 6) rfl) rfl
theorem tb_687 : Cond.instanceMethod yX10_learn ∈ aTb := tm_3_25 (List.mem_of_getElem? (i := 7) rfl) rfl
theorem tb_688 : Cond.selects RX10 yX10_learn yX10_learn ∈ aTb := tm_3_26 (List.mem_of_getElem? (i := 0) rfl) rfl
theorem tb_690 : Cond.methodLink RX10 184 yX0_ask ∈ aTb := tm_3_26 (List.mem_of_getElem? (i := 2) rfl) rfl
theorem tb_691 : Cond.instanceMethod yX0_ask ∈ aTb := tm_3_26 (List.mem_of_getElem? (i := 3) rfl) rfl
theorem tb_692 : Cond.selects RX0 yX0_ask yX0_ask ∈ aTb := tm_3_26 (List.mem_of_getElem? (i := 4) rfl) rfl
theorem tb_694 : Cond.methodLink RX0 21 yX0_fillWords ∈ aTb := tm_3_26 (List.mem_of_getElem? (i := 6) rfl) rfl
theorem tb_696 : Cond.instanceMethod yX0_fillWords ∈ aTb := tm_3_27 (List.mem_of_getElem? (i := 0) rfl) rfl
theorem tb_698 : Cond.methodLink RX0 67 yJ6_bitCount_0f7a4 ∈ aTb := tm_3_27 (List.mem_of_getElem? (i := 2) rfl) rfl
theorem tb_699 : Cond.static yJ6_bitCount_0f7a4 ∈ aTb := tm_3_27 (List.mem_of_getElem? (i := 3) rfl) rfl
theorem tb_701 : Cond.constant RJ6 265 (Int32.ofInt (1431655765)) ∈ aTb := tm_3_27 (List.mem_of_getElem? (i := 5) rfl) rfl
theorem tb_702 : Cond.constant RJ6 266 (Int32.ofInt (858993459)) ∈ aTb := tm_3_27 (List.mem_of_getElem? (i := 6) rfl) rfl
theorem tb_703 : Cond.constant RJ6 267 (Int32.ofInt (252645135)) ∈ aTb := tm_3_27 (List.mem_of_getElem? (i := 7) rfl) rfl
theorem tb_704 : Cond.methodLink RX0 35 yX0_isSo ∈ aTb := tm_3_28 (List.mem_of_getElem? (i := 0) rfl) rfl
theorem tb_706 : Cond.instanceMethod yX0_isSo ∈ aTb := tm_3_28 (List.mem_of_getElem? (i := 2) rfl) rfl
theorem tb_708 : Cond.methodLink RX0 39 yX0_works ∈ aTb := tm_3_28 (List.mem_of_getElem? (i := 4) rfl) rfl
theorem tb_710 : Cond.instanceMethod yX0_works ∈ aTb := tm_3_28 (List.mem_of_getElem? (i := 6) rfl) rfl
theorem tb_712 : Cond.methodLink RX0 47 Lib.Math.min.name ∈ aTb := tm_3_29 (List.mem_of_getElem? (i := 0) rfl) rfl
theorem tb_713 : Cond.methodLink RX0 53 Lib.Math.max.name ∈ aTb := tm_3_29 (List.mem_of_getElem? (i := 1) rfl) rfl
theorem tb_714 : Cond.methodLink RX0 56 yX0_join ∈ aTb := tm_3_29 (List.mem_of_getElem? (i := 2) rfl) rfl
theorem tb_716 : Cond.instanceMethod yX0_join ∈ aTb := tm_3_29 (List.mem_of_getElem? (i := 4) rfl) rfl
theorem tb_718 : Cond.constantLong RX0 60 (Int64.ofInt (1000000000)) ∈ aTb := tm_3_29 (List.mem_of_getElem? (i := 6) rfl) rfl
theorem tb_719 : Cond.constantLong RX0 62 (Int64.ofInt (-1000000000)) ∈ aTb := tm_3_29 (List.mem_of_getElem? (i := 7) rfl) rfl
theorem tb_720 : Cond.methodLink RL 69 yX10_next ∈ aTb := tm_4_0 (List.mem_of_getElem? (i := 0) rfl) rfl
theorem tb_721 : Cond.instanceMethod yX10_next ∈ aTb := tm_4_0 (List.mem_of_getElem? (i := 1) rfl) rfl
theorem tb_722 : Cond.selects RX10 yX10_next yX10_next ∈ aTb := tm_4_0 (List.mem_of_getElem? (i := 2) rfl) rfl
theorem tb_724 : Cond.methodLink RX10 188 yX10_isManner ∈ aTb := tm_4_0 (List.mem_of_getElem? (i := 4) rfl) rfl
theorem tb_725 : Cond.static yX10_isManner ∈ aTb := tm_4_0 (List.mem_of_getElem? (i := 5) rfl) rfl
theorem tb_727 : Cond.methodLink RX10 191 yX4_prepare ∈ aTb := tm_4_0 (List.mem_of_getElem? (i := 7) rfl) rfl
theorem tb_728 : Cond.instanceMethod yX4_prepare ∈ aTb := tm_4_1 (List.mem_of_getElem? (i := 0) rfl) rfl
theorem tb_729 : Cond.selects RX4 yX4_prepare yX4_prepare ∈ aTb := tm_4_1 (List.mem_of_getElem? (i := 1) rfl) rfl
theorem tb_731 : Cond.methodLink RX4 61 yX4_fillOil ∈ aTb := tm_4_1 (List.mem_of_getElem? (i := 3) rfl) rfl
theorem tb_732 : Cond.instanceMethod yX4_fillOil ∈ aTb := tm_4_1 (List.mem_of_getElem? (i := 4) rfl) rfl
theorem tb_733 : Cond.selects RX4 yX4_fillOil yX4_fillOil ∈ aTb := tm_4_1 (List.mem_of_getElem? (i := 5) rfl) rfl
theorem tb_735 : Cond.methodLink RX4 64 yX4_fillLasting ∈ aTb := tm_4_1 (List.mem_of_getElem? (i := 7) rfl) rfl
theorem tb_737 : Cond.instanceMethod yX4_fillLasting ∈ aTb := tm_4_2 (List.mem_of_getElem? (i := 1) rfl) rfl
theorem tb_739 : Cond.methodLink RX4 75 yX1_full ∈ aTb := tm_4_2 (List.mem_of_getElem? (i := 3) rfl) rfl
theorem tb_740 : Cond.methodLink RX4 86 yX5_fill ∈ aTb := tm_4_2 (List.mem_of_getElem? (i := 4) rfl) rfl
theorem tb_741 : Cond.instanceMethod yX5_fill ∈ aTb := tm_4_2 (List.mem_of_getElem? (i := 5) rfl) rfl
theorem tb_742 : Cond.selects RX5 yX5_fill yX5_fill ∈ aTb := tm_4_2 (List.mem_of_getElem? (i := 6) rfl) rfl
theorem tb_744 : Cond.methodLink RX5 18 Lib.Math.min.name ∈ aTb := tm_4_3 (List.mem_of_getElem? (i := 0) rfl) rfl
theorem tb_745 : Cond.methodLink RX5 24 yX5_fillBest ∈ aTb := tm_4_3 (List.mem_of_getElem? (i := 1) rfl) rfl
theorem tb_747 : Cond.instanceMethod yX5_fillBest ∈ aTb := tm_4_3 (List.mem_of_getElem? (i := 3) rfl) rfl
theorem tb_749 : Cond.methodLink RX5 28 yJ7_fill_53178 ∈ aTb := tm_4_3 (List.mem_of_getElem? (i := 5) rfl) rfl
theorem tb_750 : Cond.methodLink RX5 34 Lib.Math.max.name ∈ aTb := tm_4_3 (List.mem_of_getElem? (i := 6) rfl) rfl
theorem tb_751 : Cond.methodLink RX4 90 yX4_fillMean ∈ aTb := tm_4_3 (List.mem_of_getElem? (i := 7) rfl) rfl
theorem tb_753 : Cond.instanceMethod yX4_fillMean ∈ aTb := tm_4_4 (List.mem_of_getElem? (i := 1) rfl) rfl
theorem tb_755 : Cond.methodLink RX4 152 yX4_meanOf ∈ aTb := tm_4_4 (List.mem_of_getElem? (i := 3) rfl) rfl
theorem tb_757 : Cond.instanceMethod yX4_meanOf ∈ aTb := tm_4_4 (List.mem_of_getElem? (i := 5) rfl) rfl
theorem tb_759 : Cond.methodLink RX4 156 yX4_fillRichest ∈ aTb := tm_4_4 (List.mem_of_getElem? (i := 7) rfl) rfl
theorem tb_761 : Cond.instanceMethod yX4_fillRichest ∈ aTb := tm_4_5 (List.mem_of_getElem? (i := 1) rfl) rfl
theorem tb_763 : Cond.constantLong RX4 159 (Int64.ofInt (-1)) ∈ aTb := tm_4_5 (List.mem_of_getElem? (i := 3) rfl) rfl
theorem tb_764 : Cond.methodLink RX4 163 yJ7_fill_d0a16 ∈ aTb := tm_4_5 (List.mem_of_getElem? (i := 4) rfl) rfl
theorem tb_765 : Cond.static yJ7_fill_d0a16 ∈ aTb := tm_4_5 (List.mem_of_getElem? (i := 5) rfl) rfl
theorem tb_767 : Cond.methodLink RX4 111 yX1_canLight ∈ aTb := tm_4_5 (List.mem_of_getElem? (i := 7) rfl) rfl
theorem tb_768 : Cond.instanceMethod yX1_canLight ∈ aTb := tm_4_6 (List.mem_of_getElem? (i := 0) rfl) rfl
theorem tb_769 : Cond.selects RX1 yX1_canLight yX1_canLight ∈ aTb := tm_4_6 (List.mem_of_getElem? (i := 1) rfl) rfl
theorem tb_771 : Cond.methodLink RX4 97 Lib.MathLoose.max_long.x ∈ aTb := tm_4_6 (List.mem_of_getElem? (i := 3) rfl) rfl
theorem tb_772 : Cond.static Lib.MathLoose.max_long.x ∈ aTb := tm_4_6 (List.mem_of_getElem? (i := 4) rfl) rfl
theorem tb_773 : Cond.code Lib.MathLoose.max_long.x Lib.MathLoose.max_long.code 4 (some .long) ∈ aTb := tm_4_6 (List.mem_of_getElem? (i := 5) rfl) rfl
theorem tb_774 : Cond.methodLink RX4 161 Lib.Math.max.name ∈ aTb := tm_4_6 (List.mem_of_getElem? (i := 6) rfl) rfl
theorem tb_775 : Cond.methodLink RX10 194 yX4_choose ∈ aTb := tm_4_6 (List.mem_of_getElem? (i := 7) rfl) rfl
theorem tb_776 : Cond.instanceMethod yX4_choose ∈ aTb := tm_4_7 (List.mem_of_getElem? (i := 0) rfl) rfl
theorem tb_777 : Cond.selects RX4 yX4_choose yX4_choose ∈ aTb := tm_4_7 (List.mem_of_getElem? (i := 1) rfl) rfl
theorem tb_779 : Cond.methodLink RX4 102 yX4_chooseAll ∈ aTb := tm_4_7 (List.mem_of_getElem? (i := 3) rfl) rfl
theorem tb_780 : Cond.instanceMethod yX4_chooseAll ∈ aTb := tm_4_7 (List.mem_of_getElem? (i := 4) rfl) rfl
theorem tb_781 : Cond.selects RX4 yX4_chooseAll yX4_chooseAll ∈ aTb := tm_4_7 (List.mem_of_getElem? (i := 5) rfl) rfl
theorem tb_783 : Cond.methodLink RX4 106 yJ7_fill_53178 ∈ aTb := tm_4_7 (List.mem_of_getElem? (i := 7) rfl) rfl
theorem tb_784 : Cond.methodLink RX4 115 yX4_isBetter ∈ aTb := tm_4_8 (List.mem_of_getElem? (i := 0) rfl) rfl
theorem tb_786 : Cond.instanceMethod yX4_isBetter ∈ aTb := tm_4_8 (List.mem_of_getElem? (i := 2) rfl) rfl
theorem tb_788 : Cond.methodLink RX4 138 yJ6_bitCount_0f7a4 ∈ aTb := tm_4_8 (List.mem_of_getElem? (i := 4) rfl) rfl
theorem tb_789 : Cond.methodLink RL 74 yX10_ways ∈ aTb := tm_4_8 (List.mem_of_getElem? (i := 5) rfl) rfl
theorem tb_790 : Cond.instanceMethod yX10_ways ∈ aTb := tm_4_8 (List.mem_of_getElem? (i := 6) rfl) rfl
theorem tb_791 : Cond.selects RX10 yX10_ways yX10_ways ∈ aTb := tm_4_8 (List.mem_of_getElem? (i := 7) rfl) rfl
theorem tb_793 : Cond.methodLink RX10 198 yX1_countWays ∈ aTb := tm_4_9 (List.mem_of_getElem? (i := 1) rfl) rfl
theorem tb_794 : Cond.instanceMethod yX1_countWays ∈ aTb := tm_4_9 (List.mem_of_getElem? (i := 2) rfl) rfl
theorem tb_795 : Cond.selects RX1 yX1_countWays yX1_countWays ∈ aTb := tm_4_9 (List.mem_of_getElem? (i := 3) rfl) rfl
theorem tb_797 : Cond.methodLink RX1 54 yX1_canLight ∈ aTb := tm_4_9 (List.mem_of_getElem? (i := 5) rfl) rfl
theorem tb_798 : Cond.methodLink RL 78 yX10_lasts ∈ aTb := tm_4_9 (List.mem_of_getElem? (i := 6) rfl) rfl
theorem tb_799 : Cond.instanceMethod yX10_lasts ∈ aTb := tm_4_9 (List.mem_of_getElem? (i := 7) rfl) rfl
theorem tb_800 : Cond.selects RX10 yX10_lasts yX10_lasts ∈ aTb := tm_4_10 (List.mem_of_getElem? (i := 0) rfl) rfl
theorem tb_802 : Cond.methodLink RX10 201 yX4_lastingOf ∈ aTb := tm_4_10 (List.mem_of_getElem? (i := 2) rfl) rfl
theorem tb_803 : Cond.instanceMethod yX4_lastingOf ∈ aTb := tm_4_10 (List.mem_of_getElem? (i := 3) rfl) rfl
theorem tb_804 : Cond.selects RX4 yX4_lastingOf yX4_lastingOf ∈ aTb := tm_4_10 (List.mem_of_getElem? (i := 4) rfl) rfl
theorem tb_806 : Cond.methodLink RL 82 yX10_mean ∈ aTb := tm_4_10 (List.mem_of_getElem? (i := 6) rfl) rfl
theorem tb_807 : Cond.instanceMethod yX10_mean ∈ aTb := tm_4_10 (List.mem_of_getElem? (i := 7) rfl) rfl
theorem tb_808 : Cond.selects RX10 yX10_mean yX10_mean ∈ aTb := tm_4_11 (List.mem_of_getElem? (i := 0) rfl) rfl
theorem tb_810 : Cond.constantLong RX10 204 (Int64.ofInt (-1)) ∈ aTb := tm_4_11 (List.mem_of_getElem? (i := 2) rfl) rfl
theorem tb_811 : Cond.methodLink RX10 206 yX4_meanPart ∈ aTb := tm_4_11 (List.mem_of_getElem? (i := 3) rfl) rfl
theorem tb_812 : Cond.instanceMethod yX4_meanPart ∈ aTb := tm_4_11 (List.mem_of_getElem? (i := 4) rfl) rfl
theorem tb_813 : Cond.selects RX4 yX4_meanPart yX4_meanPart ∈ aTb := tm_4_11 (List.mem_of_getElem? (i := 5) rfl) rfl
theorem tb_815 : Cond.methodLink RX4 93 yX4_commonDivisor ∈ aTb := tm_4_11 (List.mem_of_getElem? (i := 7) rfl) rfl
theorem tb_816 : Cond.static yX4_commonDivisor ∈ aTb := tm_4_12 (List.mem_of_getElem? (i := 0) rfl) rfl
theorem tb_818 : Cond.methodLink RL 87 yX10_reached ∈ aTb := tm_4_12 (List.mem_of_getElem? (i := 2) rfl) rfl
theorem tb_819 : Cond.instanceMethod yX10_reached ∈ aTb := tm_4_12 (List.mem_of_getElem? (i := 3) rfl) rfl
theorem tb_820 : Cond.selects RX10 yX10_reached yX10_reached ∈ aTb := tm_4_12 (List.mem_of_getElem? (i := 4) rfl) rfl
theorem tb_822 : Cond.methodLink RX10 210 yX1_countReached ∈ aTb := tm_4_12 (List.mem_of_getElem? (i := 6) rfl) rfl
theorem tb_823 : Cond.instanceMethod yX1_countReached ∈ aTb := tm_4_12 (List.mem_of_getElem? (i := 7) rfl) rfl
theorem tb_824 : Cond.selects RX1 yX1_countReached yX1_countReached ∈ aTb := tm_4_13 (List.mem_of_getElem? (i := 0) rfl) rfl
theorem tb_826 : Cond.methodLink RX1 50 yX1_isReached ∈ aTb := tm_4_13 (List.mem_of_getElem? (i := 2) rfl) rfl
theorem tb_827 : Cond.instanceMethod yX1_isReached ∈ aTb := tm_4_13 (List.mem_of_getElem? (i := 3) rfl) rfl
theorem tb_828 : Cond.selects RX1 yX1_isReached yX1_isReached ∈ aTb := tm_4_13 (List.mem_of_getElem? (i := 4) rfl) rfl
theorem tb_830 : Cond.methodLink RX10 213 yX1_isReached ∈ aTb := tm_4_13 (List.mem_of_getElem? (i := 6) rfl) rfl
theorem tb_831 : Cond.methodLink RL 91 yX10_failing ∈ aTb := tm_4_13 (List.mem_of_getElem? (i := 7) rfl) rfl
theorem tb_832 : Cond.instanceMethod yX10_failing ∈ aTb := tm_4_14 (List.mem_of_getElem? (i := 0) rfl) rfl
theorem tb_833 : Cond.selects RX10 yX10_failing yX10_failing ∈ aTb := tm_4_14 (List.mem_of_getElem? (i := 1) rfl) rfl
theorem tb_835 : Cond.methodLink RX10 216 yX4_findFailing ∈ aTb := tm_4_14 (List.mem_of_getElem? (i := 3) rfl) rfl
theorem tb_836 : Cond.instanceMethod yX4_findFailing ∈ aTb := tm_4_14 (List.mem_of_getElem? (i := 4) rfl) rfl
theorem tb_837 : Cond.selects RX4 yX4_findFailing yX4_findFailing ∈ aTb := tm_4_14 (List.mem_of_getElem? (i := 5) rfl) rfl
theorem tb_839 : Cond.methodLink RX4 127 yX4_lastsBy ∈ aTb := tm_4_14 (List.mem_of_getElem? (i := 7) rfl) rfl
theorem tb_841 : Cond.instanceMethod yX4_lastsBy ∈ aTb := tm_4_15 (List.mem_of_getElem? (i := 1) rfl) rfl
theorem tb_843 : Cond.methodLink RL 95 yX10_hurts ∈ aTb := tm_4_15 (List.mem_of_getElem? (i := 3) rfl) rfl
theorem tb_844 : Cond.instanceMethod yX10_hurts ∈ aTb := tm_4_15 (List.mem_of_getElem? (i := 4) rfl) rfl
theorem tb_845 : Cond.selects RX10 yX10_hurts yX10_hurts ∈ aTb := tm_4_15 (List.mem_of_getElem? (i := 5) rfl) rfl
theorem tb_847 : Cond.methodLink RX10 222 yX4_lastingWithout ∈ aTb := tm_4_15 (List.mem_of_getElem? (i := 7) rfl) rfl
theorem tb_848 : Cond.instanceMethod yX4_lastingWithout ∈ aTb := tm_4_16 (List.mem_of_getElem? (i := 0) rfl) rfl
theorem tb_849 : Cond.selects RX4 yX4_lastingWithout yX4_lastingWithout ∈ aTb := tm_4_16 (List.mem_of_getElem? (i := 1) rfl) rfl
theorem tb_851 : Cond.methodLink RL 99 yX10_codes ∈ aTb := tm_4_16 (List.mem_of_getElem? (i := 3) rfl) rfl
theorem tb_852 : Cond.instanceMethod yX10_codes ∈ aTb := tm_4_16 (List.mem_of_getElem? (i := 4) rfl) rfl
theorem tb_853 : Cond.selects RX10 yX10_codes yX10_codes ∈ aTb := tm_4_16 (List.mem_of_getElem? (i := 5) rfl) rfl
theorem tb_855 : Cond.methodLink RX10 225 yX2_isSearched ∈ aTb := tm_4_16 (List.mem_of_getElem? (i := 7) rfl) rfl
theorem tb_856 : Cond.static yX2_isSearched ∈ aTb := tm_4_17 (List.mem_of_getElem? (i := 0) rfl) rfl
theorem tb_858 : Cond.methodLink RX10 229 yX2_countCodes ∈ aTb := tm_4_17 (List.mem_of_getElem? (i := 2) rfl) rfl
theorem tb_859 : Cond.instanceMethod yX2_countCodes ∈ aTb := tm_4_17 (List.mem_of_getElem? (i := 3) rfl) rfl
theorem tb_860 : Cond.selects RX2 yX2_countCodes yX2_countCodes ∈ aTb := tm_4_17 (List.mem_of_getElem? (i := 4) rfl) rfl
theorem tb_862 : Cond.methodLink RX2 35 yX2_pairOf ∈ aTb := tm_4_17 (List.mem_of_getElem? (i := 6) rfl) rfl
theorem tb_863 : Cond.static yX2_pairOf ∈ aTb := tm_4_17 (List.mem_of_getElem? (i := 7) rfl) rfl
theorem tb_865 : Cond.methodLink RX2 39 yX2_search ∈ aTb := tm_4_18 (List.mem_of_getElem? (i := 1) rfl) rfl
theorem tb_867 : Cond.instanceMethod yX2_search ∈ aTb := tm_4_18 (List.mem_of_getElem? (i := 3) rfl) rfl
theorem tb_869 : Cond.methodLink RX2 53 yJ7_fill_53178 ∈ aTb := tm_4_18 (List.mem_of_getElem? (i := 5) rfl) rfl
theorem tb_870 : Cond.constant RX2 59 (Int32.ofInt (65536)) ∈ aTb := tm_4_18 (List.mem_of_getElem? (i := 6) rfl) rfl
theorem tb_871 : Cond.methodLink RX2 60 yX5_fill ∈ aTb := tm_4_18 (List.mem_of_getElem? (i := 7) rfl) rfl
theorem tb_872 : Cond.methodLink RX2 66 yX2_namings ∈ aTb := tm_4_19 (List.mem_of_getElem? (i := 0) rfl) rfl
theorem tb_873 : Cond.static yX2_namings ∈ aTb := tm_4_19 (List.mem_of_getElem? (i := 1) rfl) rfl
theorem tb_875 : Cond.methodLink RX2 69 yX2_note ∈ aTb := tm_4_19 (List.mem_of_getElem? (i := 3) rfl) rfl
theorem tb_877 : Cond.instanceMethod yX2_note ∈ aTb := tm_4_19 (List.mem_of_getElem? (i := 5) rfl) rfl
theorem tb_879 : Cond.methodLink RX2 47 arraycopyName ∈ aTb := tm_4_19 (List.mem_of_getElem? (i := 7) rfl) rfl
theorem tb_880 : Cond.methodLink RX2 72 yX2_turnOn ∈ aTb := tm_4_20 (List.mem_of_getElem? (i := 0) rfl) rfl
theorem tb_882 : Cond.instanceMethod yX2_turnOn ∈ aTb := tm_4_20 (List.mem_of_getElem? (i := 2) rfl) rfl
theorem tb_884 : Cond.methodLink RX2 76 Lib.Math.min.name ∈ aTb := tm_4_20 (List.mem_of_getElem? (i := 4) rfl) rfl
theorem tb_885 : Cond.methodLink RX2 81 Lib.Math.max.name ∈ aTb := tm_4_20 (List.mem_of_getElem? (i := 5) rfl) rfl
theorem tb_886 : Cond.methodLink RL 103 yX10_make ∈ aTb := tm_4_20 (List.mem_of_getElem? (i := 6) rfl) rfl
theorem tb_887 : Cond.instanceMethod yX10_make ∈ aTb := tm_4_20 (List.mem_of_getElem? (i := 7) rfl) rfl
theorem tb_888 : Cond.selects RX10 yX10_make yX10_make ∈ aTb := tm_4_21 (List.mem_of_getElem? (i := 0) rfl) rfl
theorem tb_890 : Cond.methodLink RX10 232 yX2_copyFirst ∈ aTb := tm_4_21 (List.mem_of_getElem? (i := 2) rfl) rfl
theorem tb_891 : Cond.instanceMethod yX2_copyFirst ∈ aTb := tm_4_21 (List.mem_of_getElem? (i := 3) rfl) rfl
theorem tb_892 : Cond.selects RX2 yX2_copyFirst yX2_copyFirst ∈ aTb := tm_4_21 (List.mem_of_getElem? (i := 4) rfl) rfl
theorem tb_894 : Cond.methodLink RX2 43 yX2_countCodes ∈ aTb := tm_4_21 (List.mem_of_getElem? (i := 6) rfl) rfl

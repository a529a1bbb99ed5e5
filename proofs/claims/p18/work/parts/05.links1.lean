theorem km_L_123 : Cond.methodLink RL 123 yX10_all ∈ GT := GT_m5 140 (by decide +kernel) rfl
theorem km_L_126 : Cond.methodLink RL 126 yX11_all ∈ GT := GT_m8 118 (by decide +kernel) rfl
theorem km_L_127 : Cond.methodLink RL 127 yX10_verdict ∈ GT := GT_m5 144 (by decide +kernel) rfl
theorem km_L_130 : Cond.methodLink RL 130 yX11_verdict ∈ GT := GT_m7 28 (by decide +kernel) rfl
theorem km_L_131 : Cond.methodLink RL 131 yX10_letter ∈ GT := GT_m5 171 (by decide +kernel) rfl
theorem km_L_134 : Cond.methodLink RL 134 yX11_letter ∈ GT := GT_m7 32 (by decide +kernel) rfl
theorem km_L_135 : Cond.methodLink RL 135 yX10_wouldSet ∈ GT := GT_m5 189 (by decide +kernel) rfl
theorem km_L_138 : Cond.methodLink RL 138 yX11_wouldSet ∈ GT := GT_m8 122 (by decide +kernel) rfl
theorem km_L_139 : Cond.methodLink RL 139 yX10_wouldCut ∈ GT := GT_m5 197 (by decide +kernel) rfl
theorem km_L_142 : Cond.methodLink RL 142 yX11_wouldCut ∈ GT := GT_m8 130 (by decide +kernel) rfl
theorem km_L_143 : Cond.methodLink RL 143 yX10_leans ∈ GT := GT_m5 205 (by decide +kernel) rfl
theorem km_L_146 : Cond.methodLink RL 146 yX11_leans ∈ GT := GT_m8 134 (by decide +kernel) rfl
theorem km_L_147 : Cond.methodLink RL 147 yX10_least ∈ GT := GT_m5 234 (by decide +kernel) rfl
theorem km_L_150 : Cond.methodLink RL 150 yX11_least ∈ GT := GT_m8 142 (by decide +kernel) rfl
theorem km_L_151 : Cond.methodLink RL 151 yX10_depth ∈ GT := GT_m6 7 (by decide +kernel) rfl
theorem km_L_154 : Cond.methodLink RL 154 yX11_depth ∈ GT := GT_m8 146 (by decide +kernel) rfl
theorem km_L_155 : Cond.methodLink RL 155 yX10_since ∈ GT := GT_m6 11 (by decide +kernel) rfl
theorem km_L_158 : Cond.methodLink RL 158 yX11_since ∈ GT := GT_m8 150 (by decide +kernel) rfl
theorem km_L_159 : Cond.methodLink RL 159 yX10_count ∈ GT := GT_m6 15 (by decide +kernel) rfl
theorem km_L_162 : Cond.methodLink RL 162 yX11_count ∈ GT := GT_m8 155 (by decide +kernel) rfl
theorem kn_L_8 : Cond.classLink RL 8 RX10 ∈ GT := GT_m1 29 (by decide +kernel) rfl
theorem kn_L_20 : Cond.classLink RL 20 RX11 ∈ GT := GT_m6 104 (by decide +kernel) rfl
theorem kf_X11_9 : Cond.fieldLink RX11 9 "LateRulesModel" "rows" "[I" ∈ GT := GT_m6 112 (by decide +kernel) rfl
theorem kf_X11_15 : Cond.fieldLink RX11 15 "LateRulesModel" "begun" "[I" ∈ GT := GT_m6 113 (by decide +kernel) rfl
theorem kf_X11_18 : Cond.fieldLink RX11 18 "LateRulesModel" "marked" "[I" ∈ GT := GT_m6 114 (by decide +kernel) rfl
theorem kf_X11_21 : Cond.fieldLink RX11 21 "LateRulesModel" "ahead" "[I" ∈ GT := GT_m6 115 (by decide +kernel) rfl
theorem kf_X11_27 : Cond.fieldLink RX11 27 "LateRulesModel" "since" "[I" ∈ GT := GT_m6 119 (by decide +kernel) rfl
theorem kf_X11_30 : Cond.fieldLink RX11 30 "LateRulesModel" "counts" "[I" ∈ GT := GT_m6 120 (by decide +kernel) rfl
theorem kf_X11_33 : Cond.fieldLink RX11 33 "LateRulesModel" "rule" "[I" ∈ GT := GT_m6 121 (by decide +kernel) rfl
theorem kf_X11_36 : Cond.fieldLink RX11 36 "LateRulesModel" "states" "[I" ∈ GT := GT_m6 122 (by decide +kernel) rfl
theorem kf_X11_39 : Cond.fieldLink RX11 39 "LateRulesModel" "statesAhead" "[I" ∈ GT := GT_m6 123 (by decide +kernel) rfl
theorem kf_X11_42 : Cond.fieldLink RX11 42 "LateRulesModel" "statesBegun" "[I" ∈ GT := GT_m6 124 (by decide +kernel) rfl
theorem kf_X11_45 : Cond.fieldLink RX11 45 "LateRulesModel" "statesMark" "[I" ∈ GT := GT_m6 125 (by decide +kernel) rfl
theorem kf_X11_48 : Cond.fieldLink RX11 48 "LateRulesModel" "order" "[I" ∈ GT := GT_m6 126 (by decide +kernel) rfl
theorem kf_X11_51 : Cond.fieldLink RX11 51 "LateRulesModel" "foundRule" "[I" ∈ GT := GT_m6 128 (by decide +kernel) rfl
theorem kf_X11_54 : Cond.fieldLink RX11 54 "LateRulesModel" "foundSubject" "[I" ∈ GT := GT_m6 129 (by decide +kernel) rfl
theorem kf_X11_58 : Cond.fieldLink RX11 58 "LateRulesModel" "verdictRule" "I" ∈ GT := GT_m6 131 (by decide +kernel) rfl
theorem kf_X11_62 : Cond.fieldLink RX11 62 "LateRulesModel" "verdictSubject" "I" ∈ GT := GT_m6 132 (by decide +kernel) rfl
theorem kf_X11_65 : Cond.fieldLink RX11 65 "LateRulesModel" "words" "[B" ∈ GT := GT_m6 133 (by decide +kernel) rfl
theorem kf_X11_69 : Cond.fieldLink RX11 69 "LateRulesModel" "ruleWord" "[C" ∈ GT := GT_m6 135 (by decide +kernel) rfl
theorem kf_X11_73 : Cond.fieldLink RX11 73 "LateRulesModel" "uniqueWord" "[C" ∈ GT := GT_m6 136 (by decide +kernel) rfl
theorem kf_X11_76 : Cond.fieldLink RX11 76 "LateRulesModel" "refersWord" "[C" ∈ GT := GT_m6 137 (by decide +kernel) rfl
theorem kf_X11_79 : Cond.fieldLink RX11 79 "LateRulesModel" "rangeWord" "[C" ∈ GT := GT_m6 138 (by decide +kernel) rfl
theorem kf_X11_82 : Cond.fieldLink RX11 82 "LateRulesModel" "sumWord" "[C" ∈ GT := GT_m6 139 (by decide +kernel) rfl
theorem kf_X11_85 : Cond.fieldLink RX11 85 "LateRulesModel" "countWord" "[C" ∈ GT := GT_m6 140 (by decide +kernel) rfl
theorem kf_X11_88 : Cond.fieldLink RX11 88 "LateRulesModel" "treeWord" "[C" ∈ GT := GT_m6 141 (by decide +kernel) rfl
theorem kf_X11_91 : Cond.fieldLink RX11 91 "LateRulesModel" "cascadeWord" "[C" ∈ GT := GT_m6 142 (by decide +kernel) rfl
theorem kf_X11_94 : Cond.fieldLink RX11 94 "LateRulesModel" "clearWord" "[C" ∈ GT := GT_m6 143 (by decide +kernel) rfl
theorem kf_X11_97 : Cond.fieldLink RX11 97 "LateRulesModel" "lateWord" "[C" ∈ GT := GT_m6 144 (by decide +kernel) rfl
theorem kf_X11_100 : Cond.fieldLink RX11 100 "LateRulesModel" "rankWord" "[C" ∈ GT := GT_m6 145 (by decide +kernel) rfl
theorem kf_X11_103 : Cond.fieldLink RX11 103 "LateRulesModel" "text" "[B" ∈ GT := GT_m6 146 (by decide +kernel) rfl
theorem kf_X11_106 : Cond.fieldLink RX11 106 "LateRulesModel" "draft" "[I" ∈ GT := GT_m6 151 (by decide +kernel) rfl
theorem kf_X11_109 : Cond.fieldLink RX11 109 "LateRulesModel" "askedRule" "[I" ∈ GT := GT_m6 152 (by decide +kernel) rfl
theorem kf_X11_112 : Cond.fieldLink RX11 112 "LateRulesModel" "askedSubject" "[I" ∈ GT := GT_m6 153 (by decide +kernel) rfl
theorem kf_X11_115 : Cond.fieldLink RX11 115 "LateRulesModel" "askedFailed" "I" ∈ GT := GT_m6 155 (by decide +kernel) rfl
theorem kf_X11_118 : Cond.fieldLink RX11 118 "LateRulesModel" "goTable" "[I" ∈ GT := GT_m6 158 (by decide +kernel) rfl
theorem kf_X11_121 : Cond.fieldLink RX11 121 "LateRulesModel" "goKey" "[I" ∈ GT := GT_m6 159 (by decide +kernel) rfl
theorem kf_X11_124 : Cond.fieldLink RX11 124 "LateRulesModel" "goRule" "[I" ∈ GT := GT_m6 160 (by decide +kernel) rfl
theorem kf_X11_127 : Cond.fieldLink RX11 127 "LateRulesModel" "goNext" "[I" ∈ GT := GT_m6 161 (by decide +kernel) rfl
theorem kf_X11_130 : Cond.fieldLink RX11 130 "LateRulesModel" "leaning" "[Z" ∈ GT := GT_m6 162 (by decide +kernel) rfl
theorem kf_X11_134 : Cond.fieldLink RX11 134 "LateRulesModel" "thrown" "I" ∈ GT := GT_m6 111 (by decide +kernel) rfl
theorem kf_X11_197 : Cond.fieldLink RX11 197 "LateRulesModel" "ordered" "I" ∈ GT := GT_m6 127 (by decide +kernel) rfl
theorem kf_X11_203 : Cond.fieldLink RX11 203 "LateRulesModel" "found" "I" ∈ GT := GT_m6 130 (by decide +kernel) rfl
theorem kf_X11_206 : Cond.fieldLink RX11 206 "LateRulesModel" "within" "Z" ∈ GT := GT_m6 117 (by decide +kernel) rfl
theorem kf_X11_224 : Cond.fieldLink RX11 224 "LateRulesModel" "wordMany" "I" ∈ GT := GT_m6 134 (by decide +kernel) rfl
theorem kf_X11_245 : Cond.fieldLink RX11 245 "LateRulesModel" "texted" "I" ∈ GT := GT_m6 147 (by decide +kernel) rfl
theorem kf_X11_256 : Cond.fieldLink RX11 256 "LateRulesModel" "reading" "I" ∈ GT := GT_m6 148 (by decide +kernel) rfl
theorem kf_X11_262 : Cond.fieldLink RX11 262 "LateRulesModel" "isGood" "Z" ∈ GT := GT_m6 150 (by decide +kernel) rfl
theorem kf_X11_265 : Cond.fieldLink RX11 265 "LateRulesModel" "place" "I" ∈ GT := GT_m6 149 (by decide +kernel) rfl
theorem kf_X11_316 : Cond.fieldLink RX11 316 "LateRulesModel" "touched" "I" ∈ GT := GT_m6 156 (by decide +kernel) rfl
theorem kf_X11_322 : Cond.fieldLink RX11 322 "LateRulesModel" "failing" "I" ∈ GT := GT_m6 157 (by decide +kernel) rfl
theorem kf_X11_340 : Cond.fieldLink RX11 340 "LateRulesModel" "askedMany" "I" ∈ GT := GT_m6 154 (by decide +kernel) rfl
theorem kf_X11_373 : Cond.fieldLink RX11 373 "LateRulesModel" "marks" "I" ∈ GT := GT_m6 118 (by decide +kernel) rfl
theorem km_X11_3 : Cond.methodLink RX11 3 ⟨"java/lang/Object", "<init>", "()V"⟩ ∈ GT := GT_m6 109 (by decide +kernel) rfl
theorem km_X11_139 : Cond.methodLink RX11 139 yX11_in ∈ GT := GT_m7 36 (by decide +kernel) rfl
theorem km_X11_149 : Cond.methodLink RX11 149 yX11_isTable ∈ GT := GT_m7 205 (by decide +kernel) rfl
theorem km_X11_153 : Cond.methodLink RX11 153 yX11_isKey ∈ GT := GT_m7 133 (by decide +kernel) rfl
theorem km_X11_156 : Cond.methodLink RX11 156 yX11_at ∈ GT := GT_m7 130 (by decide +kernel) rfl
theorem km_X11_168 : Cond.methodLink RX11 168 yX11_ofKeys ∈ GT := GT_m7 115 (by decide +kernel) rfl
theorem km_X11_186 : Cond.methodLink RX11 186 yX11_placeOf ∈ GT := GT_m7 190 (by decide +kernel) rfl
theorem km_X11_272 : Cond.methodLink RX11 272 yX11_isLetter ∈ GT := GT_m7 79 (by decide +kernel) rfl
theorem km_X11_275 : Cond.methodLink RX11 275 yX11_isDigit ∈ GT := GT_m7 92 (by decide +kernel) rfl
theorem km_X11_309 : Cond.methodLink RX11 309 yX11_copy ∈ GT := GT_m7 226 (by decide +kernel) rfl
theorem km_X11_343 : Cond.methodLink RX11 343 yX11_isValue ∈ GT := GT_m7 209 (by decide +kernel) rfl
theorem km_X11_356 : Cond.methodLink RX11 356 yX11_isColumn ∈ GT := GT_m8 25 (by decide +kernel) rfl
theorem km_X11_162 : Cond.methodLink RX11 162 yX11_isRule ∈ GT := GT_m7 102 (by decide +kernel) rfl
theorem km_X11_165 : Cond.methodLink RX11 165 yX11_of ∈ GT := GT_m7 111 (by decide +kernel) rfl
theorem km_X11_171 : Cond.methodLink RX11 171 yX11_many ∈ GT := GT_m7 141 (by decide +kernel) rfl
theorem km_X11_176 : Cond.methodLink RX11 176 yX11_sumOf ∈ GT := GT_m7 146 (by decide +kernel) rfl
theorem km_X11_179 : Cond.methodLink RX11 179 yX11_firstSubject ∈ GT := GT_m7 107 (by decide +kernel) rfl
theorem km_X11_183 : Cond.methodLink RX11 183 yX11_lastSubject ∈ GT := GT_m7 118 (by decide +kernel) rfl
theorem km_X11_189 : Cond.methodLink RX11 189 yX11_stateOf ∈ GT := GT_m7 137 (by decide +kernel) rfl
theorem km_X11_193 : Cond.methodLink RX11 193 yX11_isRing ∈ GT := GT_m7 126 (by decide +kernel) rfl
theorem km_X11_200 : Cond.methodLink RX11 200 yX11_layOrder ∈ GT := GT_m7 197 (by decide +kernel) rfl
theorem km_X11_210 : Cond.methodLink RX11 210 yX11_layStates ∈ GT := GT_m7 186 (by decide +kernel) rfl
theorem km_X11_214 : Cond.methodLink RX11 214 yX11_findUnlike ∈ GT := GT_m7 193 (by decide +kernel) rfl
theorem km_X11_218 : Cond.methodLink RX11 218 yX11_findQueue ∈ GT := GT_m7 182 (by decide +kernel) rfl
theorem km_X11_221 : Cond.methodLink RX11 221 yX11_fails ∈ GT := GT_m7 122 (by decide +kernel) rfl
theorem km_X11_227 : Cond.methodLink RX11 227 yX11_puts ∈ GT := GT_m7 158 (by decide +kernel) rfl
theorem km_X11_231 : Cond.methodLink RX11 231 yX11_nothing ∈ GT := GT_m7 51 (by decide +kernel) rfl
theorem km_X11_234 : Cond.methodLink RX11 234 yX11_putWord ∈ GT := GT_m7 154 (by decide +kernel) rfl
theorem km_X11_238 : Cond.methodLink RX11 238 yX11_putNumber ∈ GT := GT_m7 162 (by decide +kernel) rfl
theorem km_X11_241 : Cond.methodLink RX11 241 yX11_wordOf ∈ GT := GT_m7 63 (by decide +kernel) rfl
theorem km_X11_259 : Cond.methodLink RX11 259 yX11_signAt ∈ GT := GT_m7 75 (by decide +kernel) rfl
theorem km_X11_268 : Cond.methodLink RX11 268 yX11_next ∈ GT := GT_m7 71 (by decide +kernel) rfl
theorem km_X11_279 : Cond.methodLink RX11 279 yX11_wrong ∈ GT := GT_m7 84 (by decide +kernel) rfl
theorem km_X11_282 : Cond.methodLink RX11 282 yX11_isWord ∈ GT := GT_m7 67 (by decide +kernel) rfl
theorem km_X11_286 : Cond.methodLink RX11 286 yX11_kindHere ∈ GT := GT_m7 59 (by decide +kernel) rfl
theorem km_X11_289 : Cond.methodLink RX11 289 yX11_number ∈ GT := GT_m7 88 (by decide +kernel) rfl
theorem km_X11_292 : Cond.methodLink RX11 292 yX11_read ∈ GT := GT_m7 55 (by decide +kernel) rfl
theorem km_X11_296 : Cond.methodLink RX11 296 yX11_freeRule ∈ GT := GT_m7 98 (by decide +kernel) rfl
theorem km_X11_299 : Cond.methodLink RX11 299 yX11_failed ∈ GT := GT_m7 150 (by decide +kernel) rfl
theorem km_X11_303 : Cond.methodLink RX11 303 yX11_ruleMany ∈ GT := GT_m7 170 (by decide +kernel) rfl
theorem km_X11_306 : Cond.methodLink RX11 306 yX11_inQueue ∈ GT := GT_m7 178 (by decide +kernel) rfl
theorem km_X11_313 : Cond.methodLink RX11 313 yX11_firstFailing ∈ GT := GT_m8 1 (by decide +kernel) rfl
theorem km_X11_319 : Cond.methodLink RX11 319 yX11_asks ∈ GT := GT_m7 237 (by decide +kernel) rfl
theorem km_X11_325 : Cond.methodLink RX11 325 yX11_refuses ∈ GT := GT_m7 214 (by decide +kernel) rfl
theorem km_X11_328 : Cond.methodLink RX11 328 yX11_look ∈ GT := GT_m7 233 (by decide +kernel) rfl
theorem km_X11_331 : Cond.methodLink RX11 331 yX11_goesBack ∈ GT := GT_m8 5 (by decide +kernel) rfl
theorem km_X11_334 : Cond.methodLink RX11 334 yX11_moves ∈ GT := GT_m8 9 (by decide +kernel) rfl
theorem km_X11_337 : Cond.methodLink RX11 337 yX11_takeAsked ∈ GT := GT_m8 13 (by decide +kernel) rfl
theorem km_X11_346 : Cond.methodLink RX11 346 yX11_isRow ∈ GT := GT_m7 218 (by decide +kernel) rfl
theorem km_X11_350 : Cond.methodLink RX11 350 yX11_start ∈ GT := GT_m7 222 (by decide +kernel) rfl
theorem km_X11_353 : Cond.methodLink RX11 353 yX11_settles ∈ GT := GT_m7 229 (by decide +kernel) rfl
theorem km_X11_359 : Cond.methodLink RX11 359 yX11_whyNotSet ∈ GT := GT_m8 21 (by decide +kernel) rfl
theorem km_X11_363 : Cond.methodLink RX11 363 yX11_goes ∈ GT := GT_m8 36 (by decide +kernel) rfl
theorem km_X11_367 : Cond.methodLink RX11 367 yX11_isFor ∈ GT := GT_m8 40 (by decide +kernel) rfl
theorem km_X11_370 : Cond.methodLink RX11 370 yX11_cutAll ∈ GT := GT_m8 32 (by decide +kernel) rfl
theorem km_X11_376 : Cond.methodLink RX11 376 yX11_rowMany ∈ GT := GT_m8 52 (by decide +kernel) rfl
theorem km_X11_379 : Cond.methodLink RX11 379 yX11_queueMany ∈ GT := GT_m8 64 (by decide +kernel) rfl
theorem km_X11_382 : Cond.methodLink RX11 382 yX11_isMark ∈ GT := GT_m8 76 (by decide +kernel) rfl
theorem km_X11_389 : Cond.methodLink RX11 389 yX11_wouldTell ∈ GT := GT_m8 126 (by decide +kernel) rfl
theorem km_X11_392 : Cond.methodLink RX11 392 yX11_leansOn ∈ GT := GT_m8 138 (by decide +kernel) rfl
theorem km_X11_398 : Cond.methodLink RX11 398 yX11_lateMany ∈ GT := GT_m8 159 (by decide +kernel) rfl
theorem kc_X11_57 : Cond.constant RX11 57 (-2147483648) ∈ GT := GT_m6 110 (by decide +kernel) rfl
theorem kc_X11_175 : Cond.constant RX11 175 (100000) ∈ GT := GT_m7 145 (by decide +kernel) rfl
theorem kc_X11_137 : Cond.constantLong RX11 137 (2) ∈ GT := GT_m7 208 (by decide +kernel) rfl
theorem kc_X11_143 : Cond.constantLong RX11 143 (29) ∈ GT := GT_m7 136 (by decide +kernel) rfl
theorem kc_X11_145 : Cond.constantLong RX11 145 (-99) ∈ GT := GT_m7 212 (by decide +kernel) rfl
theorem kc_X11_147 : Cond.constantLong RX11 147 (99) ∈ GT := GT_m7 213 (by decide +kernel) rfl
theorem kc_X11_160 : Cond.constantLong RX11 160 (11) ∈ GT := GT_m7 106 (by decide +kernel) rfl
theorem kc_X11_248 : Cond.constantLong RX11 248 (97) ∈ GT := GT_m7 82 (by decide +kernel) rfl
theorem kc_X11_250 : Cond.constantLong RX11 250 (122) ∈ GT := GT_m7 83 (by decide +kernel) rfl
theorem kc_X11_252 : Cond.constantLong RX11 252 (48) ∈ GT := GT_m7 95 (by decide +kernel) rfl
theorem kc_X11_254 : Cond.constantLong RX11 254 (57) ∈ GT := GT_m7 96 (by decide +kernel) rfl
theorem kc_X11_385 : Cond.constantLong RX11 385 (9) ∈ GT := GT_m8 92 (by decide +kernel) rfl
theorem kc_X11_387 : Cond.constantLong RX11 387 (3) ∈ GT := GT_m8 117 (by decide +kernel) rfl
theorem kc_X11_396 : Cond.constantLong RX11 396 (6) ∈ GT := GT_m8 154 (by decide +kernel) rfl
theorem kc_X11_401 : Cond.constantLong RX11 401 (4) ∈ GT := GT_m8 163 (by decide +kernel) rfl
theorem kc_X11_403 : Cond.constantLong RX11 403 (7) ∈ GT := GT_m8 164 (by decide +kernel) rfl
theorem kc_X11_278 : Cond.constant RX11 278 (99999) ∈ GT := GT_m7 97 (by decide +kernel) rfl
theorem kf_X11_24 : Cond.fieldLink RX11 24 "LateRulesModel" "paper" "[I" ∈ GT := GT_m6 116 (by decide +kernel) rfl
theorem kf_J5_15 : Cond.fieldLink RJ5 15 "java/lang/AbstractStringBuilder" "value" "[B" ∈ GT := GT_m1 222 (by decide +kernel) rfl
theorem kf_J5_22 : Cond.fieldLink RJ5 22 "java/lang/AbstractStringBuilder" "coder" "B" ∈ GT := GT_m1 223 (by decide +kernel) rfl
theorem kf_J5_79 : Cond.fieldLink RJ5 79 "java/lang/AbstractStringBuilder" "count" "I" ∈ GT := GT_m1 225 (by decide +kernel) rfl
theorem km_J5_3 : Cond.methodLink RJ5 3 ⟨"java/lang/Object", "<init>", "()V"⟩ ∈ GT := GT_m1 212 (by decide +kernel) rfl
theorem km_J5_26 : Cond.methodLink RJ5 26 yJ2_newBytesFor_77867 ∈ GT := GT_m1 215 (by decide +kernel) rfl
theorem km_J5_108 : Cond.methodLink RJ5 108 yJ7_copyOf_9075b ∈ GT := GT_m2 121 (by decide +kernel) rfl
theorem km_J5_114 : Cond.methodLink RJ5 114 yJ8_newLength_cabcc ∈ GT := GT_m2 110 (by decide +kernel) rfl
theorem km_J5_125 : Cond.methodLink RJ5 125 yJ1_inflate_0e8fd ∈ GT := GT_m4 26 (by decide +kernel) rfl
theorem km_J5_133 : Cond.methodLink RJ5 133 yJ1_fillNull_b72d1 ∈ GT := GT_m2 142 (by decide +kernel) rfl
theorem km_J5_137 : Cond.methodLink RJ5 137 yJ2_fillNull_b72d1 ∈ GT := GT_m2 151 (by decide +kernel) rfl
theorem km_J5_138 : Cond.methodLink RJ5 138 yJ9_min_7cf53 ∈ GT := GT_m5 186 (by decide +kernel) rfl
theorem km_J5_144 : Cond.methodLink RJ5 144 yJ0_checkIndex_df160 ∈ GT := GT_m5 187 (by decide +kernel) rfl
theorem km_J5_148 : Cond.methodLink RJ5 148 yJ2_getChar_3b067 ∈ GT := GT_m5 188 (by decide +kernel) rfl
theorem km_J5_191 : Cond.methodLink RJ5 191 yJ1_canEncode_fc78d ∈ GT := GT_m4 79 (by decide +kernel) rfl
theorem km_J5_197 : Cond.methodLink RJ5 197 yJ2_putCharSB_b72d1 ∈ GT := GT_m4 82 (by decide +kernel) rfl
theorem km_J5_226 : Cond.methodLink RJ5 226 yJ2_putCharsAt_cd4e5 ∈ GT := GT_m3 237 (by decide +kernel) rfl
theorem km_J5_245 : Cond.methodLink RJ5 245 yJ6_stringSize_0f7a4 ∈ GT := GT_m4 54 (by decide +kernel) rfl
theorem km_J5_248 : Cond.methodLink RJ5 248 yJ6_getChars_ba4f3 ∈ GT := GT_m4 57 (by decide +kernel) rfl
theorem km_J5_251 : Cond.methodLink RJ5 251 yJ2_getChars_46870 ∈ GT := GT_m4 64 (by decide +kernel) rfl
theorem km_J5_32 : Cond.methodLink RJ5 32 yJ0_length_8abf5 ∈ GT := GT_m4 12 (by decide +kernel) rfl
theorem km_J5_40 : Cond.methodLink RJ5 40 yJ0_coder_7d493 ∈ GT := GT_m4 21 (by decide +kernel) rfl
theorem km_J5_83 : Cond.methodLink RJ5 83 yJ5_isLatin1_aae02 ∈ GT := GT_m2 137 (by decide +kernel) rfl
theorem km_J5_100 : Cond.methodLink RJ5 100 yJ5_ensureCapacityInternal_d00df ∈ GT := GT_m2 102 (by decide +kernel) rfl
theorem km_J5_104 : Cond.methodLink RJ5 104 yJ5_newCapacity_0f7a4 ∈ GT := GT_m2 106 (by decide +kernel) rfl
theorem km_J5_195 : Cond.methodLink RJ5 195 yJ5_inflate_da8c8 ∈ GT := GT_m4 22 (by decide +kernel) rfl
theorem km_J5_204 : Cond.methodLink RJ5 204 yJ5_appendNull_278bc ∈ GT := GT_m3 233 (by decide +kernel) rfl
theorem km_J5_208 : Cond.methodLink RJ5 208 yJ5_putStringAt_47b60 ∈ GT := GT_m4 13 (by decide +kernel) rfl
theorem km_J5_397 : Cond.methodLink RJ5 397 yJ5_inflateIfNeededFor_a7421 ∈ GT := GT_m4 17 (by decide +kernel) rfl
theorem km_J5_399 : Cond.methodLink RJ5 399 yJ0_getBytes_840e7 ∈ GT := GT_m4 41 (by decide +kernel) rfl
theorem kc_J5_39 : Cond.constant RJ5 39 (2147483647) ∈ GT := GT_m2 120 (by decide +kernel) rfl
theorem kf_J5_73 : Cond.fieldLink RJ5 73 "java/lang/AbstractStringBuilder" "maybeLatin1" "Z" ∈ GT := GT_m1 224 (by decide +kernel) rfl
theorem kc_J6_265 : Cond.constant RJ6 265 (1431655765) ∈ GT := GT_m5 56 (by decide +kernel) rfl
theorem kc_J6_266 : Cond.constant RJ6 266 (858993459) ∈ GT := GT_m5 57 (by decide +kernel) rfl
theorem kc_J6_267 : Cond.constant RJ6 267 (252645135) ∈ GT := GT_m5 58 (by decide +kernel) rfl
theorem kf_J0_9 : Cond.fieldLink RJ0 9 "java/lang/String" "value" "[B" ∈ GT := GT_m8 195 (by decide +kernel) rfl
theorem kf_J0_15 : Cond.fieldLink RJ0 15 "java/lang/String" "coder" "B" ∈ GT := GT_m8 196 (by decide +kernel) rfl
theorem km_J0_106 : Cond.methodLink RJ0 106 yJ1_inflate_0e8fd ∈ GT := GT_m4 46 (by decide +kernel) rfl
theorem km_J0_212 : Cond.methodLink RJ0 212 ⟨RJ10, "arraycopy", "(Ljava/lang/Object;ILjava/lang/Object;II)V"⟩ ∈ GT := GT_m4 45 (by decide +kernel) rfl
theorem km_J0_495 : Cond.methodLink RJ0 495 yJ1_charAt_3b067 ∈ GT := GT_m2 218 (by decide +kernel) rfl
theorem km_J0_498 : Cond.methodLink RJ0 498 yJ2_charAt_3b067 ∈ GT := GT_m2 229 (by decide +kernel) rfl
theorem km_J0_1059 : Cond.methodLink RJ0 1059 yJ3_checkIndex_8e157 ∈ GT := GT_m2 226 (by decide +kernel) rfl
theorem km_J0_1062 : Cond.methodLink RJ0 1062 yJ3_checkFromToIndex_8c36e ∈ GT := GT_m4 6 (by decide +kernel) rfl
theorem km_J0_1065 : Cond.methodLink RJ0 1065 yJ3_checkFromIndexSize_8c36e ∈ GT := GT_m4 38 (by decide +kernel) rfl
theorem km_J0_335 : Cond.methodLink RJ0 335 yJ0_coder_7d493 ∈ GT := GT_m2 205 (by decide +kernel) rfl
theorem km_J0_492 : Cond.methodLink RJ0 492 yJ0_isLatin1_aae02 ∈ GT := GT_m2 214 (by decide +kernel) rfl
theorem km_J4_1 : Cond.methodLink RJ4 1 yJ5_init_d00df ∈ GT := GT_m1 209 (by decide +kernel) rfl
theorem km_J4_29 : Cond.methodLink RJ4 29 yJ5_append_cf1ce ∈ GT := GT_m3 230 (by decide +kernel) rfl
theorem km_J4_50 : Cond.methodLink RJ4 50 yJ5_append_3fe6f ∈ GT := GT_m4 76 (by decide +kernel) rfl
theorem km_J4_53 : Cond.methodLink RJ4 53 yJ5_append_c97b9 ∈ GT := GT_m4 51 (by decide +kernel) rfl
theorem km_J4_329 : Cond.methodLink RJ4 329 yJ5_charAt_5068e ∈ GT := GT_m5 183 (by decide +kernel) rfl
theorem km_J4_333 : Cond.methodLink RJ4 333 yJ5_setLength_d00df ∈ GT := GT_m2 99 (by decide +kernel) rfl
theorem km_J4_343 : Cond.methodLink RJ4 343 yJ5_length_8abf5 ∈ GT := GT_m5 156 (by decide +kernel) rfl
theorem km_J1_9 : Cond.methodLink RJ1 9 yJ0_checkIndex_df160 ∈ GT := GT_m2 221 (by decide +kernel) rfl
theorem km_J1_236 : Cond.methodLink RJ1 236 yJ7_fill_eb02e ∈ GT := GT_m2 145 (by decide +kernel) rfl
theorem km_J1_240 : Cond.methodLink RJ1 240 yJ2_inflate_0e8fd ∈ GT := GT_m4 29 (by decide +kernel) rfl
theorem km_J2_11 : Cond.methodLink RJ2 11 yJ2_newBytesLength_0f7a4 ∈ GT := GT_m1 218 (by decide +kernel) rfl
theorem km_J2_48 : Cond.methodLink RJ2 48 yJ2_length_9d52b ∈ GT := GT_m2 235 (by decide +kernel) rfl
theorem km_J2_67 : Cond.methodLink RJ2 67 yJ2_checkIndex_2214a ∈ GT := GT_m2 232 (by decide +kernel) rfl
theorem km_J2_71 : Cond.methodLink RJ2 71 yJ2_getChar_3b067 ∈ GT := GT_m2 239 (by decide +kernel) rfl
theorem km_J2_96 : Cond.methodLink RJ2 96 yJ2_checkBoundsBeginEnd_d044e ∈ GT := GT_m4 0 (by decide +kernel) rfl
theorem km_J2_111 : Cond.methodLink RJ2 111 yJ2_putChar_b72d1 ∈ GT := GT_m4 9 (by decide +kernel) rfl
theorem km_J2_173 : Cond.methodLink RJ2 173 yJ2_checkBoundsOffCount_d044e ∈ GT := GT_m4 32 (by decide +kernel) rfl
theorem km_J2_241 : Cond.methodLink RJ2 241 yJ0_checkBoundsBeginEnd_23922 ∈ GT := GT_m4 3 (by decide +kernel) rfl
theorem km_J2_380 : Cond.methodLink RJ2 380 yJ7_fill_eb02e ∈ GT := GT_m2 154 (by decide +kernel) rfl
theorem km_J2_393 : Cond.methodLink RJ2 393 yJ2_getChars_ba4f3 ∈ GT := GT_m4 67 (by decide +kernel) rfl
theorem km_J2_414 : Cond.methodLink RJ2 414 yJ0_checkIndex_df160 ∈ GT := GT_m2 238 (by decide +kernel) rfl
theorem km_J2_419 : Cond.methodLink RJ2 419 yJ0_checkBoundsOffCount_cabcc ∈ GT := GT_m4 35 (by decide +kernel) rfl
theorem kc_J2_20 : Cond.constant RJ2 20 (1073741823) ∈ GT := GT_m1 221 (by decide +kernel) rfl
theorem km_J7_13 : Cond.methodLink RJ7 13 yJ7_rangeCheck_23922 ∈ GT := GT_m2 148 (by decide +kernel) rfl
theorem km_J7_150 : Cond.methodLink RJ7 150 ⟨RJ10, "arraycopy", "(Ljava/lang/Object;ILjava/lang/Object;II)V"⟩ ∈ GT := GT_m2 134 (by decide +kernel) rfl
theorem km_J7_304 : Cond.methodLink RJ7 304 yJ9_min_7cf53 ∈ GT := GT_m2 131 (by decide +kernel) rfl
theorem km_J7_310 : Cond.methodLink RJ7 310 ⟨"[B", "clone", "()Ljava/lang/Object;"⟩ ∈ GT := GT_m2 124 (by decide +kernel) rfl
theorem km_J8_194 : Cond.methodLink RJ8 194 yJ9_max_7cf53 ∈ GT := GT_m2 113 (by decide +kernel) rfl
theorem km_J8_201 : Cond.methodLink RJ8 201 yJ8_hugeLength_7cf53 ∈ GT := GT_m2 117 (by decide +kernel) rfl
theorem kc_J8_200 : Cond.constant RJ8 200 (2147483639) ∈ GT := GT_m2 116 (by decide +kernel) rfl
set_option maxRecDepth 100000 in
theorem mv_J0_charAt_5068e : xcV yJ0_charAt_5068e RJ0 cJ0_charAt_5068e 2 (some .char) 1 := ⟨⟨GT_m2 213 rfl rfl, GT_m2 211 (by decide +kernel) rfl, GT_m2 212 (by decide +kernel) rfl, GT_m1 13 (by decide +kernel) rfl⟩, by decide +kernel⟩
set_option maxRecDepth 100000 in
theorem ms_J0_checkBoundsBeginEnd_23922 : xcS yJ0_checkBoundsBeginEnd_23922 cJ0_checkBoundsBeginEnd_23922 3 none 3 := ⟨⟨GT_m4 5 rfl rfl, GT_m4 4 (by decide +kernel) rfl, GT_m1 13 (by decide +kernel) rfl⟩, by decide +kernel⟩
set_option maxRecDepth 100000 in
theorem ms_J0_checkBoundsOffCount_cabcc : xcS yJ0_checkBoundsOffCount_cabcc cJ0_checkBoundsOffCount_cabcc 3 (some .int) 3 := ⟨⟨GT_m4 37 rfl rfl, GT_m4 36 (by decide +kernel) rfl, GT_m1 13 (by decide +kernel) rfl⟩, by decide +kernel⟩
set_option maxRecDepth 100000 in
theorem ms_J0_checkIndex_df160 : xcS yJ0_checkIndex_df160 cJ0_checkIndex_df160 2 none 2 := ⟨⟨GT_m2 223 rfl rfl, GT_m2 222 (by decide +kernel) rfl, GT_m1 13 (by decide +kernel) rfl⟩, by decide +kernel⟩
set_option maxRecDepth 100000 in
theorem mv_J0_coder_7d493 : xcV yJ0_coder_7d493 RJ0 cJ0_coder_7d493 1 (some .byte) 0 := ⟨⟨GT_m2 208 rfl rfl, GT_m2 206 (by decide +kernel) rfl, GT_m2 207 (by decide +kernel) rfl, GT_m1 13 (by decide +kernel) rfl⟩, by decide +kernel⟩
set_option maxRecDepth 100000 in
theorem mv_J0_getBytes_840e7 : xcV yJ0_getBytes_840e7 RJ0 cJ0_getBytes_840e7 4 none 3 := ⟨⟨GT_m4 44 rfl rfl, GT_m4 42 (by decide +kernel) rfl, GT_m4 43 (by decide +kernel) rfl, GT_m1 13 (by decide +kernel) rfl⟩, by decide +kernel⟩
set_option maxRecDepth 100000 in
theorem mv_J0_isLatin1_aae02 : xcV yJ0_isLatin1_aae02 RJ0 cJ0_isLatin1_aae02 1 (some .boolean) 0 := ⟨⟨GT_m2 217 rfl rfl, GT_m2 215 (by decide +kernel) rfl, GT_m2 216 (by decide +kernel) rfl, GT_m1 13 (by decide +kernel) rfl⟩, by decide +kernel⟩
set_option maxRecDepth 100000 in
theorem mv_J0_length_8abf5 : xcV yJ0_length_8abf5 RJ0 cJ0_length_8abf5 1 (some .int) 0 := ⟨⟨GT_m2 204 rfl rfl, GT_m2 202 (by decide +kernel) rfl, GT_m2 203 (by decide +kernel) rfl, GT_m1 13 (by decide +kernel) rfl⟩, by decide +kernel⟩
set_option maxRecDepth 100000 in
theorem ms_J1_canEncode_fc78d : xcS yJ1_canEncode_fc78d cJ1_canEncode_fc78d 1 (some .boolean) 1 := ⟨⟨GT_m4 81 rfl rfl, GT_m4 80 (by decide +kernel) rfl, GT_m1 20 (by decide +kernel) rfl⟩, by decide +kernel⟩
set_option maxRecDepth 100000 in
theorem ms_J1_charAt_3b067 : xcS yJ1_charAt_3b067 cJ1_charAt_3b067 2 (some .char) 2 := ⟨⟨GT_m2 220 rfl rfl, GT_m2 219 (by decide +kernel) rfl, GT_m1 20 (by decide +kernel) rfl⟩, by decide +kernel⟩
set_option maxRecDepth 100000 in
theorem ms_J1_fillNull_b72d1 : xcS yJ1_fillNull_b72d1 cJ1_fillNull_b72d1 3 none 3 := ⟨⟨GT_m2 144 rfl rfl, GT_m2 143 (by decide +kernel) rfl, GT_m1 20 (by decide +kernel) rfl⟩, by decide +kernel⟩
set_option maxRecDepth 100000 in
theorem ms_J1_inflate_0e8fd : xcS yJ1_inflate_0e8fd cJ1_inflate_0e8fd 5 none 5 := ⟨⟨GT_m4 28 rfl rfl, GT_m4 27 (by decide +kernel) rfl, GT_m1 20 (by decide +kernel) rfl⟩, by decide +kernel⟩
set_option maxRecDepth 100000 in
theorem ms_J2_charAt_3b067 : xcS yJ2_charAt_3b067 cJ2_charAt_3b067 2 (some .char) 2 := ⟨⟨GT_m2 231 rfl rfl, GT_m2 230 (by decide +kernel) rfl, GT_m1 14 (by decide +kernel) rfl⟩, by decide +kernel⟩
set_option maxRecDepth 100000 in
theorem ms_J2_checkBoundsBeginEnd_d044e : xcS yJ2_checkBoundsBeginEnd_d044e cJ2_checkBoundsBeginEnd_d044e 3 none 3 := ⟨⟨GT_m4 2 rfl rfl, GT_m4 1 (by decide +kernel) rfl, GT_m1 14 (by decide +kernel) rfl⟩, by decide +kernel⟩
set_option maxRecDepth 100000 in
theorem ms_J2_checkBoundsOffCount_d044e : xcS yJ2_checkBoundsOffCount_d044e cJ2_checkBoundsOffCount_d044e 3 none 3 := ⟨⟨GT_m4 34 rfl rfl, GT_m4 33 (by decide +kernel) rfl, GT_m1 14 (by decide +kernel) rfl⟩, by decide +kernel⟩
set_option maxRecDepth 100000 in
theorem ms_J2_checkIndex_2214a : xcS yJ2_checkIndex_2214a cJ2_checkIndex_2214a 2 none 2 := ⟨⟨GT_m2 234 rfl rfl, GT_m2 233 (by decide +kernel) rfl, GT_m1 14 (by decide +kernel) rfl⟩, by decide +kernel⟩
set_option maxRecDepth 100000 in
theorem ms_J2_fillNull_b72d1 : xcS yJ2_fillNull_b72d1 cJ2_fillNull_b72d1 3 none 3 := ⟨⟨GT_m2 153 rfl rfl, GT_m2 152 (by decide +kernel) rfl, GT_m1 14 (by decide +kernel) rfl⟩, by decide +kernel⟩
set_option maxRecDepth 100000 in
theorem ms_J2_getChar_3b067 : xcS yJ2_getChar_3b067 cJ2_getChar_3b067 2 (some .char) 2 := ⟨⟨GT_m3 1 rfl rfl, GT_m3 0 (by decide +kernel) rfl, GT_m1 14 (by decide +kernel) rfl⟩, by decide +kernel⟩
set_option maxRecDepth 100000 in
theorem ms_J2_getChars_46870 : xcS yJ2_getChars_46870 cJ2_getChars_46870 5 (some .int) 4 := ⟨⟨GT_m4 66 rfl rfl, GT_m4 65 (by decide +kernel) rfl, GT_m1 14 (by decide +kernel) rfl⟩, by decide +kernel⟩
set_option maxRecDepth 100000 in
theorem ms_J2_getChars_ba4f3 : xcS yJ2_getChars_ba4f3 cJ2_getChars_ba4f3 7 (some .int) 3 := ⟨⟨GT_m4 69 rfl rfl, GT_m4 68 (by decide +kernel) rfl, GT_m1 14 (by decide +kernel) rfl⟩, by decide +kernel⟩
set_option maxRecDepth 100000 in
theorem ms_J2_inflate_0e8fd : xcS yJ2_inflate_0e8fd cJ2_inflate_0e8fd 6 none 5 := ⟨⟨GT_m4 31 rfl rfl, GT_m4 30 (by decide +kernel) rfl, GT_m1 14 (by decide +kernel) rfl⟩, by decide +kernel⟩
set_option maxRecDepth 100000 in
theorem ms_J2_length_9d52b : xcS yJ2_length_9d52b cJ2_length_9d52b 1 (some .int) 1 := ⟨⟨GT_m2 237 rfl rfl, GT_m2 236 (by decide +kernel) rfl, GT_m1 14 (by decide +kernel) rfl⟩, by decide +kernel⟩
set_option maxRecDepth 100000 in
theorem ms_J2_newBytesFor_77867 : xcS yJ2_newBytesFor_77867 cJ2_newBytesFor_77867 1 (some (.array .byte)) 1 := ⟨⟨GT_m1 217 rfl rfl, GT_m1 216 (by decide +kernel) rfl, GT_m1 14 (by decide +kernel) rfl⟩, by decide +kernel⟩
set_option maxRecDepth 100000 in
theorem ms_J2_newBytesLength_0f7a4 : xcS yJ2_newBytesLength_0f7a4 cJ2_newBytesLength_0f7a4 1 (some .int) 1 := ⟨⟨GT_m1 220 rfl rfl, GT_m1 219 (by decide +kernel) rfl, GT_m1 14 (by decide +kernel) rfl⟩, by decide +kernel⟩
set_option maxRecDepth 100000 in
theorem ms_J2_putCharSB_b72d1 : xcS yJ2_putCharSB_b72d1 cJ2_putCharSB_b72d1 3 none 3 := ⟨⟨GT_m4 84 rfl rfl, GT_m4 83 (by decide +kernel) rfl, GT_m1 14 (by decide +kernel) rfl⟩, by decide +kernel⟩
set_option maxRecDepth 100000 in
theorem ms_J2_putChar_b72d1 : xcS yJ2_putChar_b72d1 cJ2_putChar_b72d1 3 none 3 := ⟨⟨GT_m4 11 rfl rfl, GT_m4 10 (by decide +kernel) rfl, GT_m1 14 (by decide +kernel) rfl⟩, by decide +kernel⟩
set_option maxRecDepth 100000 in
theorem ms_J2_putCharsAt_cd4e5 : xcS yJ2_putCharsAt_cd4e5 cJ2_putCharsAt_cd4e5 7 (some .int) 6 := ⟨⟨GT_m3 239 rfl rfl, GT_m3 238 (by decide +kernel) rfl, GT_m1 14 (by decide +kernel) rfl⟩, by decide +kernel⟩
set_option maxRecDepth 100000 in
theorem ms_J3_checkFromIndexSize_8c36e : xcS yJ3_checkFromIndexSize_8c36e cJ3_checkFromIndexSize_8c36e 4 (some .int) 4 := ⟨⟨GT_m4 40 rfl rfl, GT_m4 39 (by decide +kernel) rfl, GT_m1 22 (by decide +kernel) rfl⟩, by decide +kernel⟩
set_option maxRecDepth 100000 in
theorem ms_J3_checkFromToIndex_8c36e : xcS yJ3_checkFromToIndex_8c36e cJ3_checkFromToIndex_8c36e 4 (some .int) 4 := ⟨⟨GT_m4 8 rfl rfl, GT_m4 7 (by decide +kernel) rfl, GT_m1 22 (by decide +kernel) rfl⟩, by decide +kernel⟩
set_option maxRecDepth 100000 in
theorem ms_J3_checkIndex_8e157 : xcS yJ3_checkIndex_8e157 cJ3_checkIndex_8e157 3 (some .int) 3 := ⟨⟨GT_m2 228 rfl rfl, GT_m2 227 (by decide +kernel) rfl, GT_m1 22 (by decide +kernel) rfl⟩, by decide +kernel⟩
set_option maxRecDepth 100000 in
theorem mv_J4_append_15ec4 : xcV yJ4_append_15ec4 RJ4 cJ4_append_15ec4 2 (some (.object "java/lang/StringBuilder")) 1 := ⟨⟨GT_m3 229 rfl rfl, GT_m3 227 (by decide +kernel) rfl, GT_m3 228 (by decide +kernel) rfl, GT_m1 12 (by decide +kernel) rfl⟩, by decide +kernel⟩
set_option maxRecDepth 100000 in
theorem mv_J4_append_bf812 : xcV yJ4_append_bf812 RJ4 cJ4_append_bf812 2 (some (.object "java/lang/StringBuilder")) 1 := ⟨⟨GT_m4 50 rfl rfl, GT_m4 48 (by decide +kernel) rfl, GT_m4 49 (by decide +kernel) rfl, GT_m1 12 (by decide +kernel) rfl⟩, by decide +kernel⟩
set_option maxRecDepth 100000 in
theorem mv_J4_append_cf468 : xcV yJ4_append_cf468 RJ4 cJ4_append_cf468 2 (some (.object "java/lang/StringBuilder")) 1 := ⟨⟨GT_m4 75 rfl rfl, GT_m4 73 (by decide +kernel) rfl, GT_m4 74 (by decide +kernel) rfl, GT_m1 12 (by decide +kernel) rfl⟩, by decide +kernel⟩
set_option maxRecDepth 100000 in
theorem mv_J4_charAt_5068e : xcV yJ4_charAt_5068e RJ4 cJ4_charAt_5068e 2 (some .char) 1 := ⟨⟨GT_m5 182 rfl rfl, GT_m5 180 (by decide +kernel) rfl, GT_m5 181 (by decide +kernel) rfl, GT_m1 12 (by decide +kernel) rfl⟩, by decide +kernel⟩
set_option maxRecDepth 100000 in
theorem mi_J4_init_da8c8 : (Cond.code yJ4_init_da8c8 cJ4_init_da8c8 1 none ∈ GT ∧ Cond.instanceMethod yJ4_init_da8c8 ∈ GT ∧ Cond.initialized RJ4 ∈ GT) ∧ yJ4_init_da8c8.cls ≠ "java/lang/invoke/MethodHandle" ∧ yJ4_init_da8c8.cls ≠ "java/lang/invoke/VarHandle" ∧ (parseMethodDescriptor yJ4_init_da8c8.desc).map (fun d => d.parameters.length) = some 0 := ⟨⟨GT_m1 208 rfl rfl, GT_m1 207 (by decide +kernel) rfl, GT_m1 12 (by decide +kernel) rfl⟩, by decide +kernel⟩
set_option maxRecDepth 100000 in
theorem mv_J4_length_8abf5 : xcV yJ4_length_8abf5 RJ4 cJ4_length_8abf5 1 (some .int) 0 := ⟨⟨GT_m5 155 rfl rfl, GT_m5 153 (by decide +kernel) rfl, GT_m5 154 (by decide +kernel) rfl, GT_m1 12 (by decide +kernel) rfl⟩, by decide +kernel⟩
set_option maxRecDepth 100000 in
theorem mv_J4_setLength_d00df : xcV yJ4_setLength_d00df RJ4 cJ4_setLength_d00df 2 none 1 := ⟨⟨GT_m2 98 rfl rfl, GT_m2 96 (by decide +kernel) rfl, GT_m2 97 (by decide +kernel) rfl, GT_m1 12 (by decide +kernel) rfl⟩, by decide +kernel⟩
set_option maxRecDepth 100000 in
theorem mi_J5_init_d00df : (Cond.code yJ5_init_d00df cJ5_init_d00df 2 none ∈ GT ∧ Cond.instanceMethod yJ5_init_d00df ∈ GT ∧ Cond.initialized RJ5 ∈ GT) ∧ yJ5_init_d00df.cls ≠ "java/lang/invoke/MethodHandle" ∧ yJ5_init_d00df.cls ≠ "java/lang/invoke/VarHandle" ∧ (parseMethodDescriptor yJ5_init_d00df.desc).map (fun d => d.parameters.length) = some 1 := ⟨⟨GT_m1 211 rfl rfl, GT_m1 210 (by decide +kernel) rfl, GT_m1 11 (by decide +kernel) rfl⟩, by decide +kernel⟩
set_option maxRecDepth 100000 in
theorem ms_J6_bitCount_0f7a4 : xcS yJ6_bitCount_0f7a4 cJ6_bitCount_0f7a4 1 (some .int) 1 := ⟨⟨GT_m5 55 rfl rfl, GT_m5 54 (by decide +kernel) rfl, GT_m1 24 (by decide +kernel) rfl⟩, by decide +kernel⟩
set_option maxRecDepth 100000 in
theorem ms_J6_getChars_ba4f3 : xcS yJ6_getChars_ba4f3 cJ6_getChars_ba4f3 7 (some .int) 3 := ⟨⟨GT_m4 59 rfl rfl, GT_m4 58 (by decide +kernel) rfl, GT_m1 24 (by decide +kernel) rfl⟩, by decide +kernel⟩
set_option maxRecDepth 100000 in
theorem ms_J6_stringSize_0f7a4 : xcS yJ6_stringSize_0f7a4 cJ6_stringSize_0f7a4 4 (some .int) 1 := ⟨⟨GT_m4 56 rfl rfl, GT_m4 55 (by decide +kernel) rfl, GT_m1 24 (by decide +kernel) rfl⟩, by decide +kernel⟩
set_option maxRecDepth 100000 in
theorem ms_J7_copyOf_9075b : xcS yJ7_copyOf_9075b cJ7_copyOf_9075b 3 (some (.array .byte)) 2 := ⟨⟨GT_m2 123 rfl rfl, GT_m2 122 (by decide +kernel) rfl, GT_m1 18 (by decide +kernel) rfl⟩, by decide +kernel⟩
set_option maxRecDepth 100000 in
theorem ms_J7_fill_eb02e : xcS yJ7_fill_eb02e cJ7_fill_eb02e 5 none 4 := ⟨⟨GT_m2 147 rfl rfl, GT_m2 146 (by decide +kernel) rfl, GT_m1 18 (by decide +kernel) rfl⟩, by decide +kernel⟩
set_option maxRecDepth 100000 in
theorem ms_J7_rangeCheck_23922 : xcS yJ7_rangeCheck_23922 cJ7_rangeCheck_23922 3 none 3 := ⟨⟨GT_m2 150 rfl rfl, GT_m2 149 (by decide +kernel) rfl, GT_m1 18 (by decide +kernel) rfl⟩, by decide +kernel⟩
set_option maxRecDepth 100000 in
theorem ms_J8_hugeLength_7cf53 : xcS yJ8_hugeLength_7cf53 cJ8_hugeLength_7cf53 3 (some .int) 2 := ⟨⟨GT_m2 119 rfl rfl, GT_m2 118 (by decide +kernel) rfl, GT_m1 16 (by decide +kernel) rfl⟩, by decide +kernel⟩
set_option maxRecDepth 100000 in
theorem ms_J8_newLength_cabcc : xcS yJ8_newLength_cabcc cJ8_newLength_cabcc 4 (some .int) 3 := ⟨⟨GT_m2 112 rfl rfl, GT_m2 111 (by decide +kernel) rfl, GT_m1 16 (by decide +kernel) rfl⟩, by decide +kernel⟩
set_option maxRecDepth 100000 in
theorem ms_J9_max_7cf53 : xcS yJ9_max_7cf53 cJ9_max_7cf53 2 (some .int) 2 := ⟨⟨GT_m2 115 rfl rfl, GT_m2 114 (by decide +kernel) rfl, GT_m1 17 (by decide +kernel) rfl⟩, by decide +kernel⟩
set_option maxRecDepth 100000 in
theorem ms_J9_min_7cf53 : xcS yJ9_min_7cf53 cJ9_min_7cf53 2 (some .int) 2 := ⟨⟨GT_m2 133 rfl rfl, GT_m2 132 (by decide +kernel) rfl, GT_m1 17 (by decide +kernel) rfl⟩, by decide +kernel⟩
set_option maxRecDepth 100000 in
theorem mv_X0_arrange : xcV yX0_arrange RX0 cX0_arrange 3 none 0 := ⟨⟨GT_m4 92 rfl rfl, GT_m4 91 (by decide +kernel) rfl, GT_mem 15 (by decide +kernel) rfl, GT_m1 4 (by decide +kernel) rfl⟩, by decide +kernel⟩
set_option maxRecDepth 100000 in
theorem mv_X0_enter : xcV yX0_enter RX0 cX0_enter 2 none 1 := ⟨⟨GT_m4 88 rfl rfl, GT_m4 86 (by decide +kernel) rfl, GT_m4 87 (by decide +kernel) rfl, GT_m1 4 (by decide +kernel) rfl⟩, by decide +kernel⟩
set_option maxRecDepth 100000 in
theorem mv_X0_get : xcV yX0_get RX0 cX0_get 2 (some (.object "LateRules$Rule")) 1 := ⟨⟨GT_m4 104 rfl rfl, GT_m4 102 (by decide +kernel) rfl, GT_m4 103 (by decide +kernel) rfl, GT_m1 4 (by decide +kernel) rfl⟩, by decide +kernel⟩
set_option maxRecDepth 100000 in
theorem mv_X0_inOrder : xcV yX0_inOrder RX0 cX0_inOrder 2 (some (.object "LateRules$Rule")) 1 := ⟨⟨GT_m4 128 rfl rfl, GT_m4 126 (by decide +kernel) rfl, GT_m4 127 (by decide +kernel) rfl, GT_m1 4 (by decide +kernel) rfl⟩, by decide +kernel⟩
set_option maxRecDepth 100000 in
theorem mi_X0_init : (Cond.code yX0_init cX0_init 1 none ∈ GT ∧ Cond.instanceMethod yX0_init ∈ GT ∧ Cond.initialized RX0 ∈ GT) ∧ yX0_init.cls ≠ "java/lang/invoke/MethodHandle" ∧ yX0_init.cls ≠ "java/lang/invoke/VarHandle" ∧ (parseMethodDescriptor yX0_init.desc).map (fun d => d.parameters.length) = some 0 := ⟨⟨GT_m1 80 rfl rfl, GT_m1 79 (by decide +kernel) rfl, GT_m1 4 (by decide +kernel) rfl⟩, by decide +kernel⟩
set_option maxRecDepth 100000 in
theorem mv_X0_insert : xcV yX0_insert RX0 cX0_insert 4 none 1 := ⟨⟨GT_m4 96 rfl rfl, GT_m4 95 (by decide +kernel) rfl, GT_mem 16 (by decide +kernel) rfl, GT_m1 4 (by decide +kernel) rfl⟩, by decide +kernel⟩
set_option maxRecDepth 100000 in
theorem mv_X0_lateOnes : xcV yX0_lateOnes RX0 cX0_lateOnes 4 (some .int) 0 := ⟨⟨GT_m6 22 rfl rfl, GT_m6 20 (by decide +kernel) rfl, GT_m6 21 (by decide +kernel) rfl, GT_m1 4 (by decide +kernel) rfl⟩, by decide +kernel⟩
set_option maxRecDepth 100000 in
theorem mv_X0_leastFree : xcV yX0_leastFree RX0 cX0_leastFree 2 (some .int) 0 := ⟨⟨GT_m3 96 rfl rfl, GT_m3 94 (by decide +kernel) rfl, GT_m3 95 (by decide +kernel) rfl, GT_m1 4 (by decide +kernel) rfl⟩, by decide +kernel⟩
set_option maxRecDepth 100000 in
theorem mv_X0_size : xcV yX0_size RX0 cX0_size 1 (some .int) 0 := ⟨⟨GT_m4 112 rfl rfl, GT_m4 110 (by decide +kernel) rfl, GT_m4 111 (by decide +kernel) rfl, GT_m1 4 (by decide +kernel) rfl⟩, by decide +kernel⟩
set_option maxRecDepth 100000 in
theorem mv_X0_strike : xcV yX0_strike RX0 cX0_strike 2 none 1 := ⟨⟨GT_m4 108 rfl rfl, GT_m4 106 (by decide +kernel) rfl, GT_m4 107 (by decide +kernel) rfl, GT_m1 4 (by decide +kernel) rfl⟩, by decide +kernel⟩
set_option maxRecDepth 100000 in
theorem mv_X10_abort : xcV yX10_abort RX10 cX10_abort 2 (some .int) 0 := ⟨⟨GT_m5 70 rfl rfl, GT_m5 68 (by decide +kernel) rfl, GT_m5 69 (by decide +kernel) rfl, GT_m1 1 (by decide +kernel) rfl⟩, by decide +kernel⟩
set_option maxRecDepth 100000 in
theorem mv_X10_actAsOnPaper : xcV yX10_actAsOnPaper RX10 cX10_actAsOnPaper 1 (some .int) 0 := ⟨⟨GT_m4 191 rfl rfl, GT_m4 190 (by decide +kernel) rfl, GT_mem 23 (by decide +kernel) rfl, GT_m1 1 (by decide +kernel) rfl⟩, by decide +kernel⟩
set_option maxRecDepth 100000 in
theorem mv_X10_all : xcV yX10_all RX10 cX10_all 3 (some .int) 1 := ⟨⟨GT_m5 143 rfl rfl, GT_m5 141 (by decide +kernel) rfl, GT_m5 142 (by decide +kernel) rfl, GT_m1 1 (by decide +kernel) rfl⟩, by decide +kernel⟩
set_option maxRecDepth 100000 in
theorem mv_X10_answerOnPaper : xcV yX10_answerOnPaper RX10 cX10_answerOnPaper 2 (some .int) 0 := ⟨⟨GT_m5 196 rfl rfl, GT_m5 195 (by decide +kernel) rfl, GT_mem 35 (by decide +kernel) rfl, GT_m1 1 (by decide +kernel) rfl⟩, by decide +kernel⟩
set_option maxRecDepth 100000 in
theorem mv_X10_askAtOnce : xcV yX10_askAtOnce RX10 cX10_askAtOnce 2 (some .boolean) 0 := ⟨⟨GT_m4 195 rfl rfl, GT_m4 194 (by decide +kernel) rfl, GT_mem 24 (by decide +kernel) rfl, GT_m1 1 (by decide +kernel) rfl⟩, by decide +kernel⟩
set_option maxRecDepth 100000 in
theorem mv_X10_askToCommit : xcV yX10_askToCommit RX10 cX10_askToCommit 3 (some .boolean) 1 := ⟨⟨GT_m4 203 rfl rfl, GT_m4 202 (by decide +kernel) rfl, GT_mem 25 (by decide +kernel) rfl, GT_m1 1 (by decide +kernel) rfl⟩, by decide +kernel⟩
set_option maxRecDepth 100000 in
theorem mv_X10_asked : xcV yX10_asked RX10 cX10_asked 3 (some .int) 2 := ⟨⟨GT_m5 113 rfl rfl, GT_m5 111 (by decide +kernel) rfl, GT_m5 112 (by decide +kernel) rfl, GT_m1 1 (by decide +kernel) rfl⟩, by decide +kernel⟩
set_option maxRecDepth 100000 in
theorem mv_X10_back : xcV yX10_back RX10 cX10_back 4 (some .int) 1 := ⟨⟨GT_m5 82 rfl rfl, GT_m5 80 (by decide +kernel) rfl, GT_m5 81 (by decide +kernel) rfl, GT_m1 1 (by decide +kernel) rfl⟩, by decide +kernel⟩
set_option maxRecDepth 100000 in
theorem mv_X10_becomeLate : xcV yX10_becomeLate RX10 cX10_becomeLate 3 (some .int) 1 := ⟨⟨GT_m4 120 rfl rfl, GT_m4 119 (by decide +kernel) rfl, GT_mem 17 (by decide +kernel) rfl, GT_m1 1 (by decide +kernel) rfl⟩, by decide +kernel⟩
set_option maxRecDepth 100000 in
theorem mv_X10_becomePrompt : xcV yX10_becomePrompt RX10 cX10_becomePrompt 3 (some .int) 1 := ⟨⟨GT_m4 144 rfl rfl, GT_m4 143 (by decide +kernel) rfl, GT_mem 19 (by decide +kernel) rfl, GT_m1 1 (by decide +kernel) rfl⟩, by decide +kernel⟩
set_option maxRecDepth 100000 in
theorem mv_X10_begin : xcV yX10_begin RX10 cX10_begin 2 (some .int) 0 := ⟨⟨GT_m5 43 rfl rfl, GT_m5 41 (by decide +kernel) rfl, GT_m5 42 (by decide +kernel) rfl, GT_m1 1 (by decide +kernel) rfl⟩, by decide +kernel⟩
set_option maxRecDepth 100000 in
theorem mv_X10_changedSince : xcV yX10_changedSince RX10 cX10_changedSince 5 (some .int) 1 := ⟨⟨GT_m5 121 rfl rfl, GT_m5 120 (by decide +kernel) rfl, GT_mem 33 (by decide +kernel) rfl, GT_m1 1 (by decide +kernel) rfl⟩, by decide +kernel⟩
set_option maxRecDepth 100000 in
theorem mv_X10_close : xcV yX10_close RX10 cX10_close 1 none 0 := ⟨⟨GT_m5 66 rfl rfl, GT_m5 65 (by decide +kernel) rfl, GT_mem 30 (by decide +kernel) rfl, GT_m1 1 (by decide +kernel) rfl⟩, by decide +kernel⟩
set_option maxRecDepth 100000 in
theorem mv_X10_commit : xcV yX10_commit RX10 cX10_commit 2 (some .int) 0 := ⟨⟨GT_m5 62 rfl rfl, GT_m5 60 (by decide +kernel) rfl, GT_m5 61 (by decide +kernel) rfl, GT_m1 1 (by decide +kernel) rfl⟩, by decide +kernel⟩
set_option maxRecDepth 100000 in
theorem mv_X10_count : xcV yX10_count RX10 cX10_count 2 (some .int) 1 := ⟨⟨GT_m6 18 rfl rfl, GT_m6 16 (by decide +kernel) rfl, GT_m6 17 (by decide +kernel) rfl, GT_m1 1 (by decide +kernel) rfl⟩, by decide +kernel⟩
set_option maxRecDepth 100000 in
theorem mv_X10_cut : xcV yX10_cut RX10 cX10_cut 3 (some .int) 2 := ⟨⟨GT_m4 234 rfl rfl, GT_m4 232 (by decide +kernel) rfl, GT_m4 233 (by decide +kernel) rfl, GT_m1 1 (by decide +kernel) rfl⟩, by decide +kernel⟩
set_option maxRecDepth 100000 in
theorem mv_X10_depth : xcV yX10_depth RX10 cX10_depth 7 (some .int) 2 := ⟨⟨GT_m6 10 rfl rfl, GT_m6 8 (by decide +kernel) rfl, GT_m6 9 (by decide +kernel) rfl, GT_m1 1 (by decide +kernel) rfl⟩, by decide +kernel⟩
set_option maxRecDepth 100000 in
theorem mv_X10_drop : xcV yX10_drop RX10 cX10_drop 2 (some .int) 1 := ⟨⟨GT_m4 100 rfl rfl, GT_m4 98 (by decide +kernel) rfl, GT_m4 99 (by decide +kernel) rfl, GT_m1 1 (by decide +kernel) rfl⟩, by decide +kernel⟩
set_option maxRecDepth 100000 in
theorem mv_X10_end : xcV yX10_end RX10 cX10_end 2 (some .boolean) 1 := ⟨⟨GT_m2 82 rfl rfl, GT_m2 80 (by decide +kernel) rfl, GT_m2 81 (by decide +kernel) rfl, GT_m1 1 (by decide +kernel) rfl⟩, by decide +kernel⟩
set_option maxRecDepth 100000 in
theorem mv_X10_first : xcV yX10_first RX10 cX10_first 3 (some .int) 1 := ⟨⟨GT_m5 135 rfl rfl, GT_m5 133 (by decide +kernel) rfl, GT_m5 134 (by decide +kernel) rfl, GT_m1 1 (by decide +kernel) rfl⟩, by decide +kernel⟩
set_option maxRecDepth 100000 in
theorem mv_X10_firstFailingOf : xcV yX10_firstFailingOf RX10 cX10_firstFailingOf 2 (some .int) 1 := ⟨⟨GT_m3 100 rfl rfl, GT_m3 99 (by decide +kernel) rfl, GT_mem 7 (by decide +kernel) rfl, GT_m1 1 (by decide +kernel) rfl⟩, by decide +kernel⟩
set_option maxRecDepth 100000 in
theorem mv_X10_fresh : xcV yX10_fresh RX10 cX10_fresh 4 (some .int) 2 := ⟨⟨GT_m5 117 rfl rfl, GT_m5 115 (by decide +kernel) rfl, GT_m5 116 (by decide +kernel) rfl, GT_m1 1 (by decide +kernel) rfl⟩, by decide +kernel⟩
set_option maxRecDepth 100000 in
theorem mv_X10_gather : xcV yX10_gather RX10 cX10_gather 7 none 4 := ⟨⟨GT_m4 124 rfl rfl, GT_m4 123 (by decide +kernel) rfl, GT_mem 18 (by decide +kernel) rfl, GT_m1 1 (by decide +kernel) rfl⟩, by decide +kernel⟩
set_option maxRecDepth 100000 in
theorem mv_X10_group : xcV yX10_group RX10 cX10_group 5 (some .int) 2 := ⟨⟨GT_m5 97 rfl rfl, GT_m5 95 (by decide +kernel) rfl, GT_m5 96 (by decide +kernel) rfl, GT_m1 1 (by decide +kernel) rfl⟩, by decide +kernel⟩
set_option maxRecDepth 100000 in
theorem mv_X10_holdsOnPaper : xcV yX10_holdsOnPaper RX10 cX10_holdsOnPaper 5 (some .boolean) 2 := ⟨⟨GT_m6 1 rfl rfl, GT_m6 0 (by decide +kernel) rfl, GT_mem 39 (by decide +kernel) rfl, GT_m1 1 (by decide +kernel) rfl⟩, by decide +kernel⟩
set_option maxRecDepth 100000 in
theorem mi_X10_init : (Cond.code yX10_init cX10_init 2 none ∈ GT ∧ Cond.instanceMethod yX10_init ∈ GT ∧ Cond.initialized RX10 ∈ GT) ∧ yX10_init.cls ≠ "java/lang/invoke/MethodHandle" ∧ yX10_init.cls ≠ "java/lang/invoke/VarHandle" ∧ (parseMethodDescriptor yX10_init.desc).map (fun d => d.parameters.length) = some 0 := ⟨⟨GT_m1 33 rfl rfl, GT_m1 32 (by decide +kernel) rfl, GT_m1 1 (by decide +kernel) rfl⟩, by decide +kernel⟩
set_option maxRecDepth 100000 in
theorem ms_X10_isColumn : xcS yX10_isColumn cX10_isColumn 1 (some .boolean) 1 := ⟨⟨GT_m3 128 rfl rfl, GT_m3 127 (by decide +kernel) rfl, GT_m1 1 (by decide +kernel) rfl⟩, by decide +kernel⟩
set_option maxRecDepth 100000 in
theorem ms_X10_isKey : xcS yX10_isKey cX10_isKey 1 (some .boolean) 1 := ⟨⟨GT_m3 125 rfl rfl, GT_m3 124 (by decide +kernel) rfl, GT_m1 1 (by decide +kernel) rfl⟩, by decide +kernel⟩
set_option maxRecDepth 100000 in
theorem ms_X10_isSubjectValue : xcS yX10_isSubjectValue cX10_isSubjectValue 1 (some .boolean) 1 := ⟨⟨GT_m3 164 rfl rfl, GT_m3 163 (by decide +kernel) rfl, GT_m1 1 (by decide +kernel) rfl⟩, by decide +kernel⟩
set_option maxRecDepth 100000 in
theorem ms_X10_isTable : xcS yX10_isTable cX10_isTable 1 (some .boolean) 1 := ⟨⟨GT_m3 115 rfl rfl, GT_m3 114 (by decide +kernel) rfl, GT_m1 1 (by decide +kernel) rfl⟩, by decide +kernel⟩
set_option maxRecDepth 100000 in
theorem ms_X10_isValue : xcS yX10_isValue cX10_isValue 1 (some .boolean) 1 := ⟨⟨GT_m4 163 rfl rfl, GT_m4 162 (by decide +kernel) rfl, GT_m1 1 (by decide +kernel) rfl⟩, by decide +kernel⟩
set_option maxRecDepth 100000 in
theorem mv_X10_later : xcV yX10_later RX10 cX10_later 4 (some .int) 2 := ⟨⟨GT_m4 116 rfl rfl, GT_m4 114 (by decide +kernel) rfl, GT_m4 115 (by decide +kernel) rfl, GT_m1 1 (by decide +kernel) rfl⟩, by decide +kernel⟩
set_option maxRecDepth 100000 in
theorem mv_X10_leans : xcV yX10_leans RX10 cX10_leans 4 (some .int) 3 := ⟨⟨GT_m5 208 rfl rfl, GT_m5 206 (by decide +kernel) rfl, GT_m5 207 (by decide +kernel) rfl, GT_m1 1 (by decide +kernel) rfl⟩, by decide +kernel⟩
set_option maxRecDepth 100000 in
theorem mv_X10_least : xcV yX10_least RX10 cX10_least 6 (some .int) 3 := ⟨⟨GT_m5 237 rfl rfl, GT_m5 235 (by decide +kernel) rfl, GT_m5 236 (by decide +kernel) rfl, GT_m1 1 (by decide +kernel) rfl⟩, by decide +kernel⟩
set_option maxRecDepth 100000 in
theorem mv_X10_letter : xcV yX10_letter RX10 cX10_letter 2 (some .int) 1 := ⟨⟨GT_m5 174 rfl rfl, GT_m5 172 (by decide +kernel) rfl, GT_m5 173 (by decide +kernel) rfl, GT_m1 1 (by decide +kernel) rfl⟩, by decide +kernel⟩
set_option maxRecDepth 100000 in
theorem mv_X10_mark : xcV yX10_mark RX10 cX10_mark 3 (some .int) 0 := ⟨⟨GT_m5 74 rfl rfl, GT_m5 72 (by decide +kernel) rfl, GT_m5 73 (by decide +kernel) rfl, GT_m1 1 (by decide +kernel) rfl⟩, by decide +kernel⟩
set_option maxRecDepth 100000 in
theorem mv_X10_put : xcV yX10_put RX10 cX10_put 6 (some .int) 5 := ⟨⟨GT_m4 158 rfl rfl, GT_m4 156 (by decide +kernel) rfl, GT_m4 157 (by decide +kernel) rfl, GT_m1 1 (by decide +kernel) rfl⟩, by decide +kernel⟩
set_option maxRecDepth 100000 in
theorem mv_X10_question : xcV yX10_question RX10 cX10_question 6 (some .int) 3 := ⟨⟨GT_m5 129 rfl rfl, GT_m5 127 (by decide +kernel) rfl, GT_m5 128 (by decide +kernel) rfl, GT_m1 1 (by decide +kernel) rfl⟩, by decide +kernel⟩
set_option maxRecDepth 100000 in
theorem mv_X10_queue : xcV yX10_queue RX10 cX10_queue 3 (some .int) 2 := ⟨⟨GT_m6 102 rfl rfl, GT_m6 100 (by decide +kernel) rfl, GT_m6 101 (by decide +kernel) rfl, GT_m1 1 (by decide +kernel) rfl⟩, by decide +kernel⟩
set_option maxRecDepth 100000 in
theorem mv_X10_refuseAct : xcV yX10_refuseAct RX10 cX10_refuseAct 2 (some .int) 1 := ⟨⟨GT_m4 168 rfl rfl, GT_m4 167 (by decide +kernel) rfl, GT_mem 21 (by decide +kernel) rfl, GT_m1 1 (by decide +kernel) rfl⟩, by decide +kernel⟩
set_option maxRecDepth 100000 in
theorem mv_X10_rekey : xcV yX10_rekey RX10 cX10_rekey 4 (some .int) 3 := ⟨⟨GT_m5 27 rfl rfl, GT_m5 25 (by decide +kernel) rfl, GT_m5 26 (by decide +kernel) rfl, GT_m1 1 (by decide +kernel) rfl⟩, by decide +kernel⟩
set_option maxRecDepth 100000 in
theorem mv_X10_rows : xcV yX10_rows RX10 cX10_rows 3 (some .int) 2 := ⟨⟨GT_m5 86 rfl rfl, GT_m5 84 (by decide +kernel) rfl, GT_m5 85 (by decide +kernel) rfl, GT_m1 1 (by decide +kernel) rfl⟩, by decide +kernel⟩
set_option maxRecDepth 100000 in
theorem mv_X10_rowsAtMark : xcV yX10_rowsAtMark RX10 cX10_rowsAtMark 2 (some (.object "LateRules$Rows")) 1 := ⟨⟨GT_m5 78 rfl rfl, GT_m5 77 (by decide +kernel) rfl, GT_mem 31 (by decide +kernel) rfl, GT_m1 1 (by decide +kernel) rfl⟩, by decide +kernel⟩
set_option maxRecDepth 100000 in
theorem mv_X10_rule : xcV yX10_rule RX10 cX10_rule 4 (some .int) 0 := ⟨⟨GT_m2 90 rfl rfl, GT_m2 88 (by decide +kernel) rfl, GT_m2 89 (by decide +kernel) rfl, GT_m1 1 (by decide +kernel) rfl⟩, by decide +kernel⟩
set_option maxRecDepth 100000 in
theorem mv_X10_set : xcV yX10_set RX10 cX10_set 6 (some .int) 4 := ⟨⟨GT_m4 224 rfl rfl, GT_m4 222 (by decide +kernel) rfl, GT_m4 223 (by decide +kernel) rfl, GT_m1 1 (by decide +kernel) rfl⟩, by decide +kernel⟩
set_option maxRecDepth 100000 in
theorem mv_X10_setOnPaper : xcV yX10_setOnPaper RX10 cX10_setOnPaper 5 (some .int) 4 := ⟨⟨GT_m4 228 rfl rfl, GT_m4 227 (by decide +kernel) rfl, GT_mem 27 (by decide +kernel) rfl, GT_m1 1 (by decide +kernel) rfl⟩, by decide +kernel⟩
set_option maxRecDepth 100000 in
theorem mv_X10_settledSince : xcV yX10_settledSince RX10 cX10_settledSince 5 (some .int) 1 := ⟨⟨GT_m5 125 rfl rfl, GT_m5 124 (by decide +kernel) rfl, GT_mem 34 (by decide +kernel) rfl, GT_m1 1 (by decide +kernel) rfl⟩, by decide +kernel⟩
set_option maxRecDepth 100000 in
theorem mv_X10_sign : xcV yX10_sign RX10 cX10_sign 2 (some .int) 1 := ⟨⟨GT_m2 70 rfl rfl, GT_m2 68 (by decide +kernel) rfl, GT_m2 69 (by decide +kernel) rfl, GT_m1 1 (by decide +kernel) rfl⟩, by decide +kernel⟩
set_option maxRecDepth 100000 in
theorem mv_X10_since : xcV yX10_since RX10 cX10_since 2 (some .int) 1 := ⟨⟨GT_m6 14 rfl rfl, GT_m6 12 (by decide +kernel) rfl, GT_m6 13 (by decide +kernel) rfl, GT_m1 1 (by decide +kernel) rfl⟩, by decide +kernel⟩
set_option maxRecDepth 100000 in
theorem mv_X10_tally : xcV yX10_tally RX10 cX10_tally 5 none 1 := ⟨⟨GT_m4 211 rfl rfl, GT_m4 210 (by decide +kernel) rfl, GT_mem 26 (by decide +kernel) rfl, GT_m1 1 (by decide +kernel) rfl⟩, by decide +kernel⟩

theorem fm_212 : Cond.fieldLink RX0 21 "FindingAid$Containers" "capacity" "[I" ∈ fz_WA := fz_in (fz_tin 153 (by decide +kernel)) (by decide +kernel)
theorem fm_213 : Cond.fieldLink RX2 34 "FindingAid$Input" "letters" "[C" ∈ fz_WA := fz_in (fz_tin 303 (by decide +kernel)) (by decide +kernel)
theorem fm_214 : Cond.fieldLink RX2 9 "FindingAid$Input" "length" "I" ∈ fz_WA := fz_in (fz_tin 289 (by decide +kernel)) (by decide +kernel)
theorem fm_215 : Cond.fieldLink RX2 38 "FindingAid$Input" "at" "I" ∈ fz_WA := fz_in (fz_tin 304 (by decide +kernel)) (by decide +kernel)
theorem fm_216 : Cond.code yX2_digit cX2_digit 1 (some .int) ∈ fz_WA := fz_in (fz_tin 1205 (by decide +kernel)) (by decide +kernel)
theorem fm_217 : Cond.methodLink RX2 53 yX2_digit ∈ fz_WA := fz_in (fz_tin 1202 (by decide +kernel)) (by decide +kernel)
theorem fm_218 : Cond.instanceMethod yX2_digit ∈ fz_WA := fz_in (fz_tin 1204 (by decide +kernel)) (by decide +kernel)
theorem fm_219 : Cond.selects RX2 yX2_digit yX2_digit ∈ fz_WA := fz_in (fz_sin 10 (by decide +kernel)) (by decide +kernel)
theorem fm_220 : Cond.initialized RX2 ∈ fz_WA := fz_in (fz_tin 11 (by decide +kernel)) (by decide +kernel)
theorem fm_221 : Cond.fieldLink RX2 15 "FindingAid$Input" "nodes" "I" ∈ fz_WA := fz_in (fz_tin 291 (by decide +kernel)) (by decide +kernel)
theorem fm_222 : Cond.code yX2_parseNode cX2_parseNode 7 (some .boolean) ∈ fz_WA := fz_in (fz_tin 1201 (by decide +kernel)) (by decide +kernel)
theorem fm_223 : Cond.methodLink RX2 41 yX2_parseNode ∈ fz_WA := fz_in (fz_tin 1198 (by decide +kernel)) (by decide +kernel)
theorem fm_224 : Cond.instanceMethod yX2_parseNode ∈ fz_WA := fz_in (fz_tin 1200 (by decide +kernel)) (by decide +kernel)
theorem fm_225 : Cond.selects RX2 yX2_parseNode yX2_parseNode ∈ fz_WA := fz_in (fz_sin 9 (by decide +kernel)) (by decide +kernel)
theorem fm_226 : Cond.fieldLink RJ5 18 "java/lang/String" "COMPACT_STRINGS" "Z" ∈ fz_WA := fz_in (fz_tin 334 (by decide +kernel)) (by decide +kernel)
theorem fm_227 : Cond.fieldLink RJ5 22 "java/lang/AbstractStringBuilder" "coder" "B" ∈ fz_WA := fz_in (fz_tin 344 (by decide +kernel)) (by decide +kernel)
theorem fm_228 : Cond.fieldLink RJ5 15 "java/lang/AbstractStringBuilder" "value" "[B" ∈ fz_WA := fz_in (fz_tin 343 (by decide +kernel)) (by decide +kernel)
theorem fm_229 : Cond.code yJ5_ensureCapacityInternal_d00df cJ5_ensureCapacityInternal_d00df 3 none ∈ fz_WA := fz_in (fz_tin 1263 (by decide +kernel)) (by decide +kernel)
theorem fm_230 : Cond.methodLink RJ5 100 yJ5_ensureCapacityInternal_d00df ∈ fz_WA := fz_in (fz_tin 1260 (by decide +kernel)) (by decide +kernel)
theorem fm_231 : Cond.selects RJ4 yJ5_isLatin1_aae02 yJ5_isLatin1_aae02 ∈ fz_WA := fz_in (fz_tin 1288 (by decide +kernel)) (by decide +kernel)
theorem fm_232 : Cond.privateMethod yJ5_ensureCapacityInternal_d00df ∈ lw_tbl := fz_tin 1261 (by decide +kernel)
theorem fm_233 : Cond.instanceMethod yJ5_ensureCapacityInternal_d00df ∈ fz_WA := fz_in (fz_tin 1262 (by decide +kernel)) (by decide +kernel)
theorem fm_234 : Cond.code yJ5_setLength_d00df cJ5_setLength_d00df 2 none ∈ fz_WA := fz_in (fz_tin 1240 (by decide +kernel)) (by decide +kernel)
theorem fm_235 : Cond.methodLink RJ4 333 yJ5_setLength_d00df ∈ fz_WA := fz_in (fz_tin 1238 (by decide +kernel)) (by decide +kernel)
theorem fm_236 : Cond.sameMethod RJ5 RJ5 "setLength" "(I)V" ∈ fz_WA := fz_in (fz_tin 2039 (by decide +kernel)) (by decide +kernel)
theorem fm_237 : Cond.instanceMethod yJ5_setLength_d00df ∈ fz_WA := fz_in (fz_tin 1239 (by decide +kernel)) (by decide +kernel)
theorem fm_238 : Cond.code yJ5_isLatin1_aae02 cJ5_isLatin1_aae02 1 (some .boolean) ∈ fz_WA := fz_in (fz_tin 1289 (by decide +kernel)) (by decide +kernel)
theorem fm_239 : Cond.methodLink RJ5 83 yJ5_isLatin1_aae02 ∈ fz_WA := fz_in (fz_tin 1285 (by decide +kernel)) (by decide +kernel)
theorem fm_240 : Cond.instanceMethod yJ5_isLatin1_aae02 ∈ fz_WA := fz_in (fz_tin 1286 (by decide +kernel)) (by decide +kernel)
theorem fm_241 : Cond.code yJ1_canEncode_fc78d cJ1_canEncode_fc78d 1 (some .boolean) ∈ fz_WA := fz_in (fz_tin 1499 (by decide +kernel)) (by decide +kernel)
theorem fm_242 : Cond.methodLink RJ5 191 yJ1_canEncode_fc78d ∈ fz_WA := fz_in (fz_tin 1497 (by decide +kernel)) (by decide +kernel)
theorem fm_243 : Cond.static yJ1_canEncode_fc78d ∈ fz_WA := fz_in (fz_tin 1498 (by decide +kernel)) (by decide +kernel)
theorem fm_244 : Cond.initialized RJ1 ∈ fz_WA := fz_in (fz_tin 34 (by decide +kernel)) (by decide +kernel)
theorem fm_245 : Cond.code yJ5_append_3fe6f cJ5_append_3fe6f 2 (some (.object "java/lang/AbstractStringBuilder")) ∈ fz_WA := fz_in (fz_tin 1496 (by decide +kernel)) (by decide +kernel)
theorem fm_246 : Cond.methodLink RJ4 50 yJ5_append_3fe6f ∈ fz_WA := fz_in (fz_tin 1494 (by decide +kernel)) (by decide +kernel)
theorem fm_247 : Cond.sameMethod RJ5 RJ5 "append" "(C)Ljava/lang/AbstractStringBuilder;" ∈ fz_WA := fz_in (fz_tin 2048 (by decide +kernel)) (by decide +kernel)
theorem fm_248 : Cond.instanceMethod yJ5_append_3fe6f ∈ fz_WA := fz_in (fz_tin 1495 (by decide +kernel)) (by decide +kernel)
theorem fm_249 : Cond.code yJ4_append_cf468 cJ4_append_cf468 2 (some (.object "java/lang/StringBuilder")) ∈ fz_WA := fz_in (fz_tin 1493 (by decide +kernel)) (by decide +kernel)
theorem fm_250 : Cond.methodLink RX9 521 yJ4_append_cf468 ∈ fz_WA := fz_in (fz_tin 1490 (by decide +kernel)) (by decide +kernel)
theorem fm_251 : Cond.instanceMethod yJ4_append_cf468 ∈ fz_WA := fz_in (fz_tin 1491 (by decide +kernel)) (by decide +kernel)
theorem fm_252 : Cond.selects RJ4 yJ4_append_cf468 yJ4_append_cf468 ∈ fz_WA := fz_in (fz_tin 1492 (by decide +kernel)) (by decide +kernel)
theorem fm_253 : Cond.methodLink RX8 49 arraycopyName ∈ fz_WA := fz_in (fz_tin 399 (by decide +kernel)) (by decide +kernel)
theorem fm_254 : Cond.native arraycopyName ∈ fz_WA := fz_in (fz_tin 401 (by decide +kernel)) (by decide +kernel)
theorem fm_255 : Cond.static arraycopyName ∈ fz_WA := fz_in (fz_tin 400 (by decide +kernel)) (by decide +kernel)
theorem fm_256 : Cond.initialized "java/lang/System" ∈ fz_WA := fz_in (fz_tin 24 (by decide +kernel)) (by decide +kernel)
theorem fm_257 : Cond.fieldLink RX8 22 "FindingAid$Tree" "stretch" "[I" ∈ fz_WA := fz_in (fz_tin 66 (by decide +kernel)) (by decide +kernel)
theorem fm_258 : Cond.code yX8_widen cX8_widen 5 none ∈ fz_WA := fz_in (fz_tin 648 (by decide +kernel)) (by decide +kernel)
theorem fm_259 : Cond.methodLink RX8 67 yX8_widen ∈ fz_WA := fz_in (fz_tin 645 (by decide +kernel)) (by decide +kernel)
theorem fm_260 : Cond.instanceMethod yX8_widen ∈ fz_WA := fz_in (fz_tin 647 (by decide +kernel)) (by decide +kernel)
theorem fm_261 : Cond.selects RX8 yX8_widen yX8_widen ∈ fz_WA := fz_in (fz_sin 3 (by decide +kernel)) (by decide +kernel)
theorem fm_262 : Cond.fieldLink RX8 37 "FindingAid$Tree" "from" "[I" ∈ fz_WA := fz_in (fz_tin 79 (by decide +kernel)) (by decide +kernel)
theorem fm_263 : Cond.code yX8_hang cX8_hang 5 none ∈ fz_WA := fz_in (fz_tin 644 (by decide +kernel)) (by decide +kernel)
theorem fm_264 : Cond.methodLink RX8 55 yX8_hang ∈ fz_WA := fz_in (fz_tin 641 (by decide +kernel)) (by decide +kernel)
theorem fm_265 : Cond.instanceMethod yX8_hang ∈ fz_WA := fz_in (fz_tin 642 (by decide +kernel)) (by decide +kernel)
theorem fm_266 : Cond.selects RX8 yX8_hang yX8_hang ∈ fz_WA := fz_in (fz_tin 643 (by decide +kernel)) (by decide +kernel)
theorem fm_267 : Cond.fieldLink RX9 40 "FindingAid" "input" "LFindingAid$Input;" ∈ fz_WA := fz_in (fz_tin 364 (by decide +kernel)) (by decide +kernel)
theorem fm_268 : Cond.fieldLink RX9 432 "FindingAid$Input" "length" "I" ∈ fz_WA := fz_in (fz_tin 290 (by decide +kernel)) (by decide +kernel)
theorem fm_269 : Cond.code yX2_append cX2_append 2 (some .int) ∈ fz_WA := fz_in (fz_tin 1186 (by decide +kernel)) (by decide +kernel)
theorem fm_270 : Cond.methodLink RX9 436 yX2_append ∈ fz_WA := fz_in (fz_tin 1183 (by decide +kernel)) (by decide +kernel)
theorem fm_271 : Cond.instanceMethod yX2_append ∈ fz_WA := fz_in (fz_tin 1184 (by decide +kernel)) (by decide +kernel)
theorem fm_272 : Cond.selects RX2 yX2_append yX2_append ∈ fz_WA := fz_in (fz_tin 1185 (by decide +kernel)) (by decide +kernel)
theorem fm_273 : Cond.code yX2_parse cX2_parse 3 (some .int) ∈ fz_WA := fz_in (fz_tin 1197 (by decide +kernel)) (by decide +kernel)
theorem fm_274 : Cond.methodLink RX9 439 yX2_parse ∈ fz_WA := fz_in (fz_tin 1194 (by decide +kernel)) (by decide +kernel)
theorem fm_275 : Cond.instanceMethod yX2_parse ∈ fz_WA := fz_in (fz_tin 1195 (by decide +kernel)) (by decide +kernel)
theorem fm_276 : Cond.selects RX2 yX2_parse yX2_parse ∈ fz_WA := fz_in (fz_tin 1196 (by decide +kernel)) (by decide +kernel)
theorem fm_277 : Cond.code yJ4_setLength_d00df cJ4_setLength_d00df 2 none ∈ fz_WA := fz_in (fz_tin 1237 (by decide +kernel)) (by decide +kernel)
theorem fm_278 : Cond.methodLink RX9 453 yJ4_setLength_d00df ∈ fz_WA := fz_in (fz_tin 1234 (by decide +kernel)) (by decide +kernel)
theorem fm_279 : Cond.instanceMethod yJ4_setLength_d00df ∈ fz_WA := fz_in (fz_tin 1235 (by decide +kernel)) (by decide +kernel)
theorem fm_280 : Cond.selects RJ4 yJ4_setLength_d00df yJ4_setLength_d00df ∈ fz_WA := fz_in (fz_tin 1236 (by decide +kernel)) (by decide +kernel)
theorem fm_281 : Cond.methodLink RX9 456 yX8_place ∈ fz_WA := fz_in (fz_tin 1481 (by decide +kernel)) (by decide +kernel)
theorem fm_282 : Cond.code yX8_depth cX8_depth 4 (some .int) ∈ fz_WA := fz_in (fz_tin 1485 (by decide +kernel)) (by decide +kernel)
theorem fm_283 : Cond.methodLink RX9 459 yX8_depth ∈ fz_WA := fz_in (fz_tin 1482 (by decide +kernel)) (by decide +kernel)
theorem fm_284 : Cond.instanceMethod yX8_depth ∈ fz_WA := fz_in (fz_tin 1483 (by decide +kernel)) (by decide +kernel)
theorem fm_285 : Cond.selects RX8 yX8_depth yX8_depth ∈ fz_WA := fz_in (fz_tin 1484 (by decide +kernel)) (by decide +kernel)
theorem fm_286 : Cond.fieldLink RX9 462 "FindingAid$Tree" "line" "[I" ∈ fz_WA := fz_in (fz_tin 65 (by decide +kernel)) (by decide +kernel)
theorem fm_287 : Cond.code yX9_appendNode cX9_appendNode 2 none ∈ fz_WA := fz_in (fz_tin 1489 (by decide +kernel)) (by decide +kernel)
theorem fm_288 : Cond.methodLink RX9 465 yX9_appendNode ∈ fz_WA := fz_in (fz_tin 1486 (by decide +kernel)) (by decide +kernel)
theorem fm_289 : Cond.instanceMethod yX9_appendNode ∈ fz_WA := fz_in (fz_tin 1488 (by decide +kernel)) (by decide +kernel)
theorem fm_290 : Cond.selects RX9 yX9_appendNode yX9_appendNode ∈ fz_WA := fz_in (fz_sin 16 (by decide +kernel)) (by decide +kernel)
theorem fm_291 : Cond.code yX9_appendLink cX9_appendLink 5 none ∈ fz_WA := fz_in (fz_tin 1516 (by decide +kernel)) (by decide +kernel)
theorem fm_292 : Cond.methodLink RX9 468 yX9_appendLink ∈ fz_WA := fz_in (fz_tin 1513 (by decide +kernel)) (by decide +kernel)
theorem fm_293 : Cond.instanceMethod yX9_appendLink ∈ fz_WA := fz_in (fz_tin 1515 (by decide +kernel)) (by decide +kernel)
theorem fm_294 : Cond.selects RX9 yX9_appendLink yX9_appendLink ∈ fz_WA := fz_in (fz_sin 17 (by decide +kernel)) (by decide +kernel)
theorem dX0_open_0 : decode cX0_open 0 = .ok (.aload_n 0, 1) := by decide +kernel
theorem dX0_open_1 : decode cX0_open 1 = .ok (.getfield 9, 3) := by decide +kernel
theorem dX0_open_4 : decode cX0_open 4 = .ok (.istore_n 2, 1) := by decide +kernel
theorem dX0_open_5 : decode cX0_open 5 = .ok (.aload_n 0, 1) := by decide +kernel
theorem dX0_open_6 : decode cX0_open 6 = .ok (.getfield 21, 3) := by decide +kernel
theorem dX0_open_9 : decode cX0_open 9 = .ok (.iload_n 2, 1) := by decide +kernel
theorem dX0_open_10 : decode cX0_open 10 = .ok (.iload_n 1, 1) := by decide +kernel
theorem dX0_open_11 : decode cX0_open 11 = .ok (.iastore, 1) := by decide +kernel
theorem dX0_open_12 : decode cX0_open 12 = .ok (.aload_n 0, 1) := by decide +kernel
theorem dX0_open_13 : decode cX0_open 13 = .ok (.dup, 1) := by decide +kernel
theorem dX0_open_14 : decode cX0_open 14 = .ok (.getfield 9, 3) := by decide +kernel
theorem dX0_open_17 : decode cX0_open 17 = .ok (.iconst 1, 1) := by decide +kernel
theorem dX0_open_18 : decode cX0_open 18 = .ok (.iadd, 1) := by decide +kernel
theorem dX0_open_19 : decode cX0_open 19 = .ok (.putfield 9, 3) := by decide +kernel
theorem dX0_open_22 : decode cX0_open 22 = .ok (.aload_n 0, 1) := by decide +kernel
theorem dX0_open_23 : decode cX0_open 23 = .ok (.dup, 1) := by decide +kernel
theorem dX0_open_24 : decode cX0_open 24 = .ok (.getfield 15, 3) := by decide +kernel
theorem dX0_open_27 : decode cX0_open 27 = .ok (.iconst 1, 1) := by decide +kernel
theorem dX0_open_28 : decode cX0_open 28 = .ok (.iadd, 1) := by decide +kernel
theorem dX0_open_29 : decode cX0_open 29 = .ok (.putfield 15, 3) := by decide +kernel
theorem dX0_open_32 : decode cX0_open 32 = .ok (.iload_n 2, 1) := by decide +kernel
theorem dX0_open_33 : decode cX0_open 33 = .ok (.ireturn, 1) := by decide +kernel
theorem dX2_append_0 : decode cX2_append 0 = .ok (.aload_n 0, 1) := by decide +kernel
theorem dX2_append_1 : decode cX2_append 1 = .ok (.getfield 34, 3) := by decide +kernel
theorem dX2_append_4 : decode cX2_append 4 = .ok (.aload_n 0, 1) := by decide +kernel
theorem dX2_append_5 : decode cX2_append 5 = .ok (.getfield 9, 3) := by decide +kernel
theorem dX2_append_8 : decode cX2_append 8 = .ok (.iload_n 1, 1) := by decide +kernel
theorem dX2_append_9 : decode cX2_append 9 = .ok (.castore, 1) := by decide +kernel
theorem dX2_append_10 : decode cX2_append 10 = .ok (.aload_n 0, 1) := by decide +kernel
theorem dX2_append_11 : decode cX2_append 11 = .ok (.dup, 1) := by decide +kernel
theorem dX2_append_12 : decode cX2_append 12 = .ok (.getfield 9, 3) := by decide +kernel
theorem dX2_append_15 : decode cX2_append 15 = .ok (.iconst 1, 1) := by decide +kernel
theorem dX2_append_16 : decode cX2_append 16 = .ok (.iadd, 1) := by decide +kernel
theorem dX2_append_17 : decode cX2_append 17 = .ok (.putfield 9, 3) := by decide +kernel
theorem dX2_append_20 : decode cX2_append 20 = .ok (.aload_n 0, 1) := by decide +kernel
theorem dX2_append_21 : decode cX2_append 21 = .ok (.getfield 9, 3) := by decide +kernel
theorem dX2_append_24 : decode cX2_append 24 = .ok (.ireturn, 1) := by decide +kernel
theorem dX2_digit_0 : decode cX2_digit 0 = .ok (.aload_n 0, 1) := by decide +kernel
theorem dX2_digit_1 : decode cX2_digit 1 = .ok (.getfield 38, 3) := by decide +kernel
theorem dX2_digit_4 : decode cX2_digit 4 = .ok (.aload_n 0, 1) := by decide +kernel
theorem dX2_digit_5 : decode cX2_digit 5 = .ok (.getfield 9, 3) := by decide +kernel
theorem dX2_digit_8 : decode cX2_digit 8 = .ok (.if_icmp .ge 46, 3) := by decide +kernel
theorem dX2_digit_54 : decode cX2_digit 54 = .ok (.iconst (-1), 1) := by decide +kernel
theorem dX2_digit_55 : decode cX2_digit 55 = .ok (.ireturn, 1) := by decide +kernel
theorem dX2_parseNode_0 : decode cX2_parseNode 0 = .ok (.aload_n 0, 1) := by decide +kernel
theorem dX2_parseNode_1 : decode cX2_parseNode 1 = .ok (.invokevirtual 53, 3) := by decide +kernel
theorem dX2_parseNode_4 : decode cX2_parseNode 4 = .ok (.istore_n 2, 1) := by decide +kernel
theorem dX2_parseNode_5 : decode cX2_parseNode 5 = .ok (.iload_n 2, 1) := by decide +kernel
theorem dX2_parseNode_6 : decode cX2_parseNode 6 = .ok (.iconst (-1), 1) := by decide +kernel
theorem dX2_parseNode_7 : decode cX2_parseNode 7 = .ok (.if_icmp .eq 8, 3) := by decide +kernel
theorem dX2_parseNode_15 : decode cX2_parseNode 15 = .ok (.iconst 0, 1) := by decide +kernel
theorem dX2_parseNode_16 : decode cX2_parseNode 16 = .ok (.ireturn, 1) := by decide +kernel
theorem dX2_parse_0 : decode cX2_parse 0 = .ok (.aload_n 0, 1) := by decide +kernel
theorem dX2_parse_1 : decode cX2_parse 1 = .ok (.iconst 0, 1) := by decide +kernel
theorem dX2_parse_2 : decode cX2_parse 2 = .ok (.putfield 38, 3) := by decide +kernel
theorem dX2_parse_5 : decode cX2_parse 5 = .ok (.aload_n 0, 1) := by decide +kernel
theorem dX2_parse_6 : decode cX2_parse 6 = .ok (.iconst 0, 1) := by decide +kernel
theorem dX2_parse_7 : decode cX2_parse 7 = .ok (.putfield 15, 3) := by decide +kernel
theorem dX2_parse_10 : decode cX2_parse 10 = .ok (.iconst (-1), 1) := by decide +kernel
theorem dX2_parse_11 : decode cX2_parse 11 = .ok (.istore_n 1, 1) := by decide +kernel
theorem dX2_parse_12 : decode cX2_parse 12 = .ok (.iconst 0, 1) := by decide +kernel
theorem dX2_parse_13 : decode cX2_parse 13 = .ok (.istore_n 2, 1) := by decide +kernel
theorem dX2_parse_14 : decode cX2_parse 14 = .ok (.iload_n 2, 1) := by decide +kernel
theorem dX2_parse_15 : decode cX2_parse 15 = .ok (.bipush 100, 2) := by decide +kernel
theorem dX2_parse_17 : decode cX2_parse 17 = .ok (.if_icmp .ge 86, 3) := by decide +kernel
theorem dX2_parse_20 : decode cX2_parse 20 = .ok (.aload_n 0, 1) := by decide +kernel
theorem dX2_parse_21 : decode cX2_parse 21 = .ok (.iload_n 1, 1) := by decide +kernel
theorem dX2_parse_22 : decode cX2_parse 22 = .ok (.invokevirtual 41, 3) := by decide +kernel
theorem dX2_parse_25 : decode cX2_parse 25 = .ok (.ifCond .ne 8, 3) := by decide +kernel
theorem dX2_parse_28 : decode cX2_parse 28 = .ok (.aload_n 0, 1) := by decide +kernel
theorem dX2_parse_29 : decode cX2_parse 29 = .ok (.getfield 38, 3) := by decide +kernel
theorem dX2_parse_32 : decode cX2_parse 32 = .ok (.ireturn, 1) := by decide +kernel
theorem dJ1_canEncode_fc78d_0 : decode cJ1_canEncode_fc78d 0 = .ok (.iload_n 0, 1) := by decide +kernel
theorem dJ1_canEncode_fc78d_1 : decode cJ1_canEncode_fc78d 1 = .ok (.sipush 255, 3) := by decide +kernel
theorem dJ1_canEncode_fc78d_4 : decode cJ1_canEncode_fc78d 4 = .ok (.if_icmp .gt 7, 3) := by decide +kernel
theorem dJ1_canEncode_fc78d_7 : decode cJ1_canEncode_fc78d 7 = .ok (.iconst 1, 1) := by decide +kernel
theorem dJ1_canEncode_fc78d_8 : decode cJ1_canEncode_fc78d 8 = .ok (.goto 4, 3) := by decide +kernel
theorem dJ1_canEncode_fc78d_12 : decode cJ1_canEncode_fc78d 12 = .ok (.ireturn, 1) := by decide +kernel
theorem dJ5_isLatin1_aae02_0 : decode cJ5_isLatin1_aae02 0 = .ok (.getstatic 18, 3) := by decide +kernel
theorem dJ5_isLatin1_aae02_3 : decode cJ5_isLatin1_aae02 3 = .ok (.ifCond .eq 14, 3) := by decide +kernel
theorem dJ5_isLatin1_aae02_6 : decode cJ5_isLatin1_aae02 6 = .ok (.aload_n 0, 1) := by decide +kernel
theorem dJ5_isLatin1_aae02_7 : decode cJ5_isLatin1_aae02 7 = .ok (.getfield 22, 3) := by decide +kernel
theorem dJ5_isLatin1_aae02_10 : decode cJ5_isLatin1_aae02 10 = .ok (.ifCond .ne 7, 3) := by decide +kernel
theorem dJ5_isLatin1_aae02_13 : decode cJ5_isLatin1_aae02 13 = .ok (.iconst 1, 1) := by decide +kernel
theorem dJ5_isLatin1_aae02_14 : decode cJ5_isLatin1_aae02 14 = .ok (.goto 4, 3) := by decide +kernel
theorem dJ5_isLatin1_aae02_18 : decode cJ5_isLatin1_aae02 18 = .ok (.ireturn, 1) := by decide +kernel
theorem dJ5_ensureCapacityInternal_d00df_0 : decode cJ5_ensureCapacityInternal_d00df 0 = .ok (.aload_n 0, 1) := by decide +kernel
theorem dJ5_ensureCapacityInternal_d00df_1 : decode cJ5_ensureCapacityInternal_d00df 1 = .ok (.getfield 15, 3) := by decide +kernel
theorem dJ5_ensureCapacityInternal_d00df_4 : decode cJ5_ensureCapacityInternal_d00df 4 = .ok (.arraylength, 1) := by decide +kernel
theorem dJ5_ensureCapacityInternal_d00df_5 : decode cJ5_ensureCapacityInternal_d00df 5 = .ok (.aload_n 0, 1) := by decide +kernel
theorem dJ5_ensureCapacityInternal_d00df_6 : decode cJ5_ensureCapacityInternal_d00df 6 = .ok (.getfield 22, 3) := by decide +kernel
theorem dJ5_ensureCapacityInternal_d00df_9 : decode cJ5_ensureCapacityInternal_d00df 9 = .ok (.ishr, 1) := by decide +kernel
theorem dJ5_ensureCapacityInternal_d00df_10 : decode cJ5_ensureCapacityInternal_d00df 10 = .ok (.istore_n 2, 1) := by decide +kernel
theorem dJ5_ensureCapacityInternal_d00df_11 : decode cJ5_ensureCapacityInternal_d00df 11 = .ok (.iload_n 1, 1) := by decide +kernel
theorem dJ5_ensureCapacityInternal_d00df_12 : decode cJ5_ensureCapacityInternal_d00df 12 = .ok (.iload_n 2, 1) := by decide +kernel
theorem dJ5_ensureCapacityInternal_d00df_13 : decode cJ5_ensureCapacityInternal_d00df 13 = .ok (.isub, 1) := by decide +kernel
theorem dJ5_ensureCapacityInternal_d00df_14 : decode cJ5_ensureCapacityInternal_d00df 14 = .ok (.ifCond .le 24, 3) := by decide +kernel
theorem dJ5_ensureCapacityInternal_d00df_38 : decode cJ5_ensureCapacityInternal_d00df 38 = .ok (.return_, 1) := by decide +kernel
theorem dJ5_setLength_d00df_0 : decode cJ5_setLength_d00df 0 = .ok (.iload_n 1, 1) := by decide +kernel
theorem dJ5_setLength_d00df_1 : decode cJ5_setLength_d00df 1 = .ok (.ifCond .ge 12, 3) := by decide +kernel
theorem dJ5_setLength_d00df_13 : decode cJ5_setLength_d00df 13 = .ok (.aload_n 0, 1) := by decide +kernel
theorem dJ5_setLength_d00df_14 : decode cJ5_setLength_d00df 14 = .ok (.iload_n 1, 1) := by decide +kernel
theorem dJ5_setLength_d00df_15 : decode cJ5_setLength_d00df 15 = .ok (.invokevirtual 100, 3) := by decide +kernel
theorem dJ5_setLength_d00df_18 : decode cJ5_setLength_d00df 18 = .ok (.aload_n 0, 1) := by decide +kernel
theorem dJ5_setLength_d00df_19 : decode cJ5_setLength_d00df 19 = .ok (.getfield 79, 3) := by decide +kernel
theorem dJ5_setLength_d00df_22 : decode cJ5_setLength_d00df 22 = .ok (.iload_n 1, 1) := by decide +kernel
theorem dJ5_setLength_d00df_23 : decode cJ5_setLength_d00df 23 = .ok (.if_icmp .ge 40, 3) := by decide +kernel
theorem dJ5_setLength_d00df_63 : decode cJ5_setLength_d00df 63 = .ok (.aload_n 0, 1) := by decide +kernel
theorem dJ5_setLength_d00df_64 : decode cJ5_setLength_d00df 64 = .ok (.getfield 79, 3) := by decide +kernel
theorem dJ5_setLength_d00df_67 : decode cJ5_setLength_d00df 67 = .ok (.iload_n 1, 1) := by decide +kernel
theorem dJ5_setLength_d00df_68 : decode cJ5_setLength_d00df 68 = .ok (.if_icmp .le 8, 3) := by decide +kernel
theorem dJ5_setLength_d00df_76 : decode cJ5_setLength_d00df 76 = .ok (.aload_n 0, 1) := by decide +kernel
theorem dJ5_setLength_d00df_77 : decode cJ5_setLength_d00df 77 = .ok (.iload_n 1, 1) := by decide +kernel
theorem dJ5_setLength_d00df_78 : decode cJ5_setLength_d00df 78 = .ok (.putfield 79, 3) := by decide +kernel
theorem dJ5_setLength_d00df_81 : decode cJ5_setLength_d00df 81 = .ok (.return_, 1) := by decide +kernel
theorem dJ4_setLength_d00df_0 : decode cJ4_setLength_d00df 0 = .ok (.aload_n 0, 1) := by decide +kernel
theorem dJ4_setLength_d00df_1 : decode cJ4_setLength_d00df 1 = .ok (.iload_n 1, 1) := by decide +kernel
theorem dJ4_setLength_d00df_2 : decode cJ4_setLength_d00df 2 = .ok (.invokespecial 333, 3) := by decide +kernel
theorem dJ4_setLength_d00df_5 : decode cJ4_setLength_d00df 5 = .ok (.return_, 1) := by decide +kernel
theorem dJ5_append_3fe6f_0 : decode cJ5_append_3fe6f 0 = .ok (.aload_n 0, 1) := by decide +kernel
theorem dJ5_append_3fe6f_1 : decode cJ5_append_3fe6f 1 = .ok (.aload_n 0, 1) := by decide +kernel
theorem dJ5_append_3fe6f_2 : decode cJ5_append_3fe6f 2 = .ok (.getfield 79, 3) := by decide +kernel
theorem dJ5_append_3fe6f_5 : decode cJ5_append_3fe6f 5 = .ok (.iconst 1, 1) := by decide +kernel
theorem dJ5_append_3fe6f_6 : decode cJ5_append_3fe6f 6 = .ok (.iadd, 1) := by decide +kernel
theorem dJ5_append_3fe6f_7 : decode cJ5_append_3fe6f 7 = .ok (.invokevirtual 100, 3) := by decide +kernel
theorem dJ5_append_3fe6f_10 : decode cJ5_append_3fe6f 10 = .ok (.aload_n 0, 1) := by decide +kernel
theorem dJ5_append_3fe6f_11 : decode cJ5_append_3fe6f 11 = .ok (.invokevirtual 83, 3) := by decide +kernel
theorem dJ5_append_3fe6f_14 : decode cJ5_append_3fe6f 14 = .ok (.ifCond .eq 31, 3) := by decide +kernel
theorem dJ5_append_3fe6f_17 : decode cJ5_append_3fe6f 17 = .ok (.iload_n 1, 1) := by decide +kernel
theorem dJ5_append_3fe6f_18 : decode cJ5_append_3fe6f 18 = .ok (.invokestatic 191, 3) := by decide +kernel
theorem dJ5_append_3fe6f_21 : decode cJ5_append_3fe6f 21 = .ok (.ifCond .eq 24, 3) := by decide +kernel
theorem dJ5_append_3fe6f_24 : decode cJ5_append_3fe6f 24 = .ok (.aload_n 0, 1) := by decide +kernel
theorem dJ5_append_3fe6f_25 : decode cJ5_append_3fe6f 25 = .ok (.getfield 15, 3) := by decide +kernel
theorem dJ5_append_3fe6f_28 : decode cJ5_append_3fe6f 28 = .ok (.aload_n 0, 1) := by decide +kernel
theorem dJ5_append_3fe6f_29 : decode cJ5_append_3fe6f 29 = .ok (.dup, 1) := by decide +kernel
theorem dJ5_append_3fe6f_30 : decode cJ5_append_3fe6f 30 = .ok (.getfield 79, 3) := by decide +kernel
theorem dJ5_append_3fe6f_33 : decode cJ5_append_3fe6f 33 = .ok (.dup_x1, 1) := by decide +kernel
theorem dJ5_append_3fe6f_34 : decode cJ5_append_3fe6f 34 = .ok (.iconst 1, 1) := by decide +kernel
theorem dJ5_append_3fe6f_35 : decode cJ5_append_3fe6f 35 = .ok (.iadd, 1) := by decide +kernel
theorem dJ5_append_3fe6f_36 : decode cJ5_append_3fe6f 36 = .ok (.putfield 79, 3) := by decide +kernel
theorem dJ5_append_3fe6f_39 : decode cJ5_append_3fe6f 39 = .ok (.iload_n 1, 1) := by decide +kernel
theorem dJ5_append_3fe6f_40 : decode cJ5_append_3fe6f 40 = .ok (.i2b, 1) := by decide +kernel
theorem dJ5_append_3fe6f_41 : decode cJ5_append_3fe6f 41 = .ok (.bastore, 1) := by decide +kernel
theorem dJ5_append_3fe6f_42 : decode cJ5_append_3fe6f 42 = .ok (.goto 33, 3) := by decide +kernel
theorem dJ5_append_3fe6f_75 : decode cJ5_append_3fe6f 75 = .ok (.aload_n 0, 1) := by decide +kernel
theorem dJ5_append_3fe6f_76 : decode cJ5_append_3fe6f 76 = .ok (.areturn, 1) := by decide +kernel
theorem dJ4_append_cf468_0 : decode cJ4_append_cf468 0 = .ok (.aload_n 0, 1) := by decide +kernel
theorem dJ4_append_cf468_1 : decode cJ4_append_cf468 1 = .ok (.iload_n 1, 1) := by decide +kernel
theorem dJ4_append_cf468_2 : decode cJ4_append_cf468 2 = .ok (.invokespecial 50, 3) := by decide +kernel
theorem dJ4_append_cf468_5 : decode cJ4_append_cf468 5 = .ok (.pop, 1) := by decide +kernel
theorem dJ4_append_cf468_6 : decode cJ4_append_cf468 6 = .ok (.aload_n 0, 1) := by decide +kernel
theorem dJ4_append_cf468_7 : decode cJ4_append_cf468 7 = .ok (.areturn, 1) := by decide +kernel
theorem dX9_appendNode_0 : decode cX9_appendNode 0 = .ok (.aload_n 0, 1) := by decide +kernel
theorem dX9_appendNode_1 : decode cX9_appendNode 1 = .ok (.getfield 47, 3) := by decide +kernel
theorem dX9_appendNode_4 : decode cX9_appendNode 4 = .ok (.bipush 48, 2) := by decide +kernel
theorem dX9_appendNode_6 : decode cX9_appendNode 6 = .ok (.aload_n 0, 1) := by decide +kernel
theorem dX9_appendNode_7 : decode cX9_appendNode 7 = .ok (.getfield 10, 3) := by decide +kernel
theorem dX9_appendNode_10 : decode cX9_appendNode 10 = .ok (.getfield 55, 3) := by decide +kernel
theorem dX9_appendNode_13 : decode cX9_appendNode 13 = .ok (.getfield 59, 3) := by decide +kernel
theorem dX9_appendNode_16 : decode cX9_appendNode 16 = .ok (.iload_n 1, 1) := by decide +kernel
theorem dX9_appendNode_17 : decode cX9_appendNode 17 = .ok (.iaload, 1) := by decide +kernel
theorem dX9_appendNode_18 : decode cX9_appendNode 18 = .ok (.iadd, 1) := by decide +kernel
theorem dX9_appendNode_19 : decode cX9_appendNode 19 = .ok (.i2c, 1) := by decide +kernel
theorem dX9_appendNode_20 : decode cX9_appendNode 20 = .ok (.invokevirtual 521, 3) := by decide +kernel
theorem dX9_appendNode_23 : decode cX9_appendNode 23 = .ok (.pop, 1) := by decide +kernel
theorem dX9_appendNode_24 : decode cX9_appendNode 24 = .ok (.aload_n 0, 1) := by decide +kernel
theorem dX9_appendNode_25 : decode cX9_appendNode 25 = .ok (.getfield 10, 3) := by decide +kernel
theorem dX9_appendNode_28 : decode cX9_appendNode 28 = .ok (.getfield 55, 3) := by decide +kernel
theorem dX9_appendNode_31 : decode cX9_appendNode 31 = .ok (.getfield 115, 3) := by decide +kernel
theorem dX9_appendNode_34 : decode cX9_appendNode 34 = .ok (.iload_n 1, 1) := by decide +kernel
theorem dX9_appendNode_35 : decode cX9_appendNode 35 = .ok (.iaload, 1) := by decide +kernel
theorem dX9_appendNode_36 : decode cX9_appendNode 36 = .ok (.ifCond .le 28, 3) := by decide +kernel
theorem dX9_appendNode_64 : decode cX9_appendNode 64 = .ok (.aload_n 0, 1) := by decide +kernel
theorem dX9_appendNode_65 : decode cX9_appendNode 65 = .ok (.getfield 10, 3) := by decide +kernel
theorem dX9_appendNode_68 : decode cX9_appendNode 68 = .ok (.getfield 55, 3) := by decide +kernel
theorem dX9_appendNode_71 : decode cX9_appendNode 71 = .ok (.getfield 118, 3) := by decide +kernel
theorem dX9_appendNode_74 : decode cX9_appendNode 74 = .ok (.iload_n 1, 1) := by decide +kernel
theorem dX9_appendNode_75 : decode cX9_appendNode 75 = .ok (.iaload, 1) := by decide +kernel
theorem dX9_appendNode_76 : decode cX9_appendNode 76 = .ok (.iconst (-1), 1) := by decide +kernel
theorem dX9_appendNode_77 : decode cX9_appendNode 77 = .ok (.if_icmp .eq 48, 3) := by decide +kernel
theorem dX9_appendNode_125 : decode cX9_appendNode 125 = .ok (.return_, 1) := by decide +kernel
theorem dX9_appendLink_0 : decode cX9_appendLink 0 = .ok (.iload_n 2, 1) := by decide +kernel
theorem dX9_appendLink_1 : decode cX9_appendLink 1 = .ok (.iload_n 1, 1) := by decide +kernel
theorem dX9_appendLink_2 : decode cX9_appendLink 2 = .ok (.if_icmp .le 14, 3) := by decide +kernel
theorem dX9_appendLink_16 : decode cX9_appendLink 16 = .ok (.iload_n 2, 1) := by decide +kernel
theorem dX9_appendLink_17 : decode cX9_appendLink 17 = .ok (.istore 4, 2) := by decide +kernel
theorem dX9_appendLink_19 : decode cX9_appendLink 19 = .ok (.iload 4, 2) := by decide +kernel
theorem dX9_appendLink_21 : decode cX9_appendLink 21 = .ok (.iload_n 1, 1) := by decide +kernel
theorem dX9_appendLink_22 : decode cX9_appendLink 22 = .ok (.if_icmp .ge 19, 3) := by decide +kernel
theorem dX9_appendLink_41 : decode cX9_appendLink 41 = .ok (.iload_n 3, 1) := by decide +kernel
theorem dX9_appendLink_42 : decode cX9_appendLink 42 = .ok (.ifCond .eq 13, 3) := by decide +kernel
theorem dX9_appendLink_55 : decode cX9_appendLink 55 = .ok (.return_, 1) := by decide +kernel
theorem dX8_widen_0 : decode cX8_widen 0 = .ok (.iload_n 1, 1) := by decide +kernel
theorem dX8_widen_1 : decode cX8_widen 1 = .ok (.istore_n 3, 1) := by decide +kernel
theorem dX8_widen_2 : decode cX8_widen 2 = .ok (.iconst 0, 1) := by decide +kernel
theorem dX8_widen_3 : decode cX8_widen 3 = .ok (.istore 4, 2) := by decide +kernel
theorem dX8_widen_5 : decode cX8_widen 5 = .ok (.iload 4, 2) := by decide +kernel
theorem dX8_widen_7 : decode cX8_widen 7 = .ok (.iconst 3, 1) := by decide +kernel
theorem dX8_widen_8 : decode cX8_widen 8 = .ok (.if_icmp .gt 31, 3) := by decide +kernel
theorem dX8_widen_11 : decode cX8_widen 11 = .ok (.iload_n 3, 1) := by decide +kernel
theorem dX8_widen_12 : decode cX8_widen 12 = .ok (.iconst (-1), 1) := by decide +kernel
theorem dX8_widen_13 : decode cX8_widen 13 = .ok (.if_icmp .eq 26, 3) := by decide +kernel
theorem dX8_widen_16 : decode cX8_widen 16 = .ok (.aload_n 0, 1) := by decide +kernel
theorem dX8_widen_17 : decode cX8_widen 17 = .ok (.getfield 31, 3) := by decide +kernel
theorem dX8_widen_20 : decode cX8_widen 20 = .ok (.iload_n 3, 1) := by decide +kernel
theorem dX8_widen_21 : decode cX8_widen 21 = .ok (.dup2, 1) := by decide +kernel
theorem dX8_widen_22 : decode cX8_widen 22 = .ok (.iaload, 1) := by decide +kernel
theorem dX8_widen_23 : decode cX8_widen 23 = .ok (.iload_n 2, 1) := by decide +kernel
theorem dX8_widen_24 : decode cX8_widen 24 = .ok (.iadd, 1) := by decide +kernel
theorem dX8_widen_25 : decode cX8_widen 25 = .ok (.iastore, 1) := by decide +kernel
theorem dX8_widen_26 : decode cX8_widen 26 = .ok (.aload_n 0, 1) := by decide +kernel
theorem dX8_widen_27 : decode cX8_widen 27 = .ok (.getfield 28, 3) := by decide +kernel
theorem dX8_widen_30 : decode cX8_widen 30 = .ok (.iload_n 3, 1) := by decide +kernel
theorem dX8_widen_31 : decode cX8_widen 31 = .ok (.iaload, 1) := by decide +kernel
theorem dX8_widen_32 : decode cX8_widen 32 = .ok (.istore_n 3, 1) := by decide +kernel
theorem dX8_widen_33 : decode cX8_widen 33 = .ok (.iinc 4 1, 3) := by decide +kernel
theorem dX8_widen_36 : decode cX8_widen 36 = .ok (.goto (-31), 3) := by decide +kernel
theorem dX8_widen_39 : decode cX8_widen 39 = .ok (.return_, 1) := by decide +kernel
theorem dX8_hang_0 : decode cX8_hang 0 = .ok (.aload_n 0, 1) := by decide +kernel
theorem dX8_hang_1 : decode cX8_hang 1 = .ok (.getfield 31, 3) := by decide +kernel
theorem dX8_hang_4 : decode cX8_hang 4 = .ok (.iload_n 1, 1) := by decide +kernel
theorem dX8_hang_5 : decode cX8_hang 5 = .ok (.iaload, 1) := by decide +kernel
theorem dX8_hang_6 : decode cX8_hang 6 = .ok (.iconst 1, 1) := by decide +kernel
theorem dX8_hang_7 : decode cX8_hang 7 = .ok (.iadd, 1) := by decide +kernel
theorem dX8_hang_8 : decode cX8_hang 8 = .ok (.istore_n 3, 1) := by decide +kernel
theorem dX8_hang_9 : decode cX8_hang 9 = .ok (.aload_n 0, 1) := by decide +kernel
theorem dX8_hang_10 : decode cX8_hang 10 = .ok (.iload_n 2, 1) := by decide +kernel
theorem dX8_hang_11 : decode cX8_hang 11 = .ok (.invokevirtual 63, 3) := by decide +kernel
theorem dX8_hang_14 : decode cX8_hang 14 = .ok (.aload_n 0, 1) := by decide +kernel
theorem dX8_hang_15 : decode cX8_hang 15 = .ok (.getfield 31, 3) := by decide +kernel
theorem dX8_hang_18 : decode cX8_hang 18 = .ok (.iload_n 2, 1) := by decide +kernel
theorem dX8_hang_19 : decode cX8_hang 19 = .ok (.iaload, 1) := by decide +kernel
theorem dX8_hang_20 : decode cX8_hang 20 = .ok (.iadd, 1) := by decide +kernel
theorem dX8_hang_21 : decode cX8_hang 21 = .ok (.iconst 1, 1) := by decide +kernel
theorem dX8_hang_22 : decode cX8_hang 22 = .ok (.iadd, 1) := by decide +kernel
theorem dX8_hang_23 : decode cX8_hang 23 = .ok (.istore 4, 2) := by decide +kernel
theorem dX8_hang_25 : decode cX8_hang 25 = .ok (.aload_n 0, 1) := by decide +kernel
theorem dX8_hang_26 : decode cX8_hang 26 = .ok (.getfield 18, 3) := by decide +kernel
theorem dX8_hang_29 : decode cX8_hang 29 = .ok (.iload 4, 2) := by decide +kernel
theorem dX8_hang_31 : decode cX8_hang 31 = .ok (.aload_n 0, 1) := by decide +kernel
theorem dX8_hang_32 : decode cX8_hang 32 = .ok (.getfield 18, 3) := by decide +kernel
theorem dX8_hang_35 : decode cX8_hang 35 = .ok (.iload 4, 2) := by decide +kernel
theorem dX8_hang_37 : decode cX8_hang 37 = .ok (.iload_n 3, 1) := by decide +kernel
theorem dX8_hang_38 : decode cX8_hang 38 = .ok (.iadd, 1) := by decide +kernel
theorem dX8_hang_39 : decode cX8_hang 39 = .ok (.aload_n 0, 1) := by decide +kernel
theorem dX8_hang_40 : decode cX8_hang 40 = .ok (.getfield 15, 3) := by decide +kernel
theorem dX8_hang_43 : decode cX8_hang 43 = .ok (.iload 4, 2) := by decide +kernel
theorem dX8_hang_45 : decode cX8_hang 45 = .ok (.isub, 1) := by decide +kernel
theorem dX8_hang_46 : decode cX8_hang 46 = .ok (.invokestatic 49, 3) := by decide +kernel
theorem dX8_hang_49 : decode cX8_hang 49 = .ok (.aload_n 0, 1) := by decide +kernel
theorem dX8_hang_50 : decode cX8_hang 50 = .ok (.getfield 22, 3) := by decide +kernel
theorem dX8_hang_53 : decode cX8_hang 53 = .ok (.iconst 0, 1) := by decide +kernel
theorem dX8_hang_54 : decode cX8_hang 54 = .ok (.aload_n 0, 1) := by decide +kernel
theorem dX8_hang_55 : decode cX8_hang 55 = .ok (.getfield 18, 3) := by decide +kernel
theorem dX8_hang_58 : decode cX8_hang 58 = .ok (.iload 4, 2) := by decide +kernel
theorem dX8_hang_60 : decode cX8_hang 60 = .ok (.iload_n 3, 1) := by decide +kernel
theorem dX8_hang_61 : decode cX8_hang 61 = .ok (.invokestatic 49, 3) := by decide +kernel
theorem dX8_hang_64 : decode cX8_hang 64 = .ok (.aload_n 0, 1) := by decide +kernel
theorem dX8_hang_65 : decode cX8_hang 65 = .ok (.dup, 1) := by decide +kernel
theorem dX8_hang_66 : decode cX8_hang 66 = .ok (.getfield 15, 3) := by decide +kernel
theorem dX8_hang_69 : decode cX8_hang 69 = .ok (.iload_n 3, 1) := by decide +kernel
theorem dX8_hang_70 : decode cX8_hang 70 = .ok (.iadd, 1) := by decide +kernel
theorem dX8_hang_71 : decode cX8_hang 71 = .ok (.putfield 15, 3) := by decide +kernel
theorem dX8_hang_74 : decode cX8_hang 74 = .ok (.aload_n 0, 1) := by decide +kernel
theorem dX8_hang_75 : decode cX8_hang 75 = .ok (.getfield 28, 3) := by decide +kernel
theorem dX8_hang_78 : decode cX8_hang 78 = .ok (.iload_n 1, 1) := by decide +kernel
theorem dX8_hang_79 : decode cX8_hang 79 = .ok (.iload_n 2, 1) := by decide +kernel
theorem dX8_hang_80 : decode cX8_hang 80 = .ok (.iastore, 1) := by decide +kernel
theorem dX8_hang_81 : decode cX8_hang 81 = .ok (.aload_n 0, 1) := by decide +kernel
theorem dX8_hang_82 : decode cX8_hang 82 = .ok (.iload_n 2, 1) := by decide +kernel
theorem dX8_hang_83 : decode cX8_hang 83 = .ok (.iload_n 3, 1) := by decide +kernel
theorem dX8_hang_84 : decode cX8_hang 84 = .ok (.invokevirtual 67, 3) := by decide +kernel
theorem dX8_hang_87 : decode cX8_hang 87 = .ok (.return_, 1) := by decide +kernel
theorem dX8_grow_0 : decode cX8_grow 0 = .ok (.aload_n 0, 1) := by decide +kernel
theorem dX8_grow_1 : decode cX8_grow 1 = .ok (.getfield 9, 3) := by decide +kernel
theorem dX8_grow_4 : decode cX8_grow 4 = .ok (.istore 6, 2) := by decide +kernel
theorem dX8_grow_6 : decode cX8_grow 6 = .ok (.aload_n 0, 1) := by decide +kernel
theorem dX8_grow_7 : decode cX8_grow 7 = .ok (.dup, 1) := by decide +kernel
theorem dX8_grow_8 : decode cX8_grow 8 = .ok (.getfield 9, 3) := by decide +kernel
theorem dX8_grow_11 : decode cX8_grow 11 = .ok (.iconst 1, 1) := by decide +kernel
theorem dX8_grow_12 : decode cX8_grow 12 = .ok (.iadd, 1) := by decide +kernel
theorem dX8_grow_13 : decode cX8_grow 13 = .ok (.putfield 9, 3) := by decide +kernel
theorem dX8_grow_16 : decode cX8_grow 16 = .ok (.aload_n 0, 1) := by decide +kernel
theorem dX8_grow_17 : decode cX8_grow 17 = .ok (.getfield 25, 3) := by decide +kernel
theorem dX8_grow_20 : decode cX8_grow 20 = .ok (.iload 6, 2) := by decide +kernel
theorem dX8_grow_22 : decode cX8_grow 22 = .ok (.iload_n 2, 1) := by decide +kernel
theorem dX8_grow_23 : decode cX8_grow 23 = .ok (.iastore, 1) := by decide +kernel
theorem dX8_grow_24 : decode cX8_grow 24 = .ok (.aload_n 0, 1) := by decide +kernel
theorem dX8_grow_25 : decode cX8_grow 25 = .ok (.getfield 31, 3) := by decide +kernel
theorem dX8_grow_28 : decode cX8_grow 28 = .ok (.iload 6, 2) := by decide +kernel
theorem dX8_grow_30 : decode cX8_grow 30 = .ok (.iconst 0, 1) := by decide +kernel
theorem dX8_grow_31 : decode cX8_grow 31 = .ok (.iastore, 1) := by decide +kernel
theorem dX8_grow_32 : decode cX8_grow 32 = .ok (.aload_n 0, 1) := by decide +kernel
theorem dX8_grow_33 : decode cX8_grow 33 = .ok (.getfield 34, 3) := by decide +kernel
theorem dX8_grow_36 : decode cX8_grow 36 = .ok (.iload 6, 2) := by decide +kernel
theorem dX8_grow_38 : decode cX8_grow 38 = .ok (.iload_n 3, 1) := by decide +kernel
theorem dX8_grow_39 : decode cX8_grow 39 = .ok (.iastore, 1) := by decide +kernel
theorem dX8_grow_40 : decode cX8_grow 40 = .ok (.aload_n 0, 1) := by decide +kernel
theorem dX8_grow_41 : decode cX8_grow 41 = .ok (.getfield 37, 3) := by decide +kernel
theorem dX8_grow_44 : decode cX8_grow 44 = .ok (.iload 6, 2) := by decide +kernel
theorem dX8_grow_46 : decode cX8_grow 46 = .ok (.iload 4, 2) := by decide +kernel
theorem dX8_grow_48 : decode cX8_grow 48 = .ok (.iastore, 1) := by decide +kernel
theorem dX8_grow_49 : decode cX8_grow 49 = .ok (.aload_n 0, 1) := by decide +kernel
theorem dX8_grow_50 : decode cX8_grow 50 = .ok (.getfield 40, 3) := by decide +kernel
theorem dX8_grow_53 : decode cX8_grow 53 = .ok (.iload 6, 2) := by decide +kernel
theorem dX8_grow_55 : decode cX8_grow 55 = .ok (.iload 4, 2) := by decide +kernel
theorem dX8_grow_57 : decode cX8_grow 57 = .ok (.iconst (-1), 1) := by decide +kernel
theorem dX8_grow_58 : decode cX8_grow 58 = .ok (.if_icmp .ne 7, 3) := by decide +kernel
theorem dX8_grow_65 : decode cX8_grow 65 = .ok (.iload 5, 2) := by decide +kernel
theorem dX8_grow_67 : decode cX8_grow 67 = .ok (.iastore, 1) := by decide +kernel
theorem dX8_grow_68 : decode cX8_grow 68 = .ok (.aload_n 0, 1) := by decide +kernel
theorem dX8_grow_69 : decode cX8_grow 69 = .ok (.getfield 22, 3) := by decide +kernel
theorem dX8_grow_72 : decode cX8_grow 72 = .ok (.iconst 0, 1) := by decide +kernel
theorem dX8_grow_73 : decode cX8_grow 73 = .ok (.iload 6, 2) := by decide +kernel
theorem dX8_grow_75 : decode cX8_grow 75 = .ok (.iastore, 1) := by decide +kernel
theorem dX8_grow_76 : decode cX8_grow 76 = .ok (.aload_n 0, 1) := by decide +kernel
theorem dX8_grow_77 : decode cX8_grow 77 = .ok (.iload 6, 2) := by decide +kernel
theorem dX8_grow_79 : decode cX8_grow 79 = .ok (.iload_n 1, 1) := by decide +kernel
theorem dX8_grow_80 : decode cX8_grow 80 = .ok (.invokevirtual 55, 3) := by decide +kernel
theorem dX8_grow_83 : decode cX8_grow 83 = .ok (.iload 6, 2) := by decide +kernel
theorem dX8_grow_85 : decode cX8_grow 85 = .ok (.ireturn, 1) := by decide +kernel
theorem dX8_grow_61 : decode cX8_grow 61 = .ok (.iconst (-1), 1) := by decide +kernel
theorem dX8_grow_62 : decode cX8_grow 62 = .ok (.goto 5, 3) := by decide +kernel
theorem dX9_feed_0 : decode cX9_feed 0 = .ok (.aload_n 0, 1) := by decide +kernel
theorem dX9_feed_1 : decode cX9_feed 1 = .ok (.getfield 40, 3) := by decide +kernel
theorem dX9_feed_4 : decode cX9_feed 4 = .ok (.getfield 432, 3) := by decide +kernel
theorem dX9_feed_7 : decode cX9_feed 7 = .ok (.bipush 100, 2) := by decide +kernel
theorem dX9_feed_9 : decode cX9_feed 9 = .ok (.if_icmp .lt 14, 3) := by decide +kernel
theorem dX9_feed_23 : decode cX9_feed 23 = .ok (.aload_n 0, 1) := by decide +kernel
theorem dX9_feed_24 : decode cX9_feed 24 = .ok (.getfield 40, 3) := by decide +kernel
theorem dX9_feed_27 : decode cX9_feed 27 = .ok (.iload_n 1, 1) := by decide +kernel
theorem dX9_feed_28 : decode cX9_feed 28 = .ok (.invokevirtual 436, 3) := by decide +kernel
theorem dX9_feed_31 : decode cX9_feed 31 = .ok (.ireturn, 1) := by decide +kernel
theorem dX9_read_0 : decode cX9_read 0 = .ok (.aload_n 0, 1) := by decide +kernel
theorem dX9_read_1 : decode cX9_read 1 = .ok (.iload_n 1, 1) := by decide +kernel
theorem dX9_read_2 : decode cX9_read 2 = .ok (.invokevirtual 51, 3) := by decide +kernel
theorem dX9_read_5 : decode cX9_read 5 = .ok (.aload_n 0, 1) := by decide +kernel
theorem dX9_read_6 : decode cX9_read 6 = .ok (.getfield 40, 3) := by decide +kernel
theorem dX9_read_9 : decode cX9_read 9 = .ok (.invokevirtual 439, 3) := by decide +kernel
theorem dX9_read_12 : decode cX9_read 12 = .ok (.istore_n 2, 1) := by decide +kernel
theorem dX9_read_13 : decode cX9_read 13 = .ok (.aload_n 0, 1) := by decide +kernel
theorem dX9_read_14 : decode cX9_read 14 = .ok (.getfield 40, 3) := by decide +kernel
theorem dX9_read_17 : decode cX9_read 17 = .ok (.iconst 0, 1) := by decide +kernel
theorem dX9_read_18 : decode cX9_read 18 = .ok (.putfield 432, 3) := by decide +kernel
theorem dX9_read_21 : decode cX9_read 21 = .ok (.iload_n 2, 1) := by decide +kernel
theorem dX9_read_22 : decode cX9_read 22 = .ok (.iconst (-1), 1) := by decide +kernel
theorem dX9_read_23 : decode cX9_read 23 = .ok (.if_icmp .eq 8, 3) := by decide +kernel
theorem dX9_read_26 : decode cX9_read 26 = .ok (.bipush (-100), 2) := by decide +kernel
theorem dX9_read_28 : decode cX9_read 28 = .ok (.iload_n 2, 1) := by decide +kernel
theorem dX9_read_29 : decode cX9_read 29 = .ok (.isub, 1) := by decide +kernel
theorem dX9_read_30 : decode cX9_read 30 = .ok (.ireturn, 1) := by decide +kernel
theorem dX9_write_0 : decode cX9_write 0 = .ok (.aload_n 0, 1) := by decide +kernel
theorem dX9_write_1 : decode cX9_write 1 = .ok (.iload_n 1, 1) := by decide +kernel
theorem dX9_write_2 : decode cX9_write 2 = .ok (.invokevirtual 51, 3) := by decide +kernel
theorem dX9_write_5 : decode cX9_write 5 = .ok (.aload_n 0, 1) := by decide +kernel
theorem dX9_write_6 : decode cX9_write 6 = .ok (.getfield 47, 3) := by decide +kernel
theorem dX9_write_9 : decode cX9_write 9 = .ok (.iconst 0, 1) := by decide +kernel
theorem dX9_write_10 : decode cX9_write 10 = .ok (.invokevirtual 453, 3) := by decide +kernel
theorem dX9_write_13 : decode cX9_write 13 = .ok (.aload_n 0, 1) := by decide +kernel
theorem dX9_write_14 : decode cX9_write 14 = .ok (.getfield 10, 3) := by decide +kernel
theorem dX9_write_17 : decode cX9_write 17 = .ok (.getfield 55, 3) := by decide +kernel
theorem dX9_write_20 : decode cX9_write 20 = .ok (.astore_n 2, 1) := by decide +kernel
theorem dX9_write_21 : decode cX9_write 21 = .ok (.aload_n 2, 1) := by decide +kernel
theorem dX9_write_22 : decode cX9_write 22 = .ok (.iload_n 1, 1) := by decide +kernel
theorem dX9_write_23 : decode cX9_write 23 = .ok (.invokevirtual 456, 3) := by decide +kernel
theorem dX9_write_26 : decode cX9_write 26 = .ok (.istore_n 3, 1) := by decide +kernel
theorem dX9_write_27 : decode cX9_write 27 = .ok (.iload_n 3, 1) := by decide +kernel
theorem dX9_write_28 : decode cX9_write 28 = .ok (.aload_n 2, 1) := by decide +kernel
theorem dX9_write_29 : decode cX9_write 29 = .ok (.getfield 130, 3) := by decide +kernel
theorem dX9_write_32 : decode cX9_write 32 = .ok (.iload_n 1, 1) := by decide +kernel
theorem dX9_write_33 : decode cX9_write 33 = .ok (.iaload, 1) := by decide +kernel
theorem dX9_write_34 : decode cX9_write 34 = .ok (.iadd, 1) := by decide +kernel
theorem dX9_write_35 : decode cX9_write 35 = .ok (.istore 4, 2) := by decide +kernel
theorem dX9_write_37 : decode cX9_write 37 = .ok (.aload_n 2, 1) := by decide +kernel
theorem dX9_write_38 : decode cX9_write 38 = .ok (.iload_n 1, 1) := by decide +kernel
theorem dX9_write_39 : decode cX9_write 39 = .ok (.invokevirtual 459, 3) := by decide +kernel
theorem dX9_write_42 : decode cX9_write 42 = .ok (.istore 5, 2) := by decide +kernel
theorem dX9_write_44 : decode cX9_write 44 = .ok (.iload_n 3, 1) := by decide +kernel
theorem dX9_write_45 : decode cX9_write 45 = .ok (.istore 6, 2) := by decide +kernel
theorem dX9_write_47 : decode cX9_write 47 = .ok (.iload 6, 2) := by decide +kernel
theorem dX9_write_49 : decode cX9_write 49 = .ok (.iload 4, 2) := by decide +kernel
theorem dX9_write_51 : decode cX9_write 51 = .ok (.if_icmp .gt 76, 3) := by decide +kernel
theorem dX9_write_54 : decode cX9_write 54 = .ok (.iload 6, 2) := by decide +kernel
theorem dX9_write_56 : decode cX9_write 56 = .ok (.iload 4, 2) := by decide +kernel
theorem dX9_write_58 : decode cX9_write 58 = .ok (.if_icmp .ge 19, 3) := by decide +kernel
theorem dX9_write_77 : decode cX9_write 77 = .ok (.iload 5, 2) := by decide +kernel
theorem dX9_write_79 : decode cX9_write 79 = .ok (.istore 7, 2) := by decide +kernel
theorem dX9_write_81 : decode cX9_write 81 = .ok (.aload_n 0, 1) := by decide +kernel
theorem dX9_write_82 : decode cX9_write 82 = .ok (.aload_n 2, 1) := by decide +kernel
theorem dX9_write_83 : decode cX9_write 83 = .ok (.getfield 462, 3) := by decide +kernel
theorem dX9_write_86 : decode cX9_write 86 = .ok (.iload 6, 2) := by decide +kernel
theorem dX9_write_88 : decode cX9_write 88 = .ok (.iaload, 1) := by decide +kernel
theorem dX9_write_89 : decode cX9_write 89 = .ok (.invokevirtual 465, 3) := by decide +kernel
theorem dX9_write_92 : decode cX9_write 92 = .ok (.aload_n 0, 1) := by decide +kernel
theorem dX9_write_93 : decode cX9_write 93 = .ok (.aload_n 2, 1) := by decide +kernel
theorem dX9_write_94 : decode cX9_write 94 = .ok (.aload_n 2, 1) := by decide +kernel
theorem dX9_write_95 : decode cX9_write 95 = .ok (.getfield 462, 3) := by decide +kernel
theorem dX9_write_98 : decode cX9_write 98 = .ok (.iload 6, 2) := by decide +kernel
theorem dX9_write_100 : decode cX9_write 100 = .ok (.iaload, 1) := by decide +kernel
theorem dX9_write_101 : decode cX9_write 101 = .ok (.invokevirtual 459, 3) := by decide +kernel
theorem dX9_write_104 : decode cX9_write 104 = .ok (.iload 7, 2) := by decide +kernel
theorem dX9_write_106 : decode cX9_write 106 = .ok (.iload 6, 2) := by decide +kernel
theorem dX9_write_108 : decode cX9_write 108 = .ok (.iload 4, 2) := by decide +kernel
theorem dX9_write_110 : decode cX9_write 110 = .ok (.if_icmp .ge 7, 3) := by decide +kernel
theorem dX9_write_117 : decode cX9_write 117 = .ok (.iconst 0, 1) := by decide +kernel
theorem dX9_write_118 : decode cX9_write 118 = .ok (.invokevirtual 468, 3) := by decide +kernel
theorem dX9_write_121 : decode cX9_write 121 = .ok (.iinc 6 1, 3) := by decide +kernel
theorem dX9_write_124 : decode cX9_write 124 = .ok (.goto (-77), 3) := by decide +kernel
theorem dX9_write_127 : decode cX9_write 127 = .ok (.aload_n 0, 1) := by decide +kernel
theorem dX9_write_128 : decode cX9_write 128 = .ok (.getfield 47, 3) := by decide +kernel
theorem dX9_write_131 : decode cX9_write 131 = .ok (.invokevirtual 472, 3) := by decide +kernel
theorem dX9_write_134 : decode cX9_write 134 = .ok (.ireturn, 1) := by decide +kernel


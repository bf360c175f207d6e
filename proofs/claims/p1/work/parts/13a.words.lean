def fz_v0 : Nat → Int32 := fun i => bif Nat.beq i 0 then 3 else bif Nat.beq i 1 then 1 else bif Nat.beq i 2 then 1 else 0
theorem fm_295 : Cond.methodLink RX8 3 objectInit ∈ fz_WA := fz_in (fz_tin 54 (by decide +kernel)) (by decide +kernel)
theorem fm_296 : Cond.instanceMethod objectInit ∈ fz_WA := fz_in (fz_tin 41 (by decide +kernel)) (by decide +kernel)
theorem fm_297 : Cond.code objectInit ⟨#[0xb1]⟩ 1 none ∈ fz_WA := fz_in (fz_tin 42 (by decide +kernel)) (by decide +kernel)
theorem fm_298 : Cond.arrayClass .int ∈ fz_WA := fz_in (fz_tin 104 (by decide +kernel)) (by decide +kernel)
theorem fm_299 : Cond.code yJ7_fill_53178 cJ7_fill_53178 4 none ∈ fz_WA := fz_in (fz_tin 57 (by decide +kernel)) (by decide +kernel)
theorem fm_300 : Cond.methodLink RX8 43 yJ7_fill_53178 ∈ fz_WA := fz_in (fz_tin 55 (by decide +kernel)) (by decide +kernel)
theorem fm_301 : Cond.static yJ7_fill_53178 ∈ fz_WA := fz_in (fz_tin 56 (by decide +kernel)) (by decide +kernel)
theorem fm_302 : Cond.initialized RJ7 ∈ fz_WA := fz_in (fz_tin 4 (by decide +kernel)) (by decide +kernel)
theorem fm_303 : Cond.methodLink RX6 3 objectInit ∈ fz_WA := fz_in (fz_tin 110 (by decide +kernel)) (by decide +kernel)
theorem fm_304 : Cond.fieldLink RX6 15 "FindingAid$Rules" "length" "[I" ∈ fz_WA := fz_in (fz_tin 114 (by decide +kernel)) (by decide +kernel)
theorem fm_305 : Cond.fieldLink RX6 18 "FindingAid$Rules" "pageLength" "[I" ∈ fz_WA := fz_in (fz_tin 116 (by decide +kernel)) (by decide +kernel)
theorem fm_306 : Cond.methodLink RX6 21 yJ7_fill_53178 ∈ fz_WA := fz_in (fz_tin 111 (by decide +kernel)) (by decide +kernel)
theorem fm_307 : Cond.methodLink RX3 3 objectInit ∈ fz_WA := fz_in (fz_tin 136 (by decide +kernel)) (by decide +kernel)
theorem fm_308 : Cond.fieldLink RX3 15 "FindingAid$Marks" "container" "[I" ∈ fz_WA := fz_in (fz_tin 138 (by decide +kernel)) (by decide +kernel)
theorem fm_309 : Cond.fieldLink RX3 19 "FindingAid$Marks" "unit" "[I" ∈ fz_WA := fz_in (fz_tin 139 (by decide +kernel)) (by decide +kernel)
theorem fm_310 : Cond.methodLink RX0 3 objectInit ∈ fz_WA := fz_in (fz_tin 130 (by decide +kernel)) (by decide +kernel)
theorem fm_311 : Cond.fieldLink RX0 18 "FindingAid$Containers" "stored" "I" ∈ fz_WA := fz_in (fz_tin 151 (by decide +kernel)) (by decide +kernel)
theorem fm_312 : Cond.fieldLink RX0 25 "FindingAid$Containers" "given" "[I" ∈ fz_WA := fz_in (fz_tin 155 (by decide +kernel)) (by decide +kernel)
theorem fm_313 : Cond.fieldLink RX0 28 "FindingAid$Containers" "row" "[I" ∈ fz_WA := fz_in (fz_tin 157 (by decide +kernel)) (by decide +kernel)
theorem fm_314 : Cond.fieldLink RX0 31 "FindingAid$Containers" "holder" "[I" ∈ fz_WA := fz_in (fz_tin 158 (by decide +kernel)) (by decide +kernel)
theorem fm_315 : Cond.fieldLink RX0 34 "FindingAid$Containers" "serial" "[I" ∈ fz_WA := fz_in (fz_tin 161 (by decide +kernel)) (by decide +kernel)
theorem fm_316 : Cond.classLink RX0 37 RX3 ∈ fz_WA := fz_in (fz_tin 131 (by decide +kernel)) (by decide +kernel)
theorem fm_317 : Cond.instantiable RX3 3 ∈ fz_WA := fz_in (fz_tin 132 (by decide +kernel)) (by decide +kernel)
theorem fm_318 : Cond.code yX3_init cX3_init 1 none ∈ fz_WA := fz_in (fz_tin 135 (by decide +kernel)) (by decide +kernel)
theorem fm_319 : Cond.methodLinkNest RX0 39 yX3_init RX9 ∈ lw_tbl := fz_tin 133 (by decide +kernel)
theorem fm_320 : Cond.instanceMethod yX3_init ∈ fz_WA := fz_in (fz_tin 134 (by decide +kernel)) (by decide +kernel)
theorem fm_321 : Cond.fieldLink RX0 40 "FindingAid$Containers" "marks" "LFindingAid$Marks;" ∈ fz_WA := fz_in (fz_tin 163 (by decide +kernel)) (by decide +kernel)
theorem fm_322 : Cond.methodLink RX0 44 yJ7_fill_53178 ∈ fz_WA := fz_in (fz_tin 147 (by decide +kernel)) (by decide +kernel)
theorem fm_323 : Cond.methodLink RX1 3 objectInit ∈ fz_WA := fz_in (fz_tin 189 (by decide +kernel)) (by decide +kernel)
theorem fm_324 : Cond.fieldLink RX1 15 "FindingAid$Copies" "unit" "[I" ∈ fz_WA := fz_in (fz_tin 193 (by decide +kernel)) (by decide +kernel)
theorem fm_325 : Cond.fieldLink RX1 19 "FindingAid$Copies" "hidden" "[I" ∈ fz_WA := fz_in (fz_tin 196 (by decide +kernel)) (by decide +kernel)
theorem fm_326 : Cond.methodLink RX5 3 objectInit ∈ fz_WA := fz_in (fz_tin 211 (by decide +kernel)) (by decide +kernel)
theorem fm_327 : Cond.fieldLink RX5 15 "FindingAid$Requests" "reader" "[I" ∈ fz_WA := fz_in (fz_tin 215 (by decide +kernel)) (by decide +kernel)
theorem fm_328 : Cond.fieldLink RX5 19 "FindingAid$Requests" "unit" "[I" ∈ fz_WA := fz_in (fz_tin 218 (by decide +kernel)) (by decide +kernel)
theorem fm_329 : Cond.fieldLink RX5 22 "FindingAid$Requests" "day" "[I" ∈ fz_WA := fz_in (fz_tin 221 (by decide +kernel)) (by decide +kernel)
theorem fm_330 : Cond.fieldLink RX5 25 "FindingAid$Requests" "shown" "[I" ∈ fz_WA := fz_in (fz_tin 224 (by decide +kernel)) (by decide +kernel)
theorem fm_331 : Cond.methodLink RX7 3 objectInit ∈ fz_WA := fz_in (fz_tin 48 (by decide +kernel)) (by decide +kernel)
theorem fm_332 : Cond.classLink RX7 9 RX8 ∈ fz_WA := fz_in (fz_tin 49 (by decide +kernel)) (by decide +kernel)
theorem fm_333 : Cond.instantiable RX8 10 ∈ fz_WA := fz_in (fz_tin 50 (by decide +kernel)) (by decide +kernel)
theorem fm_334 : Cond.code yX8_init cX8_init 1 none ∈ fz_WA := fz_in (fz_tin 53 (by decide +kernel)) (by decide +kernel)
theorem fm_335 : Cond.methodLink RX7 11 yX8_init ∈ fz_WA := fz_in (fz_tin 51 (by decide +kernel)) (by decide +kernel)
theorem fm_336 : Cond.instanceMethod yX8_init ∈ fz_WA := fz_in (fz_tin 52 (by decide +kernel)) (by decide +kernel)
theorem fm_337 : Cond.classLink RX7 18 RX6 ∈ fz_WA := fz_in (fz_tin 105 (by decide +kernel)) (by decide +kernel)
theorem fm_338 : Cond.instantiable RX6 3 ∈ fz_WA := fz_in (fz_tin 106 (by decide +kernel)) (by decide +kernel)
theorem fm_339 : Cond.code yX6_init cX6_init 1 none ∈ fz_WA := fz_in (fz_tin 109 (by decide +kernel)) (by decide +kernel)
theorem fm_340 : Cond.methodLink RX7 20 yX6_init ∈ fz_WA := fz_in (fz_tin 107 (by decide +kernel)) (by decide +kernel)
theorem fm_341 : Cond.instanceMethod yX6_init ∈ fz_WA := fz_in (fz_tin 108 (by decide +kernel)) (by decide +kernel)
theorem fm_342 : Cond.classLink RX7 25 RX0 ∈ fz_WA := fz_in (fz_tin 125 (by decide +kernel)) (by decide +kernel)
theorem fm_343 : Cond.instantiable RX0 9 ∈ fz_WA := fz_in (fz_tin 126 (by decide +kernel)) (by decide +kernel)
theorem fm_344 : Cond.code yX0_init cX0_init 1 none ∈ fz_WA := fz_in (fz_tin 129 (by decide +kernel)) (by decide +kernel)
theorem fm_345 : Cond.methodLink RX7 27 yX0_init ∈ fz_WA := fz_in (fz_tin 127 (by decide +kernel)) (by decide +kernel)
theorem fm_346 : Cond.instanceMethod yX0_init ∈ fz_WA := fz_in (fz_tin 128 (by decide +kernel)) (by decide +kernel)
theorem fm_347 : Cond.fieldLink RX7 28 "FindingAid$State" "containers" "LFindingAid$Containers;" ∈ fz_WA := fz_in (fz_tin 242 (by decide +kernel)) (by decide +kernel)
theorem fm_348 : Cond.classLink RX7 32 RX1 ∈ fz_WA := fz_in (fz_tin 184 (by decide +kernel)) (by decide +kernel)
theorem fm_349 : Cond.instantiable RX1 3 ∈ fz_WA := fz_in (fz_tin 185 (by decide +kernel)) (by decide +kernel)
theorem fm_350 : Cond.code yX1_init cX1_init 1 none ∈ fz_WA := fz_in (fz_tin 188 (by decide +kernel)) (by decide +kernel)
theorem fm_351 : Cond.methodLinkNest RX7 34 yX1_init RX9 ∈ lw_tbl := fz_tin 186 (by decide +kernel)
theorem fm_352 : Cond.instanceMethod yX1_init ∈ fz_WA := fz_in (fz_tin 187 (by decide +kernel)) (by decide +kernel)
theorem fm_353 : Cond.fieldLink RX7 35 "FindingAid$State" "copies" "LFindingAid$Copies;" ∈ fz_WA := fz_in (fz_tin 244 (by decide +kernel)) (by decide +kernel)
theorem fm_354 : Cond.classLink RX7 39 RX5 ∈ fz_WA := fz_in (fz_tin 206 (by decide +kernel)) (by decide +kernel)
theorem fm_355 : Cond.instantiable RX5 5 ∈ fz_WA := fz_in (fz_tin 207 (by decide +kernel)) (by decide +kernel)
theorem fm_356 : Cond.code yX5_init cX5_init 1 none ∈ fz_WA := fz_in (fz_tin 210 (by decide +kernel)) (by decide +kernel)
theorem fm_357 : Cond.methodLinkNest RX7 41 yX5_init RX9 ∈ lw_tbl := fz_tin 208 (by decide +kernel)
theorem fm_358 : Cond.instanceMethod yX5_init ∈ fz_WA := fz_in (fz_tin 209 (by decide +kernel)) (by decide +kernel)
theorem fm_359 : Cond.fieldLink RX7 46 "FindingAid$State" "seats" "I" ∈ fz_WA := fz_in (fz_tin 248 (by decide +kernel)) (by decide +kernel)
theorem fm_360 : Cond.methodLink RX4 3 objectInit ∈ fz_WA := fz_in (fz_tin 269 (by decide +kernel)) (by decide +kernel)
theorem fm_361 : Cond.fieldLink RX4 9 "FindingAid$Report" "levels" "I" ∈ fz_WA := fz_in (fz_tin 270 (by decide +kernel)) (by decide +kernel)
theorem fm_362 : Cond.fieldLink RX4 15 "FindingAid$Report" "code" "[I" ∈ fz_WA := fz_in (fz_tin 272 (by decide +kernel)) (by decide +kernel)
theorem fm_363 : Cond.fieldLink RX4 19 "FindingAid$Report" "detail" "[I" ∈ fz_WA := fz_in (fz_tin 274 (by decide +kernel)) (by decide +kernel)
theorem fm_364 : Cond.methodLink RX2 3 objectInit ∈ fz_WA := fz_in (fz_tin 288 (by decide +kernel)) (by decide +kernel)
theorem fm_365 : Cond.fieldLink RX2 18 "FindingAid$Input" "kind" "[I" ∈ fz_WA := fz_in (fz_tin 293 (by decide +kernel)) (by decide +kernel)
theorem fm_366 : Cond.fieldLink RX2 22 "FindingAid$Input" "parent" "[I" ∈ fz_WA := fz_in (fz_tin 295 (by decide +kernel)) (by decide +kernel)
theorem fm_367 : Cond.fieldLink RX2 25 "FindingAid$Input" "pages" "[I" ∈ fz_WA := fz_in (fz_tin 297 (by decide +kernel)) (by decide +kernel)
theorem fm_368 : Cond.fieldLink RX2 28 "FindingAid$Input" "from" "[I" ∈ fz_WA := fz_in (fz_tin 299 (by decide +kernel)) (by decide +kernel)
theorem fm_369 : Cond.fieldLink RX2 31 "FindingAid$Input" "to" "[I" ∈ fz_WA := fz_in (fz_tin 301 (by decide +kernel)) (by decide +kernel)
theorem fm_370 : Cond.arrayClass .char ∈ fz_WA := fz_in (fz_tin 324 (by decide +kernel)) (by decide +kernel)
theorem fm_371 : Cond.methodLink RJ5 3 objectInit ∈ fz_WA := fz_in (fz_tin 333 (by decide +kernel)) (by decide +kernel)
theorem fm_372 : Cond.arrayClass .byte ∈ fz_WA := fz_in (fz_tin 357 (by decide +kernel)) (by decide +kernel)
theorem fm_373 : Cond.code yJ5_init_d00df cJ5_init_d00df 2 none ∈ fz_WA := fz_in (fz_tin 332 (by decide +kernel)) (by decide +kernel)
theorem fm_374 : Cond.methodLink RJ4 1 yJ5_init_d00df ∈ fz_WA := fz_in (fz_tin 330 (by decide +kernel)) (by decide +kernel)
theorem fm_375 : Cond.instanceMethod yJ5_init_d00df ∈ fz_WA := fz_in (fz_tin 331 (by decide +kernel)) (by decide +kernel)
theorem fm_376 : Cond.methodLink RX9 1 objectInit ∈ fz_WA := fz_in (fz_tin 40 (by decide +kernel)) (by decide +kernel)
theorem fm_377 : Cond.classLink RX9 7 RX7 ∈ fz_WA := fz_in (fz_tin 43 (by decide +kernel)) (by decide +kernel)
theorem fm_378 : Cond.instantiable RX7 6 ∈ fz_WA := fz_in (fz_tin 44 (by decide +kernel)) (by decide +kernel)
theorem fm_379 : Cond.code yX7_init cX7_init 1 none ∈ fz_WA := fz_in (fz_tin 47 (by decide +kernel)) (by decide +kernel)
theorem fm_380 : Cond.methodLinkNest RX9 9 yX7_init RX9 ∈ lw_tbl := fz_tin 45 (by decide +kernel)
theorem fm_381 : Cond.instanceMethod yX7_init ∈ fz_WA := fz_in (fz_tin 46 (by decide +kernel)) (by decide +kernel)
theorem fm_382 : Cond.arrayOver (.object "FindingAid$State") ∈ lw_tbl := fz_tin 263 (by decide +kernel)
theorem fm_383 : Cond.classLink RX9 30 RX4 ∈ fz_WA := fz_in (fz_tin 264 (by decide +kernel)) (by decide +kernel)
theorem fm_384 : Cond.instantiable RX4 3 ∈ fz_WA := fz_in (fz_tin 265 (by decide +kernel)) (by decide +kernel)
theorem fm_385 : Cond.initialized RX4 ∈ fz_WA := fz_in (fz_tin 10 (by decide +kernel)) (by decide +kernel)
theorem fm_386 : Cond.code yX4_init cX4_init 1 none ∈ fz_WA := fz_in (fz_tin 268 (by decide +kernel)) (by decide +kernel)
theorem fm_387 : Cond.methodLinkNest RX9 32 yX4_init RX9 ∈ lw_tbl := fz_tin 266 (by decide +kernel)
theorem fm_388 : Cond.instanceMethod yX4_init ∈ fz_WA := fz_in (fz_tin 267 (by decide +kernel)) (by decide +kernel)
theorem fm_389 : Cond.fieldLink RX9 33 "FindingAid" "report" "LFindingAid$Report;" ∈ fz_WA := fz_in (fz_tin 363 (by decide +kernel)) (by decide +kernel)
theorem fm_390 : Cond.classLink RX9 37 RX2 ∈ fz_WA := fz_in (fz_tin 283 (by decide +kernel)) (by decide +kernel)
theorem fm_391 : Cond.instantiable RX2 9 ∈ fz_WA := fz_in (fz_tin 284 (by decide +kernel)) (by decide +kernel)
theorem fm_392 : Cond.code yX2_init cX2_init 1 none ∈ fz_WA := fz_in (fz_tin 287 (by decide +kernel)) (by decide +kernel)
theorem fm_393 : Cond.methodLinkNest RX9 39 yX2_init RX9 ∈ lw_tbl := fz_tin 285 (by decide +kernel)
theorem fm_394 : Cond.instanceMethod yX2_init ∈ fz_WA := fz_in (fz_tin 286 (by decide +kernel)) (by decide +kernel)
theorem fm_395 : Cond.classLink RX9 44 RJ4 ∈ fz_WA := fz_in (fz_tin 325 (by decide +kernel)) (by decide +kernel)
theorem fm_396 : Cond.instantiable RJ4 4 ∈ fz_WA := fz_in (fz_tin 326 (by decide +kernel)) (by decide +kernel)
theorem fm_397 : Cond.code yJ4_init_da8c8 cJ4_init_da8c8 1 none ∈ fz_WA := fz_in (fz_tin 329 (by decide +kernel)) (by decide +kernel)
theorem fm_398 : Cond.methodLink RX9 46 yJ4_init_da8c8 ∈ fz_WA := fz_in (fz_tin 327 (by decide +kernel)) (by decide +kernel)
theorem fm_399 : Cond.instanceMethod yJ4_init_da8c8 ∈ fz_WA := fz_in (fz_tin 328 (by decide +kernel)) (by decide +kernel)
theorem dJ7_fill_53178_0 : decode cJ7_fill_53178 0 = .ok (.iconst 0, 1) := by decide +kernel
theorem dJ7_fill_53178_1 : decode cJ7_fill_53178 1 = .ok (.istore_n 2, 1) := by decide +kernel
theorem dJ7_fill_53178_2 : decode cJ7_fill_53178 2 = .ok (.aload_n 0, 1) := by decide +kernel
theorem dJ7_fill_53178_3 : decode cJ7_fill_53178 3 = .ok (.arraylength, 1) := by decide +kernel
theorem dJ7_fill_53178_4 : decode cJ7_fill_53178 4 = .ok (.istore_n 3, 1) := by decide +kernel
theorem dJ7_fill_53178_5 : decode cJ7_fill_53178 5 = .ok (.iload_n 2, 1) := by decide +kernel
theorem dJ7_fill_53178_6 : decode cJ7_fill_53178 6 = .ok (.iload_n 3, 1) := by decide +kernel
theorem dJ7_fill_53178_7 : decode cJ7_fill_53178 7 = .ok (.if_icmp .ge 13, 3) := by decide +kernel
theorem dJ7_fill_53178_10 : decode cJ7_fill_53178 10 = .ok (.aload_n 0, 1) := by decide +kernel
theorem dJ7_fill_53178_11 : decode cJ7_fill_53178 11 = .ok (.iload_n 2, 1) := by decide +kernel
theorem dJ7_fill_53178_12 : decode cJ7_fill_53178 12 = .ok (.iload_n 1, 1) := by decide +kernel
theorem dJ7_fill_53178_13 : decode cJ7_fill_53178 13 = .ok (.iastore, 1) := by decide +kernel
theorem dJ7_fill_53178_14 : decode cJ7_fill_53178 14 = .ok (.iinc 2 1, 3) := by decide +kernel
theorem dJ7_fill_53178_17 : decode cJ7_fill_53178 17 = .ok (.goto (-12), 3) := by decide +kernel
theorem dJ7_fill_53178_20 : decode cJ7_fill_53178 20 = .ok (.return_, 1) := by decide +kernel
theorem dX8_init_0 : decode cX8_init 0 = .ok (.aload_n 0, 1) := by decide +kernel
theorem dX8_init_1 : decode cX8_init 1 = .ok (.invokespecial 3, 3) := by decide +kernel
theorem dX8_init_4 : decode cX8_init 4 = .ok (.aload_n 0, 1) := by decide +kernel
theorem dX8_init_5 : decode cX8_init 5 = .ok (.iconst 1, 1) := by decide +kernel
theorem dX8_init_6 : decode cX8_init 6 = .ok (.putfield 9, 3) := by decide +kernel
theorem dX8_init_9 : decode cX8_init 9 = .ok (.aload_n 0, 1) := by decide +kernel
theorem dX8_init_10 : decode cX8_init 10 = .ok (.iconst 1, 1) := by decide +kernel
theorem dX8_init_11 : decode cX8_init 11 = .ok (.putfield 15, 3) := by decide +kernel
theorem dX8_init_14 : decode cX8_init 14 = .ok (.aload_n 0, 1) := by decide +kernel
theorem dX8_init_15 : decode cX8_init 15 = .ok (.bipush 40, 2) := by decide +kernel
theorem dX8_init_17 : decode cX8_init 17 = .ok (.newarray .int, 2) := by decide +kernel
theorem dX8_init_19 : decode cX8_init 19 = .ok (.putfield 18, 3) := by decide +kernel
theorem dX8_init_22 : decode cX8_init 22 = .ok (.aload_n 0, 1) := by decide +kernel
theorem dX8_init_23 : decode cX8_init 23 = .ok (.bipush 40, 2) := by decide +kernel
theorem dX8_init_25 : decode cX8_init 25 = .ok (.newarray .int, 2) := by decide +kernel
theorem dX8_init_27 : decode cX8_init 27 = .ok (.putfield 22, 3) := by decide +kernel
theorem dX8_init_30 : decode cX8_init 30 = .ok (.aload_n 0, 1) := by decide +kernel
theorem dX8_init_31 : decode cX8_init 31 = .ok (.bipush 40, 2) := by decide +kernel
theorem dX8_init_33 : decode cX8_init 33 = .ok (.newarray .int, 2) := by decide +kernel
theorem dX8_init_35 : decode cX8_init 35 = .ok (.putfield 25, 3) := by decide +kernel
theorem dX8_init_38 : decode cX8_init 38 = .ok (.aload_n 0, 1) := by decide +kernel
theorem dX8_init_39 : decode cX8_init 39 = .ok (.bipush 40, 2) := by decide +kernel
theorem dX8_init_41 : decode cX8_init 41 = .ok (.newarray .int, 2) := by decide +kernel
theorem dX8_init_43 : decode cX8_init 43 = .ok (.putfield 28, 3) := by decide +kernel
theorem dX8_init_46 : decode cX8_init 46 = .ok (.aload_n 0, 1) := by decide +kernel
theorem dX8_init_47 : decode cX8_init 47 = .ok (.bipush 40, 2) := by decide +kernel
theorem dX8_init_49 : decode cX8_init 49 = .ok (.newarray .int, 2) := by decide +kernel
theorem dX8_init_51 : decode cX8_init 51 = .ok (.putfield 31, 3) := by decide +kernel
theorem dX8_init_54 : decode cX8_init 54 = .ok (.aload_n 0, 1) := by decide +kernel
theorem dX8_init_55 : decode cX8_init 55 = .ok (.bipush 40, 2) := by decide +kernel
theorem dX8_init_57 : decode cX8_init 57 = .ok (.newarray .int, 2) := by decide +kernel
theorem dX8_init_59 : decode cX8_init 59 = .ok (.putfield 34, 3) := by decide +kernel
theorem dX8_init_62 : decode cX8_init 62 = .ok (.aload_n 0, 1) := by decide +kernel
theorem dX8_init_63 : decode cX8_init 63 = .ok (.bipush 40, 2) := by decide +kernel
theorem dX8_init_65 : decode cX8_init 65 = .ok (.newarray .int, 2) := by decide +kernel
theorem dX8_init_67 : decode cX8_init 67 = .ok (.putfield 37, 3) := by decide +kernel
theorem dX8_init_70 : decode cX8_init 70 = .ok (.aload_n 0, 1) := by decide +kernel
theorem dX8_init_71 : decode cX8_init 71 = .ok (.bipush 40, 2) := by decide +kernel
theorem dX8_init_73 : decode cX8_init 73 = .ok (.newarray .int, 2) := by decide +kernel
theorem dX8_init_75 : decode cX8_init 75 = .ok (.putfield 40, 3) := by decide +kernel
theorem dX8_init_78 : decode cX8_init 78 = .ok (.aload_n 0, 1) := by decide +kernel
theorem dX8_init_79 : decode cX8_init 79 = .ok (.getfield 25, 3) := by decide +kernel
theorem dX8_init_82 : decode cX8_init 82 = .ok (.iconst (-1), 1) := by decide +kernel
theorem dX8_init_83 : decode cX8_init 83 = .ok (.invokestatic 43, 3) := by decide +kernel
theorem dX8_init_86 : decode cX8_init 86 = .ok (.aload_n 0, 1) := by decide +kernel
theorem dX8_init_87 : decode cX8_init 87 = .ok (.getfield 25, 3) := by decide +kernel
theorem dX8_init_90 : decode cX8_init 90 = .ok (.iconst 0, 1) := by decide +kernel
theorem dX8_init_91 : decode cX8_init 91 = .ok (.iconst 0, 1) := by decide +kernel
theorem dX8_init_92 : decode cX8_init 92 = .ok (.iastore, 1) := by decide +kernel
theorem dX8_init_93 : decode cX8_init 93 = .ok (.aload_n 0, 1) := by decide +kernel
theorem dX8_init_94 : decode cX8_init 94 = .ok (.getfield 28, 3) := by decide +kernel
theorem dX8_init_97 : decode cX8_init 97 = .ok (.iconst 0, 1) := by decide +kernel
theorem dX8_init_98 : decode cX8_init 98 = .ok (.iconst (-1), 1) := by decide +kernel
theorem dX8_init_99 : decode cX8_init 99 = .ok (.iastore, 1) := by decide +kernel
theorem dX8_init_100 : decode cX8_init 100 = .ok (.aload_n 0, 1) := by decide +kernel
theorem dX8_init_101 : decode cX8_init 101 = .ok (.getfield 37, 3) := by decide +kernel
theorem dX8_init_104 : decode cX8_init 104 = .ok (.iconst 0, 1) := by decide +kernel
theorem dX8_init_105 : decode cX8_init 105 = .ok (.iconst (-1), 1) := by decide +kernel
theorem dX8_init_106 : decode cX8_init 106 = .ok (.iastore, 1) := by decide +kernel
theorem dX8_init_107 : decode cX8_init 107 = .ok (.aload_n 0, 1) := by decide +kernel
theorem dX8_init_108 : decode cX8_init 108 = .ok (.getfield 40, 3) := by decide +kernel
theorem dX8_init_111 : decode cX8_init 111 = .ok (.iconst 0, 1) := by decide +kernel
theorem dX8_init_112 : decode cX8_init 112 = .ok (.iconst (-1), 1) := by decide +kernel
theorem dX8_init_113 : decode cX8_init 113 = .ok (.iastore, 1) := by decide +kernel
theorem dX8_init_114 : decode cX8_init 114 = .ok (.return_, 1) := by decide +kernel
theorem dX6_init_0 : decode cX6_init 0 = .ok (.aload_n 0, 1) := by decide +kernel
theorem dX6_init_1 : decode cX6_init 1 = .ok (.invokespecial 3, 3) := by decide +kernel
theorem dX6_init_4 : decode cX6_init 4 = .ok (.aload_n 0, 1) := by decide +kernel
theorem dX6_init_5 : decode cX6_init 5 = .ok (.bipush 40, 2) := by decide +kernel
theorem dX6_init_7 : decode cX6_init 7 = .ok (.newarray .int, 2) := by decide +kernel
theorem dX6_init_9 : decode cX6_init 9 = .ok (.putfield 9, 3) := by decide +kernel
theorem dX6_init_12 : decode cX6_init 12 = .ok (.aload_n 0, 1) := by decide +kernel
theorem dX6_init_13 : decode cX6_init 13 = .ok (.bipush 40, 2) := by decide +kernel
theorem dX6_init_15 : decode cX6_init 15 = .ok (.newarray .int, 2) := by decide +kernel
theorem dX6_init_17 : decode cX6_init 17 = .ok (.putfield 15, 3) := by decide +kernel
theorem dX6_init_20 : decode cX6_init 20 = .ok (.aload_n 0, 1) := by decide +kernel
theorem dX6_init_21 : decode cX6_init 21 = .ok (.sipush 800, 3) := by decide +kernel
theorem dX6_init_24 : decode cX6_init 24 = .ok (.newarray .int, 2) := by decide +kernel
theorem dX6_init_26 : decode cX6_init 26 = .ok (.putfield 18, 3) := by decide +kernel
theorem dX6_init_29 : decode cX6_init 29 = .ok (.aload_n 0, 1) := by decide +kernel
theorem dX6_init_30 : decode cX6_init 30 = .ok (.getfield 9, 3) := by decide +kernel
theorem dX6_init_33 : decode cX6_init 33 = .ok (.iconst (-1), 1) := by decide +kernel
theorem dX6_init_34 : decode cX6_init 34 = .ok (.invokestatic 21, 3) := by decide +kernel
theorem dX6_init_37 : decode cX6_init 37 = .ok (.return_, 1) := by decide +kernel
theorem dX3_init_0 : decode cX3_init 0 = .ok (.aload_n 0, 1) := by decide +kernel
theorem dX3_init_1 : decode cX3_init 1 = .ok (.invokespecial 3, 3) := by decide +kernel
theorem dX3_init_4 : decode cX3_init 4 = .ok (.aload_n 0, 1) := by decide +kernel
theorem dX3_init_5 : decode cX3_init 5 = .ok (.iconst 0, 1) := by decide +kernel
theorem dX3_init_6 : decode cX3_init 6 = .ok (.putfield 9, 3) := by decide +kernel
theorem dX3_init_9 : decode cX3_init 9 = .ok (.aload_n 0, 1) := by decide +kernel
theorem dX3_init_10 : decode cX3_init 10 = .ok (.bipush 64, 2) := by decide +kernel
theorem dX3_init_12 : decode cX3_init 12 = .ok (.newarray .int, 2) := by decide +kernel
theorem dX3_init_14 : decode cX3_init 14 = .ok (.putfield 15, 3) := by decide +kernel
theorem dX3_init_17 : decode cX3_init 17 = .ok (.aload_n 0, 1) := by decide +kernel
theorem dX3_init_18 : decode cX3_init 18 = .ok (.bipush 64, 2) := by decide +kernel
theorem dX3_init_20 : decode cX3_init 20 = .ok (.newarray .int, 2) := by decide +kernel
theorem dX3_init_22 : decode cX3_init 22 = .ok (.putfield 19, 3) := by decide +kernel
theorem dX3_init_25 : decode cX3_init 25 = .ok (.return_, 1) := by decide +kernel
theorem dX0_init_0 : decode cX0_init 0 = .ok (.aload_n 0, 1) := by decide +kernel
theorem dX0_init_1 : decode cX0_init 1 = .ok (.invokespecial 3, 3) := by decide +kernel
theorem dX0_init_4 : decode cX0_init 4 = .ok (.aload_n 0, 1) := by decide +kernel
theorem dX0_init_5 : decode cX0_init 5 = .ok (.iconst 0, 1) := by decide +kernel
theorem dX0_init_6 : decode cX0_init 6 = .ok (.putfield 9, 3) := by decide +kernel
theorem dX0_init_9 : decode cX0_init 9 = .ok (.aload_n 0, 1) := by decide +kernel
theorem dX0_init_10 : decode cX0_init 10 = .ok (.iconst 0, 1) := by decide +kernel
theorem dX0_init_11 : decode cX0_init 11 = .ok (.putfield 15, 3) := by decide +kernel
theorem dX0_init_14 : decode cX0_init 14 = .ok (.aload_n 0, 1) := by decide +kernel
theorem dX0_init_15 : decode cX0_init 15 = .ok (.iconst 0, 1) := by decide +kernel
theorem dX0_init_16 : decode cX0_init 16 = .ok (.putfield 18, 3) := by decide +kernel
theorem dX0_init_19 : decode cX0_init 19 = .ok (.aload_n 0, 1) := by decide +kernel
theorem dX0_init_20 : decode cX0_init 20 = .ok (.bipush 30, 2) := by decide +kernel
theorem dX0_init_22 : decode cX0_init 22 = .ok (.newarray .int, 2) := by decide +kernel
theorem dX0_init_24 : decode cX0_init 24 = .ok (.putfield 21, 3) := by decide +kernel
theorem dX0_init_27 : decode cX0_init 27 = .ok (.aload_n 0, 1) := by decide +kernel
theorem dX0_init_28 : decode cX0_init 28 = .ok (.bipush 30, 2) := by decide +kernel
theorem dX0_init_30 : decode cX0_init 30 = .ok (.newarray .int, 2) := by decide +kernel
theorem dX0_init_32 : decode cX0_init 32 = .ok (.putfield 25, 3) := by decide +kernel
theorem dX0_init_35 : decode cX0_init 35 = .ok (.aload_n 0, 1) := by decide +kernel
theorem dX0_init_36 : decode cX0_init 36 = .ok (.bipush 40, 2) := by decide +kernel
theorem dX0_init_38 : decode cX0_init 38 = .ok (.newarray .int, 2) := by decide +kernel
theorem dX0_init_40 : decode cX0_init 40 = .ok (.putfield 28, 3) := by decide +kernel
theorem dX0_init_43 : decode cX0_init 43 = .ok (.aload_n 0, 1) := by decide +kernel
theorem dX0_init_44 : decode cX0_init 44 = .ok (.bipush 40, 2) := by decide +kernel
theorem dX0_init_46 : decode cX0_init 46 = .ok (.newarray .int, 2) := by decide +kernel
theorem dX0_init_48 : decode cX0_init 48 = .ok (.putfield 31, 3) := by decide +kernel
theorem dX0_init_51 : decode cX0_init 51 = .ok (.aload_n 0, 1) := by decide +kernel
theorem dX0_init_52 : decode cX0_init 52 = .ok (.bipush 40, 2) := by decide +kernel
theorem dX0_init_54 : decode cX0_init 54 = .ok (.newarray .int, 2) := by decide +kernel
theorem dX0_init_56 : decode cX0_init 56 = .ok (.putfield 34, 3) := by decide +kernel
theorem dX0_init_59 : decode cX0_init 59 = .ok (.aload_n 0, 1) := by decide +kernel
theorem dX0_init_60 : decode cX0_init 60 = .ok (.new 37, 3) := by decide +kernel
theorem dX0_init_63 : decode cX0_init 63 = .ok (.dup, 1) := by decide +kernel
theorem dX0_init_64 : decode cX0_init 64 = .ok (.invokespecial 39, 3) := by decide +kernel
theorem dX0_init_67 : decode cX0_init 67 = .ok (.putfield 40, 3) := by decide +kernel
theorem dX0_init_70 : decode cX0_init 70 = .ok (.aload_n 0, 1) := by decide +kernel
theorem dX0_init_71 : decode cX0_init 71 = .ok (.getfield 31, 3) := by decide +kernel
theorem dX0_init_74 : decode cX0_init 74 = .ok (.iconst (-1), 1) := by decide +kernel
theorem dX0_init_75 : decode cX0_init 75 = .ok (.invokestatic 44, 3) := by decide +kernel
theorem dX0_init_78 : decode cX0_init 78 = .ok (.aload_n 0, 1) := by decide +kernel
theorem dX0_init_79 : decode cX0_init 79 = .ok (.getfield 34, 3) := by decide +kernel
theorem dX0_init_82 : decode cX0_init 82 = .ok (.iconst (-1), 1) := by decide +kernel
theorem dX0_init_83 : decode cX0_init 83 = .ok (.invokestatic 44, 3) := by decide +kernel
theorem dX0_init_86 : decode cX0_init 86 = .ok (.return_, 1) := by decide +kernel
theorem dX1_init_0 : decode cX1_init 0 = .ok (.aload_n 0, 1) := by decide +kernel
theorem dX1_init_1 : decode cX1_init 1 = .ok (.invokespecial 3, 3) := by decide +kernel
theorem dX1_init_4 : decode cX1_init 4 = .ok (.aload_n 0, 1) := by decide +kernel
theorem dX1_init_5 : decode cX1_init 5 = .ok (.iconst 0, 1) := by decide +kernel
theorem dX1_init_6 : decode cX1_init 6 = .ok (.putfield 9, 3) := by decide +kernel
theorem dX1_init_9 : decode cX1_init 9 = .ok (.aload_n 0, 1) := by decide +kernel
theorem dX1_init_10 : decode cX1_init 10 = .ok (.bipush 16, 2) := by decide +kernel
theorem dX1_init_12 : decode cX1_init 12 = .ok (.newarray .int, 2) := by decide +kernel
theorem dX1_init_14 : decode cX1_init 14 = .ok (.putfield 15, 3) := by decide +kernel
theorem dX1_init_17 : decode cX1_init 17 = .ok (.aload_n 0, 1) := by decide +kernel
theorem dX1_init_18 : decode cX1_init 18 = .ok (.bipush 16, 2) := by decide +kernel
theorem dX1_init_20 : decode cX1_init 20 = .ok (.newarray .int, 2) := by decide +kernel
theorem dX1_init_22 : decode cX1_init 22 = .ok (.putfield 19, 3) := by decide +kernel
theorem dX1_init_25 : decode cX1_init 25 = .ok (.return_, 1) := by decide +kernel
theorem dX5_init_0 : decode cX5_init 0 = .ok (.aload_n 0, 1) := by decide +kernel
theorem dX5_init_1 : decode cX5_init 1 = .ok (.invokespecial 3, 3) := by decide +kernel
theorem dX5_init_4 : decode cX5_init 4 = .ok (.aload_n 0, 1) := by decide +kernel
theorem dX5_init_5 : decode cX5_init 5 = .ok (.iconst 0, 1) := by decide +kernel
theorem dX5_init_6 : decode cX5_init 6 = .ok (.putfield 9, 3) := by decide +kernel
theorem dX5_init_9 : decode cX5_init 9 = .ok (.aload_n 0, 1) := by decide +kernel
theorem dX5_init_10 : decode cX5_init 10 = .ok (.bipush 30, 2) := by decide +kernel
theorem dX5_init_12 : decode cX5_init 12 = .ok (.newarray .int, 2) := by decide +kernel
theorem dX5_init_14 : decode cX5_init 14 = .ok (.putfield 15, 3) := by decide +kernel
theorem dX5_init_17 : decode cX5_init 17 = .ok (.aload_n 0, 1) := by decide +kernel
theorem dX5_init_18 : decode cX5_init 18 = .ok (.bipush 30, 2) := by decide +kernel
theorem dX5_init_20 : decode cX5_init 20 = .ok (.newarray .int, 2) := by decide +kernel
theorem dX5_init_22 : decode cX5_init 22 = .ok (.putfield 19, 3) := by decide +kernel
theorem dX5_init_25 : decode cX5_init 25 = .ok (.aload_n 0, 1) := by decide +kernel
theorem dX5_init_26 : decode cX5_init 26 = .ok (.bipush 30, 2) := by decide +kernel
theorem dX5_init_28 : decode cX5_init 28 = .ok (.newarray .int, 2) := by decide +kernel
theorem dX5_init_30 : decode cX5_init 30 = .ok (.putfield 22, 3) := by decide +kernel
theorem dX5_init_33 : decode cX5_init 33 = .ok (.aload_n 0, 1) := by decide +kernel
theorem dX5_init_34 : decode cX5_init 34 = .ok (.bipush 30, 2) := by decide +kernel
theorem dX5_init_36 : decode cX5_init 36 = .ok (.newarray .int, 2) := by decide +kernel
theorem dX5_init_38 : decode cX5_init 38 = .ok (.putfield 25, 3) := by decide +kernel
theorem dX5_init_41 : decode cX5_init 41 = .ok (.return_, 1) := by decide +kernel
theorem dX7_init_0 : decode cX7_init 0 = .ok (.aload_n 0, 1) := by decide +kernel
theorem dX7_init_1 : decode cX7_init 1 = .ok (.invokespecial 3, 3) := by decide +kernel
theorem dX7_init_4 : decode cX7_init 4 = .ok (.aload_n 0, 1) := by decide +kernel
theorem dX7_init_5 : decode cX7_init 5 = .ok (.new 9, 3) := by decide +kernel
theorem dX7_init_8 : decode cX7_init 8 = .ok (.dup, 1) := by decide +kernel
theorem dX7_init_9 : decode cX7_init 9 = .ok (.invokespecial 11, 3) := by decide +kernel
theorem dX7_init_12 : decode cX7_init 12 = .ok (.putfield 12, 3) := by decide +kernel
theorem dX7_init_15 : decode cX7_init 15 = .ok (.aload_n 0, 1) := by decide +kernel
theorem dX7_init_16 : decode cX7_init 16 = .ok (.new 18, 3) := by decide +kernel
theorem dX7_init_19 : decode cX7_init 19 = .ok (.dup, 1) := by decide +kernel
theorem dX7_init_20 : decode cX7_init 20 = .ok (.invokespecial 20, 3) := by decide +kernel
theorem dX7_init_23 : decode cX7_init 23 = .ok (.putfield 21, 3) := by decide +kernel
theorem dX7_init_26 : decode cX7_init 26 = .ok (.aload_n 0, 1) := by decide +kernel
theorem dX7_init_27 : decode cX7_init 27 = .ok (.new 25, 3) := by decide +kernel
theorem dX7_init_30 : decode cX7_init 30 = .ok (.dup, 1) := by decide +kernel
theorem dX7_init_31 : decode cX7_init 31 = .ok (.invokespecial 27, 3) := by decide +kernel
theorem dX7_init_34 : decode cX7_init 34 = .ok (.putfield 28, 3) := by decide +kernel
theorem dX7_init_37 : decode cX7_init 37 = .ok (.aload_n 0, 1) := by decide +kernel
theorem dX7_init_38 : decode cX7_init 38 = .ok (.new 32, 3) := by decide +kernel
theorem dX7_init_41 : decode cX7_init 41 = .ok (.dup, 1) := by decide +kernel
theorem dX7_init_42 : decode cX7_init 42 = .ok (.invokespecial 34, 3) := by decide +kernel
theorem dX7_init_45 : decode cX7_init 45 = .ok (.putfield 35, 3) := by decide +kernel
theorem dX7_init_48 : decode cX7_init 48 = .ok (.aload_n 0, 1) := by decide +kernel
theorem dX7_init_49 : decode cX7_init 49 = .ok (.new 39, 3) := by decide +kernel
theorem dX7_init_52 : decode cX7_init 52 = .ok (.dup, 1) := by decide +kernel
theorem dX7_init_53 : decode cX7_init 53 = .ok (.invokespecial 41, 3) := by decide +kernel
theorem dX7_init_56 : decode cX7_init 56 = .ok (.putfield 42, 3) := by decide +kernel
theorem dX7_init_59 : decode cX7_init 59 = .ok (.aload_n 0, 1) := by decide +kernel
theorem dX7_init_60 : decode cX7_init 60 = .ok (.iconst 3, 1) := by decide +kernel
theorem dX7_init_61 : decode cX7_init 61 = .ok (.putfield 46, 3) := by decide +kernel
theorem dX7_init_64 : decode cX7_init 64 = .ok (.return_, 1) := by decide +kernel
theorem dX4_init_0 : decode cX4_init 0 = .ok (.aload_n 0, 1) := by decide +kernel
theorem dX4_init_1 : decode cX4_init 1 = .ok (.invokespecial 3, 3) := by decide +kernel
theorem dX4_init_4 : decode cX4_init 4 = .ok (.aload_n 0, 1) := by decide +kernel
theorem dX4_init_5 : decode cX4_init 5 = .ok (.iconst 0, 1) := by decide +kernel
theorem dX4_init_6 : decode cX4_init 6 = .ok (.putfield 9, 3) := by decide +kernel
theorem dX4_init_9 : decode cX4_init 9 = .ok (.aload_n 0, 1) := by decide +kernel
theorem dX4_init_10 : decode cX4_init 10 = .ok (.iconst 3, 1) := by decide +kernel
theorem dX4_init_11 : decode cX4_init 11 = .ok (.newarray .int, 2) := by decide +kernel
theorem dX4_init_13 : decode cX4_init 13 = .ok (.putfield 15, 3) := by decide +kernel
theorem dX4_init_16 : decode cX4_init 16 = .ok (.aload_n 0, 1) := by decide +kernel
theorem dX4_init_17 : decode cX4_init 17 = .ok (.iconst 3, 1) := by decide +kernel
theorem dX4_init_18 : decode cX4_init 18 = .ok (.newarray .int, 2) := by decide +kernel
theorem dX4_init_20 : decode cX4_init 20 = .ok (.putfield 19, 3) := by decide +kernel
theorem dX4_init_23 : decode cX4_init 23 = .ok (.return_, 1) := by decide +kernel
theorem dX2_init_0 : decode cX2_init 0 = .ok (.aload_n 0, 1) := by decide +kernel
theorem dX2_init_1 : decode cX2_init 1 = .ok (.invokespecial 3, 3) := by decide +kernel
theorem dX2_init_4 : decode cX2_init 4 = .ok (.aload_n 0, 1) := by decide +kernel
theorem dX2_init_5 : decode cX2_init 5 = .ok (.iconst 0, 1) := by decide +kernel
theorem dX2_init_6 : decode cX2_init 6 = .ok (.putfield 9, 3) := by decide +kernel
theorem dX2_init_9 : decode cX2_init 9 = .ok (.aload_n 0, 1) := by decide +kernel
theorem dX2_init_10 : decode cX2_init 10 = .ok (.iconst 0, 1) := by decide +kernel
theorem dX2_init_11 : decode cX2_init 11 = .ok (.putfield 15, 3) := by decide +kernel
theorem dX2_init_14 : decode cX2_init 14 = .ok (.aload_n 0, 1) := by decide +kernel
theorem dX2_init_15 : decode cX2_init 15 = .ok (.bipush 100, 2) := by decide +kernel
theorem dX2_init_17 : decode cX2_init 17 = .ok (.newarray .int, 2) := by decide +kernel
theorem dX2_init_19 : decode cX2_init 19 = .ok (.putfield 18, 3) := by decide +kernel
theorem dX2_init_22 : decode cX2_init 22 = .ok (.aload_n 0, 1) := by decide +kernel
theorem dX2_init_23 : decode cX2_init 23 = .ok (.bipush 100, 2) := by decide +kernel
theorem dX2_init_25 : decode cX2_init 25 = .ok (.newarray .int, 2) := by decide +kernel
theorem dX2_init_27 : decode cX2_init 27 = .ok (.putfield 22, 3) := by decide +kernel
theorem dX2_init_30 : decode cX2_init 30 = .ok (.aload_n 0, 1) := by decide +kernel
theorem dX2_init_31 : decode cX2_init 31 = .ok (.bipush 100, 2) := by decide +kernel
theorem dX2_init_33 : decode cX2_init 33 = .ok (.newarray .int, 2) := by decide +kernel
theorem dX2_init_35 : decode cX2_init 35 = .ok (.putfield 25, 3) := by decide +kernel
theorem dX2_init_38 : decode cX2_init 38 = .ok (.aload_n 0, 1) := by decide +kernel
theorem dX2_init_39 : decode cX2_init 39 = .ok (.bipush 100, 2) := by decide +kernel
theorem dX2_init_41 : decode cX2_init 41 = .ok (.newarray .int, 2) := by decide +kernel
theorem dX2_init_43 : decode cX2_init 43 = .ok (.putfield 28, 3) := by decide +kernel
theorem dX2_init_46 : decode cX2_init 46 = .ok (.aload_n 0, 1) := by decide +kernel
theorem dX2_init_47 : decode cX2_init 47 = .ok (.bipush 100, 2) := by decide +kernel
theorem dX2_init_49 : decode cX2_init 49 = .ok (.newarray .int, 2) := by decide +kernel
theorem dX2_init_51 : decode cX2_init 51 = .ok (.putfield 31, 3) := by decide +kernel
theorem dX2_init_54 : decode cX2_init 54 = .ok (.aload_n 0, 1) := by decide +kernel
theorem dX2_init_55 : decode cX2_init 55 = .ok (.bipush 100, 2) := by decide +kernel
theorem dX2_init_57 : decode cX2_init 57 = .ok (.newarray .char, 2) := by decide +kernel
theorem dX2_init_59 : decode cX2_init 59 = .ok (.putfield 34, 3) := by decide +kernel
theorem dX2_init_62 : decode cX2_init 62 = .ok (.aload_n 0, 1) := by decide +kernel
theorem dX2_init_63 : decode cX2_init 63 = .ok (.iconst 0, 1) := by decide +kernel
theorem dX2_init_64 : decode cX2_init 64 = .ok (.putfield 38, 3) := by decide +kernel
theorem dX2_init_67 : decode cX2_init 67 = .ok (.return_, 1) := by decide +kernel
theorem dJ5_init_d00df_0 : decode cJ5_init_d00df 0 = .ok (.aload_n 0, 1) := by decide +kernel
theorem dJ5_init_d00df_1 : decode cJ5_init_d00df 1 = .ok (.invokespecial 3, 3) := by decide +kernel
theorem dJ5_init_d00df_4 : decode cJ5_init_d00df 4 = .ok (.getstatic 18, 3) := by decide +kernel
theorem dJ5_init_d00df_7 : decode cJ5_init_d00df 7 = .ok (.ifCond .eq 18, 3) := by decide +kernel
theorem dJ5_init_d00df_10 : decode cJ5_init_d00df 10 = .ok (.aload_n 0, 1) := by decide +kernel
theorem dJ5_init_d00df_11 : decode cJ5_init_d00df 11 = .ok (.iload_n 1, 1) := by decide +kernel
theorem dJ5_init_d00df_12 : decode cJ5_init_d00df 12 = .ok (.newarray .byte, 2) := by decide +kernel
theorem dJ5_init_d00df_14 : decode cJ5_init_d00df 14 = .ok (.putfield 15, 3) := by decide +kernel
theorem dJ5_init_d00df_17 : decode cJ5_init_d00df 17 = .ok (.aload_n 0, 1) := by decide +kernel
theorem dJ5_init_d00df_18 : decode cJ5_init_d00df 18 = .ok (.iconst 0, 1) := by decide +kernel
theorem dJ5_init_d00df_19 : decode cJ5_init_d00df 19 = .ok (.putfield 22, 3) := by decide +kernel
theorem dJ5_init_d00df_22 : decode cJ5_init_d00df 22 = .ok (.goto 16, 3) := by decide +kernel
theorem dJ5_init_d00df_38 : decode cJ5_init_d00df 38 = .ok (.return_, 1) := by decide +kernel
theorem dJ4_init_da8c8_0 : decode cJ4_init_da8c8 0 = .ok (.aload_n 0, 1) := by decide +kernel
theorem dJ4_init_da8c8_1 : decode cJ4_init_da8c8 1 = .ok (.bipush 16, 2) := by decide +kernel
theorem dJ4_init_da8c8_3 : decode cJ4_init_da8c8 3 = .ok (.invokespecial 1, 3) := by decide +kernel
theorem dJ4_init_da8c8_6 : decode cJ4_init_da8c8 6 = .ok (.return_, 1) := by decide +kernel
theorem dX9_init_0 : decode cX9_init 0 = .ok (.aload_n 0, 1) := by decide +kernel
theorem dX9_init_1 : decode cX9_init 1 = .ok (.invokespecial 1, 3) := by decide +kernel
theorem dX9_init_4 : decode cX9_init 4 = .ok (.aload_n 0, 1) := by decide +kernel
theorem dX9_init_5 : decode cX9_init 5 = .ok (.new 7, 3) := by decide +kernel
theorem dX9_init_8 : decode cX9_init 8 = .ok (.dup, 1) := by decide +kernel
theorem dX9_init_9 : decode cX9_init 9 = .ok (.invokespecial 9, 3) := by decide +kernel
theorem dX9_init_12 : decode cX9_init 12 = .ok (.putfield 10, 3) := by decide +kernel
theorem dX9_init_15 : decode cX9_init 15 = .ok (.aload_n 0, 1) := by decide +kernel
theorem dX9_init_16 : decode cX9_init 16 = .ok (.bipush 8, 2) := by decide +kernel
theorem dX9_init_18 : decode cX9_init 18 = .ok (.anewarray 7, 3) := by decide +kernel
theorem dX9_init_21 : decode cX9_init 21 = .ok (.putfield 16, 3) := by decide +kernel
theorem dX9_init_24 : decode cX9_init 24 = .ok (.aload_n 0, 1) := by decide +kernel
theorem dX9_init_25 : decode cX9_init 25 = .ok (.iconst 0, 1) := by decide +kernel
theorem dX9_init_26 : decode cX9_init 26 = .ok (.putfield 20, 3) := by decide +kernel
theorem dX9_init_29 : decode cX9_init 29 = .ok (.aload_n 0, 1) := by decide +kernel
theorem dX9_init_30 : decode cX9_init 30 = .ok (.iconst 0, 1) := by decide +kernel
theorem dX9_init_31 : decode cX9_init 31 = .ok (.putfield 24, 3) := by decide +kernel
theorem dX9_init_34 : decode cX9_init 34 = .ok (.aload_n 0, 1) := by decide +kernel
theorem dX9_init_35 : decode cX9_init 35 = .ok (.aconst_null, 1) := by decide +kernel
theorem dX9_init_36 : decode cX9_init 36 = .ok (.putfield 27, 3) := by decide +kernel
theorem dX9_init_39 : decode cX9_init 39 = .ok (.aload_n 0, 1) := by decide +kernel
theorem dX9_init_40 : decode cX9_init 40 = .ok (.new 30, 3) := by decide +kernel
theorem dX9_init_43 : decode cX9_init 43 = .ok (.dup, 1) := by decide +kernel
theorem dX9_init_44 : decode cX9_init 44 = .ok (.invokespecial 32, 3) := by decide +kernel
theorem dX9_init_47 : decode cX9_init 47 = .ok (.putfield 33, 3) := by decide +kernel
theorem dX9_init_50 : decode cX9_init 50 = .ok (.aload_n 0, 1) := by decide +kernel
theorem dX9_init_51 : decode cX9_init 51 = .ok (.new 37, 3) := by decide +kernel
theorem dX9_init_54 : decode cX9_init 54 = .ok (.dup, 1) := by decide +kernel
theorem dX9_init_55 : decode cX9_init 55 = .ok (.invokespecial 39, 3) := by decide +kernel
theorem dX9_init_58 : decode cX9_init 58 = .ok (.putfield 40, 3) := by decide +kernel
theorem dX9_init_61 : decode cX9_init 61 = .ok (.aload_n 0, 1) := by decide +kernel
theorem dX9_init_62 : decode cX9_init 62 = .ok (.new 44, 3) := by decide +kernel
theorem dX9_init_65 : decode cX9_init 65 = .ok (.dup, 1) := by decide +kernel
theorem dX9_init_66 : decode cX9_init 66 = .ok (.invokespecial 46, 3) := by decide +kernel
theorem dX9_init_69 : decode cX9_init 69 = .ok (.putfield 47, 3) := by decide +kernel
theorem dX9_init_72 : decode cX9_init 72 = .ok (.return_, 1) := by decide +kernel


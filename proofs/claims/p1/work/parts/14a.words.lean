theorem fm_400 : Cond.methodLink RX6 27 arraycopyName ∈ fz_WA := fz_in (fz_tin 406 (by decide +kernel)) (by decide +kernel)
theorem fm_401 : Cond.methodLink RX3 22 arraycopyName ∈ fz_WA := fz_in (fz_tin 416 (by decide +kernel)) (by decide +kernel)
theorem fm_402 : Cond.methodLink RX0 50 arraycopyName ∈ fz_WA := fz_in (fz_tin 411 (by decide +kernel)) (by decide +kernel)
theorem fm_403 : Cond.code yX3_takeOver cX3_takeOver 2 none ∈ fz_WA := fz_in (fz_tin 415 (by decide +kernel)) (by decide +kernel)
theorem fm_404 : Cond.methodLink RX0 56 yX3_takeOver ∈ fz_WA := fz_in (fz_tin 412 (by decide +kernel)) (by decide +kernel)
theorem fm_405 : Cond.instanceMethod yX3_takeOver ∈ fz_WA := fz_in (fz_tin 413 (by decide +kernel)) (by decide +kernel)
theorem fm_406 : Cond.selects RX3 yX3_takeOver yX3_takeOver ∈ fz_WA := fz_in (fz_tin 414 (by decide +kernel)) (by decide +kernel)
theorem fm_407 : Cond.methodLink RX1 22 arraycopyName ∈ fz_WA := fz_in (fz_tin 421 (by decide +kernel)) (by decide +kernel)
theorem fm_408 : Cond.methodLink RX5 28 arraycopyName ∈ fz_WA := fz_in (fz_tin 426 (by decide +kernel)) (by decide +kernel)
theorem fm_409 : Cond.code yX8_takeOver cX8_takeOver 2 none ∈ fz_WA := fz_in (fz_tin 398 (by decide +kernel)) (by decide +kernel)
theorem fm_410 : Cond.methodLink RX7 50 yX8_takeOver ∈ fz_WA := fz_in (fz_tin 395 (by decide +kernel)) (by decide +kernel)
theorem fm_411 : Cond.instanceMethod yX8_takeOver ∈ fz_WA := fz_in (fz_tin 396 (by decide +kernel)) (by decide +kernel)
theorem fm_412 : Cond.selects RX8 yX8_takeOver yX8_takeOver ∈ fz_WA := fz_in (fz_tin 397 (by decide +kernel)) (by decide +kernel)
theorem fm_413 : Cond.code yX6_takeOver cX6_takeOver 2 none ∈ fz_WA := fz_in (fz_tin 405 (by decide +kernel)) (by decide +kernel)
theorem fm_414 : Cond.methodLink RX7 54 yX6_takeOver ∈ fz_WA := fz_in (fz_tin 402 (by decide +kernel)) (by decide +kernel)
theorem fm_415 : Cond.instanceMethod yX6_takeOver ∈ fz_WA := fz_in (fz_tin 403 (by decide +kernel)) (by decide +kernel)
theorem fm_416 : Cond.selects RX6 yX6_takeOver yX6_takeOver ∈ fz_WA := fz_in (fz_tin 404 (by decide +kernel)) (by decide +kernel)
theorem fm_417 : Cond.code yX0_takeOver cX0_takeOver 2 none ∈ fz_WA := fz_in (fz_tin 410 (by decide +kernel)) (by decide +kernel)
theorem fm_418 : Cond.methodLink RX7 57 yX0_takeOver ∈ fz_WA := fz_in (fz_tin 407 (by decide +kernel)) (by decide +kernel)
theorem fm_419 : Cond.instanceMethod yX0_takeOver ∈ fz_WA := fz_in (fz_tin 408 (by decide +kernel)) (by decide +kernel)
theorem fm_420 : Cond.selects RX0 yX0_takeOver yX0_takeOver ∈ fz_WA := fz_in (fz_tin 409 (by decide +kernel)) (by decide +kernel)
theorem fm_421 : Cond.code yX1_takeOver cX1_takeOver 2 none ∈ fz_WA := fz_in (fz_tin 420 (by decide +kernel)) (by decide +kernel)
theorem fm_422 : Cond.methodLink RX7 60 yX1_takeOver ∈ fz_WA := fz_in (fz_tin 417 (by decide +kernel)) (by decide +kernel)
theorem fm_423 : Cond.instanceMethod yX1_takeOver ∈ fz_WA := fz_in (fz_tin 418 (by decide +kernel)) (by decide +kernel)
theorem fm_424 : Cond.selects RX1 yX1_takeOver yX1_takeOver ∈ fz_WA := fz_in (fz_tin 419 (by decide +kernel)) (by decide +kernel)
theorem fm_425 : Cond.code yX5_takeOver cX5_takeOver 2 none ∈ fz_WA := fz_in (fz_tin 425 (by decide +kernel)) (by decide +kernel)
theorem fm_426 : Cond.methodLink RX7 63 yX5_takeOver ∈ fz_WA := fz_in (fz_tin 422 (by decide +kernel)) (by decide +kernel)
theorem fm_427 : Cond.instanceMethod yX5_takeOver ∈ fz_WA := fz_in (fz_tin 423 (by decide +kernel)) (by decide +kernel)
theorem fm_428 : Cond.selects RX5 yX5_takeOver yX5_takeOver ∈ fz_WA := fz_in (fz_tin 424 (by decide +kernel)) (by decide +kernel)
theorem fm_429 : Cond.code yX7_takeOver cX7_takeOver 2 none ∈ fz_WA := fz_in (fz_tin 394 (by decide +kernel)) (by decide +kernel)
theorem fm_430 : Cond.methodLink RX9 482 yX7_takeOver ∈ fz_WA := fz_in (fz_tin 391 (by decide +kernel)) (by decide +kernel)
theorem fm_431 : Cond.instanceMethod yX7_takeOver ∈ fz_WA := fz_in (fz_tin 392 (by decide +kernel)) (by decide +kernel)
theorem fm_432 : Cond.selects RX7 yX7_takeOver yX7_takeOver ∈ fz_WA := fz_in (fz_tin 393 (by decide +kernel)) (by decide +kernel)
theorem fm_433 : Cond.methodLink RX9 509 Lib.Math.min.name ∈ fz_WA := fz_in (fz_tin 427 (by decide +kernel)) (by decide +kernel)
theorem fm_434 : Cond.static Lib.Math.min.name ∈ fz_WA := fz_in (fz_tin 428 (by decide +kernel)) (by decide +kernel)
theorem fm_435 : Cond.code Lib.Math.min.name Lib.Math.min.code 2 (some .int) ∈ fz_WA := fz_in (fz_tin 429 (by decide +kernel)) (by decide +kernel)
theorem fm_436 : Cond.code yX9_fitsBelow cX9_fitsBelow 5 (some .boolean) ∈ fz_WA := fz_in (fz_tin 601 (by decide +kernel)) (by decide +kernel)
theorem fm_437 : Cond.methodLink RX9 65 yX9_fitsBelow ∈ fz_WA := fz_in (fz_tin 599 (by decide +kernel)) (by decide +kernel)
theorem fm_438 : Cond.static yX9_fitsBelow ∈ fz_WA := fz_in (fz_tin 600 (by decide +kernel)) (by decide +kernel)
theorem fm_439 : Cond.fieldLink RX9 76 "FindingAid$Tree" "made" "I" ∈ fz_WA := fz_in (fz_tin 59 (by decide +kernel)) (by decide +kernel)
theorem fm_440 : Cond.code yX9_remember cX9_remember 1 none ∈ fz_WA := fz_in (fz_tin 390 (by decide +kernel)) (by decide +kernel)
theorem fm_441 : Cond.methodLink RX9 84 yX9_remember ∈ fz_WA := fz_in (fz_tin 387 (by decide +kernel)) (by decide +kernel)
theorem fm_442 : Cond.instanceMethod yX9_remember ∈ fz_WA := fz_in (fz_tin 389 (by decide +kernel)) (by decide +kernel)
theorem fm_443 : Cond.selects RX9 yX9_remember yX9_remember ∈ fz_WA := fz_in (fz_sin 0 (by decide +kernel)) (by decide +kernel)
theorem fm_444 : Cond.code yX8_grow cX8_grow 7 (some .int) ∈ fz_WA := fz_in (fz_tin 640 (by decide +kernel)) (by decide +kernel)
theorem fm_445 : Cond.methodLink RX9 87 yX8_grow ∈ fz_WA := fz_in (fz_tin 637 (by decide +kernel)) (by decide +kernel)
theorem fm_446 : Cond.instanceMethod yX8_grow ∈ fz_WA := fz_in (fz_tin 638 (by decide +kernel)) (by decide +kernel)
theorem fm_447 : Cond.selects RX8 yX8_grow yX8_grow ∈ fz_WA := fz_in (fz_tin 639 (by decide +kernel)) (by decide +kernel)
theorem fm_448 : Cond.fieldLink RX9 172 "FindingAid$Rules" "mode" "[I" ∈ fz_WA := fz_in (fz_tin 113 (by decide +kernel)) (by decide +kernel)
theorem fm_449 : Cond.fieldLink RX9 177 "FindingAid$Rules" "length" "[I" ∈ fz_WA := fz_in (fz_tin 115 (by decide +kernel)) (by decide +kernel)
theorem fm_450 : Cond.code yX9_requireCapacity cX9_requireCapacity 1 none ∈ fz_WA := fz_in (fz_tin 824 (by decide +kernel)) (by decide +kernel)
theorem fm_451 : Cond.methodLink RX9 215 yX9_requireCapacity ∈ fz_WA := fz_in (fz_tin 822 (by decide +kernel)) (by decide +kernel)
theorem fm_452 : Cond.static yX9_requireCapacity ∈ fz_WA := fz_in (fz_tin 823 (by decide +kernel)) (by decide +kernel)
theorem fm_453 : Cond.code yX0_canOpen cX0_canOpen 1 (some .boolean) ∈ fz_WA := fz_in (fz_tin 829 (by decide +kernel)) (by decide +kernel)
theorem fm_454 : Cond.methodLink RX9 218 yX0_canOpen ∈ fz_WA := fz_in (fz_tin 826 (by decide +kernel)) (by decide +kernel)
theorem fm_455 : Cond.instanceMethod yX0_canOpen ∈ fz_WA := fz_in (fz_tin 827 (by decide +kernel)) (by decide +kernel)
theorem fm_456 : Cond.selects RX0 yX0_canOpen yX0_canOpen ∈ fz_WA := fz_in (fz_tin 828 (by decide +kernel)) (by decide +kernel)
theorem fm_457 : Cond.code yX0_open cX0_open 3 (some .int) ∈ fz_WA := fz_in (fz_tin 834 (by decide +kernel)) (by decide +kernel)
theorem fm_458 : Cond.methodLink RX9 224 yX0_open ∈ fz_WA := fz_in (fz_tin 831 (by decide +kernel)) (by decide +kernel)
theorem fm_459 : Cond.instanceMethod yX0_open ∈ fz_WA := fz_in (fz_tin 832 (by decide +kernel)) (by decide +kernel)
theorem fm_460 : Cond.selects RX0 yX0_open yX0_open ∈ fz_WA := fz_in (fz_tin 833 (by decide +kernel)) (by decide +kernel)
theorem fm_461 : Cond.fieldLink RX9 325 "FindingAid$State" "seats" "I" ∈ fz_WA := fz_in (fz_tin 249 (by decide +kernel)) (by decide +kernel)
theorem dX8_takeOver_0 : decode cX8_takeOver 0 = .ok (.aload_n 0, 1) := by decide +kernel
theorem dX8_takeOver_1 : decode cX8_takeOver 1 = .ok (.aload_n 1, 1) := by decide +kernel
theorem dX8_takeOver_2 : decode cX8_takeOver 2 = .ok (.getfield 9, 3) := by decide +kernel
theorem dX8_takeOver_5 : decode cX8_takeOver 5 = .ok (.putfield 9, 3) := by decide +kernel
theorem dX8_takeOver_8 : decode cX8_takeOver 8 = .ok (.aload_n 0, 1) := by decide +kernel
theorem dX8_takeOver_9 : decode cX8_takeOver 9 = .ok (.aload_n 1, 1) := by decide +kernel
theorem dX8_takeOver_10 : decode cX8_takeOver 10 = .ok (.getfield 15, 3) := by decide +kernel
theorem dX8_takeOver_13 : decode cX8_takeOver 13 = .ok (.putfield 15, 3) := by decide +kernel
theorem dX8_takeOver_16 : decode cX8_takeOver 16 = .ok (.aload_n 1, 1) := by decide +kernel
theorem dX8_takeOver_17 : decode cX8_takeOver 17 = .ok (.getfield 18, 3) := by decide +kernel
theorem dX8_takeOver_20 : decode cX8_takeOver 20 = .ok (.iconst 0, 1) := by decide +kernel
theorem dX8_takeOver_21 : decode cX8_takeOver 21 = .ok (.aload_n 0, 1) := by decide +kernel
theorem dX8_takeOver_22 : decode cX8_takeOver 22 = .ok (.getfield 18, 3) := by decide +kernel
theorem dX8_takeOver_25 : decode cX8_takeOver 25 = .ok (.iconst 0, 1) := by decide +kernel
theorem dX8_takeOver_26 : decode cX8_takeOver 26 = .ok (.bipush 40, 2) := by decide +kernel
theorem dX8_takeOver_28 : decode cX8_takeOver 28 = .ok (.invokestatic 49, 3) := by decide +kernel
theorem dX8_takeOver_31 : decode cX8_takeOver 31 = .ok (.aload_n 1, 1) := by decide +kernel
theorem dX8_takeOver_32 : decode cX8_takeOver 32 = .ok (.getfield 25, 3) := by decide +kernel
theorem dX8_takeOver_35 : decode cX8_takeOver 35 = .ok (.iconst 0, 1) := by decide +kernel
theorem dX8_takeOver_36 : decode cX8_takeOver 36 = .ok (.aload_n 0, 1) := by decide +kernel
theorem dX8_takeOver_37 : decode cX8_takeOver 37 = .ok (.getfield 25, 3) := by decide +kernel
theorem dX8_takeOver_40 : decode cX8_takeOver 40 = .ok (.iconst 0, 1) := by decide +kernel
theorem dX8_takeOver_41 : decode cX8_takeOver 41 = .ok (.bipush 40, 2) := by decide +kernel
theorem dX8_takeOver_43 : decode cX8_takeOver 43 = .ok (.invokestatic 49, 3) := by decide +kernel
theorem dX8_takeOver_46 : decode cX8_takeOver 46 = .ok (.aload_n 1, 1) := by decide +kernel
theorem dX8_takeOver_47 : decode cX8_takeOver 47 = .ok (.getfield 28, 3) := by decide +kernel
theorem dX8_takeOver_50 : decode cX8_takeOver 50 = .ok (.iconst 0, 1) := by decide +kernel
theorem dX8_takeOver_51 : decode cX8_takeOver 51 = .ok (.aload_n 0, 1) := by decide +kernel
theorem dX8_takeOver_52 : decode cX8_takeOver 52 = .ok (.getfield 28, 3) := by decide +kernel
theorem dX8_takeOver_55 : decode cX8_takeOver 55 = .ok (.iconst 0, 1) := by decide +kernel
theorem dX8_takeOver_56 : decode cX8_takeOver 56 = .ok (.bipush 40, 2) := by decide +kernel
theorem dX8_takeOver_58 : decode cX8_takeOver 58 = .ok (.invokestatic 49, 3) := by decide +kernel
theorem dX8_takeOver_61 : decode cX8_takeOver 61 = .ok (.aload_n 1, 1) := by decide +kernel
theorem dX8_takeOver_62 : decode cX8_takeOver 62 = .ok (.getfield 31, 3) := by decide +kernel
theorem dX8_takeOver_65 : decode cX8_takeOver 65 = .ok (.iconst 0, 1) := by decide +kernel
theorem dX8_takeOver_66 : decode cX8_takeOver 66 = .ok (.aload_n 0, 1) := by decide +kernel
theorem dX8_takeOver_67 : decode cX8_takeOver 67 = .ok (.getfield 31, 3) := by decide +kernel
theorem dX8_takeOver_70 : decode cX8_takeOver 70 = .ok (.iconst 0, 1) := by decide +kernel
theorem dX8_takeOver_71 : decode cX8_takeOver 71 = .ok (.bipush 40, 2) := by decide +kernel
theorem dX8_takeOver_73 : decode cX8_takeOver 73 = .ok (.invokestatic 49, 3) := by decide +kernel
theorem dX8_takeOver_76 : decode cX8_takeOver 76 = .ok (.aload_n 1, 1) := by decide +kernel
theorem dX8_takeOver_77 : decode cX8_takeOver 77 = .ok (.getfield 34, 3) := by decide +kernel
theorem dX8_takeOver_80 : decode cX8_takeOver 80 = .ok (.iconst 0, 1) := by decide +kernel
theorem dX8_takeOver_81 : decode cX8_takeOver 81 = .ok (.aload_n 0, 1) := by decide +kernel
theorem dX8_takeOver_82 : decode cX8_takeOver 82 = .ok (.getfield 34, 3) := by decide +kernel
theorem dX8_takeOver_85 : decode cX8_takeOver 85 = .ok (.iconst 0, 1) := by decide +kernel
theorem dX8_takeOver_86 : decode cX8_takeOver 86 = .ok (.bipush 40, 2) := by decide +kernel
theorem dX8_takeOver_88 : decode cX8_takeOver 88 = .ok (.invokestatic 49, 3) := by decide +kernel
theorem dX8_takeOver_91 : decode cX8_takeOver 91 = .ok (.aload_n 1, 1) := by decide +kernel
theorem dX8_takeOver_92 : decode cX8_takeOver 92 = .ok (.getfield 37, 3) := by decide +kernel
theorem dX8_takeOver_95 : decode cX8_takeOver 95 = .ok (.iconst 0, 1) := by decide +kernel
theorem dX8_takeOver_96 : decode cX8_takeOver 96 = .ok (.aload_n 0, 1) := by decide +kernel
theorem dX8_takeOver_97 : decode cX8_takeOver 97 = .ok (.getfield 37, 3) := by decide +kernel
theorem dX8_takeOver_100 : decode cX8_takeOver 100 = .ok (.iconst 0, 1) := by decide +kernel
theorem dX8_takeOver_101 : decode cX8_takeOver 101 = .ok (.bipush 40, 2) := by decide +kernel
theorem dX8_takeOver_103 : decode cX8_takeOver 103 = .ok (.invokestatic 49, 3) := by decide +kernel
theorem dX8_takeOver_106 : decode cX8_takeOver 106 = .ok (.aload_n 1, 1) := by decide +kernel
theorem dX8_takeOver_107 : decode cX8_takeOver 107 = .ok (.getfield 40, 3) := by decide +kernel
theorem dX8_takeOver_110 : decode cX8_takeOver 110 = .ok (.iconst 0, 1) := by decide +kernel
theorem dX8_takeOver_111 : decode cX8_takeOver 111 = .ok (.aload_n 0, 1) := by decide +kernel
theorem dX8_takeOver_112 : decode cX8_takeOver 112 = .ok (.getfield 40, 3) := by decide +kernel
theorem dX8_takeOver_115 : decode cX8_takeOver 115 = .ok (.iconst 0, 1) := by decide +kernel
theorem dX8_takeOver_116 : decode cX8_takeOver 116 = .ok (.bipush 40, 2) := by decide +kernel
theorem dX8_takeOver_118 : decode cX8_takeOver 118 = .ok (.invokestatic 49, 3) := by decide +kernel
theorem dX8_takeOver_121 : decode cX8_takeOver 121 = .ok (.return_, 1) := by decide +kernel
theorem dX6_takeOver_0 : decode cX6_takeOver 0 = .ok (.aload_n 1, 1) := by decide +kernel
theorem dX6_takeOver_1 : decode cX6_takeOver 1 = .ok (.getfield 9, 3) := by decide +kernel
theorem dX6_takeOver_4 : decode cX6_takeOver 4 = .ok (.iconst 0, 1) := by decide +kernel
theorem dX6_takeOver_5 : decode cX6_takeOver 5 = .ok (.aload_n 0, 1) := by decide +kernel
theorem dX6_takeOver_6 : decode cX6_takeOver 6 = .ok (.getfield 9, 3) := by decide +kernel
theorem dX6_takeOver_9 : decode cX6_takeOver 9 = .ok (.iconst 0, 1) := by decide +kernel
theorem dX6_takeOver_10 : decode cX6_takeOver 10 = .ok (.bipush 40, 2) := by decide +kernel
theorem dX6_takeOver_12 : decode cX6_takeOver 12 = .ok (.invokestatic 27, 3) := by decide +kernel
theorem dX6_takeOver_15 : decode cX6_takeOver 15 = .ok (.aload_n 1, 1) := by decide +kernel
theorem dX6_takeOver_16 : decode cX6_takeOver 16 = .ok (.getfield 15, 3) := by decide +kernel
theorem dX6_takeOver_19 : decode cX6_takeOver 19 = .ok (.iconst 0, 1) := by decide +kernel
theorem dX6_takeOver_20 : decode cX6_takeOver 20 = .ok (.aload_n 0, 1) := by decide +kernel
theorem dX6_takeOver_21 : decode cX6_takeOver 21 = .ok (.getfield 15, 3) := by decide +kernel
theorem dX6_takeOver_24 : decode cX6_takeOver 24 = .ok (.iconst 0, 1) := by decide +kernel
theorem dX6_takeOver_25 : decode cX6_takeOver 25 = .ok (.bipush 40, 2) := by decide +kernel
theorem dX6_takeOver_27 : decode cX6_takeOver 27 = .ok (.invokestatic 27, 3) := by decide +kernel
theorem dX6_takeOver_30 : decode cX6_takeOver 30 = .ok (.aload_n 1, 1) := by decide +kernel
theorem dX6_takeOver_31 : decode cX6_takeOver 31 = .ok (.getfield 18, 3) := by decide +kernel
theorem dX6_takeOver_34 : decode cX6_takeOver 34 = .ok (.iconst 0, 1) := by decide +kernel
theorem dX6_takeOver_35 : decode cX6_takeOver 35 = .ok (.aload_n 0, 1) := by decide +kernel
theorem dX6_takeOver_36 : decode cX6_takeOver 36 = .ok (.getfield 18, 3) := by decide +kernel
theorem dX6_takeOver_39 : decode cX6_takeOver 39 = .ok (.iconst 0, 1) := by decide +kernel
theorem dX6_takeOver_40 : decode cX6_takeOver 40 = .ok (.sipush 800, 3) := by decide +kernel
theorem dX6_takeOver_43 : decode cX6_takeOver 43 = .ok (.invokestatic 27, 3) := by decide +kernel
theorem dX6_takeOver_46 : decode cX6_takeOver 46 = .ok (.return_, 1) := by decide +kernel
theorem dX3_takeOver_0 : decode cX3_takeOver 0 = .ok (.aload_n 0, 1) := by decide +kernel
theorem dX3_takeOver_1 : decode cX3_takeOver 1 = .ok (.getfield 19, 3) := by decide +kernel
theorem dX3_takeOver_4 : decode cX3_takeOver 4 = .ok (.arraylength, 1) := by decide +kernel
theorem dX3_takeOver_5 : decode cX3_takeOver 5 = .ok (.aload_n 1, 1) := by decide +kernel
theorem dX3_takeOver_6 : decode cX3_takeOver 6 = .ok (.getfield 9, 3) := by decide +kernel
theorem dX3_takeOver_9 : decode cX3_takeOver 9 = .ok (.if_icmp .ge 25, 3) := by decide +kernel
theorem dX3_takeOver_34 : decode cX3_takeOver 34 = .ok (.aload_n 0, 1) := by decide +kernel
theorem dX3_takeOver_35 : decode cX3_takeOver 35 = .ok (.aload_n 1, 1) := by decide +kernel
theorem dX3_takeOver_36 : decode cX3_takeOver 36 = .ok (.getfield 9, 3) := by decide +kernel
theorem dX3_takeOver_39 : decode cX3_takeOver 39 = .ok (.putfield 9, 3) := by decide +kernel
theorem dX3_takeOver_42 : decode cX3_takeOver 42 = .ok (.aload_n 1, 1) := by decide +kernel
theorem dX3_takeOver_43 : decode cX3_takeOver 43 = .ok (.getfield 15, 3) := by decide +kernel
theorem dX3_takeOver_46 : decode cX3_takeOver 46 = .ok (.iconst 0, 1) := by decide +kernel
theorem dX3_takeOver_47 : decode cX3_takeOver 47 = .ok (.aload_n 0, 1) := by decide +kernel
theorem dX3_takeOver_48 : decode cX3_takeOver 48 = .ok (.getfield 15, 3) := by decide +kernel
theorem dX3_takeOver_51 : decode cX3_takeOver 51 = .ok (.iconst 0, 1) := by decide +kernel
theorem dX3_takeOver_52 : decode cX3_takeOver 52 = .ok (.aload_n 0, 1) := by decide +kernel
theorem dX3_takeOver_53 : decode cX3_takeOver 53 = .ok (.getfield 9, 3) := by decide +kernel
theorem dX3_takeOver_56 : decode cX3_takeOver 56 = .ok (.invokestatic 22, 3) := by decide +kernel
theorem dX3_takeOver_59 : decode cX3_takeOver 59 = .ok (.aload_n 1, 1) := by decide +kernel
theorem dX3_takeOver_60 : decode cX3_takeOver 60 = .ok (.getfield 19, 3) := by decide +kernel
theorem dX3_takeOver_63 : decode cX3_takeOver 63 = .ok (.iconst 0, 1) := by decide +kernel
theorem dX3_takeOver_64 : decode cX3_takeOver 64 = .ok (.aload_n 0, 1) := by decide +kernel
theorem dX3_takeOver_65 : decode cX3_takeOver 65 = .ok (.getfield 19, 3) := by decide +kernel
theorem dX3_takeOver_68 : decode cX3_takeOver 68 = .ok (.iconst 0, 1) := by decide +kernel
theorem dX3_takeOver_69 : decode cX3_takeOver 69 = .ok (.aload_n 0, 1) := by decide +kernel
theorem dX3_takeOver_70 : decode cX3_takeOver 70 = .ok (.getfield 9, 3) := by decide +kernel
theorem dX3_takeOver_73 : decode cX3_takeOver 73 = .ok (.invokestatic 22, 3) := by decide +kernel
theorem dX3_takeOver_76 : decode cX3_takeOver 76 = .ok (.return_, 1) := by decide +kernel
theorem dX0_takeOver_0 : decode cX0_takeOver 0 = .ok (.aload_n 0, 1) := by decide +kernel
theorem dX0_takeOver_1 : decode cX0_takeOver 1 = .ok (.aload_n 1, 1) := by decide +kernel
theorem dX0_takeOver_2 : decode cX0_takeOver 2 = .ok (.getfield 9, 3) := by decide +kernel
theorem dX0_takeOver_5 : decode cX0_takeOver 5 = .ok (.putfield 9, 3) := by decide +kernel
theorem dX0_takeOver_8 : decode cX0_takeOver 8 = .ok (.aload_n 0, 1) := by decide +kernel
theorem dX0_takeOver_9 : decode cX0_takeOver 9 = .ok (.aload_n 1, 1) := by decide +kernel
theorem dX0_takeOver_10 : decode cX0_takeOver 10 = .ok (.getfield 15, 3) := by decide +kernel
theorem dX0_takeOver_13 : decode cX0_takeOver 13 = .ok (.putfield 15, 3) := by decide +kernel
theorem dX0_takeOver_16 : decode cX0_takeOver 16 = .ok (.aload_n 0, 1) := by decide +kernel
theorem dX0_takeOver_17 : decode cX0_takeOver 17 = .ok (.aload_n 1, 1) := by decide +kernel
theorem dX0_takeOver_18 : decode cX0_takeOver 18 = .ok (.getfield 18, 3) := by decide +kernel
theorem dX0_takeOver_21 : decode cX0_takeOver 21 = .ok (.putfield 18, 3) := by decide +kernel
theorem dX0_takeOver_24 : decode cX0_takeOver 24 = .ok (.aload_n 1, 1) := by decide +kernel
theorem dX0_takeOver_25 : decode cX0_takeOver 25 = .ok (.getfield 21, 3) := by decide +kernel
theorem dX0_takeOver_28 : decode cX0_takeOver 28 = .ok (.iconst 0, 1) := by decide +kernel
theorem dX0_takeOver_29 : decode cX0_takeOver 29 = .ok (.aload_n 0, 1) := by decide +kernel
theorem dX0_takeOver_30 : decode cX0_takeOver 30 = .ok (.getfield 21, 3) := by decide +kernel
theorem dX0_takeOver_33 : decode cX0_takeOver 33 = .ok (.iconst 0, 1) := by decide +kernel
theorem dX0_takeOver_34 : decode cX0_takeOver 34 = .ok (.bipush 30, 2) := by decide +kernel
theorem dX0_takeOver_36 : decode cX0_takeOver 36 = .ok (.invokestatic 50, 3) := by decide +kernel
theorem dX0_takeOver_39 : decode cX0_takeOver 39 = .ok (.aload_n 1, 1) := by decide +kernel
theorem dX0_takeOver_40 : decode cX0_takeOver 40 = .ok (.getfield 25, 3) := by decide +kernel
theorem dX0_takeOver_43 : decode cX0_takeOver 43 = .ok (.iconst 0, 1) := by decide +kernel
theorem dX0_takeOver_44 : decode cX0_takeOver 44 = .ok (.aload_n 0, 1) := by decide +kernel
theorem dX0_takeOver_45 : decode cX0_takeOver 45 = .ok (.getfield 25, 3) := by decide +kernel
theorem dX0_takeOver_48 : decode cX0_takeOver 48 = .ok (.iconst 0, 1) := by decide +kernel
theorem dX0_takeOver_49 : decode cX0_takeOver 49 = .ok (.bipush 30, 2) := by decide +kernel
theorem dX0_takeOver_51 : decode cX0_takeOver 51 = .ok (.invokestatic 50, 3) := by decide +kernel
theorem dX0_takeOver_54 : decode cX0_takeOver 54 = .ok (.aload_n 1, 1) := by decide +kernel
theorem dX0_takeOver_55 : decode cX0_takeOver 55 = .ok (.getfield 28, 3) := by decide +kernel
theorem dX0_takeOver_58 : decode cX0_takeOver 58 = .ok (.iconst 0, 1) := by decide +kernel
theorem dX0_takeOver_59 : decode cX0_takeOver 59 = .ok (.aload_n 0, 1) := by decide +kernel
theorem dX0_takeOver_60 : decode cX0_takeOver 60 = .ok (.getfield 28, 3) := by decide +kernel
theorem dX0_takeOver_63 : decode cX0_takeOver 63 = .ok (.iconst 0, 1) := by decide +kernel
theorem dX0_takeOver_64 : decode cX0_takeOver 64 = .ok (.bipush 40, 2) := by decide +kernel
theorem dX0_takeOver_66 : decode cX0_takeOver 66 = .ok (.invokestatic 50, 3) := by decide +kernel
theorem dX0_takeOver_69 : decode cX0_takeOver 69 = .ok (.aload_n 1, 1) := by decide +kernel
theorem dX0_takeOver_70 : decode cX0_takeOver 70 = .ok (.getfield 31, 3) := by decide +kernel
theorem dX0_takeOver_73 : decode cX0_takeOver 73 = .ok (.iconst 0, 1) := by decide +kernel
theorem dX0_takeOver_74 : decode cX0_takeOver 74 = .ok (.aload_n 0, 1) := by decide +kernel
theorem dX0_takeOver_75 : decode cX0_takeOver 75 = .ok (.getfield 31, 3) := by decide +kernel
theorem dX0_takeOver_78 : decode cX0_takeOver 78 = .ok (.iconst 0, 1) := by decide +kernel
theorem dX0_takeOver_79 : decode cX0_takeOver 79 = .ok (.bipush 40, 2) := by decide +kernel
theorem dX0_takeOver_81 : decode cX0_takeOver 81 = .ok (.invokestatic 50, 3) := by decide +kernel
theorem dX0_takeOver_84 : decode cX0_takeOver 84 = .ok (.aload_n 1, 1) := by decide +kernel
theorem dX0_takeOver_85 : decode cX0_takeOver 85 = .ok (.getfield 34, 3) := by decide +kernel
theorem dX0_takeOver_88 : decode cX0_takeOver 88 = .ok (.iconst 0, 1) := by decide +kernel
theorem dX0_takeOver_89 : decode cX0_takeOver 89 = .ok (.aload_n 0, 1) := by decide +kernel
theorem dX0_takeOver_90 : decode cX0_takeOver 90 = .ok (.getfield 34, 3) := by decide +kernel
theorem dX0_takeOver_93 : decode cX0_takeOver 93 = .ok (.iconst 0, 1) := by decide +kernel
theorem dX0_takeOver_94 : decode cX0_takeOver 94 = .ok (.bipush 40, 2) := by decide +kernel
theorem dX0_takeOver_96 : decode cX0_takeOver 96 = .ok (.invokestatic 50, 3) := by decide +kernel
theorem dX0_takeOver_99 : decode cX0_takeOver 99 = .ok (.aload_n 0, 1) := by decide +kernel
theorem dX0_takeOver_100 : decode cX0_takeOver 100 = .ok (.getfield 40, 3) := by decide +kernel
theorem dX0_takeOver_103 : decode cX0_takeOver 103 = .ok (.aload_n 1, 1) := by decide +kernel
theorem dX0_takeOver_104 : decode cX0_takeOver 104 = .ok (.getfield 40, 3) := by decide +kernel
theorem dX0_takeOver_107 : decode cX0_takeOver 107 = .ok (.invokevirtual 56, 3) := by decide +kernel
theorem dX0_takeOver_110 : decode cX0_takeOver 110 = .ok (.return_, 1) := by decide +kernel
theorem dX1_takeOver_0 : decode cX1_takeOver 0 = .ok (.aload_n 0, 1) := by decide +kernel
theorem dX1_takeOver_1 : decode cX1_takeOver 1 = .ok (.aload_n 1, 1) := by decide +kernel
theorem dX1_takeOver_2 : decode cX1_takeOver 2 = .ok (.getfield 9, 3) := by decide +kernel
theorem dX1_takeOver_5 : decode cX1_takeOver 5 = .ok (.putfield 9, 3) := by decide +kernel
theorem dX1_takeOver_8 : decode cX1_takeOver 8 = .ok (.aload_n 1, 1) := by decide +kernel
theorem dX1_takeOver_9 : decode cX1_takeOver 9 = .ok (.getfield 15, 3) := by decide +kernel
theorem dX1_takeOver_12 : decode cX1_takeOver 12 = .ok (.iconst 0, 1) := by decide +kernel
theorem dX1_takeOver_13 : decode cX1_takeOver 13 = .ok (.aload_n 0, 1) := by decide +kernel
theorem dX1_takeOver_14 : decode cX1_takeOver 14 = .ok (.getfield 15, 3) := by decide +kernel
theorem dX1_takeOver_17 : decode cX1_takeOver 17 = .ok (.iconst 0, 1) := by decide +kernel
theorem dX1_takeOver_18 : decode cX1_takeOver 18 = .ok (.bipush 16, 2) := by decide +kernel
theorem dX1_takeOver_20 : decode cX1_takeOver 20 = .ok (.invokestatic 22, 3) := by decide +kernel
theorem dX1_takeOver_23 : decode cX1_takeOver 23 = .ok (.aload_n 1, 1) := by decide +kernel
theorem dX1_takeOver_24 : decode cX1_takeOver 24 = .ok (.getfield 19, 3) := by decide +kernel
theorem dX1_takeOver_27 : decode cX1_takeOver 27 = .ok (.iconst 0, 1) := by decide +kernel
theorem dX1_takeOver_28 : decode cX1_takeOver 28 = .ok (.aload_n 0, 1) := by decide +kernel
theorem dX1_takeOver_29 : decode cX1_takeOver 29 = .ok (.getfield 19, 3) := by decide +kernel
theorem dX1_takeOver_32 : decode cX1_takeOver 32 = .ok (.iconst 0, 1) := by decide +kernel
theorem dX1_takeOver_33 : decode cX1_takeOver 33 = .ok (.bipush 16, 2) := by decide +kernel
theorem dX1_takeOver_35 : decode cX1_takeOver 35 = .ok (.invokestatic 22, 3) := by decide +kernel
theorem dX1_takeOver_38 : decode cX1_takeOver 38 = .ok (.return_, 1) := by decide +kernel
theorem dX5_takeOver_0 : decode cX5_takeOver 0 = .ok (.aload_n 0, 1) := by decide +kernel
theorem dX5_takeOver_1 : decode cX5_takeOver 1 = .ok (.aload_n 1, 1) := by decide +kernel
theorem dX5_takeOver_2 : decode cX5_takeOver 2 = .ok (.getfield 9, 3) := by decide +kernel
theorem dX5_takeOver_5 : decode cX5_takeOver 5 = .ok (.putfield 9, 3) := by decide +kernel
theorem dX5_takeOver_8 : decode cX5_takeOver 8 = .ok (.aload_n 1, 1) := by decide +kernel
theorem dX5_takeOver_9 : decode cX5_takeOver 9 = .ok (.getfield 15, 3) := by decide +kernel
theorem dX5_takeOver_12 : decode cX5_takeOver 12 = .ok (.iconst 0, 1) := by decide +kernel
theorem dX5_takeOver_13 : decode cX5_takeOver 13 = .ok (.aload_n 0, 1) := by decide +kernel
theorem dX5_takeOver_14 : decode cX5_takeOver 14 = .ok (.getfield 15, 3) := by decide +kernel
theorem dX5_takeOver_17 : decode cX5_takeOver 17 = .ok (.iconst 0, 1) := by decide +kernel
theorem dX5_takeOver_18 : decode cX5_takeOver 18 = .ok (.bipush 30, 2) := by decide +kernel
theorem dX5_takeOver_20 : decode cX5_takeOver 20 = .ok (.invokestatic 28, 3) := by decide +kernel
theorem dX5_takeOver_23 : decode cX5_takeOver 23 = .ok (.aload_n 1, 1) := by decide +kernel
theorem dX5_takeOver_24 : decode cX5_takeOver 24 = .ok (.getfield 19, 3) := by decide +kernel
theorem dX5_takeOver_27 : decode cX5_takeOver 27 = .ok (.iconst 0, 1) := by decide +kernel
theorem dX5_takeOver_28 : decode cX5_takeOver 28 = .ok (.aload_n 0, 1) := by decide +kernel
theorem dX5_takeOver_29 : decode cX5_takeOver 29 = .ok (.getfield 19, 3) := by decide +kernel
theorem dX5_takeOver_32 : decode cX5_takeOver 32 = .ok (.iconst 0, 1) := by decide +kernel
theorem dX5_takeOver_33 : decode cX5_takeOver 33 = .ok (.bipush 30, 2) := by decide +kernel
theorem dX5_takeOver_35 : decode cX5_takeOver 35 = .ok (.invokestatic 28, 3) := by decide +kernel
theorem dX5_takeOver_38 : decode cX5_takeOver 38 = .ok (.aload_n 1, 1) := by decide +kernel
theorem dX5_takeOver_39 : decode cX5_takeOver 39 = .ok (.getfield 22, 3) := by decide +kernel
theorem dX5_takeOver_42 : decode cX5_takeOver 42 = .ok (.iconst 0, 1) := by decide +kernel
theorem dX5_takeOver_43 : decode cX5_takeOver 43 = .ok (.aload_n 0, 1) := by decide +kernel
theorem dX5_takeOver_44 : decode cX5_takeOver 44 = .ok (.getfield 22, 3) := by decide +kernel
theorem dX5_takeOver_47 : decode cX5_takeOver 47 = .ok (.iconst 0, 1) := by decide +kernel
theorem dX5_takeOver_48 : decode cX5_takeOver 48 = .ok (.bipush 30, 2) := by decide +kernel
theorem dX5_takeOver_50 : decode cX5_takeOver 50 = .ok (.invokestatic 28, 3) := by decide +kernel
theorem dX5_takeOver_53 : decode cX5_takeOver 53 = .ok (.aload_n 1, 1) := by decide +kernel
theorem dX5_takeOver_54 : decode cX5_takeOver 54 = .ok (.getfield 25, 3) := by decide +kernel
theorem dX5_takeOver_57 : decode cX5_takeOver 57 = .ok (.iconst 0, 1) := by decide +kernel
theorem dX5_takeOver_58 : decode cX5_takeOver 58 = .ok (.aload_n 0, 1) := by decide +kernel
theorem dX5_takeOver_59 : decode cX5_takeOver 59 = .ok (.getfield 25, 3) := by decide +kernel
theorem dX5_takeOver_62 : decode cX5_takeOver 62 = .ok (.iconst 0, 1) := by decide +kernel
theorem dX5_takeOver_63 : decode cX5_takeOver 63 = .ok (.bipush 30, 2) := by decide +kernel
theorem dX5_takeOver_65 : decode cX5_takeOver 65 = .ok (.invokestatic 28, 3) := by decide +kernel
theorem dX5_takeOver_68 : decode cX5_takeOver 68 = .ok (.return_, 1) := by decide +kernel
theorem dX7_takeOver_0 : decode cX7_takeOver 0 = .ok (.aload_n 0, 1) := by decide +kernel
theorem dX7_takeOver_1 : decode cX7_takeOver 1 = .ok (.getfield 12, 3) := by decide +kernel
theorem dX7_takeOver_4 : decode cX7_takeOver 4 = .ok (.aload_n 1, 1) := by decide +kernel
theorem dX7_takeOver_5 : decode cX7_takeOver 5 = .ok (.getfield 12, 3) := by decide +kernel
theorem dX7_takeOver_8 : decode cX7_takeOver 8 = .ok (.invokevirtual 50, 3) := by decide +kernel
theorem dX7_takeOver_11 : decode cX7_takeOver 11 = .ok (.aload_n 0, 1) := by decide +kernel
theorem dX7_takeOver_12 : decode cX7_takeOver 12 = .ok (.getfield 21, 3) := by decide +kernel
theorem dX7_takeOver_15 : decode cX7_takeOver 15 = .ok (.aload_n 1, 1) := by decide +kernel
theorem dX7_takeOver_16 : decode cX7_takeOver 16 = .ok (.getfield 21, 3) := by decide +kernel
theorem dX7_takeOver_19 : decode cX7_takeOver 19 = .ok (.invokevirtual 54, 3) := by decide +kernel
theorem dX7_takeOver_22 : decode cX7_takeOver 22 = .ok (.aload_n 0, 1) := by decide +kernel
theorem dX7_takeOver_23 : decode cX7_takeOver 23 = .ok (.getfield 28, 3) := by decide +kernel
theorem dX7_takeOver_26 : decode cX7_takeOver 26 = .ok (.aload_n 1, 1) := by decide +kernel
theorem dX7_takeOver_27 : decode cX7_takeOver 27 = .ok (.getfield 28, 3) := by decide +kernel
theorem dX7_takeOver_30 : decode cX7_takeOver 30 = .ok (.invokevirtual 57, 3) := by decide +kernel
theorem dX7_takeOver_33 : decode cX7_takeOver 33 = .ok (.aload_n 0, 1) := by decide +kernel
theorem dX7_takeOver_34 : decode cX7_takeOver 34 = .ok (.getfield 35, 3) := by decide +kernel
theorem dX7_takeOver_37 : decode cX7_takeOver 37 = .ok (.aload_n 1, 1) := by decide +kernel
theorem dX7_takeOver_38 : decode cX7_takeOver 38 = .ok (.getfield 35, 3) := by decide +kernel
theorem dX7_takeOver_41 : decode cX7_takeOver 41 = .ok (.invokevirtual 60, 3) := by decide +kernel
theorem dX7_takeOver_44 : decode cX7_takeOver 44 = .ok (.aload_n 0, 1) := by decide +kernel
theorem dX7_takeOver_45 : decode cX7_takeOver 45 = .ok (.getfield 42, 3) := by decide +kernel
theorem dX7_takeOver_48 : decode cX7_takeOver 48 = .ok (.aload_n 1, 1) := by decide +kernel
theorem dX7_takeOver_49 : decode cX7_takeOver 49 = .ok (.getfield 42, 3) := by decide +kernel
theorem dX7_takeOver_52 : decode cX7_takeOver 52 = .ok (.invokevirtual 63, 3) := by decide +kernel
theorem dX7_takeOver_55 : decode cX7_takeOver 55 = .ok (.aload_n 0, 1) := by decide +kernel
theorem dX7_takeOver_56 : decode cX7_takeOver 56 = .ok (.aload_n 1, 1) := by decide +kernel
theorem dX7_takeOver_57 : decode cX7_takeOver 57 = .ok (.getfield 46, 3) := by decide +kernel
theorem dX7_takeOver_60 : decode cX7_takeOver 60 = .ok (.putfield 46, 3) := by decide +kernel
theorem dX7_takeOver_63 : decode cX7_takeOver 63 = .ok (.return_, 1) := by decide +kernel
theorem dX9_remember_0 : decode cX9_remember 0 = .ok (.aload_n 0, 1) := by decide +kernel
theorem dX9_remember_1 : decode cX9_remember 1 = .ok (.aload_n 0, 1) := by decide +kernel
theorem dX9_remember_2 : decode cX9_remember 2 = .ok (.getfield 20, 3) := by decide +kernel
theorem dX9_remember_5 : decode cX9_remember 5 = .ok (.iconst 1, 1) := by decide +kernel
theorem dX9_remember_6 : decode cX9_remember 6 = .ok (.iadd, 1) := by decide +kernel
theorem dX9_remember_7 : decode cX9_remember 7 = .ok (.bipush 8, 2) := by decide +kernel
theorem dX9_remember_9 : decode cX9_remember 9 = .ok (.irem, 1) := by decide +kernel
theorem dX9_remember_10 : decode cX9_remember 10 = .ok (.putfield 20, 3) := by decide +kernel
theorem dX9_remember_13 : decode cX9_remember 13 = .ok (.aload_n 0, 1) := by decide +kernel
theorem dX9_remember_14 : decode cX9_remember 14 = .ok (.getfield 16, 3) := by decide +kernel
theorem dX9_remember_17 : decode cX9_remember 17 = .ok (.aload_n 0, 1) := by decide +kernel
theorem dX9_remember_18 : decode cX9_remember 18 = .ok (.getfield 20, 3) := by decide +kernel
theorem dX9_remember_21 : decode cX9_remember 21 = .ok (.aaload, 1) := by decide +kernel
theorem dX9_remember_22 : decode cX9_remember 22 = .ok (.ifnonnull 19, 3) := by decide +kernel
theorem dX9_remember_25 : decode cX9_remember 25 = .ok (.aload_n 0, 1) := by decide +kernel
theorem dX9_remember_26 : decode cX9_remember 26 = .ok (.getfield 16, 3) := by decide +kernel
theorem dX9_remember_29 : decode cX9_remember 29 = .ok (.aload_n 0, 1) := by decide +kernel
theorem dX9_remember_30 : decode cX9_remember 30 = .ok (.getfield 20, 3) := by decide +kernel
theorem dX9_remember_33 : decode cX9_remember 33 = .ok (.new 7, 3) := by decide +kernel
theorem dX9_remember_36 : decode cX9_remember 36 = .ok (.dup, 1) := by decide +kernel
theorem dX9_remember_37 : decode cX9_remember 37 = .ok (.invokespecial 9, 3) := by decide +kernel
theorem dX9_remember_40 : decode cX9_remember 40 = .ok (.aastore, 1) := by decide +kernel
theorem dX9_remember_41 : decode cX9_remember 41 = .ok (.aload_n 0, 1) := by decide +kernel
theorem dX9_remember_42 : decode cX9_remember 42 = .ok (.getfield 16, 3) := by decide +kernel
theorem dX9_remember_45 : decode cX9_remember 45 = .ok (.aload_n 0, 1) := by decide +kernel
theorem dX9_remember_46 : decode cX9_remember 46 = .ok (.getfield 20, 3) := by decide +kernel
theorem dX9_remember_49 : decode cX9_remember 49 = .ok (.aaload, 1) := by decide +kernel
theorem dX9_remember_50 : decode cX9_remember 50 = .ok (.aload_n 0, 1) := by decide +kernel
theorem dX9_remember_51 : decode cX9_remember 51 = .ok (.getfield 10, 3) := by decide +kernel
theorem dX9_remember_54 : decode cX9_remember 54 = .ok (.invokevirtual 482, 3) := by decide +kernel
theorem dX9_remember_57 : decode cX9_remember 57 = .ok (.aload_n 0, 1) := by decide +kernel
theorem dX9_remember_58 : decode cX9_remember 58 = .ok (.aload_n 0, 1) := by decide +kernel
theorem dX9_remember_59 : decode cX9_remember 59 = .ok (.getfield 24, 3) := by decide +kernel
theorem dX9_remember_62 : decode cX9_remember 62 = .ok (.iconst 1, 1) := by decide +kernel
theorem dX9_remember_63 : decode cX9_remember 63 = .ok (.iadd, 1) := by decide +kernel
theorem dX9_remember_64 : decode cX9_remember 64 = .ok (.bipush 8, 2) := by decide +kernel
theorem dX9_remember_66 : decode cX9_remember 66 = .ok (.invokestatic 509, 3) := by decide +kernel
theorem dX9_remember_69 : decode cX9_remember 69 = .ok (.putfield 24, 3) := by decide +kernel
theorem dX9_remember_72 : decode cX9_remember 72 = .ok (.return_, 1) := by decide +kernel
theorem dX9_add_0 : decode cX9_add 0 = .ok (.aload_n 0, 1) := by decide +kernel
theorem dX9_add_1 : decode cX9_add 1 = .ok (.iload_n 1, 1) := by decide +kernel
theorem dX9_add_2 : decode cX9_add 2 = .ok (.invokevirtual 51, 3) := by decide +kernel
theorem dX9_add_5 : decode cX9_add 5 = .ok (.aload_n 0, 1) := by decide +kernel
theorem dX9_add_6 : decode cX9_add 6 = .ok (.getfield 10, 3) := by decide +kernel
theorem dX9_add_9 : decode cX9_add 9 = .ok (.getfield 55, 3) := by decide +kernel
theorem dX9_add_12 : decode cX9_add 12 = .ok (.getfield 59, 3) := by decide +kernel
theorem dX9_add_15 : decode cX9_add 15 = .ok (.iload_n 1, 1) := by decide +kernel
theorem dX9_add_16 : decode cX9_add 16 = .ok (.iaload, 1) := by decide +kernel
theorem dX9_add_17 : decode cX9_add 17 = .ok (.iload_n 2, 1) := by decide +kernel
theorem dX9_add_18 : decode cX9_add 18 = .ok (.iload_n 3, 1) := by decide +kernel
theorem dX9_add_19 : decode cX9_add 19 = .ok (.iload 4, 2) := by decide +kernel
theorem dX9_add_21 : decode cX9_add 21 = .ok (.iload 5, 2) := by decide +kernel
theorem dX9_add_23 : decode cX9_add 23 = .ok (.invokestatic 65, 3) := by decide +kernel
theorem dX9_add_26 : decode cX9_add 26 = .ok (.ifCond .ne 13, 3) := by decide +kernel
theorem dX9_add_39 : decode cX9_add 39 = .ok (.aload_n 0, 1) := by decide +kernel
theorem dX9_add_40 : decode cX9_add 40 = .ok (.getfield 10, 3) := by decide +kernel
theorem dX9_add_43 : decode cX9_add 43 = .ok (.getfield 55, 3) := by decide +kernel
theorem dX9_add_46 : decode cX9_add 46 = .ok (.getfield 76, 3) := by decide +kernel
theorem dX9_add_49 : decode cX9_add 49 = .ok (.bipush 40, 2) := by decide +kernel
theorem dX9_add_51 : decode cX9_add 51 = .ok (.if_icmp .lt 13, 3) := by decide +kernel
theorem dX9_add_64 : decode cX9_add 64 = .ok (.aload_n 0, 1) := by decide +kernel
theorem dX9_add_65 : decode cX9_add 65 = .ok (.invokevirtual 84, 3) := by decide +kernel
theorem dX9_add_68 : decode cX9_add 68 = .ok (.aload_n 0, 1) := by decide +kernel
theorem dX9_add_69 : decode cX9_add 69 = .ok (.getfield 10, 3) := by decide +kernel
theorem dX9_add_72 : decode cX9_add 72 = .ok (.getfield 55, 3) := by decide +kernel
theorem dX9_add_75 : decode cX9_add 75 = .ok (.iload_n 1, 1) := by decide +kernel
theorem dX9_add_76 : decode cX9_add 76 = .ok (.iload_n 2, 1) := by decide +kernel
theorem dX9_add_77 : decode cX9_add 77 = .ok (.iload_n 3, 1) := by decide +kernel
theorem dX9_add_78 : decode cX9_add 78 = .ok (.iload 4, 2) := by decide +kernel
theorem dX9_add_80 : decode cX9_add 80 = .ok (.iload 5, 2) := by decide +kernel
theorem dX9_add_82 : decode cX9_add 82 = .ok (.invokevirtual 87, 3) := by decide +kernel
theorem dX9_add_85 : decode cX9_add 85 = .ok (.ireturn, 1) := by decide +kernel
theorem dX9_add_29 : decode cX9_add 29 = .ok (.new 69, 3) := by decide +kernel
theorem dX9_add_32 : decode cX9_add 32 = .ok (.dup, 1) := by decide +kernel
theorem dX9_add_33 : decode cX9_add 33 = .ok (.ldc 71, 2) := by decide +kernel
theorem dX9_add_35 : decode cX9_add 35 = .ok (.invokespecial 73, 3) := by decide +kernel
theorem dX9_add_38 : decode cX9_add 38 = .ok (.athrow, 1) := by decide +kernel
theorem dX9_setRule_0 : decode cX9_setRule 0 = .ok (.aload_n 0, 1) := by decide +kernel
theorem dX9_setRule_1 : decode cX9_setRule 1 = .ok (.iload_n 1, 1) := by decide +kernel
theorem dX9_setRule_2 : decode cX9_setRule 2 = .ok (.invokevirtual 51, 3) := by decide +kernel
theorem dX9_setRule_5 : decode cX9_setRule 5 = .ok (.iload_n 2, 1) := by decide +kernel
theorem dX9_setRule_6 : decode cX9_setRule 6 = .ok (.ifCond .eq 8, 3) := by decide +kernel
theorem dX9_setRule_14 : decode cX9_setRule 14 = .ok (.iconst 1, 1) := by decide +kernel
theorem dX9_setRule_15 : decode cX9_setRule 15 = .ok (.goto 4, 3) := by decide +kernel
theorem dX9_setRule_19 : decode cX9_setRule 19 = .ok (.istore 4, 2) := by decide +kernel
theorem dX9_setRule_21 : decode cX9_setRule 21 = .ok (.iload_n 2, 1) := by decide +kernel
theorem dX9_setRule_22 : decode cX9_setRule 22 = .ok (.iconst (-1), 1) := by decide +kernel
theorem dX9_setRule_23 : decode cX9_setRule 23 = .ok (.if_icmp .lt 25, 3) := by decide +kernel
theorem dX9_setRule_26 : decode cX9_setRule 26 = .ok (.iload_n 2, 1) := by decide +kernel
theorem dX9_setRule_27 : decode cX9_setRule 27 = .ok (.iconst 2, 1) := by decide +kernel
theorem dX9_setRule_28 : decode cX9_setRule 28 = .ok (.if_icmp .gt 20, 3) := by decide +kernel
theorem dX9_setRule_31 : decode cX9_setRule 31 = .ok (.iload 4, 2) := by decide +kernel
theorem dX9_setRule_33 : decode cX9_setRule 33 = .ok (.ifCond .eq 25, 3) := by decide +kernel
theorem dX9_setRule_36 : decode cX9_setRule 36 = .ok (.iload_n 3, 1) := by decide +kernel
theorem dX9_setRule_37 : decode cX9_setRule 37 = .ok (.iconst 1, 1) := by decide +kernel
theorem dX9_setRule_38 : decode cX9_setRule 38 = .ok (.if_icmp .lt 10, 3) := by decide +kernel
theorem dX9_setRule_48 : decode cX9_setRule 48 = .ok (.new 69, 3) := by decide +kernel
theorem dX9_setRule_51 : decode cX9_setRule 51 = .ok (.dup, 1) := by decide +kernel
theorem dX9_setRule_52 : decode cX9_setRule 52 = .ok (.ldc 166, 2) := by decide +kernel
theorem dX9_setRule_54 : decode cX9_setRule 54 = .ok (.invokespecial 73, 3) := by decide +kernel
theorem dX9_setRule_57 : decode cX9_setRule 57 = .ok (.athrow, 1) := by decide +kernel
theorem dX9_setRule_41 : decode cX9_setRule 41 = .ok (.iload_n 3, 1) := by decide +kernel
theorem dX9_setRule_42 : decode cX9_setRule 42 = .ok (.sipush 5000, 3) := by decide +kernel
theorem dX9_setRule_45 : decode cX9_setRule 45 = .ok (.if_icmp .le 13, 3) := by decide +kernel
theorem dX9_setRule_58 : decode cX9_setRule 58 = .ok (.aload_n 0, 1) := by decide +kernel
theorem dX9_setRule_59 : decode cX9_setRule 59 = .ok (.invokevirtual 84, 3) := by decide +kernel
theorem dX9_setRule_62 : decode cX9_setRule 62 = .ok (.aload_n 0, 1) := by decide +kernel
theorem dX9_setRule_63 : decode cX9_setRule 63 = .ok (.getfield 10, 3) := by decide +kernel
theorem dX9_setRule_66 : decode cX9_setRule 66 = .ok (.getfield 168, 3) := by decide +kernel
theorem dX9_setRule_69 : decode cX9_setRule 69 = .ok (.getfield 172, 3) := by decide +kernel
theorem dX9_setRule_72 : decode cX9_setRule 72 = .ok (.iload_n 1, 1) := by decide +kernel
theorem dX9_setRule_73 : decode cX9_setRule 73 = .ok (.iaload, 1) := by decide +kernel
theorem dX9_setRule_74 : decode cX9_setRule 74 = .ok (.istore 5, 2) := by decide +kernel
theorem dX9_setRule_76 : decode cX9_setRule 76 = .ok (.aload_n 0, 1) := by decide +kernel
theorem dX9_setRule_77 : decode cX9_setRule 77 = .ok (.getfield 10, 3) := by decide +kernel
theorem dX9_setRule_80 : decode cX9_setRule 80 = .ok (.getfield 168, 3) := by decide +kernel
theorem dX9_setRule_83 : decode cX9_setRule 83 = .ok (.getfield 172, 3) := by decide +kernel
theorem dX9_setRule_86 : decode cX9_setRule 86 = .ok (.iload_n 1, 1) := by decide +kernel
theorem dX9_setRule_87 : decode cX9_setRule 87 = .ok (.iload_n 2, 1) := by decide +kernel
theorem dX9_setRule_88 : decode cX9_setRule 88 = .ok (.iastore, 1) := by decide +kernel
theorem dX9_setRule_89 : decode cX9_setRule 89 = .ok (.aload_n 0, 1) := by decide +kernel
theorem dX9_setRule_90 : decode cX9_setRule 90 = .ok (.getfield 10, 3) := by decide +kernel
theorem dX9_setRule_93 : decode cX9_setRule 93 = .ok (.getfield 168, 3) := by decide +kernel
theorem dX9_setRule_96 : decode cX9_setRule 96 = .ok (.getfield 177, 3) := by decide +kernel
theorem dX9_setRule_99 : decode cX9_setRule 99 = .ok (.iload_n 1, 1) := by decide +kernel
theorem dX9_setRule_100 : decode cX9_setRule 100 = .ok (.iload 4, 2) := by decide +kernel
theorem dX9_setRule_102 : decode cX9_setRule 102 = .ok (.ifCond .eq 7, 3) := by decide +kernel
theorem dX9_setRule_105 : decode cX9_setRule 105 = .ok (.iload_n 3, 1) := by decide +kernel
theorem dX9_setRule_106 : decode cX9_setRule 106 = .ok (.goto 4, 3) := by decide +kernel
theorem dX9_setRule_110 : decode cX9_setRule 110 = .ok (.iastore, 1) := by decide +kernel
theorem dX9_setRule_111 : decode cX9_setRule 111 = .ok (.iload 5, 2) := by decide +kernel
theorem dX9_setRule_113 : decode cX9_setRule 113 = .ok (.ireturn, 1) := by decide +kernel
theorem dX9_setRule_9 : decode cX9_setRule 9 = .ok (.iload_n 2, 1) := by decide +kernel
theorem dX9_setRule_10 : decode cX9_setRule 10 = .ok (.iconst 1, 1) := by decide +kernel
theorem dX9_setRule_11 : decode cX9_setRule 11 = .ok (.if_icmp .ne 7, 3) := by decide +kernel
theorem dX9_setRule_18 : decode cX9_setRule 18 = .ok (.iconst 0, 1) := by decide +kernel
theorem dX9_setRule_109 : decode cX9_setRule 109 = .ok (.iconst 0, 1) := by decide +kernel
theorem dX9_setPage_0 : decode cX9_setPage 0 = .ok (.aload_n 0, 1) := by decide +kernel
theorem dX9_setPage_1 : decode cX9_setPage 1 = .ok (.iload_n 1, 1) := by decide +kernel
theorem dX9_setPage_2 : decode cX9_setPage 2 = .ok (.invokevirtual 51, 3) := by decide +kernel
theorem dX9_setPage_5 : decode cX9_setPage 5 = .ok (.iload_n 2, 1) := by decide +kernel
theorem dX9_setPage_6 : decode cX9_setPage 6 = .ok (.ifCond .lt 19, 3) := by decide +kernel
theorem dX9_setPage_25 : decode cX9_setPage 25 = .ok (.new 161, 3) := by decide +kernel
theorem dX9_setPage_28 : decode cX9_setPage 28 = .ok (.dup, 1) := by decide +kernel
theorem dX9_setPage_29 : decode cX9_setPage 29 = .ok (.ldc 180, 2) := by decide +kernel
theorem dX9_setPage_31 : decode cX9_setPage 31 = .ok (.invokespecial 165, 3) := by decide +kernel
theorem dX9_setPage_34 : decode cX9_setPage 34 = .ok (.athrow, 1) := by decide +kernel
theorem dX9_setPage_9 : decode cX9_setPage 9 = .ok (.iload_n 2, 1) := by decide +kernel
theorem dX9_setPage_10 : decode cX9_setPage 10 = .ok (.aload_n 0, 1) := by decide +kernel
theorem dX9_setPage_11 : decode cX9_setPage 11 = .ok (.getfield 10, 3) := by decide +kernel
theorem dX9_setPage_14 : decode cX9_setPage 14 = .ok (.getfield 55, 3) := by decide +kernel
theorem dX9_setPage_17 : decode cX9_setPage 17 = .ok (.getfield 115, 3) := by decide +kernel
theorem dX9_setPage_20 : decode cX9_setPage 20 = .ok (.iload_n 1, 1) := by decide +kernel
theorem dX9_setPage_21 : decode cX9_setPage 21 = .ok (.iaload, 1) := by decide +kernel
theorem dX9_setPage_22 : decode cX9_setPage 22 = .ok (.if_icmp .lt 13, 3) := by decide +kernel
theorem dX9_addContainer_0 : decode cX9_addContainer 0 = .ok (.iload_n 1, 1) := by decide +kernel
theorem dX9_addContainer_1 : decode cX9_addContainer 1 = .ok (.invokestatic 215, 3) := by decide +kernel
theorem dX9_addContainer_4 : decode cX9_addContainer 4 = .ok (.aload_n 0, 1) := by decide +kernel
theorem dX9_addContainer_5 : decode cX9_addContainer 5 = .ok (.getfield 10, 3) := by decide +kernel
theorem dX9_addContainer_8 : decode cX9_addContainer 8 = .ok (.getfield 136, 3) := by decide +kernel
theorem dX9_addContainer_11 : decode cX9_addContainer 11 = .ok (.invokevirtual 218, 3) := by decide +kernel
theorem dX9_addContainer_14 : decode cX9_addContainer 14 = .ok (.ifCond .ne 13, 3) := by decide +kernel
theorem dX9_addContainer_27 : decode cX9_addContainer 27 = .ok (.aload_n 0, 1) := by decide +kernel
theorem dX9_addContainer_28 : decode cX9_addContainer 28 = .ok (.invokevirtual 84, 3) := by decide +kernel
theorem dX9_addContainer_31 : decode cX9_addContainer 31 = .ok (.aload_n 0, 1) := by decide +kernel
theorem dX9_addContainer_32 : decode cX9_addContainer 32 = .ok (.getfield 10, 3) := by decide +kernel
theorem dX9_addContainer_35 : decode cX9_addContainer 35 = .ok (.getfield 136, 3) := by decide +kernel
theorem dX9_addContainer_38 : decode cX9_addContainer 38 = .ok (.iload_n 1, 1) := by decide +kernel
theorem dX9_addContainer_39 : decode cX9_addContainer 39 = .ok (.invokevirtual 224, 3) := by decide +kernel
theorem dX9_addContainer_42 : decode cX9_addContainer 42 = .ok (.ireturn, 1) := by decide +kernel
theorem dX9_setSeats_0 : decode cX9_setSeats 0 = .ok (.iload_n 1, 1) := by decide +kernel
theorem dX9_setSeats_1 : decode cX9_setSeats 1 = .ok (.iconst 1, 1) := by decide +kernel
theorem dX9_setSeats_2 : decode cX9_setSeats 2 = .ok (.if_icmp .lt 9, 3) := by decide +kernel
theorem dX9_setSeats_11 : decode cX9_setSeats 11 = .ok (.new 69, 3) := by decide +kernel
theorem dX9_setSeats_14 : decode cX9_setSeats 14 = .ok (.dup, 1) := by decide +kernel
theorem dX9_setSeats_15 : decode cX9_setSeats 15 = .ok (.ldc_w 323, 3) := by decide +kernel
theorem dX9_setSeats_18 : decode cX9_setSeats 18 = .ok (.invokespecial 73, 3) := by decide +kernel
theorem dX9_setSeats_21 : decode cX9_setSeats 21 = .ok (.athrow, 1) := by decide +kernel
theorem dX9_setSeats_5 : decode cX9_setSeats 5 = .ok (.iload_n 1, 1) := by decide +kernel
theorem dX9_setSeats_6 : decode cX9_setSeats 6 = .ok (.bipush 6, 2) := by decide +kernel
theorem dX9_setSeats_8 : decode cX9_setSeats 8 = .ok (.if_icmp .le 14, 3) := by decide +kernel
theorem dX9_setSeats_22 : decode cX9_setSeats 22 = .ok (.aload_n 0, 1) := by decide +kernel
theorem dX9_setSeats_23 : decode cX9_setSeats 23 = .ok (.invokevirtual 84, 3) := by decide +kernel
theorem dX9_setSeats_26 : decode cX9_setSeats 26 = .ok (.aload_n 0, 1) := by decide +kernel
theorem dX9_setSeats_27 : decode cX9_setSeats 27 = .ok (.getfield 10, 3) := by decide +kernel
theorem dX9_setSeats_30 : decode cX9_setSeats 30 = .ok (.getfield 325, 3) := by decide +kernel
theorem dX9_setSeats_33 : decode cX9_setSeats 33 = .ok (.istore_n 2, 1) := by decide +kernel
theorem dX9_setSeats_34 : decode cX9_setSeats 34 = .ok (.aload_n 0, 1) := by decide +kernel
theorem dX9_setSeats_35 : decode cX9_setSeats 35 = .ok (.getfield 10, 3) := by decide +kernel
theorem dX9_setSeats_38 : decode cX9_setSeats 38 = .ok (.iload_n 1, 1) := by decide +kernel
theorem dX9_setSeats_39 : decode cX9_setSeats 39 = .ok (.putfield 325, 3) := by decide +kernel
theorem dX9_setSeats_42 : decode cX9_setSeats 42 = .ok (.iload_n 2, 1) := by decide +kernel
theorem dX9_setSeats_43 : decode cX9_setSeats 43 = .ok (.ireturn, 1) := by decide +kernel
theorem dX9_review_0 : decode cX9_review 0 = .ok (.aload_n 0, 1) := by decide +kernel
theorem dX9_review_1 : decode cX9_review 1 = .ok (.invokevirtual 84, 3) := by decide +kernel
theorem dX9_review_4 : decode cX9_review 4 = .ok (.aload_n 0, 1) := by decide +kernel
theorem dX9_review_5 : decode cX9_review 5 = .ok (.getfield 10, 3) := by decide +kernel
theorem dX9_review_8 : decode cX9_review 8 = .ok (.getfield 314, 3) := by decide +kernel
theorem dX9_review_11 : decode cX9_review 11 = .ok (.getfield 330, 3) := by decide +kernel
theorem dX9_review_14 : decode cX9_review 14 = .ok (.istore_n 1, 1) := by decide +kernel
theorem dX9_review_15 : decode cX9_review 15 = .ok (.iload_n 1, 1) := by decide +kernel
theorem dX9_review_16 : decode cX9_review 16 = .ok (.iconst 1, 1) := by decide +kernel
theorem dX9_review_17 : decode cX9_review 17 = .ok (.isub, 1) := by decide +kernel
theorem dX9_review_18 : decode cX9_review 18 = .ok (.istore_n 2, 1) := by decide +kernel
theorem dX9_review_19 : decode cX9_review 19 = .ok (.iload_n 2, 1) := by decide +kernel
theorem dX9_review_20 : decode cX9_review 20 = .ok (.ifCond .lt 31, 3) := by decide +kernel
theorem dX9_review_51 : decode cX9_review 51 = .ok (.iload_n 1, 1) := by decide +kernel
theorem dX9_review_52 : decode cX9_review 52 = .ok (.aload_n 0, 1) := by decide +kernel
theorem dX9_review_53 : decode cX9_review 53 = .ok (.getfield 10, 3) := by decide +kernel
theorem dX9_review_56 : decode cX9_review 56 = .ok (.getfield 314, 3) := by decide +kernel
theorem dX9_review_59 : decode cX9_review 59 = .ok (.getfield 330, 3) := by decide +kernel
theorem dX9_review_62 : decode cX9_review 62 = .ok (.isub, 1) := by decide +kernel
theorem dX9_review_63 : decode cX9_review 63 = .ok (.ireturn, 1) := by decide +kernel
theorem dX9_save_0 : decode cX9_save 0 = .ok (.aload_n 0, 1) := by decide +kernel
theorem dX9_save_1 : decode cX9_save 1 = .ok (.getfield 27, 3) := by decide +kernel
theorem dX9_save_4 : decode cX9_save 4 = .ok (.ifnonnull 14, 3) := by decide +kernel
theorem dX9_save_7 : decode cX9_save 7 = .ok (.aload_n 0, 1) := by decide +kernel
theorem dX9_save_8 : decode cX9_save 8 = .ok (.new 7, 3) := by decide +kernel
theorem dX9_save_11 : decode cX9_save 11 = .ok (.dup, 1) := by decide +kernel
theorem dX9_save_12 : decode cX9_save 12 = .ok (.invokespecial 9, 3) := by decide +kernel
theorem dX9_save_15 : decode cX9_save 15 = .ok (.putfield 27, 3) := by decide +kernel
theorem dX9_save_18 : decode cX9_save 18 = .ok (.aload_n 0, 1) := by decide +kernel
theorem dX9_save_19 : decode cX9_save 19 = .ok (.getfield 27, 3) := by decide +kernel
theorem dX9_save_22 : decode cX9_save 22 = .ok (.aload_n 0, 1) := by decide +kernel
theorem dX9_save_23 : decode cX9_save 23 = .ok (.getfield 10, 3) := by decide +kernel
theorem dX9_save_26 : decode cX9_save 26 = .ok (.invokevirtual 482, 3) := by decide +kernel
theorem dX9_save_29 : decode cX9_save 29 = .ok (.aload_n 0, 1) := by decide +kernel
theorem dX9_save_30 : decode cX9_save 30 = .ok (.getfield 10, 3) := by decide +kernel
theorem dX9_save_33 : decode cX9_save 33 = .ok (.getfield 55, 3) := by decide +kernel
theorem dX9_save_36 : decode cX9_save 36 = .ok (.getfield 383, 3) := by decide +kernel
theorem dX9_save_39 : decode cX9_save 39 = .ok (.ireturn, 1) := by decide +kernel
theorem fl_5000 : (5000 : Int32).toInt = 5000 := by decide
theorem fq_82 (x0 x1 x2 x3 : Int32) (h0 : ((1 ≤ x0 ∧ x0 ≤ 3) ∧ 0 ≤ x1 ∧ ((x0 = 1 ∧ x1 ≤ 0) ∨ (¬ (x0 = 1) ∧ x1 ≤ 20)) ∧ (x2 = (-1) ∨ ((0 ≤ x2 ∧ x2 ≤ 9999) ∧ (0 ≤ x3 ∧ x3 ≤ 9999) ∧ x2 ≤ x3)))) : ((0 : Int32) = 0 ∧ ((1 ≤ x0 ∧ x0 ≤ 3) ∧ 0 ≤ x1 ∧ ((x0 = 1 ∧ x1 ≤ 0) ∨ (¬ (x0 = 1) ∧ x1 ≤ 20)) ∧ (x2 = (-1) ∨ ((0 ≤ x2 ∧ x2 ≤ 9999) ∧ (0 ≤ x3 ∧ x3 ≤ 9999) ∧ x2 ≤ x3)))) := by first | decide | (simp only [fz_lt, fz_le, fz_eq, true_and, and_true, false_and, and_false, true_or, or_true, false_or, or_false, not_true_eq_false, not_false_eq_true, fl_m1, fl_0, fl_1, fl_2, fl_3, fl_4, fl_5, fl_6, fl_7, fl_8, fl_9, fl_10, fl_11, fl_20, fl_200, fl_5000, fl_9999] at *; omega) | (simp only [fz_lt, fz_le, fz_eq, true_and, and_true, false_and, and_false, true_or, or_true, false_or, or_false, not_true_eq_false, not_false_eq_true, fl_m1, fl_0, fl_1, fl_2, fl_3, fl_4, fl_5, fl_6, fl_7, fl_8, fl_9, fl_10, fl_11, fl_20, fl_200, fl_5000, fl_9999] at *; done) | omega
theorem fq_83 (x0 x1 x2 x3 : Int32) (h0 : ¬ (((1 ≤ x0 ∧ x0 ≤ 3) ∧ 0 ≤ x1 ∧ ((x0 = 1 ∧ x1 ≤ 0) ∨ (¬ (x0 = 1) ∧ x1 ≤ 20)) ∧ (x2 = (-1) ∨ ((0 ≤ x2 ∧ x2 ≤ 9999) ∧ (0 ≤ x3 ∧ x3 ≤ 9999) ∧ x2 ≤ x3))))) : ((0 : Int32) = 0 ∧ ¬ (((1 ≤ x0 ∧ x0 ≤ 3) ∧ 0 ≤ x1 ∧ ((x0 = 1 ∧ x1 ≤ 0) ∨ (¬ (x0 = 1) ∧ x1 ≤ 20)) ∧ (x2 = (-1) ∨ ((0 ≤ x2 ∧ x2 ≤ 9999) ∧ (0 ≤ x3 ∧ x3 ≤ 9999) ∧ x2 ≤ x3))))) := by first | decide | (simp only [fz_lt, fz_le, fz_eq, true_and, and_true, false_and, and_false, true_or, or_true, false_or, or_false, not_true_eq_false, not_false_eq_true, fl_m1, fl_0, fl_1, fl_2, fl_3, fl_4, fl_5, fl_6, fl_7, fl_8, fl_9, fl_10, fl_11, fl_20, fl_200, fl_5000, fl_9999] at *; omega) | (simp only [fz_lt, fz_le, fz_eq, true_and, and_true, false_and, and_false, true_or, or_true, false_or, or_false, not_true_eq_false, not_false_eq_true, fl_m1, fl_0, fl_1, fl_2, fl_3, fl_4, fl_5, fl_6, fl_7, fl_8, fl_9, fl_10, fl_11, fl_20, fl_200, fl_5000, fl_9999] at *; done) | omega
theorem fq_84 (x0 : Int32) (h0 : x0 < 1) : ((0 : Int32) = 0 ∧ ¬ (((0 : Int32) = (-1) ∨ (0 : Int32) = 2 ∨ (((0 : Int32) ≤ 0 ∧ (0 : Int32) ≤ 1) ∧ (1 ≤ x0 ∧ x0 ≤ 5000))))) := by first | decide | (simp only [fz_lt, fz_le, fz_eq, true_and, and_true, false_and, and_false, true_or, or_true, false_or, or_false, not_true_eq_false, not_false_eq_true, fl_m1, fl_0, fl_1, fl_2, fl_3, fl_4, fl_5, fl_6, fl_7, fl_8, fl_9, fl_10, fl_11, fl_20, fl_200, fl_5000, fl_9999] at *; omega) | (simp only [fz_lt, fz_le, fz_eq, true_and, and_true, false_and, and_false, true_or, or_true, false_or, or_false, not_true_eq_false, not_false_eq_true, fl_m1, fl_0, fl_1, fl_2, fl_3, fl_4, fl_5, fl_6, fl_7, fl_8, fl_9, fl_10, fl_11, fl_20, fl_200, fl_5000, fl_9999] at *; done) | omega
theorem fq_85 (x0 : Int32) (h0 : ¬ (x0 < 1)) (h1 : x0 ≤ 5000) : ((0 : Int32) = 0 ∧ ((0 : Int32) = (-1) ∨ (0 : Int32) = 2 ∨ (((0 : Int32) ≤ 0 ∧ (0 : Int32) ≤ 1) ∧ (1 ≤ x0 ∧ x0 ≤ 5000)))) := by first | decide | (simp only [fz_lt, fz_le, fz_eq, true_and, and_true, false_and, and_false, true_or, or_true, false_or, or_false, not_true_eq_false, not_false_eq_true, fl_m1, fl_0, fl_1, fl_2, fl_3, fl_4, fl_5, fl_6, fl_7, fl_8, fl_9, fl_10, fl_11, fl_20, fl_200, fl_5000, fl_9999] at *; omega) | (simp only [fz_lt, fz_le, fz_eq, true_and, and_true, false_and, and_false, true_or, or_true, false_or, or_false, not_true_eq_false, not_false_eq_true, fl_m1, fl_0, fl_1, fl_2, fl_3, fl_4, fl_5, fl_6, fl_7, fl_8, fl_9, fl_10, fl_11, fl_20, fl_200, fl_5000, fl_9999] at *; done) | omega
theorem fq_86 (x0 : Int32) (h0 : ¬ (x0 ≤ 5000)) : ((0 : Int32) = 0 ∧ ¬ (((0 : Int32) = (-1) ∨ (0 : Int32) = 2 ∨ (((0 : Int32) ≤ 0 ∧ (0 : Int32) ≤ 1) ∧ (1 ≤ x0 ∧ x0 ≤ 5000))))) := by first | decide | (simp only [fz_lt, fz_le, fz_eq, true_and, and_true, false_and, and_false, true_or, or_true, false_or, or_false, not_true_eq_false, not_false_eq_true, fl_m1, fl_0, fl_1, fl_2, fl_3, fl_4, fl_5, fl_6, fl_7, fl_8, fl_9, fl_10, fl_11, fl_20, fl_200, fl_5000, fl_9999] at *; omega) | (simp only [fz_lt, fz_le, fz_eq, true_and, and_true, false_and, and_false, true_or, or_true, false_or, or_false, not_true_eq_false, not_false_eq_true, fl_m1, fl_0, fl_1, fl_2, fl_3, fl_4, fl_5, fl_6, fl_7, fl_8, fl_9, fl_10, fl_11, fl_20, fl_200, fl_5000, fl_9999] at *; done) | omega
theorem fq_87 (x0 x1 : Int32) (h0 : x0 < (-1)) : ((0 : Int32) = 0 ∧ ¬ ((x0 = (-1) ∨ x0 = 2 ∨ ((0 ≤ x0 ∧ x0 ≤ 1) ∧ (1 ≤ x1 ∧ x1 ≤ 5000))))) := by first | decide | (simp only [fz_lt, fz_le, fz_eq, true_and, and_true, false_and, and_false, true_or, or_true, false_or, or_false, not_true_eq_false, not_false_eq_true, fl_m1, fl_0, fl_1, fl_2, fl_3, fl_4, fl_5, fl_6, fl_7, fl_8, fl_9, fl_10, fl_11, fl_20, fl_200, fl_5000, fl_9999] at *; omega) | (simp only [fz_lt, fz_le, fz_eq, true_and, and_true, false_and, and_false, true_or, or_true, false_or, or_false, not_true_eq_false, not_false_eq_true, fl_m1, fl_0, fl_1, fl_2, fl_3, fl_4, fl_5, fl_6, fl_7, fl_8, fl_9, fl_10, fl_11, fl_20, fl_200, fl_5000, fl_9999] at *; done) | omega
theorem fq_88 (x0 x1 : Int32) (h0 : 2 < x0) : ((0 : Int32) = 0 ∧ ¬ ((x0 = (-1) ∨ x0 = 2 ∨ ((0 ≤ x0 ∧ x0 ≤ 1) ∧ (1 ≤ x1 ∧ x1 ≤ 5000))))) := by first | decide | (simp only [fz_lt, fz_le, fz_eq, true_and, and_true, false_and, and_false, true_or, or_true, false_or, or_false, not_true_eq_false, not_false_eq_true, fl_m1, fl_0, fl_1, fl_2, fl_3, fl_4, fl_5, fl_6, fl_7, fl_8, fl_9, fl_10, fl_11, fl_20, fl_200, fl_5000, fl_9999] at *; omega) | (simp only [fz_lt, fz_le, fz_eq, true_and, and_true, false_and, and_false, true_or, or_true, false_or, or_false, not_true_eq_false, not_false_eq_true, fl_m1, fl_0, fl_1, fl_2, fl_3, fl_4, fl_5, fl_6, fl_7, fl_8, fl_9, fl_10, fl_11, fl_20, fl_200, fl_5000, fl_9999] at *; done) | omega
theorem fq_89 (x0 x1 : Int32) (h0 : ¬ (x0 = 0)) (h1 : ¬ (x0 = 1)) (h2 : ¬ (x0 < (-1))) (h3 : ¬ (2 < x0)) : ((0 : Int32) = 0 ∧ (x0 = (-1) ∨ x0 = 2 ∨ ((0 ≤ x0 ∧ x0 ≤ 1) ∧ (1 ≤ x1 ∧ x1 ≤ 5000)))) := by first | decide | (simp only [fz_lt, fz_le, fz_eq, true_and, and_true, false_and, and_false, true_or, or_true, false_or, or_false, not_true_eq_false, not_false_eq_true, fl_m1, fl_0, fl_1, fl_2, fl_3, fl_4, fl_5, fl_6, fl_7, fl_8, fl_9, fl_10, fl_11, fl_20, fl_200, fl_5000, fl_9999] at *; omega) | (simp only [fz_lt, fz_le, fz_eq, true_and, and_true, false_and, and_false, true_or, or_true, false_or, or_false, not_true_eq_false, not_false_eq_true, fl_m1, fl_0, fl_1, fl_2, fl_3, fl_4, fl_5, fl_6, fl_7, fl_8, fl_9, fl_10, fl_11, fl_20, fl_200, fl_5000, fl_9999] at *; done) | omega
theorem fq_90 (x0 : Int32) (h0 : x0 < 1) : ((0 : Int32) = 0 ∧ ¬ (((1 : Int32) = (-1) ∨ (1 : Int32) = 2 ∨ (((0 : Int32) ≤ 1 ∧ (1 : Int32) ≤ 1) ∧ (1 ≤ x0 ∧ x0 ≤ 5000))))) := by first | decide | (simp only [fz_lt, fz_le, fz_eq, true_and, and_true, false_and, and_false, true_or, or_true, false_or, or_false, not_true_eq_false, not_false_eq_true, fl_m1, fl_0, fl_1, fl_2, fl_3, fl_4, fl_5, fl_6, fl_7, fl_8, fl_9, fl_10, fl_11, fl_20, fl_200, fl_5000, fl_9999] at *; omega) | (simp only [fz_lt, fz_le, fz_eq, true_and, and_true, false_and, and_false, true_or, or_true, false_or, or_false, not_true_eq_false, not_false_eq_true, fl_m1, fl_0, fl_1, fl_2, fl_3, fl_4, fl_5, fl_6, fl_7, fl_8, fl_9, fl_10, fl_11, fl_20, fl_200, fl_5000, fl_9999] at *; done) | omega
theorem fq_91 (x0 : Int32) (h0 : ¬ (x0 < 1)) (h1 : x0 ≤ 5000) : ((0 : Int32) = 0 ∧ ((1 : Int32) = (-1) ∨ (1 : Int32) = 2 ∨ (((0 : Int32) ≤ 1 ∧ (1 : Int32) ≤ 1) ∧ (1 ≤ x0 ∧ x0 ≤ 5000)))) := by first | decide | (simp only [fz_lt, fz_le, fz_eq, true_and, and_true, false_and, and_false, true_or, or_true, false_or, or_false, not_true_eq_false, not_false_eq_true, fl_m1, fl_0, fl_1, fl_2, fl_3, fl_4, fl_5, fl_6, fl_7, fl_8, fl_9, fl_10, fl_11, fl_20, fl_200, fl_5000, fl_9999] at *; omega) | (simp only [fz_lt, fz_le, fz_eq, true_and, and_true, false_and, and_false, true_or, or_true, false_or, or_false, not_true_eq_false, not_false_eq_true, fl_m1, fl_0, fl_1, fl_2, fl_3, fl_4, fl_5, fl_6, fl_7, fl_8, fl_9, fl_10, fl_11, fl_20, fl_200, fl_5000, fl_9999] at *; done) | omega
theorem fq_92 (x0 : Int32) (h0 : ¬ (x0 ≤ 5000)) : ((0 : Int32) = 0 ∧ ¬ (((1 : Int32) = (-1) ∨ (1 : Int32) = 2 ∨ (((0 : Int32) ≤ 1 ∧ (1 : Int32) ≤ 1) ∧ (1 ≤ x0 ∧ x0 ≤ 5000))))) := by first | decide | (simp only [fz_lt, fz_le, fz_eq, true_and, and_true, false_and, and_false, true_or, or_true, false_or, or_false, not_true_eq_false, not_false_eq_true, fl_m1, fl_0, fl_1, fl_2, fl_3, fl_4, fl_5, fl_6, fl_7, fl_8, fl_9, fl_10, fl_11, fl_20, fl_200, fl_5000, fl_9999] at *; omega) | (simp only [fz_lt, fz_le, fz_eq, true_and, and_true, false_and, and_false, true_or, or_true, false_or, or_false, not_true_eq_false, not_false_eq_true, fl_m1, fl_0, fl_1, fl_2, fl_3, fl_4, fl_5, fl_6, fl_7, fl_8, fl_9, fl_10, fl_11, fl_20, fl_200, fl_5000, fl_9999] at *; done) | omega
theorem fq_93 (x0 : Int32) (h0 : ¬ ((1 ≤ x0 ∧ x0 ≤ 200))) : ¬ ((1 ≤ x0 ∧ x0 ≤ 200)) := by first | decide | (simp only [fz_lt, fz_le, fz_eq, true_and, and_true, false_and, and_false, true_or, or_true, false_or, or_false, not_true_eq_false, not_false_eq_true, fl_m1, fl_0, fl_1, fl_2, fl_3, fl_4, fl_5, fl_6, fl_7, fl_8, fl_9, fl_10, fl_11, fl_20, fl_200, fl_5000, fl_9999] at *; omega) | (simp only [fz_lt, fz_le, fz_eq, true_and, and_true, false_and, and_false, true_or, or_true, false_or, or_false, not_true_eq_false, not_false_eq_true, fl_m1, fl_0, fl_1, fl_2, fl_3, fl_4, fl_5, fl_6, fl_7, fl_8, fl_9, fl_10, fl_11, fl_20, fl_200, fl_5000, fl_9999] at *; done) | omega
theorem fq_94 (x0 : Int32) (h0 : (1 ≤ x0 ∧ x0 ≤ 200)) : (1 ≤ x0 ∧ x0 ≤ 200) := by first | decide | (simp only [fz_lt, fz_le, fz_eq, true_and, and_true, false_and, and_false, true_or, or_true, false_or, or_false, not_true_eq_false, not_false_eq_true, fl_m1, fl_0, fl_1, fl_2, fl_3, fl_4, fl_5, fl_6, fl_7, fl_8, fl_9, fl_10, fl_11, fl_20, fl_200, fl_5000, fl_9999] at *; omega) | (simp only [fz_lt, fz_le, fz_eq, true_and, and_true, false_and, and_false, true_or, or_true, false_or, or_false, not_true_eq_false, not_false_eq_true, fl_m1, fl_0, fl_1, fl_2, fl_3, fl_4, fl_5, fl_6, fl_7, fl_8, fl_9, fl_10, fl_11, fl_20, fl_200, fl_5000, fl_9999] at *; done) | omega
theorem fq_95 (x0 : Int32) (h0 : x0 < 1) : ¬ ((1 ≤ x0 ∧ x0 ≤ 6)) := by first | decide | (simp only [fz_lt, fz_le, fz_eq, true_and, and_true, false_and, and_false, true_or, or_true, false_or, or_false, not_true_eq_false, not_false_eq_true, fl_m1, fl_0, fl_1, fl_2, fl_3, fl_4, fl_5, fl_6, fl_7, fl_8, fl_9, fl_10, fl_11, fl_20, fl_200, fl_5000, fl_9999] at *; omega) | (simp only [fz_lt, fz_le, fz_eq, true_and, and_true, false_and, and_false, true_or, or_true, false_or, or_false, not_true_eq_false, not_false_eq_true, fl_m1, fl_0, fl_1, fl_2, fl_3, fl_4, fl_5, fl_6, fl_7, fl_8, fl_9, fl_10, fl_11, fl_20, fl_200, fl_5000, fl_9999] at *; done) | omega
theorem fq_96 (x0 : Int32) (h0 : ¬ (x0 < 1)) (h1 : x0 ≤ 6) : (1 ≤ x0 ∧ x0 ≤ 6) := by first | decide | (simp only [fz_lt, fz_le, fz_eq, true_and, and_true, false_and, and_false, true_or, or_true, false_or, or_false, not_true_eq_false, not_false_eq_true, fl_m1, fl_0, fl_1, fl_2, fl_3, fl_4, fl_5, fl_6, fl_7, fl_8, fl_9, fl_10, fl_11, fl_20, fl_200, fl_5000, fl_9999] at *; omega) | (simp only [fz_lt, fz_le, fz_eq, true_and, and_true, false_and, and_false, true_or, or_true, false_or, or_false, not_true_eq_false, not_false_eq_true, fl_m1, fl_0, fl_1, fl_2, fl_3, fl_4, fl_5, fl_6, fl_7, fl_8, fl_9, fl_10, fl_11, fl_20, fl_200, fl_5000, fl_9999] at *; done) | omega
theorem fq_97 (x0 : Int32) (h0 : ¬ (x0 ≤ 6)) : ¬ ((1 ≤ x0 ∧ x0 ≤ 6)) := by first | decide | (simp only [fz_lt, fz_le, fz_eq, true_and, and_true, false_and, and_false, true_or, or_true, false_or, or_false, not_true_eq_false, not_false_eq_true, fl_m1, fl_0, fl_1, fl_2, fl_3, fl_4, fl_5, fl_6, fl_7, fl_8, fl_9, fl_10, fl_11, fl_20, fl_200, fl_5000, fl_9999] at *; omega) | (simp only [fz_lt, fz_le, fz_eq, true_and, and_true, false_and, and_false, true_or, or_true, false_or, or_false, not_true_eq_false, not_false_eq_true, fl_m1, fl_0, fl_1, fl_2, fl_3, fl_4, fl_5, fl_6, fl_7, fl_8, fl_9, fl_10, fl_11, fl_20, fl_200, fl_5000, fl_9999] at *; done) | omega

theorem fin_J4 : ∀ w ∈ u_ws RJ4 TJ4 4, w ∈ fz_WA := fun w h => have h2 := (by decide +kernel : ∀ w ∈ u_ws RJ4 TJ4 4, w ∈ lw_tbl ∧ goodWord w = true) w h; fz_in h2.1 h2.2
theorem fin_X0 : ∀ w ∈ u_ws RX0 TX0 9, w ∈ fz_WA := fun w h => have h2 := (by decide +kernel : ∀ w ∈ u_ws RX0 TX0 9, w ∈ lw_tbl ∧ goodWord w = true) w h; fz_in h2.1 h2.2
theorem fin_X1 : ∀ w ∈ u_ws RX1 TX1 3, w ∈ fz_WA := fun w h => have h2 := (by decide +kernel : ∀ w ∈ u_ws RX1 TX1 3, w ∈ lw_tbl ∧ goodWord w = true) w h; fz_in h2.1 h2.2
theorem fin_X2 : ∀ w ∈ u_ws RX2 TX2 9, w ∈ fz_WA := fun w h => have h2 := (by decide +kernel : ∀ w ∈ u_ws RX2 TX2 9, w ∈ lw_tbl ∧ goodWord w = true) w h; fz_in h2.1 h2.2
theorem fin_X3 : ∀ w ∈ u_ws RX3 TX3 3, w ∈ fz_WA := fun w h => have h2 := (by decide +kernel : ∀ w ∈ u_ws RX3 TX3 3, w ∈ lw_tbl ∧ goodWord w = true) w h; fz_in h2.1 h2.2
theorem fin_X4 : ∀ w ∈ u_ws RX4 TX4 3, w ∈ fz_WA := fun w h => have h2 := (by decide +kernel : ∀ w ∈ u_ws RX4 TX4 3, w ∈ lw_tbl ∧ goodWord w = true) w h; fz_in h2.1 h2.2
theorem fin_X5 : ∀ w ∈ u_ws RX5 TX5 5, w ∈ fz_WA := fun w h => have h2 := (by decide +kernel : ∀ w ∈ u_ws RX5 TX5 5, w ∈ lw_tbl ∧ goodWord w = true) w h; fz_in h2.1 h2.2
theorem fin_X6 : ∀ w ∈ u_ws RX6 TX6 3, w ∈ fz_WA := fun w h => have h2 := (by decide +kernel : ∀ w ∈ u_ws RX6 TX6 3, w ∈ lw_tbl ∧ goodWord w = true) w h; fz_in h2.1 h2.2
theorem fin_X7 : ∀ w ∈ u_ws RX7 TX7 6, w ∈ fz_WA := fun w h => have h2 := (by decide +kernel : ∀ w ∈ u_ws RX7 TX7 6, w ∈ lw_tbl ∧ goodWord w = true) w h; fz_in h2.1 h2.2
theorem fin_X8 : ∀ w ∈ u_ws RX8 TX8 10, w ∈ fz_WA := fun w h => have h2 := (by decide +kernel : ∀ w ∈ u_ws RX8 TX8 10, w ∈ lw_tbl ∧ goodWord w = true) w h; fz_in h2.1 h2.2
theorem fin_X9 : ∀ w ∈ u_ws RX9 TX9 8, w ∈ fz_WA := fun w h => have h2 := (by decide +kernel : ∀ w ∈ u_ws RX9 TX9 8, w ∈ lw_tbl ∧ goodWord w = true) w h; fz_in h2.1 h2.2
theorem fin_X10 : ∀ w ∈ u_ws RX10 TX10 22, w ∈ fz_WA := fun w h => have h2 := (by decide +kernel : ∀ w ∈ u_ws RX10 TX10 22, w ∈ lw_tbl ∧ goodWord w = true) w h; fz_in h2.1 h2.2
def fz_tys (k : Nat → ClassId) : List (ClassId × FieldType) := [(k 0, .int), (k 1, .char), (k 2, .byte), (k 3, .object "FindingAid$State"), (k 4, .array .int), (k 5, .long), (k 6, .double)]
def fz_WS (k : Nat → ClassId) (q : Nat → Nat) (f : Nat → Nat → Int32) (pa : Nat → Option Nat) (v : Nat → Int32) : va_W := [(q 0, .inr (11, [.ref (q 1), .ref (q 10), .ref (q 14), .ref (q 23), .ref (q 26), .int (v 0)])), (q 1, .inr (12, [.int (v 1), .int (v 2), .ref (q 2), .ref (q 3), .ref (q 4), .ref (q 5), .ref (q 6), .ref (q 7), .ref (q 8), .ref (q 9)])), (q 2, .inl (k 0, 40, .inl (f 2))), (q 3, .inl (k 0, 40, .inl (f 3))), (q 4, .inl (k 0, 40, .inl (f 4))), (q 5, .inl (k 0, 40, .inl (f 5))), (q 6, .inl (k 0, 40, .inl (f 6))), (q 7, .inl (k 0, 40, .inl (f 7))), (q 8, .inl (k 0, 40, .inl (f 8))), (q 9, .inl (k 0, 40, .inl (f 9))), (q 10, .inr (10, [.ref (q 11), .ref (q 12), .ref (q 13)])), (q 11, .inl (k 0, 40, .inl (f 11))), (q 12, .inl (k 0, 40, .inl (f 12))), (q 13, .inl (k 0, 800, .inl (f 13))), (q 14, .inr (4, [.int (v 3), .int (v 4), .int (v 5), .ref (q 15), .ref (q 16), .ref (q 17), .ref (q 18), .ref (q 19), .ref (q 20)])), (q 15, .inl (k 0, 30, .inl (f 15))), (q 16, .inl (k 0, 30, .inl (f 16))), (q 17, .inl (k 0, 40, .inl (f 17))), (q 18, .inl (k 0, 40, .inl (f 18))), (q 19, .inl (k 0, 40, .inl (f 19))), (q 20, .inr (7, [.int (v 6), .ref (q 21), .ref (q 22)])), (q 21, .inl (k 0, 64, .inl (f 21))), (q 22, .inl (k 0, 64, .inl (f 22))), (q 23, .inr (5, [.int (v 7), .ref (q 24), .ref (q 25)])), (q 24, .inl (k 0, 16, .inl (f 24))), (q 25, .inl (k 0, 16, .inl (f 25))), (q 26, .inr (9, [.int (v 8), .ref (q 27), .ref (q 28), .ref (q 29), .ref (q 30)])), (q 27, .inl (k 0, 30, .inl (f 27))), (q 28, .inl (k 0, 30, .inl (f 28))), (q 29, .inl (k 0, 30, .inl (f 29))), (q 30, .inl (k 0, 30, .inl (f 30)))]
def fz_WC (k : Nat → ClassId) (q : Nat → Nat) (f : Nat → Nat → Int32) (pa : Nat → Option Nat) (v : Nat → Int32) : va_W := [(q 0, .inr (11, [.ref (q 1), .ref (q 10), .ref (q 14), .ref (q 23), .ref (q 26), .int (v 0)])), (q 1, .inr (12, [.int (v 1), .int (v 2), .ref (q 2), .ref (q 3), .ref (q 4), .ref (q 5), .ref (q 6), .ref (q 7), .ref (q 8), .ref (q 9)])), (q 2, .inl (k 0, 40, .inl (f 2))), (q 3, .inl (k 0, 40, .inl (f 3))), (q 4, .inl (k 0, 40, .inl (f 4))), (q 5, .inl (k 0, 40, .inl (f 5))), (q 6, .inl (k 0, 40, .inl (f 6))), (q 7, .inl (k 0, 40, .inl (f 7))), (q 8, .inl (k 0, 40, .inl (f 8))), (q 9, .inl (k 0, 40, .inl (f 9))), (q 10, .inr (10, [.ref (q 11), .ref (q 12), .ref (q 13)])), (q 11, .inl (k 0, 40, .inl (f 11))), (q 12, .inl (k 0, 40, .inl (f 12))), (q 13, .inl (k 0, 800, .inl (f 13))), (q 14, .inr (4, [.int (v 3), .int (v 4), .int (v 5), .ref (q 15), .ref (q 16), .ref (q 17), .ref (q 18), .ref (q 19), .ref (q 20)])), (q 15, .inl (k 0, 30, .inl (f 15))), (q 16, .inl (k 0, 30, .inl (f 16))), (q 17, .inl (k 0, 40, .inl (f 17))), (q 18, .inl (k 0, 40, .inl (f 18))), (q 19, .inl (k 0, 40, .inl (f 19))), (q 20, .inr (7, [.int (v 6), .ref (q 21), .ref (q 22)])), (q 21, .inl (k 0, 64, .inl (f 21))), (q 22, .inl (k 0, 64, .inl (f 22))), (q 23, .inr (5, [.int (v 7), .ref (q 24), .ref (q 25)])), (q 24, .inl (k 0, 16, .inl (f 24))), (q 25, .inl (k 0, 16, .inl (f 25))), (q 26, .inr (9, [.int (v 8), .ref (q 27), .ref (q 28), .ref (q 29), .ref (q 30)])), (q 27, .inl (k 0, 30, .inl (f 27))), (q 28, .inl (k 0, 30, .inl (f 28))), (q 29, .inl (k 0, 30, .inl (f 29))), (q 30, .inl (k 0, 30, .inl (f 30))), (q 31, .inr (13, [.ref (q 0), .ref (q 32), .int (v 9), .int (v 10), va_rf (pa 8), .ref (q 33), .ref (q 34), .ref (q 35)])), (q 32, .inl (k 3, 8, .inr (.inr (.inr (.inr pa))))), (q 33, .inr (8, [.int (v 11), .ref (q 38), .ref (q 39)])), (q 34, .inr (6, [.int (v 12), .int (v 13), .ref (q 40), .ref (q 41), .ref (q 42), .ref (q 43), .ref (q 44), .ref (q 36), .int (v 14)])), (q 35, .inr (1, [.ref (q 37), .int (v 15), .int (v 16), .int (v 17)])), (q 36, .inl (k 1, 100, .inl (f 36))), (q 37, .inl (k 2, 16, .inl (f 37)))]
def fz_WM (k : Nat → ClassId) (q : Nat → Nat) (f : Nat → Nat → Int32) (pa : Nat → Option Nat) (v : Nat → Int32) : va_W := [(q 0, .inr (14, [.int (v 0), .ref (q 1), .ref (q 2), .ref (q 3), .ref (q 4), .int (v 5), .int (v 6), .int (v 7), .int (v 8), .int (v 9), .int (v 10), .int (v 11), .int (v 12), .int (v 13), .ref (q 5), .int (v 15), .int (v 16), .int (v 17), .int (v 18), .int (v 19), .ref (q 6), .int (v 21)])), (q 1, .inl (k 0, 10535, .inl (f 1))), (q 2, .inl (k 0, 10535, .inl (f 2))), (q 3, .inl (k 0, 10535, .inl (f 3))), (q 4, .inl (k 4, 8, .inr (.inr (.inr (.inr pa))))), (q 5, .inl (k 1, 100, .inl (f 5))), (q 6, .inl (k 1, 900, .inl (f 6))), (q 7, .inl (k 0, 10535, .inl (f 7)))]
def fz_W2 (k : Nat → ClassId) (q : Nat → Nat) (f : Nat → Nat → Int32) (pa : Nat → Option Nat) (v : Nat → Int32) (q2 : Nat → Nat) (f2 : Nat → Nat → Int32) (v2 : Nat → Int32) : va_W := fz_WC k q f pa v ++ fz_WS k q2 f2 (fun _ => none) v2
def fz_EN : List String := ["java/lang/RuntimeException", "java/lang/Exception"]
theorem fz_fit_165 : Bundle.fit "java/lang/IndexOutOfBoundsException" = true ∧ ∀ n ∈ fz_EN, Bundle.fit n = true := by decide +kernel
theorem fz_at_165 : ∀ w ∈ vx_atS RX9 165 "java/lang/IndexOutOfBoundsException" fz_EN, w ∈ lw_tbl ∧ (goodWord w || fz_kind w) = true := by decide +kernel
theorem fz_ok_165 : ∀ w ∈ Cond.classLink RX9 161 "java/lang/IndexOutOfBoundsException" :: Cond.initialized "java/lang/IndexOutOfBoundsException" :: vx_atS RX9 165 "java/lang/IndexOutOfBoundsException" fz_EN, vx_ot w = true := by decide +kernel
theorem fz_fit_73 : Bundle.fit "java/lang/IllegalArgumentException" = true ∧ ∀ n ∈ fz_EN, Bundle.fit n = true := by decide +kernel
theorem fz_at_73 : ∀ w ∈ vx_atS RX9 73 "java/lang/IllegalArgumentException" fz_EN, w ∈ lw_tbl ∧ (goodWord w || fz_kind w) = true := by decide +kernel
theorem fz_ok_73 : ∀ w ∈ Cond.classLink RX9 69 "java/lang/IllegalArgumentException" :: Cond.initialized "java/lang/IllegalArgumentException" :: vx_atS RX9 73 "java/lang/IllegalArgumentException" fz_EN, vx_ot w = true := by decide +kernel
theorem fm_0 : Cond.fieldLink RX8 9 "FindingAid$Tree" "made" "I" ∈ fz_WA := fz_in (fz_tin 58 (by decide +kernel)) (by decide +kernel)
theorem fm_1 : Cond.fieldLink RX8 25 "FindingAid$Tree" "kind" "[I" ∈ fz_WA := fz_in (fz_tin 67 (by decide +kernel)) (by decide +kernel)
theorem fm_2 : Cond.fieldLink RX8 15 "FindingAid$Tree" "size" "I" ∈ fz_WA := fz_in (fz_tin 60 (by decide +kernel)) (by decide +kernel)
theorem fm_3 : Cond.code yX9_isDay cX9_isDay 1 (some .boolean) ∈ fz_WA := fz_in (fz_tin 604 (by decide +kernel)) (by decide +kernel)
theorem fm_4 : Cond.methodLink RX9 488 yX9_isDay ∈ fz_WA := fz_in (fz_tin 602 (by decide +kernel)) (by decide +kernel)
theorem fm_5 : Cond.static yX9_isDay ∈ fz_WA := fz_in (fz_tin 603 (by decide +kernel)) (by decide +kernel)
theorem fm_6 : Cond.initialized RX9 ∈ fz_WA := fz_in (fz_tin 1 (by decide +kernel)) (by decide +kernel)
theorem fm_7 : Cond.fieldLink RX0 9 "FindingAid$Containers" "made" "I" ∈ fz_WA := fz_in (fz_tin 148 (by decide +kernel)) (by decide +kernel)
theorem fm_8 : Cond.fieldLink RX1 9 "FindingAid$Copies" "made" "I" ∈ fz_WA := fz_in (fz_tin 190 (by decide +kernel)) (by decide +kernel)
theorem fm_9 : Cond.fieldLink RX9 10 "FindingAid" "now" "LFindingAid$State;" ∈ fz_WA := fz_in (fz_tin 358 (by decide +kernel)) (by decide +kernel)
theorem fm_10 : Cond.fieldLink RX9 55 "FindingAid$State" "tree" "LFindingAid$Tree;" ∈ fz_WA := fz_in (fz_tin 239 (by decide +kernel)) (by decide +kernel)
theorem fm_11 : Cond.code yX8_has cX8_has 2 (some .boolean) ∈ fz_WA := fz_in (fz_tin 585 (by decide +kernel)) (by decide +kernel)
theorem fm_12 : Cond.methodLink RX9 284 yX8_has ∈ fz_WA := fz_in (fz_tin 582 (by decide +kernel)) (by decide +kernel)
theorem fm_13 : Cond.instanceMethod yX8_has ∈ fz_WA := fz_in (fz_tin 583 (by decide +kernel)) (by decide +kernel)
theorem fm_14 : Cond.selects RX8 yX8_has yX8_has ∈ fz_WA := fz_in (fz_tin 584 (by decide +kernel)) (by decide +kernel)
theorem fm_15 : Cond.initialized RX8 ∈ fz_WA := fz_in (fz_tin 3 (by decide +kernel)) (by decide +kernel)
theorem fm_16 : Cond.classLink RX9 161 "java/lang/IndexOutOfBoundsException" ∈ fz_WA := fz_in (fz_tin 586 (by decide +kernel)) (by decide +kernel)
theorem fm_17 : Cond.initialized "java/lang/IndexOutOfBoundsException" ∈ fz_WA := fz_in (fz_tin 20 (by decide +kernel)) (by decide +kernel)
theorem fm_18 : Cond.fieldLink RX9 115 "FindingAid$Tree" "pages" "[I" ∈ fz_WA := fz_in (fz_tin 75 (by decide +kernel)) (by decide +kernel)
theorem fm_19 : Cond.classLink RX9 69 "java/lang/IllegalArgumentException" ∈ fz_WA := fz_in (fz_tin 605 (by decide +kernel)) (by decide +kernel)
theorem fm_20 : Cond.initialized "java/lang/IllegalArgumentException" ∈ fz_WA := fz_in (fz_tin 22 (by decide +kernel)) (by decide +kernel)
theorem fm_21 : Cond.fieldLink RX9 136 "FindingAid$State" "containers" "LFindingAid$Containers;" ∈ fz_WA := fz_in (fz_tin 243 (by decide +kernel)) (by decide +kernel)
theorem fm_22 : Cond.code yX0_has cX0_has 2 (some .boolean) ∈ fz_WA := fz_in (fz_tin 849 (by decide +kernel)) (by decide +kernel)
theorem fm_23 : Cond.methodLink RX9 495 yX0_has ∈ fz_WA := fz_in (fz_tin 846 (by decide +kernel)) (by decide +kernel)
theorem fm_24 : Cond.instanceMethod yX0_has ∈ fz_WA := fz_in (fz_tin 847 (by decide +kernel)) (by decide +kernel)
theorem fm_25 : Cond.selects RX0 yX0_has yX0_has ∈ fz_WA := fz_in (fz_tin 848 (by decide +kernel)) (by decide +kernel)
theorem fm_26 : Cond.initialized RX0 ∈ fz_WA := fz_in (fz_tin 6 (by decide +kernel)) (by decide +kernel)
theorem fm_27 : Cond.fieldLink RX9 148 "FindingAid$State" "copies" "LFindingAid$Copies;" ∈ fz_WA := fz_in (fz_tin 245 (by decide +kernel)) (by decide +kernel)
theorem fm_28 : Cond.code yX1_has cX1_has 2 (some .boolean) ∈ fz_WA := fz_in (fz_tin 789 (by decide +kernel)) (by decide +kernel)
theorem fm_29 : Cond.methodLink RX9 498 yX1_has ∈ fz_WA := fz_in (fz_tin 786 (by decide +kernel)) (by decide +kernel)
theorem fm_30 : Cond.instanceMethod yX1_has ∈ fz_WA := fz_in (fz_tin 787 (by decide +kernel)) (by decide +kernel)
theorem fm_31 : Cond.selects RX1 yX1_has yX1_has ∈ fz_WA := fz_in (fz_tin 788 (by decide +kernel)) (by decide +kernel)
theorem fm_32 : Cond.initialized RX1 ∈ fz_WA := fz_in (fz_tin 8 (by decide +kernel)) (by decide +kernel)
theorem fm_33 : Cond.fieldLink RX9 314 "FindingAid$State" "requests" "LFindingAid$Requests;" ∈ fz_WA := fz_in (fz_tin 247 (by decide +kernel)) (by decide +kernel)
theorem fm_34 : Cond.fieldLink RX9 330 "FindingAid$Requests" "count" "I" ∈ fz_WA := fz_in (fz_tin 214 (by decide +kernel)) (by decide +kernel)
theorem fm_35 : Cond.code yX8_place cX8_place 3 (some .int) ∈ fz_WA := fz_in (fz_tin 469 (by decide +kernel)) (by decide +kernel)
theorem fm_36 : Cond.methodLink RX8 63 yX8_place ∈ fz_WA := fz_in (fz_tin 466 (by decide +kernel)) (by decide +kernel)
theorem fm_37 : Cond.instanceMethod yX8_place ∈ fz_WA := fz_in (fz_tin 467 (by decide +kernel)) (by decide +kernel)
theorem fm_38 : Cond.selects RX8 yX8_place yX8_place ∈ fz_WA := fz_in (fz_tin 468 (by decide +kernel)) (by decide +kernel)
theorem fm_39 : Cond.fieldLink RX8 31 "FindingAid$Tree" "below" "[I" ∈ fz_WA := fz_in (fz_tin 72 (by decide +kernel)) (by decide +kernel)
theorem fm_40 : Cond.fieldLink RX8 40 "FindingAid$Tree" "to" "[I" ∈ fz_WA := fz_in (fz_tin 81 (by decide +kernel)) (by decide +kernel)
theorem fm_41 : Cond.fieldLink RX8 18 "FindingAid$Tree" "line" "[I" ∈ fz_WA := fz_in (fz_tin 63 (by decide +kernel)) (by decide +kernel)
theorem fm_42 : Cond.methodLink RX8 70 Lib.Math.max.name ∈ fz_WA := fz_in (fz_tin 470 (by decide +kernel)) (by decide +kernel)
theorem fm_43 : Cond.static Lib.Math.max.name ∈ fz_WA := fz_in (fz_tin 471 (by decide +kernel)) (by decide +kernel)
theorem fm_44 : Cond.initialized "java/lang/Math" ∈ fz_WA := fz_in (fz_tin 25 (by decide +kernel)) (by decide +kernel)
theorem fm_45 : Cond.code Lib.Math.max.name Lib.Math.max.code 2 (some .int) ∈ fz_WA := fz_in (fz_tin 472 (by decide +kernel)) (by decide +kernel)
theorem fm_46 : Cond.fieldLink RX8 34 "FindingAid$Tree" "pages" "[I" ∈ fz_WA := fz_in (fz_tin 74 (by decide +kernel)) (by decide +kernel)
theorem fm_47 : Cond.fieldLink RX8 28 "FindingAid$Tree" "parent" "[I" ∈ fz_WA := fz_in (fz_tin 69 (by decide +kernel)) (by decide +kernel)
theorem fm_48 : Cond.fieldLink RX6 9 "FindingAid$Rules" "mode" "[I" ∈ fz_WA := fz_in (fz_tin 112 (by decide +kernel)) (by decide +kernel)
theorem fm_49 : Cond.fieldLink RX6 33 "FindingAid$Tree" "parent" "[I" ∈ fz_WA := fz_in (fz_tin 70 (by decide +kernel)) (by decide +kernel)
theorem fm_50 : Cond.code yX6_decidingNode cX6_decidingNode 7 (some .int) ∈ fz_WA := fz_in (fz_tin 461 (by decide +kernel)) (by decide +kernel)
theorem fm_51 : Cond.methodLink RX6 38 yX6_decidingNode ∈ fz_WA := fz_in (fz_tin 458 (by decide +kernel)) (by decide +kernel)
theorem fm_52 : Cond.instanceMethod yX6_decidingNode ∈ fz_WA := fz_in (fz_tin 459 (by decide +kernel)) (by decide +kernel)
theorem fm_53 : Cond.selects RX6 yX6_decidingNode yX6_decidingNode ∈ fz_WA := fz_in (fz_tin 460 (by decide +kernel)) (by decide +kernel)
theorem fm_54 : Cond.initialized RX6 ∈ fz_WA := fz_in (fz_tin 5 (by decide +kernel)) (by decide +kernel)
theorem fm_55 : Cond.code yX6_term cX6_term 4 (some .int) ∈ fz_WA := fz_in (fz_tin 457 (by decide +kernel)) (by decide +kernel)
theorem fm_56 : Cond.methodLink RX6 42 yX6_term ∈ fz_WA := fz_in (fz_tin 454 (by decide +kernel)) (by decide +kernel)
theorem fm_57 : Cond.instanceMethod yX6_term ∈ fz_WA := fz_in (fz_tin 455 (by decide +kernel)) (by decide +kernel)
theorem fm_58 : Cond.selects RX6 yX6_term yX6_term ∈ fz_WA := fz_in (fz_tin 456 (by decide +kernel)) (by decide +kernel)
theorem fm_59 : Cond.code yX8_latestDay cX8_latestDay 6 (some .int) ∈ fz_WA := fz_in (fz_tin 465 (by decide +kernel)) (by decide +kernel)
theorem fm_60 : Cond.methodLink RX6 45 yX8_latestDay ∈ fz_WA := fz_in (fz_tin 462 (by decide +kernel)) (by decide +kernel)
theorem fm_61 : Cond.instanceMethod yX8_latestDay ∈ fz_WA := fz_in (fz_tin 463 (by decide +kernel)) (by decide +kernel)
theorem fm_62 : Cond.selects RX8 yX8_latestDay yX8_latestDay ∈ fz_WA := fz_in (fz_tin 464 (by decide +kernel)) (by decide +kernel)
theorem fm_63 : Cond.code yX6_lastDay cX6_lastDay 2 (some .int) ∈ fz_WA := fz_in (fz_tin 475 (by decide +kernel)) (by decide +kernel)
theorem fm_64 : Cond.methodLink RX6 49 yX6_lastDay ∈ fz_WA := fz_in (fz_tin 473 (by decide +kernel)) (by decide +kernel)
theorem fm_65 : Cond.static yX6_lastDay ∈ fz_WA := fz_in (fz_tin 474 (by decide +kernel)) (by decide +kernel)
theorem fm_66 : Cond.fieldLink RX6 54 "FindingAid$Tree" "pages" "[I" ∈ fz_WA := fz_in (fz_tin 77 (by decide +kernel)) (by decide +kernel)
theorem fm_67 : Cond.fieldLink RX0 15 "FindingAid$Containers" "open" "I" ∈ fz_WA := fz_in (fz_tin 149 (by decide +kernel)) (by decide +kernel)
theorem fm_68 : Cond.fieldLink RX3 9 "FindingAid$Marks" "count" "I" ∈ fz_WA := fz_in (fz_tin 137 (by decide +kernel)) (by decide +kernel)
theorem fm_69 : Cond.code yX1_countOf cX1_countOf 4 (some .int) ∈ fz_WA := fz_in (fz_tin 722 (by decide +kernel)) (by decide +kernel)
theorem fm_70 : Cond.methodLink RX1 34 yX1_countOf ∈ fz_WA := fz_in (fz_tin 1112 (by decide +kernel)) (by decide +kernel)
theorem fm_71 : Cond.instanceMethod yX1_countOf ∈ fz_WA := fz_in (fz_tin 720 (by decide +kernel)) (by decide +kernel)
theorem fm_72 : Cond.selects RX1 yX1_countOf yX1_countOf ∈ fz_WA := fz_in (fz_tin 721 (by decide +kernel)) (by decide +kernel)
theorem fm_73 : Cond.fieldLink RJ5 79 "java/lang/AbstractStringBuilder" "count" "I" ∈ fz_WA := fz_in (fz_tin 347 (by decide +kernel)) (by decide +kernel)
theorem fm_74 : Cond.code yJ5_length_8abf5 cJ5_length_8abf5 1 (some .int) ∈ fz_WA := fz_in (fz_tin 1408 (by decide +kernel)) (by decide +kernel)
theorem fm_75 : Cond.methodLink RJ4 343 yJ5_length_8abf5 ∈ fz_WA := fz_in (fz_tin 1407 (by decide +kernel)) (by decide +kernel)
theorem fm_76 : Cond.sameMethod RJ5 RJ5 "length" "()I" ∈ fz_WA := fz_in (fz_tin 1403 (by decide +kernel)) (by decide +kernel)
theorem fm_77 : Cond.superclass RJ4 RJ5 ∈ fz_WA := fz_in (fz_tin 356 (by decide +kernel)) (by decide +kernel)
theorem fm_78 : Cond.instanceMethod yJ5_length_8abf5 ∈ fz_WA := fz_in (fz_tin 1402 (by decide +kernel)) (by decide +kernel)
theorem fm_79 : Cond.initialized RJ5 ∈ fz_WA := fz_in (fz_tin 12 (by decide +kernel)) (by decide +kernel)
theorem fm_80 : Cond.fieldLink RX5 9 "FindingAid$Requests" "count" "I" ∈ fz_WA := fz_in (fz_tin 212 (by decide +kernel)) (by decide +kernel)
theorem fm_81 : Cond.constant RJ6 265 1431655765 ∈ fz_WA := fz_in (fz_tin 982 (by decide +kernel)) (by decide +kernel)
theorem fm_82 : Cond.constant RJ6 266 858993459 ∈ fz_WA := fz_in (fz_tin 983 (by decide +kernel)) (by decide +kernel)
theorem fm_83 : Cond.constant RJ6 267 252645135 ∈ fz_WA := fz_in (fz_tin 984 (by decide +kernel)) (by decide +kernel)
theorem fm_84 : Cond.code yJ6_bitCount_0f7a4 cJ6_bitCount_0f7a4 1 (some .int) ∈ fz_WA := fz_in (fz_tin 981 (by decide +kernel)) (by decide +kernel)
theorem fm_85 : Cond.methodLink RX5 44 yJ6_bitCount_0f7a4 ∈ fz_WA := fz_in (fz_tin 1027 (by decide +kernel)) (by decide +kernel)
theorem fm_86 : Cond.static yJ6_bitCount_0f7a4 ∈ fz_WA := fz_in (fz_tin 980 (by decide +kernel)) (by decide +kernel)
theorem fm_87 : Cond.initialized RJ6 ∈ fz_WA := fz_in (fz_tin 28 (by decide +kernel)) (by decide +kernel)
theorem fm_88 : Cond.fieldLink RX7 42 "FindingAid$State" "requests" "LFindingAid$Requests;" ∈ fz_WA := fz_in (fz_tin 246 (by decide +kernel)) (by decide +kernel)
theorem fm_89 : Cond.fieldLink RX7 152 "FindingAid$Requests" "count" "I" ∈ fz_WA := fz_in (fz_tin 213 (by decide +kernel)) (by decide +kernel)
theorem fm_90 : Cond.fieldLink RX7 12 "FindingAid$State" "tree" "LFindingAid$Tree;" ∈ fz_WA := fz_in (fz_tin 238 (by decide +kernel)) (by decide +kernel)
theorem fm_91 : Cond.fieldLink RX7 158 "FindingAid$Tree" "size" "I" ∈ fz_WA := fz_in (fz_tin 61 (by decide +kernel)) (by decide +kernel)
theorem fm_92 : Cond.fieldLink RX7 161 "FindingAid$Tree" "line" "[I" ∈ fz_WA := fz_in (fz_tin 64 (by decide +kernel)) (by decide +kernel)
theorem fm_93 : Cond.fieldLink RX7 97 "FindingAid$Tree" "pages" "[I" ∈ fz_WA := fz_in (fz_tin 76 (by decide +kernel)) (by decide +kernel)
theorem fm_94 : Cond.fieldLink RX7 21 "FindingAid$State" "rules" "LFindingAid$Rules;" ∈ fz_WA := fz_in (fz_tin 240 (by decide +kernel)) (by decide +kernel)
theorem fm_95 : Cond.code yX6_openSet cX6_openSet 7 (some .int) ∈ fz_WA := fz_in (fz_tin 449 (by decide +kernel)) (by decide +kernel)
theorem fm_96 : Cond.methodLink RX7 83 yX6_openSet ∈ fz_WA := fz_in (fz_tin 446 (by decide +kernel)) (by decide +kernel)
theorem fm_97 : Cond.instanceMethod yX6_openSet ∈ fz_WA := fz_in (fz_tin 447 (by decide +kernel)) (by decide +kernel)
theorem fm_98 : Cond.selects RX6 yX6_openSet yX6_openSet ∈ fz_WA := fz_in (fz_tin 448 (by decide +kernel)) (by decide +kernel)
theorem fm_99 : Cond.methodLink RX7 147 yJ6_bitCount_0f7a4 ∈ fz_WA := fz_in (fz_tin 1089 (by decide +kernel)) (by decide +kernel)
theorem dX8_has_0 : decode cX8_has 0 = .ok (.iload_n 1, 1) := by decide +kernel
theorem dX8_has_1 : decode cX8_has 1 = .ok (.ifCond .lt 25, 3) := by decide +kernel
theorem dX8_has_26 : decode cX8_has 26 = .ok (.iconst 0, 1) := by decide +kernel
theorem dX8_has_27 : decode cX8_has 27 = .ok (.ireturn, 1) := by decide +kernel
theorem dX8_has_4 : decode cX8_has 4 = .ok (.iload_n 1, 1) := by decide +kernel
theorem dX8_has_5 : decode cX8_has 5 = .ok (.aload_n 0, 1) := by decide +kernel
theorem dX8_has_6 : decode cX8_has 6 = .ok (.getfield 9, 3) := by decide +kernel
theorem dX8_has_9 : decode cX8_has 9 = .ok (.if_icmp .ge 17, 3) := by decide +kernel
theorem dX8_has_12 : decode cX8_has 12 = .ok (.aload_n 0, 1) := by decide +kernel
theorem dX8_has_13 : decode cX8_has 13 = .ok (.getfield 25, 3) := by decide +kernel
theorem dX8_has_16 : decode cX8_has 16 = .ok (.iload_n 1, 1) := by decide +kernel
theorem dX8_has_17 : decode cX8_has 17 = .ok (.iaload, 1) := by decide +kernel
theorem dX8_has_18 : decode cX8_has 18 = .ok (.iconst (-1), 1) := by decide +kernel
theorem dX8_has_19 : decode cX8_has 19 = .ok (.if_icmp .eq 7, 3) := by decide +kernel
theorem dX8_has_22 : decode cX8_has 22 = .ok (.iconst 1, 1) := by decide +kernel
theorem dX8_has_23 : decode cX8_has 23 = .ok (.goto 4, 3) := by decide +kernel
theorem dX8_place_0 : decode cX8_place 0 = .ok (.iconst 0, 1) := by decide +kernel
theorem dX8_place_1 : decode cX8_place 1 = .ok (.istore_n 2, 1) := by decide +kernel
theorem dX8_place_2 : decode cX8_place 2 = .ok (.iload_n 2, 1) := by decide +kernel
theorem dX8_place_3 : decode cX8_place 3 = .ok (.aload_n 0, 1) := by decide +kernel
theorem dX8_place_4 : decode cX8_place 4 = .ok (.getfield 15, 3) := by decide +kernel
theorem dX8_place_7 : decode cX8_place 7 = .ok (.iconst 1, 1) := by decide +kernel
theorem dX8_place_8 : decode cX8_place 8 = .ok (.isub, 1) := by decide +kernel
theorem dX8_place_9 : decode cX8_place 9 = .ok (.if_icmp .ge 19, 3) := by decide +kernel
theorem dX8_place_28 : decode cX8_place 28 = .ok (.iload_n 2, 1) := by decide +kernel
theorem dX8_place_29 : decode cX8_place 29 = .ok (.ireturn, 1) := by decide +kernel
theorem dX9_isDay_0 : decode cX9_isDay 0 = .ok (.iload_n 0, 1) := by decide +kernel
theorem dX9_isDay_1 : decode cX9_isDay 1 = .ok (.ifCond .lt 14, 3) := by decide +kernel
theorem dX9_isDay_15 : decode cX9_isDay 15 = .ok (.iconst 0, 1) := by decide +kernel
theorem dX9_isDay_16 : decode cX9_isDay 16 = .ok (.ireturn, 1) := by decide +kernel
theorem dX9_isDay_4 : decode cX9_isDay 4 = .ok (.iload_n 0, 1) := by decide +kernel
theorem dX9_isDay_5 : decode cX9_isDay 5 = .ok (.sipush 9999, 3) := by decide +kernel
theorem dX9_isDay_8 : decode cX9_isDay 8 = .ok (.if_icmp .gt 7, 3) := by decide +kernel
theorem dX9_isDay_11 : decode cX9_isDay 11 = .ok (.iconst 1, 1) := by decide +kernel
theorem dX9_isDay_12 : decode cX9_isDay 12 = .ok (.goto 4, 3) := by decide +kernel
theorem dX9_fitsBelow_0 : decode cX9_fitsBelow 0 = .ok (.iload_n 1, 1) := by decide +kernel
theorem dX9_fitsBelow_1 : decode cX9_fitsBelow 1 = .ok (.iconst 1, 1) := by decide +kernel
theorem dX9_fitsBelow_2 : decode cX9_fitsBelow 2 = .ok (.if_icmp .lt 13, 3) := by decide +kernel
theorem dX9_fitsBelow_15 : decode cX9_fitsBelow 15 = .ok (.iconst 0, 1) := by decide +kernel
theorem dX9_fitsBelow_16 : decode cX9_fitsBelow 16 = .ok (.ireturn, 1) := by decide +kernel
theorem dX9_fitsBelow_5 : decode cX9_fitsBelow 5 = .ok (.iload_n 1, 1) := by decide +kernel
theorem dX9_fitsBelow_6 : decode cX9_fitsBelow 6 = .ok (.iconst 3, 1) := by decide +kernel
theorem dX9_fitsBelow_7 : decode cX9_fitsBelow 7 = .ok (.if_icmp .gt 8, 3) := by decide +kernel
theorem dX9_fitsBelow_10 : decode cX9_fitsBelow 10 = .ok (.iload_n 1, 1) := by decide +kernel
theorem dX9_fitsBelow_11 : decode cX9_fitsBelow 11 = .ok (.iload_n 0, 1) := by decide +kernel
theorem dX9_fitsBelow_12 : decode cX9_fitsBelow 12 = .ok (.if_icmp .gt 5, 3) := by decide +kernel
theorem dX9_fitsBelow_17 : decode cX9_fitsBelow 17 = .ok (.iload_n 2, 1) := by decide +kernel
theorem dX9_fitsBelow_18 : decode cX9_fitsBelow 18 = .ok (.ifCond .lt 18, 3) := by decide +kernel
theorem dX9_fitsBelow_36 : decode cX9_fitsBelow 36 = .ok (.iconst 0, 1) := by decide +kernel
theorem dX9_fitsBelow_37 : decode cX9_fitsBelow 37 = .ok (.ireturn, 1) := by decide +kernel
theorem dX9_fitsBelow_21 : decode cX9_fitsBelow 21 = .ok (.iload_n 2, 1) := by decide +kernel
theorem dX9_fitsBelow_22 : decode cX9_fitsBelow 22 = .ok (.iload_n 1, 1) := by decide +kernel
theorem dX9_fitsBelow_23 : decode cX9_fitsBelow 23 = .ok (.iconst 1, 1) := by decide +kernel
theorem dX9_fitsBelow_24 : decode cX9_fitsBelow 24 = .ok (.if_icmp .ne 7, 3) := by decide +kernel
theorem dX9_fitsBelow_31 : decode cX9_fitsBelow 31 = .ok (.bipush 20, 2) := by decide +kernel
theorem dX9_fitsBelow_33 : decode cX9_fitsBelow 33 = .ok (.if_icmp .le 5, 3) := by decide +kernel
theorem dX9_fitsBelow_38 : decode cX9_fitsBelow 38 = .ok (.iload_n 3, 1) := by decide +kernel
theorem dX9_fitsBelow_39 : decode cX9_fitsBelow 39 = .ok (.iconst (-1), 1) := by decide +kernel
theorem dX9_fitsBelow_40 : decode cX9_fitsBelow 40 = .ok (.if_icmp .eq 24, 3) := by decide +kernel
theorem dX9_fitsBelow_64 : decode cX9_fitsBelow 64 = .ok (.iconst 1, 1) := by decide +kernel
theorem dX9_fitsBelow_65 : decode cX9_fitsBelow 65 = .ok (.goto 4, 3) := by decide +kernel
theorem dX9_fitsBelow_69 : decode cX9_fitsBelow 69 = .ok (.ireturn, 1) := by decide +kernel
theorem dX9_fitsBelow_43 : decode cX9_fitsBelow 43 = .ok (.iload_n 3, 1) := by decide +kernel
theorem dX9_fitsBelow_44 : decode cX9_fitsBelow 44 = .ok (.invokestatic 488, 3) := by decide +kernel
theorem dX9_fitsBelow_47 : decode cX9_fitsBelow 47 = .ok (.ifCond .eq 21, 3) := by decide +kernel
theorem dX9_fitsBelow_50 : decode cX9_fitsBelow 50 = .ok (.iload 4, 2) := by decide +kernel
theorem dX9_fitsBelow_52 : decode cX9_fitsBelow 52 = .ok (.invokestatic 488, 3) := by decide +kernel
theorem dX9_fitsBelow_55 : decode cX9_fitsBelow 55 = .ok (.ifCond .eq 13, 3) := by decide +kernel
theorem dX9_fitsBelow_58 : decode cX9_fitsBelow 58 = .ok (.iload_n 3, 1) := by decide +kernel
theorem dX9_fitsBelow_59 : decode cX9_fitsBelow 59 = .ok (.iload 4, 2) := by decide +kernel
theorem dX9_fitsBelow_61 : decode cX9_fitsBelow 61 = .ok (.if_icmp .gt 7, 3) := by decide +kernel
theorem dX9_fitsBelow_68 : decode cX9_fitsBelow 68 = .ok (.iconst 0, 1) := by decide +kernel
theorem dX9_fitsBelow_27 : decode cX9_fitsBelow 27 = .ok (.iconst 0, 1) := by decide +kernel
theorem dX9_fitsBelow_28 : decode cX9_fitsBelow 28 = .ok (.goto 5, 3) := by decide +kernel
theorem dX0_has_0 : decode cX0_has 0 = .ok (.iload_n 1, 1) := by decide +kernel
theorem dX0_has_1 : decode cX0_has 1 = .ok (.ifCond .lt 24, 3) := by decide +kernel
theorem dX0_has_25 : decode cX0_has 25 = .ok (.iconst 0, 1) := by decide +kernel
theorem dX0_has_26 : decode cX0_has 26 = .ok (.ireturn, 1) := by decide +kernel
theorem dX0_has_4 : decode cX0_has 4 = .ok (.iload_n 1, 1) := by decide +kernel
theorem dX0_has_5 : decode cX0_has 5 = .ok (.aload_n 0, 1) := by decide +kernel
theorem dX0_has_6 : decode cX0_has 6 = .ok (.getfield 9, 3) := by decide +kernel
theorem dX0_has_9 : decode cX0_has 9 = .ok (.if_icmp .ge 16, 3) := by decide +kernel
theorem dX1_has_0 : decode cX1_has 0 = .ok (.iload_n 1, 1) := by decide +kernel
theorem dX1_has_1 : decode cX1_has 1 = .ok (.ifCond .lt 25, 3) := by decide +kernel
theorem dX1_has_26 : decode cX1_has 26 = .ok (.iconst 0, 1) := by decide +kernel
theorem dX1_has_27 : decode cX1_has 27 = .ok (.ireturn, 1) := by decide +kernel
theorem dX1_has_4 : decode cX1_has 4 = .ok (.iload_n 1, 1) := by decide +kernel
theorem dX1_has_5 : decode cX1_has 5 = .ok (.aload_n 0, 1) := by decide +kernel
theorem dX1_has_6 : decode cX1_has 6 = .ok (.getfield 9, 3) := by decide +kernel
theorem dX1_has_9 : decode cX1_has 9 = .ok (.if_icmp .ge 17, 3) := by decide +kernel
theorem dX9_requireNode_0 : decode cX9_requireNode 0 = .ok (.aload_n 0, 1) := by decide +kernel
theorem dX9_requireNode_1 : decode cX9_requireNode 1 = .ok (.getfield 10, 3) := by decide +kernel
theorem dX9_requireNode_4 : decode cX9_requireNode 4 = .ok (.getfield 55, 3) := by decide +kernel
theorem dX9_requireNode_7 : decode cX9_requireNode 7 = .ok (.iload_n 1, 1) := by decide +kernel
theorem dX9_requireNode_8 : decode cX9_requireNode 8 = .ok (.invokevirtual 284, 3) := by decide +kernel
theorem dX9_requireNode_11 : decode cX9_requireNode 11 = .ok (.ifCond .ne 14, 3) := by decide +kernel
theorem dX9_requireNode_25 : decode cX9_requireNode 25 = .ok (.return_, 1) := by decide +kernel
theorem dX9_requireNode_14 : decode cX9_requireNode 14 = .ok (.new 161, 3) := by decide +kernel
theorem dX9_requireNode_17 : decode cX9_requireNode 17 = .ok (.dup, 1) := by decide +kernel
theorem dX9_requireNode_18 : decode cX9_requireNode 18 = .ok (.ldc_w 491, 3) := by decide +kernel
theorem dX9_requireNode_21 : decode cX9_requireNode 21 = .ok (.invokespecial 165, 3) := by decide +kernel
theorem dX9_requireNode_24 : decode cX9_requireNode 24 = .ok (.athrow, 1) := by decide +kernel
theorem dX9_requireUnit_0 : decode cX9_requireUnit 0 = .ok (.aload_n 0, 1) := by decide +kernel
theorem dX9_requireUnit_1 : decode cX9_requireUnit 1 = .ok (.getfield 10, 3) := by decide +kernel
theorem dX9_requireUnit_4 : decode cX9_requireUnit 4 = .ok (.getfield 55, 3) := by decide +kernel
theorem dX9_requireUnit_7 : decode cX9_requireUnit 7 = .ok (.getfield 115, 3) := by decide +kernel
theorem dX9_requireUnit_10 : decode cX9_requireUnit 10 = .ok (.iload_n 1, 1) := by decide +kernel
theorem dX9_requireUnit_11 : decode cX9_requireUnit 11 = .ok (.iaload, 1) := by decide +kernel
theorem dX9_requireUnit_12 : decode cX9_requireUnit 12 = .ok (.ifCond .ne 14, 3) := by decide +kernel
theorem dX9_requireUnit_15 : decode cX9_requireUnit 15 = .ok (.new 69, 3) := by decide +kernel
theorem dX9_requireUnit_18 : decode cX9_requireUnit 18 = .ok (.dup, 1) := by decide +kernel
theorem dX9_requireUnit_19 : decode cX9_requireUnit 19 = .ok (.ldc_w 493, 3) := by decide +kernel
theorem dX9_requireUnit_22 : decode cX9_requireUnit 22 = .ok (.invokespecial 73, 3) := by decide +kernel
theorem dX9_requireUnit_25 : decode cX9_requireUnit 25 = .ok (.athrow, 1) := by decide +kernel
theorem dX9_requireContainer_0 : decode cX9_requireContainer 0 = .ok (.aload_n 0, 1) := by decide +kernel
theorem dX9_requireContainer_1 : decode cX9_requireContainer 1 = .ok (.getfield 10, 3) := by decide +kernel
theorem dX9_requireContainer_4 : decode cX9_requireContainer 4 = .ok (.getfield 136, 3) := by decide +kernel
theorem dX9_requireContainer_7 : decode cX9_requireContainer 7 = .ok (.iload_n 1, 1) := by decide +kernel
theorem dX9_requireContainer_8 : decode cX9_requireContainer 8 = .ok (.invokevirtual 495, 3) := by decide +kernel
theorem dX9_requireContainer_11 : decode cX9_requireContainer 11 = .ok (.ifCond .ne 14, 3) := by decide +kernel
theorem dX9_requireContainer_14 : decode cX9_requireContainer 14 = .ok (.new 161, 3) := by decide +kernel
theorem dX9_requireContainer_17 : decode cX9_requireContainer 17 = .ok (.dup, 1) := by decide +kernel
theorem dX9_requireContainer_18 : decode cX9_requireContainer 18 = .ok (.ldc_w 496, 3) := by decide +kernel
theorem dX9_requireContainer_21 : decode cX9_requireContainer 21 = .ok (.invokespecial 165, 3) := by decide +kernel
theorem dX9_requireContainer_24 : decode cX9_requireContainer 24 = .ok (.athrow, 1) := by decide +kernel
theorem dX9_requireCopy_0 : decode cX9_requireCopy 0 = .ok (.aload_n 0, 1) := by decide +kernel
theorem dX9_requireCopy_1 : decode cX9_requireCopy 1 = .ok (.getfield 10, 3) := by decide +kernel
theorem dX9_requireCopy_4 : decode cX9_requireCopy 4 = .ok (.getfield 148, 3) := by decide +kernel
theorem dX9_requireCopy_7 : decode cX9_requireCopy 7 = .ok (.iload_n 1, 1) := by decide +kernel
theorem dX9_requireCopy_8 : decode cX9_requireCopy 8 = .ok (.invokevirtual 498, 3) := by decide +kernel
theorem dX9_requireCopy_11 : decode cX9_requireCopy 11 = .ok (.ifCond .ne 14, 3) := by decide +kernel
theorem dX9_requireCopy_14 : decode cX9_requireCopy 14 = .ok (.new 161, 3) := by decide +kernel
theorem dX9_requireCopy_17 : decode cX9_requireCopy 17 = .ok (.dup, 1) := by decide +kernel
theorem dX9_requireCopy_18 : decode cX9_requireCopy 18 = .ok (.ldc_w 499, 3) := by decide +kernel
theorem dX9_requireCopy_21 : decode cX9_requireCopy 21 = .ok (.invokespecial 165, 3) := by decide +kernel
theorem dX9_requireCopy_24 : decode cX9_requireCopy 24 = .ok (.athrow, 1) := by decide +kernel
theorem dX9_requireRequest_0 : decode cX9_requireRequest 0 = .ok (.iload_n 1, 1) := by decide +kernel
theorem dX9_requireRequest_1 : decode cX9_requireRequest 1 = .ok (.ifCond .lt 17, 3) := by decide +kernel
theorem dX9_requireRequest_18 : decode cX9_requireRequest 18 = .ok (.new 161, 3) := by decide +kernel
theorem dX9_requireRequest_21 : decode cX9_requireRequest 21 = .ok (.dup, 1) := by decide +kernel
theorem dX9_requireRequest_22 : decode cX9_requireRequest 22 = .ok (.ldc_w 501, 3) := by decide +kernel
theorem dX9_requireRequest_25 : decode cX9_requireRequest 25 = .ok (.invokespecial 165, 3) := by decide +kernel
theorem dX9_requireRequest_28 : decode cX9_requireRequest 28 = .ok (.athrow, 1) := by decide +kernel
theorem dX9_requireRequest_4 : decode cX9_requireRequest 4 = .ok (.iload_n 1, 1) := by decide +kernel
theorem dX9_requireRequest_5 : decode cX9_requireRequest 5 = .ok (.aload_n 0, 1) := by decide +kernel
theorem dX9_requireRequest_6 : decode cX9_requireRequest 6 = .ok (.getfield 10, 3) := by decide +kernel
theorem dX9_requireRequest_9 : decode cX9_requireRequest 9 = .ok (.getfield 314, 3) := by decide +kernel
theorem dX9_requireRequest_12 : decode cX9_requireRequest 12 = .ok (.getfield 330, 3) := by decide +kernel
theorem dX9_requireRequest_15 : decode cX9_requireRequest 15 = .ok (.if_icmp .lt 14, 3) := by decide +kernel
theorem dX9_requirePart_0 : decode cX9_requirePart 0 = .ok (.iload_n 0, 1) := by decide +kernel
theorem dX9_requirePart_1 : decode cX9_requirePart 1 = .ok (.ifCond .lt 8, 3) := by decide +kernel
theorem dX9_requirePart_9 : decode cX9_requirePart 9 = .ok (.new 69, 3) := by decide +kernel
theorem dX9_requirePart_12 : decode cX9_requirePart 12 = .ok (.dup, 1) := by decide +kernel
theorem dX9_requirePart_13 : decode cX9_requirePart 13 = .ok (.ldc_w 503, 3) := by decide +kernel
theorem dX9_requirePart_16 : decode cX9_requirePart 16 = .ok (.invokespecial 73, 3) := by decide +kernel
theorem dX9_requirePart_19 : decode cX9_requirePart 19 = .ok (.athrow, 1) := by decide +kernel
theorem dX9_requirePart_4 : decode cX9_requirePart 4 = .ok (.iload_n 0, 1) := by decide +kernel
theorem dX9_requirePart_5 : decode cX9_requirePart 5 = .ok (.iload_n 1, 1) := by decide +kernel
theorem dX9_requirePart_6 : decode cX9_requirePart 6 = .ok (.if_icmp .le 14, 3) := by decide +kernel
theorem dX9_requirePart_20 : decode cX9_requirePart 20 = .ok (.return_, 1) := by decide +kernel
theorem dX9_requireDay_0 : decode cX9_requireDay 0 = .ok (.iload_n 0, 1) := by decide +kernel
theorem dX9_requireDay_1 : decode cX9_requireDay 1 = .ok (.invokestatic 488, 3) := by decide +kernel
theorem dX9_requireDay_4 : decode cX9_requireDay 4 = .ok (.ifCond .ne 14, 3) := by decide +kernel
theorem dX9_requireDay_18 : decode cX9_requireDay 18 = .ok (.return_, 1) := by decide +kernel
theorem dX9_requireDay_7 : decode cX9_requireDay 7 = .ok (.new 69, 3) := by decide +kernel
theorem dX9_requireDay_10 : decode cX9_requireDay 10 = .ok (.dup, 1) := by decide +kernel
theorem dX9_requireDay_11 : decode cX9_requireDay 11 = .ok (.ldc_w 505, 3) := by decide +kernel
theorem dX9_requireDay_14 : decode cX9_requireDay 14 = .ok (.invokespecial 73, 3) := by decide +kernel
theorem dX9_requireDay_17 : decode cX9_requireDay 17 = .ok (.athrow, 1) := by decide +kernel
theorem dX9_requireCapacity_0 : decode cX9_requireCapacity 0 = .ok (.iload_n 0, 1) := by decide +kernel
theorem dX9_requireCapacity_1 : decode cX9_requireCapacity 1 = .ok (.iconst 1, 1) := by decide +kernel
theorem dX9_requireCapacity_2 : decode cX9_requireCapacity 2 = .ok (.if_icmp .lt 10, 3) := by decide +kernel
theorem dX9_requireCapacity_12 : decode cX9_requireCapacity 12 = .ok (.new 69, 3) := by decide +kernel
theorem dX9_requireCapacity_15 : decode cX9_requireCapacity 15 = .ok (.dup, 1) := by decide +kernel
theorem dX9_requireCapacity_16 : decode cX9_requireCapacity 16 = .ok (.ldc_w 507, 3) := by decide +kernel
theorem dX9_requireCapacity_19 : decode cX9_requireCapacity 19 = .ok (.invokespecial 73, 3) := by decide +kernel
theorem dX9_requireCapacity_22 : decode cX9_requireCapacity 22 = .ok (.athrow, 1) := by decide +kernel
theorem dX9_requireCapacity_5 : decode cX9_requireCapacity 5 = .ok (.iload_n 0, 1) := by decide +kernel
theorem dX9_requireCapacity_6 : decode cX9_requireCapacity 6 = .ok (.sipush 200, 3) := by decide +kernel
theorem dX9_requireCapacity_9 : decode cX9_requireCapacity 9 = .ok (.if_icmp .le 14, 3) := by decide +kernel
theorem dX9_requireCapacity_23 : decode cX9_requireCapacity 23 = .ok (.return_, 1) := by decide +kernel
theorem dX8_latestDay_0 : decode cX8_latestDay 0 = .ok (.aload_n 0, 1) := by decide +kernel
theorem dX8_latestDay_1 : decode cX8_latestDay 1 = .ok (.iload_n 1, 1) := by decide +kernel
theorem dX8_latestDay_2 : decode cX8_latestDay 2 = .ok (.invokevirtual 63, 3) := by decide +kernel
theorem dX8_latestDay_5 : decode cX8_latestDay 5 = .ok (.istore_n 2, 1) := by decide +kernel
theorem dX8_latestDay_6 : decode cX8_latestDay 6 = .ok (.iload_n 2, 1) := by decide +kernel
theorem dX8_latestDay_7 : decode cX8_latestDay 7 = .ok (.aload_n 0, 1) := by decide +kernel
theorem dX8_latestDay_8 : decode cX8_latestDay 8 = .ok (.getfield 31, 3) := by decide +kernel
theorem dX8_latestDay_11 : decode cX8_latestDay 11 = .ok (.iload_n 1, 1) := by decide +kernel
theorem dX8_latestDay_12 : decode cX8_latestDay 12 = .ok (.iaload, 1) := by decide +kernel
theorem dX8_latestDay_13 : decode cX8_latestDay 13 = .ok (.iadd, 1) := by decide +kernel
theorem dX8_latestDay_14 : decode cX8_latestDay 14 = .ok (.istore_n 3, 1) := by decide +kernel
theorem dX8_latestDay_15 : decode cX8_latestDay 15 = .ok (.iconst (-1), 1) := by decide +kernel
theorem dX8_latestDay_16 : decode cX8_latestDay 16 = .ok (.istore 4, 2) := by decide +kernel
theorem dX8_latestDay_18 : decode cX8_latestDay 18 = .ok (.iload_n 2, 1) := by decide +kernel
theorem dX8_latestDay_19 : decode cX8_latestDay 19 = .ok (.istore 5, 2) := by decide +kernel
theorem dX8_latestDay_21 : decode cX8_latestDay 21 = .ok (.iload 5, 2) := by decide +kernel
theorem dX8_latestDay_23 : decode cX8_latestDay 23 = .ok (.iload_n 3, 1) := by decide +kernel
theorem dX8_latestDay_24 : decode cX8_latestDay 24 = .ok (.if_icmp .gt 28, 3) := by decide +kernel
theorem dX8_latestDay_27 : decode cX8_latestDay 27 = .ok (.iload 4, 2) := by decide +kernel
theorem dX8_latestDay_29 : decode cX8_latestDay 29 = .ok (.aload_n 0, 1) := by decide +kernel
theorem dX8_latestDay_30 : decode cX8_latestDay 30 = .ok (.getfield 40, 3) := by decide +kernel
theorem dX8_latestDay_33 : decode cX8_latestDay 33 = .ok (.aload_n 0, 1) := by decide +kernel
theorem dX8_latestDay_34 : decode cX8_latestDay 34 = .ok (.getfield 18, 3) := by decide +kernel
theorem dX8_latestDay_37 : decode cX8_latestDay 37 = .ok (.iload 5, 2) := by decide +kernel
theorem dX8_latestDay_39 : decode cX8_latestDay 39 = .ok (.iaload, 1) := by decide +kernel
theorem dX8_latestDay_40 : decode cX8_latestDay 40 = .ok (.iaload, 1) := by decide +kernel
theorem dX8_latestDay_41 : decode cX8_latestDay 41 = .ok (.invokestatic 70, 3) := by decide +kernel
theorem dX8_latestDay_44 : decode cX8_latestDay 44 = .ok (.istore 4, 2) := by decide +kernel
theorem dX8_latestDay_46 : decode cX8_latestDay 46 = .ok (.iinc 5 1, 3) := by decide +kernel
theorem dX8_latestDay_49 : decode cX8_latestDay 49 = .ok (.goto (-28), 3) := by decide +kernel
theorem dX8_latestDay_52 : decode cX8_latestDay 52 = .ok (.iload 4, 2) := by decide +kernel
theorem dX8_latestDay_54 : decode cX8_latestDay 54 = .ok (.ireturn, 1) := by decide +kernel
theorem dX8_countPages_0 : decode cX8_countPages 0 = .ok (.aload_n 0, 1) := by decide +kernel
theorem dX8_countPages_1 : decode cX8_countPages 1 = .ok (.iload_n 1, 1) := by decide +kernel
theorem dX8_countPages_2 : decode cX8_countPages 2 = .ok (.invokevirtual 63, 3) := by decide +kernel
theorem dX8_countPages_5 : decode cX8_countPages 5 = .ok (.istore_n 2, 1) := by decide +kernel
theorem dX8_countPages_6 : decode cX8_countPages 6 = .ok (.iload_n 2, 1) := by decide +kernel
theorem dX8_countPages_7 : decode cX8_countPages 7 = .ok (.aload_n 0, 1) := by decide +kernel
theorem dX8_countPages_8 : decode cX8_countPages 8 = .ok (.getfield 31, 3) := by decide +kernel
theorem dX8_countPages_11 : decode cX8_countPages 11 = .ok (.iload_n 1, 1) := by decide +kernel
theorem dX8_countPages_12 : decode cX8_countPages 12 = .ok (.iaload, 1) := by decide +kernel
theorem dX8_countPages_13 : decode cX8_countPages 13 = .ok (.iadd, 1) := by decide +kernel
theorem dX8_countPages_14 : decode cX8_countPages 14 = .ok (.istore_n 3, 1) := by decide +kernel
theorem dX8_countPages_15 : decode cX8_countPages 15 = .ok (.iconst 0, 1) := by decide +kernel
theorem dX8_countPages_16 : decode cX8_countPages 16 = .ok (.istore 4, 2) := by decide +kernel
theorem dX8_countPages_18 : decode cX8_countPages 18 = .ok (.iload_n 2, 1) := by decide +kernel
theorem dX8_countPages_19 : decode cX8_countPages 19 = .ok (.istore 5, 2) := by decide +kernel
theorem dX8_countPages_21 : decode cX8_countPages 21 = .ok (.iload 5, 2) := by decide +kernel
theorem dX8_countPages_23 : decode cX8_countPages 23 = .ok (.iload_n 3, 1) := by decide +kernel
theorem dX8_countPages_24 : decode cX8_countPages 24 = .ok (.if_icmp .gt 26, 3) := by decide +kernel
theorem dX8_countPages_27 : decode cX8_countPages 27 = .ok (.iload 4, 2) := by decide +kernel
theorem dX8_countPages_29 : decode cX8_countPages 29 = .ok (.aload_n 0, 1) := by decide +kernel
theorem dX8_countPages_30 : decode cX8_countPages 30 = .ok (.getfield 34, 3) := by decide +kernel
theorem dX8_countPages_33 : decode cX8_countPages 33 = .ok (.aload_n 0, 1) := by decide +kernel
theorem dX8_countPages_34 : decode cX8_countPages 34 = .ok (.getfield 18, 3) := by decide +kernel
theorem dX8_countPages_37 : decode cX8_countPages 37 = .ok (.iload 5, 2) := by decide +kernel
theorem dX8_countPages_39 : decode cX8_countPages 39 = .ok (.iaload, 1) := by decide +kernel
theorem dX8_countPages_40 : decode cX8_countPages 40 = .ok (.iaload, 1) := by decide +kernel
theorem dX8_countPages_41 : decode cX8_countPages 41 = .ok (.iadd, 1) := by decide +kernel
theorem dX8_countPages_42 : decode cX8_countPages 42 = .ok (.istore 4, 2) := by decide +kernel
theorem dX8_countPages_44 : decode cX8_countPages 44 = .ok (.iinc 5 1, 3) := by decide +kernel
theorem dX8_countPages_47 : decode cX8_countPages 47 = .ok (.goto (-26), 3) := by decide +kernel
theorem dX8_countPages_50 : decode cX8_countPages 50 = .ok (.iload 4, 2) := by decide +kernel
theorem dX8_countPages_52 : decode cX8_countPages 52 = .ok (.ireturn, 1) := by decide +kernel
theorem dX8_countUnits_0 : decode cX8_countUnits 0 = .ok (.iconst 0, 1) := by decide +kernel
theorem dX8_countUnits_1 : decode cX8_countUnits 1 = .ok (.istore_n 1, 1) := by decide +kernel
theorem dX8_countUnits_2 : decode cX8_countUnits 2 = .ok (.iconst 0, 1) := by decide +kernel
theorem dX8_countUnits_3 : decode cX8_countUnits 3 = .ok (.istore_n 2, 1) := by decide +kernel
theorem dX8_countUnits_4 : decode cX8_countUnits 4 = .ok (.iload_n 2, 1) := by decide +kernel
theorem dX8_countUnits_5 : decode cX8_countUnits 5 = .ok (.aload_n 0, 1) := by decide +kernel
theorem dX8_countUnits_6 : decode cX8_countUnits 6 = .ok (.getfield 15, 3) := by decide +kernel
theorem dX8_countUnits_9 : decode cX8_countUnits 9 = .ok (.if_icmp .ge 26, 3) := by decide +kernel
theorem dX8_countUnits_12 : decode cX8_countUnits 12 = .ok (.aload_n 0, 1) := by decide +kernel
theorem dX8_countUnits_13 : decode cX8_countUnits 13 = .ok (.getfield 34, 3) := by decide +kernel
theorem dX8_countUnits_16 : decode cX8_countUnits 16 = .ok (.aload_n 0, 1) := by decide +kernel
theorem dX8_countUnits_17 : decode cX8_countUnits 17 = .ok (.getfield 18, 3) := by decide +kernel
theorem dX8_countUnits_20 : decode cX8_countUnits 20 = .ok (.iload_n 2, 1) := by decide +kernel
theorem dX8_countUnits_21 : decode cX8_countUnits 21 = .ok (.iaload, 1) := by decide +kernel
theorem dX8_countUnits_22 : decode cX8_countUnits 22 = .ok (.iaload, 1) := by decide +kernel
theorem dX8_countUnits_23 : decode cX8_countUnits 23 = .ok (.ifCond .le 6, 3) := by decide +kernel
theorem dX8_countUnits_29 : decode cX8_countUnits 29 = .ok (.iinc 2 1, 3) := by decide +kernel
theorem dX8_countUnits_32 : decode cX8_countUnits 32 = .ok (.goto (-28), 3) := by decide +kernel
theorem dX8_countUnits_35 : decode cX8_countUnits 35 = .ok (.iload_n 1, 1) := by decide +kernel
theorem dX8_countUnits_36 : decode cX8_countUnits 36 = .ok (.ireturn, 1) := by decide +kernel
theorem dX8_countChildren_0 : decode cX8_countChildren 0 = .ok (.iconst 0, 1) := by decide +kernel
theorem dX8_countChildren_1 : decode cX8_countChildren 1 = .ok (.istore_n 2, 1) := by decide +kernel
theorem dX8_countChildren_2 : decode cX8_countChildren 2 = .ok (.iconst 0, 1) := by decide +kernel
theorem dX8_countChildren_3 : decode cX8_countChildren 3 = .ok (.istore_n 3, 1) := by decide +kernel
theorem dX8_countChildren_4 : decode cX8_countChildren 4 = .ok (.iload_n 3, 1) := by decide +kernel
theorem dX8_countChildren_5 : decode cX8_countChildren 5 = .ok (.aload_n 0, 1) := by decide +kernel
theorem dX8_countChildren_6 : decode cX8_countChildren 6 = .ok (.getfield 15, 3) := by decide +kernel
theorem dX8_countChildren_9 : decode cX8_countChildren 9 = .ok (.if_icmp .ge 27, 3) := by decide +kernel
theorem dX8_countChildren_12 : decode cX8_countChildren 12 = .ok (.aload_n 0, 1) := by decide +kernel
theorem dX8_countChildren_13 : decode cX8_countChildren 13 = .ok (.getfield 28, 3) := by decide +kernel
theorem dX8_countChildren_16 : decode cX8_countChildren 16 = .ok (.aload_n 0, 1) := by decide +kernel
theorem dX8_countChildren_17 : decode cX8_countChildren 17 = .ok (.getfield 18, 3) := by decide +kernel
theorem dX8_countChildren_20 : decode cX8_countChildren 20 = .ok (.iload_n 3, 1) := by decide +kernel
theorem dX8_countChildren_21 : decode cX8_countChildren 21 = .ok (.iaload, 1) := by decide +kernel
theorem dX8_countChildren_22 : decode cX8_countChildren 22 = .ok (.iaload, 1) := by decide +kernel
theorem dX8_countChildren_23 : decode cX8_countChildren 23 = .ok (.iload_n 1, 1) := by decide +kernel
theorem dX8_countChildren_24 : decode cX8_countChildren 24 = .ok (.if_icmp .ne 6, 3) := by decide +kernel
theorem dX8_countChildren_30 : decode cX8_countChildren 30 = .ok (.iinc 3 1, 3) := by decide +kernel
theorem dX8_countChildren_33 : decode cX8_countChildren 33 = .ok (.goto (-29), 3) := by decide +kernel
theorem dX8_countChildren_36 : decode cX8_countChildren 36 = .ok (.iload_n 2, 1) := by decide +kernel
theorem dX8_countChildren_37 : decode cX8_countChildren 37 = .ok (.ireturn, 1) := by decide +kernel
theorem dX8_findChild_0 : decode cX8_findChild 0 = .ok (.iconst 0, 1) := by decide +kernel
theorem dX8_findChild_1 : decode cX8_findChild 1 = .ok (.istore_n 3, 1) := by decide +kernel
theorem dX8_findChild_2 : decode cX8_findChild 2 = .ok (.iconst 0, 1) := by decide +kernel
theorem dX8_findChild_3 : decode cX8_findChild 3 = .ok (.istore 4, 2) := by decide +kernel
theorem dX8_findChild_5 : decode cX8_findChild 5 = .ok (.iload 4, 2) := by decide +kernel
theorem dX8_findChild_7 : decode cX8_findChild 7 = .ok (.aload_n 0, 1) := by decide +kernel
theorem dX8_findChild_8 : decode cX8_findChild 8 = .ok (.getfield 15, 3) := by decide +kernel
theorem dX8_findChild_11 : decode cX8_findChild 11 = .ok (.if_icmp .ge 41, 3) := by decide +kernel
theorem dX8_findChild_14 : decode cX8_findChild 14 = .ok (.aload_n 0, 1) := by decide +kernel
theorem dX8_findChild_15 : decode cX8_findChild 15 = .ok (.getfield 28, 3) := by decide +kernel
theorem dX8_findChild_18 : decode cX8_findChild 18 = .ok (.aload_n 0, 1) := by decide +kernel
theorem dX8_findChild_19 : decode cX8_findChild 19 = .ok (.getfield 18, 3) := by decide +kernel
theorem dX8_findChild_22 : decode cX8_findChild 22 = .ok (.iload 4, 2) := by decide +kernel
theorem dX8_findChild_24 : decode cX8_findChild 24 = .ok (.iaload, 1) := by decide +kernel
theorem dX8_findChild_25 : decode cX8_findChild 25 = .ok (.iaload, 1) := by decide +kernel
theorem dX8_findChild_26 : decode cX8_findChild 26 = .ok (.iload_n 1, 1) := by decide +kernel
theorem dX8_findChild_27 : decode cX8_findChild 27 = .ok (.if_icmp .ne 19, 3) := by decide +kernel
theorem dX8_findChild_46 : decode cX8_findChild 46 = .ok (.iinc 4 1, 3) := by decide +kernel
theorem dX8_findChild_49 : decode cX8_findChild 49 = .ok (.goto (-44), 3) := by decide +kernel
theorem dX8_findChild_52 : decode cX8_findChild 52 = .ok (.iconst (-1), 1) := by decide +kernel
theorem dX8_findChild_53 : decode cX8_findChild 53 = .ok (.ireturn, 1) := by decide +kernel
theorem dX8_depth_0 : decode cX8_depth 0 = .ok (.iconst 0, 1) := by decide +kernel
theorem dX8_depth_1 : decode cX8_depth 1 = .ok (.istore_n 2, 1) := by decide +kernel
theorem dX8_depth_2 : decode cX8_depth 2 = .ok (.aload_n 0, 1) := by decide +kernel
theorem dX8_depth_3 : decode cX8_depth 3 = .ok (.getfield 28, 3) := by decide +kernel
theorem dX8_depth_6 : decode cX8_depth 6 = .ok (.iload_n 1, 1) := by decide +kernel
theorem dX8_depth_7 : decode cX8_depth 7 = .ok (.iaload, 1) := by decide +kernel
theorem dX8_depth_8 : decode cX8_depth 8 = .ok (.istore_n 3, 1) := by decide +kernel
theorem dX8_depth_9 : decode cX8_depth 9 = .ok (.iload_n 2, 1) := by decide +kernel
theorem dX8_depth_10 : decode cX8_depth 10 = .ok (.iconst 3, 1) := by decide +kernel
theorem dX8_depth_11 : decode cX8_depth 11 = .ok (.if_icmp .ge 21, 3) := by decide +kernel
theorem dX8_depth_14 : decode cX8_depth 14 = .ok (.iload_n 3, 1) := by decide +kernel
theorem dX8_depth_15 : decode cX8_depth 15 = .ok (.iconst (-1), 1) := by decide +kernel
theorem dX8_depth_16 : decode cX8_depth 16 = .ok (.if_icmp .eq 16, 3) := by decide +kernel
theorem dX8_depth_32 : decode cX8_depth 32 = .ok (.iload_n 2, 1) := by decide +kernel
theorem dX8_depth_33 : decode cX8_depth 33 = .ok (.ireturn, 1) := by decide +kernel
theorem dX6_decidingNode_0 : decode cX6_decidingNode 0 = .ok (.iconst (-1), 1) := by decide +kernel
theorem dX6_decidingNode_1 : decode cX6_decidingNode 1 = .ok (.istore_n 3, 1) := by decide +kernel
theorem dX6_decidingNode_2 : decode cX6_decidingNode 2 = .ok (.iconst 0, 1) := by decide +kernel
theorem dX6_decidingNode_3 : decode cX6_decidingNode 3 = .ok (.istore 4, 2) := by decide +kernel
theorem dX6_decidingNode_5 : decode cX6_decidingNode 5 = .ok (.iload_n 2, 1) := by decide +kernel
theorem dX6_decidingNode_6 : decode cX6_decidingNode 6 = .ok (.istore 5, 2) := by decide +kernel
theorem dX6_decidingNode_8 : decode cX6_decidingNode 8 = .ok (.iconst 0, 1) := by decide +kernel
theorem dX6_decidingNode_9 : decode cX6_decidingNode 9 = .ok (.istore 6, 2) := by decide +kernel
theorem dX6_decidingNode_11 : decode cX6_decidingNode 11 = .ok (.iload 6, 2) := by decide +kernel
theorem dX6_decidingNode_13 : decode cX6_decidingNode 13 = .ok (.iconst 3, 1) := by decide +kernel
theorem dX6_decidingNode_14 : decode cX6_decidingNode 14 = .ok (.if_icmp .gt 85, 3) := by decide +kernel
theorem dX6_decidingNode_17 : decode cX6_decidingNode 17 = .ok (.iload 5, 2) := by decide +kernel
theorem dX6_decidingNode_19 : decode cX6_decidingNode 19 = .ok (.iconst (-1), 1) := by decide +kernel
theorem dX6_decidingNode_20 : decode cX6_decidingNode 20 = .ok (.if_icmp .eq 79, 3) := by decide +kernel
theorem dX6_decidingNode_23 : decode cX6_decidingNode 23 = .ok (.aload_n 0, 1) := by decide +kernel
theorem dX6_decidingNode_24 : decode cX6_decidingNode 24 = .ok (.getfield 9, 3) := by decide +kernel
theorem dX6_decidingNode_27 : decode cX6_decidingNode 27 = .ok (.iload 5, 2) := by decide +kernel
theorem dX6_decidingNode_29 : decode cX6_decidingNode 29 = .ok (.iaload, 1) := by decide +kernel
theorem dX6_decidingNode_30 : decode cX6_decidingNode 30 = .ok (.iconst 2, 1) := by decide +kernel
theorem dX6_decidingNode_31 : decode cX6_decidingNode 31 = .ok (.if_icmp .eq 68, 3) := by decide +kernel
theorem dX6_decidingNode_34 : decode cX6_decidingNode 34 = .ok (.aload_n 0, 1) := by decide +kernel
theorem dX6_decidingNode_35 : decode cX6_decidingNode 35 = .ok (.getfield 9, 3) := by decide +kernel
theorem dX6_decidingNode_38 : decode cX6_decidingNode 38 = .ok (.iload 5, 2) := by decide +kernel
theorem dX6_decidingNode_40 : decode cX6_decidingNode 40 = .ok (.iaload, 1) := by decide +kernel
theorem dX6_decidingNode_41 : decode cX6_decidingNode 41 = .ok (.iconst (-1), 1) := by decide +kernel
theorem dX6_decidingNode_42 : decode cX6_decidingNode 42 = .ok (.if_icmp .eq 27, 3) := by decide +kernel
theorem dX6_decidingNode_69 : decode cX6_decidingNode 69 = .ok (.aload_n 0, 1) := by decide +kernel
theorem dX6_decidingNode_70 : decode cX6_decidingNode 70 = .ok (.getfield 9, 3) := by decide +kernel
theorem dX6_decidingNode_73 : decode cX6_decidingNode 73 = .ok (.iload 5, 2) := by decide +kernel
theorem dX6_decidingNode_75 : decode cX6_decidingNode 75 = .ok (.iaload, 1) := by decide +kernel
theorem dX6_decidingNode_76 : decode cX6_decidingNode 76 = .ok (.iconst 1, 1) := by decide +kernel
theorem dX6_decidingNode_77 : decode cX6_decidingNode 77 = .ok (.if_icmp .ne 7, 3) := by decide +kernel
theorem dX6_decidingNode_84 : decode cX6_decidingNode 84 = .ok (.aload_n 1, 1) := by decide +kernel
theorem dX6_decidingNode_85 : decode cX6_decidingNode 85 = .ok (.getfield 33, 3) := by decide +kernel
theorem dX6_decidingNode_88 : decode cX6_decidingNode 88 = .ok (.iload 5, 2) := by decide +kernel
theorem dX6_decidingNode_90 : decode cX6_decidingNode 90 = .ok (.iaload, 1) := by decide +kernel
theorem dX6_decidingNode_91 : decode cX6_decidingNode 91 = .ok (.istore 5, 2) := by decide +kernel
theorem dX6_decidingNode_93 : decode cX6_decidingNode 93 = .ok (.iinc 6 1, 3) := by decide +kernel
theorem dX6_decidingNode_96 : decode cX6_decidingNode 96 = .ok (.goto (-85), 3) := by decide +kernel
theorem dX6_decidingNode_99 : decode cX6_decidingNode 99 = .ok (.iload_n 3, 1) := by decide +kernel
theorem dX6_decidingNode_100 : decode cX6_decidingNode 100 = .ok (.ireturn, 1) := by decide +kernel
theorem dX6_term_0 : decode cX6_term 0 = .ok (.aload_n 0, 1) := by decide +kernel
theorem dX6_term_1 : decode cX6_term 1 = .ok (.aload_n 1, 1) := by decide +kernel
theorem dX6_term_2 : decode cX6_term 2 = .ok (.iload_n 2, 1) := by decide +kernel
theorem dX6_term_3 : decode cX6_term 3 = .ok (.invokevirtual 38, 3) := by decide +kernel
theorem dX6_term_6 : decode cX6_term 6 = .ok (.istore_n 3, 1) := by decide +kernel
theorem dX6_term_7 : decode cX6_term 7 = .ok (.iload_n 3, 1) := by decide +kernel
theorem dX6_term_8 : decode cX6_term 8 = .ok (.iconst (-1), 1) := by decide +kernel
theorem dX6_term_9 : decode cX6_term 9 = .ok (.if_icmp .ne 7, 3) := by decide +kernel
theorem dX6_term_12 : decode cX6_term 12 = .ok (.iconst 0, 1) := by decide +kernel
theorem dX6_term_13 : decode cX6_term 13 = .ok (.goto 9, 3) := by decide +kernel
theorem dX6_term_22 : decode cX6_term 22 = .ok (.ireturn, 1) := by decide +kernel
theorem dX6_lastDay_0 : decode cX6_lastDay 0 = .ok (.iload_n 0, 1) := by decide +kernel
theorem dX6_lastDay_1 : decode cX6_lastDay 1 = .ok (.ifCond .ne 5, 3) := by decide +kernel
theorem dX6_lastDay_4 : decode cX6_lastDay 4 = .ok (.iconst (-1), 1) := by decide +kernel
theorem dX6_lastDay_5 : decode cX6_lastDay 5 = .ok (.ireturn, 1) := by decide +kernel
theorem dX6_lastClosedDay_0 : decode cX6_lastClosedDay 0 = .ok (.aload_n 0, 1) := by decide +kernel
theorem dX6_lastClosedDay_1 : decode cX6_lastClosedDay 1 = .ok (.aload_n 1, 1) := by decide +kernel
theorem dX6_lastClosedDay_2 : decode cX6_lastClosedDay 2 = .ok (.iload_n 2, 1) := by decide +kernel
theorem dX6_lastClosedDay_3 : decode cX6_lastClosedDay 3 = .ok (.invokevirtual 42, 3) := by decide +kernel
theorem dX6_lastClosedDay_6 : decode cX6_lastClosedDay 6 = .ok (.aload_n 1, 1) := by decide +kernel
theorem dX6_lastClosedDay_7 : decode cX6_lastClosedDay 7 = .ok (.iload_n 2, 1) := by decide +kernel
theorem dX6_lastClosedDay_8 : decode cX6_lastClosedDay 8 = .ok (.invokevirtual 45, 3) := by decide +kernel
theorem dX6_lastClosedDay_11 : decode cX6_lastClosedDay 11 = .ok (.invokestatic 49, 3) := by decide +kernel
theorem dX6_lastClosedDay_14 : decode cX6_lastClosedDay 14 = .ok (.ireturn, 1) := by decide +kernel
theorem dX6_openSet_0 : decode cX6_openSet 0 = .ok (.aload_n 1, 1) := by decide +kernel
theorem dX6_openSet_1 : decode cX6_openSet 1 = .ok (.getfield 54, 3) := by decide +kernel
theorem dX6_openSet_4 : decode cX6_openSet 4 = .ok (.iload_n 2, 1) := by decide +kernel
theorem dX6_openSet_5 : decode cX6_openSet 5 = .ok (.iaload, 1) := by decide +kernel
theorem dX6_openSet_6 : decode cX6_openSet 6 = .ok (.ifCond .eq 13, 3) := by decide +kernel
theorem dX6_openSet_19 : decode cX6_openSet 19 = .ok (.iconst 0, 1) := by decide +kernel
theorem dX6_openSet_20 : decode cX6_openSet 20 = .ok (.ireturn, 1) := by decide +kernel
theorem dX0_canOpen_0 : decode cX0_canOpen 0 = .ok (.aload_n 0, 1) := by decide +kernel
theorem dX0_canOpen_1 : decode cX0_canOpen 1 = .ok (.getfield 15, 3) := by decide +kernel
theorem dX0_canOpen_4 : decode cX0_canOpen 4 = .ok (.bipush 10, 2) := by decide +kernel
theorem dX0_canOpen_6 : decode cX0_canOpen 6 = .ok (.if_icmp .ge 16, 3) := by decide +kernel
theorem dX0_canOpen_9 : decode cX0_canOpen 9 = .ok (.aload_n 0, 1) := by decide +kernel
theorem dX0_canOpen_10 : decode cX0_canOpen 10 = .ok (.getfield 9, 3) := by decide +kernel
theorem dX0_canOpen_13 : decode cX0_canOpen 13 = .ok (.bipush 30, 2) := by decide +kernel
theorem dX0_canOpen_15 : decode cX0_canOpen 15 = .ok (.if_icmp .ge 7, 3) := by decide +kernel
theorem dX0_canOpen_18 : decode cX0_canOpen 18 = .ok (.iconst 1, 1) := by decide +kernel
theorem dX0_canOpen_19 : decode cX0_canOpen 19 = .ok (.goto 4, 3) := by decide +kernel
theorem dX0_canOpen_23 : decode cX0_canOpen 23 = .ok (.ireturn, 1) := by decide +kernel
theorem dX3_unitOf_0 : decode cX3_unitOf 0 = .ok (.iconst 0, 1) := by decide +kernel
theorem dX3_unitOf_1 : decode cX3_unitOf 1 = .ok (.istore_n 3, 1) := by decide +kernel
theorem dX3_unitOf_2 : decode cX3_unitOf 2 = .ok (.iconst 0, 1) := by decide +kernel
theorem dX3_unitOf_3 : decode cX3_unitOf 3 = .ok (.istore 4, 2) := by decide +kernel
theorem dX3_unitOf_5 : decode cX3_unitOf 5 = .ok (.iload 4, 2) := by decide +kernel
theorem dX3_unitOf_7 : decode cX3_unitOf 7 = .ok (.aload_n 0, 1) := by decide +kernel
theorem dX3_unitOf_8 : decode cX3_unitOf 8 = .ok (.getfield 9, 3) := by decide +kernel
theorem dX3_unitOf_11 : decode cX3_unitOf 11 = .ok (.if_icmp .ge 36, 3) := by decide +kernel
theorem dX3_unitOf_47 : decode cX3_unitOf 47 = .ok (.iconst (-1), 1) := by decide +kernel
theorem dX3_unitOf_48 : decode cX3_unitOf 48 = .ok (.ireturn, 1) := by decide +kernel
theorem dX3_countReferring_0 : decode cX3_countReferring 0 = .ok (.iconst 0, 1) := by decide +kernel
theorem dX3_countReferring_1 : decode cX3_countReferring 1 = .ok (.istore_n 2, 1) := by decide +kernel
theorem dX3_countReferring_2 : decode cX3_countReferring 2 = .ok (.iconst 0, 1) := by decide +kernel
theorem dX3_countReferring_3 : decode cX3_countReferring 3 = .ok (.istore_n 3, 1) := by decide +kernel
theorem dX3_countReferring_4 : decode cX3_countReferring 4 = .ok (.iload_n 3, 1) := by decide +kernel
theorem dX3_countReferring_5 : decode cX3_countReferring 5 = .ok (.aload_n 0, 1) := by decide +kernel
theorem dX3_countReferring_6 : decode cX3_countReferring 6 = .ok (.getfield 9, 3) := by decide +kernel
theorem dX3_countReferring_9 : decode cX3_countReferring 9 = .ok (.if_icmp .ge 25, 3) := by decide +kernel
theorem dX3_countReferring_34 : decode cX3_countReferring 34 = .ok (.iload_n 2, 1) := by decide +kernel
theorem dX3_countReferring_35 : decode cX3_countReferring 35 = .ok (.ireturn, 1) := by decide +kernel
theorem dX1_countOf_0 : decode cX1_countOf 0 = .ok (.iconst 0, 1) := by decide +kernel
theorem dX1_countOf_1 : decode cX1_countOf 1 = .ok (.istore_n 2, 1) := by decide +kernel
theorem dX1_countOf_2 : decode cX1_countOf 2 = .ok (.iconst 0, 1) := by decide +kernel
theorem dX1_countOf_3 : decode cX1_countOf 3 = .ok (.istore_n 3, 1) := by decide +kernel
theorem dX1_countOf_4 : decode cX1_countOf 4 = .ok (.iload_n 3, 1) := by decide +kernel
theorem dX1_countOf_5 : decode cX1_countOf 5 = .ok (.aload_n 0, 1) := by decide +kernel
theorem dX1_countOf_6 : decode cX1_countOf 6 = .ok (.getfield 9, 3) := by decide +kernel
theorem dX1_countOf_9 : decode cX1_countOf 9 = .ok (.if_icmp .ge 22, 3) := by decide +kernel
theorem dX1_countOf_31 : decode cX1_countOf 31 = .ok (.iload_n 2, 1) := by decide +kernel
theorem dX1_countOf_32 : decode cX1_countOf 32 = .ok (.ireturn, 1) := by decide +kernel
theorem dX1_countPresent_0 : decode cX1_countPresent 0 = .ok (.aload_n 0, 1) := by decide +kernel
theorem dX1_countPresent_1 : decode cX1_countPresent 1 = .ok (.getfield 9, 3) := by decide +kernel
theorem dX1_countPresent_4 : decode cX1_countPresent 4 = .ok (.aload_n 0, 1) := by decide +kernel
theorem dX1_countPresent_5 : decode cX1_countPresent 5 = .ok (.iconst (-1), 1) := by decide +kernel
theorem dX1_countPresent_6 : decode cX1_countPresent 6 = .ok (.invokevirtual 34, 3) := by decide +kernel
theorem dX1_countPresent_9 : decode cX1_countPresent 9 = .ok (.isub, 1) := by decide +kernel
theorem dX1_countPresent_10 : decode cX1_countPresent 10 = .ok (.ireturn, 1) := by decide +kernel
theorem dJ5_length_8abf5_0 : decode cJ5_length_8abf5 0 = .ok (.aload_n 0, 1) := by decide +kernel
theorem dJ5_length_8abf5_1 : decode cJ5_length_8abf5 1 = .ok (.getfield 79, 3) := by decide +kernel
theorem dJ5_length_8abf5_4 : decode cJ5_length_8abf5 4 = .ok (.ireturn, 1) := by decide +kernel
theorem dJ4_length_8abf5_0 : decode cJ4_length_8abf5 0 = .ok (.aload_n 0, 1) := by decide +kernel
theorem dJ4_length_8abf5_1 : decode cJ4_length_8abf5 1 = .ok (.invokespecial 343, 3) := by decide +kernel
theorem dJ4_length_8abf5_4 : decode cJ4_length_8abf5 4 = .ok (.ireturn, 1) := by decide +kernel
theorem dX5_countOn_0 : decode cX5_countOn 0 = .ok (.iconst 0, 1) := by decide +kernel
theorem dX5_countOn_1 : decode cX5_countOn 1 = .ok (.istore_n 2, 1) := by decide +kernel
theorem dX5_countOn_2 : decode cX5_countOn 2 = .ok (.iconst 0, 1) := by decide +kernel
theorem dX5_countOn_3 : decode cX5_countOn 3 = .ok (.istore_n 3, 1) := by decide +kernel
theorem dX5_countOn_4 : decode cX5_countOn 4 = .ok (.iload_n 3, 1) := by decide +kernel
theorem dX5_countOn_5 : decode cX5_countOn 5 = .ok (.aload_n 0, 1) := by decide +kernel
theorem dX5_countOn_6 : decode cX5_countOn 6 = .ok (.getfield 9, 3) := by decide +kernel
theorem dX5_countOn_9 : decode cX5_countOn 9 = .ok (.if_icmp .ge 22, 3) := by decide +kernel
theorem dX5_countOn_31 : decode cX5_countOn 31 = .ok (.iload_n 2, 1) := by decide +kernel
theorem dX5_countOn_32 : decode cX5_countOn 32 = .ok (.ireturn, 1) := by decide +kernel
theorem dJ6_bitCount_0f7a4_0 : decode cJ6_bitCount_0f7a4 0 = .ok (.iload_n 0, 1) := by decide +kernel
theorem dJ6_bitCount_0f7a4_1 : decode cJ6_bitCount_0f7a4 1 = .ok (.iload_n 0, 1) := by decide +kernel
theorem dJ6_bitCount_0f7a4_2 : decode cJ6_bitCount_0f7a4 2 = .ok (.iconst 1, 1) := by decide +kernel
theorem dJ6_bitCount_0f7a4_3 : decode cJ6_bitCount_0f7a4 3 = .ok (.iushr, 1) := by decide +kernel
theorem dJ6_bitCount_0f7a4_4 : decode cJ6_bitCount_0f7a4 4 = .ok (.ldc_w 265, 3) := by decide +kernel
theorem dJ6_bitCount_0f7a4_7 : decode cJ6_bitCount_0f7a4 7 = .ok (.iand, 1) := by decide +kernel
theorem dJ6_bitCount_0f7a4_8 : decode cJ6_bitCount_0f7a4 8 = .ok (.isub, 1) := by decide +kernel
theorem dJ6_bitCount_0f7a4_9 : decode cJ6_bitCount_0f7a4 9 = .ok (.istore_n 0, 1) := by decide +kernel
theorem dJ6_bitCount_0f7a4_10 : decode cJ6_bitCount_0f7a4 10 = .ok (.iload_n 0, 1) := by decide +kernel
theorem dJ6_bitCount_0f7a4_11 : decode cJ6_bitCount_0f7a4 11 = .ok (.ldc_w 266, 3) := by decide +kernel
theorem dJ6_bitCount_0f7a4_14 : decode cJ6_bitCount_0f7a4 14 = .ok (.iand, 1) := by decide +kernel
theorem dJ6_bitCount_0f7a4_15 : decode cJ6_bitCount_0f7a4 15 = .ok (.iload_n 0, 1) := by decide +kernel
theorem dJ6_bitCount_0f7a4_16 : decode cJ6_bitCount_0f7a4 16 = .ok (.iconst 2, 1) := by decide +kernel
theorem dJ6_bitCount_0f7a4_17 : decode cJ6_bitCount_0f7a4 17 = .ok (.iushr, 1) := by decide +kernel
theorem dJ6_bitCount_0f7a4_18 : decode cJ6_bitCount_0f7a4 18 = .ok (.ldc_w 266, 3) := by decide +kernel
theorem dJ6_bitCount_0f7a4_21 : decode cJ6_bitCount_0f7a4 21 = .ok (.iand, 1) := by decide +kernel
theorem dJ6_bitCount_0f7a4_22 : decode cJ6_bitCount_0f7a4 22 = .ok (.iadd, 1) := by decide +kernel
theorem dJ6_bitCount_0f7a4_23 : decode cJ6_bitCount_0f7a4 23 = .ok (.istore_n 0, 1) := by decide +kernel
theorem dJ6_bitCount_0f7a4_24 : decode cJ6_bitCount_0f7a4 24 = .ok (.iload_n 0, 1) := by decide +kernel
theorem dJ6_bitCount_0f7a4_25 : decode cJ6_bitCount_0f7a4 25 = .ok (.iload_n 0, 1) := by decide +kernel
theorem dJ6_bitCount_0f7a4_26 : decode cJ6_bitCount_0f7a4 26 = .ok (.iconst 4, 1) := by decide +kernel
theorem dJ6_bitCount_0f7a4_27 : decode cJ6_bitCount_0f7a4 27 = .ok (.iushr, 1) := by decide +kernel
theorem dJ6_bitCount_0f7a4_28 : decode cJ6_bitCount_0f7a4 28 = .ok (.iadd, 1) := by decide +kernel
theorem dJ6_bitCount_0f7a4_29 : decode cJ6_bitCount_0f7a4 29 = .ok (.ldc_w 267, 3) := by decide +kernel
theorem dJ6_bitCount_0f7a4_32 : decode cJ6_bitCount_0f7a4 32 = .ok (.iand, 1) := by decide +kernel
theorem dJ6_bitCount_0f7a4_33 : decode cJ6_bitCount_0f7a4 33 = .ok (.istore_n 0, 1) := by decide +kernel
theorem dJ6_bitCount_0f7a4_34 : decode cJ6_bitCount_0f7a4 34 = .ok (.iload_n 0, 1) := by decide +kernel
theorem dJ6_bitCount_0f7a4_35 : decode cJ6_bitCount_0f7a4 35 = .ok (.iload_n 0, 1) := by decide +kernel
theorem dJ6_bitCount_0f7a4_36 : decode cJ6_bitCount_0f7a4 36 = .ok (.bipush 8, 2) := by decide +kernel
theorem dJ6_bitCount_0f7a4_38 : decode cJ6_bitCount_0f7a4 38 = .ok (.iushr, 1) := by decide +kernel
theorem dJ6_bitCount_0f7a4_39 : decode cJ6_bitCount_0f7a4 39 = .ok (.iadd, 1) := by decide +kernel
theorem dJ6_bitCount_0f7a4_40 : decode cJ6_bitCount_0f7a4 40 = .ok (.istore_n 0, 1) := by decide +kernel
theorem dJ6_bitCount_0f7a4_41 : decode cJ6_bitCount_0f7a4 41 = .ok (.iload_n 0, 1) := by decide +kernel
theorem dJ6_bitCount_0f7a4_42 : decode cJ6_bitCount_0f7a4 42 = .ok (.iload_n 0, 1) := by decide +kernel
theorem dJ6_bitCount_0f7a4_43 : decode cJ6_bitCount_0f7a4 43 = .ok (.bipush 16, 2) := by decide +kernel
theorem dJ6_bitCount_0f7a4_45 : decode cJ6_bitCount_0f7a4 45 = .ok (.iushr, 1) := by decide +kernel
theorem dJ6_bitCount_0f7a4_46 : decode cJ6_bitCount_0f7a4 46 = .ok (.iadd, 1) := by decide +kernel
theorem dJ6_bitCount_0f7a4_47 : decode cJ6_bitCount_0f7a4 47 = .ok (.istore_n 0, 1) := by decide +kernel
theorem dJ6_bitCount_0f7a4_48 : decode cJ6_bitCount_0f7a4 48 = .ok (.iload_n 0, 1) := by decide +kernel
theorem dJ6_bitCount_0f7a4_49 : decode cJ6_bitCount_0f7a4 49 = .ok (.bipush 63, 2) := by decide +kernel
theorem dJ6_bitCount_0f7a4_51 : decode cJ6_bitCount_0f7a4 51 = .ok (.iand, 1) := by decide +kernel
theorem dJ6_bitCount_0f7a4_52 : decode cJ6_bitCount_0f7a4 52 = .ok (.ireturn, 1) := by decide +kernel
theorem dX5_countReaders_0 : decode cX5_countReaders 0 = .ok (.iconst 0, 1) := by decide +kernel
theorem dX5_countReaders_1 : decode cX5_countReaders 1 = .ok (.istore_n 2, 1) := by decide +kernel
theorem dX5_countReaders_2 : decode cX5_countReaders 2 = .ok (.iconst 0, 1) := by decide +kernel
theorem dX5_countReaders_3 : decode cX5_countReaders 3 = .ok (.istore_n 3, 1) := by decide +kernel
theorem dX5_countReaders_4 : decode cX5_countReaders 4 = .ok (.iload_n 3, 1) := by decide +kernel
theorem dX5_countReaders_5 : decode cX5_countReaders 5 = .ok (.aload_n 0, 1) := by decide +kernel
theorem dX5_countReaders_6 : decode cX5_countReaders 6 = .ok (.getfield 9, 3) := by decide +kernel
theorem dX5_countReaders_9 : decode cX5_countReaders 9 = .ok (.if_icmp .ge 30, 3) := by decide +kernel
theorem dX5_countReaders_39 : decode cX5_countReaders 39 = .ok (.iload_n 2, 1) := by decide +kernel
theorem dX5_countReaders_40 : decode cX5_countReaders 40 = .ok (.invokestatic 44, 3) := by decide +kernel
theorem dX5_countReaders_43 : decode cX5_countReaders 43 = .ok (.ireturn, 1) := by decide +kernel
theorem dX5_countShowing_0 : decode cX5_countShowing 0 = .ok (.iconst 0, 1) := by decide +kernel
theorem dX5_countShowing_1 : decode cX5_countShowing 1 = .ok (.istore_n 2, 1) := by decide +kernel
theorem dX5_countShowing_2 : decode cX5_countShowing 2 = .ok (.iconst 0, 1) := by decide +kernel
theorem dX5_countShowing_3 : decode cX5_countShowing 3 = .ok (.istore_n 3, 1) := by decide +kernel
theorem dX5_countShowing_4 : decode cX5_countShowing 4 = .ok (.iload_n 3, 1) := by decide +kernel
theorem dX5_countShowing_5 : decode cX5_countShowing 5 = .ok (.aload_n 0, 1) := by decide +kernel
theorem dX5_countShowing_6 : decode cX5_countShowing 6 = .ok (.getfield 9, 3) := by decide +kernel
theorem dX5_countShowing_9 : decode cX5_countShowing 9 = .ok (.if_icmp .ge 22, 3) := by decide +kernel
theorem dX5_countShowing_31 : decode cX5_countShowing 31 = .ok (.iload_n 2, 1) := by decide +kernel
theorem dX5_countShowing_32 : decode cX5_countShowing 32 = .ok (.ireturn, 1) := by decide +kernel
theorem dX7_countAllShownPages_0 : decode cX7_countAllShownPages 0 = .ok (.iconst 0, 1) := by decide +kernel
theorem dX7_countAllShownPages_1 : decode cX7_countAllShownPages 1 = .ok (.istore_n 1, 1) := by decide +kernel
theorem dX7_countAllShownPages_2 : decode cX7_countAllShownPages 2 = .ok (.iconst 0, 1) := by decide +kernel
theorem dX7_countAllShownPages_3 : decode cX7_countAllShownPages 3 = .ok (.istore_n 2, 1) := by decide +kernel
theorem dX7_countAllShownPages_4 : decode cX7_countAllShownPages 4 = .ok (.iload_n 2, 1) := by decide +kernel
theorem dX7_countAllShownPages_5 : decode cX7_countAllShownPages 5 = .ok (.aload_n 0, 1) := by decide +kernel
theorem dX7_countAllShownPages_6 : decode cX7_countAllShownPages 6 = .ok (.getfield 42, 3) := by decide +kernel
theorem dX7_countAllShownPages_9 : decode cX7_countAllShownPages 9 = .ok (.getfield 152, 3) := by decide +kernel
theorem dX7_countAllShownPages_12 : decode cX7_countAllShownPages 12 = .ok (.if_icmp .ge 17, 3) := by decide +kernel
theorem dX7_countAllShownPages_29 : decode cX7_countAllShownPages 29 = .ok (.iload_n 1, 1) := by decide +kernel
theorem dX7_countAllShownPages_30 : decode cX7_countAllShownPages 30 = .ok (.ireturn, 1) := by decide +kernel
theorem dX7_countOpenUnits_0 : decode cX7_countOpenUnits 0 = .ok (.iconst 0, 1) := by decide +kernel
theorem dX7_countOpenUnits_1 : decode cX7_countOpenUnits 1 = .ok (.istore_n 2, 1) := by decide +kernel
theorem dX7_countOpenUnits_2 : decode cX7_countOpenUnits 2 = .ok (.iconst 0, 1) := by decide +kernel
theorem dX7_countOpenUnits_3 : decode cX7_countOpenUnits 3 = .ok (.istore_n 3, 1) := by decide +kernel
theorem dX7_countOpenUnits_4 : decode cX7_countOpenUnits 4 = .ok (.iload_n 3, 1) := by decide +kernel
theorem dX7_countOpenUnits_5 : decode cX7_countOpenUnits 5 = .ok (.aload_n 0, 1) := by decide +kernel
theorem dX7_countOpenUnits_6 : decode cX7_countOpenUnits 6 = .ok (.getfield 12, 3) := by decide +kernel
theorem dX7_countOpenUnits_9 : decode cX7_countOpenUnits 9 = .ok (.getfield 158, 3) := by decide +kernel
theorem dX7_countOpenUnits_12 : decode cX7_countOpenUnits 12 = .ok (.if_icmp .ge 47, 3) := by decide +kernel
theorem dX7_countOpenUnits_15 : decode cX7_countOpenUnits 15 = .ok (.aload_n 0, 1) := by decide +kernel
theorem dX7_countOpenUnits_16 : decode cX7_countOpenUnits 16 = .ok (.getfield 12, 3) := by decide +kernel
theorem dX7_countOpenUnits_19 : decode cX7_countOpenUnits 19 = .ok (.getfield 161, 3) := by decide +kernel
theorem dX7_countOpenUnits_22 : decode cX7_countOpenUnits 22 = .ok (.iload_n 3, 1) := by decide +kernel
theorem dX7_countOpenUnits_23 : decode cX7_countOpenUnits 23 = .ok (.iaload, 1) := by decide +kernel
theorem dX7_countOpenUnits_24 : decode cX7_countOpenUnits 24 = .ok (.istore 4, 2) := by decide +kernel
theorem dX7_countOpenUnits_26 : decode cX7_countOpenUnits 26 = .ok (.aload_n 0, 1) := by decide +kernel
theorem dX7_countOpenUnits_27 : decode cX7_countOpenUnits 27 = .ok (.getfield 12, 3) := by decide +kernel
theorem dX7_countOpenUnits_30 : decode cX7_countOpenUnits 30 = .ok (.getfield 97, 3) := by decide +kernel
theorem dX7_countOpenUnits_33 : decode cX7_countOpenUnits 33 = .ok (.iload 4, 2) := by decide +kernel
theorem dX7_countOpenUnits_35 : decode cX7_countOpenUnits 35 = .ok (.iaload, 1) := by decide +kernel
theorem dX7_countOpenUnits_36 : decode cX7_countOpenUnits 36 = .ok (.ifCond .le 17, 3) := by decide +kernel
theorem dX7_countOpenUnits_53 : decode cX7_countOpenUnits 53 = .ok (.iinc 3 1, 3) := by decide +kernel
theorem dX7_countOpenUnits_56 : decode cX7_countOpenUnits 56 = .ok (.goto (-52), 3) := by decide +kernel
theorem dX7_countOpenUnits_59 : decode cX7_countOpenUnits 59 = .ok (.iload_n 2, 1) := by decide +kernel
theorem dX7_countOpenUnits_60 : decode cX7_countOpenUnits 60 = .ok (.ireturn, 1) := by decide +kernel
theorem dX7_countOpenPages_0 : decode cX7_countOpenPages 0 = .ok (.iconst 0, 1) := by decide +kernel
theorem dX7_countOpenPages_1 : decode cX7_countOpenPages 1 = .ok (.istore_n 2, 1) := by decide +kernel
theorem dX7_countOpenPages_2 : decode cX7_countOpenPages 2 = .ok (.iconst 0, 1) := by decide +kernel
theorem dX7_countOpenPages_3 : decode cX7_countOpenPages 3 = .ok (.istore_n 3, 1) := by decide +kernel
theorem dX7_countOpenPages_4 : decode cX7_countOpenPages 4 = .ok (.iload_n 3, 1) := by decide +kernel
theorem dX7_countOpenPages_5 : decode cX7_countOpenPages 5 = .ok (.aload_n 0, 1) := by decide +kernel
theorem dX7_countOpenPages_6 : decode cX7_countOpenPages 6 = .ok (.getfield 12, 3) := by decide +kernel
theorem dX7_countOpenPages_9 : decode cX7_countOpenPages 9 = .ok (.getfield 158, 3) := by decide +kernel
theorem dX7_countOpenPages_12 : decode cX7_countOpenPages 12 = .ok (.if_icmp .ge 36, 3) := by decide +kernel
theorem dX7_countOpenPages_15 : decode cX7_countOpenPages 15 = .ok (.iload_n 2, 1) := by decide +kernel
theorem dX7_countOpenPages_16 : decode cX7_countOpenPages 16 = .ok (.aload_n 0, 1) := by decide +kernel
theorem dX7_countOpenPages_17 : decode cX7_countOpenPages 17 = .ok (.getfield 21, 3) := by decide +kernel
theorem dX7_countOpenPages_20 : decode cX7_countOpenPages 20 = .ok (.aload_n 0, 1) := by decide +kernel
theorem dX7_countOpenPages_21 : decode cX7_countOpenPages 21 = .ok (.getfield 12, 3) := by decide +kernel
theorem dX7_countOpenPages_24 : decode cX7_countOpenPages 24 = .ok (.aload_n 0, 1) := by decide +kernel
theorem dX7_countOpenPages_25 : decode cX7_countOpenPages 25 = .ok (.getfield 12, 3) := by decide +kernel
theorem dX7_countOpenPages_28 : decode cX7_countOpenPages 28 = .ok (.getfield 161, 3) := by decide +kernel
theorem dX7_countOpenPages_31 : decode cX7_countOpenPages 31 = .ok (.iload_n 3, 1) := by decide +kernel
theorem dX7_countOpenPages_32 : decode cX7_countOpenPages 32 = .ok (.iaload, 1) := by decide +kernel
theorem dX7_countOpenPages_33 : decode cX7_countOpenPages 33 = .ok (.iload_n 1, 1) := by decide +kernel
theorem dX7_countOpenPages_34 : decode cX7_countOpenPages 34 = .ok (.invokevirtual 83, 3) := by decide +kernel
theorem dX7_countOpenPages_37 : decode cX7_countOpenPages 37 = .ok (.invokestatic 147, 3) := by decide +kernel
theorem dX7_countOpenPages_40 : decode cX7_countOpenPages 40 = .ok (.iadd, 1) := by decide +kernel
theorem dX7_countOpenPages_41 : decode cX7_countOpenPages 41 = .ok (.istore_n 2, 1) := by decide +kernel
theorem dX7_countOpenPages_42 : decode cX7_countOpenPages 42 = .ok (.iinc 3 1, 3) := by decide +kernel
theorem dX7_countOpenPages_45 : decode cX7_countOpenPages 45 = .ok (.goto (-41), 3) := by decide +kernel
theorem dX7_countOpenPages_48 : decode cX7_countOpenPages 48 = .ok (.iload_n 2, 1) := by decide +kernel
theorem dX7_countOpenPages_49 : decode cX7_countOpenPages 49 = .ok (.ireturn, 1) := by decide +kernel
theorem fz_lt (a b : Int32) : a < b ↔ a.toInt < b.toInt := Int32.lt_iff_toInt_lt
theorem fz_le (a b : Int32) : a ≤ b ↔ a.toInt ≤ b.toInt := Int32.le_iff_toInt_le
theorem fz_eq (a b : Int32) : a = b ↔ a.toInt = b.toInt := Int32.toInt_inj.symm
theorem fl_m1 : ((-1) : Int32).toInt = -1 := by decide
theorem fl_0 : (0 : Int32).toInt = 0 := by decide
theorem fl_1 : (1 : Int32).toInt = 1 := by decide
theorem fl_3 : (3 : Int32).toInt = 3 := by decide
theorem fl_20 : (20 : Int32).toInt = 20 := by decide
theorem fl_200 : (200 : Int32).toInt = 200 := by decide
theorem fl_9999 : (9999 : Int32).toInt = 9999 := by decide
theorem fq_0 (x0 : Int32) (h0 : x0 < 0) : ¬ (x0 = 0) := by first | decide | (simp only [fz_lt, fz_le, fz_eq, true_and, and_true, false_and, and_false, true_or, or_true, false_or, or_false, not_true_eq_false, not_false_eq_true, fl_m1, fl_0, fl_1, fl_3, fl_20, fl_200, fl_9999] at *; omega) | (simp only [fz_lt, fz_le, fz_eq, true_and, and_true, false_and, and_false, true_or, or_true, false_or, or_false, not_true_eq_false, not_false_eq_true, fl_m1, fl_0, fl_1, fl_3, fl_20, fl_200, fl_9999] at *; done) | omega
theorem fq_1 (x0 : Int32) (h0 : 1 ≤ x0) : ¬ (x0 = 0) := by first | decide | (simp only [fz_lt, fz_le, fz_eq, true_and, and_true, false_and, and_false, true_or, or_true, false_or, or_false, not_true_eq_false, not_false_eq_true, fl_m1, fl_0, fl_1, fl_3, fl_20, fl_200, fl_9999] at *; omega) | (simp only [fz_lt, fz_le, fz_eq, true_and, and_true, false_and, and_false, true_or, or_true, false_or, or_false, not_true_eq_false, not_false_eq_true, fl_m1, fl_0, fl_1, fl_3, fl_20, fl_200, fl_9999] at *; done) | omega
theorem fq_2 (x0 : Int32) (h0 : ¬ (x0 < 0)) (h1 : ¬ (1 ≤ x0)) : x0 = 0 := by first | decide | (simp only [fz_lt, fz_le, fz_eq, true_and, and_true, false_and, and_false, true_or, or_true, false_or, or_false, not_true_eq_false, not_false_eq_true, fl_m1, fl_0, fl_1, fl_3, fl_20, fl_200, fl_9999] at *; omega) | (simp only [fz_lt, fz_le, fz_eq, true_and, and_true, false_and, and_false, true_or, or_true, false_or, or_false, not_true_eq_false, not_false_eq_true, fl_m1, fl_0, fl_1, fl_3, fl_20, fl_200, fl_9999] at *; done) | omega
theorem fq_3  : (0 : Int32) = 0 := by first | decide | (simp only [fz_lt, fz_le, fz_eq, true_and, and_true, false_and, and_false, true_or, or_true, false_or, or_false, not_true_eq_false, not_false_eq_true, fl_m1, fl_0, fl_1, fl_3, fl_20, fl_200, fl_9999] at *; omega) | (simp only [fz_lt, fz_le, fz_eq, true_and, and_true, false_and, and_false, true_or, or_true, false_or, or_false, not_true_eq_false, not_false_eq_true, fl_m1, fl_0, fl_1, fl_3, fl_20, fl_200, fl_9999] at *; done) | omega
theorem fq_4 (x0 : Int32) (h0 : x0 < 0) : ¬ ((0 ≤ x0 ∧ x0 ≤ 9999)) := by first | decide | (simp only [fz_lt, fz_le, fz_eq, true_and, and_true, false_and, and_false, true_or, or_true, false_or, or_false, not_true_eq_false, not_false_eq_true, fl_m1, fl_0, fl_1, fl_3, fl_20, fl_200, fl_9999] at *; omega) | (simp only [fz_lt, fz_le, fz_eq, true_and, and_true, false_and, and_false, true_or, or_true, false_or, or_false, not_true_eq_false, not_false_eq_true, fl_m1, fl_0, fl_1, fl_3, fl_20, fl_200, fl_9999] at *; done) | omega
theorem fq_5 (x0 : Int32) (h0 : 9999 < x0) : ¬ ((0 ≤ x0 ∧ x0 ≤ 9999)) := by first | decide | (simp only [fz_lt, fz_le, fz_eq, true_and, and_true, false_and, and_false, true_or, or_true, false_or, or_false, not_true_eq_false, not_false_eq_true, fl_m1, fl_0, fl_1, fl_3, fl_20, fl_200, fl_9999] at *; omega) | (simp only [fz_lt, fz_le, fz_eq, true_and, and_true, false_and, and_false, true_or, or_true, false_or, or_false, not_true_eq_false, not_false_eq_true, fl_m1, fl_0, fl_1, fl_3, fl_20, fl_200, fl_9999] at *; done) | omega
theorem fq_6 (x0 : Int32) (h0 : ¬ (x0 < 0)) (h1 : ¬ (9999 < x0)) : (0 ≤ x0 ∧ x0 ≤ 9999) := by first | decide | (simp only [fz_lt, fz_le, fz_eq, true_and, and_true, false_and, and_false, true_or, or_true, false_or, or_false, not_true_eq_false, not_false_eq_true, fl_m1, fl_0, fl_1, fl_3, fl_20, fl_200, fl_9999] at *; omega) | (simp only [fz_lt, fz_le, fz_eq, true_and, and_true, false_and, and_false, true_or, or_true, false_or, or_false, not_true_eq_false, not_false_eq_true, fl_m1, fl_0, fl_1, fl_3, fl_20, fl_200, fl_9999] at *; done) | omega
theorem fq_7 (x0 x1 x2 x3 : Int32) (h0 : x0 < 1) : ¬ (((1 ≤ x0 ∧ x0 ≤ 3) ∧ 0 ≤ x1 ∧ ((x0 = 1 ∧ x1 ≤ 0) ∨ (¬ (x0 = 1) ∧ x1 ≤ 20)) ∧ (x2 = (-1) ∨ ((0 ≤ x2 ∧ x2 ≤ 9999) ∧ (0 ≤ x3 ∧ x3 ≤ 9999) ∧ x2 ≤ x3)))) := by first | decide | (simp only [fz_lt, fz_le, fz_eq, true_and, and_true, false_and, and_false, true_or, or_true, false_or, or_false, not_true_eq_false, not_false_eq_true, fl_m1, fl_0, fl_1, fl_3, fl_20, fl_200, fl_9999] at *; omega) | (simp only [fz_lt, fz_le, fz_eq, true_and, and_true, false_and, and_false, true_or, or_true, false_or, or_false, not_true_eq_false, not_false_eq_true, fl_m1, fl_0, fl_1, fl_3, fl_20, fl_200, fl_9999] at *; done) | omega
theorem fq_8 (x0 x1 x2 x3 : Int32) (h0 : 3 < x0) : ¬ (((1 ≤ x0 ∧ x0 ≤ 3) ∧ 0 ≤ x1 ∧ ((x0 = 1 ∧ x1 ≤ 0) ∨ (¬ (x0 = 1) ∧ x1 ≤ 20)) ∧ (x2 = (-1) ∨ ((0 ≤ x2 ∧ x2 ≤ 9999) ∧ (0 ≤ x3 ∧ x3 ≤ 9999) ∧ x2 ≤ x3)))) := by first | decide | (simp only [fz_lt, fz_le, fz_eq, true_and, and_true, false_and, and_false, true_or, or_true, false_or, or_false, not_true_eq_false, not_false_eq_true, fl_m1, fl_0, fl_1, fl_3, fl_20, fl_200, fl_9999] at *; omega) | (simp only [fz_lt, fz_le, fz_eq, true_and, and_true, false_and, and_false, true_or, or_true, false_or, or_false, not_true_eq_false, not_false_eq_true, fl_m1, fl_0, fl_1, fl_3, fl_20, fl_200, fl_9999] at *; done) | omega
theorem fq_9 (x0 : Int32) (h0 : ¬ (x0 < 1)) (h1 : ¬ (0 < x0)) : False := by first | decide | (simp only [fz_lt, fz_le, fz_eq, true_and, and_true, false_and, and_false, true_or, or_true, false_or, or_false, not_true_eq_false, not_false_eq_true, fl_m1, fl_0, fl_1, fl_3, fl_20, fl_200, fl_9999] at *; omega) | (simp only [fz_lt, fz_le, fz_eq, true_and, and_true, false_and, and_false, true_or, or_true, false_or, or_false, not_true_eq_false, not_false_eq_true, fl_m1, fl_0, fl_1, fl_3, fl_20, fl_200, fl_9999] at *; done) | omega
theorem fq_10 (x0 x1 x2 x3 : Int32) (h0 : x1 < 0) : ¬ (((1 ≤ x0 ∧ x0 ≤ 3) ∧ 0 ≤ x1 ∧ ((x0 = 1 ∧ x1 ≤ 0) ∨ (¬ (x0 = 1) ∧ x1 ≤ 20)) ∧ (x2 = (-1) ∨ ((0 ≤ x2 ∧ x2 ≤ 9999) ∧ (0 ≤ x3 ∧ x3 ≤ 9999) ∧ x2 ≤ x3)))) := by first | decide | (simp only [fz_lt, fz_le, fz_eq, true_and, and_true, false_and, and_false, true_or, or_true, false_or, or_false, not_true_eq_false, not_false_eq_true, fl_m1, fl_0, fl_1, fl_3, fl_20, fl_200, fl_9999] at *; omega) | (simp only [fz_lt, fz_le, fz_eq, true_and, and_true, false_and, and_false, true_or, or_true, false_or, or_false, not_true_eq_false, not_false_eq_true, fl_m1, fl_0, fl_1, fl_3, fl_20, fl_200, fl_9999] at *; done) | omega
theorem fq_11 (x0 : Int32) (h0 : x0 = (-1)) : x0 = (-1) := by first | decide | (simp only [fz_lt, fz_le, fz_eq, true_and, and_true, false_and, and_false, true_or, or_true, false_or, or_false, not_true_eq_false, not_false_eq_true, fl_m1, fl_0, fl_1, fl_3, fl_20, fl_200, fl_9999] at *; omega) | (simp only [fz_lt, fz_le, fz_eq, true_and, and_true, false_and, and_false, true_or, or_true, false_or, or_false, not_true_eq_false, not_false_eq_true, fl_m1, fl_0, fl_1, fl_3, fl_20, fl_200, fl_9999] at *; done) | omega
theorem fq_12 (x0 x1 x2 : Int32) (h0 : ¬ (3 < x0)) (h1 : 0 < x0) (h2 : ¬ (x1 < 0)) (h3 : ¬ (x0 = 1)) (h4 : x1 ≤ 20) : ((1 ≤ x0 ∧ x0 ≤ 3) ∧ 0 ≤ x1 ∧ ((x0 = 1 ∧ x1 ≤ 0) ∨ (¬ (x0 = 1) ∧ x1 ≤ 20)) ∧ (((-1) : Int32) = (-1) ∨ (((0 : Int32) ≤ (-1) ∧ ((-1) : Int32) ≤ 9999) ∧ (0 ≤ x2 ∧ x2 ≤ 9999) ∧ (-1) ≤ x2))) := by first | decide | (simp only [fz_lt, fz_le, fz_eq, true_and, and_true, false_and, and_false, true_or, or_true, false_or, or_false, not_true_eq_false, not_false_eq_true, fl_m1, fl_0, fl_1, fl_3, fl_20, fl_200, fl_9999] at *; omega) | (simp only [fz_lt, fz_le, fz_eq, true_and, and_true, false_and, and_false, true_or, or_true, false_or, or_false, not_true_eq_false, not_false_eq_true, fl_m1, fl_0, fl_1, fl_3, fl_20, fl_200, fl_9999] at *; done) | omega
theorem fq_13 (x0 x1 x2 x3 : Int32) (h0 : (0 ≤ x3 ∧ x3 ≤ 9999)) (h1 : x3 < x2) : ¬ (((1 ≤ x0 ∧ x0 ≤ 3) ∧ 0 ≤ x1 ∧ ((x0 = 1 ∧ x1 ≤ 0) ∨ (¬ (x0 = 1) ∧ x1 ≤ 20)) ∧ (x2 = (-1) ∨ ((0 ≤ x2 ∧ x2 ≤ 9999) ∧ (0 ≤ x3 ∧ x3 ≤ 9999) ∧ x2 ≤ x3)))) := by first | decide | (simp only [fz_lt, fz_le, fz_eq, true_and, and_true, false_and, and_false, true_or, or_true, false_or, or_false, not_true_eq_false, not_false_eq_true, fl_m1, fl_0, fl_1, fl_3, fl_20, fl_200, fl_9999] at *; omega) | (simp only [fz_lt, fz_le, fz_eq, true_and, and_true, false_and, and_false, true_or, or_true, false_or, or_false, not_true_eq_false, not_false_eq_true, fl_m1, fl_0, fl_1, fl_3, fl_20, fl_200, fl_9999] at *; done) | omega
theorem fq_14 (x0 x1 x2 x3 : Int32) (h0 : ¬ (3 < x0)) (h1 : 0 < x0) (h2 : ¬ (x1 < 0)) (h3 : ¬ (x0 = 1)) (h4 : x1 ≤ 20) (h5 : (0 ≤ x2 ∧ x2 ≤ 9999)) (h6 : (0 ≤ x3 ∧ x3 ≤ 9999)) (h7 : ¬ (x3 < x2)) : ((1 ≤ x0 ∧ x0 ≤ 3) ∧ 0 ≤ x1 ∧ ((x0 = 1 ∧ x1 ≤ 0) ∨ (¬ (x0 = 1) ∧ x1 ≤ 20)) ∧ (x2 = (-1) ∨ ((0 ≤ x2 ∧ x2 ≤ 9999) ∧ (0 ≤ x3 ∧ x3 ≤ 9999) ∧ x2 ≤ x3))) := by first | decide | (simp only [fz_lt, fz_le, fz_eq, true_and, and_true, false_and, and_false, true_or, or_true, false_or, or_false, not_true_eq_false, not_false_eq_true, fl_m1, fl_0, fl_1, fl_3, fl_20, fl_200, fl_9999] at *; omega) | (simp only [fz_lt, fz_le, fz_eq, true_and, and_true, false_and, and_false, true_or, or_true, false_or, or_false, not_true_eq_false, not_false_eq_true, fl_m1, fl_0, fl_1, fl_3, fl_20, fl_200, fl_9999] at *; done) | omega
theorem fq_15 (x0 x1 x2 x3 : Int32) (h0 : (0 ≤ x2 ∧ x2 ≤ 9999)) (h1 : ¬ ((0 ≤ x3 ∧ x3 ≤ 9999))) : ¬ (((1 ≤ x0 ∧ x0 ≤ 3) ∧ 0 ≤ x1 ∧ ((x0 = 1 ∧ x1 ≤ 0) ∨ (¬ (x0 = 1) ∧ x1 ≤ 20)) ∧ (x2 = (-1) ∨ ((0 ≤ x2 ∧ x2 ≤ 9999) ∧ (0 ≤ x3 ∧ x3 ≤ 9999) ∧ x2 ≤ x3)))) := by first | decide | (simp only [fz_lt, fz_le, fz_eq, true_and, and_true, false_and, and_false, true_or, or_true, false_or, or_false, not_true_eq_false, not_false_eq_true, fl_m1, fl_0, fl_1, fl_3, fl_20, fl_200, fl_9999] at *; omega) | (simp only [fz_lt, fz_le, fz_eq, true_and, and_true, false_and, and_false, true_or, or_true, false_or, or_false, not_true_eq_false, not_false_eq_true, fl_m1, fl_0, fl_1, fl_3, fl_20, fl_200, fl_9999] at *; done) | omega
theorem fq_16 (x0 x1 x2 x3 : Int32) (h0 : ¬ (x2 = (-1))) (h1 : ¬ ((0 ≤ x2 ∧ x2 ≤ 9999))) : ¬ (((1 ≤ x0 ∧ x0 ≤ 3) ∧ 0 ≤ x1 ∧ ((x0 = 1 ∧ x1 ≤ 0) ∨ (¬ (x0 = 1) ∧ x1 ≤ 20)) ∧ (x2 = (-1) ∨ ((0 ≤ x2 ∧ x2 ≤ 9999) ∧ (0 ≤ x3 ∧ x3 ≤ 9999) ∧ x2 ≤ x3)))) := by first | decide | (simp only [fz_lt, fz_le, fz_eq, true_and, and_true, false_and, and_false, true_or, or_true, false_or, or_false, not_true_eq_false, not_false_eq_true, fl_m1, fl_0, fl_1, fl_3, fl_20, fl_200, fl_9999] at *; omega) | (simp only [fz_lt, fz_le, fz_eq, true_and, and_true, false_and, and_false, true_or, or_true, false_or, or_false, not_true_eq_false, not_false_eq_true, fl_m1, fl_0, fl_1, fl_3, fl_20, fl_200, fl_9999] at *; done) | omega
theorem fq_17 (x0 x1 x2 x3 : Int32) (h0 : ¬ (x1 ≤ 20)) : ¬ (((1 ≤ x0 ∧ x0 ≤ 3) ∧ 0 ≤ x1 ∧ ((x0 = 1 ∧ x1 ≤ 0) ∨ (¬ (x0 = 1) ∧ x1 ≤ 20)) ∧ (x2 = (-1) ∨ ((0 ≤ x2 ∧ x2 ≤ 9999) ∧ (0 ≤ x3 ∧ x3 ≤ 9999) ∧ x2 ≤ x3)))) := by first | decide | (simp only [fz_lt, fz_le, fz_eq, true_and, and_true, false_and, and_false, true_or, or_true, false_or, or_false, not_true_eq_false, not_false_eq_true, fl_m1, fl_0, fl_1, fl_3, fl_20, fl_200, fl_9999] at *; omega) | (simp only [fz_lt, fz_le, fz_eq, true_and, and_true, false_and, and_false, true_or, or_true, false_or, or_false, not_true_eq_false, not_false_eq_true, fl_m1, fl_0, fl_1, fl_3, fl_20, fl_200, fl_9999] at *; done) | omega
theorem fq_18 (x0 : Int32) (h0 : x0 = 1) : x0 = 1 := by first | decide | (simp only [fz_lt, fz_le, fz_eq, true_and, and_true, false_and, and_false, true_or, or_true, false_or, or_false, not_true_eq_false, not_false_eq_true, fl_m1, fl_0, fl_1, fl_3, fl_20, fl_200, fl_9999] at *; omega) | (simp only [fz_lt, fz_le, fz_eq, true_and, and_true, false_and, and_false, true_or, or_true, false_or, or_false, not_true_eq_false, not_false_eq_true, fl_m1, fl_0, fl_1, fl_3, fl_20, fl_200, fl_9999] at *; done) | omega
theorem fq_19 (x0 : Int32) (h0 : ¬ (x0 < 0)) (h1 : x0 ≤ 0) : x0 = 0 := by first | decide | (simp only [fz_lt, fz_le, fz_eq, true_and, and_true, false_and, and_false, true_or, or_true, false_or, or_false, not_true_eq_false, not_false_eq_true, fl_m1, fl_0, fl_1, fl_3, fl_20, fl_200, fl_9999] at *; omega) | (simp only [fz_lt, fz_le, fz_eq, true_and, and_true, false_and, and_false, true_or, or_true, false_or, or_false, not_true_eq_false, not_false_eq_true, fl_m1, fl_0, fl_1, fl_3, fl_20, fl_200, fl_9999] at *; done) | omega
theorem fq_20 (x0 : Int32)  : (((1 : Int32) ≤ 1 ∧ (1 : Int32) ≤ 3) ∧ (0 : Int32) ≤ 0 ∧ (((1 : Int32) = 1 ∧ (0 : Int32) ≤ 0) ∨ (¬ ((1 : Int32) = 1) ∧ (0 : Int32) ≤ 20)) ∧ (((-1) : Int32) = (-1) ∨ (((0 : Int32) ≤ (-1) ∧ ((-1) : Int32) ≤ 9999) ∧ (0 ≤ x0 ∧ x0 ≤ 9999) ∧ (-1) ≤ x0))) := by first | decide | (simp only [fz_lt, fz_le, fz_eq, true_and, and_true, false_and, and_false, true_or, or_true, false_or, or_false, not_true_eq_false, not_false_eq_true, fl_m1, fl_0, fl_1, fl_3, fl_20, fl_200, fl_9999] at *; omega) | (simp only [fz_lt, fz_le, fz_eq, true_and, and_true, false_and, and_false, true_or, or_true, false_or, or_false, not_true_eq_false, not_false_eq_true, fl_m1, fl_0, fl_1, fl_3, fl_20, fl_200, fl_9999] at *; done) | omega
theorem fq_21 (x0 x1 : Int32) (h0 : (0 ≤ x1 ∧ x1 ≤ 9999)) (h1 : x1 < x0) : ¬ ((((1 : Int32) ≤ 1 ∧ (1 : Int32) ≤ 3) ∧ (0 : Int32) ≤ 0 ∧ (((1 : Int32) = 1 ∧ (0 : Int32) ≤ 0) ∨ (¬ ((1 : Int32) = 1) ∧ (0 : Int32) ≤ 20)) ∧ (x0 = (-1) ∨ ((0 ≤ x0 ∧ x0 ≤ 9999) ∧ (0 ≤ x1 ∧ x1 ≤ 9999) ∧ x0 ≤ x1)))) := by first | decide | (simp only [fz_lt, fz_le, fz_eq, true_and, and_true, false_and, and_false, true_or, or_true, false_or, or_false, not_true_eq_false, not_false_eq_true, fl_m1, fl_0, fl_1, fl_3, fl_20, fl_200, fl_9999] at *; omega) | (simp only [fz_lt, fz_le, fz_eq, true_and, and_true, false_and, and_false, true_or, or_true, false_or, or_false, not_true_eq_false, not_false_eq_true, fl_m1, fl_0, fl_1, fl_3, fl_20, fl_200, fl_9999] at *; done) | omega
theorem fq_22 (x0 x1 : Int32) (h0 : (0 ≤ x0 ∧ x0 ≤ 9999)) (h1 : (0 ≤ x1 ∧ x1 ≤ 9999)) (h2 : ¬ (x1 < x0)) : (((1 : Int32) ≤ 1 ∧ (1 : Int32) ≤ 3) ∧ (0 : Int32) ≤ 0 ∧ (((1 : Int32) = 1 ∧ (0 : Int32) ≤ 0) ∨ (¬ ((1 : Int32) = 1) ∧ (0 : Int32) ≤ 20)) ∧ (x0 = (-1) ∨ ((0 ≤ x0 ∧ x0 ≤ 9999) ∧ (0 ≤ x1 ∧ x1 ≤ 9999) ∧ x0 ≤ x1))) := by first | decide | (simp only [fz_lt, fz_le, fz_eq, true_and, and_true, false_and, and_false, true_or, or_true, false_or, or_false, not_true_eq_false, not_false_eq_true, fl_m1, fl_0, fl_1, fl_3, fl_20, fl_200, fl_9999] at *; omega) | (simp only [fz_lt, fz_le, fz_eq, true_and, and_true, false_and, and_false, true_or, or_true, false_or, or_false, not_true_eq_false, not_false_eq_true, fl_m1, fl_0, fl_1, fl_3, fl_20, fl_200, fl_9999] at *; done) | omega
theorem fq_23 (x0 x1 : Int32) (h0 : (0 ≤ x0 ∧ x0 ≤ 9999)) (h1 : ¬ ((0 ≤ x1 ∧ x1 ≤ 9999))) : ¬ ((((1 : Int32) ≤ 1 ∧ (1 : Int32) ≤ 3) ∧ (0 : Int32) ≤ 0 ∧ (((1 : Int32) = 1 ∧ (0 : Int32) ≤ 0) ∨ (¬ ((1 : Int32) = 1) ∧ (0 : Int32) ≤ 20)) ∧ (x0 = (-1) ∨ ((0 ≤ x0 ∧ x0 ≤ 9999) ∧ (0 ≤ x1 ∧ x1 ≤ 9999) ∧ x0 ≤ x1)))) := by first | decide | (simp only [fz_lt, fz_le, fz_eq, true_and, and_true, false_and, and_false, true_or, or_true, false_or, or_false, not_true_eq_false, not_false_eq_true, fl_m1, fl_0, fl_1, fl_3, fl_20, fl_200, fl_9999] at *; omega) | (simp only [fz_lt, fz_le, fz_eq, true_and, and_true, false_and, and_false, true_or, or_true, false_or, or_false, not_true_eq_false, not_false_eq_true, fl_m1, fl_0, fl_1, fl_3, fl_20, fl_200, fl_9999] at *; done) | omega
theorem fq_24 (x0 x1 : Int32) (h0 : ¬ (x0 = (-1))) (h1 : ¬ ((0 ≤ x0 ∧ x0 ≤ 9999))) : ¬ ((((1 : Int32) ≤ 1 ∧ (1 : Int32) ≤ 3) ∧ (0 : Int32) ≤ 0 ∧ (((1 : Int32) = 1 ∧ (0 : Int32) ≤ 0) ∨ (¬ ((1 : Int32) = 1) ∧ (0 : Int32) ≤ 20)) ∧ (x0 = (-1) ∨ ((0 ≤ x0 ∧ x0 ≤ 9999) ∧ (0 ≤ x1 ∧ x1 ≤ 9999) ∧ x0 ≤ x1)))) := by first | decide | (simp only [fz_lt, fz_le, fz_eq, true_and, and_true, false_and, and_false, true_or, or_true, false_or, or_false, not_true_eq_false, not_false_eq_true, fl_m1, fl_0, fl_1, fl_3, fl_20, fl_200, fl_9999] at *; omega) | (simp only [fz_lt, fz_le, fz_eq, true_and, and_true, false_and, and_false, true_or, or_true, false_or, or_false, not_true_eq_false, not_false_eq_true, fl_m1, fl_0, fl_1, fl_3, fl_20, fl_200, fl_9999] at *; done) | omega
theorem fq_25 (x0 x1 x2 : Int32) (h0 : ¬ (x0 ≤ 0)) : ¬ ((((1 : Int32) ≤ 1 ∧ (1 : Int32) ≤ 3) ∧ 0 ≤ x0 ∧ (((1 : Int32) = 1 ∧ x0 ≤ 0) ∨ (¬ ((1 : Int32) = 1) ∧ x0 ≤ 20)) ∧ (x1 = (-1) ∨ ((0 ≤ x1 ∧ x1 ≤ 9999) ∧ (0 ≤ x2 ∧ x2 ≤ 9999) ∧ x1 ≤ x2)))) := by first | decide | (simp only [fz_lt, fz_le, fz_eq, true_and, and_true, false_and, and_false, true_or, or_true, false_or, or_false, not_true_eq_false, not_false_eq_true, fl_m1, fl_0, fl_1, fl_3, fl_20, fl_200, fl_9999] at *; omega) | (simp only [fz_lt, fz_le, fz_eq, true_and, and_true, false_and, and_false, true_or, or_true, false_or, or_false, not_true_eq_false, not_false_eq_true, fl_m1, fl_0, fl_1, fl_3, fl_20, fl_200, fl_9999] at *; done) | omega
theorem fq_26 (x0 : Int32) (h0 : ¬ (x0 < 0)) (h1 : ¬ (0 ≤ x0)) : False := by first | decide | (simp only [fz_lt, fz_le, fz_eq, true_and, and_true, false_and, and_false, true_or, or_true, false_or, or_false, not_true_eq_false, not_false_eq_true, fl_m1, fl_0, fl_1, fl_3, fl_20, fl_200, fl_9999] at *; omega) | (simp only [fz_lt, fz_le, fz_eq, true_and, and_true, false_and, and_false, true_or, or_true, false_or, or_false, not_true_eq_false, not_false_eq_true, fl_m1, fl_0, fl_1, fl_3, fl_20, fl_200, fl_9999] at *; done) | omega
theorem fq_27 (x0 : Int32) (h0 : x0 = 0) : x0 = 0 := by first | decide | (simp only [fz_lt, fz_le, fz_eq, true_and, and_true, false_and, and_false, true_or, or_true, false_or, or_false, not_true_eq_false, not_false_eq_true, fl_m1, fl_0, fl_1, fl_3, fl_20, fl_200, fl_9999] at *; omega) | (simp only [fz_lt, fz_le, fz_eq, true_and, and_true, false_and, and_false, true_or, or_true, false_or, or_false, not_true_eq_false, not_false_eq_true, fl_m1, fl_0, fl_1, fl_3, fl_20, fl_200, fl_9999] at *; done) | omega
theorem fq_28 (x0 : Int32) (h0 : ¬ (x0 = 0)) : ¬ (x0 = 0) := by first | decide | (simp only [fz_lt, fz_le, fz_eq, true_and, and_true, false_and, and_false, true_or, or_true, false_or, or_false, not_true_eq_false, not_false_eq_true, fl_m1, fl_0, fl_1, fl_3, fl_20, fl_200, fl_9999] at *; omega) | (simp only [fz_lt, fz_le, fz_eq, true_and, and_true, false_and, and_false, true_or, or_true, false_or, or_false, not_true_eq_false, not_false_eq_true, fl_m1, fl_0, fl_1, fl_3, fl_20, fl_200, fl_9999] at *; done) | omega
theorem fq_29 (x0 : Int32) (h0 : ¬ (x0 < 0)) (h1 : x0 < 0) : False := by first | decide | (simp only [fz_lt, fz_le, fz_eq, true_and, and_true, false_and, and_false, true_or, or_true, false_or, or_false, not_true_eq_false, not_false_eq_true, fl_m1, fl_0, fl_1, fl_3, fl_20, fl_200, fl_9999] at *; omega) | (simp only [fz_lt, fz_le, fz_eq, true_and, and_true, false_and, and_false, true_or, or_true, false_or, or_false, not_true_eq_false, not_false_eq_true, fl_m1, fl_0, fl_1, fl_3, fl_20, fl_200, fl_9999] at *; done) | omega
theorem fq_30 (x0 x1 : Int32) (h0 : x0 < 0) : (x0 < 0 ∨ x1 < x0) := by first | decide | (simp only [fz_lt, fz_le, fz_eq, true_and, and_true, false_and, and_false, true_or, or_true, false_or, or_false, not_true_eq_false, not_false_eq_true, fl_m1, fl_0, fl_1, fl_3, fl_20, fl_200, fl_9999] at *; omega) | (simp only [fz_lt, fz_le, fz_eq, true_and, and_true, false_and, and_false, true_or, or_true, false_or, or_false, not_true_eq_false, not_false_eq_true, fl_m1, fl_0, fl_1, fl_3, fl_20, fl_200, fl_9999] at *; done) | omega
theorem fq_31 (x0 x1 : Int32) (h0 : ¬ (x0 < 0)) (h1 : x0 ≤ x1) : (0 ≤ x0 ∧ x0 ≤ x1) := by first | decide | (simp only [fz_lt, fz_le, fz_eq, true_and, and_true, false_and, and_false, true_or, or_true, false_or, or_false, not_true_eq_false, not_false_eq_true, fl_m1, fl_0, fl_1, fl_3, fl_20, fl_200, fl_9999] at *; omega) | (simp only [fz_lt, fz_le, fz_eq, true_and, and_true, false_and, and_false, true_or, or_true, false_or, or_false, not_true_eq_false, not_false_eq_true, fl_m1, fl_0, fl_1, fl_3, fl_20, fl_200, fl_9999] at *; done) | omega
theorem fq_32 (x0 x1 : Int32) (h0 : ¬ (x0 ≤ x1)) : (x0 < 0 ∨ x1 < x0) := by first | decide | (simp only [fz_lt, fz_le, fz_eq, true_and, and_true, false_and, and_false, true_or, or_true, false_or, or_false, not_true_eq_false, not_false_eq_true, fl_m1, fl_0, fl_1, fl_3, fl_20, fl_200, fl_9999] at *; omega) | (simp only [fz_lt, fz_le, fz_eq, true_and, and_true, false_and, and_false, true_or, or_true, false_or, or_false, not_true_eq_false, not_false_eq_true, fl_m1, fl_0, fl_1, fl_3, fl_20, fl_200, fl_9999] at *; done) | omega
theorem fq_33 (x0 : Int32) (h0 : (0 ≤ x0 ∧ x0 ≤ 9999)) : (0 ≤ x0 ∧ x0 ≤ 9999) := by first | decide | (simp only [fz_lt, fz_le, fz_eq, true_and, and_true, false_and, and_false, true_or, or_true, false_or, or_false, not_true_eq_false, not_false_eq_true, fl_m1, fl_0, fl_1, fl_3, fl_20, fl_200, fl_9999] at *; omega) | (simp only [fz_lt, fz_le, fz_eq, true_and, and_true, false_and, and_false, true_or, or_true, false_or, or_false, not_true_eq_false, not_false_eq_true, fl_m1, fl_0, fl_1, fl_3, fl_20, fl_200, fl_9999] at *; done) | omega
theorem fq_34 (x0 : Int32) (h0 : ¬ ((0 ≤ x0 ∧ x0 ≤ 9999))) : ¬ ((0 ≤ x0 ∧ x0 ≤ 9999)) := by first | decide | (simp only [fz_lt, fz_le, fz_eq, true_and, and_true, false_and, and_false, true_or, or_true, false_or, or_false, not_true_eq_false, not_false_eq_true, fl_m1, fl_0, fl_1, fl_3, fl_20, fl_200, fl_9999] at *; omega) | (simp only [fz_lt, fz_le, fz_eq, true_and, and_true, false_and, and_false, true_or, or_true, false_or, or_false, not_true_eq_false, not_false_eq_true, fl_m1, fl_0, fl_1, fl_3, fl_20, fl_200, fl_9999] at *; done) | omega
theorem fq_35 (x0 : Int32) (h0 : x0 < 1) : ¬ ((1 ≤ x0 ∧ x0 ≤ 200)) := by first | decide | (simp only [fz_lt, fz_le, fz_eq, true_and, and_true, false_and, and_false, true_or, or_true, false_or, or_false, not_true_eq_false, not_false_eq_true, fl_m1, fl_0, fl_1, fl_3, fl_20, fl_200, fl_9999] at *; omega) | (simp only [fz_lt, fz_le, fz_eq, true_and, and_true, false_and, and_false, true_or, or_true, false_or, or_false, not_true_eq_false, not_false_eq_true, fl_m1, fl_0, fl_1, fl_3, fl_20, fl_200, fl_9999] at *; done) | omega
theorem fq_36 (x0 : Int32) (h0 : ¬ (x0 < 1)) (h1 : x0 ≤ 200) : (1 ≤ x0 ∧ x0 ≤ 200) := by first | decide | (simp only [fz_lt, fz_le, fz_eq, true_and, and_true, false_and, and_false, true_or, or_true, false_or, or_false, not_true_eq_false, not_false_eq_true, fl_m1, fl_0, fl_1, fl_3, fl_20, fl_200, fl_9999] at *; omega) | (simp only [fz_lt, fz_le, fz_eq, true_and, and_true, false_and, and_false, true_or, or_true, false_or, or_false, not_true_eq_false, not_false_eq_true, fl_m1, fl_0, fl_1, fl_3, fl_20, fl_200, fl_9999] at *; done) | omega
theorem fq_37 (x0 : Int32) (h0 : ¬ (x0 ≤ 200)) : ¬ ((1 ≤ x0 ∧ x0 ≤ 200)) := by first | decide | (simp only [fz_lt, fz_le, fz_eq, true_and, and_true, false_and, and_false, true_or, or_true, false_or, or_false, not_true_eq_false, not_false_eq_true, fl_m1, fl_0, fl_1, fl_3, fl_20, fl_200, fl_9999] at *; omega) | (simp only [fz_lt, fz_le, fz_eq, true_and, and_true, false_and, and_false, true_or, or_true, false_or, or_false, not_true_eq_false, not_false_eq_true, fl_m1, fl_0, fl_1, fl_3, fl_20, fl_200, fl_9999] at *; done) | omega

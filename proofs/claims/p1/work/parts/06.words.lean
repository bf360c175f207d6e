theorem fin_J4 : ∀ w ∈ u_ws RJ4 TJ4 4, w ∈ fz_WA := fun w h => have h2 := (by decide +kernel : ∀ w ∈ u_ws RJ4 TJ4 4, w ∈ lw_tbl ∧ goodWord w = true) w h; fz_in h2.1 h2.2
theorem fin_X0 : ∀ w ∈ u_ws RX0 TX0 9, w ∈ fz_WA := fun w h => have h2 := (by decide +kernel : ∀ w ∈ u_ws RX0 TX0 9, w ∈ lw_tbl ∧ goodWord w = true) w h; fz_in h2.1 h2.2
theorem fin_X1 : ∀ w ∈ u_ws RX1 TX1 3, w ∈ fz_WA := fun w h => have h2 := (by decide +kernel : ∀ w ∈ u_ws RX1 TX1 3, w ∈ lw_tbl ∧ goodWord w = true) w h; fz_in h2.1 h2.2
theorem fin_X2 : ∀ w ∈ u_ws RX2 TX2 9, w ∈ fz_WA := fun w h => have h2 := (by decide +kernel : ∀ w ∈ u_ws RX2 TX2 9, w ∈ lw_tbl ∧ goodWord w = true) w h; fz_in h2.1 h2.2
theorem fin_X3 : ∀ w ∈ u_ws RX3 TX3 3, w ∈ fz_WA := fun w h => have h2 := (by decide +kernel : ∀ w ∈ u_ws RX3 TX3 3, w ∈ lw_tbl ∧ goodWord w = true) w h; fz_in h2.1 h2.2
theorem fin_X4 : ∀ w ∈ u_ws RX4 TX4 3, w ∈ fz_WA := fun w h => have h2 := (by decide +kernel : ∀ w ∈ u_ws RX4 TX4 3, w ∈ lw_tbl ∧ goodWord w = true) w h; fz_in h2.1 h2.2
theorem fin_X5 : ∀ w ∈ u_ws RX5 TX5 5, w ∈ fz_WA := fun w h => have h2 := (by decide +kernel : ∀ w ∈ u_ws RX5 TX5 5, w ∈ lw_tbl ∧ goodWord w = true) w h; fz_in h2.1 h2.2
theorem fin_X6 : ∀ w ∈ u_ws RX6 TX6 3, w ∈ fz_WA := fun w h => have h2 := (by decide +kernel : ∀ w ∈ u_ws RX6 TX6 3, w ∈ lw_tbl ∧ goodWord w = true) w h; fz_in h2.1 h2.2
theorem fin_X7 : ∀ w ∈ u_ws RX7 TX7 6, w ∈ fz_WA := fun w h => have h2 := (by decide +kernel : ∀ w ∈ u_ws RX7 TX7 6, w ∈ lw_tbl ∧ goodWord w = true) w h; fz_in h2.1 h2.2
theorem fin_X8 : ∀ w ∈ u_ws RX8 TX8 10, w ∈ fz_WA := fun w h => have h2 := (by decide +kernel : ∀ w ∈ u_ws RX8 TX8 10, w ∈ lw_tbl ∧ goodWord w = true) w h; fz_in h2.1 h2.2
theorem fin_X9 : ∀ w ∈ u_ws RX9 TX9 8, w ∈ fz_WA := fun w h => have h2 := (by decide +kernel : ∀ w ∈ u_ws RX9 TX9 8, w ∈ lw_tbl ∧ goodWord w = true) w h; fz_in h2.1 h2.2
theorem fin_X10 : ∀ w ∈ u_ws RX10 TX10 22, w ∈ fz_WA := fun w h => have h2 := (by decide +kernel : ∀ w ∈ u_ws RX10 TX10 22, w ∈ lw_tbl ∧ goodWord w = true) w h; fz_in h2.1 h2.2
def fz_tys (k : Nat → ClassId) : List (ClassId × FieldType) := [(k 0, .int), (k 1, .char), (k 2, .byte), (k 3, .object "FindingAid$State"), (k 4, .array .int), (k 5, .long), (k 6, .double)]
def fz_WS (k : Nat → ClassId) (q : Nat → Nat) (f : Nat → Nat → Int32) (pa : Nat → Option Nat) (v : Nat → Int32) : va_W := [(q 0, .inr (11, [.ref (q 1), .ref (q 10), .ref (q 14), .ref (q 23), .ref (q 26), .int (v 0)])), (q 1, .inr (12, [.int (v 1), .int (v 2), .ref (q 2), .ref (q 3), .ref (q 4), .ref (q 5), .ref (q 6), .ref (q 7), .ref (q 8), .ref (q 9)])), (q 2, .inl (k 0, 40, .inl (f 2))), (q 3, .inl (k 0, 40, .inl (f 3))), (q 4, .inl (k 0, 40, .inl (f 4))), (q 5, .inl (k 0, 40, .inl (f 5))), (q 6, .inl (k 0, 40, .inl (f 6))), (q 7, .inl (k 0, 40, .inl (f 7))), (q 8, .inl (k 0, 40, .inl (f 8))), (q 9, .inl (k 0, 40, .inl (f 9))), (q 10, .inr (10, [.ref (q 11), .ref (q 12), .ref (q 13)])), (q 11, .inl (k 0, 40, .inl (f 11))), (q 12, .inl (k 0, 40, .inl (f 12))), (q 13, .inl (k 0, 800, .inl (f 13))), (q 14, .inr (4, [.int (v 3), .int (v 4), .int (v 5), .ref (q 15), .ref (q 16), .ref (q 17), .ref (q 18), .ref (q 19), .ref (q 20)])), (q 15, .inl (k 0, 30, .inl (f 15))), (q 16, .inl (k 0, 30, .inl (f 16))), (q 17, .inl (k 0, 40, .inl (f 17))), (q 18, .inl (k 0, 40, .inl (f 18))), (q 19, .inl (k 0, 40, .inl (f 19))), (q 20, .inr (7, [.int (v 6), .ref (q 21), .ref (q 22)])), (q 21, .inl (k 0, 64, .inl (f 21))), (q 22, .inl (k 0, 64, .inl (f 22))), (q 23, .inr (5, [.int (v 7), .ref (q 24), .ref (q 25)])), (q 24, .inl (k 0, 16, .inl (f 24))), (q 25, .inl (k 0, 16, .inl (f 25))), (q 26, .inr (9, [.int (v 8), .ref (q 27), .ref (q 28), .ref (q 29), .ref (q 30)])), (q 27, .inl (k 0, 30, .inl (f 27))), (q 28, .inl (k 0, 30, .inl (f 28))), (q 29, .inl (k 0, 30, .inl (f 29))), (q 30, .inl (k 0, 30, .inl (f 30)))]
def fz_WC (k : Nat → ClassId) (q : Nat → Nat) (f : Nat → Nat → Int32) (pa : Nat → Option Nat) (v : Nat → Int32) : va_W := [(q 0, .inr (11, [.ref (q 1), .ref (q 10), .ref (q 14), .ref (q 23), .ref (q 26), .int (v 0)])), (q 1, .inr (12, [.int (v 1), .int (v 2), .ref (q 2), .ref (q 3), .ref (q 4), .ref (q 5), .ref (q 6), .ref (q 7), .ref (q 8), .ref (q 9)])), (q 2, .inl (k 0, 40, .inl (f 2))), (q 3, .inl (k 0, 40, .inl (f 3))), (q 4, .inl (k 0, 40, .inl (f 4))), (q 5, .inl (k 0, 40, .inl (f 5))), (q 6, .inl (k 0, 40, .inl (f 6))), (q 7, .inl (k 0, 40, .inl (f 7))), (q 8, .inl (k 0, 40, .inl (f 8))), (q 9, .inl (k 0, 40, .inl (f 9))), (q 10, .inr (10, [.ref (q 11), .ref (q 12), .ref (q 13)])), (q 11, .inl (k 0, 40, .inl (f 11))), (q 12, .inl (k 0, 40, .inl (f 12))), (q 13, .inl (k 0, 800, .inl (f 13))), (q 14, .inr (4, [.int (v 3), .int (v 4), .int (v 5), .ref (q 15), .ref (q 16), .ref (q 17), .ref (q 18), .ref (q 19), .ref (q 20)])), (q 15, .inl (k 0, 30, .inl (f 15))), (q 16, .inl (k 0, 30, .inl (f 16))), (q 17, .inl (k 0, 40, .inl (f 17))), (q 18, .inl (k 0, 40, .inl (f 18))), (q 19, .inl (k 0, 40, .inl (f 19))), (q 20, .inr (7, [.int (v 6), .ref (q 21), .ref (q 22)])), (q 21, .inl (k 0, 64, .inl (f 21))), (q 22, .inl (k 0, 64, .inl (f 22))), (q 23, .inr (5, [.int (v 7), .ref (q 24), .ref (q 25)])), (q 24, .inl (k 0, 16, .inl (f 24))), (q 25, .inl (k 0, 16, .inl (f 25))), (q 26, .inr (9, [.int (v 8), .ref (q 27), .ref (q 28), .ref (q 29), .ref (q 30)])), (q 27, .inl (k 0, 30, .inl (f 27))), (q 28, .inl (k 0, 30, .inl (f 28))), (q 29, .inl (k 0, 30, .inl (f 29))), (q 30, .inl (k 0, 30, .inl (f 30))), (q 31, .inr (13, [.ref (q 0), .ref (q 32), .int (v 9), .int (v 10), va_rf (pa 8), .ref (q 33), .ref (q 34), .ref (q 35)])), (q 32, .inl (k 3, 8, .inr (.inr (.inr (.inr pa))))), (q 33, .inr (8, [.int (v 11), .ref (q 38), .ref (q 39)])), (q 34, .inr (6, [.int (v 12), .int (v 13), .ref (q 40), .ref (q 41), .ref (q 42), .ref (q 43), .ref (q 44), .ref (q 36), .int (v 14)])), (q 35, .inr (1, [.ref (q 37), .int (v 15), .int (v 16), .int (v 17)])), (q 36, .inl (k 1, 100, .inl (f 36))), (q 37, .inl (k 2, 16, .inl (f 37)))]
def fz_WM (k : Nat → ClassId) (q : Nat → Nat) (f : Nat → Nat → Int32) (pa : Nat → Option Nat) (v : Nat → Int32) : va_W := [(q 0, .inr (14, [.int (v 0), .ref (q 1), .ref (q 2), .ref (q 3), .ref (q 4), .int (v 5), .int (v 6), .int (v 7), .int (v 8), .int (v 9), .int (v 10), .int (v 11), .int (v 12), .int (v 13), .ref (q 5), .int (v 15), .int (v 16), .int (v 17), .int (v 18), .int (v 19), .ref (q 6), .int (v 21)])), (q 1, .inl (k 0, 10535, .inl (f 1))), (q 2, .inl (k 0, 10535, .inl (f 2))), (q 3, .inl (k 0, 10535, .inl (f 3))), (q 4, .inl (k 4, 8, .inr (.inr (.inr (.inr pa))))), (q 5, .inl (k 1, 100, .inl (f 5))), (q 6, .inl (k 1, 900, .inl (f 6))), (q 7, .inl (k 0, 10535, .inl (f 7)))]
def fz_EN : List String := ["java/lang/RuntimeException", "java/lang/Exception"]
theorem fz_fit_165 : Bundle.fit "java/lang/IndexOutOfBoundsException" = true ∧ ∀ n ∈ fz_EN, Bundle.fit n = true := by decide +kernel
theorem fz_at_165 : ∀ w ∈ vx_atS RX9 165 "java/lang/IndexOutOfBoundsException" fz_EN, w ∈ lw_tbl ∧ (goodWord w || fz_kind w) = true := by decide +kernel
theorem fz_ok_165 : ∀ w ∈ Cond.classLink RX9 161 "java/lang/IndexOutOfBoundsException" :: Cond.initialized "java/lang/IndexOutOfBoundsException" :: vx_atS RX9 165 "java/lang/IndexOutOfBoundsException" fz_EN, vx_ot w = true := by decide +kernel
theorem fz_fit_73 : Bundle.fit "java/lang/IllegalArgumentException" = true ∧ ∀ n ∈ fz_EN, Bundle.fit n = true := by decide +kernel
theorem fz_at_73 : ∀ w ∈ vx_atS RX9 73 "java/lang/IllegalArgumentException" fz_EN, w ∈ lw_tbl ∧ (goodWord w || fz_kind w) = true := by decide +kernel
theorem fz_ok_73 : ∀ w ∈ Cond.classLink RX9 69 "java/lang/IllegalArgumentException" :: Cond.initialized "java/lang/IllegalArgumentException" :: vx_atS RX9 73 "java/lang/IllegalArgumentException" fz_EN, vx_ot w = true := by decide +kernel
theorem fz_fit_83 : Bundle.fit "java/lang/IllegalStateException" = true ∧ ∀ n ∈ fz_EN, Bundle.fit n = true := by decide +kernel
theorem fz_at_83 : ∀ w ∈ vx_atS RX9 83 "java/lang/IllegalStateException" fz_EN, w ∈ lw_tbl ∧ (goodWord w || fz_kind w) = true := by decide +kernel
theorem fz_ok_83 : ∀ w ∈ Cond.classLink RX9 79 "java/lang/IllegalStateException" :: Cond.initialized "java/lang/IllegalStateException" :: vx_atS RX9 83 "java/lang/IllegalStateException" fz_EN, vx_ot w = true := by decide +kernel
theorem fz_fit_420 : Bundle.fit "java/lang/ArithmeticException" = true ∧ ∀ n ∈ fz_EN, Bundle.fit n = true := by decide +kernel
theorem fz_at_420 : ∀ w ∈ vx_atS RX9 420 "java/lang/ArithmeticException" fz_EN, w ∈ lw_tbl ∧ (goodWord w || fz_kind w) = true := by decide +kernel
theorem fz_ok_420 : ∀ w ∈ Cond.classLink RX9 416 "java/lang/ArithmeticException" :: Cond.initialized "java/lang/ArithmeticException" :: vx_atS RX9 420 "java/lang/ArithmeticException" fz_EN, vx_ot w = true := by decide +kernel
theorem fm_0 : Cond.fieldLink RX8 9 "FindingAid$Tree" "made" "I" ∈ fz_WA := fz_in (fz_tin 58 (by decide +kernel)) (by decide +kernel)
theorem fm_1 : Cond.fieldLink RX8 25 "FindingAid$Tree" "kind" "[I" ∈ fz_WA := fz_in (fz_tin 67 (by decide +kernel)) (by decide +kernel)
theorem fm_2 : Cond.fieldLink RX8 15 "FindingAid$Tree" "size" "I" ∈ fz_WA := fz_in (fz_tin 60 (by decide +kernel)) (by decide +kernel)
theorem fm_3 : Cond.code yX9_isDay cX9_isDay 1 (some .boolean) ∈ fz_WA := fz_in (fz_tin 604 (by decide +kernel)) (by decide +kernel)
theorem fm_4 : Cond.methodLink RX9 488 yX9_isDay ∈ fz_WA := fz_in (fz_tin 602 (by decide +kernel)) (by decide +kernel)
theorem fm_5 : Cond.static yX9_isDay ∈ fz_WA := fz_in (fz_tin 603 (by decide +kernel)) (by decide +kernel)
theorem fm_6 : Cond.initialized RX9 ∈ fz_WA := fz_in (fz_tin 1 (by decide +kernel)) (by decide +kernel)
theorem fm_7 : Cond.fieldLink RX0 9 "FindingAid$Containers" "made" "I" ∈ fz_WA := fz_in (fz_tin 148 (by decide +kernel)) (by decide +kernel)
theorem fm_8 : Cond.fieldLink RX1 9 "FindingAid$Copies" "made" "I" ∈ fz_WA := fz_in (fz_tin 190 (by decide +kernel)) (by decide +kernel)
theorem fm_9 : Cond.fieldLink RX9 10 "FindingAid" "now" "LFindingAid$State;" ∈ fz_WA := fz_in (fz_tin 358 (by decide +kernel)) (by decide +kernel)
theorem fm_10 : Cond.fieldLink RX9 55 "FindingAid$State" "tree" "LFindingAid$Tree;" ∈ fz_WA := fz_in (fz_tin 239 (by decide +kernel)) (by decide +kernel)
theorem fm_11 : Cond.code yX8_has cX8_has 2 (some .boolean) ∈ fz_WA := fz_in (fz_tin 585 (by decide +kernel)) (by decide +kernel)
theorem fm_12 : Cond.methodLink RX9 284 yX8_has ∈ fz_WA := fz_in (fz_tin 582 (by decide +kernel)) (by decide +kernel)
theorem fm_13 : Cond.instanceMethod yX8_has ∈ fz_WA := fz_in (fz_tin 583 (by decide +kernel)) (by decide +kernel)
theorem fm_14 : Cond.selects RX8 yX8_has yX8_has ∈ fz_WA := fz_in (fz_tin 584 (by decide +kernel)) (by decide +kernel)
theorem fm_15 : Cond.initialized RX8 ∈ fz_WA := fz_in (fz_tin 3 (by decide +kernel)) (by decide +kernel)
theorem fm_16 : Cond.classLink RX9 161 "java/lang/IndexOutOfBoundsException" ∈ fz_WA := fz_in (fz_tin 586 (by decide +kernel)) (by decide +kernel)
theorem fm_17 : Cond.initialized "java/lang/IndexOutOfBoundsException" ∈ fz_WA := fz_in (fz_tin 20 (by decide +kernel)) (by decide +kernel)
theorem fm_18 : Cond.fieldLink RX9 115 "FindingAid$Tree" "pages" "[I" ∈ fz_WA := fz_in (fz_tin 75 (by decide +kernel)) (by decide +kernel)
theorem fm_19 : Cond.classLink RX9 69 "java/lang/IllegalArgumentException" ∈ fz_WA := fz_in (fz_tin 605 (by decide +kernel)) (by decide +kernel)
theorem fm_20 : Cond.initialized "java/lang/IllegalArgumentException" ∈ fz_WA := fz_in (fz_tin 22 (by decide +kernel)) (by decide +kernel)
theorem fm_21 : Cond.fieldLink RX9 136 "FindingAid$State" "containers" "LFindingAid$Containers;" ∈ fz_WA := fz_in (fz_tin 243 (by decide +kernel)) (by decide +kernel)
theorem fm_22 : Cond.code yX0_has cX0_has 2 (some .boolean) ∈ fz_WA := fz_in (fz_tin 849 (by decide +kernel)) (by decide +kernel)
theorem fm_23 : Cond.methodLink RX9 495 yX0_has ∈ fz_WA := fz_in (fz_tin 846 (by decide +kernel)) (by decide +kernel)
theorem fm_24 : Cond.instanceMethod yX0_has ∈ fz_WA := fz_in (fz_tin 847 (by decide +kernel)) (by decide +kernel)
theorem fm_25 : Cond.selects RX0 yX0_has yX0_has ∈ fz_WA := fz_in (fz_tin 848 (by decide +kernel)) (by decide +kernel)
theorem fm_26 : Cond.initialized RX0 ∈ fz_WA := fz_in (fz_tin 6 (by decide +kernel)) (by decide +kernel)
theorem fm_27 : Cond.fieldLink RX9 148 "FindingAid$State" "copies" "LFindingAid$Copies;" ∈ fz_WA := fz_in (fz_tin 245 (by decide +kernel)) (by decide +kernel)
theorem fm_28 : Cond.code yX1_has cX1_has 2 (some .boolean) ∈ fz_WA := fz_in (fz_tin 789 (by decide +kernel)) (by decide +kernel)
theorem fm_29 : Cond.methodLink RX9 498 yX1_has ∈ fz_WA := fz_in (fz_tin 786 (by decide +kernel)) (by decide +kernel)
theorem fm_30 : Cond.instanceMethod yX1_has ∈ fz_WA := fz_in (fz_tin 787 (by decide +kernel)) (by decide +kernel)
theorem fm_31 : Cond.selects RX1 yX1_has yX1_has ∈ fz_WA := fz_in (fz_tin 788 (by decide +kernel)) (by decide +kernel)
theorem fm_32 : Cond.initialized RX1 ∈ fz_WA := fz_in (fz_tin 8 (by decide +kernel)) (by decide +kernel)
theorem fm_33 : Cond.fieldLink RX9 314 "FindingAid$State" "requests" "LFindingAid$Requests;" ∈ fz_WA := fz_in (fz_tin 247 (by decide +kernel)) (by decide +kernel)
theorem fm_34 : Cond.fieldLink RX9 330 "FindingAid$Requests" "count" "I" ∈ fz_WA := fz_in (fz_tin 214 (by decide +kernel)) (by decide +kernel)
theorem fm_35 : Cond.code yX8_place cX8_place 3 (some .int) ∈ fz_WA := fz_in (fz_tin 469 (by decide +kernel)) (by decide +kernel)
theorem fm_36 : Cond.methodLink RX8 63 yX8_place ∈ fz_WA := fz_in (fz_tin 466 (by decide +kernel)) (by decide +kernel)
theorem fm_37 : Cond.instanceMethod yX8_place ∈ fz_WA := fz_in (fz_tin 467 (by decide +kernel)) (by decide +kernel)
theorem fm_38 : Cond.selects RX8 yX8_place yX8_place ∈ fz_WA := fz_in (fz_tin 468 (by decide +kernel)) (by decide +kernel)
theorem fm_39 : Cond.fieldLink RX8 31 "FindingAid$Tree" "below" "[I" ∈ fz_WA := fz_in (fz_tin 72 (by decide +kernel)) (by decide +kernel)
theorem fm_40 : Cond.fieldLink RX8 40 "FindingAid$Tree" "to" "[I" ∈ fz_WA := fz_in (fz_tin 81 (by decide +kernel)) (by decide +kernel)
theorem fm_41 : Cond.fieldLink RX8 18 "FindingAid$Tree" "line" "[I" ∈ fz_WA := fz_in (fz_tin 63 (by decide +kernel)) (by decide +kernel)
theorem fm_42 : Cond.methodLink RX8 70 Lib.Math.max.name ∈ fz_WA := fz_in (fz_tin 470 (by decide +kernel)) (by decide +kernel)
theorem fm_43 : Cond.static Lib.Math.max.name ∈ fz_WA := fz_in (fz_tin 471 (by decide +kernel)) (by decide +kernel)
theorem fm_44 : Cond.initialized "java/lang/Math" ∈ fz_WA := fz_in (fz_tin 25 (by decide +kernel)) (by decide +kernel)
theorem fm_45 : Cond.code Lib.Math.max.name Lib.Math.max.code 2 (some .int) ∈ fz_WA := fz_in (fz_tin 472 (by decide +kernel)) (by decide +kernel)
theorem fm_46 : Cond.fieldLink RX8 34 "FindingAid$Tree" "pages" "[I" ∈ fz_WA := fz_in (fz_tin 74 (by decide +kernel)) (by decide +kernel)
theorem fm_47 : Cond.fieldLink RX8 28 "FindingAid$Tree" "parent" "[I" ∈ fz_WA := fz_in (fz_tin 69 (by decide +kernel)) (by decide +kernel)
theorem fm_48 : Cond.fieldLink RX6 9 "FindingAid$Rules" "mode" "[I" ∈ fz_WA := fz_in (fz_tin 112 (by decide +kernel)) (by decide +kernel)
theorem fm_49 : Cond.fieldLink RX6 33 "FindingAid$Tree" "parent" "[I" ∈ fz_WA := fz_in (fz_tin 70 (by decide +kernel)) (by decide +kernel)
theorem fm_50 : Cond.code yX6_decidingNode cX6_decidingNode 7 (some .int) ∈ fz_WA := fz_in (fz_tin 461 (by decide +kernel)) (by decide +kernel)
theorem fm_51 : Cond.methodLink RX6 38 yX6_decidingNode ∈ fz_WA := fz_in (fz_tin 458 (by decide +kernel)) (by decide +kernel)
theorem fm_52 : Cond.instanceMethod yX6_decidingNode ∈ fz_WA := fz_in (fz_tin 459 (by decide +kernel)) (by decide +kernel)
theorem fm_53 : Cond.selects RX6 yX6_decidingNode yX6_decidingNode ∈ fz_WA := fz_in (fz_tin 460 (by decide +kernel)) (by decide +kernel)
theorem fm_54 : Cond.initialized RX6 ∈ fz_WA := fz_in (fz_tin 5 (by decide +kernel)) (by decide +kernel)
theorem fm_55 : Cond.code yX6_term cX6_term 4 (some .int) ∈ fz_WA := fz_in (fz_tin 457 (by decide +kernel)) (by decide +kernel)
theorem fm_56 : Cond.methodLink RX6 42 yX6_term ∈ fz_WA := fz_in (fz_tin 454 (by decide +kernel)) (by decide +kernel)
theorem fm_57 : Cond.instanceMethod yX6_term ∈ fz_WA := fz_in (fz_tin 455 (by decide +kernel)) (by decide +kernel)
theorem fm_58 : Cond.selects RX6 yX6_term yX6_term ∈ fz_WA := fz_in (fz_tin 456 (by decide +kernel)) (by decide +kernel)
theorem fm_59 : Cond.code yX8_latestDay cX8_latestDay 6 (some .int) ∈ fz_WA := fz_in (fz_tin 465 (by decide +kernel)) (by decide +kernel)
theorem fm_60 : Cond.methodLink RX6 45 yX8_latestDay ∈ fz_WA := fz_in (fz_tin 462 (by decide +kernel)) (by decide +kernel)
theorem fm_61 : Cond.instanceMethod yX8_latestDay ∈ fz_WA := fz_in (fz_tin 463 (by decide +kernel)) (by decide +kernel)
theorem fm_62 : Cond.selects RX8 yX8_latestDay yX8_latestDay ∈ fz_WA := fz_in (fz_tin 464 (by decide +kernel)) (by decide +kernel)
theorem fm_63 : Cond.code yX6_lastDay cX6_lastDay 2 (some .int) ∈ fz_WA := fz_in (fz_tin 475 (by decide +kernel)) (by decide +kernel)
theorem fm_64 : Cond.methodLink RX6 49 yX6_lastDay ∈ fz_WA := fz_in (fz_tin 473 (by decide +kernel)) (by decide +kernel)
theorem fm_65 : Cond.static yX6_lastDay ∈ fz_WA := fz_in (fz_tin 474 (by decide +kernel)) (by decide +kernel)
theorem fm_66 : Cond.fieldLink RX6 54 "FindingAid$Tree" "pages" "[I" ∈ fz_WA := fz_in (fz_tin 77 (by decide +kernel)) (by decide +kernel)
theorem fm_67 : Cond.fieldLink RX0 15 "FindingAid$Containers" "open" "I" ∈ fz_WA := fz_in (fz_tin 149 (by decide +kernel)) (by decide +kernel)
theorem fm_68 : Cond.fieldLink RX3 9 "FindingAid$Marks" "count" "I" ∈ fz_WA := fz_in (fz_tin 137 (by decide +kernel)) (by decide +kernel)
theorem fm_69 : Cond.code yX1_countOf cX1_countOf 4 (some .int) ∈ fz_WA := fz_in (fz_tin 722 (by decide +kernel)) (by decide +kernel)
theorem fm_70 : Cond.methodLink RX1 34 yX1_countOf ∈ fz_WA := fz_in (fz_tin 1112 (by decide +kernel)) (by decide +kernel)
theorem fm_71 : Cond.instanceMethod yX1_countOf ∈ fz_WA := fz_in (fz_tin 720 (by decide +kernel)) (by decide +kernel)
theorem fm_72 : Cond.selects RX1 yX1_countOf yX1_countOf ∈ fz_WA := fz_in (fz_tin 721 (by decide +kernel)) (by decide +kernel)
theorem fm_73 : Cond.fieldLink RJ5 79 "java/lang/AbstractStringBuilder" "count" "I" ∈ fz_WA := fz_in (fz_tin 347 (by decide +kernel)) (by decide +kernel)
theorem fm_74 : Cond.code yJ5_length_8abf5 cJ5_length_8abf5 1 (some .int) ∈ fz_WA := fz_in (fz_tin 1408 (by decide +kernel)) (by decide +kernel)
theorem fm_75 : Cond.methodLink RJ4 343 yJ5_length_8abf5 ∈ fz_WA := fz_in (fz_tin 1407 (by decide +kernel)) (by decide +kernel)
theorem fm_76 : Cond.sameMethod RJ5 RJ5 "length" "()I" ∈ fz_WA := fz_in (fz_tin 1403 (by decide +kernel)) (by decide +kernel)
theorem fm_77 : Cond.superclass RJ4 RJ5 ∈ fz_WA := fz_in (fz_tin 356 (by decide +kernel)) (by decide +kernel)
theorem fm_78 : Cond.instanceMethod yJ5_length_8abf5 ∈ fz_WA := fz_in (fz_tin 1402 (by decide +kernel)) (by decide +kernel)
theorem fm_79 : Cond.initialized RJ5 ∈ fz_WA := fz_in (fz_tin 12 (by decide +kernel)) (by decide +kernel)
theorem fm_80 : Cond.fieldLink RX5 9 "FindingAid$Requests" "count" "I" ∈ fz_WA := fz_in (fz_tin 212 (by decide +kernel)) (by decide +kernel)
theorem fm_81 : Cond.constant RJ6 265 1431655765 ∈ fz_WA := fz_in (fz_tin 982 (by decide +kernel)) (by decide +kernel)
theorem fm_82 : Cond.constant RJ6 266 858993459 ∈ fz_WA := fz_in (fz_tin 983 (by decide +kernel)) (by decide +kernel)
theorem fm_83 : Cond.constant RJ6 267 252645135 ∈ fz_WA := fz_in (fz_tin 984 (by decide +kernel)) (by decide +kernel)
theorem fm_84 : Cond.code yJ6_bitCount_0f7a4 cJ6_bitCount_0f7a4 1 (some .int) ∈ fz_WA := fz_in (fz_tin 981 (by decide +kernel)) (by decide +kernel)
theorem fm_85 : Cond.methodLink RX5 44 yJ6_bitCount_0f7a4 ∈ fz_WA := fz_in (fz_tin 1027 (by decide +kernel)) (by decide +kernel)
theorem fm_86 : Cond.static yJ6_bitCount_0f7a4 ∈ fz_WA := fz_in (fz_tin 980 (by decide +kernel)) (by decide +kernel)
theorem fm_87 : Cond.initialized RJ6 ∈ fz_WA := fz_in (fz_tin 28 (by decide +kernel)) (by decide +kernel)
theorem fm_88 : Cond.fieldLink RX7 42 "FindingAid$State" "requests" "LFindingAid$Requests;" ∈ fz_WA := fz_in (fz_tin 246 (by decide +kernel)) (by decide +kernel)
theorem fm_89 : Cond.fieldLink RX7 152 "FindingAid$Requests" "count" "I" ∈ fz_WA := fz_in (fz_tin 213 (by decide +kernel)) (by decide +kernel)
theorem fm_90 : Cond.fieldLink RX7 12 "FindingAid$State" "tree" "LFindingAid$Tree;" ∈ fz_WA := fz_in (fz_tin 238 (by decide +kernel)) (by decide +kernel)
theorem fm_91 : Cond.fieldLink RX7 158 "FindingAid$Tree" "size" "I" ∈ fz_WA := fz_in (fz_tin 61 (by decide +kernel)) (by decide +kernel)
theorem fm_92 : Cond.fieldLink RX7 161 "FindingAid$Tree" "line" "[I" ∈ fz_WA := fz_in (fz_tin 64 (by decide +kernel)) (by decide +kernel)
theorem fm_93 : Cond.fieldLink RX7 97 "FindingAid$Tree" "pages" "[I" ∈ fz_WA := fz_in (fz_tin 76 (by decide +kernel)) (by decide +kernel)
theorem fm_94 : Cond.fieldLink RX7 21 "FindingAid$State" "rules" "LFindingAid$Rules;" ∈ fz_WA := fz_in (fz_tin 240 (by decide +kernel)) (by decide +kernel)
theorem fm_95 : Cond.code yX6_openSet cX6_openSet 7 (some .int) ∈ fz_WA := fz_in (fz_tin 449 (by decide +kernel)) (by decide +kernel)
theorem fm_96 : Cond.methodLink RX7 83 yX6_openSet ∈ fz_WA := fz_in (fz_tin 446 (by decide +kernel)) (by decide +kernel)
theorem fm_97 : Cond.instanceMethod yX6_openSet ∈ fz_WA := fz_in (fz_tin 447 (by decide +kernel)) (by decide +kernel)
theorem fm_98 : Cond.selects RX6 yX6_openSet yX6_openSet ∈ fz_WA := fz_in (fz_tin 448 (by decide +kernel)) (by decide +kernel)
theorem fm_99 : Cond.methodLink RX7 147 yJ6_bitCount_0f7a4 ∈ fz_WA := fz_in (fz_tin 1089 (by decide +kernel)) (by decide +kernel)
theorem fm_100 : Cond.code yX9_requireNode cX9_requireNode 2 none ∈ fz_WA := fz_in (fz_tin 581 (by decide +kernel)) (by decide +kernel)
theorem fm_101 : Cond.methodLink RX9 51 yX9_requireNode ∈ fz_WA := fz_in (fz_tin 578 (by decide +kernel)) (by decide +kernel)
theorem fm_102 : Cond.instanceMethod yX9_requireNode ∈ fz_WA := fz_in (fz_tin 580 (by decide +kernel)) (by decide +kernel)
theorem fm_103 : Cond.selects RX9 yX9_requireNode yX9_requireNode ∈ fz_WA := fz_in (fz_sin 2 (by decide +kernel)) (by decide +kernel)
theorem fm_104 : Cond.fieldLink RX9 59 "FindingAid$Tree" "kind" "[I" ∈ fz_WA := fz_in (fz_tin 68 (by decide +kernel)) (by decide +kernel)
theorem fm_105 : Cond.code yX9_requirePart cX9_requirePart 2 none ∈ fz_WA := fz_in (fz_tin 708 (by decide +kernel)) (by decide +kernel)
theorem fm_106 : Cond.methodLink RX9 112 yX9_requirePart ∈ fz_WA := fz_in (fz_tin 706 (by decide +kernel)) (by decide +kernel)
theorem fm_107 : Cond.static yX9_requirePart ∈ fz_WA := fz_in (fz_tin 707 (by decide +kernel)) (by decide +kernel)
theorem fm_108 : Cond.fieldLink RX9 102 "FindingAid$Tree" "parent" "[I" ∈ fz_WA := fz_in (fz_tin 71 (by decide +kernel)) (by decide +kernel)
theorem fm_109 : Cond.fieldLink RX9 118 "FindingAid$Tree" "from" "[I" ∈ fz_WA := fz_in (fz_tin 80 (by decide +kernel)) (by decide +kernel)
theorem fm_110 : Cond.fieldLink RX9 121 "FindingAid$Tree" "to" "[I" ∈ fz_WA := fz_in (fz_tin 82 (by decide +kernel)) (by decide +kernel)
theorem fm_111 : Cond.methodLink RX9 124 yX8_latestDay ∈ fz_WA := fz_in (fz_tin 710 (by decide +kernel)) (by decide +kernel)
theorem fm_112 : Cond.code yX8_countChildren cX8_countChildren 4 (some .int) ∈ fz_WA := fz_in (fz_tin 714 (by decide +kernel)) (by decide +kernel)
theorem fm_113 : Cond.methodLink RX9 127 yX8_countChildren ∈ fz_WA := fz_in (fz_tin 711 (by decide +kernel)) (by decide +kernel)
theorem fm_114 : Cond.instanceMethod yX8_countChildren ∈ fz_WA := fz_in (fz_tin 712 (by decide +kernel)) (by decide +kernel)
theorem fm_115 : Cond.selects RX8 yX8_countChildren yX8_countChildren ∈ fz_WA := fz_in (fz_tin 713 (by decide +kernel)) (by decide +kernel)
theorem fm_116 : Cond.fieldLink RX9 130 "FindingAid$Tree" "below" "[I" ∈ fz_WA := fz_in (fz_tin 73 (by decide +kernel)) (by decide +kernel)
theorem fm_117 : Cond.code yX8_countPages cX8_countPages 6 (some .int) ∈ fz_WA := fz_in (fz_tin 718 (by decide +kernel)) (by decide +kernel)
theorem fm_118 : Cond.methodLink RX9 133 yX8_countPages ∈ fz_WA := fz_in (fz_tin 715 (by decide +kernel)) (by decide +kernel)
theorem fm_119 : Cond.instanceMethod yX8_countPages ∈ fz_WA := fz_in (fz_tin 716 (by decide +kernel)) (by decide +kernel)
theorem fm_120 : Cond.selects RX8 yX8_countPages yX8_countPages ∈ fz_WA := fz_in (fz_tin 717 (by decide +kernel)) (by decide +kernel)
theorem fm_121 : Cond.fieldLink RX9 140 "FindingAid$Containers" "holder" "[I" ∈ fz_WA := fz_in (fz_tin 159 (by decide +kernel)) (by decide +kernel)
theorem fm_122 : Cond.fieldLink RX9 145 "FindingAid$Containers" "serial" "[I" ∈ fz_WA := fz_in (fz_tin 162 (by decide +kernel)) (by decide +kernel)
theorem fm_123 : Cond.methodLink RX9 152 yX1_countOf ∈ fz_WA := fz_in (fz_tin 719 (by decide +kernel)) (by decide +kernel)
theorem fm_124 : Cond.code yX8_findChild cX8_findChild 5 (some .int) ∈ fz_WA := fz_in (fz_tin 733 (by decide +kernel)) (by decide +kernel)
theorem fm_125 : Cond.methodLink RX9 157 yX8_findChild ∈ fz_WA := fz_in (fz_tin 730 (by decide +kernel)) (by decide +kernel)
theorem fm_126 : Cond.instanceMethod yX8_findChild ∈ fz_WA := fz_in (fz_tin 731 (by decide +kernel)) (by decide +kernel)
theorem fm_127 : Cond.selects RX8 yX8_findChild yX8_findChild ∈ fz_WA := fz_in (fz_tin 732 (by decide +kernel)) (by decide +kernel)
theorem fm_128 : Cond.fieldLink RX9 168 "FindingAid$State" "rules" "LFindingAid$Rules;" ∈ fz_WA := fz_in (fz_tin 241 (by decide +kernel)) (by decide +kernel)
theorem fm_129 : Cond.methodLink RX9 187 yX6_term ∈ fz_WA := fz_in (fz_tin 759 (by decide +kernel)) (by decide +kernel)
theorem fm_130 : Cond.methodLink RX9 191 yX6_decidingNode ∈ fz_WA := fz_in (fz_tin 760 (by decide +kernel)) (by decide +kernel)
theorem fm_131 : Cond.code yX6_lastClosedDay cX6_lastClosedDay 3 (some .int) ∈ fz_WA := fz_in (fz_tin 453 (by decide +kernel)) (by decide +kernel)
theorem fm_132 : Cond.methodLink RX9 194 yX6_lastClosedDay ∈ fz_WA := fz_in (fz_tin 761 (by decide +kernel)) (by decide +kernel)
theorem fm_133 : Cond.instanceMethod yX6_lastClosedDay ∈ fz_WA := fz_in (fz_tin 451 (by decide +kernel)) (by decide +kernel)
theorem fm_134 : Cond.selects RX6 yX6_lastClosedDay yX6_lastClosedDay ∈ fz_WA := fz_in (fz_tin 452 (by decide +kernel)) (by decide +kernel)
theorem fm_135 : Cond.code yX9_requireDay cX9_requireDay 1 none ∈ fz_WA := fz_in (fz_tin 771 (by decide +kernel)) (by decide +kernel)
theorem fm_136 : Cond.methodLink RX9 197 yX9_requireDay ∈ fz_WA := fz_in (fz_tin 769 (by decide +kernel)) (by decide +kernel)
theorem fm_137 : Cond.static yX9_requireDay ∈ fz_WA := fz_in (fz_tin 770 (by decide +kernel)) (by decide +kernel)
theorem fm_138 : Cond.methodLink RX9 200 yX6_openSet ∈ fz_WA := fz_in (fz_tin 773 (by decide +kernel)) (by decide +kernel)
theorem fm_139 : Cond.code yX9_requireCopy cX9_requireCopy 2 none ∈ fz_WA := fz_in (fz_tin 785 (by decide +kernel)) (by decide +kernel)
theorem fm_140 : Cond.methodLink RX9 204 yX9_requireCopy ∈ fz_WA := fz_in (fz_tin 782 (by decide +kernel)) (by decide +kernel)
theorem fm_141 : Cond.instanceMethod yX9_requireCopy ∈ fz_WA := fz_in (fz_tin 784 (by decide +kernel)) (by decide +kernel)
theorem fm_142 : Cond.selects RX9 yX9_requireCopy yX9_requireCopy ∈ fz_WA := fz_in (fz_sin 4 (by decide +kernel)) (by decide +kernel)
theorem fm_143 : Cond.code yX9_requireContainer cX9_requireContainer 2 none ∈ fz_WA := fz_in (fz_tin 845 (by decide +kernel)) (by decide +kernel)
theorem fm_144 : Cond.methodLink RX9 227 yX9_requireContainer ∈ fz_WA := fz_in (fz_tin 842 (by decide +kernel)) (by decide +kernel)
theorem fm_145 : Cond.instanceMethod yX9_requireContainer ∈ fz_WA := fz_in (fz_tin 844 (by decide +kernel)) (by decide +kernel)
theorem fm_146 : Cond.selects RX9 yX9_requireContainer yX9_requireContainer ∈ fz_WA := fz_in (fz_sin 5 (by decide +kernel)) (by decide +kernel)
theorem fm_147 : Cond.classLink RX9 79 "java/lang/IllegalStateException" ∈ fz_WA := fz_in (fz_tin 621 (by decide +kernel)) (by decide +kernel)
theorem fm_148 : Cond.initialized "java/lang/IllegalStateException" ∈ fz_WA := fz_in (fz_tin 23 (by decide +kernel)) (by decide +kernel)
theorem fm_149 : Cond.fieldLink RX9 239 "FindingAid$Containers" "marks" "LFindingAid$Marks;" ∈ fz_WA := fz_in (fz_tin 164 (by decide +kernel)) (by decide +kernel)
theorem fm_150 : Cond.code yX3_unitOf cX3_unitOf 5 (some .int) ∈ fz_WA := fz_in (fz_tin 955 (by decide +kernel)) (by decide +kernel)
theorem fm_151 : Cond.methodLink RX9 281 yX3_unitOf ∈ fz_WA := fz_in (fz_tin 952 (by decide +kernel)) (by decide +kernel)
theorem fm_152 : Cond.instanceMethod yX3_unitOf ∈ fz_WA := fz_in (fz_tin 953 (by decide +kernel)) (by decide +kernel)
theorem fm_153 : Cond.selects RX3 yX3_unitOf yX3_unitOf ∈ fz_WA := fz_in (fz_tin 954 (by decide +kernel)) (by decide +kernel)
theorem fm_154 : Cond.initialized RX3 ∈ fz_WA := fz_in (fz_tin 7 (by decide +kernel)) (by decide +kernel)
theorem fm_155 : Cond.classLink RX9 210 "java/util/NoSuchElementException" ∈ fz_WA := fz_in (fz_tin 799 (by decide +kernel)) (by decide +kernel)
theorem fm_156 : Cond.initialized "java/util/NoSuchElementException" ∈ fz_WA := fz_in (fz_tin 26 (by decide +kernel)) (by decide +kernel)
theorem fm_157 : Cond.code yX9_requireUnit cX9_requireUnit 2 none ∈ fz_WA := fz_in (fz_tin 854 (by decide +kernel)) (by decide +kernel)
theorem fm_158 : Cond.methodLink RX9 230 yX9_requireUnit ∈ fz_WA := fz_in (fz_tin 851 (by decide +kernel)) (by decide +kernel)
theorem fm_159 : Cond.instanceMethod yX9_requireUnit ∈ fz_WA := fz_in (fz_tin 853 (by decide +kernel)) (by decide +kernel)
theorem fm_160 : Cond.selects RX9 yX9_requireUnit yX9_requireUnit ∈ fz_WA := fz_in (fz_sin 6 (by decide +kernel)) (by decide +kernel)
theorem fm_161 : Cond.code yX9_requireRequest cX9_requireRequest 2 none ∈ fz_WA := fz_in (fz_tin 1083 (by decide +kernel)) (by decide +kernel)
theorem fm_162 : Cond.methodLink RX9 361 yX9_requireRequest ∈ fz_WA := fz_in (fz_tin 1080 (by decide +kernel)) (by decide +kernel)
theorem fm_163 : Cond.instanceMethod yX9_requireRequest ∈ fz_WA := fz_in (fz_tin 1082 (by decide +kernel)) (by decide +kernel)
theorem fm_164 : Cond.selects RX9 yX9_requireRequest yX9_requireRequest ∈ fz_WA := fz_in (fz_sin 8 (by decide +kernel)) (by decide +kernel)
theorem fm_165 : Cond.fieldLink RX9 383 "FindingAid$Tree" "size" "I" ∈ fz_WA := fz_in (fz_tin 62 (by decide +kernel)) (by decide +kernel)
theorem fm_166 : Cond.code yX8_countUnits cX8_countUnits 3 (some .int) ∈ fz_WA := fz_in (fz_tin 1107 (by decide +kernel)) (by decide +kernel)
theorem fm_167 : Cond.methodLink RX9 386 yX8_countUnits ∈ fz_WA := fz_in (fz_tin 1104 (by decide +kernel)) (by decide +kernel)
theorem fm_168 : Cond.instanceMethod yX8_countUnits ∈ fz_WA := fz_in (fz_tin 1105 (by decide +kernel)) (by decide +kernel)
theorem fm_169 : Cond.selects RX8 yX8_countUnits yX8_countUnits ∈ fz_WA := fz_in (fz_tin 1106 (by decide +kernel)) (by decide +kernel)
theorem fm_170 : Cond.fieldLink RX9 389 "FindingAid$Containers" "open" "I" ∈ fz_WA := fz_in (fz_tin 150 (by decide +kernel)) (by decide +kernel)
theorem fm_171 : Cond.fieldLink RX9 391 "FindingAid$Containers" "stored" "I" ∈ fz_WA := fz_in (fz_tin 152 (by decide +kernel)) (by decide +kernel)
theorem fm_172 : Cond.code yX1_countPresent cX1_countPresent 1 (some .int) ∈ fz_WA := fz_in (fz_tin 1111 (by decide +kernel)) (by decide +kernel)
theorem fm_173 : Cond.methodLink RX9 394 yX1_countPresent ∈ fz_WA := fz_in (fz_tin 1108 (by decide +kernel)) (by decide +kernel)
theorem fm_174 : Cond.instanceMethod yX1_countPresent ∈ fz_WA := fz_in (fz_tin 1109 (by decide +kernel)) (by decide +kernel)
theorem fm_175 : Cond.selects RX1 yX1_countPresent yX1_countPresent ∈ fz_WA := fz_in (fz_tin 1110 (by decide +kernel)) (by decide +kernel)
theorem fm_176 : Cond.code yX7_countAllShownPages cX7_countAllShownPages 3 (some .int) ∈ fz_WA := fz_in (fz_tin 1116 (by decide +kernel)) (by decide +kernel)
theorem fm_177 : Cond.methodLink RX9 397 yX7_countAllShownPages ∈ fz_WA := fz_in (fz_tin 1113 (by decide +kernel)) (by decide +kernel)
theorem fm_178 : Cond.instanceMethod yX7_countAllShownPages ∈ fz_WA := fz_in (fz_tin 1114 (by decide +kernel)) (by decide +kernel)
theorem fm_179 : Cond.selects RX7 yX7_countAllShownPages yX7_countAllShownPages ∈ fz_WA := fz_in (fz_tin 1115 (by decide +kernel)) (by decide +kernel)
theorem fm_180 : Cond.initialized RX7 ∈ fz_WA := fz_in (fz_tin 2 (by decide +kernel)) (by decide +kernel)
theorem fm_181 : Cond.code yX5_countShowing cX5_countShowing 4 (some .int) ∈ fz_WA := fz_in (fz_tin 988 (by decide +kernel)) (by decide +kernel)
theorem fm_182 : Cond.methodLink RX9 318 yX5_countShowing ∈ fz_WA := fz_in (fz_tin 985 (by decide +kernel)) (by decide +kernel)
theorem fm_183 : Cond.instanceMethod yX5_countShowing ∈ fz_WA := fz_in (fz_tin 986 (by decide +kernel)) (by decide +kernel)
theorem fm_184 : Cond.selects RX5 yX5_countShowing yX5_countShowing ∈ fz_WA := fz_in (fz_tin 987 (by decide +kernel)) (by decide +kernel)
theorem fm_185 : Cond.initialized RX5 ∈ fz_WA := fz_in (fz_tin 9 (by decide +kernel)) (by decide +kernel)
theorem fm_186 : Cond.code yX3_countReferring cX3_countReferring 4 (some .int) ∈ fz_WA := fz_in (fz_tin 1121 (by decide +kernel)) (by decide +kernel)
theorem fm_187 : Cond.methodLink RX9 400 yX3_countReferring ∈ fz_WA := fz_in (fz_tin 1118 (by decide +kernel)) (by decide +kernel)
theorem fm_188 : Cond.instanceMethod yX3_countReferring ∈ fz_WA := fz_in (fz_tin 1119 (by decide +kernel)) (by decide +kernel)
theorem fm_189 : Cond.selects RX3 yX3_countReferring yX3_countReferring ∈ fz_WA := fz_in (fz_tin 1120 (by decide +kernel)) (by decide +kernel)
theorem fm_190 : Cond.code yX5_countOn cX5_countOn 4 (some .int) ∈ fz_WA := fz_in (fz_tin 1133 (by decide +kernel)) (by decide +kernel)
theorem fm_191 : Cond.methodLink RX9 404 yX5_countOn ∈ fz_WA := fz_in (fz_tin 1130 (by decide +kernel)) (by decide +kernel)
theorem fm_192 : Cond.instanceMethod yX5_countOn ∈ fz_WA := fz_in (fz_tin 1131 (by decide +kernel)) (by decide +kernel)
theorem fm_193 : Cond.selects RX5 yX5_countOn yX5_countOn ∈ fz_WA := fz_in (fz_tin 1132 (by decide +kernel)) (by decide +kernel)
theorem fm_194 : Cond.code yX5_countReaders cX5_countReaders 4 (some .int) ∈ fz_WA := fz_in (fz_tin 1026 (by decide +kernel)) (by decide +kernel)
theorem fm_195 : Cond.methodLink RX9 407 yX5_countReaders ∈ fz_WA := fz_in (fz_tin 1134 (by decide +kernel)) (by decide +kernel)
theorem fm_196 : Cond.instanceMethod yX5_countReaders ∈ fz_WA := fz_in (fz_tin 1024 (by decide +kernel)) (by decide +kernel)
theorem fm_197 : Cond.selects RX5 yX5_countReaders yX5_countReaders ∈ fz_WA := fz_in (fz_tin 1025 (by decide +kernel)) (by decide +kernel)
theorem fm_198 : Cond.code yX7_countOpenUnits cX7_countOpenUnits 5 (some .int) ∈ fz_WA := fz_in (fz_tin 1138 (by decide +kernel)) (by decide +kernel)
theorem fm_199 : Cond.methodLink RX9 410 yX7_countOpenUnits ∈ fz_WA := fz_in (fz_tin 1135 (by decide +kernel)) (by decide +kernel)
theorem fm_200 : Cond.instanceMethod yX7_countOpenUnits ∈ fz_WA := fz_in (fz_tin 1136 (by decide +kernel)) (by decide +kernel)
theorem fm_201 : Cond.selects RX7 yX7_countOpenUnits yX7_countOpenUnits ∈ fz_WA := fz_in (fz_tin 1137 (by decide +kernel)) (by decide +kernel)
theorem fm_202 : Cond.code yX7_countOpenPages cX7_countOpenPages 4 (some .int) ∈ fz_WA := fz_in (fz_tin 1142 (by decide +kernel)) (by decide +kernel)
theorem fm_203 : Cond.methodLink RX9 413 yX7_countOpenPages ∈ fz_WA := fz_in (fz_tin 1139 (by decide +kernel)) (by decide +kernel)
theorem fm_204 : Cond.instanceMethod yX7_countOpenPages ∈ fz_WA := fz_in (fz_tin 1140 (by decide +kernel)) (by decide +kernel)
theorem fm_205 : Cond.selects RX7 yX7_countOpenPages yX7_countOpenPages ∈ fz_WA := fz_in (fz_tin 1141 (by decide +kernel)) (by decide +kernel)
theorem fm_206 : Cond.fieldLink RX9 33 "FindingAid" "report" "LFindingAid$Report;" ∈ fz_WA := fz_in (fz_tin 363 (by decide +kernel)) (by decide +kernel)
theorem fm_207 : Cond.fieldLink RX9 421 "FindingAid$Report" "levels" "I" ∈ fz_WA := fz_in (fz_tin 271 (by decide +kernel)) (by decide +kernel)
theorem fm_208 : Cond.classLink RX9 416 "java/lang/ArithmeticException" ∈ fz_WA := fz_in (fz_tin 1164 (by decide +kernel)) (by decide +kernel)
theorem fm_209 : Cond.initialized "java/lang/ArithmeticException" ∈ fz_WA := fz_in (fz_tin 30 (by decide +kernel)) (by decide +kernel)
theorem fm_210 : Cond.fieldLink RX9 47 "FindingAid" "text" "Ljava/lang/StringBuilder;" ∈ fz_WA := fz_in (fz_tin 365 (by decide +kernel)) (by decide +kernel)
theorem fm_211 : Cond.code yJ4_length_8abf5 cJ4_length_8abf5 1 (some .int) ∈ fz_WA := fz_in (fz_tin 1406 (by decide +kernel)) (by decide +kernel)
theorem fm_212 : Cond.methodLink RX9 472 yJ4_length_8abf5 ∈ fz_WA := fz_in (fz_tin 1517 (by decide +kernel)) (by decide +kernel)
theorem fm_213 : Cond.instanceMethod yJ4_length_8abf5 ∈ fz_WA := fz_in (fz_tin 1405 (by decide +kernel)) (by decide +kernel)
theorem fm_214 : Cond.selects RJ4 yJ4_length_8abf5 yJ4_length_8abf5 ∈ fz_WA := fz_in (fz_tin 2049 (by decide +kernel)) (by decide +kernel)
theorem fm_215 : Cond.initialized RJ4 ∈ fz_WA := fz_in (fz_tin 13 (by decide +kernel)) (by decide +kernel)
theorem fm_216 : Cond.fieldLink RX9 16 "FindingAid" "past" "[LFindingAid$State;" ∈ fz_WA := fz_in (fz_tin 359 (by decide +kernel)) (by decide +kernel)
theorem fm_217 : Cond.fieldLink RX9 20 "FindingAid" "newest" "I" ∈ fz_WA := fz_in (fz_tin 360 (by decide +kernel)) (by decide +kernel)
theorem fm_218 : Cond.fieldLink RX9 24 "FindingAid" "undoable" "I" ∈ fz_WA := fz_in (fz_tin 361 (by decide +kernel)) (by decide +kernel)
theorem fm_219 : Cond.fieldLink RX9 27 "FindingAid" "saved" "LFindingAid$State;" ∈ fz_WA := fz_in (fz_tin 362 (by decide +kernel)) (by decide +kernel)
theorem dX8_has_0 : decode cX8_has 0 = .ok (.iload_n 1, 1) := by decide +kernel
theorem dX8_has_1 : decode cX8_has 1 = .ok (.ifCond .lt 25, 3) := by decide +kernel
theorem dX8_has_26 : decode cX8_has 26 = .ok (.iconst 0, 1) := by decide +kernel
theorem dX8_has_27 : decode cX8_has 27 = .ok (.ireturn, 1) := by decide +kernel
theorem dX8_has_4 : decode cX8_has 4 = .ok (.iload_n 1, 1) := by decide +kernel
theorem dX8_has_5 : decode cX8_has 5 = .ok (.aload_n 0, 1) := by decide +kernel
theorem dX8_has_6 : decode cX8_has 6 = .ok (.getfield 9, 3) := by decide +kernel
theorem dX8_has_9 : decode cX8_has 9 = .ok (.if_icmp .ge 17, 3) := by decide +kernel
theorem dX8_has_12 : decode cX8_has 12 = .ok (.aload_n 0, 1) := by decide +kernel
theorem dX8_has_13 : decode cX8_has 13 = .ok (.getfield 25, 3) := by decide +kernel
theorem dX8_has_16 : decode cX8_has 16 = .ok (.iload_n 1, 1) := by decide +kernel
theorem dX8_has_17 : decode cX8_has 17 = .ok (.iaload, 1) := by decide +kernel
theorem dX8_has_18 : decode cX8_has 18 = .ok (.iconst (-1), 1) := by decide +kernel
theorem dX8_has_19 : decode cX8_has 19 = .ok (.if_icmp .eq 7, 3) := by decide +kernel
theorem dX8_has_22 : decode cX8_has 22 = .ok (.iconst 1, 1) := by decide +kernel
theorem dX8_has_23 : decode cX8_has 23 = .ok (.goto 4, 3) := by decide +kernel
theorem dX8_place_0 : decode cX8_place 0 = .ok (.iconst 0, 1) := by decide +kernel
theorem dX8_place_1 : decode cX8_place 1 = .ok (.istore_n 2, 1) := by decide +kernel
theorem dX8_place_2 : decode cX8_place 2 = .ok (.iload_n 2, 1) := by decide +kernel
theorem dX8_place_3 : decode cX8_place 3 = .ok (.aload_n 0, 1) := by decide +kernel
theorem dX8_place_4 : decode cX8_place 4 = .ok (.getfield 15, 3) := by decide +kernel
theorem dX8_place_7 : decode cX8_place 7 = .ok (.iconst 1, 1) := by decide +kernel
theorem dX8_place_8 : decode cX8_place 8 = .ok (.isub, 1) := by decide +kernel
theorem dX8_place_9 : decode cX8_place 9 = .ok (.if_icmp .ge 19, 3) := by decide +kernel
theorem dX8_place_28 : decode cX8_place 28 = .ok (.iload_n 2, 1) := by decide +kernel
theorem dX8_place_29 : decode cX8_place 29 = .ok (.ireturn, 1) := by decide +kernel
theorem dX9_isDay_0 : decode cX9_isDay 0 = .ok (.iload_n 0, 1) := by decide +kernel
theorem dX9_isDay_1 : decode cX9_isDay 1 = .ok (.ifCond .lt 14, 3) := by decide +kernel
theorem dX9_isDay_15 : decode cX9_isDay 15 = .ok (.iconst 0, 1) := by decide +kernel
theorem dX9_isDay_16 : decode cX9_isDay 16 = .ok (.ireturn, 1) := by decide +kernel
theorem dX9_isDay_4 : decode cX9_isDay 4 = .ok (.iload_n 0, 1) := by decide +kernel
theorem dX9_isDay_5 : decode cX9_isDay 5 = .ok (.sipush 9999, 3) := by decide +kernel
theorem dX9_isDay_8 : decode cX9_isDay 8 = .ok (.if_icmp .gt 7, 3) := by decide +kernel
theorem dX9_isDay_11 : decode cX9_isDay 11 = .ok (.iconst 1, 1) := by decide +kernel
theorem dX9_isDay_12 : decode cX9_isDay 12 = .ok (.goto 4, 3) := by decide +kernel
theorem dX9_fitsBelow_0 : decode cX9_fitsBelow 0 = .ok (.iload_n 1, 1) := by decide +kernel
theorem dX9_fitsBelow_1 : decode cX9_fitsBelow 1 = .ok (.iconst 1, 1) := by decide +kernel
theorem dX9_fitsBelow_2 : decode cX9_fitsBelow 2 = .ok (.if_icmp .lt 13, 3) := by decide +kernel
theorem dX9_fitsBelow_15 : decode cX9_fitsBelow 15 = .ok (.iconst 0, 1) := by decide +kernel
theorem dX9_fitsBelow_16 : decode cX9_fitsBelow 16 = .ok (.ireturn, 1) := by decide +kernel
theorem dX9_fitsBelow_5 : decode cX9_fitsBelow 5 = .ok (.iload_n 1, 1) := by decide +kernel
theorem dX9_fitsBelow_6 : decode cX9_fitsBelow 6 = .ok (.iconst 3, 1) := by decide +kernel
theorem dX9_fitsBelow_7 : decode cX9_fitsBelow 7 = .ok (.if_icmp .gt 8, 3) := by decide +kernel
theorem dX9_fitsBelow_10 : decode cX9_fitsBelow 10 = .ok (.iload_n 1, 1) := by decide +kernel
theorem dX9_fitsBelow_11 : decode cX9_fitsBelow 11 = .ok (.iload_n 0, 1) := by decide +kernel
theorem dX9_fitsBelow_12 : decode cX9_fitsBelow 12 = .ok (.if_icmp .gt 5, 3) := by decide +kernel
theorem dX9_fitsBelow_17 : decode cX9_fitsBelow 17 = .ok (.iload_n 2, 1) := by decide +kernel
theorem dX9_fitsBelow_18 : decode cX9_fitsBelow 18 = .ok (.ifCond .lt 18, 3) := by decide +kernel
theorem dX9_fitsBelow_36 : decode cX9_fitsBelow 36 = .ok (.iconst 0, 1) := by decide +kernel
theorem dX9_fitsBelow_37 : decode cX9_fitsBelow 37 = .ok (.ireturn, 1) := by decide +kernel
theorem dX9_fitsBelow_21 : decode cX9_fitsBelow 21 = .ok (.iload_n 2, 1) := by decide +kernel
theorem dX9_fitsBelow_22 : decode cX9_fitsBelow 22 = .ok (.iload_n 1, 1) := by decide +kernel
theorem dX9_fitsBelow_23 : decode cX9_fitsBelow 23 = .ok (.iconst 1, 1) := by decide +kernel
theorem dX9_fitsBelow_24 : decode cX9_fitsBelow 24 = .ok (.if_icmp .ne 7, 3) := by decide +kernel
theorem dX9_fitsBelow_31 : decode cX9_fitsBelow 31 = .ok (.bipush 20, 2) := by decide +kernel
theorem dX9_fitsBelow_33 : decode cX9_fitsBelow 33 = .ok (.if_icmp .le 5, 3) := by decide +kernel
theorem dX9_fitsBelow_38 : decode cX9_fitsBelow 38 = .ok (.iload_n 3, 1) := by decide +kernel
theorem dX9_fitsBelow_39 : decode cX9_fitsBelow 39 = .ok (.iconst (-1), 1) := by decide +kernel
theorem dX9_fitsBelow_40 : decode cX9_fitsBelow 40 = .ok (.if_icmp .eq 24, 3) := by decide +kernel
theorem dX9_fitsBelow_64 : decode cX9_fitsBelow 64 = .ok (.iconst 1, 1) := by decide +kernel
theorem dX9_fitsBelow_65 : decode cX9_fitsBelow 65 = .ok (.goto 4, 3) := by decide +kernel
theorem dX9_fitsBelow_69 : decode cX9_fitsBelow 69 = .ok (.ireturn, 1) := by decide +kernel
theorem dX9_fitsBelow_43 : decode cX9_fitsBelow 43 = .ok (.iload_n 3, 1) := by decide +kernel
theorem dX9_fitsBelow_44 : decode cX9_fitsBelow 44 = .ok (.invokestatic 488, 3) := by decide +kernel
theorem dX9_fitsBelow_47 : decode cX9_fitsBelow 47 = .ok (.ifCond .eq 21, 3) := by decide +kernel
theorem dX9_fitsBelow_50 : decode cX9_fitsBelow 50 = .ok (.iload 4, 2) := by decide +kernel
theorem dX9_fitsBelow_52 : decode cX9_fitsBelow 52 = .ok (.invokestatic 488, 3) := by decide +kernel
theorem dX9_fitsBelow_55 : decode cX9_fitsBelow 55 = .ok (.ifCond .eq 13, 3) := by decide +kernel
theorem dX9_fitsBelow_58 : decode cX9_fitsBelow 58 = .ok (.iload_n 3, 1) := by decide +kernel
theorem dX9_fitsBelow_59 : decode cX9_fitsBelow 59 = .ok (.iload 4, 2) := by decide +kernel
theorem dX9_fitsBelow_61 : decode cX9_fitsBelow 61 = .ok (.if_icmp .gt 7, 3) := by decide +kernel
theorem dX9_fitsBelow_68 : decode cX9_fitsBelow 68 = .ok (.iconst 0, 1) := by decide +kernel
theorem dX9_fitsBelow_27 : decode cX9_fitsBelow 27 = .ok (.iconst 0, 1) := by decide +kernel
theorem dX9_fitsBelow_28 : decode cX9_fitsBelow 28 = .ok (.goto 5, 3) := by decide +kernel
theorem dX0_has_0 : decode cX0_has 0 = .ok (.iload_n 1, 1) := by decide +kernel
theorem dX0_has_1 : decode cX0_has 1 = .ok (.ifCond .lt 24, 3) := by decide +kernel
theorem dX0_has_25 : decode cX0_has 25 = .ok (.iconst 0, 1) := by decide +kernel
theorem dX0_has_26 : decode cX0_has 26 = .ok (.ireturn, 1) := by decide +kernel
theorem dX0_has_4 : decode cX0_has 4 = .ok (.iload_n 1, 1) := by decide +kernel
theorem dX0_has_5 : decode cX0_has 5 = .ok (.aload_n 0, 1) := by decide +kernel
theorem dX0_has_6 : decode cX0_has 6 = .ok (.getfield 9, 3) := by decide +kernel
theorem dX0_has_9 : decode cX0_has 9 = .ok (.if_icmp .ge 16, 3) := by decide +kernel
theorem dX1_has_0 : decode cX1_has 0 = .ok (.iload_n 1, 1) := by decide +kernel
theorem dX1_has_1 : decode cX1_has 1 = .ok (.ifCond .lt 25, 3) := by decide +kernel
theorem dX1_has_26 : decode cX1_has 26 = .ok (.iconst 0, 1) := by decide +kernel
theorem dX1_has_27 : decode cX1_has 27 = .ok (.ireturn, 1) := by decide +kernel
theorem dX1_has_4 : decode cX1_has 4 = .ok (.iload_n 1, 1) := by decide +kernel
theorem dX1_has_5 : decode cX1_has 5 = .ok (.aload_n 0, 1) := by decide +kernel
theorem dX1_has_6 : decode cX1_has 6 = .ok (.getfield 9, 3) := by decide +kernel
theorem dX1_has_9 : decode cX1_has 9 = .ok (.if_icmp .ge 17, 3) := by decide +kernel
theorem dX9_requireNode_0 : decode cX9_requireNode 0 = .ok (.aload_n 0, 1) := by decide +kernel
theorem dX9_requireNode_1 : decode cX9_requireNode 1 = .ok (.getfield 10, 3) := by decide +kernel
theorem dX9_requireNode_4 : decode cX9_requireNode 4 = .ok (.getfield 55, 3) := by decide +kernel
theorem dX9_requireNode_7 : decode cX9_requireNode 7 = .ok (.iload_n 1, 1) := by decide +kernel
theorem dX9_requireNode_8 : decode cX9_requireNode 8 = .ok (.invokevirtual 284, 3) := by decide +kernel
theorem dX9_requireNode_11 : decode cX9_requireNode 11 = .ok (.ifCond .ne 14, 3) := by decide +kernel
theorem dX9_requireNode_25 : decode cX9_requireNode 25 = .ok (.return_, 1) := by decide +kernel
theorem dX9_requireNode_14 : decode cX9_requireNode 14 = .ok (.new 161, 3) := by decide +kernel
theorem dX9_requireNode_17 : decode cX9_requireNode 17 = .ok (.dup, 1) := by decide +kernel
theorem dX9_requireNode_18 : decode cX9_requireNode 18 = .ok (.ldc_w 491, 3) := by decide +kernel
theorem dX9_requireNode_21 : decode cX9_requireNode 21 = .ok (.invokespecial 165, 3) := by decide +kernel
theorem dX9_requireNode_24 : decode cX9_requireNode 24 = .ok (.athrow, 1) := by decide +kernel
theorem dX9_requireUnit_0 : decode cX9_requireUnit 0 = .ok (.aload_n 0, 1) := by decide +kernel
theorem dX9_requireUnit_1 : decode cX9_requireUnit 1 = .ok (.getfield 10, 3) := by decide +kernel
theorem dX9_requireUnit_4 : decode cX9_requireUnit 4 = .ok (.getfield 55, 3) := by decide +kernel
theorem dX9_requireUnit_7 : decode cX9_requireUnit 7 = .ok (.getfield 115, 3) := by decide +kernel
theorem dX9_requireUnit_10 : decode cX9_requireUnit 10 = .ok (.iload_n 1, 1) := by decide +kernel
theorem dX9_requireUnit_11 : decode cX9_requireUnit 11 = .ok (.iaload, 1) := by decide +kernel
theorem dX9_requireUnit_12 : decode cX9_requireUnit 12 = .ok (.ifCond .ne 14, 3) := by decide +kernel
theorem dX9_requireUnit_15 : decode cX9_requireUnit 15 = .ok (.new 69, 3) := by decide +kernel
theorem dX9_requireUnit_18 : decode cX9_requireUnit 18 = .ok (.dup, 1) := by decide +kernel
theorem dX9_requireUnit_19 : decode cX9_requireUnit 19 = .ok (.ldc_w 493, 3) := by decide +kernel
theorem dX9_requireUnit_22 : decode cX9_requireUnit 22 = .ok (.invokespecial 73, 3) := by decide +kernel
theorem dX9_requireUnit_25 : decode cX9_requireUnit 25 = .ok (.athrow, 1) := by decide +kernel
theorem dX9_requireContainer_0 : decode cX9_requireContainer 0 = .ok (.aload_n 0, 1) := by decide +kernel
theorem dX9_requireContainer_1 : decode cX9_requireContainer 1 = .ok (.getfield 10, 3) := by decide +kernel
theorem dX9_requireContainer_4 : decode cX9_requireContainer 4 = .ok (.getfield 136, 3) := by decide +kernel
theorem dX9_requireContainer_7 : decode cX9_requireContainer 7 = .ok (.iload_n 1, 1) := by decide +kernel
theorem dX9_requireContainer_8 : decode cX9_requireContainer 8 = .ok (.invokevirtual 495, 3) := by decide +kernel
theorem dX9_requireContainer_11 : decode cX9_requireContainer 11 = .ok (.ifCond .ne 14, 3) := by decide +kernel
theorem dX9_requireContainer_14 : decode cX9_requireContainer 14 = .ok (.new 161, 3) := by decide +kernel
theorem dX9_requireContainer_17 : decode cX9_requireContainer 17 = .ok (.dup, 1) := by decide +kernel
theorem dX9_requireContainer_18 : decode cX9_requireContainer 18 = .ok (.ldc_w 496, 3) := by decide +kernel
theorem dX9_requireContainer_21 : decode cX9_requireContainer 21 = .ok (.invokespecial 165, 3) := by decide +kernel
theorem dX9_requireContainer_24 : decode cX9_requireContainer 24 = .ok (.athrow, 1) := by decide +kernel
theorem dX9_requireCopy_0 : decode cX9_requireCopy 0 = .ok (.aload_n 0, 1) := by decide +kernel
theorem dX9_requireCopy_1 : decode cX9_requireCopy 1 = .ok (.getfield 10, 3) := by decide +kernel
theorem dX9_requireCopy_4 : decode cX9_requireCopy 4 = .ok (.getfield 148, 3) := by decide +kernel
theorem dX9_requireCopy_7 : decode cX9_requireCopy 7 = .ok (.iload_n 1, 1) := by decide +kernel
theorem dX9_requireCopy_8 : decode cX9_requireCopy 8 = .ok (.invokevirtual 498, 3) := by decide +kernel
theorem dX9_requireCopy_11 : decode cX9_requireCopy 11 = .ok (.ifCond .ne 14, 3) := by decide +kernel
theorem dX9_requireCopy_14 : decode cX9_requireCopy 14 = .ok (.new 161, 3) := by decide +kernel
theorem dX9_requireCopy_17 : decode cX9_requireCopy 17 = .ok (.dup, 1) := by decide +kernel
theorem dX9_requireCopy_18 : decode cX9_requireCopy 18 = .ok (.ldc_w 499, 3) := by decide +kernel
theorem dX9_requireCopy_21 : decode cX9_requireCopy 21 = .ok (.invokespecial 165, 3) := by decide +kernel
theorem dX9_requireCopy_24 : decode cX9_requireCopy 24 = .ok (.athrow, 1) := by decide +kernel
theorem dX9_requireRequest_0 : decode cX9_requireRequest 0 = .ok (.iload_n 1, 1) := by decide +kernel
theorem dX9_requireRequest_1 : decode cX9_requireRequest 1 = .ok (.ifCond .lt 17, 3) := by decide +kernel
theorem dX9_requireRequest_18 : decode cX9_requireRequest 18 = .ok (.new 161, 3) := by decide +kernel
theorem dX9_requireRequest_21 : decode cX9_requireRequest 21 = .ok (.dup, 1) := by decide +kernel
theorem dX9_requireRequest_22 : decode cX9_requireRequest 22 = .ok (.ldc_w 501, 3) := by decide +kernel
theorem dX9_requireRequest_25 : decode cX9_requireRequest 25 = .ok (.invokespecial 165, 3) := by decide +kernel
theorem dX9_requireRequest_28 : decode cX9_requireRequest 28 = .ok (.athrow, 1) := by decide +kernel
theorem dX9_requireRequest_4 : decode cX9_requireRequest 4 = .ok (.iload_n 1, 1) := by decide +kernel
theorem dX9_requireRequest_5 : decode cX9_requireRequest 5 = .ok (.aload_n 0, 1) := by decide +kernel
theorem dX9_requireRequest_6 : decode cX9_requireRequest 6 = .ok (.getfield 10, 3) := by decide +kernel
theorem dX9_requireRequest_9 : decode cX9_requireRequest 9 = .ok (.getfield 314, 3) := by decide +kernel
theorem dX9_requireRequest_12 : decode cX9_requireRequest 12 = .ok (.getfield 330, 3) := by decide +kernel
theorem dX9_requireRequest_15 : decode cX9_requireRequest 15 = .ok (.if_icmp .lt 14, 3) := by decide +kernel
theorem dX9_requirePart_0 : decode cX9_requirePart 0 = .ok (.iload_n 0, 1) := by decide +kernel
theorem dX9_requirePart_1 : decode cX9_requirePart 1 = .ok (.ifCond .lt 8, 3) := by decide +kernel
theorem dX9_requirePart_9 : decode cX9_requirePart 9 = .ok (.new 69, 3) := by decide +kernel
theorem dX9_requirePart_12 : decode cX9_requirePart 12 = .ok (.dup, 1) := by decide +kernel
theorem dX9_requirePart_13 : decode cX9_requirePart 13 = .ok (.ldc_w 503, 3) := by decide +kernel
theorem dX9_requirePart_16 : decode cX9_requirePart 16 = .ok (.invokespecial 73, 3) := by decide +kernel
theorem dX9_requirePart_19 : decode cX9_requirePart 19 = .ok (.athrow, 1) := by decide +kernel
theorem dX9_requirePart_4 : decode cX9_requirePart 4 = .ok (.iload_n 0, 1) := by decide +kernel
theorem dX9_requirePart_5 : decode cX9_requirePart 5 = .ok (.iload_n 1, 1) := by decide +kernel
theorem dX9_requirePart_6 : decode cX9_requirePart 6 = .ok (.if_icmp .le 14, 3) := by decide +kernel
theorem dX9_requirePart_20 : decode cX9_requirePart 20 = .ok (.return_, 1) := by decide +kernel
theorem dX9_requireDay_0 : decode cX9_requireDay 0 = .ok (.iload_n 0, 1) := by decide +kernel
theorem dX9_requireDay_1 : decode cX9_requireDay 1 = .ok (.invokestatic 488, 3) := by decide +kernel
theorem dX9_requireDay_4 : decode cX9_requireDay 4 = .ok (.ifCond .ne 14, 3) := by decide +kernel
theorem dX9_requireDay_18 : decode cX9_requireDay 18 = .ok (.return_, 1) := by decide +kernel
theorem dX9_requireDay_7 : decode cX9_requireDay 7 = .ok (.new 69, 3) := by decide +kernel
theorem dX9_requireDay_10 : decode cX9_requireDay 10 = .ok (.dup, 1) := by decide +kernel
theorem dX9_requireDay_11 : decode cX9_requireDay 11 = .ok (.ldc_w 505, 3) := by decide +kernel
theorem dX9_requireDay_14 : decode cX9_requireDay 14 = .ok (.invokespecial 73, 3) := by decide +kernel
theorem dX9_requireDay_17 : decode cX9_requireDay 17 = .ok (.athrow, 1) := by decide +kernel
theorem dX9_requireCapacity_0 : decode cX9_requireCapacity 0 = .ok (.iload_n 0, 1) := by decide +kernel
theorem dX9_requireCapacity_1 : decode cX9_requireCapacity 1 = .ok (.iconst 1, 1) := by decide +kernel
theorem dX9_requireCapacity_2 : decode cX9_requireCapacity 2 = .ok (.if_icmp .lt 10, 3) := by decide +kernel
theorem dX9_requireCapacity_12 : decode cX9_requireCapacity 12 = .ok (.new 69, 3) := by decide +kernel
theorem dX9_requireCapacity_15 : decode cX9_requireCapacity 15 = .ok (.dup, 1) := by decide +kernel
theorem dX9_requireCapacity_16 : decode cX9_requireCapacity 16 = .ok (.ldc_w 507, 3) := by decide +kernel
theorem dX9_requireCapacity_19 : decode cX9_requireCapacity 19 = .ok (.invokespecial 73, 3) := by decide +kernel
theorem dX9_requireCapacity_22 : decode cX9_requireCapacity 22 = .ok (.athrow, 1) := by decide +kernel
theorem dX9_requireCapacity_5 : decode cX9_requireCapacity 5 = .ok (.iload_n 0, 1) := by decide +kernel
theorem dX9_requireCapacity_6 : decode cX9_requireCapacity 6 = .ok (.sipush 200, 3) := by decide +kernel
theorem dX9_requireCapacity_9 : decode cX9_requireCapacity 9 = .ok (.if_icmp .le 14, 3) := by decide +kernel
theorem dX9_requireCapacity_23 : decode cX9_requireCapacity 23 = .ok (.return_, 1) := by decide +kernel
theorem dX8_latestDay_0 : decode cX8_latestDay 0 = .ok (.aload_n 0, 1) := by decide +kernel
theorem dX8_latestDay_1 : decode cX8_latestDay 1 = .ok (.iload_n 1, 1) := by decide +kernel
theorem dX8_latestDay_2 : decode cX8_latestDay 2 = .ok (.invokevirtual 63, 3) := by decide +kernel
theorem dX8_latestDay_5 : decode cX8_latestDay 5 = .ok (.istore_n 2, 1) := by decide +kernel
theorem dX8_latestDay_6 : decode cX8_latestDay 6 = .ok (.iload_n 2, 1) := by decide +kernel
theorem dX8_latestDay_7 : decode cX8_latestDay 7 = .ok (.aload_n 0, 1) := by decide +kernel
theorem dX8_latestDay_8 : decode cX8_latestDay 8 = .ok (.getfield 31, 3) := by decide +kernel
theorem dX8_latestDay_11 : decode cX8_latestDay 11 = .ok (.iload_n 1, 1) := by decide +kernel
theorem dX8_latestDay_12 : decode cX8_latestDay 12 = .ok (.iaload, 1) := by decide +kernel
theorem dX8_latestDay_13 : decode cX8_latestDay 13 = .ok (.iadd, 1) := by decide +kernel
theorem dX8_latestDay_14 : decode cX8_latestDay 14 = .ok (.istore_n 3, 1) := by decide +kernel
theorem dX8_latestDay_15 : decode cX8_latestDay 15 = .ok (.iconst (-1), 1) := by decide +kernel
theorem dX8_latestDay_16 : decode cX8_latestDay 16 = .ok (.istore 4, 2) := by decide +kernel
theorem dX8_latestDay_18 : decode cX8_latestDay 18 = .ok (.iload_n 2, 1) := by decide +kernel
theorem dX8_latestDay_19 : decode cX8_latestDay 19 = .ok (.istore 5, 2) := by decide +kernel
theorem dX8_latestDay_21 : decode cX8_latestDay 21 = .ok (.iload 5, 2) := by decide +kernel
theorem dX8_latestDay_23 : decode cX8_latestDay 23 = .ok (.iload_n 3, 1) := by decide +kernel
theorem dX8_latestDay_24 : decode cX8_latestDay 24 = .ok (.if_icmp .gt 28, 3) := by decide +kernel
theorem dX8_latestDay_27 : decode cX8_latestDay 27 = .ok (.iload 4, 2) := by decide +kernel
theorem dX8_latestDay_29 : decode cX8_latestDay 29 = .ok (.aload_n 0, 1) := by decide +kernel
theorem dX8_latestDay_30 : decode cX8_latestDay 30 = .ok (.getfield 40, 3) := by decide +kernel
theorem dX8_latestDay_33 : decode cX8_latestDay 33 = .ok (.aload_n 0, 1) := by decide +kernel
theorem dX8_latestDay_34 : decode cX8_latestDay 34 = .ok (.getfield 18, 3) := by decide +kernel
theorem dX8_latestDay_37 : decode cX8_latestDay 37 = .ok (.iload 5, 2) := by decide +kernel
theorem dX8_latestDay_39 : decode cX8_latestDay 39 = .ok (.iaload, 1) := by decide +kernel
theorem dX8_latestDay_40 : decode cX8_latestDay 40 = .ok (.iaload, 1) := by decide +kernel
theorem dX8_latestDay_41 : decode cX8_latestDay 41 = .ok (.invokestatic 70, 3) := by decide +kernel
theorem dX8_latestDay_44 : decode cX8_latestDay 44 = .ok (.istore 4, 2) := by decide +kernel
theorem dX8_latestDay_46 : decode cX8_latestDay 46 = .ok (.iinc 5 1, 3) := by decide +kernel
theorem dX8_latestDay_49 : decode cX8_latestDay 49 = .ok (.goto (-28), 3) := by decide +kernel
theorem dX8_latestDay_52 : decode cX8_latestDay 52 = .ok (.iload 4, 2) := by decide +kernel
theorem dX8_latestDay_54 : decode cX8_latestDay 54 = .ok (.ireturn, 1) := by decide +kernel
theorem dX8_countPages_0 : decode cX8_countPages 0 = .ok (.aload_n 0, 1) := by decide +kernel
theorem dX8_countPages_1 : decode cX8_countPages 1 = .ok (.iload_n 1, 1) := by decide +kernel
theorem dX8_countPages_2 : decode cX8_countPages 2 = .ok (.invokevirtual 63, 3) := by decide +kernel
theorem dX8_countPages_5 : decode cX8_countPages 5 = .ok (.istore_n 2, 1) := by decide +kernel
theorem dX8_countPages_6 : decode cX8_countPages 6 = .ok (.iload_n 2, 1) := by decide +kernel
theorem dX8_countPages_7 : decode cX8_countPages 7 = .ok (.aload_n 0, 1) := by decide +kernel
theorem dX8_countPages_8 : decode cX8_countPages 8 = .ok (.getfield 31, 3) := by decide +kernel
theorem dX8_countPages_11 : decode cX8_countPages 11 = .ok (.iload_n 1, 1) := by decide +kernel
theorem dX8_countPages_12 : decode cX8_countPages 12 = .ok (.iaload, 1) := by decide +kernel
theorem dX8_countPages_13 : decode cX8_countPages 13 = .ok (.iadd, 1) := by decide +kernel
theorem dX8_countPages_14 : decode cX8_countPages 14 = .ok (.istore_n 3, 1) := by decide +kernel
theorem dX8_countPages_15 : decode cX8_countPages 15 = .ok (.iconst 0, 1) := by decide +kernel
theorem dX8_countPages_16 : decode cX8_countPages 16 = .ok (.istore 4, 2) := by decide +kernel
theorem dX8_countPages_18 : decode cX8_countPages 18 = .ok (.iload_n 2, 1) := by decide +kernel
theorem dX8_countPages_19 : decode cX8_countPages 19 = .ok (.istore 5, 2) := by decide +kernel
theorem dX8_countPages_21 : decode cX8_countPages 21 = .ok (.iload 5, 2) := by decide +kernel
theorem dX8_countPages_23 : decode cX8_countPages 23 = .ok (.iload_n 3, 1) := by decide +kernel
theorem dX8_countPages_24 : decode cX8_countPages 24 = .ok (.if_icmp .gt 26, 3) := by decide +kernel
theorem dX8_countPages_27 : decode cX8_countPages 27 = .ok (.iload 4, 2) := by decide +kernel
theorem dX8_countPages_29 : decode cX8_countPages 29 = .ok (.aload_n 0, 1) := by decide +kernel
theorem dX8_countPages_30 : decode cX8_countPages 30 = .ok (.getfield 34, 3) := by decide +kernel
theorem dX8_countPages_33 : decode cX8_countPages 33 = .ok (.aload_n 0, 1) := by decide +kernel
theorem dX8_countPages_34 : decode cX8_countPages 34 = .ok (.getfield 18, 3) := by decide +kernel
theorem dX8_countPages_37 : decode cX8_countPages 37 = .ok (.iload 5, 2) := by decide +kernel
theorem dX8_countPages_39 : decode cX8_countPages 39 = .ok (.iaload, 1) := by decide +kernel
theorem dX8_countPages_40 : decode cX8_countPages 40 = .ok (.iaload, 1) := by decide +kernel
theorem dX8_countPages_41 : decode cX8_countPages 41 = .ok (.iadd, 1) := by decide +kernel
theorem dX8_countPages_42 : decode cX8_countPages 42 = .ok (.istore 4, 2) := by decide +kernel
theorem dX8_countPages_44 : decode cX8_countPages 44 = .ok (.iinc 5 1, 3) := by decide +kernel
theorem dX8_countPages_47 : decode cX8_countPages 47 = .ok (.goto (-26), 3) := by decide +kernel
theorem dX8_countPages_50 : decode cX8_countPages 50 = .ok (.iload 4, 2) := by decide +kernel
theorem dX8_countPages_52 : decode cX8_countPages 52 = .ok (.ireturn, 1) := by decide +kernel
theorem dX8_countUnits_0 : decode cX8_countUnits 0 = .ok (.iconst 0, 1) := by decide +kernel
theorem dX8_countUnits_1 : decode cX8_countUnits 1 = .ok (.istore_n 1, 1) := by decide +kernel
theorem dX8_countUnits_2 : decode cX8_countUnits 2 = .ok (.iconst 0, 1) := by decide +kernel
theorem dX8_countUnits_3 : decode cX8_countUnits 3 = .ok (.istore_n 2, 1) := by decide +kernel
theorem dX8_countUnits_4 : decode cX8_countUnits 4 = .ok (.iload_n 2, 1) := by decide +kernel
theorem dX8_countUnits_5 : decode cX8_countUnits 5 = .ok (.aload_n 0, 1) := by decide +kernel
theorem dX8_countUnits_6 : decode cX8_countUnits 6 = .ok (.getfield 15, 3) := by decide +kernel
theorem dX8_countUnits_9 : decode cX8_countUnits 9 = .ok (.if_icmp .ge 26, 3) := by decide +kernel
theorem dX8_countUnits_12 : decode cX8_countUnits 12 = .ok (.aload_n 0, 1) := by decide +kernel
theorem dX8_countUnits_13 : decode cX8_countUnits 13 = .ok (.getfield 34, 3) := by decide +kernel
theorem dX8_countUnits_16 : decode cX8_countUnits 16 = .ok (.aload_n 0, 1) := by decide +kernel
theorem dX8_countUnits_17 : decode cX8_countUnits 17 = .ok (.getfield 18, 3) := by decide +kernel
theorem dX8_countUnits_20 : decode cX8_countUnits 20 = .ok (.iload_n 2, 1) := by decide +kernel
theorem dX8_countUnits_21 : decode cX8_countUnits 21 = .ok (.iaload, 1) := by decide +kernel
theorem dX8_countUnits_22 : decode cX8_countUnits 22 = .ok (.iaload, 1) := by decide +kernel
theorem dX8_countUnits_23 : decode cX8_countUnits 23 = .ok (.ifCond .le 6, 3) := by decide +kernel
theorem dX8_countUnits_29 : decode cX8_countUnits 29 = .ok (.iinc 2 1, 3) := by decide +kernel
theorem dX8_countUnits_32 : decode cX8_countUnits 32 = .ok (.goto (-28), 3) := by decide +kernel
theorem dX8_countUnits_35 : decode cX8_countUnits 35 = .ok (.iload_n 1, 1) := by decide +kernel
theorem dX8_countUnits_36 : decode cX8_countUnits 36 = .ok (.ireturn, 1) := by decide +kernel
theorem dX8_countChildren_0 : decode cX8_countChildren 0 = .ok (.iconst 0, 1) := by decide +kernel
theorem dX8_countChildren_1 : decode cX8_countChildren 1 = .ok (.istore_n 2, 1) := by decide +kernel
theorem dX8_countChildren_2 : decode cX8_countChildren 2 = .ok (.iconst 0, 1) := by decide +kernel
theorem dX8_countChildren_3 : decode cX8_countChildren 3 = .ok (.istore_n 3, 1) := by decide +kernel
theorem dX8_countChildren_4 : decode cX8_countChildren 4 = .ok (.iload_n 3, 1) := by decide +kernel
theorem dX8_countChildren_5 : decode cX8_countChildren 5 = .ok (.aload_n 0, 1) := by decide +kernel
theorem dX8_countChildren_6 : decode cX8_countChildren 6 = .ok (.getfield 15, 3) := by decide +kernel
theorem dX8_countChildren_9 : decode cX8_countChildren 9 = .ok (.if_icmp .ge 27, 3) := by decide +kernel
theorem dX8_countChildren_12 : decode cX8_countChildren 12 = .ok (.aload_n 0, 1) := by decide +kernel
theorem dX8_countChildren_13 : decode cX8_countChildren 13 = .ok (.getfield 28, 3) := by decide +kernel
theorem dX8_countChildren_16 : decode cX8_countChildren 16 = .ok (.aload_n 0, 1) := by decide +kernel
theorem dX8_countChildren_17 : decode cX8_countChildren 17 = .ok (.getfield 18, 3) := by decide +kernel
theorem dX8_countChildren_20 : decode cX8_countChildren 20 = .ok (.iload_n 3, 1) := by decide +kernel
theorem dX8_countChildren_21 : decode cX8_countChildren 21 = .ok (.iaload, 1) := by decide +kernel
theorem dX8_countChildren_22 : decode cX8_countChildren 22 = .ok (.iaload, 1) := by decide +kernel
theorem dX8_countChildren_23 : decode cX8_countChildren 23 = .ok (.iload_n 1, 1) := by decide +kernel
theorem dX8_countChildren_24 : decode cX8_countChildren 24 = .ok (.if_icmp .ne 6, 3) := by decide +kernel
theorem dX8_countChildren_30 : decode cX8_countChildren 30 = .ok (.iinc 3 1, 3) := by decide +kernel
theorem dX8_countChildren_33 : decode cX8_countChildren 33 = .ok (.goto (-29), 3) := by decide +kernel
theorem dX8_countChildren_36 : decode cX8_countChildren 36 = .ok (.iload_n 2, 1) := by decide +kernel
theorem dX8_countChildren_37 : decode cX8_countChildren 37 = .ok (.ireturn, 1) := by decide +kernel
theorem dX8_findChild_0 : decode cX8_findChild 0 = .ok (.iconst 0, 1) := by decide +kernel
theorem dX8_findChild_1 : decode cX8_findChild 1 = .ok (.istore_n 3, 1) := by decide +kernel
theorem dX8_findChild_2 : decode cX8_findChild 2 = .ok (.iconst 0, 1) := by decide +kernel
theorem dX8_findChild_3 : decode cX8_findChild 3 = .ok (.istore 4, 2) := by decide +kernel
theorem dX8_findChild_5 : decode cX8_findChild 5 = .ok (.iload 4, 2) := by decide +kernel
theorem dX8_findChild_7 : decode cX8_findChild 7 = .ok (.aload_n 0, 1) := by decide +kernel
theorem dX8_findChild_8 : decode cX8_findChild 8 = .ok (.getfield 15, 3) := by decide +kernel
theorem dX8_findChild_11 : decode cX8_findChild 11 = .ok (.if_icmp .ge 41, 3) := by decide +kernel
theorem dX8_findChild_14 : decode cX8_findChild 14 = .ok (.aload_n 0, 1) := by decide +kernel
theorem dX8_findChild_15 : decode cX8_findChild 15 = .ok (.getfield 28, 3) := by decide +kernel
theorem dX8_findChild_18 : decode cX8_findChild 18 = .ok (.aload_n 0, 1) := by decide +kernel
theorem dX8_findChild_19 : decode cX8_findChild 19 = .ok (.getfield 18, 3) := by decide +kernel
theorem dX8_findChild_22 : decode cX8_findChild 22 = .ok (.iload 4, 2) := by decide +kernel
theorem dX8_findChild_24 : decode cX8_findChild 24 = .ok (.iaload, 1) := by decide +kernel
theorem dX8_findChild_25 : decode cX8_findChild 25 = .ok (.iaload, 1) := by decide +kernel
theorem dX8_findChild_26 : decode cX8_findChild 26 = .ok (.iload_n 1, 1) := by decide +kernel
theorem dX8_findChild_27 : decode cX8_findChild 27 = .ok (.if_icmp .ne 19, 3) := by decide +kernel
theorem dX8_findChild_46 : decode cX8_findChild 46 = .ok (.iinc 4 1, 3) := by decide +kernel
theorem dX8_findChild_49 : decode cX8_findChild 49 = .ok (.goto (-44), 3) := by decide +kernel
theorem dX8_findChild_52 : decode cX8_findChild 52 = .ok (.iconst (-1), 1) := by decide +kernel
theorem dX8_findChild_53 : decode cX8_findChild 53 = .ok (.ireturn, 1) := by decide +kernel
theorem dX8_depth_0 : decode cX8_depth 0 = .ok (.iconst 0, 1) := by decide +kernel
theorem dX8_depth_1 : decode cX8_depth 1 = .ok (.istore_n 2, 1) := by decide +kernel
theorem dX8_depth_2 : decode cX8_depth 2 = .ok (.aload_n 0, 1) := by decide +kernel
theorem dX8_depth_3 : decode cX8_depth 3 = .ok (.getfield 28, 3) := by decide +kernel
theorem dX8_depth_6 : decode cX8_depth 6 = .ok (.iload_n 1, 1) := by decide +kernel
theorem dX8_depth_7 : decode cX8_depth 7 = .ok (.iaload, 1) := by decide +kernel
theorem dX8_depth_8 : decode cX8_depth 8 = .ok (.istore_n 3, 1) := by decide +kernel
theorem dX8_depth_9 : decode cX8_depth 9 = .ok (.iload_n 2, 1) := by decide +kernel
theorem dX8_depth_10 : decode cX8_depth 10 = .ok (.iconst 3, 1) := by decide +kernel
theorem dX8_depth_11 : decode cX8_depth 11 = .ok (.if_icmp .ge 21, 3) := by decide +kernel
theorem dX8_depth_14 : decode cX8_depth 14 = .ok (.iload_n 3, 1) := by decide +kernel
theorem dX8_depth_15 : decode cX8_depth 15 = .ok (.iconst (-1), 1) := by decide +kernel
theorem dX8_depth_16 : decode cX8_depth 16 = .ok (.if_icmp .eq 16, 3) := by decide +kernel
theorem dX8_depth_32 : decode cX8_depth 32 = .ok (.iload_n 2, 1) := by decide +kernel
theorem dX8_depth_33 : decode cX8_depth 33 = .ok (.ireturn, 1) := by decide +kernel
theorem dX6_decidingNode_0 : decode cX6_decidingNode 0 = .ok (.iconst (-1), 1) := by decide +kernel
theorem dX6_decidingNode_1 : decode cX6_decidingNode 1 = .ok (.istore_n 3, 1) := by decide +kernel
theorem dX6_decidingNode_2 : decode cX6_decidingNode 2 = .ok (.iconst 0, 1) := by decide +kernel
theorem dX6_decidingNode_3 : decode cX6_decidingNode 3 = .ok (.istore 4, 2) := by decide +kernel
theorem dX6_decidingNode_5 : decode cX6_decidingNode 5 = .ok (.iload_n 2, 1) := by decide +kernel
theorem dX6_decidingNode_6 : decode cX6_decidingNode 6 = .ok (.istore 5, 2) := by decide +kernel
theorem dX6_decidingNode_8 : decode cX6_decidingNode 8 = .ok (.iconst 0, 1) := by decide +kernel
theorem dX6_decidingNode_9 : decode cX6_decidingNode 9 = .ok (.istore 6, 2) := by decide +kernel
theorem dX6_decidingNode_11 : decode cX6_decidingNode 11 = .ok (.iload 6, 2) := by decide +kernel
theorem dX6_decidingNode_13 : decode cX6_decidingNode 13 = .ok (.iconst 3, 1) := by decide +kernel
theorem dX6_decidingNode_14 : decode cX6_decidingNode 14 = .ok (.if_icmp .gt 85, 3) := by decide +kernel
theorem dX6_decidingNode_17 : decode cX6_decidingNode 17 = .ok (.iload 5, 2) := by decide +kernel
theorem dX6_decidingNode_19 : decode cX6_decidingNode 19 = .ok (.iconst (-1), 1) := by decide +kernel
theorem dX6_decidingNode_20 : decode cX6_decidingNode 20 = .ok (.if_icmp .eq 79, 3) := by decide +kernel
theorem dX6_decidingNode_23 : decode cX6_decidingNode 23 = .ok (.aload_n 0, 1) := by decide +kernel
theorem dX6_decidingNode_24 : decode cX6_decidingNode 24 = .ok (.getfield 9, 3) := by decide +kernel
theorem dX6_decidingNode_27 : decode cX6_decidingNode 27 = .ok (.iload 5, 2) := by decide +kernel
theorem dX6_decidingNode_29 : decode cX6_decidingNode 29 = .ok (.iaload, 1) := by decide +kernel
theorem dX6_decidingNode_30 : decode cX6_decidingNode 30 = .ok (.iconst 2, 1) := by decide +kernel
theorem dX6_decidingNode_31 : decode cX6_decidingNode 31 = .ok (.if_icmp .eq 68, 3) := by decide +kernel
theorem dX6_decidingNode_34 : decode cX6_decidingNode 34 = .ok (.aload_n 0, 1) := by decide +kernel
theorem dX6_decidingNode_35 : decode cX6_decidingNode 35 = .ok (.getfield 9, 3) := by decide +kernel
theorem dX6_decidingNode_38 : decode cX6_decidingNode 38 = .ok (.iload 5, 2) := by decide +kernel
theorem dX6_decidingNode_40 : decode cX6_decidingNode 40 = .ok (.iaload, 1) := by decide +kernel
theorem dX6_decidingNode_41 : decode cX6_decidingNode 41 = .ok (.iconst (-1), 1) := by decide +kernel
theorem dX6_decidingNode_42 : decode cX6_decidingNode 42 = .ok (.if_icmp .eq 27, 3) := by decide +kernel
theorem dX6_decidingNode_69 : decode cX6_decidingNode 69 = .ok (.aload_n 0, 1) := by decide +kernel
theorem dX6_decidingNode_70 : decode cX6_decidingNode 70 = .ok (.getfield 9, 3) := by decide +kernel
theorem dX6_decidingNode_73 : decode cX6_decidingNode 73 = .ok (.iload 5, 2) := by decide +kernel
theorem dX6_decidingNode_75 : decode cX6_decidingNode 75 = .ok (.iaload, 1) := by decide +kernel
theorem dX6_decidingNode_76 : decode cX6_decidingNode 76 = .ok (.iconst 1, 1) := by decide +kernel
theorem dX6_decidingNode_77 : decode cX6_decidingNode 77 = .ok (.if_icmp .ne 7, 3) := by decide +kernel
theorem dX6_decidingNode_84 : decode cX6_decidingNode 84 = .ok (.aload_n 1, 1) := by decide +kernel
theorem dX6_decidingNode_85 : decode cX6_decidingNode 85 = .ok (.getfield 33, 3) := by decide +kernel
theorem dX6_decidingNode_88 : decode cX6_decidingNode 88 = .ok (.iload 5, 2) := by decide +kernel
theorem dX6_decidingNode_90 : decode cX6_decidingNode 90 = .ok (.iaload, 1) := by decide +kernel
theorem dX6_decidingNode_91 : decode cX6_decidingNode 91 = .ok (.istore 5, 2) := by decide +kernel
theorem dX6_decidingNode_93 : decode cX6_decidingNode 93 = .ok (.iinc 6 1, 3) := by decide +kernel
theorem dX6_decidingNode_96 : decode cX6_decidingNode 96 = .ok (.goto (-85), 3) := by decide +kernel
theorem dX6_decidingNode_99 : decode cX6_decidingNode 99 = .ok (.iload_n 3, 1) := by decide +kernel
theorem dX6_decidingNode_100 : decode cX6_decidingNode 100 = .ok (.ireturn, 1) := by decide +kernel
theorem dX6_term_0 : decode cX6_term 0 = .ok (.aload_n 0, 1) := by decide +kernel
theorem dX6_term_1 : decode cX6_term 1 = .ok (.aload_n 1, 1) := by decide +kernel
theorem dX6_term_2 : decode cX6_term 2 = .ok (.iload_n 2, 1) := by decide +kernel
theorem dX6_term_3 : decode cX6_term 3 = .ok (.invokevirtual 38, 3) := by decide +kernel
theorem dX6_term_6 : decode cX6_term 6 = .ok (.istore_n 3, 1) := by decide +kernel
theorem dX6_term_7 : decode cX6_term 7 = .ok (.iload_n 3, 1) := by decide +kernel
theorem dX6_term_8 : decode cX6_term 8 = .ok (.iconst (-1), 1) := by decide +kernel
theorem dX6_term_9 : decode cX6_term 9 = .ok (.if_icmp .ne 7, 3) := by decide +kernel
theorem dX6_term_12 : decode cX6_term 12 = .ok (.iconst 0, 1) := by decide +kernel
theorem dX6_term_13 : decode cX6_term 13 = .ok (.goto 9, 3) := by decide +kernel
theorem dX6_term_22 : decode cX6_term 22 = .ok (.ireturn, 1) := by decide +kernel
theorem dX6_lastDay_0 : decode cX6_lastDay 0 = .ok (.iload_n 0, 1) := by decide +kernel
theorem dX6_lastDay_1 : decode cX6_lastDay 1 = .ok (.ifCond .ne 5, 3) := by decide +kernel
theorem dX6_lastDay_4 : decode cX6_lastDay 4 = .ok (.iconst (-1), 1) := by decide +kernel
theorem dX6_lastDay_5 : decode cX6_lastDay 5 = .ok (.ireturn, 1) := by decide +kernel
theorem dX6_lastClosedDay_0 : decode cX6_lastClosedDay 0 = .ok (.aload_n 0, 1) := by decide +kernel
theorem dX6_lastClosedDay_1 : decode cX6_lastClosedDay 1 = .ok (.aload_n 1, 1) := by decide +kernel
theorem dX6_lastClosedDay_2 : decode cX6_lastClosedDay 2 = .ok (.iload_n 2, 1) := by decide +kernel
theorem dX6_lastClosedDay_3 : decode cX6_lastClosedDay 3 = .ok (.invokevirtual 42, 3) := by decide +kernel
theorem dX6_lastClosedDay_6 : decode cX6_lastClosedDay 6 = .ok (.aload_n 1, 1) := by decide +kernel
theorem dX6_lastClosedDay_7 : decode cX6_lastClosedDay 7 = .ok (.iload_n 2, 1) := by decide +kernel
theorem dX6_lastClosedDay_8 : decode cX6_lastClosedDay 8 = .ok (.invokevirtual 45, 3) := by decide +kernel
theorem dX6_lastClosedDay_11 : decode cX6_lastClosedDay 11 = .ok (.invokestatic 49, 3) := by decide +kernel
theorem dX6_lastClosedDay_14 : decode cX6_lastClosedDay 14 = .ok (.ireturn, 1) := by decide +kernel
theorem dX6_openSet_0 : decode cX6_openSet 0 = .ok (.aload_n 1, 1) := by decide +kernel
theorem dX6_openSet_1 : decode cX6_openSet 1 = .ok (.getfield 54, 3) := by decide +kernel
theorem dX6_openSet_4 : decode cX6_openSet 4 = .ok (.iload_n 2, 1) := by decide +kernel
theorem dX6_openSet_5 : decode cX6_openSet 5 = .ok (.iaload, 1) := by decide +kernel
theorem dX6_openSet_6 : decode cX6_openSet 6 = .ok (.ifCond .eq 13, 3) := by decide +kernel
theorem dX6_openSet_19 : decode cX6_openSet 19 = .ok (.iconst 0, 1) := by decide +kernel
theorem dX6_openSet_20 : decode cX6_openSet 20 = .ok (.ireturn, 1) := by decide +kernel
theorem dX0_canOpen_0 : decode cX0_canOpen 0 = .ok (.aload_n 0, 1) := by decide +kernel
theorem dX0_canOpen_1 : decode cX0_canOpen 1 = .ok (.getfield 15, 3) := by decide +kernel
theorem dX0_canOpen_4 : decode cX0_canOpen 4 = .ok (.bipush 10, 2) := by decide +kernel
theorem dX0_canOpen_6 : decode cX0_canOpen 6 = .ok (.if_icmp .ge 16, 3) := by decide +kernel
theorem dX0_canOpen_9 : decode cX0_canOpen 9 = .ok (.aload_n 0, 1) := by decide +kernel
theorem dX0_canOpen_10 : decode cX0_canOpen 10 = .ok (.getfield 9, 3) := by decide +kernel
theorem dX0_canOpen_13 : decode cX0_canOpen 13 = .ok (.bipush 30, 2) := by decide +kernel
theorem dX0_canOpen_15 : decode cX0_canOpen 15 = .ok (.if_icmp .ge 7, 3) := by decide +kernel
theorem dX0_canOpen_18 : decode cX0_canOpen 18 = .ok (.iconst 1, 1) := by decide +kernel
theorem dX0_canOpen_19 : decode cX0_canOpen 19 = .ok (.goto 4, 3) := by decide +kernel
theorem dX0_canOpen_23 : decode cX0_canOpen 23 = .ok (.ireturn, 1) := by decide +kernel
theorem dX3_unitOf_0 : decode cX3_unitOf 0 = .ok (.iconst 0, 1) := by decide +kernel
theorem dX3_unitOf_1 : decode cX3_unitOf 1 = .ok (.istore_n 3, 1) := by decide +kernel
theorem dX3_unitOf_2 : decode cX3_unitOf 2 = .ok (.iconst 0, 1) := by decide +kernel
theorem dX3_unitOf_3 : decode cX3_unitOf 3 = .ok (.istore 4, 2) := by decide +kernel
theorem dX3_unitOf_5 : decode cX3_unitOf 5 = .ok (.iload 4, 2) := by decide +kernel
theorem dX3_unitOf_7 : decode cX3_unitOf 7 = .ok (.aload_n 0, 1) := by decide +kernel
theorem dX3_unitOf_8 : decode cX3_unitOf 8 = .ok (.getfield 9, 3) := by decide +kernel
theorem dX3_unitOf_11 : decode cX3_unitOf 11 = .ok (.if_icmp .ge 36, 3) := by decide +kernel
theorem dX3_unitOf_47 : decode cX3_unitOf 47 = .ok (.iconst (-1), 1) := by decide +kernel
theorem dX3_unitOf_48 : decode cX3_unitOf 48 = .ok (.ireturn, 1) := by decide +kernel
theorem dX3_countReferring_0 : decode cX3_countReferring 0 = .ok (.iconst 0, 1) := by decide +kernel
theorem dX3_countReferring_1 : decode cX3_countReferring 1 = .ok (.istore_n 2, 1) := by decide +kernel
theorem dX3_countReferring_2 : decode cX3_countReferring 2 = .ok (.iconst 0, 1) := by decide +kernel
theorem dX3_countReferring_3 : decode cX3_countReferring 3 = .ok (.istore_n 3, 1) := by decide +kernel
theorem dX3_countReferring_4 : decode cX3_countReferring 4 = .ok (.iload_n 3, 1) := by decide +kernel
theorem dX3_countReferring_5 : decode cX3_countReferring 5 = .ok (.aload_n 0, 1) := by decide +kernel
theorem dX3_countReferring_6 : decode cX3_countReferring 6 = .ok (.getfield 9, 3) := by decide +kernel
theorem dX3_countReferring_9 : decode cX3_countReferring 9 = .ok (.if_icmp .ge 25, 3) := by decide +kernel
theorem dX3_countReferring_34 : decode cX3_countReferring 34 = .ok (.iload_n 2, 1) := by decide +kernel
theorem dX3_countReferring_35 : decode cX3_countReferring 35 = .ok (.ireturn, 1) := by decide +kernel
theorem dX1_countOf_0 : decode cX1_countOf 0 = .ok (.iconst 0, 1) := by decide +kernel
theorem dX1_countOf_1 : decode cX1_countOf 1 = .ok (.istore_n 2, 1) := by decide +kernel
theorem dX1_countOf_2 : decode cX1_countOf 2 = .ok (.iconst 0, 1) := by decide +kernel
theorem dX1_countOf_3 : decode cX1_countOf 3 = .ok (.istore_n 3, 1) := by decide +kernel
theorem dX1_countOf_4 : decode cX1_countOf 4 = .ok (.iload_n 3, 1) := by decide +kernel
theorem dX1_countOf_5 : decode cX1_countOf 5 = .ok (.aload_n 0, 1) := by decide +kernel
theorem dX1_countOf_6 : decode cX1_countOf 6 = .ok (.getfield 9, 3) := by decide +kernel
theorem dX1_countOf_9 : decode cX1_countOf 9 = .ok (.if_icmp .ge 22, 3) := by decide +kernel
theorem dX1_countOf_31 : decode cX1_countOf 31 = .ok (.iload_n 2, 1) := by decide +kernel
theorem dX1_countOf_32 : decode cX1_countOf 32 = .ok (.ireturn, 1) := by decide +kernel
theorem dX1_countPresent_0 : decode cX1_countPresent 0 = .ok (.aload_n 0, 1) := by decide +kernel
theorem dX1_countPresent_1 : decode cX1_countPresent 1 = .ok (.getfield 9, 3) := by decide +kernel
theorem dX1_countPresent_4 : decode cX1_countPresent 4 = .ok (.aload_n 0, 1) := by decide +kernel
theorem dX1_countPresent_5 : decode cX1_countPresent 5 = .ok (.iconst (-1), 1) := by decide +kernel
theorem dX1_countPresent_6 : decode cX1_countPresent 6 = .ok (.invokevirtual 34, 3) := by decide +kernel
theorem dX1_countPresent_9 : decode cX1_countPresent 9 = .ok (.isub, 1) := by decide +kernel
theorem dX1_countPresent_10 : decode cX1_countPresent 10 = .ok (.ireturn, 1) := by decide +kernel
theorem dJ5_length_8abf5_0 : decode cJ5_length_8abf5 0 = .ok (.aload_n 0, 1) := by decide +kernel
theorem dJ5_length_8abf5_1 : decode cJ5_length_8abf5 1 = .ok (.getfield 79, 3) := by decide +kernel
theorem dJ5_length_8abf5_4 : decode cJ5_length_8abf5 4 = .ok (.ireturn, 1) := by decide +kernel
theorem dJ4_length_8abf5_0 : decode cJ4_length_8abf5 0 = .ok (.aload_n 0, 1) := by decide +kernel
theorem dJ4_length_8abf5_1 : decode cJ4_length_8abf5 1 = .ok (.invokespecial 343, 3) := by decide +kernel
theorem dJ4_length_8abf5_4 : decode cJ4_length_8abf5 4 = .ok (.ireturn, 1) := by decide +kernel
theorem dX5_countOn_0 : decode cX5_countOn 0 = .ok (.iconst 0, 1) := by decide +kernel
theorem dX5_countOn_1 : decode cX5_countOn 1 = .ok (.istore_n 2, 1) := by decide +kernel
theorem dX5_countOn_2 : decode cX5_countOn 2 = .ok (.iconst 0, 1) := by decide +kernel
theorem dX5_countOn_3 : decode cX5_countOn 3 = .ok (.istore_n 3, 1) := by decide +kernel
theorem dX5_countOn_4 : decode cX5_countOn 4 = .ok (.iload_n 3, 1) := by decide +kernel
theorem dX5_countOn_5 : decode cX5_countOn 5 = .ok (.aload_n 0, 1) := by decide +kernel
theorem dX5_countOn_6 : decode cX5_countOn 6 = .ok (.getfield 9, 3) := by decide +kernel
theorem dX5_countOn_9 : decode cX5_countOn 9 = .ok (.if_icmp .ge 22, 3) := by decide +kernel
theorem dX5_countOn_31 : decode cX5_countOn 31 = .ok (.iload_n 2, 1) := by decide +kernel
theorem dX5_countOn_32 : decode cX5_countOn 32 = .ok (.ireturn, 1) := by decide +kernel
theorem dJ6_bitCount_0f7a4_0 : decode cJ6_bitCount_0f7a4 0 = .ok (.iload_n 0, 1) := by decide +kernel
theorem dJ6_bitCount_0f7a4_1 : decode cJ6_bitCount_0f7a4 1 = .ok (.iload_n 0, 1) := by decide +kernel
theorem dJ6_bitCount_0f7a4_2 : decode cJ6_bitCount_0f7a4 2 = .ok (.iconst 1, 1) := by decide +kernel
theorem dJ6_bitCount_0f7a4_3 : decode cJ6_bitCount_0f7a4 3 = .ok (.iushr, 1) := by decide +kernel
theorem dJ6_bitCount_0f7a4_4 : decode cJ6_bitCount_0f7a4 4 = .ok (.ldc_w 265, 3) := by decide +kernel
theorem dJ6_bitCount_0f7a4_7 : decode cJ6_bitCount_0f7a4 7 = .ok (.iand, 1) := by decide +kernel
theorem dJ6_bitCount_0f7a4_8 : decode cJ6_bitCount_0f7a4 8 = .ok (.isub, 1) := by decide +kernel
theorem dJ6_bitCount_0f7a4_9 : decode cJ6_bitCount_0f7a4 9 = .ok (.istore_n 0, 1) := by decide +kernel
theorem dJ6_bitCount_0f7a4_10 : decode cJ6_bitCount_0f7a4 10 = .ok (.iload_n 0, 1) := by decide +kernel
theorem dJ6_bitCount_0f7a4_11 : decode cJ6_bitCount_0f7a4 11 = .ok (.ldc_w 266, 3) := by decide +kernel
theorem dJ6_bitCount_0f7a4_14 : decode cJ6_bitCount_0f7a4 14 = .ok (.iand, 1) := by decide +kernel
theorem dJ6_bitCount_0f7a4_15 : decode cJ6_bitCount_0f7a4 15 = .ok (.iload_n 0, 1) := by decide +kernel
theorem dJ6_bitCount_0f7a4_16 : decode cJ6_bitCount_0f7a4 16 = .ok (.iconst 2, 1) := by decide +kernel
theorem dJ6_bitCount_0f7a4_17 : decode cJ6_bitCount_0f7a4 17 = .ok (.iushr, 1) := by decide +kernel
theorem dJ6_bitCount_0f7a4_18 : decode cJ6_bitCount_0f7a4 18 = .ok (.ldc_w 266, 3) := by decide +kernel
theorem dJ6_bitCount_0f7a4_21 : decode cJ6_bitCount_0f7a4 21 = .ok (.iand, 1) := by decide +kernel
theorem dJ6_bitCount_0f7a4_22 : decode cJ6_bitCount_0f7a4 22 = .ok (.iadd, 1) := by decide +kernel
theorem dJ6_bitCount_0f7a4_23 : decode cJ6_bitCount_0f7a4 23 = .ok (.istore_n 0, 1) := by decide +kernel
theorem dJ6_bitCount_0f7a4_24 : decode cJ6_bitCount_0f7a4 24 = .ok (.iload_n 0, 1) := by decide +kernel
theorem dJ6_bitCount_0f7a4_25 : decode cJ6_bitCount_0f7a4 25 = .ok (.iload_n 0, 1) := by decide +kernel
theorem dJ6_bitCount_0f7a4_26 : decode cJ6_bitCount_0f7a4 26 = .ok (.iconst 4, 1) := by decide +kernel
theorem dJ6_bitCount_0f7a4_27 : decode cJ6_bitCount_0f7a4 27 = .ok (.iushr, 1) := by decide +kernel
theorem dJ6_bitCount_0f7a4_28 : decode cJ6_bitCount_0f7a4 28 = .ok (.iadd, 1) := by decide +kernel
theorem dJ6_bitCount_0f7a4_29 : decode cJ6_bitCount_0f7a4 29 = .ok (.ldc_w 267, 3) := by decide +kernel
theorem dJ6_bitCount_0f7a4_32 : decode cJ6_bitCount_0f7a4 32 = .ok (.iand, 1) := by decide +kernel
theorem dJ6_bitCount_0f7a4_33 : decode cJ6_bitCount_0f7a4 33 = .ok (.istore_n 0, 1) := by decide +kernel
theorem dJ6_bitCount_0f7a4_34 : decode cJ6_bitCount_0f7a4 34 = .ok (.iload_n 0, 1) := by decide +kernel
theorem dJ6_bitCount_0f7a4_35 : decode cJ6_bitCount_0f7a4 35 = .ok (.iload_n 0, 1) := by decide +kernel
theorem dJ6_bitCount_0f7a4_36 : decode cJ6_bitCount_0f7a4 36 = .ok (.bipush 8, 2) := by decide +kernel
theorem dJ6_bitCount_0f7a4_38 : decode cJ6_bitCount_0f7a4 38 = .ok (.iushr, 1) := by decide +kernel
theorem dJ6_bitCount_0f7a4_39 : decode cJ6_bitCount_0f7a4 39 = .ok (.iadd, 1) := by decide +kernel
theorem dJ6_bitCount_0f7a4_40 : decode cJ6_bitCount_0f7a4 40 = .ok (.istore_n 0, 1) := by decide +kernel
theorem dJ6_bitCount_0f7a4_41 : decode cJ6_bitCount_0f7a4 41 = .ok (.iload_n 0, 1) := by decide +kernel
theorem dJ6_bitCount_0f7a4_42 : decode cJ6_bitCount_0f7a4 42 = .ok (.iload_n 0, 1) := by decide +kernel
theorem dJ6_bitCount_0f7a4_43 : decode cJ6_bitCount_0f7a4 43 = .ok (.bipush 16, 2) := by decide +kernel
theorem dJ6_bitCount_0f7a4_45 : decode cJ6_bitCount_0f7a4 45 = .ok (.iushr, 1) := by decide +kernel
theorem dJ6_bitCount_0f7a4_46 : decode cJ6_bitCount_0f7a4 46 = .ok (.iadd, 1) := by decide +kernel
theorem dJ6_bitCount_0f7a4_47 : decode cJ6_bitCount_0f7a4 47 = .ok (.istore_n 0, 1) := by decide +kernel
theorem dJ6_bitCount_0f7a4_48 : decode cJ6_bitCount_0f7a4 48 = .ok (.iload_n 0, 1) := by decide +kernel
theorem dJ6_bitCount_0f7a4_49 : decode cJ6_bitCount_0f7a4 49 = .ok (.bipush 63, 2) := by decide +kernel
theorem dJ6_bitCount_0f7a4_51 : decode cJ6_bitCount_0f7a4 51 = .ok (.iand, 1) := by decide +kernel
theorem dJ6_bitCount_0f7a4_52 : decode cJ6_bitCount_0f7a4 52 = .ok (.ireturn, 1) := by decide +kernel
theorem dX5_countReaders_0 : decode cX5_countReaders 0 = .ok (.iconst 0, 1) := by decide +kernel
theorem dX5_countReaders_1 : decode cX5_countReaders 1 = .ok (.istore_n 2, 1) := by decide +kernel
theorem dX5_countReaders_2 : decode cX5_countReaders 2 = .ok (.iconst 0, 1) := by decide +kernel
theorem dX5_countReaders_3 : decode cX5_countReaders 3 = .ok (.istore_n 3, 1) := by decide +kernel
theorem dX5_countReaders_4 : decode cX5_countReaders 4 = .ok (.iload_n 3, 1) := by decide +kernel
theorem dX5_countReaders_5 : decode cX5_countReaders 5 = .ok (.aload_n 0, 1) := by decide +kernel
theorem dX5_countReaders_6 : decode cX5_countReaders 6 = .ok (.getfield 9, 3) := by decide +kernel
theorem dX5_countReaders_9 : decode cX5_countReaders 9 = .ok (.if_icmp .ge 30, 3) := by decide +kernel
theorem dX5_countReaders_39 : decode cX5_countReaders 39 = .ok (.iload_n 2, 1) := by decide +kernel
theorem dX5_countReaders_40 : decode cX5_countReaders 40 = .ok (.invokestatic 44, 3) := by decide +kernel
theorem dX5_countReaders_43 : decode cX5_countReaders 43 = .ok (.ireturn, 1) := by decide +kernel
theorem dX5_countShowing_0 : decode cX5_countShowing 0 = .ok (.iconst 0, 1) := by decide +kernel
theorem dX5_countShowing_1 : decode cX5_countShowing 1 = .ok (.istore_n 2, 1) := by decide +kernel
theorem dX5_countShowing_2 : decode cX5_countShowing 2 = .ok (.iconst 0, 1) := by decide +kernel
theorem dX5_countShowing_3 : decode cX5_countShowing 3 = .ok (.istore_n 3, 1) := by decide +kernel
theorem dX5_countShowing_4 : decode cX5_countShowing 4 = .ok (.iload_n 3, 1) := by decide +kernel
theorem dX5_countShowing_5 : decode cX5_countShowing 5 = .ok (.aload_n 0, 1) := by decide +kernel
theorem dX5_countShowing_6 : decode cX5_countShowing 6 = .ok (.getfield 9, 3) := by decide +kernel
theorem dX5_countShowing_9 : decode cX5_countShowing 9 = .ok (.if_icmp .ge 22, 3) := by decide +kernel
theorem dX5_countShowing_31 : decode cX5_countShowing 31 = .ok (.iload_n 2, 1) := by decide +kernel
theorem dX5_countShowing_32 : decode cX5_countShowing 32 = .ok (.ireturn, 1) := by decide +kernel
theorem dX7_countAllShownPages_0 : decode cX7_countAllShownPages 0 = .ok (.iconst 0, 1) := by decide +kernel
theorem dX7_countAllShownPages_1 : decode cX7_countAllShownPages 1 = .ok (.istore_n 1, 1) := by decide +kernel
theorem dX7_countAllShownPages_2 : decode cX7_countAllShownPages 2 = .ok (.iconst 0, 1) := by decide +kernel
theorem dX7_countAllShownPages_3 : decode cX7_countAllShownPages 3 = .ok (.istore_n 2, 1) := by decide +kernel
theorem dX7_countAllShownPages_4 : decode cX7_countAllShownPages 4 = .ok (.iload_n 2, 1) := by decide +kernel
theorem dX7_countAllShownPages_5 : decode cX7_countAllShownPages 5 = .ok (.aload_n 0, 1) := by decide +kernel
theorem dX7_countAllShownPages_6 : decode cX7_countAllShownPages 6 = .ok (.getfield 42, 3) := by decide +kernel
theorem dX7_countAllShownPages_9 : decode cX7_countAllShownPages 9 = .ok (.getfield 152, 3) := by decide +kernel
theorem dX7_countAllShownPages_12 : decode cX7_countAllShownPages 12 = .ok (.if_icmp .ge 17, 3) := by decide +kernel
theorem dX7_countAllShownPages_29 : decode cX7_countAllShownPages 29 = .ok (.iload_n 1, 1) := by decide +kernel
theorem dX7_countAllShownPages_30 : decode cX7_countAllShownPages 30 = .ok (.ireturn, 1) := by decide +kernel
theorem dX7_countOpenUnits_0 : decode cX7_countOpenUnits 0 = .ok (.iconst 0, 1) := by decide +kernel
theorem dX7_countOpenUnits_1 : decode cX7_countOpenUnits 1 = .ok (.istore_n 2, 1) := by decide +kernel
theorem dX7_countOpenUnits_2 : decode cX7_countOpenUnits 2 = .ok (.iconst 0, 1) := by decide +kernel
theorem dX7_countOpenUnits_3 : decode cX7_countOpenUnits 3 = .ok (.istore_n 3, 1) := by decide +kernel
theorem dX7_countOpenUnits_4 : decode cX7_countOpenUnits 4 = .ok (.iload_n 3, 1) := by decide +kernel
theorem dX7_countOpenUnits_5 : decode cX7_countOpenUnits 5 = .ok (.aload_n 0, 1) := by decide +kernel
theorem dX7_countOpenUnits_6 : decode cX7_countOpenUnits 6 = .ok (.getfield 12, 3) := by decide +kernel
theorem dX7_countOpenUnits_9 : decode cX7_countOpenUnits 9 = .ok (.getfield 158, 3) := by decide +kernel
theorem dX7_countOpenUnits_12 : decode cX7_countOpenUnits 12 = .ok (.if_icmp .ge 47, 3) := by decide +kernel
theorem dX7_countOpenUnits_15 : decode cX7_countOpenUnits 15 = .ok (.aload_n 0, 1) := by decide +kernel
theorem dX7_countOpenUnits_16 : decode cX7_countOpenUnits 16 = .ok (.getfield 12, 3) := by decide +kernel
theorem dX7_countOpenUnits_19 : decode cX7_countOpenUnits 19 = .ok (.getfield 161, 3) := by decide +kernel
theorem dX7_countOpenUnits_22 : decode cX7_countOpenUnits 22 = .ok (.iload_n 3, 1) := by decide +kernel
theorem dX7_countOpenUnits_23 : decode cX7_countOpenUnits 23 = .ok (.iaload, 1) := by decide +kernel
theorem dX7_countOpenUnits_24 : decode cX7_countOpenUnits 24 = .ok (.istore 4, 2) := by decide +kernel
theorem dX7_countOpenUnits_26 : decode cX7_countOpenUnits 26 = .ok (.aload_n 0, 1) := by decide +kernel
theorem dX7_countOpenUnits_27 : decode cX7_countOpenUnits 27 = .ok (.getfield 12, 3) := by decide +kernel
theorem dX7_countOpenUnits_30 : decode cX7_countOpenUnits 30 = .ok (.getfield 97, 3) := by decide +kernel
theorem dX7_countOpenUnits_33 : decode cX7_countOpenUnits 33 = .ok (.iload 4, 2) := by decide +kernel
theorem dX7_countOpenUnits_35 : decode cX7_countOpenUnits 35 = .ok (.iaload, 1) := by decide +kernel
theorem dX7_countOpenUnits_36 : decode cX7_countOpenUnits 36 = .ok (.ifCond .le 17, 3) := by decide +kernel
theorem dX7_countOpenUnits_53 : decode cX7_countOpenUnits 53 = .ok (.iinc 3 1, 3) := by decide +kernel
theorem dX7_countOpenUnits_56 : decode cX7_countOpenUnits 56 = .ok (.goto (-52), 3) := by decide +kernel
theorem dX7_countOpenUnits_59 : decode cX7_countOpenUnits 59 = .ok (.iload_n 2, 1) := by decide +kernel
theorem dX7_countOpenUnits_60 : decode cX7_countOpenUnits 60 = .ok (.ireturn, 1) := by decide +kernel
theorem dX7_countOpenPages_0 : decode cX7_countOpenPages 0 = .ok (.iconst 0, 1) := by decide +kernel
theorem dX7_countOpenPages_1 : decode cX7_countOpenPages 1 = .ok (.istore_n 2, 1) := by decide +kernel
theorem dX7_countOpenPages_2 : decode cX7_countOpenPages 2 = .ok (.iconst 0, 1) := by decide +kernel
theorem dX7_countOpenPages_3 : decode cX7_countOpenPages 3 = .ok (.istore_n 3, 1) := by decide +kernel
theorem dX7_countOpenPages_4 : decode cX7_countOpenPages 4 = .ok (.iload_n 3, 1) := by decide +kernel
theorem dX7_countOpenPages_5 : decode cX7_countOpenPages 5 = .ok (.aload_n 0, 1) := by decide +kernel
theorem dX7_countOpenPages_6 : decode cX7_countOpenPages 6 = .ok (.getfield 12, 3) := by decide +kernel
theorem dX7_countOpenPages_9 : decode cX7_countOpenPages 9 = .ok (.getfield 158, 3) := by decide +kernel
theorem dX7_countOpenPages_12 : decode cX7_countOpenPages 12 = .ok (.if_icmp .ge 36, 3) := by decide +kernel
theorem dX7_countOpenPages_15 : decode cX7_countOpenPages 15 = .ok (.iload_n 2, 1) := by decide +kernel
theorem dX7_countOpenPages_16 : decode cX7_countOpenPages 16 = .ok (.aload_n 0, 1) := by decide +kernel
theorem dX7_countOpenPages_17 : decode cX7_countOpenPages 17 = .ok (.getfield 21, 3) := by decide +kernel
theorem dX7_countOpenPages_20 : decode cX7_countOpenPages 20 = .ok (.aload_n 0, 1) := by decide +kernel
theorem dX7_countOpenPages_21 : decode cX7_countOpenPages 21 = .ok (.getfield 12, 3) := by decide +kernel
theorem dX7_countOpenPages_24 : decode cX7_countOpenPages 24 = .ok (.aload_n 0, 1) := by decide +kernel
theorem dX7_countOpenPages_25 : decode cX7_countOpenPages 25 = .ok (.getfield 12, 3) := by decide +kernel
theorem dX7_countOpenPages_28 : decode cX7_countOpenPages 28 = .ok (.getfield 161, 3) := by decide +kernel
theorem dX7_countOpenPages_31 : decode cX7_countOpenPages 31 = .ok (.iload_n 3, 1) := by decide +kernel
theorem dX7_countOpenPages_32 : decode cX7_countOpenPages 32 = .ok (.iaload, 1) := by decide +kernel
theorem dX7_countOpenPages_33 : decode cX7_countOpenPages 33 = .ok (.iload_n 1, 1) := by decide +kernel
theorem dX7_countOpenPages_34 : decode cX7_countOpenPages 34 = .ok (.invokevirtual 83, 3) := by decide +kernel
theorem dX7_countOpenPages_37 : decode cX7_countOpenPages 37 = .ok (.invokestatic 147, 3) := by decide +kernel
theorem dX7_countOpenPages_40 : decode cX7_countOpenPages 40 = .ok (.iadd, 1) := by decide +kernel
theorem dX7_countOpenPages_41 : decode cX7_countOpenPages 41 = .ok (.istore_n 2, 1) := by decide +kernel
theorem dX7_countOpenPages_42 : decode cX7_countOpenPages 42 = .ok (.iinc 3 1, 3) := by decide +kernel
theorem dX7_countOpenPages_45 : decode cX7_countOpenPages 45 = .ok (.goto (-41), 3) := by decide +kernel
theorem dX7_countOpenPages_48 : decode cX7_countOpenPages 48 = .ok (.iload_n 2, 1) := by decide +kernel
theorem dX7_countOpenPages_49 : decode cX7_countOpenPages 49 = .ok (.ireturn, 1) := by decide +kernel
theorem dX9_remove_0 : decode cX9_remove 0 = .ok (.aload_n 0, 1) := by decide +kernel
theorem dX9_remove_1 : decode cX9_remove 1 = .ok (.iload_n 1, 1) := by decide +kernel
theorem dX9_remove_2 : decode cX9_remove 2 = .ok (.invokevirtual 51, 3) := by decide +kernel
theorem dX9_remove_5 : decode cX9_remove 5 = .ok (.iload_n 1, 1) := by decide +kernel
theorem dX9_remove_6 : decode cX9_remove 6 = .ok (.ifCond .ne 13, 3) := by decide +kernel
theorem dX9_remove_9 : decode cX9_remove 9 = .ok (.new 69, 3) := by decide +kernel
theorem dX9_remove_12 : decode cX9_remove 12 = .ok (.dup, 1) := by decide +kernel
theorem dX9_remove_13 : decode cX9_remove 13 = .ok (.ldc 91, 2) := by decide +kernel
theorem dX9_remove_15 : decode cX9_remove 15 = .ok (.invokespecial 73, 3) := by decide +kernel
theorem dX9_remove_18 : decode cX9_remove 18 = .ok (.athrow, 1) := by decide +kernel
theorem dX9_move_0 : decode cX9_move 0 = .ok (.aload_n 0, 1) := by decide +kernel
theorem dX9_move_1 : decode cX9_move 1 = .ok (.iload_n 1, 1) := by decide +kernel
theorem dX9_move_2 : decode cX9_move 2 = .ok (.invokevirtual 51, 3) := by decide +kernel
theorem dX9_move_5 : decode cX9_move 5 = .ok (.aload_n 0, 1) := by decide +kernel
theorem dX9_move_6 : decode cX9_move 6 = .ok (.iload_n 2, 1) := by decide +kernel
theorem dX9_move_7 : decode cX9_move 7 = .ok (.invokevirtual 51, 3) := by decide +kernel
theorem dX9_move_10 : decode cX9_move 10 = .ok (.aload_n 0, 1) := by decide +kernel
theorem dX9_move_11 : decode cX9_move 11 = .ok (.getfield 10, 3) := by decide +kernel
theorem dX9_move_14 : decode cX9_move 14 = .ok (.getfield 55, 3) := by decide +kernel
theorem dX9_move_17 : decode cX9_move 17 = .ok (.getfield 59, 3) := by decide +kernel
theorem dX9_move_20 : decode cX9_move 20 = .ok (.iload_n 2, 1) := by decide +kernel
theorem dX9_move_21 : decode cX9_move 21 = .ok (.iaload, 1) := by decide +kernel
theorem dX9_move_22 : decode cX9_move 22 = .ok (.aload_n 0, 1) := by decide +kernel
theorem dX9_move_23 : decode cX9_move 23 = .ok (.getfield 10, 3) := by decide +kernel
theorem dX9_move_26 : decode cX9_move 26 = .ok (.getfield 55, 3) := by decide +kernel
theorem dX9_move_29 : decode cX9_move 29 = .ok (.getfield 59, 3) := by decide +kernel
theorem dX9_move_32 : decode cX9_move 32 = .ok (.iload_n 1, 1) := by decide +kernel
theorem dX9_move_33 : decode cX9_move 33 = .ok (.iaload, 1) := by decide +kernel
theorem dX9_move_34 : decode cX9_move 34 = .ok (.if_icmp .lt 13, 3) := by decide +kernel
theorem dX9_move_37 : decode cX9_move 37 = .ok (.new 69, 3) := by decide +kernel
theorem dX9_move_40 : decode cX9_move 40 = .ok (.dup, 1) := by decide +kernel
theorem dX9_move_41 : decode cX9_move 41 = .ok (.ldc 100, 2) := by decide +kernel
theorem dX9_move_43 : decode cX9_move 43 = .ok (.invokespecial 73, 3) := by decide +kernel
theorem dX9_move_46 : decode cX9_move 46 = .ok (.athrow, 1) := by decide +kernel
theorem dX9_node_0 : decode cX9_node 0 = .ok (.aload_n 0, 1) := by decide +kernel
theorem dX9_node_1 : decode cX9_node 1 = .ok (.iload_n 1, 1) := by decide +kernel
theorem dX9_node_2 : decode cX9_node 2 = .ok (.invokevirtual 51, 3) := by decide +kernel
theorem dX9_node_5 : decode cX9_node 5 = .ok (.iload_n 2, 1) := by decide +kernel
theorem dX9_node_6 : decode cX9_node 6 = .ok (.bipush 11, 2) := by decide +kernel
theorem dX9_node_8 : decode cX9_node 8 = .ok (.invokestatic 112, 3) := by decide +kernel
theorem dX9_node_11 : decode cX9_node 11 = .ok (.aload_n 0, 1) := by decide +kernel
theorem dX9_node_12 : decode cX9_node 12 = .ok (.getfield 10, 3) := by decide +kernel
theorem dX9_node_15 : decode cX9_node 15 = .ok (.getfield 55, 3) := by decide +kernel
theorem dX9_node_18 : decode cX9_node 18 = .ok (.astore_n 3, 1) := by decide +kernel
theorem dX9_node_19 : decode cX9_node 19 = .ok (.iload_n 2, 1) := by decide +kernel
theorem dX9_node_20 : decode cX9_node 20 = .ok (.tableswitch 146 0 10 #[60, 67, 74, 81, 88, 95, 101, 107, 114, 120, 133], 60) := by decide +kernel
theorem dX9_node_80 : decode cX9_node 80 = .ok (.aload_n 3, 1) := by decide +kernel
theorem dX9_node_81 : decode cX9_node 81 = .ok (.getfield 59, 3) := by decide +kernel
theorem dX9_node_84 : decode cX9_node 84 = .ok (.iload_n 1, 1) := by decide +kernel
theorem dX9_node_85 : decode cX9_node 85 = .ok (.iaload, 1) := by decide +kernel
theorem dX9_node_86 : decode cX9_node 86 = .ok (.ireturn, 1) := by decide +kernel
theorem dX9_node_87 : decode cX9_node 87 = .ok (.aload_n 3, 1) := by decide +kernel
theorem dX9_node_88 : decode cX9_node 88 = .ok (.getfield 102, 3) := by decide +kernel
theorem dX9_node_91 : decode cX9_node 91 = .ok (.iload_n 1, 1) := by decide +kernel
theorem dX9_node_92 : decode cX9_node 92 = .ok (.iaload, 1) := by decide +kernel
theorem dX9_node_93 : decode cX9_node 93 = .ok (.ireturn, 1) := by decide +kernel
theorem dX9_node_94 : decode cX9_node 94 = .ok (.aload_n 3, 1) := by decide +kernel
theorem dX9_node_95 : decode cX9_node 95 = .ok (.getfield 115, 3) := by decide +kernel
theorem dX9_node_98 : decode cX9_node 98 = .ok (.iload_n 1, 1) := by decide +kernel
theorem dX9_node_99 : decode cX9_node 99 = .ok (.iaload, 1) := by decide +kernel
theorem dX9_node_100 : decode cX9_node 100 = .ok (.ireturn, 1) := by decide +kernel
theorem dX9_node_101 : decode cX9_node 101 = .ok (.aload_n 3, 1) := by decide +kernel
theorem dX9_node_102 : decode cX9_node 102 = .ok (.getfield 118, 3) := by decide +kernel
theorem dX9_node_105 : decode cX9_node 105 = .ok (.iload_n 1, 1) := by decide +kernel
theorem dX9_node_106 : decode cX9_node 106 = .ok (.iaload, 1) := by decide +kernel
theorem dX9_node_107 : decode cX9_node 107 = .ok (.ireturn, 1) := by decide +kernel
theorem dX9_node_108 : decode cX9_node 108 = .ok (.aload_n 3, 1) := by decide +kernel
theorem dX9_node_109 : decode cX9_node 109 = .ok (.getfield 121, 3) := by decide +kernel
theorem dX9_node_112 : decode cX9_node 112 = .ok (.iload_n 1, 1) := by decide +kernel
theorem dX9_node_113 : decode cX9_node 113 = .ok (.iaload, 1) := by decide +kernel
theorem dX9_node_114 : decode cX9_node 114 = .ok (.ireturn, 1) := by decide +kernel
theorem dX9_node_115 : decode cX9_node 115 = .ok (.aload_n 3, 1) := by decide +kernel
theorem dX9_node_116 : decode cX9_node 116 = .ok (.iload_n 1, 1) := by decide +kernel
theorem dX9_node_117 : decode cX9_node 117 = .ok (.invokevirtual 124, 3) := by decide +kernel
theorem dX9_node_120 : decode cX9_node 120 = .ok (.ireturn, 1) := by decide +kernel
theorem dX9_node_121 : decode cX9_node 121 = .ok (.aload_n 3, 1) := by decide +kernel
theorem dX9_node_122 : decode cX9_node 122 = .ok (.iload_n 1, 1) := by decide +kernel
theorem dX9_node_123 : decode cX9_node 123 = .ok (.invokevirtual 127, 3) := by decide +kernel
theorem dX9_node_126 : decode cX9_node 126 = .ok (.ireturn, 1) := by decide +kernel
theorem dX9_node_127 : decode cX9_node 127 = .ok (.aload_n 3, 1) := by decide +kernel
theorem dX9_node_128 : decode cX9_node 128 = .ok (.getfield 130, 3) := by decide +kernel
theorem dX9_node_131 : decode cX9_node 131 = .ok (.iload_n 1, 1) := by decide +kernel
theorem dX9_node_132 : decode cX9_node 132 = .ok (.iaload, 1) := by decide +kernel
theorem dX9_node_133 : decode cX9_node 133 = .ok (.ireturn, 1) := by decide +kernel
theorem dX9_node_134 : decode cX9_node 134 = .ok (.aload_n 3, 1) := by decide +kernel
theorem dX9_node_135 : decode cX9_node 135 = .ok (.iload_n 1, 1) := by decide +kernel
theorem dX9_node_136 : decode cX9_node 136 = .ok (.invokevirtual 133, 3) := by decide +kernel
theorem dX9_node_139 : decode cX9_node 139 = .ok (.ireturn, 1) := by decide +kernel
theorem dX9_node_140 : decode cX9_node 140 = .ok (.aload_n 0, 1) := by decide +kernel
theorem dX9_node_141 : decode cX9_node 141 = .ok (.getfield 10, 3) := by decide +kernel
theorem dX9_node_144 : decode cX9_node 144 = .ok (.getfield 136, 3) := by decide +kernel
theorem dX9_node_147 : decode cX9_node 147 = .ok (.getfield 140, 3) := by decide +kernel
theorem dX9_node_150 : decode cX9_node 150 = .ok (.iload_n 1, 1) := by decide +kernel
theorem dX9_node_151 : decode cX9_node 151 = .ok (.iaload, 1) := by decide +kernel
theorem dX9_node_152 : decode cX9_node 152 = .ok (.ireturn, 1) := by decide +kernel
theorem dX9_node_153 : decode cX9_node 153 = .ok (.aload_n 0, 1) := by decide +kernel
theorem dX9_node_154 : decode cX9_node 154 = .ok (.getfield 10, 3) := by decide +kernel
theorem dX9_node_157 : decode cX9_node 157 = .ok (.getfield 136, 3) := by decide +kernel
theorem dX9_node_160 : decode cX9_node 160 = .ok (.getfield 145, 3) := by decide +kernel
theorem dX9_node_163 : decode cX9_node 163 = .ok (.iload_n 1, 1) := by decide +kernel
theorem dX9_node_164 : decode cX9_node 164 = .ok (.iaload, 1) := by decide +kernel
theorem dX9_node_165 : decode cX9_node 165 = .ok (.ireturn, 1) := by decide +kernel
theorem dX9_node_166 : decode cX9_node 166 = .ok (.aload_n 0, 1) := by decide +kernel
theorem dX9_node_167 : decode cX9_node 167 = .ok (.getfield 10, 3) := by decide +kernel
theorem dX9_node_170 : decode cX9_node 170 = .ok (.getfield 148, 3) := by decide +kernel
theorem dX9_node_173 : decode cX9_node 173 = .ok (.iload_n 1, 1) := by decide +kernel
theorem dX9_node_174 : decode cX9_node 174 = .ok (.invokevirtual 152, 3) := by decide +kernel
theorem dX9_node_177 : decode cX9_node 177 = .ok (.ireturn, 1) := by decide +kernel
theorem dX9_child_0 : decode cX9_child 0 = .ok (.aload_n 0, 1) := by decide +kernel
theorem dX9_child_1 : decode cX9_child 1 = .ok (.iload_n 1, 1) := by decide +kernel
theorem dX9_child_2 : decode cX9_child 2 = .ok (.invokevirtual 51, 3) := by decide +kernel
theorem dX9_child_5 : decode cX9_child 5 = .ok (.aload_n 0, 1) := by decide +kernel
theorem dX9_child_6 : decode cX9_child 6 = .ok (.getfield 10, 3) := by decide +kernel
theorem dX9_child_9 : decode cX9_child 9 = .ok (.getfield 55, 3) := by decide +kernel
theorem dX9_child_12 : decode cX9_child 12 = .ok (.iload_n 1, 1) := by decide +kernel
theorem dX9_child_13 : decode cX9_child 13 = .ok (.iload_n 2, 1) := by decide +kernel
theorem dX9_child_14 : decode cX9_child 14 = .ok (.invokevirtual 157, 3) := by decide +kernel
theorem dX9_child_17 : decode cX9_child 17 = .ok (.istore_n 3, 1) := by decide +kernel
theorem dX9_child_18 : decode cX9_child 18 = .ok (.iload_n 3, 1) := by decide +kernel
theorem dX9_child_19 : decode cX9_child 19 = .ok (.iconst (-1), 1) := by decide +kernel
theorem dX9_child_20 : decode cX9_child 20 = .ok (.if_icmp .ne 13, 3) := by decide +kernel
theorem dX9_child_23 : decode cX9_child 23 = .ok (.new 161, 3) := by decide +kernel
theorem dX9_child_26 : decode cX9_child 26 = .ok (.dup, 1) := by decide +kernel
theorem dX9_child_27 : decode cX9_child 27 = .ok (.ldc 163, 2) := by decide +kernel
theorem dX9_child_29 : decode cX9_child 29 = .ok (.invokespecial 165, 3) := by decide +kernel
theorem dX9_child_32 : decode cX9_child 32 = .ok (.athrow, 1) := by decide +kernel
theorem dX9_restriction_0 : decode cX9_restriction 0 = .ok (.aload_n 0, 1) := by decide +kernel
theorem dX9_restriction_1 : decode cX9_restriction 1 = .ok (.iload_n 1, 1) := by decide +kernel
theorem dX9_restriction_2 : decode cX9_restriction 2 = .ok (.invokevirtual 51, 3) := by decide +kernel
theorem dX9_restriction_5 : decode cX9_restriction 5 = .ok (.iload_n 2, 1) := by decide +kernel
theorem dX9_restriction_6 : decode cX9_restriction 6 = .ok (.iconst 2, 1) := by decide +kernel
theorem dX9_restriction_7 : decode cX9_restriction 7 = .ok (.invokestatic 112, 3) := by decide +kernel
theorem dX9_restriction_10 : decode cX9_restriction 10 = .ok (.iload_n 2, 1) := by decide +kernel
theorem dX9_restriction_11 : decode cX9_restriction 11 = .ok (.lookupswitch 63 #[(0, 25), (1, 44)], 25) := by decide +kernel
theorem dX9_restriction_36 : decode cX9_restriction 36 = .ok (.aload_n 0, 1) := by decide +kernel
theorem dX9_restriction_37 : decode cX9_restriction 37 = .ok (.getfield 10, 3) := by decide +kernel
theorem dX9_restriction_40 : decode cX9_restriction 40 = .ok (.getfield 168, 3) := by decide +kernel
theorem dX9_restriction_43 : decode cX9_restriction 43 = .ok (.aload_n 0, 1) := by decide +kernel
theorem dX9_restriction_44 : decode cX9_restriction 44 = .ok (.getfield 10, 3) := by decide +kernel
theorem dX9_restriction_47 : decode cX9_restriction 47 = .ok (.getfield 55, 3) := by decide +kernel
theorem dX9_restriction_50 : decode cX9_restriction 50 = .ok (.iload_n 1, 1) := by decide +kernel
theorem dX9_restriction_51 : decode cX9_restriction 51 = .ok (.invokevirtual 187, 3) := by decide +kernel
theorem dX9_restriction_54 : decode cX9_restriction 54 = .ok (.ireturn, 1) := by decide +kernel
theorem dX9_restriction_55 : decode cX9_restriction 55 = .ok (.aload_n 0, 1) := by decide +kernel
theorem dX9_restriction_56 : decode cX9_restriction 56 = .ok (.getfield 10, 3) := by decide +kernel
theorem dX9_restriction_59 : decode cX9_restriction 59 = .ok (.getfield 168, 3) := by decide +kernel
theorem dX9_restriction_62 : decode cX9_restriction 62 = .ok (.aload_n 0, 1) := by decide +kernel
theorem dX9_restriction_63 : decode cX9_restriction 63 = .ok (.getfield 10, 3) := by decide +kernel
theorem dX9_restriction_66 : decode cX9_restriction 66 = .ok (.getfield 55, 3) := by decide +kernel
theorem dX9_restriction_69 : decode cX9_restriction 69 = .ok (.iload_n 1, 1) := by decide +kernel
theorem dX9_restriction_70 : decode cX9_restriction 70 = .ok (.invokevirtual 191, 3) := by decide +kernel
theorem dX9_restriction_73 : decode cX9_restriction 73 = .ok (.ireturn, 1) := by decide +kernel
theorem dX9_restriction_74 : decode cX9_restriction 74 = .ok (.aload_n 0, 1) := by decide +kernel
theorem dX9_restriction_75 : decode cX9_restriction 75 = .ok (.getfield 10, 3) := by decide +kernel
theorem dX9_restriction_78 : decode cX9_restriction 78 = .ok (.getfield 168, 3) := by decide +kernel
theorem dX9_restriction_81 : decode cX9_restriction 81 = .ok (.aload_n 0, 1) := by decide +kernel
theorem dX9_restriction_82 : decode cX9_restriction 82 = .ok (.getfield 10, 3) := by decide +kernel
theorem dX9_restriction_85 : decode cX9_restriction 85 = .ok (.getfield 55, 3) := by decide +kernel
theorem dX9_restriction_88 : decode cX9_restriction 88 = .ok (.iload_n 1, 1) := by decide +kernel
theorem dX9_restriction_89 : decode cX9_restriction 89 = .ok (.invokevirtual 194, 3) := by decide +kernel
theorem dX9_restriction_92 : decode cX9_restriction 92 = .ok (.ireturn, 1) := by decide +kernel
theorem dX9_openPages_0 : decode cX9_openPages 0 = .ok (.aload_n 0, 1) := by decide +kernel
theorem dX9_openPages_1 : decode cX9_openPages 1 = .ok (.iload_n 1, 1) := by decide +kernel
theorem dX9_openPages_2 : decode cX9_openPages 2 = .ok (.invokevirtual 51, 3) := by decide +kernel
theorem dX9_openPages_5 : decode cX9_openPages 5 = .ok (.iload_n 2, 1) := by decide +kernel
theorem dX9_openPages_6 : decode cX9_openPages 6 = .ok (.invokestatic 197, 3) := by decide +kernel
theorem dX9_openPages_9 : decode cX9_openPages 9 = .ok (.aload_n 0, 1) := by decide +kernel
theorem dX9_openPages_10 : decode cX9_openPages 10 = .ok (.getfield 10, 3) := by decide +kernel
theorem dX9_openPages_13 : decode cX9_openPages 13 = .ok (.getfield 168, 3) := by decide +kernel
theorem dX9_openPages_16 : decode cX9_openPages 16 = .ok (.aload_n 0, 1) := by decide +kernel
theorem dX9_openPages_17 : decode cX9_openPages 17 = .ok (.getfield 10, 3) := by decide +kernel
theorem dX9_openPages_20 : decode cX9_openPages 20 = .ok (.getfield 55, 3) := by decide +kernel
theorem dX9_openPages_23 : decode cX9_openPages 23 = .ok (.iload_n 1, 1) := by decide +kernel
theorem dX9_openPages_24 : decode cX9_openPages 24 = .ok (.iload_n 2, 1) := by decide +kernel
theorem dX9_openPages_25 : decode cX9_openPages 25 = .ok (.invokevirtual 200, 3) := by decide +kernel
theorem dX9_openPages_28 : decode cX9_openPages 28 = .ok (.ireturn, 1) := by decide +kernel
theorem dX9_firstDay_0 : decode cX9_firstDay 0 = .ok (.aload_n 0, 1) := by decide +kernel
theorem dX9_firstDay_1 : decode cX9_firstDay 1 = .ok (.iload_n 1, 1) := by decide +kernel
theorem dX9_firstDay_2 : decode cX9_firstDay 2 = .ok (.invokevirtual 204, 3) := by decide +kernel
theorem dX9_put_0 : decode cX9_put 0 = .ok (.aload_n 0, 1) := by decide +kernel
theorem dX9_put_1 : decode cX9_put 1 = .ok (.iload_n 1, 1) := by decide +kernel
theorem dX9_put_2 : decode cX9_put 2 = .ok (.invokevirtual 51, 3) := by decide +kernel
theorem dX9_put_5 : decode cX9_put 5 = .ok (.aload_n 0, 1) := by decide +kernel
theorem dX9_put_6 : decode cX9_put 6 = .ok (.iload_n 2, 1) := by decide +kernel
theorem dX9_put_7 : decode cX9_put 7 = .ok (.invokevirtual 227, 3) := by decide +kernel
theorem dX9_takeOut_0 : decode cX9_takeOut 0 = .ok (.aload_n 0, 1) := by decide +kernel
theorem dX9_takeOut_1 : decode cX9_takeOut 1 = .ok (.iload_n 1, 1) := by decide +kernel
theorem dX9_takeOut_2 : decode cX9_takeOut 2 = .ok (.invokevirtual 51, 3) := by decide +kernel
theorem dX9_takeOut_5 : decode cX9_takeOut 5 = .ok (.aload_n 0, 1) := by decide +kernel
theorem dX9_takeOut_6 : decode cX9_takeOut 6 = .ok (.getfield 10, 3) := by decide +kernel
theorem dX9_takeOut_9 : decode cX9_takeOut 9 = .ok (.getfield 136, 3) := by decide +kernel
theorem dX9_takeOut_12 : decode cX9_takeOut 12 = .ok (.getfield 140, 3) := by decide +kernel
theorem dX9_takeOut_15 : decode cX9_takeOut 15 = .ok (.iload_n 1, 1) := by decide +kernel
theorem dX9_takeOut_16 : decode cX9_takeOut 16 = .ok (.iaload, 1) := by decide +kernel
theorem dX9_takeOut_17 : decode cX9_takeOut 17 = .ok (.istore_n 2, 1) := by decide +kernel
theorem dX9_takeOut_18 : decode cX9_takeOut 18 = .ok (.iload_n 2, 1) := by decide +kernel
theorem dX9_takeOut_19 : decode cX9_takeOut 19 = .ok (.iconst (-1), 1) := by decide +kernel
theorem dX9_takeOut_20 : decode cX9_takeOut 20 = .ok (.if_icmp .ne 13, 3) := by decide +kernel
theorem dX9_takeOut_23 : decode cX9_takeOut 23 = .ok (.new 79, 3) := by decide +kernel
theorem dX9_takeOut_26 : decode cX9_takeOut 26 = .ok (.dup, 1) := by decide +kernel
theorem dX9_takeOut_27 : decode cX9_takeOut 27 = .ok (.ldc 254, 2) := by decide +kernel
theorem dX9_takeOut_29 : decode cX9_takeOut 29 = .ok (.invokespecial 83, 3) := by decide +kernel
theorem dX9_takeOut_32 : decode cX9_takeOut 32 = .ok (.athrow, 1) := by decide +kernel
theorem dX9_split_0 : decode cX9_split 0 = .ok (.aload_n 0, 1) := by decide +kernel
theorem dX9_split_1 : decode cX9_split 1 = .ok (.iload_n 1, 1) := by decide +kernel
theorem dX9_split_2 : decode cX9_split 2 = .ok (.invokevirtual 227, 3) := by decide +kernel
theorem dX9_merge_0 : decode cX9_merge 0 = .ok (.aload_n 0, 1) := by decide +kernel
theorem dX9_merge_1 : decode cX9_merge 1 = .ok (.iload_n 1, 1) := by decide +kernel
theorem dX9_merge_2 : decode cX9_merge 2 = .ok (.invokevirtual 227, 3) := by decide +kernel
theorem dX9_container_0 : decode cX9_container 0 = .ok (.aload_n 0, 1) := by decide +kernel
theorem dX9_container_1 : decode cX9_container 1 = .ok (.iload_n 1, 1) := by decide +kernel
theorem dX9_container_2 : decode cX9_container 2 = .ok (.invokevirtual 227, 3) := by decide +kernel
theorem dX9_unitAt_0 : decode cX9_unitAt 0 = .ok (.aload_n 0, 1) := by decide +kernel
theorem dX9_unitAt_1 : decode cX9_unitAt 1 = .ok (.iload_n 1, 1) := by decide +kernel
theorem dX9_unitAt_2 : decode cX9_unitAt 2 = .ok (.invokevirtual 227, 3) := by decide +kernel
theorem dX9_resolve_0 : decode cX9_resolve 0 = .ok (.aload_n 0, 1) := by decide +kernel
theorem dX9_resolve_1 : decode cX9_resolve 1 = .ok (.getfield 10, 3) := by decide +kernel
theorem dX9_resolve_4 : decode cX9_resolve 4 = .ok (.getfield 136, 3) := by decide +kernel
theorem dX9_resolve_7 : decode cX9_resolve 7 = .ok (.getfield 239, 3) := by decide +kernel
theorem dX9_resolve_10 : decode cX9_resolve 10 = .ok (.iload_n 1, 1) := by decide +kernel
theorem dX9_resolve_11 : decode cX9_resolve 11 = .ok (.iload_n 2, 1) := by decide +kernel
theorem dX9_resolve_12 : decode cX9_resolve 12 = .ok (.invokevirtual 281, 3) := by decide +kernel
theorem dX9_resolve_15 : decode cX9_resolve 15 = .ok (.istore_n 3, 1) := by decide +kernel
theorem dX9_resolve_16 : decode cX9_resolve 16 = .ok (.aload_n 0, 1) := by decide +kernel
theorem dX9_resolve_17 : decode cX9_resolve 17 = .ok (.getfield 10, 3) := by decide +kernel
theorem dX9_resolve_20 : decode cX9_resolve 20 = .ok (.getfield 55, 3) := by decide +kernel
theorem dX9_resolve_23 : decode cX9_resolve 23 = .ok (.iload_n 3, 1) := by decide +kernel
theorem dX9_resolve_24 : decode cX9_resolve 24 = .ok (.invokevirtual 284, 3) := by decide +kernel
theorem dX9_resolve_27 : decode cX9_resolve 27 = .ok (.ifCond .ne 14, 3) := by decide +kernel
theorem dX9_resolve_30 : decode cX9_resolve 30 = .ok (.new 210, 3) := by decide +kernel
theorem dX9_resolve_33 : decode cX9_resolve 33 = .ok (.dup, 1) := by decide +kernel
theorem dX9_resolve_34 : decode cX9_resolve 34 = .ok (.ldc_w 287, 3) := by decide +kernel
theorem dX9_resolve_37 : decode cX9_resolve 37 = .ok (.invokespecial 214, 3) := by decide +kernel
theorem dX9_resolve_40 : decode cX9_resolve 40 = .ok (.athrow, 1) := by decide +kernel
theorem dX9_copy_0 : decode cX9_copy 0 = .ok (.aload_n 0, 1) := by decide +kernel
theorem dX9_copy_1 : decode cX9_copy 1 = .ok (.iload_n 1, 1) := by decide +kernel
theorem dX9_copy_2 : decode cX9_copy 2 = .ok (.invokevirtual 51, 3) := by decide +kernel
theorem dX9_copy_5 : decode cX9_copy 5 = .ok (.aload_n 0, 1) := by decide +kernel
theorem dX9_copy_6 : decode cX9_copy 6 = .ok (.iload_n 1, 1) := by decide +kernel
theorem dX9_copy_7 : decode cX9_copy 7 = .ok (.invokevirtual 230, 3) := by decide +kernel
theorem dX9_copyPart_0 : decode cX9_copyPart 0 = .ok (.aload_n 0, 1) := by decide +kernel
theorem dX9_copyPart_1 : decode cX9_copyPart 1 = .ok (.iload_n 1, 1) := by decide +kernel
theorem dX9_copyPart_2 : decode cX9_copyPart 2 = .ok (.invokevirtual 204, 3) := by decide +kernel
theorem dX9_request_0 : decode cX9_request 0 = .ok (.iload_n 1, 1) := by decide +kernel
theorem dX9_request_1 : decode cX9_request 1 = .ok (.ifCond .lt 9, 3) := by decide +kernel
theorem dX9_request_10 : decode cX9_request 10 = .ok (.new 161, 3) := by decide +kernel
theorem dX9_request_13 : decode cX9_request 13 = .ok (.dup, 1) := by decide +kernel
theorem dX9_request_14 : decode cX9_request 14 = .ok (.ldc_w 328, 3) := by decide +kernel
theorem dX9_request_17 : decode cX9_request 17 = .ok (.invokespecial 165, 3) := by decide +kernel
theorem dX9_request_20 : decode cX9_request 20 = .ok (.athrow, 1) := by decide +kernel
theorem dX9_request_4 : decode cX9_request 4 = .ok (.iload_n 1, 1) := by decide +kernel
theorem dX9_request_5 : decode cX9_request 5 = .ok (.bipush 8, 2) := by decide +kernel
theorem dX9_request_7 : decode cX9_request 7 = .ok (.if_icmp .lt 14, 3) := by decide +kernel
theorem dX9_request_21 : decode cX9_request 21 = .ok (.aload_n 0, 1) := by decide +kernel
theorem dX9_request_22 : decode cX9_request 22 = .ok (.iload_n 2, 1) := by decide +kernel
theorem dX9_request_23 : decode cX9_request 23 = .ok (.invokevirtual 51, 3) := by decide +kernel
theorem dX9_request_26 : decode cX9_request 26 = .ok (.aload_n 0, 1) := by decide +kernel
theorem dX9_request_27 : decode cX9_request 27 = .ok (.iload_n 2, 1) := by decide +kernel
theorem dX9_request_28 : decode cX9_request 28 = .ok (.invokevirtual 230, 3) := by decide +kernel
theorem dX9_requestPart_0 : decode cX9_requestPart 0 = .ok (.aload_n 0, 1) := by decide +kernel
theorem dX9_requestPart_1 : decode cX9_requestPart 1 = .ok (.iload_n 1, 1) := by decide +kernel
theorem dX9_requestPart_2 : decode cX9_requestPart 2 = .ok (.invokevirtual 361, 3) := by decide +kernel
theorem dX9_cancel_0 : decode cX9_cancel 0 = .ok (.aload_n 0, 1) := by decide +kernel
theorem dX9_cancel_1 : decode cX9_cancel 1 = .ok (.iload_n 1, 1) := by decide +kernel
theorem dX9_cancel_2 : decode cX9_cancel 2 = .ok (.invokevirtual 361, 3) := by decide +kernel
theorem dX9_account_0 : decode cX9_account 0 = .ok (.iload_n 1, 1) := by decide +kernel
theorem dX9_account_1 : decode cX9_account 1 = .ok (.bipush 9, 2) := by decide +kernel
theorem dX9_account_3 : decode cX9_account 3 = .ok (.invokestatic 112, 3) := by decide +kernel
theorem dX9_account_6 : decode cX9_account 6 = .ok (.iload_n 1, 1) := by decide +kernel
theorem dX9_account_7 : decode cX9_account 7 = .ok (.tableswitch 147 0 8 #[49, 60, 71, 83, 94, 105, 116, 127, 135], 49) := by decide +kernel
theorem dX9_account_56 : decode cX9_account 56 = .ok (.aload_n 0, 1) := by decide +kernel
theorem dX9_account_57 : decode cX9_account 57 = .ok (.getfield 10, 3) := by decide +kernel
theorem dX9_account_60 : decode cX9_account 60 = .ok (.getfield 55, 3) := by decide +kernel
theorem dX9_account_63 : decode cX9_account 63 = .ok (.getfield 383, 3) := by decide +kernel
theorem dX9_account_66 : decode cX9_account 66 = .ok (.ireturn, 1) := by decide +kernel
theorem dX9_account_67 : decode cX9_account 67 = .ok (.aload_n 0, 1) := by decide +kernel
theorem dX9_account_68 : decode cX9_account 68 = .ok (.getfield 10, 3) := by decide +kernel
theorem dX9_account_71 : decode cX9_account 71 = .ok (.getfield 55, 3) := by decide +kernel
theorem dX9_account_74 : decode cX9_account 74 = .ok (.invokevirtual 386, 3) := by decide +kernel
theorem dX9_account_77 : decode cX9_account 77 = .ok (.ireturn, 1) := by decide +kernel
theorem dX9_account_78 : decode cX9_account 78 = .ok (.aload_n 0, 1) := by decide +kernel
theorem dX9_account_79 : decode cX9_account 79 = .ok (.getfield 10, 3) := by decide +kernel
theorem dX9_account_82 : decode cX9_account 82 = .ok (.getfield 55, 3) := by decide +kernel
theorem dX9_account_85 : decode cX9_account 85 = .ok (.iconst 0, 1) := by decide +kernel
theorem dX9_account_86 : decode cX9_account 86 = .ok (.invokevirtual 133, 3) := by decide +kernel
theorem dX9_account_89 : decode cX9_account 89 = .ok (.ireturn, 1) := by decide +kernel
theorem dX9_account_90 : decode cX9_account 90 = .ok (.aload_n 0, 1) := by decide +kernel
theorem dX9_account_91 : decode cX9_account 91 = .ok (.getfield 10, 3) := by decide +kernel
theorem dX9_account_94 : decode cX9_account 94 = .ok (.getfield 136, 3) := by decide +kernel
theorem dX9_account_97 : decode cX9_account 97 = .ok (.getfield 389, 3) := by decide +kernel
theorem dX9_account_100 : decode cX9_account 100 = .ok (.ireturn, 1) := by decide +kernel
theorem dX9_account_101 : decode cX9_account 101 = .ok (.aload_n 0, 1) := by decide +kernel
theorem dX9_account_102 : decode cX9_account 102 = .ok (.getfield 10, 3) := by decide +kernel
theorem dX9_account_105 : decode cX9_account 105 = .ok (.getfield 136, 3) := by decide +kernel
theorem dX9_account_108 : decode cX9_account 108 = .ok (.getfield 391, 3) := by decide +kernel
theorem dX9_account_111 : decode cX9_account 111 = .ok (.ireturn, 1) := by decide +kernel
theorem dX9_account_112 : decode cX9_account 112 = .ok (.aload_n 0, 1) := by decide +kernel
theorem dX9_account_113 : decode cX9_account 113 = .ok (.getfield 10, 3) := by decide +kernel
theorem dX9_account_116 : decode cX9_account 116 = .ok (.getfield 148, 3) := by decide +kernel
theorem dX9_account_119 : decode cX9_account 119 = .ok (.invokevirtual 394, 3) := by decide +kernel
theorem dX9_account_122 : decode cX9_account 122 = .ok (.ireturn, 1) := by decide +kernel
theorem dX9_account_123 : decode cX9_account 123 = .ok (.aload_n 0, 1) := by decide +kernel
theorem dX9_account_124 : decode cX9_account 124 = .ok (.getfield 10, 3) := by decide +kernel
theorem dX9_account_127 : decode cX9_account 127 = .ok (.getfield 314, 3) := by decide +kernel
theorem dX9_account_130 : decode cX9_account 130 = .ok (.getfield 330, 3) := by decide +kernel
theorem dX9_account_133 : decode cX9_account 133 = .ok (.ireturn, 1) := by decide +kernel
theorem dX9_account_134 : decode cX9_account 134 = .ok (.aload_n 0, 1) := by decide +kernel
theorem dX9_account_135 : decode cX9_account 135 = .ok (.getfield 10, 3) := by decide +kernel
theorem dX9_account_138 : decode cX9_account 138 = .ok (.invokevirtual 397, 3) := by decide +kernel
theorem dX9_account_141 : decode cX9_account 141 = .ok (.ireturn, 1) := by decide +kernel
theorem dX9_account_142 : decode cX9_account 142 = .ok (.aload_n 0, 1) := by decide +kernel
theorem dX9_account_143 : decode cX9_account 143 = .ok (.getfield 10, 3) := by decide +kernel
theorem dX9_account_146 : decode cX9_account 146 = .ok (.getfield 314, 3) := by decide +kernel
theorem dX9_account_149 : decode cX9_account 149 = .ok (.iconst (-1), 1) := by decide +kernel
theorem dX9_account_150 : decode cX9_account 150 = .ok (.invokevirtual 318, 3) := by decide +kernel
theorem dX9_account_153 : decode cX9_account 153 = .ok (.ireturn, 1) := by decide +kernel
theorem dX9_account_154 : decode cX9_account 154 = .ok (.aload_n 0, 1) := by decide +kernel
theorem dX9_account_155 : decode cX9_account 155 = .ok (.getfield 10, 3) := by decide +kernel
theorem dX9_account_158 : decode cX9_account 158 = .ok (.getfield 136, 3) := by decide +kernel
theorem dX9_account_161 : decode cX9_account 161 = .ok (.getfield 239, 3) := by decide +kernel
theorem dX9_account_164 : decode cX9_account 164 = .ok (.aload_n 0, 1) := by decide +kernel
theorem dX9_account_165 : decode cX9_account 165 = .ok (.getfield 10, 3) := by decide +kernel
theorem dX9_account_168 : decode cX9_account 168 = .ok (.getfield 55, 3) := by decide +kernel
theorem dX9_account_171 : decode cX9_account 171 = .ok (.invokevirtual 400, 3) := by decide +kernel
theorem dX9_account_174 : decode cX9_account 174 = .ok (.ireturn, 1) := by decide +kernel
theorem dX9_dayCount_0 : decode cX9_dayCount 0 = .ok (.iload_n 1, 1) := by decide +kernel
theorem dX9_dayCount_1 : decode cX9_dayCount 1 = .ok (.invokestatic 197, 3) := by decide +kernel
theorem dX9_dayCount_4 : decode cX9_dayCount 4 = .ok (.iload_n 2, 1) := by decide +kernel
theorem dX9_dayCount_5 : decode cX9_dayCount 5 = .ok (.iconst 3, 1) := by decide +kernel
theorem dX9_dayCount_6 : decode cX9_dayCount 6 = .ok (.invokestatic 112, 3) := by decide +kernel
theorem dX9_dayCount_9 : decode cX9_dayCount 9 = .ok (.iload_n 2, 1) := by decide +kernel
theorem dX9_dayCount_10 : decode cX9_dayCount 10 = .ok (.tableswitch 59 0 2 #[26, 38, 50], 26) := by decide +kernel
theorem dX9_dayCount_36 : decode cX9_dayCount 36 = .ok (.aload_n 0, 1) := by decide +kernel
theorem dX9_dayCount_37 : decode cX9_dayCount 37 = .ok (.getfield 10, 3) := by decide +kernel
theorem dX9_dayCount_40 : decode cX9_dayCount 40 = .ok (.getfield 314, 3) := by decide +kernel
theorem dX9_dayCount_43 : decode cX9_dayCount 43 = .ok (.iload_n 1, 1) := by decide +kernel
theorem dX9_dayCount_44 : decode cX9_dayCount 44 = .ok (.invokevirtual 404, 3) := by decide +kernel
theorem dX9_dayCount_47 : decode cX9_dayCount 47 = .ok (.ireturn, 1) := by decide +kernel
theorem dX9_dayCount_48 : decode cX9_dayCount 48 = .ok (.aload_n 0, 1) := by decide +kernel
theorem dX9_dayCount_49 : decode cX9_dayCount 49 = .ok (.getfield 10, 3) := by decide +kernel
theorem dX9_dayCount_52 : decode cX9_dayCount 52 = .ok (.getfield 314, 3) := by decide +kernel
theorem dX9_dayCount_55 : decode cX9_dayCount 55 = .ok (.iload_n 1, 1) := by decide +kernel
theorem dX9_dayCount_56 : decode cX9_dayCount 56 = .ok (.invokevirtual 407, 3) := by decide +kernel
theorem dX9_dayCount_59 : decode cX9_dayCount 59 = .ok (.ireturn, 1) := by decide +kernel
theorem dX9_dayCount_60 : decode cX9_dayCount 60 = .ok (.aload_n 0, 1) := by decide +kernel
theorem dX9_dayCount_61 : decode cX9_dayCount 61 = .ok (.getfield 10, 3) := by decide +kernel
theorem dX9_dayCount_64 : decode cX9_dayCount 64 = .ok (.iload_n 1, 1) := by decide +kernel
theorem dX9_dayCount_65 : decode cX9_dayCount 65 = .ok (.invokevirtual 410, 3) := by decide +kernel
theorem dX9_dayCount_68 : decode cX9_dayCount 68 = .ok (.ireturn, 1) := by decide +kernel
theorem dX9_dayCount_69 : decode cX9_dayCount 69 = .ok (.aload_n 0, 1) := by decide +kernel
theorem dX9_dayCount_70 : decode cX9_dayCount 70 = .ok (.getfield 10, 3) := by decide +kernel
theorem dX9_dayCount_73 : decode cX9_dayCount 73 = .ok (.iload_n 1, 1) := by decide +kernel
theorem dX9_dayCount_74 : decode cX9_dayCount 74 = .ok (.invokevirtual 413, 3) := by decide +kernel
theorem dX9_dayCount_77 : decode cX9_dayCount 77 = .ok (.ireturn, 1) := by decide +kernel
theorem dX9_report_0 : decode cX9_report 0 = .ok (.iload_n 1, 1) := by decide +kernel
theorem dX9_report_1 : decode cX9_report 1 = .ok (.ifCond .lt 14, 3) := by decide +kernel
theorem dX9_report_15 : decode cX9_report 15 = .ok (.new 210, 3) := by decide +kernel
theorem dX9_report_18 : decode cX9_report 18 = .ok (.dup, 1) := by decide +kernel
theorem dX9_report_19 : decode cX9_report 19 = .ok (.ldc_w 424, 3) := by decide +kernel
theorem dX9_report_22 : decode cX9_report 22 = .ok (.invokespecial 214, 3) := by decide +kernel
theorem dX9_report_25 : decode cX9_report 25 = .ok (.athrow, 1) := by decide +kernel
theorem dX9_report_4 : decode cX9_report 4 = .ok (.iload_n 1, 1) := by decide +kernel
theorem dX9_report_5 : decode cX9_report 5 = .ok (.aload_n 0, 1) := by decide +kernel
theorem dX9_report_6 : decode cX9_report 6 = .ok (.getfield 33, 3) := by decide +kernel
theorem dX9_report_9 : decode cX9_report 9 = .ok (.getfield 421, 3) := by decide +kernel
theorem dX9_report_12 : decode cX9_report 12 = .ok (.if_icmp .lt 14, 3) := by decide +kernel
theorem dX9_openShare_0 : decode cX9_openShare 0 = .ok (.iload_n 1, 1) := by decide +kernel
theorem dX9_openShare_1 : decode cX9_openShare 1 = .ok (.invokestatic 197, 3) := by decide +kernel
theorem dX9_openShare_4 : decode cX9_openShare 4 = .ok (.aload_n 0, 1) := by decide +kernel
theorem dX9_openShare_5 : decode cX9_openShare 5 = .ok (.getfield 10, 3) := by decide +kernel
theorem dX9_openShare_8 : decode cX9_openShare 8 = .ok (.getfield 55, 3) := by decide +kernel
theorem dX9_openShare_11 : decode cX9_openShare 11 = .ok (.iconst 0, 1) := by decide +kernel
theorem dX9_openShare_12 : decode cX9_openShare 12 = .ok (.invokevirtual 133, 3) := by decide +kernel
theorem dX9_openShare_15 : decode cX9_openShare 15 = .ok (.istore_n 2, 1) := by decide +kernel
theorem dX9_openShare_16 : decode cX9_openShare 16 = .ok (.iload_n 2, 1) := by decide +kernel
theorem dX9_openShare_17 : decode cX9_openShare 17 = .ok (.ifCond .ne 14, 3) := by decide +kernel
theorem dX9_openShare_20 : decode cX9_openShare 20 = .ok (.new 416, 3) := by decide +kernel
theorem dX9_openShare_23 : decode cX9_openShare 23 = .ok (.dup, 1) := by decide +kernel
theorem dX9_openShare_24 : decode cX9_openShare 24 = .ok (.ldc_w 418, 3) := by decide +kernel
theorem dX9_openShare_27 : decode cX9_openShare 27 = .ok (.invokespecial 420, 3) := by decide +kernel
theorem dX9_openShare_30 : decode cX9_openShare 30 = .ok (.athrow, 1) := by decide +kernel
theorem dX9_text_0 : decode cX9_text 0 = .ok (.iload_n 1, 1) := by decide +kernel
theorem dX9_text_1 : decode cX9_text 1 = .ok (.ifCond .lt 14, 3) := by decide +kernel
theorem dX9_text_15 : decode cX9_text 15 = .ok (.new 161, 3) := by decide +kernel
theorem dX9_text_18 : decode cX9_text 18 = .ok (.dup, 1) := by decide +kernel
theorem dX9_text_19 : decode cX9_text 19 = .ok (.ldc_w 474, 3) := by decide +kernel
theorem dX9_text_22 : decode cX9_text 22 = .ok (.invokespecial 165, 3) := by decide +kernel
theorem dX9_text_25 : decode cX9_text 25 = .ok (.athrow, 1) := by decide +kernel
theorem dX9_text_4 : decode cX9_text 4 = .ok (.iload_n 1, 1) := by decide +kernel
theorem dX9_text_5 : decode cX9_text 5 = .ok (.aload_n 0, 1) := by decide +kernel
theorem dX9_text_6 : decode cX9_text 6 = .ok (.getfield 47, 3) := by decide +kernel
theorem dX9_text_9 : decode cX9_text 9 = .ok (.invokevirtual 472, 3) := by decide +kernel
theorem dX9_text_12 : decode cX9_text 12 = .ok (.if_icmp .lt 14, 3) := by decide +kernel
theorem dX9_undo_0 : decode cX9_undo 0 = .ok (.aload_n 0, 1) := by decide +kernel
theorem dX9_undo_1 : decode cX9_undo 1 = .ok (.getfield 16, 3) := by decide +kernel
theorem dX9_undo_4 : decode cX9_undo 4 = .ok (.aload_n 0, 1) := by decide +kernel
theorem dX9_undo_5 : decode cX9_undo 5 = .ok (.getfield 20, 3) := by decide +kernel
theorem dX9_undo_8 : decode cX9_undo 8 = .ok (.aaload, 1) := by decide +kernel
theorem dX9_undo_9 : decode cX9_undo 9 = .ok (.astore_n 1, 1) := by decide +kernel
theorem dX9_undo_10 : decode cX9_undo 10 = .ok (.aload_n 0, 1) := by decide +kernel
theorem dX9_undo_11 : decode cX9_undo 11 = .ok (.getfield 24, 3) := by decide +kernel
theorem dX9_undo_14 : decode cX9_undo 14 = .ok (.ifCond .eq 7, 3) := by decide +kernel
theorem dX9_undo_21 : decode cX9_undo 21 = .ok (.new 79, 3) := by decide +kernel
theorem dX9_undo_24 : decode cX9_undo 24 = .ok (.dup, 1) := by decide +kernel
theorem dX9_undo_25 : decode cX9_undo 25 = .ok (.ldc_w 480, 3) := by decide +kernel
theorem dX9_undo_28 : decode cX9_undo 28 = .ok (.invokespecial 83, 3) := by decide +kernel
theorem dX9_undo_31 : decode cX9_undo 31 = .ok (.athrow, 1) := by decide +kernel
theorem dX9_restore_0 : decode cX9_restore 0 = .ok (.aload_n 0, 1) := by decide +kernel
theorem dX9_restore_1 : decode cX9_restore 1 = .ok (.getfield 27, 3) := by decide +kernel
theorem dX9_restore_4 : decode cX9_restore 4 = .ok (.ifnonnull 14, 3) := by decide +kernel
theorem dX9_restore_7 : decode cX9_restore 7 = .ok (.new 79, 3) := by decide +kernel
theorem dX9_restore_10 : decode cX9_restore 10 = .ok (.dup, 1) := by decide +kernel
theorem dX9_restore_11 : decode cX9_restore 11 = .ok (.ldc_w 486, 3) := by decide +kernel
theorem dX9_restore_14 : decode cX9_restore 14 = .ok (.invokespecial 83, 3) := by decide +kernel
theorem dX9_restore_17 : decode cX9_restore 17 = .ok (.athrow, 1) := by decide +kernel

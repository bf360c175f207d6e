theorem fin_J4 : ∀ w ∈ u_ws RJ4 TJ4 4, w ∈ fz_WA := fun w h => have h2 := (by decide +kernel : ∀ w ∈ u_ws RJ4 TJ4 4, w ∈ lw_tbl ∧ goodWord w = true) w h; fz_in h2.1 h2.2
theorem fin_X0 : ∀ w ∈ u_ws RX0 TX0 9, w ∈ fz_WA := fun w h => have h2 := (by decide +kernel : ∀ w ∈ u_ws RX0 TX0 9, w ∈ lw_tbl ∧ goodWord w = true) w h; fz_in h2.1 h2.2
theorem fin_X1 : ∀ w ∈ u_ws RX1 TX1 3, w ∈ fz_WA := fun w h => have h2 := (by decide +kernel : ∀ w ∈ u_ws RX1 TX1 3, w ∈ lw_tbl ∧ goodWord w = true) w h; fz_in h2.1 h2.2
theorem fin_X2 : ∀ w ∈ u_ws RX2 TX2 9, w ∈ fz_WA := fun w h => have h2 := (by decide +kernel : ∀ w ∈ u_ws RX2 TX2 9, w ∈ lw_tbl ∧ goodWord w = true) w h; fz_in h2.1 h2.2
theorem fin_X3 : ∀ w ∈ u_ws RX3 TX3 3, w ∈ fz_WA := fun w h => have h2 := (by decide +kernel : ∀ w ∈ u_ws RX3 TX3 3, w ∈ lw_tbl ∧ goodWord w = true) w h; fz_in h2.1 h2.2
theorem fin_X4 : ∀ w ∈ u_ws RX4 TX4 3, w ∈ fz_WA := fun w h => have h2 := (by decide +kernel : ∀ w ∈ u_ws RX4 TX4 3, w ∈ lw_tbl ∧ goodWord w = true) w h; fz_in h2.1 h2.2
theorem fin_X5 : ∀ w ∈ u_ws RX5 TX5 5, w ∈ fz_WA := fun w h => have h2 := (by decide +kernel : ∀ w ∈ u_ws RX5 TX5 5, w ∈ lw_tbl ∧ goodWord w = true) w h; fz_in h2.1 h2.2
theorem fin_X6 : ∀ w ∈ u_ws RX6 TX6 3, w ∈ fz_WA := fun w h => have h2 := (by decide +kernel : ∀ w ∈ u_ws RX6 TX6 3, w ∈ lw_tbl ∧ goodWord w = true) w h; fz_in h2.1 h2.2
theorem fin_X7 : ∀ w ∈ u_ws RX7 TX7 6, w ∈ fz_WA := fun w h => have h2 := (by decide +kernel : ∀ w ∈ u_ws RX7 TX7 6, w ∈ lw_tbl ∧ goodWord w = true) w h; fz_in h2.1 h2.2
theorem fin_X8 : ∀ w ∈ u_ws RX8 TX8 10, w ∈ fz_WA := fun w h => have h2 := (by decide +kernel : ∀ w ∈ u_ws RX8 TX8 10, w ∈ lw_tbl ∧ goodWord w = true) w h; fz_in h2.1 h2.2
theorem fin_X9 : ∀ w ∈ u_ws RX9 TX9 8, w ∈ fz_WA := fun w h => have h2 := (by decide +kernel : ∀ w ∈ u_ws RX9 TX9 8, w ∈ lw_tbl ∧ goodWord w = true) w h; fz_in h2.1 h2.2
theorem fin_X10 : ∀ w ∈ u_ws RX10 TX10 22, w ∈ fz_WA := fun w h => have h2 := (by decide +kernel : ∀ w ∈ u_ws RX10 TX10 22, w ∈ lw_tbl ∧ goodWord w = true) w h; fz_in h2.1 h2.2
def fz_tys (k : Nat → ClassId) : List (ClassId × FieldType) := [(k 0, .int), (k 1, .char), (k 2, .byte), (k 3, .object "FindingAid$State"), (k 4, .array .int), (k 5, .long), (k 6, .double)]
def fz_WS (k : Nat → ClassId) (q : Nat → Nat) (f : Nat → Nat → Int32) (pa : Nat → Option Nat) (v : Nat → Int32) : va_W := [(q 0, .inr (11, [.ref (q 1), .ref (q 10), .ref (q 14), .ref (q 23), .ref (q 26), .int (v 0)])), (q 1, .inr (12, [.int (v 1), .int (v 2), .ref (q 2), .ref (q 3), .ref (q 4), .ref (q 5), .ref (q 6), .ref (q 7), .ref (q 8), .ref (q 9)])), (q 2, .inl (k 0, 40, .inl (f 2))), (q 3, .inl (k 0, 40, .inl (f 3))), (q 4, .inl (k 0, 40, .inl (f 4))), (q 5, .inl (k 0, 40, .inl (f 5))), (q 6, .inl (k 0, 40, .inl (f 6))), (q 7, .inl (k 0, 40, .inl (f 7))), (q 8, .inl (k 0, 40, .inl (f 8))), (q 9, .inl (k 0, 40, .inl (f 9))), (q 10, .inr (10, [.ref (q 11), .ref (q 12), .ref (q 13)])), (q 11, .inl (k 0, 40, .inl (f 11))), (q 12, .inl (k 0, 40, .inl (f 12))), (q 13, .inl (k 0, 800, .inl (f 13))), (q 14, .inr (4, [.int (v 3), .int (v 4), .int (v 5), .ref (q 15), .ref (q 16), .ref (q 17), .ref (q 18), .ref (q 19), .ref (q 20)])), (q 15, .inl (k 0, 30, .inl (f 15))), (q 16, .inl (k 0, 30, .inl (f 16))), (q 17, .inl (k 0, 40, .inl (f 17))), (q 18, .inl (k 0, 40, .inl (f 18))), (q 19, .inl (k 0, 40, .inl (f 19))), (q 20, .inr (7, [.int (v 6), .ref (q 21), .ref (q 22)])), (q 21, .inl (k 0, 64, .inl (f 21))), (q 22, .inl (k 0, 64, .inl (f 22))), (q 23, .inr (5, [.int (v 7), .ref (q 24), .ref (q 25)])), (q 24, .inl (k 0, 16, .inl (f 24))), (q 25, .inl (k 0, 16, .inl (f 25))), (q 26, .inr (9, [.int (v 8), .ref (q 27), .ref (q 28), .ref (q 29), .ref (q 30)])), (q 27, .inl (k 0, 30, .inl (f 27))), (q 28, .inl (k 0, 30, .inl (f 28))), (q 29, .inl (k 0, 30, .inl (f 29))), (q 30, .inl (k 0, 30, .inl (f 30)))]
def fz_WC (k : Nat → ClassId) (q : Nat → Nat) (f : Nat → Nat → Int32) (pa : Nat → Option Nat) (v : Nat → Int32) : va_W := [(q 0, .inr (11, [.ref (q 1), .ref (q 10), .ref (q 14), .ref (q 23), .ref (q 26), .int (v 0)])), (q 1, .inr (12, [.int (v 1), .int (v 2), .ref (q 2), .ref (q 3), .ref (q 4), .ref (q 5), .ref (q 6), .ref (q 7), .ref (q 8), .ref (q 9)])), (q 2, .inl (k 0, 40, .inl (f 2))), (q 3, .inl (k 0, 40, .inl (f 3))), (q 4, .inl (k 0, 40, .inl (f 4))), (q 5, .inl (k 0, 40, .inl (f 5))), (q 6, .inl (k 0, 40, .inl (f 6))), (q 7, .inl (k 0, 40, .inl (f 7))), (q 8, .inl (k 0, 40, .inl (f 8))), (q 9, .inl (k 0, 40, .inl (f 9))), (q 10, .inr (10, [.ref (q 11), .ref (q 12), .ref (q 13)])), (q 11, .inl (k 0, 40, .inl (f 11))), (q 12, .inl (k 0, 40, .inl (f 12))), (q 13, .inl (k 0, 800, .inl (f 13))), (q 14, .inr (4, [.int (v 3), .int (v 4), .int (v 5), .ref (q 15), .ref (q 16), .ref (q 17), .ref (q 18), .ref (q 19), .ref (q 20)])), (q 15, .inl (k 0, 30, .inl (f 15))), (q 16, .inl (k 0, 30, .inl (f 16))), (q 17, .inl (k 0, 40, .inl (f 17))), (q 18, .inl (k 0, 40, .inl (f 18))), (q 19, .inl (k 0, 40, .inl (f 19))), (q 20, .inr (7, [.int (v 6), .ref (q 21), .ref (q 22)])), (q 21, .inl (k 0, 64, .inl (f 21))), (q 22, .inl (k 0, 64, .inl (f 22))), (q 23, .inr (5, [.int (v 7), .ref (q 24), .ref (q 25)])), (q 24, .inl (k 0, 16, .inl (f 24))), (q 25, .inl (k 0, 16, .inl (f 25))), (q 26, .inr (9, [.int (v 8), .ref (q 27), .ref (q 28), .ref (q 29), .ref (q 30)])), (q 27, .inl (k 0, 30, .inl (f 27))), (q 28, .inl (k 0, 30, .inl (f 28))), (q 29, .inl (k 0, 30, .inl (f 29))), (q 30, .inl (k 0, 30, .inl (f 30))), (q 31, .inr (13, [.ref (q 0), .ref (q 32), .int (v 9), .int (v 10), va_rf (pa 8), .ref (q 33), .ref (q 34), .ref (q 35)])), (q 32, .inl (k 3, 8, .inr (.inr (.inr (.inr pa))))), (q 33, .inr (8, [.int (v 11), .ref (q 38), .ref (q 39)])), (q 34, .inr (6, [.int (v 12), .int (v 13), .ref (q 40), .ref (q 41), .ref (q 42), .ref (q 43), .ref (q 44), .ref (q 36), .int (v 14)])), (q 35, .inr (1, [.ref (q 37), .int (v 15), .int (v 16), .int (v 17)])), (q 36, .inl (k 1, 100, .inl (f 36))), (q 37, .inl (k 2, 16, .inl (f 37)))]
def fz_WM (k : Nat → ClassId) (q : Nat → Nat) (f : Nat → Nat → Int32) (pa : Nat → Option Nat) (v : Nat → Int32) : va_W := [(q 0, .inr (14, [.int (v 0), .ref (q 1), .ref (q 2), .ref (q 3), .ref (q 4), .int (v 5), .int (v 6), .int (v 7), .int (v 8), .int (v 9), .int (v 10), .int (v 11), .int (v 12), .int (v 13), .ref (q 5), .int (v 15), .int (v 16), .int (v 17), .int (v 18), .int (v 19), .ref (q 6), .int (v 21)])), (q 1, .inl (k 0, 10535, .inl (f 1))), (q 2, .inl (k 0, 10535, .inl (f 2))), (q 3, .inl (k 0, 10535, .inl (f 3))), (q 4, .inl (k 4, 8, .inr (.inr (.inr (.inr pa))))), (q 5, .inl (k 1, 100, .inl (f 5))), (q 6, .inl (k 1, 900, .inl (f 6))), (q 7, .inl (k 0, 10535, .inl (f 7)))]
def fz_EN : List String := ["java/lang/RuntimeException", "java/lang/Exception"]
theorem fz_fit_165 : Bundle.fit "java/lang/IndexOutOfBoundsException" = true ∧ ∀ n ∈ fz_EN, Bundle.fit n = true := by decide +kernel
theorem fz_at_165 : ∀ w ∈ vx_atS RX9 165 "java/lang/IndexOutOfBoundsException" fz_EN, w ∈ lw_tbl ∧ (goodWord w || fz_kind w) = true := by decide +kernel
theorem fz_ok_165 : ∀ w ∈ Cond.classLink RX9 161 "java/lang/IndexOutOfBoundsException" :: Cond.initialized "java/lang/IndexOutOfBoundsException" :: vx_atS RX9 165 "java/lang/IndexOutOfBoundsException" fz_EN, vx_ot w = true := by decide +kernel
theorem fz_fit_73 : Bundle.fit "java/lang/IllegalArgumentException" = true ∧ ∀ n ∈ fz_EN, Bundle.fit n = true := by decide +kernel
theorem fz_at_73 : ∀ w ∈ vx_atS RX9 73 "java/lang/IllegalArgumentException" fz_EN, w ∈ lw_tbl ∧ (goodWord w || fz_kind w) = true := by decide +kernel
theorem fz_ok_73 : ∀ w ∈ Cond.classLink RX9 69 "java/lang/IllegalArgumentException" :: Cond.initialized "java/lang/IllegalArgumentException" :: vx_atS RX9 73 "java/lang/IllegalArgumentException" fz_EN, vx_ot w = true := by decide +kernel
theorem fm_0 : Cond.fieldLink RX8 9 "FindingAid$Tree" "made" "I" ∈ fz_WA := fz_in (fz_tin 58 (by decide +kernel)) (by decide +kernel)
theorem fm_1 : Cond.fieldLink RX8 25 "FindingAid$Tree" "kind" "[I" ∈ fz_WA := fz_in (fz_tin 67 (by decide +kernel)) (by decide +kernel)
theorem fm_2 : Cond.fieldLink RX8 15 "FindingAid$Tree" "size" "I" ∈ fz_WA := fz_in (fz_tin 60 (by decide +kernel)) (by decide +kernel)
theorem fm_3 : Cond.fieldLink RX9 10 "FindingAid" "now" "LFindingAid$State;" ∈ fz_WA := fz_in (fz_tin 358 (by decide +kernel)) (by decide +kernel)
theorem fm_4 : Cond.fieldLink RX9 55 "FindingAid$State" "tree" "LFindingAid$Tree;" ∈ fz_WA := fz_in (fz_tin 239 (by decide +kernel)) (by decide +kernel)
theorem fm_5 : Cond.code yX8_has cX8_has 2 (some .boolean) ∈ fz_WA := fz_in (fz_tin 585 (by decide +kernel)) (by decide +kernel)
theorem fm_6 : Cond.methodLink RX9 284 yX8_has ∈ fz_WA := fz_in (fz_tin 582 (by decide +kernel)) (by decide +kernel)
theorem fm_7 : Cond.instanceMethod yX8_has ∈ fz_WA := fz_in (fz_tin 583 (by decide +kernel)) (by decide +kernel)
theorem fm_8 : Cond.selects RX8 yX8_has yX8_has ∈ fz_WA := fz_in (fz_tin 584 (by decide +kernel)) (by decide +kernel)
theorem fm_9 : Cond.initialized RX8 ∈ fz_WA := fz_in (fz_tin 3 (by decide +kernel)) (by decide +kernel)
theorem fm_10 : Cond.classLink RX9 161 "java/lang/IndexOutOfBoundsException" ∈ fz_WA := fz_in (fz_tin 586 (by decide +kernel)) (by decide +kernel)
theorem fm_11 : Cond.initialized "java/lang/IndexOutOfBoundsException" ∈ fz_WA := fz_in (fz_tin 20 (by decide +kernel)) (by decide +kernel)
theorem fm_12 : Cond.classLink RX9 69 "java/lang/IllegalArgumentException" ∈ fz_WA := fz_in (fz_tin 605 (by decide +kernel)) (by decide +kernel)
theorem fm_13 : Cond.initialized "java/lang/IllegalArgumentException" ∈ fz_WA := fz_in (fz_tin 22 (by decide +kernel)) (by decide +kernel)
theorem fm_14 : Cond.fieldLink RX8 28 "FindingAid$Tree" "parent" "[I" ∈ fz_WA := fz_in (fz_tin 69 (by decide +kernel)) (by decide +kernel)
theorem fm_15 : Cond.fieldLink RX8 18 "FindingAid$Tree" "line" "[I" ∈ fz_WA := fz_in (fz_tin 63 (by decide +kernel)) (by decide +kernel)
theorem fm_16 : Cond.code yX9_requireNode cX9_requireNode 2 none ∈ fz_WA := fz_in (fz_tin 581 (by decide +kernel)) (by decide +kernel)
theorem fm_17 : Cond.methodLink RX9 51 yX9_requireNode ∈ fz_WA := fz_in (fz_tin 578 (by decide +kernel)) (by decide +kernel)
theorem fm_18 : Cond.instanceMethod yX9_requireNode ∈ fz_WA := fz_in (fz_tin 580 (by decide +kernel)) (by decide +kernel)
theorem fm_19 : Cond.selects RX9 yX9_requireNode yX9_requireNode ∈ fz_WA := fz_in (fz_sin 2 (by decide +kernel)) (by decide +kernel)
theorem fm_20 : Cond.initialized RX9 ∈ fz_WA := fz_in (fz_tin 1 (by decide +kernel)) (by decide +kernel)
theorem fm_21 : Cond.code yX8_findChild cX8_findChild 5 (some .int) ∈ fz_WA := fz_in (fz_tin 733 (by decide +kernel)) (by decide +kernel)
theorem fm_22 : Cond.methodLink RX9 157 yX8_findChild ∈ fz_WA := fz_in (fz_tin 730 (by decide +kernel)) (by decide +kernel)
theorem fm_23 : Cond.instanceMethod yX8_findChild ∈ fz_WA := fz_in (fz_tin 731 (by decide +kernel)) (by decide +kernel)
theorem fm_24 : Cond.selects RX8 yX8_findChild yX8_findChild ∈ fz_WA := fz_in (fz_tin 732 (by decide +kernel)) (by decide +kernel)
theorem dX8_has_0 : decode cX8_has 0 = .ok (.iload_n 1, 1) := by decide +kernel
theorem dX8_has_1 : decode cX8_has 1 = .ok (.ifCond .lt 25, 3) := by decide +kernel
theorem dX8_has_26 : decode cX8_has 26 = .ok (.iconst 0, 1) := by decide +kernel
theorem dX8_has_27 : decode cX8_has 27 = .ok (.ireturn, 1) := by decide +kernel
theorem dX8_has_4 : decode cX8_has 4 = .ok (.iload_n 1, 1) := by decide +kernel
theorem dX8_has_5 : decode cX8_has 5 = .ok (.aload_n 0, 1) := by decide +kernel
theorem dX8_has_6 : decode cX8_has 6 = .ok (.getfield 9, 3) := by decide +kernel
theorem dX8_has_9 : decode cX8_has 9 = .ok (.if_icmp .ge 17, 3) := by decide +kernel
theorem dX8_has_12 : decode cX8_has 12 = .ok (.aload_n 0, 1) := by decide +kernel
theorem dX8_has_13 : decode cX8_has 13 = .ok (.getfield 25, 3) := by decide +kernel
theorem dX8_has_16 : decode cX8_has 16 = .ok (.iload_n 1, 1) := by decide +kernel
theorem dX8_has_17 : decode cX8_has 17 = .ok (.iaload, 1) := by decide +kernel
theorem dX8_has_18 : decode cX8_has 18 = .ok (.iconst (-1), 1) := by decide +kernel
theorem dX8_has_19 : decode cX8_has 19 = .ok (.if_icmp .eq 7, 3) := by decide +kernel
theorem dX8_has_22 : decode cX8_has 22 = .ok (.iconst 1, 1) := by decide +kernel
theorem dX8_has_23 : decode cX8_has 23 = .ok (.goto 4, 3) := by decide +kernel
theorem dX8_place_0 : decode cX8_place 0 = .ok (.iconst 0, 1) := by decide +kernel
theorem dX8_place_1 : decode cX8_place 1 = .ok (.istore_n 2, 1) := by decide +kernel
theorem dX8_place_2 : decode cX8_place 2 = .ok (.iload_n 2, 1) := by decide +kernel
theorem dX8_place_3 : decode cX8_place 3 = .ok (.aload_n 0, 1) := by decide +kernel
theorem dX8_place_4 : decode cX8_place 4 = .ok (.getfield 15, 3) := by decide +kernel
theorem dX8_place_7 : decode cX8_place 7 = .ok (.iconst 1, 1) := by decide +kernel
theorem dX8_place_8 : decode cX8_place 8 = .ok (.isub, 1) := by decide +kernel
theorem dX8_place_9 : decode cX8_place 9 = .ok (.if_icmp .ge 19, 3) := by decide +kernel
theorem dX8_place_28 : decode cX8_place 28 = .ok (.iload_n 2, 1) := by decide +kernel
theorem dX8_place_29 : decode cX8_place 29 = .ok (.ireturn, 1) := by decide +kernel
theorem dX9_requireNode_0 : decode cX9_requireNode 0 = .ok (.aload_n 0, 1) := by decide +kernel
theorem dX9_requireNode_1 : decode cX9_requireNode 1 = .ok (.getfield 10, 3) := by decide +kernel
theorem dX9_requireNode_4 : decode cX9_requireNode 4 = .ok (.getfield 55, 3) := by decide +kernel
theorem dX9_requireNode_7 : decode cX9_requireNode 7 = .ok (.iload_n 1, 1) := by decide +kernel
theorem dX9_requireNode_8 : decode cX9_requireNode 8 = .ok (.invokevirtual 284, 3) := by decide +kernel
theorem dX9_requireNode_11 : decode cX9_requireNode 11 = .ok (.ifCond .ne 14, 3) := by decide +kernel
theorem dX9_requireNode_25 : decode cX9_requireNode 25 = .ok (.return_, 1) := by decide +kernel
theorem dX9_requireNode_14 : decode cX9_requireNode 14 = .ok (.new 161, 3) := by decide +kernel
theorem dX9_requireNode_17 : decode cX9_requireNode 17 = .ok (.dup, 1) := by decide +kernel
theorem dX9_requireNode_18 : decode cX9_requireNode 18 = .ok (.ldc_w 491, 3) := by decide +kernel
theorem dX9_requireNode_21 : decode cX9_requireNode 21 = .ok (.invokespecial 165, 3) := by decide +kernel
theorem dX9_requireNode_24 : decode cX9_requireNode 24 = .ok (.athrow, 1) := by decide +kernel
theorem dX9_requirePart_0 : decode cX9_requirePart 0 = .ok (.iload_n 0, 1) := by decide +kernel
theorem dX9_requirePart_1 : decode cX9_requirePart 1 = .ok (.ifCond .lt 8, 3) := by decide +kernel
theorem dX9_requirePart_9 : decode cX9_requirePart 9 = .ok (.new 69, 3) := by decide +kernel
theorem dX9_requirePart_12 : decode cX9_requirePart 12 = .ok (.dup, 1) := by decide +kernel
theorem dX9_requirePart_13 : decode cX9_requirePart 13 = .ok (.ldc_w 503, 3) := by decide +kernel
theorem dX9_requirePart_16 : decode cX9_requirePart 16 = .ok (.invokespecial 73, 3) := by decide +kernel
theorem dX9_requirePart_19 : decode cX9_requirePart 19 = .ok (.athrow, 1) := by decide +kernel
theorem dX9_requirePart_4 : decode cX9_requirePart 4 = .ok (.iload_n 0, 1) := by decide +kernel
theorem dX9_requirePart_5 : decode cX9_requirePart 5 = .ok (.iload_n 1, 1) := by decide +kernel
theorem dX9_requirePart_6 : decode cX9_requirePart 6 = .ok (.if_icmp .le 14, 3) := by decide +kernel
theorem dX9_requirePart_20 : decode cX9_requirePart 20 = .ok (.return_, 1) := by decide +kernel
theorem dX8_findChild_0 : decode cX8_findChild 0 = .ok (.iconst 0, 1) := by decide +kernel
theorem dX8_findChild_1 : decode cX8_findChild 1 = .ok (.istore_n 3, 1) := by decide +kernel
theorem dX8_findChild_2 : decode cX8_findChild 2 = .ok (.iconst 0, 1) := by decide +kernel
theorem dX8_findChild_3 : decode cX8_findChild 3 = .ok (.istore 4, 2) := by decide +kernel
theorem dX8_findChild_5 : decode cX8_findChild 5 = .ok (.iload 4, 2) := by decide +kernel
theorem dX8_findChild_7 : decode cX8_findChild 7 = .ok (.aload_n 0, 1) := by decide +kernel
theorem dX8_findChild_8 : decode cX8_findChild 8 = .ok (.getfield 15, 3) := by decide +kernel
theorem dX8_findChild_11 : decode cX8_findChild 11 = .ok (.if_icmp .ge 41, 3) := by decide +kernel
theorem dX8_findChild_14 : decode cX8_findChild 14 = .ok (.aload_n 0, 1) := by decide +kernel
theorem dX8_findChild_15 : decode cX8_findChild 15 = .ok (.getfield 28, 3) := by decide +kernel
theorem dX8_findChild_18 : decode cX8_findChild 18 = .ok (.aload_n 0, 1) := by decide +kernel
theorem dX8_findChild_19 : decode cX8_findChild 19 = .ok (.getfield 18, 3) := by decide +kernel
theorem dX8_findChild_22 : decode cX8_findChild 22 = .ok (.iload 4, 2) := by decide +kernel
theorem dX8_findChild_24 : decode cX8_findChild 24 = .ok (.iaload, 1) := by decide +kernel
theorem dX8_findChild_25 : decode cX8_findChild 25 = .ok (.iaload, 1) := by decide +kernel
theorem dX8_findChild_26 : decode cX8_findChild 26 = .ok (.iload_n 1, 1) := by decide +kernel
theorem dX8_findChild_27 : decode cX8_findChild 27 = .ok (.if_icmp .ne 19, 3) := by decide +kernel
theorem dX8_findChild_46 : decode cX8_findChild 46 = .ok (.iinc 4 1, 3) := by decide +kernel
theorem dX8_findChild_49 : decode cX8_findChild 49 = .ok (.goto (-44), 3) := by decide +kernel
theorem dX8_findChild_52 : decode cX8_findChild 52 = .ok (.iconst (-1), 1) := by decide +kernel
theorem dX8_findChild_53 : decode cX8_findChild 53 = .ok (.ireturn, 1) := by decide +kernel
theorem dX9_child_0 : decode cX9_child 0 = .ok (.aload_n 0, 1) := by decide +kernel
theorem dX9_child_1 : decode cX9_child 1 = .ok (.iload_n 1, 1) := by decide +kernel
theorem dX9_child_2 : decode cX9_child 2 = .ok (.invokevirtual 51, 3) := by decide +kernel
theorem dX9_child_5 : decode cX9_child 5 = .ok (.aload_n 0, 1) := by decide +kernel
theorem dX9_child_6 : decode cX9_child 6 = .ok (.getfield 10, 3) := by decide +kernel
theorem dX9_child_9 : decode cX9_child 9 = .ok (.getfield 55, 3) := by decide +kernel
theorem dX9_child_12 : decode cX9_child 12 = .ok (.iload_n 1, 1) := by decide +kernel
theorem dX9_child_13 : decode cX9_child 13 = .ok (.iload_n 2, 1) := by decide +kernel
theorem dX9_child_14 : decode cX9_child 14 = .ok (.invokevirtual 157, 3) := by decide +kernel
theorem dX9_child_17 : decode cX9_child 17 = .ok (.istore_n 3, 1) := by decide +kernel
theorem dX9_child_18 : decode cX9_child 18 = .ok (.iload_n 3, 1) := by decide +kernel
theorem dX9_child_19 : decode cX9_child 19 = .ok (.iconst (-1), 1) := by decide +kernel
theorem dX9_child_20 : decode cX9_child 20 = .ok (.if_icmp .ne 13, 3) := by decide +kernel
theorem dX9_child_23 : decode cX9_child 23 = .ok (.new 161, 3) := by decide +kernel
theorem dX9_child_26 : decode cX9_child 26 = .ok (.dup, 1) := by decide +kernel
theorem dX9_child_27 : decode cX9_child 27 = .ok (.ldc 163, 2) := by decide +kernel
theorem dX9_child_29 : decode cX9_child 29 = .ok (.invokespecial 165, 3) := by decide +kernel
theorem dX9_child_32 : decode cX9_child 32 = .ok (.athrow, 1) := by decide +kernel
theorem fz_lt (a b : Int32) : a < b ↔ a.toInt < b.toInt := Int32.lt_iff_toInt_lt
theorem fz_le (a b : Int32) : a ≤ b ↔ a.toInt ≤ b.toInt := Int32.le_iff_toInt_le
theorem fz_eq (a b : Int32) : a = b ↔ a.toInt = b.toInt := Int32.toInt_inj.symm
theorem fl_0 : (0 : Int32).toInt = 0 := by decide
theorem fl_1 : (1 : Int32).toInt = 1 := by decide
theorem fq_0 (x0 : Int32) (h0 : x0 < 0) : ¬ (x0 = 0) := by first | decide | (simp only [fz_lt, fz_le, fz_eq, fl_0, fl_1] at *; omega) | (simp only [fz_lt, fz_le, fz_eq, fl_0, fl_1] at *; done) | omega
theorem fq_1 (x0 : Int32) (h0 : 1 ≤ x0) : ¬ (x0 = 0) := by first | decide | (simp only [fz_lt, fz_le, fz_eq, fl_0, fl_1] at *; omega) | (simp only [fz_lt, fz_le, fz_eq, fl_0, fl_1] at *; done) | omega
theorem fq_2 (x0 : Int32) (h0 : ¬ (x0 < 0)) (h1 : ¬ (1 ≤ x0)) : x0 = 0 := by first | decide | (simp only [fz_lt, fz_le, fz_eq, fl_0, fl_1] at *; omega) | (simp only [fz_lt, fz_le, fz_eq, fl_0, fl_1] at *; done) | omega
theorem fq_3  : (0 : Int32) = 0 := by first | decide | (simp only [fz_lt, fz_le, fz_eq, fl_0, fl_1] at *; omega) | (simp only [fz_lt, fz_le, fz_eq, fl_0, fl_1] at *; done) | omega
theorem fq_4 (x0 : Int32) (h0 : x0 = 0) : x0 = 0 := by first | decide | (simp only [fz_lt, fz_le, fz_eq, fl_0, fl_1] at *; omega) | (simp only [fz_lt, fz_le, fz_eq, fl_0, fl_1] at *; done) | omega
theorem fq_5 (x0 : Int32) (h0 : ¬ (x0 = 0)) : ¬ (x0 = 0) := by first | decide | (simp only [fz_lt, fz_le, fz_eq, fl_0, fl_1] at *; omega) | (simp only [fz_lt, fz_le, fz_eq, fl_0, fl_1] at *; done) | omega
theorem fq_6 (x0 x1 : Int32) (h0 : x0 < 0) : (x0 < 0 ∨ x1 < x0) := by first | decide | (simp only [fz_lt, fz_le, fz_eq, fl_0, fl_1] at *; omega) | (simp only [fz_lt, fz_le, fz_eq, fl_0, fl_1] at *; done) | omega
theorem fq_7 (x0 x1 : Int32) (h0 : ¬ (x0 < 0)) (h1 : x0 ≤ x1) : (0 ≤ x0 ∧ x0 ≤ x1) := by first | decide | (simp only [fz_lt, fz_le, fz_eq, fl_0, fl_1] at *; omega) | (simp only [fz_lt, fz_le, fz_eq, fl_0, fl_1] at *; done) | omega
theorem fq_8 (x0 x1 : Int32) (h0 : ¬ (x0 ≤ x1)) : (x0 < 0 ∨ x1 < x0) := by first | decide | (simp only [fz_lt, fz_le, fz_eq, fl_0, fl_1] at *; omega) | (simp only [fz_lt, fz_le, fz_eq, fl_0, fl_1] at *; done) | omega

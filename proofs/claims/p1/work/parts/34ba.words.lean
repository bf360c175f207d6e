theorem fm_1029 : Cond.code yX3_unitOf cX3_unitOf 5 (some .int) ∈ fz_WA := fz_in (fz_tin 955 (by decide +kernel)) (by decide +kernel)
theorem fm_1030 : Cond.methodLink RX9 281 yX3_unitOf ∈ fz_WA := fz_in (fz_tin 952 (by decide +kernel)) (by decide +kernel)
theorem fm_1031 : Cond.instanceMethod yX3_unitOf ∈ fz_WA := fz_in (fz_tin 953 (by decide +kernel)) (by decide +kernel)
theorem fm_1032 : Cond.selects RX3 yX3_unitOf yX3_unitOf ∈ fz_WA := fz_in (fz_tin 954 (by decide +kernel)) (by decide +kernel)
theorem fm_1033 : Cond.classLink RX9 210 "java/util/NoSuchElementException" ∈ fz_WA := fz_in (fz_tin 799 (by decide +kernel)) (by decide +kernel)
theorem fm_1034 : Cond.initialized "java/util/NoSuchElementException" ∈ fz_WA := fz_in (fz_tin 26 (by decide +kernel)) (by decide +kernel)
theorem fm_1035 : Cond.fieldLink RX9 421 "FindingAid$Report" "levels" "I" ∈ fz_WA := fz_in (fz_tin 271 (by decide +kernel)) (by decide +kernel)
theorem dX9_resolve_0 : decode cX9_resolve 0 = .ok (.aload_n 0, 1) := by decide +kernel
theorem dX9_resolve_1 : decode cX9_resolve 1 = .ok (.getfield 10, 3) := by decide +kernel
theorem dX9_resolve_4 : decode cX9_resolve 4 = .ok (.getfield 136, 3) := by decide +kernel
theorem dX9_resolve_7 : decode cX9_resolve 7 = .ok (.getfield 239, 3) := by decide +kernel
theorem dX9_resolve_10 : decode cX9_resolve 10 = .ok (.iload_n 1, 1) := by decide +kernel
theorem dX9_resolve_11 : decode cX9_resolve 11 = .ok (.iload_n 2, 1) := by decide +kernel
theorem dX9_resolve_12 : decode cX9_resolve 12 = .ok (.invokevirtual 281, 3) := by decide +kernel
theorem dX9_resolve_15 : decode cX9_resolve 15 = .ok (.istore_n 3, 1) := by decide +kernel
theorem dX9_resolve_16 : decode cX9_resolve 16 = .ok (.aload_n 0, 1) := by decide +kernel
theorem dX9_resolve_17 : decode cX9_resolve 17 = .ok (.getfield 10, 3) := by decide +kernel
theorem dX9_resolve_20 : decode cX9_resolve 20 = .ok (.getfield 55, 3) := by decide +kernel
theorem dX9_resolve_23 : decode cX9_resolve 23 = .ok (.iload_n 3, 1) := by decide +kernel
theorem dX9_resolve_24 : decode cX9_resolve 24 = .ok (.invokevirtual 284, 3) := by decide +kernel
theorem dX9_resolve_27 : decode cX9_resolve 27 = .ok (.ifCond .ne 14, 3) := by decide +kernel
theorem dX9_resolve_30 : decode cX9_resolve 30 = .ok (.new 210, 3) := by decide +kernel
theorem dX9_resolve_33 : decode cX9_resolve 33 = .ok (.dup, 1) := by decide +kernel
theorem dX9_resolve_34 : decode cX9_resolve 34 = .ok (.ldc_w 287, 3) := by decide +kernel
theorem dX9_resolve_37 : decode cX9_resolve 37 = .ok (.invokespecial 214, 3) := by decide +kernel
theorem dX9_resolve_40 : decode cX9_resolve 40 = .ok (.athrow, 1) := by decide +kernel
theorem dX9_report_0 : decode cX9_report 0 = .ok (.iload_n 1, 1) := by decide +kernel
theorem dX9_report_1 : decode cX9_report 1 = .ok (.ifCond .lt 14, 3) := by decide +kernel
theorem dX9_report_15 : decode cX9_report 15 = .ok (.new 210, 3) := by decide +kernel
theorem dX9_report_18 : decode cX9_report 18 = .ok (.dup, 1) := by decide +kernel
theorem dX9_report_19 : decode cX9_report 19 = .ok (.ldc_w 424, 3) := by decide +kernel
theorem dX9_report_22 : decode cX9_report 22 = .ok (.invokespecial 214, 3) := by decide +kernel
theorem dX9_report_25 : decode cX9_report 25 = .ok (.athrow, 1) := by decide +kernel
theorem dX9_report_4 : decode cX9_report 4 = .ok (.iload_n 1, 1) := by decide +kernel
theorem dX9_report_5 : decode cX9_report 5 = .ok (.aload_n 0, 1) := by decide +kernel
theorem dX9_report_6 : decode cX9_report 6 = .ok (.getfield 33, 3) := by decide +kernel
theorem dX9_report_9 : decode cX9_report 9 = .ok (.getfield 421, 3) := by decide +kernel
theorem dX9_report_12 : decode cX9_report 12 = .ok (.if_icmp .lt 14, 3) := by decide +kernel
theorem fq_254 (h0 : ((-1) : Int32) = 0) : False := by first | decide | (simp only [fz_lt, fz_le, fz_eq, true_and, and_true, false_and, and_false, true_or, or_true, false_or, or_false, not_true_eq_false, not_false_eq_true, fl_m1, fl_0, fl_1, fl_2, fl_3, fl_4, fl_5, fl_6, fl_7, fl_8, fl_9, fl_10, fl_11, fl_20, fl_200, fl_5000, fl_9999] at *; omega) | (simp only [fz_lt, fz_le, fz_eq, true_and, and_true, false_and, and_false, true_or, or_true, false_or, or_false, not_true_eq_false, not_false_eq_true, fl_m1, fl_0, fl_1, fl_2, fl_3, fl_4, fl_5, fl_6, fl_7, fl_8, fl_9, fl_10, fl_11, fl_20, fl_200, fl_5000, fl_9999] at *; done) | omega

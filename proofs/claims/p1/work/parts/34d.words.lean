theorem fm_1036 : Cond.codeWith yL_resolve cL_resolve 5 (some .int) [(0, 10, 13, 49)] ∈ fz_WA := fz_in (fz_tin 947 (by decide +kernel)) (by decide +kernel)
theorem fm_1037 : Cond.code yX9_resolve cX9_resolve 4 (some .int) ∈ fz_WA := fz_in (fz_tin 951 (by decide +kernel)) (by decide +kernel)
theorem fm_1038 : Cond.methodLink RL 72 yX9_resolve ∈ fz_WA := fz_in (fz_tin 948 (by decide +kernel)) (by decide +kernel)
theorem fm_1039 : Cond.instanceMethod yX9_resolve ∈ fz_WA := fz_in (fz_tin 949 (by decide +kernel)) (by decide +kernel)
theorem fm_1040 : Cond.selects RX9 yX9_resolve yX9_resolve ∈ fz_WA := fz_in (fz_tin 950 (by decide +kernel)) (by decide +kernel)
theorem fm_1041 : Cond.castable "java/util/NoSuchElementException" "java/util/NoSuchElementException" ∈ lw_tbl := fz_tin 801 (by decide +kernel)
theorem fm_1042 : Cond.classLink RL 49 "java/util/NoSuchElementException" ∈ fz_WA := fz_in (fz_tin 777 (by decide +kernel)) (by decide +kernel)
theorem fm_1043 : Cond.codeWith yL_report cL_report 5 (some .int) [(0, 10, 13, 49), (0, 10, 17, 15)] ∈ fz_WA := fz_in (fz_tin 1169 (by decide +kernel)) (by decide +kernel)
theorem fm_1044 : Cond.code yX9_report cX9_report 3 (some .int) ∈ fz_WA := fz_in (fz_tin 1173 (by decide +kernel)) (by decide +kernel)
theorem fm_1045 : Cond.methodLink RL 107 yX9_report ∈ fz_WA := fz_in (fz_tin 1170 (by decide +kernel)) (by decide +kernel)
theorem fm_1046 : Cond.instanceMethod yX9_report ∈ fz_WA := fz_in (fz_tin 1171 (by decide +kernel)) (by decide +kernel)
theorem fm_1047 : Cond.selects RX9 yX9_report yX9_report ∈ fz_WA := fz_in (fz_tin 1172 (by decide +kernel)) (by decide +kernel)
theorem dL_resolve_0 : decode cL_resolve 0 = .ok (.aload_n 3, 1) := by decide +kernel
theorem dL_resolve_1 : decode cL_resolve 1 = .ok (.iconst 0, 1) := by decide +kernel
theorem dL_resolve_2 : decode cL_resolve 2 = .ok (.aload_n 0, 1) := by decide +kernel
theorem dL_resolve_3 : decode cL_resolve 3 = .ok (.iload_n 1, 1) := by decide +kernel
theorem dL_resolve_4 : decode cL_resolve 4 = .ok (.iload_n 2, 1) := by decide +kernel
theorem dL_resolve_5 : decode cL_resolve 5 = .ok (.invokevirtual 72, 3) := by decide +kernel
theorem dL_resolve_13 : decode cL_resolve 13 = .ok (.astore 4, 2) := by decide +kernel
theorem dL_resolve_15 : decode cL_resolve 15 = .ok (.iconst 1, 1) := by decide +kernel
theorem dL_resolve_16 : decode cL_resolve 16 = .ok (.ireturn, 1) := by decide +kernel
theorem dL_report_0 : decode cL_report 0 = .ok (.aload_n 3, 1) := by decide +kernel
theorem dL_report_1 : decode cL_report 1 = .ok (.iconst 0, 1) := by decide +kernel
theorem dL_report_2 : decode cL_report 2 = .ok (.aload_n 0, 1) := by decide +kernel
theorem dL_report_3 : decode cL_report 3 = .ok (.iload_n 1, 1) := by decide +kernel
theorem dL_report_4 : decode cL_report 4 = .ok (.iload_n 2, 1) := by decide +kernel
theorem dL_report_5 : decode cL_report 5 = .ok (.invokevirtual 107, 3) := by decide +kernel
theorem dL_report_13 : decode cL_report 13 = .ok (.astore 4, 2) := by decide +kernel
theorem dL_report_15 : decode cL_report 15 = .ok (.iconst 1, 1) := by decide +kernel
theorem dL_report_16 : decode cL_report 16 = .ok (.ireturn, 1) := by decide +kernel


theorem fm_1048 : Cond.methodLink RL 195 yL_resolve ∈ fz_WA := fz_in (fz_tin 945 (by decide +kernel)) (by decide +kernel)
theorem fm_1049 : Cond.static yL_resolve ∈ fz_WA := fz_in (fz_tin 946 (by decide +kernel)) (by decide +kernel)
theorem fm_1050 : Cond.code yX10_resolve cX10_resolve 5 (some .int) ∈ fz_WA := fz_in (fz_tin 1884 (by decide +kernel)) (by decide +kernel)
theorem fm_1051 : Cond.methodLink RL 197 yX10_resolve ∈ fz_WA := fz_in (fz_tin 1881 (by decide +kernel)) (by decide +kernel)
theorem fm_1052 : Cond.instanceMethod yX10_resolve ∈ fz_WA := fz_in (fz_tin 1882 (by decide +kernel)) (by decide +kernel)
theorem fm_1053 : Cond.selects RX10 yX10_resolve yX10_resolve ∈ fz_WA := fz_in (fz_tin 1883 (by decide +kernel)) (by decide +kernel)
theorem fm_1054 : Cond.methodLink RL 230 yL_report ∈ fz_WA := fz_in (fz_tin 1167 (by decide +kernel)) (by decide +kernel)
theorem fm_1055 : Cond.static yL_report ∈ fz_WA := fz_in (fz_tin 1168 (by decide +kernel)) (by decide +kernel)
theorem fm_1056 : Cond.code yX10_report cX10_report 3 (some .int) ∈ fz_WA := fz_in (fz_tin 1975 (by decide +kernel)) (by decide +kernel)
theorem fm_1057 : Cond.methodLink RL 232 yX10_report ∈ fz_WA := fz_in (fz_tin 1972 (by decide +kernel)) (by decide +kernel)
theorem fm_1058 : Cond.instanceMethod yX10_report ∈ fz_WA := fz_in (fz_tin 1973 (by decide +kernel)) (by decide +kernel)
theorem fm_1059 : Cond.selects RX10 yX10_report yX10_report ∈ fz_WA := fz_in (fz_tin 1974 (by decide +kernel)) (by decide +kernel)
theorem dL_law_1401 : decode cL_law 1401 = .ok (.istore 6, 2) := by decide +kernel
theorem dL_law_1403 : decode cL_law 1403 = .ok (.aload_n 2, 1) := by decide +kernel
theorem dL_law_1404 : decode cL_law 1404 = .ok (.aload_n 0, 1) := by decide +kernel
theorem dL_law_1405 : decode cL_law 1405 = .ok (.iload 5, 2) := by decide +kernel
theorem dL_law_1407 : decode cL_law 1407 = .ok (.iconst 1, 1) := by decide +kernel
theorem dL_law_1408 : decode cL_law 1408 = .ok (.iadd, 1) := by decide +kernel
theorem dL_law_1409 : decode cL_law 1409 = .ok (.iaload, 1) := by decide +kernel
theorem dL_law_1410 : decode cL_law 1410 = .ok (.aload_n 0, 1) := by decide +kernel
theorem dL_law_1411 : decode cL_law 1411 = .ok (.iload 5, 2) := by decide +kernel
theorem dL_law_1413 : decode cL_law 1413 = .ok (.iconst 2, 1) := by decide +kernel
theorem dL_law_1414 : decode cL_law 1414 = .ok (.iadd, 1) := by decide +kernel
theorem dL_law_1415 : decode cL_law 1415 = .ok (.iaload, 1) := by decide +kernel
theorem dL_law_1416 : decode cL_law 1416 = .ok (.invokevirtual 197, 3) := by decide +kernel
theorem dL_law_1419 : decode cL_law 1419 = .ok (.istore 7, 2) := by decide +kernel
theorem dL_law_1421 : decode cL_law 1421 = .ok (.aload_n 2, 1) := by decide +kernel
theorem dL_law_1422 : decode cL_law 1422 = .ok (.invokevirtual 141, 3) := by decide +kernel
theorem dL_law_1425 : decode cL_law 1425 = .ok (.iload 6, 2) := by decide +kernel
theorem dL_law_1427 : decode cL_law 1427 = .ok (.if_icmp .eq 5, 3) := by decide +kernel
theorem dL_law_1432 : decode cL_law 1432 = .ok (.iload 6, 2) := by decide +kernel
theorem dL_law_1434 : decode cL_law 1434 = .ok (.ifCond .ne 15, 3) := by decide +kernel
theorem dL_law_1449 : decode cL_law 1449 = .ok (.goto 1008, 3) := by decide +kernel
theorem dL_law_2079 : decode cL_law 2079 = .ok (.istore 6, 2) := by decide +kernel
theorem dL_law_2081 : decode cL_law 2081 = .ok (.aload_n 2, 1) := by decide +kernel
theorem dL_law_2082 : decode cL_law 2082 = .ok (.aload_n 0, 1) := by decide +kernel
theorem dL_law_2083 : decode cL_law 2083 = .ok (.iload 5, 2) := by decide +kernel
theorem dL_law_2085 : decode cL_law 2085 = .ok (.iconst 1, 1) := by decide +kernel
theorem dL_law_2086 : decode cL_law 2086 = .ok (.iadd, 1) := by decide +kernel
theorem dL_law_2087 : decode cL_law 2087 = .ok (.iaload, 1) := by decide +kernel
theorem dL_law_2088 : decode cL_law 2088 = .ok (.aload_n 0, 1) := by decide +kernel
theorem dL_law_2089 : decode cL_law 2089 = .ok (.iload 5, 2) := by decide +kernel
theorem dL_law_2091 : decode cL_law 2091 = .ok (.iconst 2, 1) := by decide +kernel
theorem dL_law_2092 : decode cL_law 2092 = .ok (.iadd, 1) := by decide +kernel
theorem dL_law_2093 : decode cL_law 2093 = .ok (.iaload, 1) := by decide +kernel
theorem dL_law_2094 : decode cL_law 2094 = .ok (.invokevirtual 232, 3) := by decide +kernel
theorem dL_law_2097 : decode cL_law 2097 = .ok (.istore 7, 2) := by decide +kernel
theorem dL_law_2099 : decode cL_law 2099 = .ok (.aload_n 2, 1) := by decide +kernel
theorem dL_law_2100 : decode cL_law 2100 = .ok (.invokevirtual 141, 3) := by decide +kernel
theorem dL_law_2103 : decode cL_law 2103 = .ok (.iload 6, 2) := by decide +kernel
theorem dL_law_2105 : decode cL_law 2105 = .ok (.if_icmp .eq 5, 3) := by decide +kernel
theorem dL_law_2110 : decode cL_law 2110 = .ok (.iload 6, 2) := by decide +kernel
theorem dL_law_2112 : decode cL_law 2112 = .ok (.ifCond .ne 15, 3) := by decide +kernel
theorem dL_law_2127 : decode cL_law 2127 = .ok (.goto 330, 3) := by decide +kernel


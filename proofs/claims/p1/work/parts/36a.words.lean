theorem fm_1064 : Cond.classLink RL 8 RX9 ∈ fz_WA := fz_in (fz_tin 35 (by decide +kernel)) (by decide +kernel)
theorem fm_1065 : Cond.instantiable RX9 8 ∈ fz_WA := fz_in (fz_tin 36 (by decide +kernel)) (by decide +kernel)
theorem fm_1066 : Cond.code yX9_init cX9_init 1 none ∈ fz_WA := fz_in (fz_tin 39 (by decide +kernel)) (by decide +kernel)
theorem fm_1067 : Cond.methodLink RL 131 yX9_init ∈ fz_WA := fz_in (fz_tin 37 (by decide +kernel)) (by decide +kernel)
theorem fm_1068 : Cond.instanceMethod yX9_init ∈ fz_WA := fz_in (fz_tin 38 (by decide +kernel)) (by decide +kernel)
theorem fm_1069 : Cond.classLink RL 132 RX10 ∈ fz_WA := fz_in (fz_tin 1552 (by decide +kernel)) (by decide +kernel)
theorem fm_1070 : Cond.instantiable RX10 22 ∈ fz_WA := fz_in (fz_tin 1553 (by decide +kernel)) (by decide +kernel)
theorem fm_1071 : Cond.code yX10_init cX10_init 1 none ∈ fz_WA := fz_in (fz_tin 1556 (by decide +kernel)) (by decide +kernel)
theorem fm_1072 : Cond.methodLink RL 134 yX10_init ∈ fz_WA := fz_in (fz_tin 1554 (by decide +kernel)) (by decide +kernel)
theorem fm_1073 : Cond.instanceMethod yX10_init ∈ fz_WA := fz_in (fz_tin 1555 (by decide +kernel)) (by decide +kernel)
theorem fm_1074 : Cond.arrayClass .long ∈ fz_WA := fz_in (fz_tin 2036 (by decide +kernel)) (by decide +kernel)
theorem fm_1075 : Cond.arrayClass .double ∈ fz_WA := fz_in (fz_tin 2037 (by decide +kernel)) (by decide +kernel)
theorem dL_law_38 : decode cL_law 38 = .ok (.aload_n 0, 1) := by decide +kernel
theorem dL_law_39 : decode cL_law 39 = .ok (.iload 5, 2) := by decide +kernel
theorem dL_law_41 : decode cL_law 41 = .ok (.iaload, 1) := by decide +kernel
theorem dL_law_42 : decode cL_law 42 = .ok (.bipush 63, 2) := by decide +kernel
theorem dL_law_44 : decode cL_law 44 = .ok (.iand, 1) := by decide +kernel
theorem dL_law_45 : decode cL_law 45 = .ok (.tableswitch 2412 0 35 #[159, 263, 319, 387, 455, 523, 603, 683, 751, 819, 875, 931, 999, 1055, 1135, 1203, 1271, 1339, 1407, 1475, 1543, 1599, 1679, 1747, 1803, 1816, 1872, 1940, 2017, 2085, 2143, 2199, 2255, 2311, 2355, 2368], 159) := by decide +kernel
theorem dL_law_0 : decode cL_law 0 = .ok (.new 8, 3) := by decide +kernel
theorem dL_law_3 : decode cL_law 3 = .ok (.dup, 1) := by decide +kernel
theorem dL_law_4 : decode cL_law 4 = .ok (.invokespecial 131, 3) := by decide +kernel
theorem dL_law_7 : decode cL_law 7 = .ok (.astore_n 1, 1) := by decide +kernel
theorem dL_law_8 : decode cL_law 8 = .ok (.new 132, 3) := by decide +kernel
theorem dL_law_11 : decode cL_law 11 = .ok (.dup, 1) := by decide +kernel
theorem dL_law_12 : decode cL_law 12 = .ok (.invokespecial 134, 3) := by decide +kernel
theorem dL_law_15 : decode cL_law 15 = .ok (.astore_n 2, 1) := by decide +kernel
theorem dL_law_16 : decode cL_law 16 = .ok (.iconst 1, 1) := by decide +kernel
theorem dL_law_17 : decode cL_law 17 = .ok (.newarray .long, 2) := by decide +kernel
theorem dL_law_19 : decode cL_law 19 = .ok (.astore_n 3, 1) := by decide +kernel
theorem dL_law_20 : decode cL_law 20 = .ok (.iconst 1, 1) := by decide +kernel
theorem dL_law_21 : decode cL_law 21 = .ok (.newarray .double, 2) := by decide +kernel
theorem dL_law_23 : decode cL_law 23 = .ok (.astore 4, 2) := by decide +kernel
theorem dL_law_25 : decode cL_law 25 = .ok (.iconst 0, 1) := by decide +kernel
theorem dL_law_26 : decode cL_law 26 = .ok (.istore 5, 2) := by decide +kernel


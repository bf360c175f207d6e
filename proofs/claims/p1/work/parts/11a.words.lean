theorem fz_fit_83 : Bundle.fit "java/lang/IllegalStateException" = true ∧ ∀ n ∈ fz_EN, Bundle.fit n = true := by decide +kernel
theorem fz_at_83 : ∀ w ∈ vx_atS RX9 83 "java/lang/IllegalStateException" fz_EN, w ∈ lw_tbl ∧ (goodWord w || fz_kind w) = true := by decide +kernel
theorem fz_ok_83 : ∀ w ∈ Cond.classLink RX9 79 "java/lang/IllegalStateException" :: Cond.initialized "java/lang/IllegalStateException" :: vx_atS RX9 83 "java/lang/IllegalStateException" fz_EN, vx_ot w = true := by decide +kernel
theorem fz_fit_420 : Bundle.fit "java/lang/ArithmeticException" = true ∧ ∀ n ∈ fz_EN, Bundle.fit n = true := by decide +kernel
theorem fz_at_420 : ∀ w ∈ vx_atS RX9 420 "java/lang/ArithmeticException" fz_EN, w ∈ lw_tbl ∧ (goodWord w || fz_kind w) = true := by decide +kernel
theorem fz_ok_420 : ∀ w ∈ Cond.classLink RX9 416 "java/lang/ArithmeticException" :: Cond.initialized "java/lang/ArithmeticException" :: vx_atS RX9 420 "java/lang/ArithmeticException" fz_EN, vx_ot w = true := by decide +kernel
theorem fm_100 : Cond.code yX9_requireNode cX9_requireNode 2 none ∈ fz_WA := fz_in (fz_tin 581 (by decide +kernel)) (by decide +kernel)
theorem fm_101 : Cond.methodLink RX9 51 yX9_requireNode ∈ fz_WA := fz_in (fz_tin 578 (by decide +kernel)) (by decide +kernel)
theorem fm_102 : Cond.instanceMethod yX9_requireNode ∈ fz_WA := fz_in (fz_tin 580 (by decide +kernel)) (by decide +kernel)
theorem fm_103 : Cond.selects RX9 yX9_requireNode yX9_requireNode ∈ fz_WA := fz_in (fz_sin 2 (by decide +kernel)) (by decide +kernel)
theorem fm_104 : Cond.fieldLink RX9 59 "FindingAid$Tree" "kind" "[I" ∈ fz_WA := fz_in (fz_tin 68 (by decide +kernel)) (by decide +kernel)
theorem fm_105 : Cond.code yX9_requirePart cX9_requirePart 2 none ∈ fz_WA := fz_in (fz_tin 708 (by decide +kernel)) (by decide +kernel)
theorem fm_106 : Cond.methodLink RX9 112 yX9_requirePart ∈ fz_WA := fz_in (fz_tin 706 (by decide +kernel)) (by decide +kernel)
theorem fm_107 : Cond.static yX9_requirePart ∈ fz_WA := fz_in (fz_tin 707 (by decide +kernel)) (by decide +kernel)
theorem fm_108 : Cond.fieldLink RX9 102 "FindingAid$Tree" "parent" "[I" ∈ fz_WA := fz_in (fz_tin 71 (by decide +kernel)) (by decide +kernel)
theorem fm_109 : Cond.fieldLink RX9 118 "FindingAid$Tree" "from" "[I" ∈ fz_WA := fz_in (fz_tin 80 (by decide +kernel)) (by decide +kernel)
theorem fm_110 : Cond.fieldLink RX9 121 "FindingAid$Tree" "to" "[I" ∈ fz_WA := fz_in (fz_tin 82 (by decide +kernel)) (by decide +kernel)
theorem fm_111 : Cond.methodLink RX9 124 yX8_latestDay ∈ fz_WA := fz_in (fz_tin 710 (by decide +kernel)) (by decide +kernel)
theorem fm_112 : Cond.code yX8_countChildren cX8_countChildren 4 (some .int) ∈ fz_WA := fz_in (fz_tin 714 (by decide +kernel)) (by decide +kernel)
theorem fm_113 : Cond.methodLink RX9 127 yX8_countChildren ∈ fz_WA := fz_in (fz_tin 711 (by decide +kernel)) (by decide +kernel)
theorem fm_114 : Cond.instanceMethod yX8_countChildren ∈ fz_WA := fz_in (fz_tin 712 (by decide +kernel)) (by decide +kernel)
theorem fm_115 : Cond.selects RX8 yX8_countChildren yX8_countChildren ∈ fz_WA := fz_in (fz_tin 713 (by decide +kernel)) (by decide +kernel)
theorem fm_116 : Cond.fieldLink RX9 130 "FindingAid$Tree" "below" "[I" ∈ fz_WA := fz_in (fz_tin 73 (by decide +kernel)) (by decide +kernel)
theorem fm_117 : Cond.code yX8_countPages cX8_countPages 6 (some .int) ∈ fz_WA := fz_in (fz_tin 718 (by decide +kernel)) (by decide +kernel)
theorem fm_118 : Cond.methodLink RX9 133 yX8_countPages ∈ fz_WA := fz_in (fz_tin 715 (by decide +kernel)) (by decide +kernel)
theorem fm_119 : Cond.instanceMethod yX8_countPages ∈ fz_WA := fz_in (fz_tin 716 (by decide +kernel)) (by decide +kernel)
theorem fm_120 : Cond.selects RX8 yX8_countPages yX8_countPages ∈ fz_WA := fz_in (fz_tin 717 (by decide +kernel)) (by decide +kernel)
theorem fm_121 : Cond.fieldLink RX9 140 "FindingAid$Containers" "holder" "[I" ∈ fz_WA := fz_in (fz_tin 159 (by decide +kernel)) (by decide +kernel)
theorem fm_122 : Cond.fieldLink RX9 145 "FindingAid$Containers" "serial" "[I" ∈ fz_WA := fz_in (fz_tin 162 (by decide +kernel)) (by decide +kernel)
theorem fm_123 : Cond.methodLink RX9 152 yX1_countOf ∈ fz_WA := fz_in (fz_tin 719 (by decide +kernel)) (by decide +kernel)
theorem fm_124 : Cond.code yX8_findChild cX8_findChild 5 (some .int) ∈ fz_WA := fz_in (fz_tin 733 (by decide +kernel)) (by decide +kernel)
theorem fm_125 : Cond.methodLink RX9 157 yX8_findChild ∈ fz_WA := fz_in (fz_tin 730 (by decide +kernel)) (by decide +kernel)
theorem fm_126 : Cond.instanceMethod yX8_findChild ∈ fz_WA := fz_in (fz_tin 731 (by decide +kernel)) (by decide +kernel)
theorem fm_127 : Cond.selects RX8 yX8_findChild yX8_findChild ∈ fz_WA := fz_in (fz_tin 732 (by decide +kernel)) (by decide +kernel)
theorem fm_128 : Cond.fieldLink RX9 168 "FindingAid$State" "rules" "LFindingAid$Rules;" ∈ fz_WA := fz_in (fz_tin 241 (by decide +kernel)) (by decide +kernel)
theorem fm_129 : Cond.methodLink RX9 187 yX6_term ∈ fz_WA := fz_in (fz_tin 759 (by decide +kernel)) (by decide +kernel)
theorem fm_130 : Cond.methodLink RX9 191 yX6_decidingNode ∈ fz_WA := fz_in (fz_tin 760 (by decide +kernel)) (by decide +kernel)
theorem fm_131 : Cond.code yX6_lastClosedDay cX6_lastClosedDay 3 (some .int) ∈ fz_WA := fz_in (fz_tin 453 (by decide +kernel)) (by decide +kernel)
theorem fm_132 : Cond.methodLink RX9 194 yX6_lastClosedDay ∈ fz_WA := fz_in (fz_tin 761 (by decide +kernel)) (by decide +kernel)
theorem fm_133 : Cond.instanceMethod yX6_lastClosedDay ∈ fz_WA := fz_in (fz_tin 451 (by decide +kernel)) (by decide +kernel)
theorem fm_134 : Cond.selects RX6 yX6_lastClosedDay yX6_lastClosedDay ∈ fz_WA := fz_in (fz_tin 452 (by decide +kernel)) (by decide +kernel)
theorem fm_135 : Cond.code yX9_requireDay cX9_requireDay 1 none ∈ fz_WA := fz_in (fz_tin 771 (by decide +kernel)) (by decide +kernel)
theorem fm_136 : Cond.methodLink RX9 197 yX9_requireDay ∈ fz_WA := fz_in (fz_tin 769 (by decide +kernel)) (by decide +kernel)
theorem fm_137 : Cond.static yX9_requireDay ∈ fz_WA := fz_in (fz_tin 770 (by decide +kernel)) (by decide +kernel)
theorem fm_138 : Cond.methodLink RX9 200 yX6_openSet ∈ fz_WA := fz_in (fz_tin 773 (by decide +kernel)) (by decide +kernel)
theorem fm_139 : Cond.code yX9_requireCopy cX9_requireCopy 2 none ∈ fz_WA := fz_in (fz_tin 785 (by decide +kernel)) (by decide +kernel)
theorem fm_140 : Cond.methodLink RX9 204 yX9_requireCopy ∈ fz_WA := fz_in (fz_tin 782 (by decide +kernel)) (by decide +kernel)
theorem fm_141 : Cond.instanceMethod yX9_requireCopy ∈ fz_WA := fz_in (fz_tin 784 (by decide +kernel)) (by decide +kernel)
theorem fm_142 : Cond.selects RX9 yX9_requireCopy yX9_requireCopy ∈ fz_WA := fz_in (fz_sin 4 (by decide +kernel)) (by decide +kernel)
theorem fm_143 : Cond.code yX9_requireContainer cX9_requireContainer 2 none ∈ fz_WA := fz_in (fz_tin 845 (by decide +kernel)) (by decide +kernel)
theorem fm_144 : Cond.methodLink RX9 227 yX9_requireContainer ∈ fz_WA := fz_in (fz_tin 842 (by decide +kernel)) (by decide +kernel)
theorem fm_145 : Cond.instanceMethod yX9_requireContainer ∈ fz_WA := fz_in (fz_tin 844 (by decide +kernel)) (by decide +kernel)
theorem fm_146 : Cond.selects RX9 yX9_requireContainer yX9_requireContainer ∈ fz_WA := fz_in (fz_sin 5 (by decide +kernel)) (by decide +kernel)
theorem fm_147 : Cond.classLink RX9 79 "java/lang/IllegalStateException" ∈ fz_WA := fz_in (fz_tin 621 (by decide +kernel)) (by decide +kernel)
theorem fm_148 : Cond.initialized "java/lang/IllegalStateException" ∈ fz_WA := fz_in (fz_tin 23 (by decide +kernel)) (by decide +kernel)
theorem fm_149 : Cond.code yX9_requireUnit cX9_requireUnit 2 none ∈ fz_WA := fz_in (fz_tin 854 (by decide +kernel)) (by decide +kernel)
theorem fm_150 : Cond.methodLink RX9 230 yX9_requireUnit ∈ fz_WA := fz_in (fz_tin 851 (by decide +kernel)) (by decide +kernel)
theorem fm_151 : Cond.instanceMethod yX9_requireUnit ∈ fz_WA := fz_in (fz_tin 853 (by decide +kernel)) (by decide +kernel)
theorem fm_152 : Cond.selects RX9 yX9_requireUnit yX9_requireUnit ∈ fz_WA := fz_in (fz_sin 6 (by decide +kernel)) (by decide +kernel)
theorem fm_153 : Cond.code yX9_requireRequest cX9_requireRequest 2 none ∈ fz_WA := fz_in (fz_tin 1083 (by decide +kernel)) (by decide +kernel)
theorem fm_154 : Cond.methodLink RX9 361 yX9_requireRequest ∈ fz_WA := fz_in (fz_tin 1080 (by decide +kernel)) (by decide +kernel)
theorem fm_155 : Cond.instanceMethod yX9_requireRequest ∈ fz_WA := fz_in (fz_tin 1082 (by decide +kernel)) (by decide +kernel)
theorem fm_156 : Cond.selects RX9 yX9_requireRequest yX9_requireRequest ∈ fz_WA := fz_in (fz_sin 8 (by decide +kernel)) (by decide +kernel)
theorem fm_157 : Cond.fieldLink RX9 383 "FindingAid$Tree" "size" "I" ∈ fz_WA := fz_in (fz_tin 62 (by decide +kernel)) (by decide +kernel)
theorem fm_158 : Cond.code yX8_countUnits cX8_countUnits 3 (some .int) ∈ fz_WA := fz_in (fz_tin 1107 (by decide +kernel)) (by decide +kernel)
theorem fm_159 : Cond.methodLink RX9 386 yX8_countUnits ∈ fz_WA := fz_in (fz_tin 1104 (by decide +kernel)) (by decide +kernel)
theorem fm_160 : Cond.instanceMethod yX8_countUnits ∈ fz_WA := fz_in (fz_tin 1105 (by decide +kernel)) (by decide +kernel)
theorem fm_161 : Cond.selects RX8 yX8_countUnits yX8_countUnits ∈ fz_WA := fz_in (fz_tin 1106 (by decide +kernel)) (by decide +kernel)
theorem fm_162 : Cond.fieldLink RX9 389 "FindingAid$Containers" "open" "I" ∈ fz_WA := fz_in (fz_tin 150 (by decide +kernel)) (by decide +kernel)
theorem fm_163 : Cond.fieldLink RX9 391 "FindingAid$Containers" "stored" "I" ∈ fz_WA := fz_in (fz_tin 152 (by decide +kernel)) (by decide +kernel)
theorem fm_164 : Cond.code yX1_countPresent cX1_countPresent 1 (some .int) ∈ fz_WA := fz_in (fz_tin 1111 (by decide +kernel)) (by decide +kernel)
theorem fm_165 : Cond.methodLink RX9 394 yX1_countPresent ∈ fz_WA := fz_in (fz_tin 1108 (by decide +kernel)) (by decide +kernel)
theorem fm_166 : Cond.instanceMethod yX1_countPresent ∈ fz_WA := fz_in (fz_tin 1109 (by decide +kernel)) (by decide +kernel)
theorem fm_167 : Cond.selects RX1 yX1_countPresent yX1_countPresent ∈ fz_WA := fz_in (fz_tin 1110 (by decide +kernel)) (by decide +kernel)
theorem fm_168 : Cond.code yX7_countAllShownPages cX7_countAllShownPages 3 (some .int) ∈ fz_WA := fz_in (fz_tin 1116 (by decide +kernel)) (by decide +kernel)
theorem fm_169 : Cond.methodLink RX9 397 yX7_countAllShownPages ∈ fz_WA := fz_in (fz_tin 1113 (by decide +kernel)) (by decide +kernel)
theorem fm_170 : Cond.instanceMethod yX7_countAllShownPages ∈ fz_WA := fz_in (fz_tin 1114 (by decide +kernel)) (by decide +kernel)
theorem fm_171 : Cond.selects RX7 yX7_countAllShownPages yX7_countAllShownPages ∈ fz_WA := fz_in (fz_tin 1115 (by decide +kernel)) (by decide +kernel)
theorem fm_172 : Cond.initialized RX7 ∈ fz_WA := fz_in (fz_tin 2 (by decide +kernel)) (by decide +kernel)
theorem fm_173 : Cond.code yX5_countShowing cX5_countShowing 4 (some .int) ∈ fz_WA := fz_in (fz_tin 988 (by decide +kernel)) (by decide +kernel)
theorem fm_174 : Cond.methodLink RX9 318 yX5_countShowing ∈ fz_WA := fz_in (fz_tin 985 (by decide +kernel)) (by decide +kernel)
theorem fm_175 : Cond.instanceMethod yX5_countShowing ∈ fz_WA := fz_in (fz_tin 986 (by decide +kernel)) (by decide +kernel)
theorem fm_176 : Cond.selects RX5 yX5_countShowing yX5_countShowing ∈ fz_WA := fz_in (fz_tin 987 (by decide +kernel)) (by decide +kernel)
theorem fm_177 : Cond.initialized RX5 ∈ fz_WA := fz_in (fz_tin 9 (by decide +kernel)) (by decide +kernel)
theorem fm_178 : Cond.fieldLink RX9 239 "FindingAid$Containers" "marks" "LFindingAid$Marks;" ∈ fz_WA := fz_in (fz_tin 164 (by decide +kernel)) (by decide +kernel)
theorem fm_179 : Cond.code yX3_countReferring cX3_countReferring 4 (some .int) ∈ fz_WA := fz_in (fz_tin 1121 (by decide +kernel)) (by decide +kernel)
theorem fm_180 : Cond.methodLink RX9 400 yX3_countReferring ∈ fz_WA := fz_in (fz_tin 1118 (by decide +kernel)) (by decide +kernel)
theorem fm_181 : Cond.instanceMethod yX3_countReferring ∈ fz_WA := fz_in (fz_tin 1119 (by decide +kernel)) (by decide +kernel)
theorem fm_182 : Cond.selects RX3 yX3_countReferring yX3_countReferring ∈ fz_WA := fz_in (fz_tin 1120 (by decide +kernel)) (by decide +kernel)
theorem fm_183 : Cond.initialized RX3 ∈ fz_WA := fz_in (fz_tin 7 (by decide +kernel)) (by decide +kernel)
theorem fm_184 : Cond.code yX5_countOn cX5_countOn 4 (some .int) ∈ fz_WA := fz_in (fz_tin 1133 (by decide +kernel)) (by decide +kernel)
theorem fm_185 : Cond.methodLink RX9 404 yX5_countOn ∈ fz_WA := fz_in (fz_tin 1130 (by decide +kernel)) (by decide +kernel)
theorem fm_186 : Cond.instanceMethod yX5_countOn ∈ fz_WA := fz_in (fz_tin 1131 (by decide +kernel)) (by decide +kernel)
theorem fm_187 : Cond.selects RX5 yX5_countOn yX5_countOn ∈ fz_WA := fz_in (fz_tin 1132 (by decide +kernel)) (by decide +kernel)
theorem fm_188 : Cond.code yX5_countReaders cX5_countReaders 4 (some .int) ∈ fz_WA := fz_in (fz_tin 1026 (by decide +kernel)) (by decide +kernel)
theorem fm_189 : Cond.methodLink RX9 407 yX5_countReaders ∈ fz_WA := fz_in (fz_tin 1134 (by decide +kernel)) (by decide +kernel)
theorem fm_190 : Cond.instanceMethod yX5_countReaders ∈ fz_WA := fz_in (fz_tin 1024 (by decide +kernel)) (by decide +kernel)
theorem fm_191 : Cond.selects RX5 yX5_countReaders yX5_countReaders ∈ fz_WA := fz_in (fz_tin 1025 (by decide +kernel)) (by decide +kernel)
theorem fm_192 : Cond.code yX7_countOpenUnits cX7_countOpenUnits 5 (some .int) ∈ fz_WA := fz_in (fz_tin 1138 (by decide +kernel)) (by decide +kernel)
theorem fm_193 : Cond.methodLink RX9 410 yX7_countOpenUnits ∈ fz_WA := fz_in (fz_tin 1135 (by decide +kernel)) (by decide +kernel)
theorem fm_194 : Cond.instanceMethod yX7_countOpenUnits ∈ fz_WA := fz_in (fz_tin 1136 (by decide +kernel)) (by decide +kernel)
theorem fm_195 : Cond.selects RX7 yX7_countOpenUnits yX7_countOpenUnits ∈ fz_WA := fz_in (fz_tin 1137 (by decide +kernel)) (by decide +kernel)
theorem fm_196 : Cond.code yX7_countOpenPages cX7_countOpenPages 4 (some .int) ∈ fz_WA := fz_in (fz_tin 1142 (by decide +kernel)) (by decide +kernel)
theorem fm_197 : Cond.methodLink RX9 413 yX7_countOpenPages ∈ fz_WA := fz_in (fz_tin 1139 (by decide +kernel)) (by decide +kernel)
theorem fm_198 : Cond.instanceMethod yX7_countOpenPages ∈ fz_WA := fz_in (fz_tin 1140 (by decide +kernel)) (by decide +kernel)
theorem fm_199 : Cond.selects RX7 yX7_countOpenPages yX7_countOpenPages ∈ fz_WA := fz_in (fz_tin 1141 (by decide +kernel)) (by decide +kernel)
theorem fm_200 : Cond.classLink RX9 416 "java/lang/ArithmeticException" ∈ fz_WA := fz_in (fz_tin 1164 (by decide +kernel)) (by decide +kernel)
theorem fm_201 : Cond.initialized "java/lang/ArithmeticException" ∈ fz_WA := fz_in (fz_tin 30 (by decide +kernel)) (by decide +kernel)
theorem fm_202 : Cond.fieldLink RX9 47 "FindingAid" "text" "Ljava/lang/StringBuilder;" ∈ fz_WA := fz_in (fz_tin 365 (by decide +kernel)) (by decide +kernel)
theorem fm_203 : Cond.code yJ4_length_8abf5 cJ4_length_8abf5 1 (some .int) ∈ fz_WA := fz_in (fz_tin 1406 (by decide +kernel)) (by decide +kernel)
theorem fm_204 : Cond.methodLink RX9 472 yJ4_length_8abf5 ∈ fz_WA := fz_in (fz_tin 1517 (by decide +kernel)) (by decide +kernel)
theorem fm_205 : Cond.instanceMethod yJ4_length_8abf5 ∈ fz_WA := fz_in (fz_tin 1405 (by decide +kernel)) (by decide +kernel)
theorem fm_206 : Cond.selects RJ4 yJ4_length_8abf5 yJ4_length_8abf5 ∈ fz_WA := fz_in (fz_tin 2049 (by decide +kernel)) (by decide +kernel)
theorem fm_207 : Cond.initialized RJ4 ∈ fz_WA := fz_in (fz_tin 13 (by decide +kernel)) (by decide +kernel)
theorem fm_208 : Cond.fieldLink RX9 16 "FindingAid" "past" "[LFindingAid$State;" ∈ fz_WA := fz_in (fz_tin 359 (by decide +kernel)) (by decide +kernel)
theorem fm_209 : Cond.fieldLink RX9 20 "FindingAid" "newest" "I" ∈ fz_WA := fz_in (fz_tin 360 (by decide +kernel)) (by decide +kernel)
theorem fm_210 : Cond.fieldLink RX9 24 "FindingAid" "undoable" "I" ∈ fz_WA := fz_in (fz_tin 361 (by decide +kernel)) (by decide +kernel)
theorem fm_211 : Cond.fieldLink RX9 27 "FindingAid" "saved" "LFindingAid$State;" ∈ fz_WA := fz_in (fz_tin 362 (by decide +kernel)) (by decide +kernel)
theorem dX9_remove_0 : decode cX9_remove 0 = .ok (.aload_n 0, 1) := by decide +kernel
theorem dX9_remove_1 : decode cX9_remove 1 = .ok (.iload_n 1, 1) := by decide +kernel
theorem dX9_remove_2 : decode cX9_remove 2 = .ok (.invokevirtual 51, 3) := by decide +kernel
theorem dX9_remove_5 : decode cX9_remove 5 = .ok (.iload_n 1, 1) := by decide +kernel
theorem dX9_remove_6 : decode cX9_remove 6 = .ok (.ifCond .ne 13, 3) := by decide +kernel
theorem dX9_remove_9 : decode cX9_remove 9 = .ok (.new 69, 3) := by decide +kernel
theorem dX9_remove_12 : decode cX9_remove 12 = .ok (.dup, 1) := by decide +kernel
theorem dX9_remove_13 : decode cX9_remove 13 = .ok (.ldc 91, 2) := by decide +kernel
theorem dX9_remove_15 : decode cX9_remove 15 = .ok (.invokespecial 73, 3) := by decide +kernel
theorem dX9_remove_18 : decode cX9_remove 18 = .ok (.athrow, 1) := by decide +kernel
theorem dX9_move_0 : decode cX9_move 0 = .ok (.aload_n 0, 1) := by decide +kernel
theorem dX9_move_1 : decode cX9_move 1 = .ok (.iload_n 1, 1) := by decide +kernel
theorem dX9_move_2 : decode cX9_move 2 = .ok (.invokevirtual 51, 3) := by decide +kernel
theorem dX9_move_5 : decode cX9_move 5 = .ok (.aload_n 0, 1) := by decide +kernel
theorem dX9_move_6 : decode cX9_move 6 = .ok (.iload_n 2, 1) := by decide +kernel
theorem dX9_move_7 : decode cX9_move 7 = .ok (.invokevirtual 51, 3) := by decide +kernel
theorem dX9_move_10 : decode cX9_move 10 = .ok (.aload_n 0, 1) := by decide +kernel
theorem dX9_move_11 : decode cX9_move 11 = .ok (.getfield 10, 3) := by decide +kernel
theorem dX9_move_14 : decode cX9_move 14 = .ok (.getfield 55, 3) := by decide +kernel
theorem dX9_move_17 : decode cX9_move 17 = .ok (.getfield 59, 3) := by decide +kernel
theorem dX9_move_20 : decode cX9_move 20 = .ok (.iload_n 2, 1) := by decide +kernel
theorem dX9_move_21 : decode cX9_move 21 = .ok (.iaload, 1) := by decide +kernel
theorem dX9_move_22 : decode cX9_move 22 = .ok (.aload_n 0, 1) := by decide +kernel
theorem dX9_move_23 : decode cX9_move 23 = .ok (.getfield 10, 3) := by decide +kernel
theorem dX9_move_26 : decode cX9_move 26 = .ok (.getfield 55, 3) := by decide +kernel
theorem dX9_move_29 : decode cX9_move 29 = .ok (.getfield 59, 3) := by decide +kernel
theorem dX9_move_32 : decode cX9_move 32 = .ok (.iload_n 1, 1) := by decide +kernel
theorem dX9_move_33 : decode cX9_move 33 = .ok (.iaload, 1) := by decide +kernel
theorem dX9_move_34 : decode cX9_move 34 = .ok (.if_icmp .lt 13, 3) := by decide +kernel
theorem dX9_move_37 : decode cX9_move 37 = .ok (.new 69, 3) := by decide +kernel
theorem dX9_move_40 : decode cX9_move 40 = .ok (.dup, 1) := by decide +kernel
theorem dX9_move_41 : decode cX9_move 41 = .ok (.ldc 100, 2) := by decide +kernel
theorem dX9_move_43 : decode cX9_move 43 = .ok (.invokespecial 73, 3) := by decide +kernel
theorem dX9_move_46 : decode cX9_move 46 = .ok (.athrow, 1) := by decide +kernel
theorem dX9_node_0 : decode cX9_node 0 = .ok (.aload_n 0, 1) := by decide +kernel
theorem dX9_node_1 : decode cX9_node 1 = .ok (.iload_n 1, 1) := by decide +kernel
theorem dX9_node_2 : decode cX9_node 2 = .ok (.invokevirtual 51, 3) := by decide +kernel
theorem dX9_node_5 : decode cX9_node 5 = .ok (.iload_n 2, 1) := by decide +kernel
theorem dX9_node_6 : decode cX9_node 6 = .ok (.bipush 11, 2) := by decide +kernel
theorem dX9_node_8 : decode cX9_node 8 = .ok (.invokestatic 112, 3) := by decide +kernel
theorem dX9_node_11 : decode cX9_node 11 = .ok (.aload_n 0, 1) := by decide +kernel
theorem dX9_node_12 : decode cX9_node 12 = .ok (.getfield 10, 3) := by decide +kernel
theorem dX9_node_15 : decode cX9_node 15 = .ok (.getfield 55, 3) := by decide +kernel
theorem dX9_node_18 : decode cX9_node 18 = .ok (.astore_n 3, 1) := by decide +kernel
theorem dX9_node_19 : decode cX9_node 19 = .ok (.iload_n 2, 1) := by decide +kernel
theorem dX9_node_20 : decode cX9_node 20 = .ok (.tableswitch 146 0 10 #[60, 67, 74, 81, 88, 95, 101, 107, 114, 120, 133], 60) := by decide +kernel
theorem dX9_node_80 : decode cX9_node 80 = .ok (.aload_n 3, 1) := by decide +kernel
theorem dX9_node_81 : decode cX9_node 81 = .ok (.getfield 59, 3) := by decide +kernel
theorem dX9_node_84 : decode cX9_node 84 = .ok (.iload_n 1, 1) := by decide +kernel
theorem dX9_node_85 : decode cX9_node 85 = .ok (.iaload, 1) := by decide +kernel
theorem dX9_node_86 : decode cX9_node 86 = .ok (.ireturn, 1) := by decide +kernel
theorem dX9_node_87 : decode cX9_node 87 = .ok (.aload_n 3, 1) := by decide +kernel
theorem dX9_node_88 : decode cX9_node 88 = .ok (.getfield 102, 3) := by decide +kernel
theorem dX9_node_91 : decode cX9_node 91 = .ok (.iload_n 1, 1) := by decide +kernel
theorem dX9_node_92 : decode cX9_node 92 = .ok (.iaload, 1) := by decide +kernel
theorem dX9_node_93 : decode cX9_node 93 = .ok (.ireturn, 1) := by decide +kernel
theorem dX9_node_94 : decode cX9_node 94 = .ok (.aload_n 3, 1) := by decide +kernel
theorem dX9_node_95 : decode cX9_node 95 = .ok (.getfield 115, 3) := by decide +kernel
theorem dX9_node_98 : decode cX9_node 98 = .ok (.iload_n 1, 1) := by decide +kernel
theorem dX9_node_99 : decode cX9_node 99 = .ok (.iaload, 1) := by decide +kernel
theorem dX9_node_100 : decode cX9_node 100 = .ok (.ireturn, 1) := by decide +kernel
theorem dX9_node_101 : decode cX9_node 101 = .ok (.aload_n 3, 1) := by decide +kernel
theorem dX9_node_102 : decode cX9_node 102 = .ok (.getfield 118, 3) := by decide +kernel
theorem dX9_node_105 : decode cX9_node 105 = .ok (.iload_n 1, 1) := by decide +kernel
theorem dX9_node_106 : decode cX9_node 106 = .ok (.iaload, 1) := by decide +kernel
theorem dX9_node_107 : decode cX9_node 107 = .ok (.ireturn, 1) := by decide +kernel
theorem dX9_node_108 : decode cX9_node 108 = .ok (.aload_n 3, 1) := by decide +kernel
theorem dX9_node_109 : decode cX9_node 109 = .ok (.getfield 121, 3) := by decide +kernel
theorem dX9_node_112 : decode cX9_node 112 = .ok (.iload_n 1, 1) := by decide +kernel
theorem dX9_node_113 : decode cX9_node 113 = .ok (.iaload, 1) := by decide +kernel
theorem dX9_node_114 : decode cX9_node 114 = .ok (.ireturn, 1) := by decide +kernel
theorem dX9_node_115 : decode cX9_node 115 = .ok (.aload_n 3, 1) := by decide +kernel
theorem dX9_node_116 : decode cX9_node 116 = .ok (.iload_n 1, 1) := by decide +kernel
theorem dX9_node_117 : decode cX9_node 117 = .ok (.invokevirtual 124, 3) := by decide +kernel
theorem dX9_node_120 : decode cX9_node 120 = .ok (.ireturn, 1) := by decide +kernel
theorem dX9_node_121 : decode cX9_node 121 = .ok (.aload_n 3, 1) := by decide +kernel
theorem dX9_node_122 : decode cX9_node 122 = .ok (.iload_n 1, 1) := by decide +kernel
theorem dX9_node_123 : decode cX9_node 123 = .ok (.invokevirtual 127, 3) := by decide +kernel
theorem dX9_node_126 : decode cX9_node 126 = .ok (.ireturn, 1) := by decide +kernel
theorem dX9_node_127 : decode cX9_node 127 = .ok (.aload_n 3, 1) := by decide +kernel
theorem dX9_node_128 : decode cX9_node 128 = .ok (.getfield 130, 3) := by decide +kernel
theorem dX9_node_131 : decode cX9_node 131 = .ok (.iload_n 1, 1) := by decide +kernel
theorem dX9_node_132 : decode cX9_node 132 = .ok (.iaload, 1) := by decide +kernel
theorem dX9_node_133 : decode cX9_node 133 = .ok (.ireturn, 1) := by decide +kernel
theorem dX9_node_134 : decode cX9_node 134 = .ok (.aload_n 3, 1) := by decide +kernel
theorem dX9_node_135 : decode cX9_node 135 = .ok (.iload_n 1, 1) := by decide +kernel
theorem dX9_node_136 : decode cX9_node 136 = .ok (.invokevirtual 133, 3) := by decide +kernel
theorem dX9_node_139 : decode cX9_node 139 = .ok (.ireturn, 1) := by decide +kernel
theorem dX9_node_140 : decode cX9_node 140 = .ok (.aload_n 0, 1) := by decide +kernel
theorem dX9_node_141 : decode cX9_node 141 = .ok (.getfield 10, 3) := by decide +kernel
theorem dX9_node_144 : decode cX9_node 144 = .ok (.getfield 136, 3) := by decide +kernel
theorem dX9_node_147 : decode cX9_node 147 = .ok (.getfield 140, 3) := by decide +kernel
theorem dX9_node_150 : decode cX9_node 150 = .ok (.iload_n 1, 1) := by decide +kernel
theorem dX9_node_151 : decode cX9_node 151 = .ok (.iaload, 1) := by decide +kernel
theorem dX9_node_152 : decode cX9_node 152 = .ok (.ireturn, 1) := by decide +kernel
theorem dX9_node_153 : decode cX9_node 153 = .ok (.aload_n 0, 1) := by decide +kernel
theorem dX9_node_154 : decode cX9_node 154 = .ok (.getfield 10, 3) := by decide +kernel
theorem dX9_node_157 : decode cX9_node 157 = .ok (.getfield 136, 3) := by decide +kernel
theorem dX9_node_160 : decode cX9_node 160 = .ok (.getfield 145, 3) := by decide +kernel
theorem dX9_node_163 : decode cX9_node 163 = .ok (.iload_n 1, 1) := by decide +kernel
theorem dX9_node_164 : decode cX9_node 164 = .ok (.iaload, 1) := by decide +kernel
theorem dX9_node_165 : decode cX9_node 165 = .ok (.ireturn, 1) := by decide +kernel
theorem dX9_node_166 : decode cX9_node 166 = .ok (.aload_n 0, 1) := by decide +kernel
theorem dX9_node_167 : decode cX9_node 167 = .ok (.getfield 10, 3) := by decide +kernel
theorem dX9_node_170 : decode cX9_node 170 = .ok (.getfield 148, 3) := by decide +kernel
theorem dX9_node_173 : decode cX9_node 173 = .ok (.iload_n 1, 1) := by decide +kernel
theorem dX9_node_174 : decode cX9_node 174 = .ok (.invokevirtual 152, 3) := by decide +kernel
theorem dX9_node_177 : decode cX9_node 177 = .ok (.ireturn, 1) := by decide +kernel
theorem dX9_child_0 : decode cX9_child 0 = .ok (.aload_n 0, 1) := by decide +kernel
theorem dX9_child_1 : decode cX9_child 1 = .ok (.iload_n 1, 1) := by decide +kernel
theorem dX9_child_2 : decode cX9_child 2 = .ok (.invokevirtual 51, 3) := by decide +kernel
theorem dX9_child_5 : decode cX9_child 5 = .ok (.aload_n 0, 1) := by decide +kernel
theorem dX9_child_6 : decode cX9_child 6 = .ok (.getfield 10, 3) := by decide +kernel
theorem dX9_child_9 : decode cX9_child 9 = .ok (.getfield 55, 3) := by decide +kernel
theorem dX9_child_12 : decode cX9_child 12 = .ok (.iload_n 1, 1) := by decide +kernel
theorem dX9_child_13 : decode cX9_child 13 = .ok (.iload_n 2, 1) := by decide +kernel
theorem dX9_child_14 : decode cX9_child 14 = .ok (.invokevirtual 157, 3) := by decide +kernel
theorem dX9_child_17 : decode cX9_child 17 = .ok (.istore_n 3, 1) := by decide +kernel
theorem dX9_child_18 : decode cX9_child 18 = .ok (.iload_n 3, 1) := by decide +kernel
theorem dX9_child_19 : decode cX9_child 19 = .ok (.iconst (-1), 1) := by decide +kernel
theorem dX9_child_20 : decode cX9_child 20 = .ok (.if_icmp .ne 13, 3) := by decide +kernel
theorem dX9_child_23 : decode cX9_child 23 = .ok (.new 161, 3) := by decide +kernel
theorem dX9_child_26 : decode cX9_child 26 = .ok (.dup, 1) := by decide +kernel
theorem dX9_child_27 : decode cX9_child 27 = .ok (.ldc 163, 2) := by decide +kernel
theorem dX9_child_29 : decode cX9_child 29 = .ok (.invokespecial 165, 3) := by decide +kernel
theorem dX9_child_32 : decode cX9_child 32 = .ok (.athrow, 1) := by decide +kernel
theorem dX9_restriction_0 : decode cX9_restriction 0 = .ok (.aload_n 0, 1) := by decide +kernel
theorem dX9_restriction_1 : decode cX9_restriction 1 = .ok (.iload_n 1, 1) := by decide +kernel
theorem dX9_restriction_2 : decode cX9_restriction 2 = .ok (.invokevirtual 51, 3) := by decide +kernel
theorem dX9_restriction_5 : decode cX9_restriction 5 = .ok (.iload_n 2, 1) := by decide +kernel
theorem dX9_restriction_6 : decode cX9_restriction 6 = .ok (.iconst 2, 1) := by decide +kernel
theorem dX9_restriction_7 : decode cX9_restriction 7 = .ok (.invokestatic 112, 3) := by decide +kernel
theorem dX9_restriction_10 : decode cX9_restriction 10 = .ok (.iload_n 2, 1) := by decide +kernel
theorem dX9_restriction_11 : decode cX9_restriction 11 = .ok (.lookupswitch 63 #[(0, 25), (1, 44)], 25) := by decide +kernel
theorem dX9_restriction_36 : decode cX9_restriction 36 = .ok (.aload_n 0, 1) := by decide +kernel
theorem dX9_restriction_37 : decode cX9_restriction 37 = .ok (.getfield 10, 3) := by decide +kernel
theorem dX9_restriction_40 : decode cX9_restriction 40 = .ok (.getfield 168, 3) := by decide +kernel
theorem dX9_restriction_43 : decode cX9_restriction 43 = .ok (.aload_n 0, 1) := by decide +kernel
theorem dX9_restriction_44 : decode cX9_restriction 44 = .ok (.getfield 10, 3) := by decide +kernel
theorem dX9_restriction_47 : decode cX9_restriction 47 = .ok (.getfield 55, 3) := by decide +kernel
theorem dX9_restriction_50 : decode cX9_restriction 50 = .ok (.iload_n 1, 1) := by decide +kernel
theorem dX9_restriction_51 : decode cX9_restriction 51 = .ok (.invokevirtual 187, 3) := by decide +kernel
theorem dX9_restriction_54 : decode cX9_restriction 54 = .ok (.ireturn, 1) := by decide +kernel
theorem dX9_restriction_55 : decode cX9_restriction 55 = .ok (.aload_n 0, 1) := by decide +kernel
theorem dX9_restriction_56 : decode cX9_restriction 56 = .ok (.getfield 10, 3) := by decide +kernel
theorem dX9_restriction_59 : decode cX9_restriction 59 = .ok (.getfield 168, 3) := by decide +kernel
theorem dX9_restriction_62 : decode cX9_restriction 62 = .ok (.aload_n 0, 1) := by decide +kernel
theorem dX9_restriction_63 : decode cX9_restriction 63 = .ok (.getfield 10, 3) := by decide +kernel
theorem dX9_restriction_66 : decode cX9_restriction 66 = .ok (.getfield 55, 3) := by decide +kernel
theorem dX9_restriction_69 : decode cX9_restriction 69 = .ok (.iload_n 1, 1) := by decide +kernel
theorem dX9_restriction_70 : decode cX9_restriction 70 = .ok (.invokevirtual 191, 3) := by decide +kernel
theorem dX9_restriction_73 : decode cX9_restriction 73 = .ok (.ireturn, 1) := by decide +kernel
theorem dX9_restriction_74 : decode cX9_restriction 74 = .ok (.aload_n 0, 1) := by decide +kernel
theorem dX9_restriction_75 : decode cX9_restriction 75 = .ok (.getfield 10, 3) := by decide +kernel
theorem dX9_restriction_78 : decode cX9_restriction 78 = .ok (.getfield 168, 3) := by decide +kernel
theorem dX9_restriction_81 : decode cX9_restriction 81 = .ok (.aload_n 0, 1) := by decide +kernel
theorem dX9_restriction_82 : decode cX9_restriction 82 = .ok (.getfield 10, 3) := by decide +kernel
theorem dX9_restriction_85 : decode cX9_restriction 85 = .ok (.getfield 55, 3) := by decide +kernel
theorem dX9_restriction_88 : decode cX9_restriction 88 = .ok (.iload_n 1, 1) := by decide +kernel
theorem dX9_restriction_89 : decode cX9_restriction 89 = .ok (.invokevirtual 194, 3) := by decide +kernel
theorem dX9_restriction_92 : decode cX9_restriction 92 = .ok (.ireturn, 1) := by decide +kernel
theorem dX9_openPages_0 : decode cX9_openPages 0 = .ok (.aload_n 0, 1) := by decide +kernel
theorem dX9_openPages_1 : decode cX9_openPages 1 = .ok (.iload_n 1, 1) := by decide +kernel
theorem dX9_openPages_2 : decode cX9_openPages 2 = .ok (.invokevirtual 51, 3) := by decide +kernel
theorem dX9_openPages_5 : decode cX9_openPages 5 = .ok (.iload_n 2, 1) := by decide +kernel
theorem dX9_openPages_6 : decode cX9_openPages 6 = .ok (.invokestatic 197, 3) := by decide +kernel
theorem dX9_openPages_9 : decode cX9_openPages 9 = .ok (.aload_n 0, 1) := by decide +kernel
theorem dX9_openPages_10 : decode cX9_openPages 10 = .ok (.getfield 10, 3) := by decide +kernel
theorem dX9_openPages_13 : decode cX9_openPages 13 = .ok (.getfield 168, 3) := by decide +kernel
theorem dX9_openPages_16 : decode cX9_openPages 16 = .ok (.aload_n 0, 1) := by decide +kernel
theorem dX9_openPages_17 : decode cX9_openPages 17 = .ok (.getfield 10, 3) := by decide +kernel
theorem dX9_openPages_20 : decode cX9_openPages 20 = .ok (.getfield 55, 3) := by decide +kernel
theorem dX9_openPages_23 : decode cX9_openPages 23 = .ok (.iload_n 1, 1) := by decide +kernel
theorem dX9_openPages_24 : decode cX9_openPages 24 = .ok (.iload_n 2, 1) := by decide +kernel
theorem dX9_openPages_25 : decode cX9_openPages 25 = .ok (.invokevirtual 200, 3) := by decide +kernel
theorem dX9_openPages_28 : decode cX9_openPages 28 = .ok (.ireturn, 1) := by decide +kernel
theorem dX9_firstDay_0 : decode cX9_firstDay 0 = .ok (.aload_n 0, 1) := by decide +kernel
theorem dX9_firstDay_1 : decode cX9_firstDay 1 = .ok (.iload_n 1, 1) := by decide +kernel
theorem dX9_firstDay_2 : decode cX9_firstDay 2 = .ok (.invokevirtual 204, 3) := by decide +kernel
theorem dX9_put_0 : decode cX9_put 0 = .ok (.aload_n 0, 1) := by decide +kernel
theorem dX9_put_1 : decode cX9_put 1 = .ok (.iload_n 1, 1) := by decide +kernel
theorem dX9_put_2 : decode cX9_put 2 = .ok (.invokevirtual 51, 3) := by decide +kernel
theorem dX9_put_5 : decode cX9_put 5 = .ok (.aload_n 0, 1) := by decide +kernel
theorem dX9_put_6 : decode cX9_put 6 = .ok (.iload_n 2, 1) := by decide +kernel
theorem dX9_put_7 : decode cX9_put 7 = .ok (.invokevirtual 227, 3) := by decide +kernel
theorem dX9_takeOut_0 : decode cX9_takeOut 0 = .ok (.aload_n 0, 1) := by decide +kernel
theorem dX9_takeOut_1 : decode cX9_takeOut 1 = .ok (.iload_n 1, 1) := by decide +kernel
theorem dX9_takeOut_2 : decode cX9_takeOut 2 = .ok (.invokevirtual 51, 3) := by decide +kernel
theorem dX9_takeOut_5 : decode cX9_takeOut 5 = .ok (.aload_n 0, 1) := by decide +kernel
theorem dX9_takeOut_6 : decode cX9_takeOut 6 = .ok (.getfield 10, 3) := by decide +kernel
theorem dX9_takeOut_9 : decode cX9_takeOut 9 = .ok (.getfield 136, 3) := by decide +kernel
theorem dX9_takeOut_12 : decode cX9_takeOut 12 = .ok (.getfield 140, 3) := by decide +kernel
theorem dX9_takeOut_15 : decode cX9_takeOut 15 = .ok (.iload_n 1, 1) := by decide +kernel
theorem dX9_takeOut_16 : decode cX9_takeOut 16 = .ok (.iaload, 1) := by decide +kernel
theorem dX9_takeOut_17 : decode cX9_takeOut 17 = .ok (.istore_n 2, 1) := by decide +kernel
theorem dX9_takeOut_18 : decode cX9_takeOut 18 = .ok (.iload_n 2, 1) := by decide +kernel
theorem dX9_takeOut_19 : decode cX9_takeOut 19 = .ok (.iconst (-1), 1) := by decide +kernel
theorem dX9_takeOut_20 : decode cX9_takeOut 20 = .ok (.if_icmp .ne 13, 3) := by decide +kernel
theorem dX9_takeOut_23 : decode cX9_takeOut 23 = .ok (.new 79, 3) := by decide +kernel
theorem dX9_takeOut_26 : decode cX9_takeOut 26 = .ok (.dup, 1) := by decide +kernel
theorem dX9_takeOut_27 : decode cX9_takeOut 27 = .ok (.ldc 254, 2) := by decide +kernel
theorem dX9_takeOut_29 : decode cX9_takeOut 29 = .ok (.invokespecial 83, 3) := by decide +kernel
theorem dX9_takeOut_32 : decode cX9_takeOut 32 = .ok (.athrow, 1) := by decide +kernel
theorem dX9_split_0 : decode cX9_split 0 = .ok (.aload_n 0, 1) := by decide +kernel
theorem dX9_split_1 : decode cX9_split 1 = .ok (.iload_n 1, 1) := by decide +kernel
theorem dX9_split_2 : decode cX9_split 2 = .ok (.invokevirtual 227, 3) := by decide +kernel
theorem dX9_merge_0 : decode cX9_merge 0 = .ok (.aload_n 0, 1) := by decide +kernel
theorem dX9_merge_1 : decode cX9_merge 1 = .ok (.iload_n 1, 1) := by decide +kernel
theorem dX9_merge_2 : decode cX9_merge 2 = .ok (.invokevirtual 227, 3) := by decide +kernel
theorem dX9_container_0 : decode cX9_container 0 = .ok (.aload_n 0, 1) := by decide +kernel
theorem dX9_container_1 : decode cX9_container 1 = .ok (.iload_n 1, 1) := by decide +kernel
theorem dX9_container_2 : decode cX9_container 2 = .ok (.invokevirtual 227, 3) := by decide +kernel
theorem dX9_unitAt_0 : decode cX9_unitAt 0 = .ok (.aload_n 0, 1) := by decide +kernel
theorem dX9_unitAt_1 : decode cX9_unitAt 1 = .ok (.iload_n 1, 1) := by decide +kernel
theorem dX9_unitAt_2 : decode cX9_unitAt 2 = .ok (.invokevirtual 227, 3) := by decide +kernel
theorem dX9_copy_0 : decode cX9_copy 0 = .ok (.aload_n 0, 1) := by decide +kernel
theorem dX9_copy_1 : decode cX9_copy 1 = .ok (.iload_n 1, 1) := by decide +kernel
theorem dX9_copy_2 : decode cX9_copy 2 = .ok (.invokevirtual 51, 3) := by decide +kernel
theorem dX9_copy_5 : decode cX9_copy 5 = .ok (.aload_n 0, 1) := by decide +kernel
theorem dX9_copy_6 : decode cX9_copy 6 = .ok (.iload_n 1, 1) := by decide +kernel
theorem dX9_copy_7 : decode cX9_copy 7 = .ok (.invokevirtual 230, 3) := by decide +kernel
theorem dX9_copyPart_0 : decode cX9_copyPart 0 = .ok (.aload_n 0, 1) := by decide +kernel
theorem dX9_copyPart_1 : decode cX9_copyPart 1 = .ok (.iload_n 1, 1) := by decide +kernel
theorem dX9_copyPart_2 : decode cX9_copyPart 2 = .ok (.invokevirtual 204, 3) := by decide +kernel
theorem dX9_request_0 : decode cX9_request 0 = .ok (.iload_n 1, 1) := by decide +kernel
theorem dX9_request_1 : decode cX9_request 1 = .ok (.ifCond .lt 9, 3) := by decide +kernel
theorem dX9_request_10 : decode cX9_request 10 = .ok (.new 161, 3) := by decide +kernel
theorem dX9_request_13 : decode cX9_request 13 = .ok (.dup, 1) := by decide +kernel
theorem dX9_request_14 : decode cX9_request 14 = .ok (.ldc_w 328, 3) := by decide +kernel
theorem dX9_request_17 : decode cX9_request 17 = .ok (.invokespecial 165, 3) := by decide +kernel
theorem dX9_request_20 : decode cX9_request 20 = .ok (.athrow, 1) := by decide +kernel
theorem dX9_request_4 : decode cX9_request 4 = .ok (.iload_n 1, 1) := by decide +kernel
theorem dX9_request_5 : decode cX9_request 5 = .ok (.bipush 8, 2) := by decide +kernel
theorem dX9_request_7 : decode cX9_request 7 = .ok (.if_icmp .lt 14, 3) := by decide +kernel
theorem dX9_request_21 : decode cX9_request 21 = .ok (.aload_n 0, 1) := by decide +kernel
theorem dX9_request_22 : decode cX9_request 22 = .ok (.iload_n 2, 1) := by decide +kernel
theorem dX9_request_23 : decode cX9_request 23 = .ok (.invokevirtual 51, 3) := by decide +kernel
theorem dX9_request_26 : decode cX9_request 26 = .ok (.aload_n 0, 1) := by decide +kernel
theorem dX9_request_27 : decode cX9_request 27 = .ok (.iload_n 2, 1) := by decide +kernel
theorem dX9_request_28 : decode cX9_request 28 = .ok (.invokevirtual 230, 3) := by decide +kernel
theorem dX9_requestPart_0 : decode cX9_requestPart 0 = .ok (.aload_n 0, 1) := by decide +kernel
theorem dX9_requestPart_1 : decode cX9_requestPart 1 = .ok (.iload_n 1, 1) := by decide +kernel
theorem dX9_requestPart_2 : decode cX9_requestPart 2 = .ok (.invokevirtual 361, 3) := by decide +kernel
theorem dX9_cancel_0 : decode cX9_cancel 0 = .ok (.aload_n 0, 1) := by decide +kernel
theorem dX9_cancel_1 : decode cX9_cancel 1 = .ok (.iload_n 1, 1) := by decide +kernel
theorem dX9_cancel_2 : decode cX9_cancel 2 = .ok (.invokevirtual 361, 3) := by decide +kernel
theorem dX9_account_0 : decode cX9_account 0 = .ok (.iload_n 1, 1) := by decide +kernel
theorem dX9_account_1 : decode cX9_account 1 = .ok (.bipush 9, 2) := by decide +kernel
theorem dX9_account_3 : decode cX9_account 3 = .ok (.invokestatic 112, 3) := by decide +kernel
theorem dX9_account_6 : decode cX9_account 6 = .ok (.iload_n 1, 1) := by decide +kernel
theorem dX9_account_7 : decode cX9_account 7 = .ok (.tableswitch 147 0 8 #[49, 60, 71, 83, 94, 105, 116, 127, 135], 49) := by decide +kernel
theorem dX9_account_56 : decode cX9_account 56 = .ok (.aload_n 0, 1) := by decide +kernel
theorem dX9_account_57 : decode cX9_account 57 = .ok (.getfield 10, 3) := by decide +kernel
theorem dX9_account_60 : decode cX9_account 60 = .ok (.getfield 55, 3) := by decide +kernel
theorem dX9_account_63 : decode cX9_account 63 = .ok (.getfield 383, 3) := by decide +kernel
theorem dX9_account_66 : decode cX9_account 66 = .ok (.ireturn, 1) := by decide +kernel
theorem dX9_account_67 : decode cX9_account 67 = .ok (.aload_n 0, 1) := by decide +kernel
theorem dX9_account_68 : decode cX9_account 68 = .ok (.getfield 10, 3) := by decide +kernel
theorem dX9_account_71 : decode cX9_account 71 = .ok (.getfield 55, 3) := by decide +kernel
theorem dX9_account_74 : decode cX9_account 74 = .ok (.invokevirtual 386, 3) := by decide +kernel
theorem dX9_account_77 : decode cX9_account 77 = .ok (.ireturn, 1) := by decide +kernel
theorem dX9_account_78 : decode cX9_account 78 = .ok (.aload_n 0, 1) := by decide +kernel
theorem dX9_account_79 : decode cX9_account 79 = .ok (.getfield 10, 3) := by decide +kernel
theorem dX9_account_82 : decode cX9_account 82 = .ok (.getfield 55, 3) := by decide +kernel
theorem dX9_account_85 : decode cX9_account 85 = .ok (.iconst 0, 1) := by decide +kernel
theorem dX9_account_86 : decode cX9_account 86 = .ok (.invokevirtual 133, 3) := by decide +kernel
theorem dX9_account_89 : decode cX9_account 89 = .ok (.ireturn, 1) := by decide +kernel
theorem dX9_account_90 : decode cX9_account 90 = .ok (.aload_n 0, 1) := by decide +kernel
theorem dX9_account_91 : decode cX9_account 91 = .ok (.getfield 10, 3) := by decide +kernel
theorem dX9_account_94 : decode cX9_account 94 = .ok (.getfield 136, 3) := by decide +kernel
theorem dX9_account_97 : decode cX9_account 97 = .ok (.getfield 389, 3) := by decide +kernel
theorem dX9_account_100 : decode cX9_account 100 = .ok (.ireturn, 1) := by decide +kernel
theorem dX9_account_101 : decode cX9_account 101 = .ok (.aload_n 0, 1) := by decide +kernel
theorem dX9_account_102 : decode cX9_account 102 = .ok (.getfield 10, 3) := by decide +kernel
theorem dX9_account_105 : decode cX9_account 105 = .ok (.getfield 136, 3) := by decide +kernel
theorem dX9_account_108 : decode cX9_account 108 = .ok (.getfield 391, 3) := by decide +kernel
theorem dX9_account_111 : decode cX9_account 111 = .ok (.ireturn, 1) := by decide +kernel
theorem dX9_account_112 : decode cX9_account 112 = .ok (.aload_n 0, 1) := by decide +kernel
theorem dX9_account_113 : decode cX9_account 113 = .ok (.getfield 10, 3) := by decide +kernel
theorem dX9_account_116 : decode cX9_account 116 = .ok (.getfield 148, 3) := by decide +kernel
theorem dX9_account_119 : decode cX9_account 119 = .ok (.invokevirtual 394, 3) := by decide +kernel
theorem dX9_account_122 : decode cX9_account 122 = .ok (.ireturn, 1) := by decide +kernel
theorem dX9_account_123 : decode cX9_account 123 = .ok (.aload_n 0, 1) := by decide +kernel
theorem dX9_account_124 : decode cX9_account 124 = .ok (.getfield 10, 3) := by decide +kernel
theorem dX9_account_127 : decode cX9_account 127 = .ok (.getfield 314, 3) := by decide +kernel
theorem dX9_account_130 : decode cX9_account 130 = .ok (.getfield 330, 3) := by decide +kernel
theorem dX9_account_133 : decode cX9_account 133 = .ok (.ireturn, 1) := by decide +kernel
theorem dX9_account_134 : decode cX9_account 134 = .ok (.aload_n 0, 1) := by decide +kernel
theorem dX9_account_135 : decode cX9_account 135 = .ok (.getfield 10, 3) := by decide +kernel
theorem dX9_account_138 : decode cX9_account 138 = .ok (.invokevirtual 397, 3) := by decide +kernel
theorem dX9_account_141 : decode cX9_account 141 = .ok (.ireturn, 1) := by decide +kernel
theorem dX9_account_142 : decode cX9_account 142 = .ok (.aload_n 0, 1) := by decide +kernel
theorem dX9_account_143 : decode cX9_account 143 = .ok (.getfield 10, 3) := by decide +kernel
theorem dX9_account_146 : decode cX9_account 146 = .ok (.getfield 314, 3) := by decide +kernel
theorem dX9_account_149 : decode cX9_account 149 = .ok (.iconst (-1), 1) := by decide +kernel
theorem dX9_account_150 : decode cX9_account 150 = .ok (.invokevirtual 318, 3) := by decide +kernel
theorem dX9_account_153 : decode cX9_account 153 = .ok (.ireturn, 1) := by decide +kernel
theorem dX9_account_154 : decode cX9_account 154 = .ok (.aload_n 0, 1) := by decide +kernel
theorem dX9_account_155 : decode cX9_account 155 = .ok (.getfield 10, 3) := by decide +kernel
theorem dX9_account_158 : decode cX9_account 158 = .ok (.getfield 136, 3) := by decide +kernel
theorem dX9_account_161 : decode cX9_account 161 = .ok (.getfield 239, 3) := by decide +kernel
theorem dX9_account_164 : decode cX9_account 164 = .ok (.aload_n 0, 1) := by decide +kernel
theorem dX9_account_165 : decode cX9_account 165 = .ok (.getfield 10, 3) := by decide +kernel
theorem dX9_account_168 : decode cX9_account 168 = .ok (.getfield 55, 3) := by decide +kernel
theorem dX9_account_171 : decode cX9_account 171 = .ok (.invokevirtual 400, 3) := by decide +kernel
theorem dX9_account_174 : decode cX9_account 174 = .ok (.ireturn, 1) := by decide +kernel
theorem dX9_dayCount_0 : decode cX9_dayCount 0 = .ok (.iload_n 1, 1) := by decide +kernel
theorem dX9_dayCount_1 : decode cX9_dayCount 1 = .ok (.invokestatic 197, 3) := by decide +kernel
theorem dX9_dayCount_4 : decode cX9_dayCount 4 = .ok (.iload_n 2, 1) := by decide +kernel
theorem dX9_dayCount_5 : decode cX9_dayCount 5 = .ok (.iconst 3, 1) := by decide +kernel
theorem dX9_dayCount_6 : decode cX9_dayCount 6 = .ok (.invokestatic 112, 3) := by decide +kernel
theorem dX9_dayCount_9 : decode cX9_dayCount 9 = .ok (.iload_n 2, 1) := by decide +kernel
theorem dX9_dayCount_10 : decode cX9_dayCount 10 = .ok (.tableswitch 59 0 2 #[26, 38, 50], 26) := by decide +kernel
theorem dX9_dayCount_36 : decode cX9_dayCount 36 = .ok (.aload_n 0, 1) := by decide +kernel
theorem dX9_dayCount_37 : decode cX9_dayCount 37 = .ok (.getfield 10, 3) := by decide +kernel
theorem dX9_dayCount_40 : decode cX9_dayCount 40 = .ok (.getfield 314, 3) := by decide +kernel
theorem dX9_dayCount_43 : decode cX9_dayCount 43 = .ok (.iload_n 1, 1) := by decide +kernel
theorem dX9_dayCount_44 : decode cX9_dayCount 44 = .ok (.invokevirtual 404, 3) := by decide +kernel
theorem dX9_dayCount_47 : decode cX9_dayCount 47 = .ok (.ireturn, 1) := by decide +kernel
theorem dX9_dayCount_48 : decode cX9_dayCount 48 = .ok (.aload_n 0, 1) := by decide +kernel
theorem dX9_dayCount_49 : decode cX9_dayCount 49 = .ok (.getfield 10, 3) := by decide +kernel
theorem dX9_dayCount_52 : decode cX9_dayCount 52 = .ok (.getfield 314, 3) := by decide +kernel
theorem dX9_dayCount_55 : decode cX9_dayCount 55 = .ok (.iload_n 1, 1) := by decide +kernel
theorem dX9_dayCount_56 : decode cX9_dayCount 56 = .ok (.invokevirtual 407, 3) := by decide +kernel
theorem dX9_dayCount_59 : decode cX9_dayCount 59 = .ok (.ireturn, 1) := by decide +kernel
theorem dX9_dayCount_60 : decode cX9_dayCount 60 = .ok (.aload_n 0, 1) := by decide +kernel
theorem dX9_dayCount_61 : decode cX9_dayCount 61 = .ok (.getfield 10, 3) := by decide +kernel
theorem dX9_dayCount_64 : decode cX9_dayCount 64 = .ok (.iload_n 1, 1) := by decide +kernel
theorem dX9_dayCount_65 : decode cX9_dayCount 65 = .ok (.invokevirtual 410, 3) := by decide +kernel
theorem dX9_dayCount_68 : decode cX9_dayCount 68 = .ok (.ireturn, 1) := by decide +kernel
theorem dX9_dayCount_69 : decode cX9_dayCount 69 = .ok (.aload_n 0, 1) := by decide +kernel
theorem dX9_dayCount_70 : decode cX9_dayCount 70 = .ok (.getfield 10, 3) := by decide +kernel
theorem dX9_dayCount_73 : decode cX9_dayCount 73 = .ok (.iload_n 1, 1) := by decide +kernel
theorem dX9_dayCount_74 : decode cX9_dayCount 74 = .ok (.invokevirtual 413, 3) := by decide +kernel
theorem dX9_dayCount_77 : decode cX9_dayCount 77 = .ok (.ireturn, 1) := by decide +kernel
theorem dX9_openShare_0 : decode cX9_openShare 0 = .ok (.iload_n 1, 1) := by decide +kernel
theorem dX9_openShare_1 : decode cX9_openShare 1 = .ok (.invokestatic 197, 3) := by decide +kernel
theorem dX9_openShare_4 : decode cX9_openShare 4 = .ok (.aload_n 0, 1) := by decide +kernel
theorem dX9_openShare_5 : decode cX9_openShare 5 = .ok (.getfield 10, 3) := by decide +kernel
theorem dX9_openShare_8 : decode cX9_openShare 8 = .ok (.getfield 55, 3) := by decide +kernel
theorem dX9_openShare_11 : decode cX9_openShare 11 = .ok (.iconst 0, 1) := by decide +kernel
theorem dX9_openShare_12 : decode cX9_openShare 12 = .ok (.invokevirtual 133, 3) := by decide +kernel
theorem dX9_openShare_15 : decode cX9_openShare 15 = .ok (.istore_n 2, 1) := by decide +kernel
theorem dX9_openShare_16 : decode cX9_openShare 16 = .ok (.iload_n 2, 1) := by decide +kernel
theorem dX9_openShare_17 : decode cX9_openShare 17 = .ok (.ifCond .ne 14, 3) := by decide +kernel
theorem dX9_openShare_20 : decode cX9_openShare 20 = .ok (.new 416, 3) := by decide +kernel
theorem dX9_openShare_23 : decode cX9_openShare 23 = .ok (.dup, 1) := by decide +kernel
theorem dX9_openShare_24 : decode cX9_openShare 24 = .ok (.ldc_w 418, 3) := by decide +kernel
theorem dX9_openShare_27 : decode cX9_openShare 27 = .ok (.invokespecial 420, 3) := by decide +kernel
theorem dX9_openShare_30 : decode cX9_openShare 30 = .ok (.athrow, 1) := by decide +kernel
theorem dX9_text_0 : decode cX9_text 0 = .ok (.iload_n 1, 1) := by decide +kernel
theorem dX9_text_1 : decode cX9_text 1 = .ok (.ifCond .lt 14, 3) := by decide +kernel
theorem dX9_text_15 : decode cX9_text 15 = .ok (.new 161, 3) := by decide +kernel
theorem dX9_text_18 : decode cX9_text 18 = .ok (.dup, 1) := by decide +kernel
theorem dX9_text_19 : decode cX9_text 19 = .ok (.ldc_w 474, 3) := by decide +kernel
theorem dX9_text_22 : decode cX9_text 22 = .ok (.invokespecial 165, 3) := by decide +kernel
theorem dX9_text_25 : decode cX9_text 25 = .ok (.athrow, 1) := by decide +kernel
theorem dX9_text_4 : decode cX9_text 4 = .ok (.iload_n 1, 1) := by decide +kernel
theorem dX9_text_5 : decode cX9_text 5 = .ok (.aload_n 0, 1) := by decide +kernel
theorem dX9_text_6 : decode cX9_text 6 = .ok (.getfield 47, 3) := by decide +kernel
theorem dX9_text_9 : decode cX9_text 9 = .ok (.invokevirtual 472, 3) := by decide +kernel
theorem dX9_text_12 : decode cX9_text 12 = .ok (.if_icmp .lt 14, 3) := by decide +kernel
theorem dX9_undo_0 : decode cX9_undo 0 = .ok (.aload_n 0, 1) := by decide +kernel
theorem dX9_undo_1 : decode cX9_undo 1 = .ok (.getfield 16, 3) := by decide +kernel
theorem dX9_undo_4 : decode cX9_undo 4 = .ok (.aload_n 0, 1) := by decide +kernel
theorem dX9_undo_5 : decode cX9_undo 5 = .ok (.getfield 20, 3) := by decide +kernel
theorem dX9_undo_8 : decode cX9_undo 8 = .ok (.aaload, 1) := by decide +kernel
theorem dX9_undo_9 : decode cX9_undo 9 = .ok (.astore_n 1, 1) := by decide +kernel
theorem dX9_undo_10 : decode cX9_undo 10 = .ok (.aload_n 0, 1) := by decide +kernel
theorem dX9_undo_11 : decode cX9_undo 11 = .ok (.getfield 24, 3) := by decide +kernel
theorem dX9_undo_14 : decode cX9_undo 14 = .ok (.ifCond .eq 7, 3) := by decide +kernel
theorem dX9_undo_21 : decode cX9_undo 21 = .ok (.new 79, 3) := by decide +kernel
theorem dX9_undo_24 : decode cX9_undo 24 = .ok (.dup, 1) := by decide +kernel
theorem dX9_undo_25 : decode cX9_undo 25 = .ok (.ldc_w 480, 3) := by decide +kernel
theorem dX9_undo_28 : decode cX9_undo 28 = .ok (.invokespecial 83, 3) := by decide +kernel
theorem dX9_undo_31 : decode cX9_undo 31 = .ok (.athrow, 1) := by decide +kernel
theorem dX9_restore_0 : decode cX9_restore 0 = .ok (.aload_n 0, 1) := by decide +kernel
theorem dX9_restore_1 : decode cX9_restore 1 = .ok (.getfield 27, 3) := by decide +kernel
theorem dX9_restore_4 : decode cX9_restore 4 = .ok (.ifnonnull 14, 3) := by decide +kernel
theorem dX9_restore_7 : decode cX9_restore 7 = .ok (.new 79, 3) := by decide +kernel
theorem dX9_restore_10 : decode cX9_restore 10 = .ok (.dup, 1) := by decide +kernel
theorem dX9_restore_11 : decode cX9_restore 11 = .ok (.ldc_w 486, 3) := by decide +kernel
theorem dX9_restore_14 : decode cX9_restore 14 = .ok (.invokespecial 83, 3) := by decide +kernel
theorem dX9_restore_17 : decode cX9_restore 17 = .ok (.athrow, 1) := by decide +kernel
theorem fl_2 : (2 : Int32).toInt = 2 := by decide
theorem fl_4 : (4 : Int32).toInt = 4 := by decide
theorem fl_5 : (5 : Int32).toInt = 5 := by decide
theorem fl_6 : (6 : Int32).toInt = 6 := by decide
theorem fl_7 : (7 : Int32).toInt = 7 := by decide
theorem fl_8 : (8 : Int32).toInt = 8 := by decide
theorem fl_9 : (9 : Int32).toInt = 9 := by decide
theorem fl_10 : (10 : Int32).toInt = 10 := by decide
theorem fl_11 : (11 : Int32).toInt = 11 := by decide
theorem fq_38 (x0 x1 : Int32) (h0 : ¬ (x0 = 0)) : (¬ (x0 = 0) ∨ ¬ (x1 = 0)) := by first | decide | (simp only [fz_lt, fz_le, fz_eq, true_and, and_true, false_and, and_false, true_or, or_true, false_or, or_false, not_true_eq_false, not_false_eq_true, fl_m1, fl_0, fl_1, fl_2, fl_3, fl_4, fl_5, fl_6, fl_7, fl_8, fl_9, fl_10, fl_11, fl_20, fl_200, fl_9999] at *; omega) | (simp only [fz_lt, fz_le, fz_eq, true_and, and_true, false_and, and_false, true_or, or_true, false_or, or_false, not_true_eq_false, not_false_eq_true, fl_m1, fl_0, fl_1, fl_2, fl_3, fl_4, fl_5, fl_6, fl_7, fl_8, fl_9, fl_10, fl_11, fl_20, fl_200, fl_9999] at *; done) | omega
theorem fq_39 (x0 : Int32) (h0 : ¬ (x0 = 0)) : (¬ ((0 : Int32) = 0) ∨ ¬ (x0 = 0)) := by first | decide | (simp only [fz_lt, fz_le, fz_eq, true_and, and_true, false_and, and_false, true_or, or_true, false_or, or_false, not_true_eq_false, not_false_eq_true, fl_m1, fl_0, fl_1, fl_2, fl_3, fl_4, fl_5, fl_6, fl_7, fl_8, fl_9, fl_10, fl_11, fl_20, fl_200, fl_9999] at *; omega) | (simp only [fz_lt, fz_le, fz_eq, true_and, and_true, false_and, and_false, true_or, or_true, false_or, or_false, not_true_eq_false, not_false_eq_true, fl_m1, fl_0, fl_1, fl_2, fl_3, fl_4, fl_5, fl_6, fl_7, fl_8, fl_9, fl_10, fl_11, fl_20, fl_200, fl_9999] at *; done) | omega
theorem fq_40  : ((0 : Int32) = 0 ∧ (0 : Int32) = 0) := by first | decide | (simp only [fz_lt, fz_le, fz_eq, true_and, and_true, false_and, and_false, true_or, or_true, false_or, or_false, not_true_eq_false, not_false_eq_true, fl_m1, fl_0, fl_1, fl_2, fl_3, fl_4, fl_5, fl_6, fl_7, fl_8, fl_9, fl_10, fl_11, fl_20, fl_200, fl_9999] at *; omega) | (simp only [fz_lt, fz_le, fz_eq, true_and, and_true, false_and, and_false, true_or, or_true, false_or, or_false, not_true_eq_false, not_false_eq_true, fl_m1, fl_0, fl_1, fl_2, fl_3, fl_4, fl_5, fl_6, fl_7, fl_8, fl_9, fl_10, fl_11, fl_20, fl_200, fl_9999] at *; done) | omega
theorem fq_41 (x0 : Int32) (h0 : (x0 < 0 ∨ 11 < x0)) : ((0 : Int32) = 0 ∧ ¬ ((0 ≤ x0 ∧ x0 ≤ 11))) := by first | decide | (simp only [fz_lt, fz_le, fz_eq, true_and, and_true, false_and, and_false, true_or, or_true, false_or, or_false, not_true_eq_false, not_false_eq_true, fl_m1, fl_0, fl_1, fl_2, fl_3, fl_4, fl_5, fl_6, fl_7, fl_8, fl_9, fl_10, fl_11, fl_20, fl_200, fl_9999] at *; omega) | (simp only [fz_lt, fz_le, fz_eq, true_and, and_true, false_and, and_false, true_or, or_true, false_or, or_false, not_true_eq_false, not_false_eq_true, fl_m1, fl_0, fl_1, fl_2, fl_3, fl_4, fl_5, fl_6, fl_7, fl_8, fl_9, fl_10, fl_11, fl_20, fl_200, fl_9999] at *; done) | omega
theorem fq_42  : ((0 : Int32) = 0 ∧ (1 : Int32) = 1) := by first | decide | (simp only [fz_lt, fz_le, fz_eq, true_and, and_true, false_and, and_false, true_or, or_true, false_or, or_false, not_true_eq_false, not_false_eq_true, fl_m1, fl_0, fl_1, fl_2, fl_3, fl_4, fl_5, fl_6, fl_7, fl_8, fl_9, fl_10, fl_11, fl_20, fl_200, fl_9999] at *; omega) | (simp only [fz_lt, fz_le, fz_eq, true_and, and_true, false_and, and_false, true_or, or_true, false_or, or_false, not_true_eq_false, not_false_eq_true, fl_m1, fl_0, fl_1, fl_2, fl_3, fl_4, fl_5, fl_6, fl_7, fl_8, fl_9, fl_10, fl_11, fl_20, fl_200, fl_9999] at *; done) | omega
theorem fq_43  : ((0 : Int32) = 0 ∧ (2 : Int32) = 2) := by first | decide | (simp only [fz_lt, fz_le, fz_eq, true_and, and_true, false_and, and_false, true_or, or_true, false_or, or_false, not_true_eq_false, not_false_eq_true, fl_m1, fl_0, fl_1, fl_2, fl_3, fl_4, fl_5, fl_6, fl_7, fl_8, fl_9, fl_10, fl_11, fl_20, fl_200, fl_9999] at *; omega) | (simp only [fz_lt, fz_le, fz_eq, true_and, and_true, false_and, and_false, true_or, or_true, false_or, or_false, not_true_eq_false, not_false_eq_true, fl_m1, fl_0, fl_1, fl_2, fl_3, fl_4, fl_5, fl_6, fl_7, fl_8, fl_9, fl_10, fl_11, fl_20, fl_200, fl_9999] at *; done) | omega
theorem fq_44  : ((0 : Int32) = 0 ∧ ((3 : Int32) ≤ 3 ∧ (3 : Int32) ≤ 5)) := by first | decide | (simp only [fz_lt, fz_le, fz_eq, true_and, and_true, false_and, and_false, true_or, or_true, false_or, or_false, not_true_eq_false, not_false_eq_true, fl_m1, fl_0, fl_1, fl_2, fl_3, fl_4, fl_5, fl_6, fl_7, fl_8, fl_9, fl_10, fl_11, fl_20, fl_200, fl_9999] at *; omega) | (simp only [fz_lt, fz_le, fz_eq, true_and, and_true, false_and, and_false, true_or, or_true, false_or, or_false, not_true_eq_false, not_false_eq_true, fl_m1, fl_0, fl_1, fl_2, fl_3, fl_4, fl_5, fl_6, fl_7, fl_8, fl_9, fl_10, fl_11, fl_20, fl_200, fl_9999] at *; done) | omega
theorem fq_45  : ((0 : Int32) = 0 ∧ ((3 : Int32) ≤ 4 ∧ (4 : Int32) ≤ 5)) := by first | decide | (simp only [fz_lt, fz_le, fz_eq, true_and, and_true, false_and, and_false, true_or, or_true, false_or, or_false, not_true_eq_false, not_false_eq_true, fl_m1, fl_0, fl_1, fl_2, fl_3, fl_4, fl_5, fl_6, fl_7, fl_8, fl_9, fl_10, fl_11, fl_20, fl_200, fl_9999] at *; omega) | (simp only [fz_lt, fz_le, fz_eq, true_and, and_true, false_and, and_false, true_or, or_true, false_or, or_false, not_true_eq_false, not_false_eq_true, fl_m1, fl_0, fl_1, fl_2, fl_3, fl_4, fl_5, fl_6, fl_7, fl_8, fl_9, fl_10, fl_11, fl_20, fl_200, fl_9999] at *; done) | omega
theorem fq_46  : ((0 : Int32) = 0 ∧ ((3 : Int32) ≤ 5 ∧ (5 : Int32) ≤ 5)) := by first | decide | (simp only [fz_lt, fz_le, fz_eq, true_and, and_true, false_and, and_false, true_or, or_true, false_or, or_false, not_true_eq_false, not_false_eq_true, fl_m1, fl_0, fl_1, fl_2, fl_3, fl_4, fl_5, fl_6, fl_7, fl_8, fl_9, fl_10, fl_11, fl_20, fl_200, fl_9999] at *; omega) | (simp only [fz_lt, fz_le, fz_eq, true_and, and_true, false_and, and_false, true_or, or_true, false_or, or_false, not_true_eq_false, not_false_eq_true, fl_m1, fl_0, fl_1, fl_2, fl_3, fl_4, fl_5, fl_6, fl_7, fl_8, fl_9, fl_10, fl_11, fl_20, fl_200, fl_9999] at *; done) | omega
theorem fq_47  : ((0 : Int32) = 0 ∧ ((6 : Int32) ≤ 6 ∧ (6 : Int32) ≤ 8)) := by first | decide | (simp only [fz_lt, fz_le, fz_eq, true_and, and_true, false_and, and_false, true_or, or_true, false_or, or_false, not_true_eq_false, not_false_eq_true, fl_m1, fl_0, fl_1, fl_2, fl_3, fl_4, fl_5, fl_6, fl_7, fl_8, fl_9, fl_10, fl_11, fl_20, fl_200, fl_9999] at *; omega) | (simp only [fz_lt, fz_le, fz_eq, true_and, and_true, false_and, and_false, true_or, or_true, false_or, or_false, not_true_eq_false, not_false_eq_true, fl_m1, fl_0, fl_1, fl_2, fl_3, fl_4, fl_5, fl_6, fl_7, fl_8, fl_9, fl_10, fl_11, fl_20, fl_200, fl_9999] at *; done) | omega
theorem fq_48  : ((0 : Int32) = 0 ∧ ((6 : Int32) ≤ 7 ∧ (7 : Int32) ≤ 8)) := by first | decide | (simp only [fz_lt, fz_le, fz_eq, true_and, and_true, false_and, and_false, true_or, or_true, false_or, or_false, not_true_eq_false, not_false_eq_true, fl_m1, fl_0, fl_1, fl_2, fl_3, fl_4, fl_5, fl_6, fl_7, fl_8, fl_9, fl_10, fl_11, fl_20, fl_200, fl_9999] at *; omega) | (simp only [fz_lt, fz_le, fz_eq, true_and, and_true, false_and, and_false, true_or, or_true, false_or, or_false, not_true_eq_false, not_false_eq_true, fl_m1, fl_0, fl_1, fl_2, fl_3, fl_4, fl_5, fl_6, fl_7, fl_8, fl_9, fl_10, fl_11, fl_20, fl_200, fl_9999] at *; done) | omega
theorem fq_49  : ((0 : Int32) = 0 ∧ ((6 : Int32) ≤ 8 ∧ (8 : Int32) ≤ 8)) := by first | decide | (simp only [fz_lt, fz_le, fz_eq, true_and, and_true, false_and, and_false, true_or, or_true, false_or, or_false, not_true_eq_false, not_false_eq_true, fl_m1, fl_0, fl_1, fl_2, fl_3, fl_4, fl_5, fl_6, fl_7, fl_8, fl_9, fl_10, fl_11, fl_20, fl_200, fl_9999] at *; omega) | (simp only [fz_lt, fz_le, fz_eq, true_and, and_true, false_and, and_false, true_or, or_true, false_or, or_false, not_true_eq_false, not_false_eq_true, fl_m1, fl_0, fl_1, fl_2, fl_3, fl_4, fl_5, fl_6, fl_7, fl_8, fl_9, fl_10, fl_11, fl_20, fl_200, fl_9999] at *; done) | omega
theorem fq_50  : ((0 : Int32) = 0 ∧ ((9 : Int32) ≤ 9 ∧ (9 : Int32) ≤ 10)) := by first | decide | (simp only [fz_lt, fz_le, fz_eq, true_and, and_true, false_and, and_false, true_or, or_true, false_or, or_false, not_true_eq_false, not_false_eq_true, fl_m1, fl_0, fl_1, fl_2, fl_3, fl_4, fl_5, fl_6, fl_7, fl_8, fl_9, fl_10, fl_11, fl_20, fl_200, fl_9999] at *; omega) | (simp only [fz_lt, fz_le, fz_eq, true_and, and_true, false_and, and_false, true_or, or_true, false_or, or_false, not_true_eq_false, not_false_eq_true, fl_m1, fl_0, fl_1, fl_2, fl_3, fl_4, fl_5, fl_6, fl_7, fl_8, fl_9, fl_10, fl_11, fl_20, fl_200, fl_9999] at *; done) | omega
theorem fq_51  : ((0 : Int32) = 0 ∧ ((9 : Int32) ≤ 10 ∧ (10 : Int32) ≤ 10)) := by first | decide | (simp only [fz_lt, fz_le, fz_eq, true_and, and_true, false_and, and_false, true_or, or_true, false_or, or_false, not_true_eq_false, not_false_eq_true, fl_m1, fl_0, fl_1, fl_2, fl_3, fl_4, fl_5, fl_6, fl_7, fl_8, fl_9, fl_10, fl_11, fl_20, fl_200, fl_9999] at *; omega) | (simp only [fz_lt, fz_le, fz_eq, true_and, and_true, false_and, and_false, true_or, or_true, false_or, or_false, not_true_eq_false, not_false_eq_true, fl_m1, fl_0, fl_1, fl_2, fl_3, fl_4, fl_5, fl_6, fl_7, fl_8, fl_9, fl_10, fl_11, fl_20, fl_200, fl_9999] at *; done) | omega
theorem fq_52 (x0 : Int32) (h0 : (0 ≤ x0 ∧ x0 ≤ 11)) (h1 : ¬ (x0 = 0)) (h2 : ¬ (x0 = 1)) (h3 : ¬ (x0 = 2)) (h4 : ¬ (x0 = 3)) (h5 : ¬ (x0 = 4)) (h6 : ¬ (x0 = 5)) (h7 : ¬ (x0 = 6)) (h8 : ¬ (x0 = 7)) (h9 : ¬ (x0 = 8)) (h10 : ¬ (x0 = 9)) (h11 : ¬ (x0 = 10)) : x0 = 11 := by first | decide | (simp only [fz_lt, fz_le, fz_eq, true_and, and_true, false_and, and_false, true_or, or_true, false_or, or_false, not_true_eq_false, not_false_eq_true, fl_m1, fl_0, fl_1, fl_2, fl_3, fl_4, fl_5, fl_6, fl_7, fl_8, fl_9, fl_10, fl_11, fl_20, fl_200, fl_9999] at *; omega) | (simp only [fz_lt, fz_le, fz_eq, true_and, and_true, false_and, and_false, true_or, or_true, false_or, or_false, not_true_eq_false, not_false_eq_true, fl_m1, fl_0, fl_1, fl_2, fl_3, fl_4, fl_5, fl_6, fl_7, fl_8, fl_9, fl_10, fl_11, fl_20, fl_200, fl_9999] at *; done) | omega
theorem fq_53  : ((0 : Int32) = 0 ∧ (11 : Int32) = 11) := by first | decide | (simp only [fz_lt, fz_le, fz_eq, true_and, and_true, false_and, and_false, true_or, or_true, false_or, or_false, not_true_eq_false, not_false_eq_true, fl_m1, fl_0, fl_1, fl_2, fl_3, fl_4, fl_5, fl_6, fl_7, fl_8, fl_9, fl_10, fl_11, fl_20, fl_200, fl_9999] at *; omega) | (simp only [fz_lt, fz_le, fz_eq, true_and, and_true, false_and, and_false, true_or, or_true, false_or, or_false, not_true_eq_false, not_false_eq_true, fl_m1, fl_0, fl_1, fl_2, fl_3, fl_4, fl_5, fl_6, fl_7, fl_8, fl_9, fl_10, fl_11, fl_20, fl_200, fl_9999] at *; done) | omega
theorem fq_54 (x0 : Int32) (h0 : (x0 < 0 ∨ 2 < x0)) : ((0 : Int32) = 0 ∧ ¬ ((0 ≤ x0 ∧ x0 ≤ 2))) := by first | decide | (simp only [fz_lt, fz_le, fz_eq, true_and, and_true, false_and, and_false, true_or, or_true, false_or, or_false, not_true_eq_false, not_false_eq_true, fl_m1, fl_0, fl_1, fl_2, fl_3, fl_4, fl_5, fl_6, fl_7, fl_8, fl_9, fl_10, fl_11, fl_20, fl_200, fl_9999] at *; omega) | (simp only [fz_lt, fz_le, fz_eq, true_and, and_true, false_and, and_false, true_or, or_true, false_or, or_false, not_true_eq_false, not_false_eq_true, fl_m1, fl_0, fl_1, fl_2, fl_3, fl_4, fl_5, fl_6, fl_7, fl_8, fl_9, fl_10, fl_11, fl_20, fl_200, fl_9999] at *; done) | omega
theorem fq_55  : ((0 : Int32) = 0 ∧ ((1 : Int32) ≤ 1 ∧ (1 : Int32) ≤ 2)) := by first | decide | (simp only [fz_lt, fz_le, fz_eq, true_and, and_true, false_and, and_false, true_or, or_true, false_or, or_false, not_true_eq_false, not_false_eq_true, fl_m1, fl_0, fl_1, fl_2, fl_3, fl_4, fl_5, fl_6, fl_7, fl_8, fl_9, fl_10, fl_11, fl_20, fl_200, fl_9999] at *; omega) | (simp only [fz_lt, fz_le, fz_eq, true_and, and_true, false_and, and_false, true_or, or_true, false_or, or_false, not_true_eq_false, not_false_eq_true, fl_m1, fl_0, fl_1, fl_2, fl_3, fl_4, fl_5, fl_6, fl_7, fl_8, fl_9, fl_10, fl_11, fl_20, fl_200, fl_9999] at *; done) | omega
theorem fq_56 (x0 : Int32) (h0 : (0 ≤ x0 ∧ x0 ≤ 2)) (h1 : ¬ (x0 = 0)) (h2 : ¬ (x0 = 1)) : x0 = 2 := by first | decide | (simp only [fz_lt, fz_le, fz_eq, true_and, and_true, false_and, and_false, true_or, or_true, false_or, or_false, not_true_eq_false, not_false_eq_true, fl_m1, fl_0, fl_1, fl_2, fl_3, fl_4, fl_5, fl_6, fl_7, fl_8, fl_9, fl_10, fl_11, fl_20, fl_200, fl_9999] at *; omega) | (simp only [fz_lt, fz_le, fz_eq, true_and, and_true, false_and, and_false, true_or, or_true, false_or, or_false, not_true_eq_false, not_false_eq_true, fl_m1, fl_0, fl_1, fl_2, fl_3, fl_4, fl_5, fl_6, fl_7, fl_8, fl_9, fl_10, fl_11, fl_20, fl_200, fl_9999] at *; done) | omega
theorem fq_57  : ((0 : Int32) = 0 ∧ ((1 : Int32) ≤ 2 ∧ (2 : Int32) ≤ 2)) := by first | decide | (simp only [fz_lt, fz_le, fz_eq, true_and, and_true, false_and, and_false, true_or, or_true, false_or, or_false, not_true_eq_false, not_false_eq_true, fl_m1, fl_0, fl_1, fl_2, fl_3, fl_4, fl_5, fl_6, fl_7, fl_8, fl_9, fl_10, fl_11, fl_20, fl_200, fl_9999] at *; omega) | (simp only [fz_lt, fz_le, fz_eq, true_and, and_true, false_and, and_false, true_or, or_true, false_or, or_false, not_true_eq_false, not_false_eq_true, fl_m1, fl_0, fl_1, fl_2, fl_3, fl_4, fl_5, fl_6, fl_7, fl_8, fl_9, fl_10, fl_11, fl_20, fl_200, fl_9999] at *; done) | omega
theorem fq_58 (x0 : Int32) (h0 : ¬ ((0 ≤ x0 ∧ x0 ≤ 9999))) : ((0 : Int32) = 0 ∧ ¬ ((0 ≤ x0 ∧ x0 ≤ 9999))) := by first | decide | (simp only [fz_lt, fz_le, fz_eq, true_and, and_true, false_and, and_false, true_or, or_true, false_or, or_false, not_true_eq_false, not_false_eq_true, fl_m1, fl_0, fl_1, fl_2, fl_3, fl_4, fl_5, fl_6, fl_7, fl_8, fl_9, fl_10, fl_11, fl_20, fl_200, fl_9999] at *; omega) | (simp only [fz_lt, fz_le, fz_eq, true_and, and_true, false_and, and_false, true_or, or_true, false_or, or_false, not_true_eq_false, not_false_eq_true, fl_m1, fl_0, fl_1, fl_2, fl_3, fl_4, fl_5, fl_6, fl_7, fl_8, fl_9, fl_10, fl_11, fl_20, fl_200, fl_9999] at *; done) | omega
theorem fq_59 (x0 : Int32) (h0 : (0 ≤ x0 ∧ x0 ≤ 9999)) : ((0 : Int32) = 0 ∧ (0 ≤ x0 ∧ x0 ≤ 9999)) := by first | decide | (simp only [fz_lt, fz_le, fz_eq, true_and, and_true, false_and, and_false, true_or, or_true, false_or, or_false, not_true_eq_false, not_false_eq_true, fl_m1, fl_0, fl_1, fl_2, fl_3, fl_4, fl_5, fl_6, fl_7, fl_8, fl_9, fl_10, fl_11, fl_20, fl_200, fl_9999] at *; omega) | (simp only [fz_lt, fz_le, fz_eq, true_and, and_true, false_and, and_false, true_or, or_true, false_or, or_false, not_true_eq_false, not_false_eq_true, fl_m1, fl_0, fl_1, fl_2, fl_3, fl_4, fl_5, fl_6, fl_7, fl_8, fl_9, fl_10, fl_11, fl_20, fl_200, fl_9999] at *; done) | omega
theorem fq_60 (x0 x1 : Int32) (h0 : x0 < 0) : (¬ ((0 ≤ x0 ∧ x0 ≤ 7)) ∨ ¬ (x1 = 0)) := by first | decide | (simp only [fz_lt, fz_le, fz_eq, true_and, and_true, false_and, and_false, true_or, or_true, false_or, or_false, not_true_eq_false, not_false_eq_true, fl_m1, fl_0, fl_1, fl_2, fl_3, fl_4, fl_5, fl_6, fl_7, fl_8, fl_9, fl_10, fl_11, fl_20, fl_200, fl_9999] at *; omega) | (simp only [fz_lt, fz_le, fz_eq, true_and, and_true, false_and, and_false, true_or, or_true, false_or, or_false, not_true_eq_false, not_false_eq_true, fl_m1, fl_0, fl_1, fl_2, fl_3, fl_4, fl_5, fl_6, fl_7, fl_8, fl_9, fl_10, fl_11, fl_20, fl_200, fl_9999] at *; done) | omega
theorem fq_61 (x0 x1 : Int32) (h0 : ¬ (x1 = 0)) : (¬ ((0 ≤ x0 ∧ x0 ≤ 7)) ∨ ¬ (x1 = 0)) := by first | decide | (simp only [fz_lt, fz_le, fz_eq, true_and, and_true, false_and, and_false, true_or, or_true, false_or, or_false, not_true_eq_false, not_false_eq_true, fl_m1, fl_0, fl_1, fl_2, fl_3, fl_4, fl_5, fl_6, fl_7, fl_8, fl_9, fl_10, fl_11, fl_20, fl_200, fl_9999] at *; omega) | (simp only [fz_lt, fz_le, fz_eq, true_and, and_true, false_and, and_false, true_or, or_true, false_or, or_false, not_true_eq_false, not_false_eq_true, fl_m1, fl_0, fl_1, fl_2, fl_3, fl_4, fl_5, fl_6, fl_7, fl_8, fl_9, fl_10, fl_11, fl_20, fl_200, fl_9999] at *; done) | omega
theorem fq_62 (x0 : Int32) (h0 : ¬ (x0 < 0)) (h1 : x0 < 8) : ((0 ≤ x0 ∧ x0 ≤ 7) ∧ (0 : Int32) = 0) := by first | decide | (simp only [fz_lt, fz_le, fz_eq, true_and, and_true, false_and, and_false, true_or, or_true, false_or, or_false, not_true_eq_false, not_false_eq_true, fl_m1, fl_0, fl_1, fl_2, fl_3, fl_4, fl_5, fl_6, fl_7, fl_8, fl_9, fl_10, fl_11, fl_20, fl_200, fl_9999] at *; omega) | (simp only [fz_lt, fz_le, fz_eq, true_and, and_true, false_and, and_false, true_or, or_true, false_or, or_false, not_true_eq_false, not_false_eq_true, fl_m1, fl_0, fl_1, fl_2, fl_3, fl_4, fl_5, fl_6, fl_7, fl_8, fl_9, fl_10, fl_11, fl_20, fl_200, fl_9999] at *; done) | omega
theorem fq_63 (x0 x1 : Int32) (h0 : ¬ (x0 < 8)) : (¬ ((0 ≤ x0 ∧ x0 ≤ 7)) ∨ ¬ (x1 = 0)) := by first | decide | (simp only [fz_lt, fz_le, fz_eq, true_and, and_true, false_and, and_false, true_or, or_true, false_or, or_false, not_true_eq_false, not_false_eq_true, fl_m1, fl_0, fl_1, fl_2, fl_3, fl_4, fl_5, fl_6, fl_7, fl_8, fl_9, fl_10, fl_11, fl_20, fl_200, fl_9999] at *; omega) | (simp only [fz_lt, fz_le, fz_eq, true_and, and_true, false_and, and_false, true_or, or_true, false_or, or_false, not_true_eq_false, not_false_eq_true, fl_m1, fl_0, fl_1, fl_2, fl_3, fl_4, fl_5, fl_6, fl_7, fl_8, fl_9, fl_10, fl_11, fl_20, fl_200, fl_9999] at *; done) | omega
theorem fq_64 (x0 : Int32) (h0 : (x0 < 0 ∨ 9 < x0)) : ¬ ((0 ≤ x0 ∧ x0 ≤ 9)) := by first | decide | (simp only [fz_lt, fz_le, fz_eq, true_and, and_true, false_and, and_false, true_or, or_true, false_or, or_false, not_true_eq_false, not_false_eq_true, fl_m1, fl_0, fl_1, fl_2, fl_3, fl_4, fl_5, fl_6, fl_7, fl_8, fl_9, fl_10, fl_11, fl_20, fl_200, fl_9999] at *; omega) | (simp only [fz_lt, fz_le, fz_eq, true_and, and_true, false_and, and_false, true_or, or_true, false_or, or_false, not_true_eq_false, not_false_eq_true, fl_m1, fl_0, fl_1, fl_2, fl_3, fl_4, fl_5, fl_6, fl_7, fl_8, fl_9, fl_10, fl_11, fl_20, fl_200, fl_9999] at *; done) | omega
theorem fq_65  : ((1 : Int32) ≤ 1 ∧ (1 : Int32) ≤ 9) := by first | decide | (simp only [fz_lt, fz_le, fz_eq, true_and, and_true, false_and, and_false, true_or, or_true, false_or, or_false, not_true_eq_false, not_false_eq_true, fl_m1, fl_0, fl_1, fl_2, fl_3, fl_4, fl_5, fl_6, fl_7, fl_8, fl_9, fl_10, fl_11, fl_20, fl_200, fl_9999] at *; omega) | (simp only [fz_lt, fz_le, fz_eq, true_and, and_true, false_and, and_false, true_or, or_true, false_or, or_false, not_true_eq_false, not_false_eq_true, fl_m1, fl_0, fl_1, fl_2, fl_3, fl_4, fl_5, fl_6, fl_7, fl_8, fl_9, fl_10, fl_11, fl_20, fl_200, fl_9999] at *; done) | omega
theorem fq_66  : ((1 : Int32) ≤ 2 ∧ (2 : Int32) ≤ 9) := by first | decide | (simp only [fz_lt, fz_le, fz_eq, true_and, and_true, false_and, and_false, true_or, or_true, false_or, or_false, not_true_eq_false, not_false_eq_true, fl_m1, fl_0, fl_1, fl_2, fl_3, fl_4, fl_5, fl_6, fl_7, fl_8, fl_9, fl_10, fl_11, fl_20, fl_200, fl_9999] at *; omega) | (simp only [fz_lt, fz_le, fz_eq, true_and, and_true, false_and, and_false, true_or, or_true, false_or, or_false, not_true_eq_false, not_false_eq_true, fl_m1, fl_0, fl_1, fl_2, fl_3, fl_4, fl_5, fl_6, fl_7, fl_8, fl_9, fl_10, fl_11, fl_20, fl_200, fl_9999] at *; done) | omega
theorem fq_67  : ((1 : Int32) ≤ 3 ∧ (3 : Int32) ≤ 9) := by first | decide | (simp only [fz_lt, fz_le, fz_eq, true_and, and_true, false_and, and_false, true_or, or_true, false_or, or_false, not_true_eq_false, not_false_eq_true, fl_m1, fl_0, fl_1, fl_2, fl_3, fl_4, fl_5, fl_6, fl_7, fl_8, fl_9, fl_10, fl_11, fl_20, fl_200, fl_9999] at *; omega) | (simp only [fz_lt, fz_le, fz_eq, true_and, and_true, false_and, and_false, true_or, or_true, false_or, or_false, not_true_eq_false, not_false_eq_true, fl_m1, fl_0, fl_1, fl_2, fl_3, fl_4, fl_5, fl_6, fl_7, fl_8, fl_9, fl_10, fl_11, fl_20, fl_200, fl_9999] at *; done) | omega
theorem fq_68  : ((1 : Int32) ≤ 4 ∧ (4 : Int32) ≤ 9) := by first | decide | (simp only [fz_lt, fz_le, fz_eq, true_and, and_true, false_and, and_false, true_or, or_true, false_or, or_false, not_true_eq_false, not_false_eq_true, fl_m1, fl_0, fl_1, fl_2, fl_3, fl_4, fl_5, fl_6, fl_7, fl_8, fl_9, fl_10, fl_11, fl_20, fl_200, fl_9999] at *; omega) | (simp only [fz_lt, fz_le, fz_eq, true_and, and_true, false_and, and_false, true_or, or_true, false_or, or_false, not_true_eq_false, not_false_eq_true, fl_m1, fl_0, fl_1, fl_2, fl_3, fl_4, fl_5, fl_6, fl_7, fl_8, fl_9, fl_10, fl_11, fl_20, fl_200, fl_9999] at *; done) | omega
theorem fq_69  : ((1 : Int32) ≤ 5 ∧ (5 : Int32) ≤ 9) := by first | decide | (simp only [fz_lt, fz_le, fz_eq, true_and, and_true, false_and, and_false, true_or, or_true, false_or, or_false, not_true_eq_false, not_false_eq_true, fl_m1, fl_0, fl_1, fl_2, fl_3, fl_4, fl_5, fl_6, fl_7, fl_8, fl_9, fl_10, fl_11, fl_20, fl_200, fl_9999] at *; omega) | (simp only [fz_lt, fz_le, fz_eq, true_and, and_true, false_and, and_false, true_or, or_true, false_or, or_false, not_true_eq_false, not_false_eq_true, fl_m1, fl_0, fl_1, fl_2, fl_3, fl_4, fl_5, fl_6, fl_7, fl_8, fl_9, fl_10, fl_11, fl_20, fl_200, fl_9999] at *; done) | omega
theorem fq_70  : ((1 : Int32) ≤ 6 ∧ (6 : Int32) ≤ 9) := by first | decide | (simp only [fz_lt, fz_le, fz_eq, true_and, and_true, false_and, and_false, true_or, or_true, false_or, or_false, not_true_eq_false, not_false_eq_true, fl_m1, fl_0, fl_1, fl_2, fl_3, fl_4, fl_5, fl_6, fl_7, fl_8, fl_9, fl_10, fl_11, fl_20, fl_200, fl_9999] at *; omega) | (simp only [fz_lt, fz_le, fz_eq, true_and, and_true, false_and, and_false, true_or, or_true, false_or, or_false, not_true_eq_false, not_false_eq_true, fl_m1, fl_0, fl_1, fl_2, fl_3, fl_4, fl_5, fl_6, fl_7, fl_8, fl_9, fl_10, fl_11, fl_20, fl_200, fl_9999] at *; done) | omega
theorem fq_71  : ((1 : Int32) ≤ 7 ∧ (7 : Int32) ≤ 9) := by first | decide | (simp only [fz_lt, fz_le, fz_eq, true_and, and_true, false_and, and_false, true_or, or_true, false_or, or_false, not_true_eq_false, not_false_eq_true, fl_m1, fl_0, fl_1, fl_2, fl_3, fl_4, fl_5, fl_6, fl_7, fl_8, fl_9, fl_10, fl_11, fl_20, fl_200, fl_9999] at *; omega) | (simp only [fz_lt, fz_le, fz_eq, true_and, and_true, false_and, and_false, true_or, or_true, false_or, or_false, not_true_eq_false, not_false_eq_true, fl_m1, fl_0, fl_1, fl_2, fl_3, fl_4, fl_5, fl_6, fl_7, fl_8, fl_9, fl_10, fl_11, fl_20, fl_200, fl_9999] at *; done) | omega
theorem fq_72  : ((1 : Int32) ≤ 8 ∧ (8 : Int32) ≤ 9) := by first | decide | (simp only [fz_lt, fz_le, fz_eq, true_and, and_true, false_and, and_false, true_or, or_true, false_or, or_false, not_true_eq_false, not_false_eq_true, fl_m1, fl_0, fl_1, fl_2, fl_3, fl_4, fl_5, fl_6, fl_7, fl_8, fl_9, fl_10, fl_11, fl_20, fl_200, fl_9999] at *; omega) | (simp only [fz_lt, fz_le, fz_eq, true_and, and_true, false_and, and_false, true_or, or_true, false_or, or_false, not_true_eq_false, not_false_eq_true, fl_m1, fl_0, fl_1, fl_2, fl_3, fl_4, fl_5, fl_6, fl_7, fl_8, fl_9, fl_10, fl_11, fl_20, fl_200, fl_9999] at *; done) | omega
theorem fq_73 (x0 : Int32) (h0 : (0 ≤ x0 ∧ x0 ≤ 9)) (h1 : ¬ (x0 = 0)) (h2 : ¬ (x0 = 1)) (h3 : ¬ (x0 = 2)) (h4 : ¬ (x0 = 3)) (h5 : ¬ (x0 = 4)) (h6 : ¬ (x0 = 5)) (h7 : ¬ (x0 = 6)) (h8 : ¬ (x0 = 7)) (h9 : ¬ (x0 = 8)) : x0 = 9 := by first | decide | (simp only [fz_lt, fz_le, fz_eq, true_and, and_true, false_and, and_false, true_or, or_true, false_or, or_false, not_true_eq_false, not_false_eq_true, fl_m1, fl_0, fl_1, fl_2, fl_3, fl_4, fl_5, fl_6, fl_7, fl_8, fl_9, fl_10, fl_11, fl_20, fl_200, fl_9999] at *; omega) | (simp only [fz_lt, fz_le, fz_eq, true_and, and_true, false_and, and_false, true_or, or_true, false_or, or_false, not_true_eq_false, not_false_eq_true, fl_m1, fl_0, fl_1, fl_2, fl_3, fl_4, fl_5, fl_6, fl_7, fl_8, fl_9, fl_10, fl_11, fl_20, fl_200, fl_9999] at *; done) | omega
theorem fq_74  : ((1 : Int32) ≤ 9 ∧ (9 : Int32) ≤ 9) := by first | decide | (simp only [fz_lt, fz_le, fz_eq, true_and, and_true, false_and, and_false, true_or, or_true, false_or, or_false, not_true_eq_false, not_false_eq_true, fl_m1, fl_0, fl_1, fl_2, fl_3, fl_4, fl_5, fl_6, fl_7, fl_8, fl_9, fl_10, fl_11, fl_20, fl_200, fl_9999] at *; omega) | (simp only [fz_lt, fz_le, fz_eq, true_and, and_true, false_and, and_false, true_or, or_true, false_or, or_false, not_true_eq_false, not_false_eq_true, fl_m1, fl_0, fl_1, fl_2, fl_3, fl_4, fl_5, fl_6, fl_7, fl_8, fl_9, fl_10, fl_11, fl_20, fl_200, fl_9999] at *; done) | omega
theorem fq_75 (x0 x1 : Int32) (h0 : ¬ ((0 ≤ x0 ∧ x0 ≤ 9999))) : (¬ ((0 ≤ x0 ∧ x0 ≤ 9999)) ∨ ¬ ((0 ≤ x1 ∧ x1 ≤ 3))) := by first | decide | (simp only [fz_lt, fz_le, fz_eq, true_and, and_true, false_and, and_false, true_or, or_true, false_or, or_false, not_true_eq_false, not_false_eq_true, fl_m1, fl_0, fl_1, fl_2, fl_3, fl_4, fl_5, fl_6, fl_7, fl_8, fl_9, fl_10, fl_11, fl_20, fl_200, fl_9999] at *; omega) | (simp only [fz_lt, fz_le, fz_eq, true_and, and_true, false_and, and_false, true_or, or_true, false_or, or_false, not_true_eq_false, not_false_eq_true, fl_m1, fl_0, fl_1, fl_2, fl_3, fl_4, fl_5, fl_6, fl_7, fl_8, fl_9, fl_10, fl_11, fl_20, fl_200, fl_9999] at *; done) | omega
theorem fq_76 (x0 x1 : Int32) (h0 : (x1 < 0 ∨ 3 < x1)) : (¬ ((0 ≤ x0 ∧ x0 ≤ 9999)) ∨ ¬ ((0 ≤ x1 ∧ x1 ≤ 3))) := by first | decide | (simp only [fz_lt, fz_le, fz_eq, true_and, and_true, false_and, and_false, true_or, or_true, false_or, or_false, not_true_eq_false, not_false_eq_true, fl_m1, fl_0, fl_1, fl_2, fl_3, fl_4, fl_5, fl_6, fl_7, fl_8, fl_9, fl_10, fl_11, fl_20, fl_200, fl_9999] at *; omega) | (simp only [fz_lt, fz_le, fz_eq, true_and, and_true, false_and, and_false, true_or, or_true, false_or, or_false, not_true_eq_false, not_false_eq_true, fl_m1, fl_0, fl_1, fl_2, fl_3, fl_4, fl_5, fl_6, fl_7, fl_8, fl_9, fl_10, fl_11, fl_20, fl_200, fl_9999] at *; done) | omega
theorem fq_77 (x0 : Int32) (h0 : (0 ≤ x0 ∧ x0 ≤ 9999)) : ((0 ≤ x0 ∧ x0 ≤ 9999) ∧ ((0 : Int32) ≤ 0 ∧ (0 : Int32) ≤ 3)) := by first | decide | (simp only [fz_lt, fz_le, fz_eq, true_and, and_true, false_and, and_false, true_or, or_true, false_or, or_false, not_true_eq_false, not_false_eq_true, fl_m1, fl_0, fl_1, fl_2, fl_3, fl_4, fl_5, fl_6, fl_7, fl_8, fl_9, fl_10, fl_11, fl_20, fl_200, fl_9999] at *; omega) | (simp only [fz_lt, fz_le, fz_eq, true_and, and_true, false_and, and_false, true_or, or_true, false_or, or_false, not_true_eq_false, not_false_eq_true, fl_m1, fl_0, fl_1, fl_2, fl_3, fl_4, fl_5, fl_6, fl_7, fl_8, fl_9, fl_10, fl_11, fl_20, fl_200, fl_9999] at *; done) | omega
theorem fq_78 (x0 : Int32) (h0 : (0 ≤ x0 ∧ x0 ≤ 9999)) : ((0 ≤ x0 ∧ x0 ≤ 9999) ∧ ((0 : Int32) ≤ 1 ∧ (1 : Int32) ≤ 3)) := by first | decide | (simp only [fz_lt, fz_le, fz_eq, true_and, and_true, false_and, and_false, true_or, or_true, false_or, or_false, not_true_eq_false, not_false_eq_true, fl_m1, fl_0, fl_1, fl_2, fl_3, fl_4, fl_5, fl_6, fl_7, fl_8, fl_9, fl_10, fl_11, fl_20, fl_200, fl_9999] at *; omega) | (simp only [fz_lt, fz_le, fz_eq, true_and, and_true, false_and, and_false, true_or, or_true, false_or, or_false, not_true_eq_false, not_false_eq_true, fl_m1, fl_0, fl_1, fl_2, fl_3, fl_4, fl_5, fl_6, fl_7, fl_8, fl_9, fl_10, fl_11, fl_20, fl_200, fl_9999] at *; done) | omega
theorem fq_79 (x0 : Int32) (h0 : (0 ≤ x0 ∧ x0 ≤ 9999)) : ((0 ≤ x0 ∧ x0 ≤ 9999) ∧ ((0 : Int32) ≤ 2 ∧ (2 : Int32) ≤ 3)) := by first | decide | (simp only [fz_lt, fz_le, fz_eq, true_and, and_true, false_and, and_false, true_or, or_true, false_or, or_false, not_true_eq_false, not_false_eq_true, fl_m1, fl_0, fl_1, fl_2, fl_3, fl_4, fl_5, fl_6, fl_7, fl_8, fl_9, fl_10, fl_11, fl_20, fl_200, fl_9999] at *; omega) | (simp only [fz_lt, fz_le, fz_eq, true_and, and_true, false_and, and_false, true_or, or_true, false_or, or_false, not_true_eq_false, not_false_eq_true, fl_m1, fl_0, fl_1, fl_2, fl_3, fl_4, fl_5, fl_6, fl_7, fl_8, fl_9, fl_10, fl_11, fl_20, fl_200, fl_9999] at *; done) | omega
theorem fq_80 (x0 : Int32) (h0 : (0 ≤ x0 ∧ x0 ≤ 3)) (h1 : ¬ (x0 = 0)) (h2 : ¬ (x0 = 1)) (h3 : ¬ (x0 = 2)) : x0 = 3 := by first | decide | (simp only [fz_lt, fz_le, fz_eq, true_and, and_true, false_and, and_false, true_or, or_true, false_or, or_false, not_true_eq_false, not_false_eq_true, fl_m1, fl_0, fl_1, fl_2, fl_3, fl_4, fl_5, fl_6, fl_7, fl_8, fl_9, fl_10, fl_11, fl_20, fl_200, fl_9999] at *; omega) | (simp only [fz_lt, fz_le, fz_eq, true_and, and_true, false_and, and_false, true_or, or_true, false_or, or_false, not_true_eq_false, not_false_eq_true, fl_m1, fl_0, fl_1, fl_2, fl_3, fl_4, fl_5, fl_6, fl_7, fl_8, fl_9, fl_10, fl_11, fl_20, fl_200, fl_9999] at *; done) | omega
theorem fq_81 (x0 : Int32) (h0 : (0 ≤ x0 ∧ x0 ≤ 9999)) : ((0 ≤ x0 ∧ x0 ≤ 9999) ∧ ((0 : Int32) ≤ 3 ∧ (3 : Int32) ≤ 3)) := by first | decide | (simp only [fz_lt, fz_le, fz_eq, true_and, and_true, false_and, and_false, true_or, or_true, false_or, or_false, not_true_eq_false, not_false_eq_true, fl_m1, fl_0, fl_1, fl_2, fl_3, fl_4, fl_5, fl_6, fl_7, fl_8, fl_9, fl_10, fl_11, fl_20, fl_200, fl_9999] at *; omega) | (simp only [fz_lt, fz_le, fz_eq, true_and, and_true, false_and, and_false, true_or, or_true, false_or, or_false, not_true_eq_false, not_false_eq_true, fl_m1, fl_0, fl_1, fl_2, fl_3, fl_4, fl_5, fl_6, fl_7, fl_8, fl_9, fl_10, fl_11, fl_20, fl_200, fl_9999] at *; done) | omega

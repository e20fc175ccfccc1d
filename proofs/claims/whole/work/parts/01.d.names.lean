theorem dX5_line_26 : decode cX5_line 26 = .ok (.iload_n 3, 1) := by decide +kernel
theorem dX5_line_27 : decode cX5_line 27 = .ok (.invokevirtual 102, 3) := by decide +kernel
theorem dX5_line_30 : decode cX5_line 30 = .ok (.ireturn, 1) := by decide +kernel
set_option maxRecDepth 20000 in
theorem ggX5_mayChange_X5_isPlace : GoodIn wsX5_mayChange wsX5_isPlace := goodIn_r _ [9, 10, 11, 8, 12] (by decide +kernel) (by decide +kernel)
set_option maxRecDepth 20000 in
theorem gX5_mayChange_X5_isPlace : GoodIn wsX5_mayChange (va_wsS RX5 65 yX5_isPlace wsX5_isPlace) := goodIn_app (goodIn_of _ (by decide +kernel)) ggX5_mayChange_X5_isPlace
set_option maxRecDepth 20000 in
theorem ggX5_mayChange_X5_isWithin : GoodIn wsX5_mayChange wsX5_isWithin := goodIn_r _ [12] (by decide +kernel) (by decide +kernel)
set_option maxRecDepth 20000 in
theorem gX5_mayChange_X5_isWithin : GoodIn wsX5_mayChange (va_wsS RX5 73 yX5_isWithin wsX5_isWithin) := goodIn_app (goodIn_of _ (by decide +kernel)) ggX5_mayChange_X5_isWithin
set_option maxRecDepth 20000 in
theorem ggX5_mayChange_X3_allowsChange : GoodIn wsX5_mayChange wsX3_allowsChange := goodIn_r _ [17, 18, 19, 3, 20, 21, 22, 23, 16, 24, 25, 26, 27, 28, 29, 30, 31, 32, 33, 34, 35, 36, 37, 38, 39, 40, 50, 51, 52, 53, 54, 55, 56, 57, 58, 59, 60, 61, 62] (by decide +kernel) (by decide +kernel)
set_option maxRecDepth 20000 in
theorem gX5_mayChange_X3_allowsChange : GoodIn wsX5_mayChange (wsV RX5 110 RX3 yX3_allowsChange wsX3_allowsChange) := goodIn_app (goodIn_of _ (by decide +kernel)) ggX5_mayChange_X3_allowsChange
set_option maxRecDepth 20000 in
theorem ggX5_mayChange_X5_asNumber : GoodIn wsX5_mayChange wsX5_asNumber := goodIn_r _ [43] (by decide +kernel) (by decide +kernel)
set_option maxRecDepth 20000 in
theorem gX5_mayChange_X5_asNumber : GoodIn wsX5_mayChange (va_wsS RX5 114 yX5_asNumber wsX5_asNumber) := goodIn_app (goodIn_of _ (by decide +kernel)) ggX5_mayChange_X5_asNumber
theorem dX5_mayChange_0 : decode cX5_mayChange 0 = .ok (.iload_n 1, 1) := by decide +kernel
theorem dX5_mayChange_1 : decode cX5_mayChange 1 = .ok (.iconst 3, 1) := by decide +kernel
theorem dX5_mayChange_2 : decode cX5_mayChange 2 = .ok (.iload_n 3, 1) := by decide +kernel
theorem dX5_mayChange_3 : decode cX5_mayChange 3 = .ok (.invokestatic 65, 3) := by decide +kernel
theorem dX5_mayChange_6 : decode cX5_mayChange 6 = .ok (.ifCond .eq 12, 3) := by decide +kernel
theorem dX5_mayChange_9 : decode cX5_mayChange 9 = .ok (.iload_n 2, 1) := by decide +kernel
theorem dX5_mayChange_10 : decode cX5_mayChange 10 = .ok (.iconst 3, 1) := by decide +kernel
theorem dX5_mayChange_11 : decode cX5_mayChange 11 = .ok (.iload_n 3, 1) := by decide +kernel
theorem dX5_mayChange_12 : decode cX5_mayChange 12 = .ok (.invokestatic 65, 3) := by decide +kernel
theorem dX5_mayChange_15 : decode cX5_mayChange 15 = .ok (.ifCond .ne 5, 3) := by decide +kernel
theorem dX5_mayChange_18 : decode cX5_mayChange 18 = .ok (.iconst (-1), 1) := by decide +kernel
theorem dX5_mayChange_19 : decode cX5_mayChange 19 = .ok (.ireturn, 1) := by decide +kernel
theorem dX5_mayChange_20 : decode cX5_mayChange 20 = .ok (.iload_n 1, 1) := by decide +kernel
theorem dX5_mayChange_21 : decode cX5_mayChange 21 = .ok (.iload_n 2, 1) := by decide +kernel
theorem dX5_mayChange_22 : decode cX5_mayChange 22 = .ok (.isub, 1) := by decide +kernel
theorem dX5_mayChange_23 : decode cX5_mayChange 23 = .ok (.invokestatic 105, 3) := by decide +kernel
theorem dX5_mayChange_26 : decode cX5_mayChange 26 = .ok (.iconst 1, 1) := by decide +kernel
theorem dX5_mayChange_27 : decode cX5_mayChange 27 = .ok (.if_icmp .ne 13, 3) := by decide +kernel
theorem dX5_mayChange_30 : decode cX5_mayChange 30 = .ok (.iload 4, 2) := by decide +kernel
theorem dX5_mayChange_32 : decode cX5_mayChange 32 = .ok (.iconst 0, 1) := by decide +kernel
theorem dX5_mayChange_33 : decode cX5_mayChange 33 = .ok (.iconst 1, 1) := by decide +kernel
theorem dX5_mayChange_34 : decode cX5_mayChange 34 = .ok (.invokestatic 73, 3) := by decide +kernel
theorem dX5_mayChange_37 : decode cX5_mayChange 37 = .ok (.ifCond .ne 6, 3) := by decide +kernel
theorem dX5_mayChange_40 : decode cX5_mayChange 40 = .ok (.bipush (-2), 2) := by decide +kernel
theorem dX5_mayChange_42 : decode cX5_mayChange 42 = .ok (.ireturn, 1) := by decide +kernel
theorem dX5_mayChange_43 : decode cX5_mayChange 43 = .ok (.aload_n 0, 1) := by decide +kernel
theorem dX5_mayChange_44 : decode cX5_mayChange 44 = .ok (.getfield 10, 3) := by decide +kernel
theorem dX5_mayChange_47 : decode cX5_mayChange 47 = .ok (.iload_n 1, 1) := by decide +kernel
theorem dX5_mayChange_48 : decode cX5_mayChange 48 = .ok (.iload_n 2, 1) := by decide +kernel
theorem dX5_mayChange_49 : decode cX5_mayChange 49 = .ok (.iload_n 3, 1) := by decide +kernel
theorem dX5_mayChange_50 : decode cX5_mayChange 50 = .ok (.iload 4, 2) := by decide +kernel
theorem dX5_mayChange_52 : decode cX5_mayChange 52 = .ok (.invokevirtual 110, 3) := by decide +kernel
theorem dX5_mayChange_55 : decode cX5_mayChange 55 = .ok (.invokestatic 114, 3) := by decide +kernel
theorem dX5_mayChange_58 : decode cX5_mayChange 58 = .ok (.ireturn, 1) := by decide +kernel
set_option maxRecDepth 20000 in
theorem ggX5_total_X4_count : GoodIn wsX5_total wsX4_count := goodIn_r _ [6, 7, 8, 9, 5, 10, 11, 12, 13, 14, 44, 45, 46] (by decide +kernel) (by decide +kernel)
set_option maxRecDepth 20000 in
theorem gX5_total_X4_count : GoodIn wsX5_total (wsV RX5 122 RX4 yX4_count wsX4_count) := goodIn_app (goodIn_of _ (by decide +kernel)) ggX5_total_X4_count
set_option maxRecDepth 20000 in
theorem ggX5_total_X4_countFrom : GoodIn wsX5_total wsX4_countFrom := goodIn_r _ [10, 11, 12, 13, 14, 44, 45, 46] (by decide +kernel) (by decide +kernel)
set_option maxRecDepth 20000 in
theorem gX5_total_X4_countFrom : GoodIn wsX5_total (wsV RX5 138 RX4 yX4_countFrom wsX4_countFrom) := goodIn_app (goodIn_of _ (by decide +kernel)) ggX5_total_X4_countFrom
set_option maxRecDepth 20000 in
theorem ggX5_total_X3_sumOfStrengths : GoodIn wsX5_total wsX3_sumOfStrengths := goodIn_r _ [20, 21, 22, 23, 24, 25, 26, 5, 27, 11, 34, 35, 36, 37, 38, 39, 40, 41, 42, 43, 44, 45, 46] (by decide +kernel) (by decide +kernel)
set_option maxRecDepth 20000 in
theorem gX5_total_X3_sumOfStrengths : GoodIn wsX5_total (wsV RX5 153 RX3 yX3_sumOfStrengths wsX3_sumOfStrengths) := goodIn_app (goodIn_of _ (by decide +kernel)) ggX5_total_X3_sumOfStrengths
theorem dX5_total_0 : decode cX5_total 0 = .ok (.iload_n 1, 1) := by decide +kernel
theorem dX5_total_1 : decode cX5_total 1 = .ok (.tableswitch 226 0 14 #[75, 86, 97, 108, 128, 136, 144, 152, 160, 168, 176, 186, 196, 206, 216], 75) := by decide +kernel
theorem dX5_total_76 : decode cX5_total 76 = .ok (.aload_n 0, 1) := by decide +kernel
theorem dX5_total_77 : decode cX5_total 77 = .ok (.getfield 10, 3) := by decide +kernel
theorem dX5_total_80 : decode cX5_total 80 = .ok (.getfield 118, 3) := by decide +kernel
theorem dX5_total_83 : decode cX5_total 83 = .ok (.invokevirtual 122, 3) := by decide +kernel
theorem dX5_total_86 : decode cX5_total 86 = .ok (.ireturn, 1) := by decide +kernel
theorem dX5_total_87 : decode cX5_total 87 = .ok (.aload_n 0, 1) := by decide +kernel
theorem dX5_total_88 : decode cX5_total 88 = .ok (.getfield 10, 3) := by decide +kernel
theorem dX5_total_91 : decode cX5_total 91 = .ok (.getfield 128, 3) := by decide +kernel
theorem dX5_total_94 : decode cX5_total 94 = .ok (.invokevirtual 122, 3) := by decide +kernel
theorem dX5_total_97 : decode cX5_total 97 = .ok (.ireturn, 1) := by decide +kernel
theorem dX5_total_98 : decode cX5_total 98 = .ok (.aload_n 0, 1) := by decide +kernel
theorem dX5_total_99 : decode cX5_total 99 = .ok (.getfield 10, 3) := by decide +kernel
theorem dX5_total_102 : decode cX5_total 102 = .ok (.getfield 131, 3) := by decide +kernel
theorem dX5_total_105 : decode cX5_total 105 = .ok (.invokevirtual 122, 3) := by decide +kernel
theorem dX5_total_108 : decode cX5_total 108 = .ok (.ireturn, 1) := by decide +kernel
theorem dX5_total_109 : decode cX5_total 109 = .ok (.aload_n 0, 1) := by decide +kernel
theorem dX5_total_110 : decode cX5_total 110 = .ok (.getfield 10, 3) := by decide +kernel
theorem dX5_total_113 : decode cX5_total 113 = .ok (.getfield 128, 3) := by decide +kernel
theorem dX5_total_116 : decode cX5_total 116 = .ok (.aload_n 0, 1) := by decide +kernel
theorem dX5_total_117 : decode cX5_total 117 = .ok (.getfield 10, 3) := by decide +kernel
theorem dX5_total_120 : decode cX5_total 120 = .ok (.getfield 134, 3) := by decide +kernel
theorem dX5_total_123 : decode cX5_total 123 = .ok (.iconst 0, 1) := by decide +kernel
theorem dX5_total_124 : decode cX5_total 124 = .ok (.iaload, 1) := by decide +kernel
theorem dX5_total_125 : decode cX5_total 125 = .ok (.invokevirtual 138, 3) := by decide +kernel
theorem dX5_total_128 : decode cX5_total 128 = .ok (.ireturn, 1) := by decide +kernel
theorem dX5_total_129 : decode cX5_total 129 = .ok (.aload_n 0, 1) := by decide +kernel
theorem dX5_total_130 : decode cX5_total 130 = .ok (.getfield 10, 3) := by decide +kernel
theorem dX5_total_133 : decode cX5_total 133 = .ok (.getfield 82, 3) := by decide +kernel
theorem dX5_total_136 : decode cX5_total 136 = .ok (.ireturn, 1) := by decide +kernel
theorem dX5_total_137 : decode cX5_total 137 = .ok (.aload_n 0, 1) := by decide +kernel
theorem dX5_total_138 : decode cX5_total 138 = .ok (.getfield 10, 3) := by decide +kernel
theorem dX5_total_141 : decode cX5_total 141 = .ok (.getfield 141, 3) := by decide +kernel
theorem dX5_total_144 : decode cX5_total 144 = .ok (.ireturn, 1) := by decide +kernel
theorem dX5_total_145 : decode cX5_total 145 = .ok (.aload_n 0, 1) := by decide +kernel
theorem dX5_total_146 : decode cX5_total 146 = .ok (.getfield 10, 3) := by decide +kernel
theorem dX5_total_149 : decode cX5_total 149 = .ok (.getfield 144, 3) := by decide +kernel
theorem dX5_total_152 : decode cX5_total 152 = .ok (.ireturn, 1) := by decide +kernel
theorem dX5_total_153 : decode cX5_total 153 = .ok (.aload_n 0, 1) := by decide +kernel
theorem dX5_total_154 : decode cX5_total 154 = .ok (.getfield 10, 3) := by decide +kernel
theorem dX5_total_157 : decode cX5_total 157 = .ok (.getfield 147, 3) := by decide +kernel
theorem dX5_total_160 : decode cX5_total 160 = .ok (.ireturn, 1) := by decide +kernel
theorem dX5_total_161 : decode cX5_total 161 = .ok (.aload_n 0, 1) := by decide +kernel
theorem dX5_total_162 : decode cX5_total 162 = .ok (.getfield 10, 3) := by decide +kernel
theorem dX5_total_165 : decode cX5_total 165 = .ok (.getfield 150, 3) := by decide +kernel
theorem dX5_total_168 : decode cX5_total 168 = .ok (.ireturn, 1) := by decide +kernel
theorem dX5_total_169 : decode cX5_total 169 = .ok (.aload_n 0, 1) := by decide +kernel
theorem dX5_total_170 : decode cX5_total 170 = .ok (.getfield 10, 3) := by decide +kernel
theorem dX5_total_173 : decode cX5_total 173 = .ok (.invokevirtual 153, 3) := by decide +kernel
theorem dX5_total_176 : decode cX5_total 176 = .ok (.ireturn, 1) := by decide +kernel
theorem dX5_total_177 : decode cX5_total 177 = .ok (.aload_n 0, 1) := by decide +kernel
theorem dX5_total_178 : decode cX5_total 178 = .ok (.getfield 10, 3) := by decide +kernel
theorem dX5_total_181 : decode cX5_total 181 = .ok (.getfield 156, 3) := by decide +kernel
theorem dX5_total_184 : decode cX5_total 184 = .ok (.iconst 0, 1) := by decide +kernel
theorem dX5_total_185 : decode cX5_total 185 = .ok (.iaload, 1) := by decide +kernel
theorem dX5_total_186 : decode cX5_total 186 = .ok (.ireturn, 1) := by decide +kernel
theorem dX5_total_187 : decode cX5_total 187 = .ok (.aload_n 0, 1) := by decide +kernel
theorem dX5_total_188 : decode cX5_total 188 = .ok (.getfield 10, 3) := by decide +kernel
theorem dX5_total_191 : decode cX5_total 191 = .ok (.getfield 156, 3) := by decide +kernel
theorem dX5_total_194 : decode cX5_total 194 = .ok (.iconst 1, 1) := by decide +kernel
theorem dX5_total_195 : decode cX5_total 195 = .ok (.iaload, 1) := by decide +kernel
theorem dX5_total_196 : decode cX5_total 196 = .ok (.ireturn, 1) := by decide +kernel
theorem dX5_total_197 : decode cX5_total 197 = .ok (.aload_n 0, 1) := by decide +kernel
theorem dX5_total_198 : decode cX5_total 198 = .ok (.getfield 10, 3) := by decide +kernel
theorem dX5_total_201 : decode cX5_total 201 = .ok (.getfield 156, 3) := by decide +kernel
theorem dX5_total_204 : decode cX5_total 204 = .ok (.iconst 2, 1) := by decide +kernel
theorem dX5_total_205 : decode cX5_total 205 = .ok (.iaload, 1) := by decide +kernel
theorem dX5_total_206 : decode cX5_total 206 = .ok (.ireturn, 1) := by decide +kernel
theorem dX5_total_207 : decode cX5_total 207 = .ok (.aload_n 0, 1) := by decide +kernel
theorem dX5_total_208 : decode cX5_total 208 = .ok (.getfield 10, 3) := by decide +kernel
theorem dX5_total_211 : decode cX5_total 211 = .ok (.getfield 134, 3) := by decide +kernel
theorem dX5_total_214 : decode cX5_total 214 = .ok (.iconst 0, 1) := by decide +kernel
theorem dX5_total_215 : decode cX5_total 215 = .ok (.iaload, 1) := by decide +kernel
theorem dX5_total_216 : decode cX5_total 216 = .ok (.ireturn, 1) := by decide +kernel
theorem dX5_total_217 : decode cX5_total 217 = .ok (.aload_n 0, 1) := by decide +kernel
theorem dX5_total_218 : decode cX5_total 218 = .ok (.getfield 10, 3) := by decide +kernel
theorem dX5_total_221 : decode cX5_total 221 = .ok (.getfield 134, 3) := by decide +kernel
theorem dX5_total_224 : decode cX5_total 224 = .ok (.iconst 1, 1) := by decide +kernel
theorem dX5_total_225 : decode cX5_total 225 = .ok (.iaload, 1) := by decide +kernel
theorem dX5_total_226 : decode cX5_total 226 = .ok (.ireturn, 1) := by decide +kernel
theorem dX5_total_227 : decode cX5_total 227 = .ok (.bipush (-2), 2) := by decide +kernel
theorem dX5_total_229 : decode cX5_total 229 = .ok (.ireturn, 1) := by decide +kernel
set_option maxRecDepth 20000 in
theorem ggX5_whyNot_X5_placeError : GoodIn wsX5_whyNot wsX5_placeError := goodIn_r _ [5, 6, 7, 4, 8, 9, 10, 11] (by decide +kernel) (by decide +kernel)
set_option maxRecDepth 20000 in
theorem gX5_whyNot_X5_placeError : GoodIn wsX5_whyNot (va_wsS RX5 55 yX5_placeError wsX5_placeError) := goodIn_app (goodIn_of _ (by decide +kernel)) ggX5_whyNot_X5_placeError
set_option maxRecDepth 20000 in
theorem ggX5_whyNot_X3_refusal : GoodIn wsX5_whyNot wsX3_refusal := goodIn_r _ [16, 17, 18, 19, 15, 20, 21, 10, 4, 11, 22, 23, 24, 25, 26, 27, 28, 29, 30, 31, 32, 33, 34, 35, 36, 37, 38, 39, 40, 41, 42, 43, 50, 51, 52, 53, 54, 55, 56, 57, 58, 59, 60, 61, 62] (by decide +kernel) (by decide +kernel)
set_option maxRecDepth 20000 in
theorem gX5_whyNot_X3_refusal : GoodIn wsX5_whyNot (wsV RX5 159 RX3 yX3_refusal wsX3_refusal) := goodIn_app (goodIn_of _ (by decide +kernel)) ggX5_whyNot_X3_refusal
theorem dX5_whyNot_0 : decode cX5_whyNot 0 = .ok (.iload_n 1, 1) := by decide +kernel
theorem dX5_whyNot_1 : decode cX5_whyNot 1 = .ok (.iconst 3, 1) := by decide +kernel
theorem dX5_whyNot_2 : decode cX5_whyNot 2 = .ok (.iload_n 2, 1) := by decide +kernel
theorem dX5_whyNot_3 : decode cX5_whyNot 3 = .ok (.iload_n 3, 1) := by decide +kernel
theorem dX5_whyNot_4 : decode cX5_whyNot 4 = .ok (.iconst 3, 1) := by decide +kernel
theorem dX5_whyNot_5 : decode cX5_whyNot 5 = .ok (.invokestatic 55, 3) := by decide +kernel
theorem dX5_whyNot_8 : decode cX5_whyNot 8 = .ok (.istore 4, 2) := by decide +kernel
theorem dX5_whyNot_10 : decode cX5_whyNot 10 = .ok (.iload 4, 2) := by decide +kernel
theorem dX5_whyNot_12 : decode cX5_whyNot 12 = .ok (.ifCond .eq 8, 3) := by decide +kernel
theorem dX5_whyNot_15 : decode cX5_whyNot 15 = .ok (.iload 4, 2) := by decide +kernel
theorem dX5_whyNot_17 : decode cX5_whyNot 17 = .ok (.goto 13, 3) := by decide +kernel
theorem dX5_whyNot_20 : decode cX5_whyNot 20 = .ok (.aload_n 0, 1) := by decide +kernel
theorem dX5_whyNot_21 : decode cX5_whyNot 21 = .ok (.getfield 10, 3) := by decide +kernel
theorem dX5_whyNot_24 : decode cX5_whyNot 24 = .ok (.iload_n 1, 1) := by decide +kernel
theorem dX5_whyNot_25 : decode cX5_whyNot 25 = .ok (.iload_n 2, 1) := by decide +kernel
theorem dX5_whyNot_26 : decode cX5_whyNot 26 = .ok (.iload_n 3, 1) := by decide +kernel
theorem dX5_whyNot_27 : decode cX5_whyNot 27 = .ok (.invokevirtual 159, 3) := by decide +kernel
theorem dX5_whyNot_30 : decode cX5_whyNot 30 = .ok (.ireturn, 1) := by decide +kernel
set_option maxRecDepth 20000 in
theorem ggX5_readableFor_X5_isPlace : GoodIn wsX5_readableFor wsX5_isPlace := goodIn_r _ [5, 6, 7, 4, 8] (by decide +kernel) (by decide +kernel)
set_option maxRecDepth 20000 in
theorem gX5_readableFor_X5_isPlace : GoodIn wsX5_readableFor (va_wsS RX5 65 yX5_isPlace wsX5_isPlace) := goodIn_app (goodIn_of _ (by decide +kernel)) ggX5_readableFor_X5_isPlace
set_option maxRecDepth 20000 in
theorem ggX5_readableFor_X3_readableDays : GoodIn wsX5_readableFor wsX3_readableDays := goodIn_r _ [13, 14, 15, 16, 17, 18, 19, 20, 21, 22, 23, 24, 12, 25, 26, 27, 28, 29, 30, 31, 32, 33, 34, 35, 36, 37, 38, 39, 46, 47, 48, 49, 50, 51, 52, 53, 54, 55, 56, 57, 58] (by decide +kernel) (by decide +kernel)
set_option maxRecDepth 20000 in
theorem gX5_readableFor_X3_readableDays : GoodIn wsX5_readableFor (wsV RX5 162 RX3 yX3_readableDays wsX3_readableDays) := goodIn_app (goodIn_of _ (by decide +kernel)) ggX5_readableFor_X3_readableDays
theorem dX5_readableFor_0 : decode cX5_readableFor 0 = .ok (.iload_n 1, 1) := by decide +kernel
theorem dX5_readableFor_1 : decode cX5_readableFor 1 = .ok (.iconst 3, 1) := by decide +kernel
theorem dX5_readableFor_2 : decode cX5_readableFor 2 = .ok (.iload_n 2, 1) := by decide +kernel
theorem dX5_readableFor_3 : decode cX5_readableFor 3 = .ok (.invokestatic 65, 3) := by decide +kernel
theorem dX5_readableFor_6 : decode cX5_readableFor 6 = .ok (.ifCond .ne 5, 3) := by decide +kernel
theorem dX5_readableFor_9 : decode cX5_readableFor 9 = .ok (.iconst (-1), 1) := by decide +kernel
theorem dX5_readableFor_10 : decode cX5_readableFor 10 = .ok (.ireturn, 1) := by decide +kernel
theorem dX5_readableFor_11 : decode cX5_readableFor 11 = .ok (.aload_n 0, 1) := by decide +kernel
theorem dX5_readableFor_12 : decode cX5_readableFor 12 = .ok (.getfield 10, 3) := by decide +kernel
theorem dX5_readableFor_15 : decode cX5_readableFor 15 = .ok (.iload_n 1, 1) := by decide +kernel
theorem dX5_readableFor_16 : decode cX5_readableFor 16 = .ok (.iload_n 2, 1) := by decide +kernel
theorem dX5_readableFor_17 : decode cX5_readableFor 17 = .ok (.invokevirtual 162, 3) := by decide +kernel
theorem dX5_readableFor_20 : decode cX5_readableFor 20 = .ok (.ireturn, 1) := by decide +kernel
set_option maxRecDepth 20000 in
theorem ggX5_bestNight_X3_nightOfMostSigns : GoodIn wsX5_bestNight wsX3_nightOfMostSigns := goodIn_r _ [6, 7, 8, 9, 10, 11, 12, 13, 5, 14, 15, 16, 17, 18, 19, 20, 21, 22, 23, 24, 25, 26, 27, 28, 29, 30, 31, 32, 33, 34, 35, 36, 37, 44, 45, 46, 47, 48, 49, 50, 51, 52, 53, 54, 55, 56] (by decide +kernel) (by decide +kernel)
set_option maxRecDepth 20000 in
theorem gX5_bestNight_X3_nightOfMostSigns : GoodIn wsX5_bestNight (wsV RX5 165 RX3 yX3_nightOfMostSigns wsX3_nightOfMostSigns) := goodIn_app (goodIn_of _ (by decide +kernel)) ggX5_bestNight_X3_nightOfMostSigns
theorem dX5_bestNight_0 : decode cX5_bestNight 0 = .ok (.aload_n 0, 1) := by decide +kernel
theorem dX5_bestNight_1 : decode cX5_bestNight 1 = .ok (.getfield 10, 3) := by decide +kernel
theorem dX5_bestNight_4 : decode cX5_bestNight 4 = .ok (.getfield 82, 3) := by decide +kernel
theorem dX5_bestNight_7 : decode cX5_bestNight 7 = .ok (.ifCond .ne 6, 3) := by decide +kernel
theorem dX5_bestNight_10 : decode cX5_bestNight 10 = .ok (.bipush (-3), 2) := by decide +kernel
theorem dX5_bestNight_12 : decode cX5_bestNight 12 = .ok (.ireturn, 1) := by decide +kernel
theorem dX5_bestNight_13 : decode cX5_bestNight 13 = .ok (.aload_n 0, 1) := by decide +kernel
theorem dX5_bestNight_14 : decode cX5_bestNight 14 = .ok (.getfield 10, 3) := by decide +kernel
theorem dX5_bestNight_17 : decode cX5_bestNight 17 = .ok (.invokevirtual 165, 3) := by decide +kernel
theorem dX5_bestNight_20 : decode cX5_bestNight 20 = .ok (.ireturn, 1) := by decide +kernel
set_option maxRecDepth 20000 in
theorem ggX5_fewestChanges_X5_isWithin : GoodIn wsX5_fewestChanges wsX5_isWithin := goodIn_r _ [6] (by decide +kernel) (by decide +kernel)
set_option maxRecDepth 20000 in
theorem gX5_fewestChanges_X5_isWithin : GoodIn wsX5_fewestChanges (va_wsS RX5 73 yX5_isWithin wsX5_isWithin) := goodIn_app (goodIn_of _ (by decide +kernel)) ggX5_fewestChanges_X5_isWithin
set_option maxRecDepth 20000 in
theorem ggX5_fewestChanges_X0_driveAlong : GoodIn wsX5_fewestChanges wsX0_driveAlong := goodIn_r _ [11, 12, 13, 14, 15, 16, 17, 18, 19, 10, 20, 21, 22, 23, 24, 25, 26, 27, 28, 29, 30, 31, 32, 33, 34, 35, 36, 37, 38, 39, 40, 41, 42, 43, 44, 45, 46, 47, 48, 49, 50, 51, 52, 53, 54, 55, 62, 63, 64, 65, 66, 67, 68, 69, 70, 71, 72, 73, 74, 75] (by decide +kernel) (by decide +kernel)
set_option maxRecDepth 20000 in
theorem gX5_fewestChanges_X0_driveAlong : GoodIn wsX5_fewestChanges (wsV RX5 168 RX0 yX0_driveAlong wsX0_driveAlong) := goodIn_app (goodIn_of _ (by decide +kernel)) ggX5_fewestChanges_X0_driveAlong
theorem dX5_fewestChanges_0 : decode cX5_fewestChanges 0 = .ok (.iload_n 2, 1) := by decide +kernel
theorem dX5_fewestChanges_1 : decode cX5_fewestChanges 1 = .ok (.iconst 0, 1) := by decide +kernel
theorem dX5_fewestChanges_2 : decode cX5_fewestChanges 2 = .ok (.iconst 2, 1) := by decide +kernel
theorem dX5_fewestChanges_3 : decode cX5_fewestChanges 3 = .ok (.invokestatic 73, 3) := by decide +kernel
theorem dX5_fewestChanges_6 : decode cX5_fewestChanges 6 = .ok (.ifCond .ne 5, 3) := by decide +kernel
theorem dX5_fewestChanges_9 : decode cX5_fewestChanges 9 = .ok (.iconst (-1), 1) := by decide +kernel
theorem dX5_fewestChanges_10 : decode cX5_fewestChanges 10 = .ok (.ireturn, 1) := by decide +kernel
theorem dX5_fewestChanges_11 : decode cX5_fewestChanges 11 = .ok (.iload_n 1, 1) := by decide +kernel
theorem dX5_fewestChanges_12 : decode cX5_fewestChanges 12 = .ok (.iconst 0, 1) := by decide +kernel
theorem dX5_fewestChanges_13 : decode cX5_fewestChanges 13 = .ok (.iconst 1, 1) := by decide +kernel
theorem dX5_fewestChanges_14 : decode cX5_fewestChanges 14 = .ok (.invokestatic 73, 3) := by decide +kernel
theorem dX5_fewestChanges_17 : decode cX5_fewestChanges 17 = .ok (.ifCond .ne 6, 3) := by decide +kernel
theorem dX5_fewestChanges_20 : decode cX5_fewestChanges 20 = .ok (.bipush (-2), 2) := by decide +kernel
theorem dX5_fewestChanges_22 : decode cX5_fewestChanges 22 = .ok (.ireturn, 1) := by decide +kernel
theorem dX5_fewestChanges_23 : decode cX5_fewestChanges 23 = .ok (.aload_n 0, 1) := by decide +kernel
theorem dX5_fewestChanges_24 : decode cX5_fewestChanges 24 = .ok (.getfield 40, 3) := by decide +kernel
theorem dX5_fewestChanges_27 : decode cX5_fewestChanges 27 = .ok (.aload_n 0, 1) := by decide +kernel
theorem dX5_fewestChanges_28 : decode cX5_fewestChanges 28 = .ok (.getfield 10, 3) := by decide +kernel
theorem dX5_fewestChanges_31 : decode cX5_fewestChanges 31 = .ok (.iload_n 1, 1) := by decide +kernel
theorem dX5_fewestChanges_32 : decode cX5_fewestChanges 32 = .ok (.iload_n 2, 1) := by decide +kernel
theorem dX5_fewestChanges_33 : decode cX5_fewestChanges 33 = .ok (.invokevirtual 168, 3) := by decide +kernel
theorem dX5_fewestChanges_36 : decode cX5_fewestChanges 36 = .ok (.ireturn, 1) := by decide +kernel
set_option maxRecDepth 20000 in
theorem ggX5_append_X5_isWithin : GoodIn wsX5_append wsX5_isWithin := goodIn_r _ [5] (by decide +kernel) (by decide +kernel)
set_option maxRecDepth 20000 in
theorem gX5_append_X5_isWithin : GoodIn wsX5_append (va_wsS RX5 73 yX5_isWithin wsX5_isWithin) := goodIn_app (goodIn_of _ (by decide +kernel)) ggX5_append_X5_isWithin
set_option maxRecDepth 20000 in
theorem ggX5_append_X2_add : GoodIn wsX5_append wsX2_add := goodIn_r _ [10, 11, 12, 19, 20] (by decide +kernel) (by decide +kernel)
set_option maxRecDepth 20000 in
theorem gX5_append_X2_add : GoodIn wsX5_append (wsV RX5 175 RX2 yX2_add wsX2_add) := goodIn_app (goodIn_of _ (by decide +kernel)) ggX5_append_X2_add
theorem dX5_append_0 : decode cX5_append 0 = .ok (.iload_n 1, 1) := by decide +kernel
theorem dX5_append_1 : decode cX5_append 1 = .ok (.bipush 33, 2) := by decide +kernel
theorem dX5_append_3 : decode cX5_append 3 = .ok (.bipush 126, 2) := by decide +kernel
theorem dX5_append_5 : decode cX5_append 5 = .ok (.invokestatic 73, 3) := by decide +kernel
theorem dX5_append_8 : decode cX5_append 8 = .ok (.ifCond .ne 6, 3) := by decide +kernel
theorem dX5_append_11 : decode cX5_append 11 = .ok (.bipush (-2), 2) := by decide +kernel
theorem dX5_append_13 : decode cX5_append 13 = .ok (.ireturn, 1) := by decide +kernel
theorem dX5_append_14 : decode cX5_append 14 = .ok (.aload_n 0, 1) := by decide +kernel
theorem dX5_append_15 : decode cX5_append 15 = .ok (.getfield 33, 3) := by decide +kernel
theorem dX5_append_18 : decode cX5_append 18 = .ok (.getfield 172, 3) := by decide +kernel
theorem dX5_append_21 : decode cX5_append 21 = .ok (.bipush 70, 2) := by decide +kernel
theorem dX5_append_23 : decode cX5_append 23 = .ok (.if_icmp .lt 6, 3) := by decide +kernel
theorem dX5_append_26 : decode cX5_append 26 = .ok (.bipush (-4), 2) := by decide +kernel
theorem dX5_append_28 : decode cX5_append 28 = .ok (.ireturn, 1) := by decide +kernel
theorem dX5_append_29 : decode cX5_append 29 = .ok (.aload_n 0, 1) := by decide +kernel
theorem dX5_append_30 : decode cX5_append 30 = .ok (.getfield 33, 3) := by decide +kernel
theorem dX5_append_33 : decode cX5_append 33 = .ok (.iload_n 1, 1) := by decide +kernel
theorem dX5_append_34 : decode cX5_append 34 = .ok (.invokevirtual 175, 3) := by decide +kernel
theorem dX5_append_37 : decode cX5_append 37 = .ok (.ireturn, 1) := by decide +kernel
set_option maxRecDepth 20000 in
theorem ggX5_clearText_X2_empty : GoodIn wsX5_clearText wsX2_empty := goodIn_r _ [6, 7, 14, 15] (by decide +kernel) (by decide +kernel)
set_option maxRecDepth 20000 in
theorem gX5_clearText_X2_empty : GoodIn wsX5_clearText (wsV RX5 178 RX2 yX2_empty wsX2_empty) := goodIn_app (goodIn_of _ (by decide +kernel)) ggX5_clearText_X2_empty
theorem dX5_clearText_0 : decode cX5_clearText 0 = .ok (.aload_n 0, 1) := by decide +kernel
theorem dX5_clearText_1 : decode cX5_clearText 1 = .ok (.getfield 33, 3) := by decide +kernel
theorem dX5_clearText_4 : decode cX5_clearText 4 = .ok (.invokevirtual 178, 3) := by decide +kernel
theorem dX5_clearText_7 : decode cX5_clearText 7 = .ok (.ireturn, 1) := by decide +kernel
set_option maxRecDepth 20000 in
theorem ggX5_errorPosition_X2_firstError : GoodIn wsX5_errorPosition wsX2_firstError := goodIn_r _ [6, 7, 8, 9, 10, 5, 11, 12, 13, 14, 15, 16, 17, 18, 19, 20, 21, 22, 23, 24, 25, 26, 27, 28, 29, 30, 31, 32, 33, 34, 35, 36, 37, 38, 39, 40, 41, 42, 43, 44, 45, 46, 47, 48, 49, 50, 51, 52, 53, 54, 55, 56, 57, 58, 59, 60, 61, 62, 63, 64, 65, 66, 67, 68, 69, 70, 71, 72, 73, 74, 75, 76, 77, 78, 79, 80, 81, 82, 83, 84, 85, 86, 87, 88, 89, 90, 91, 92, 93, 94, 95, 96, 97, 98, 99, 100, 101, 102, 103, 104, 105, 106, 107, 108, 109, 110, 111, 112, 113, 114, 115, 116, 117, 118, 119, 120, 121, 122, 123, 124, 125, 126, 127, 128, 129, 130, 131, 132, 133, 134, 135, 136, 137, 138, 145, 146] (by decide +kernel) (by decide +kernel)
set_option maxRecDepth 20000 in
theorem gX5_errorPosition_X2_firstError : GoodIn wsX5_errorPosition (wsV RX5 181 RX2 yX2_firstError wsX2_firstError) := goodIn_app (goodIn_of _ (by decide +kernel)) ggX5_errorPosition_X2_firstError
theorem dX5_errorPosition_0 : decode cX5_errorPosition 0 = .ok (.aload_n 0, 1) := by decide +kernel
theorem dX5_errorPosition_1 : decode cX5_errorPosition 1 = .ok (.getfield 33, 3) := by decide +kernel
theorem dX5_errorPosition_4 : decode cX5_errorPosition 4 = .ok (.invokevirtual 181, 3) := by decide +kernel
theorem dX5_errorPosition_7 : decode cX5_errorPosition 7 = .ok (.ireturn, 1) := by decide +kernel
set_option maxRecDepth 20000 in
theorem ggX5_carryOut_X2_firstError : GoodIn wsX5_carryOut wsX2_firstError := goodIn_r _ [8, 9, 10, 11, 12, 7, 13, 14, 15, 16, 17, 18, 19, 20, 21, 22, 23, 24, 25, 26, 27, 28, 29, 30, 31, 32, 33, 34, 35, 36, 37, 38, 39, 40, 41, 42, 43, 44, 45, 46, 47, 48, 49, 50, 51, 52, 53, 54, 55, 56, 57, 58, 59, 60, 61, 62, 63, 64, 65, 66, 67, 68, 69, 70, 71, 72, 73, 74, 75, 76, 77, 78, 79, 80, 81, 82, 83, 84, 85, 86, 87, 88, 89, 90, 91, 92, 93, 94, 95, 96, 97, 98, 99, 100, 101, 102, 103, 104, 105, 106, 107, 108, 109, 110, 111, 112, 113, 114, 115, 116, 117, 118, 119, 120, 121, 122, 123, 124, 125, 126, 127, 128, 129, 130, 131, 132, 133, 134, 135, 136, 137, 138, 139, 140, 328, 329] (by decide +kernel) (by decide +kernel)
set_option maxRecDepth 20000 in
theorem gX5_carryOut_X2_firstError : GoodIn wsX5_carryOut (wsV RX5 181 RX2 yX2_firstError wsX2_firstError) := goodIn_app (goodIn_of _ (by decide +kernel)) ggX5_carryOut_X2_firstError
set_option maxRecDepth 20000 in
theorem ggX5_carryOut_X1_record : GoodIn wsX5_carryOut wsX1_record := goodIn_r _ [145, 146, 147, 148, 149, 150, 151, 152, 153, 154, 155, 156, 157, 158, 159, 160, 161, 162, 163, 164, 165, 166, 167, 168, 169, 170, 171, 172, 173, 174, 330, 331, 332, 333, 334, 335, 336, 337, 338, 339, 340, 341, 342, 343, 344, 345] (by decide +kernel) (by decide +kernel)
set_option maxRecDepth 20000 in
theorem gX5_carryOut_X1_record : GoodIn wsX5_carryOut (wsV RX5 184 RX1 yX1_record wsX1_record) := goodIn_app (goodIn_of _ (by decide +kernel)) ggX5_carryOut_X1_record
set_option maxRecDepth 20000 in
theorem ggX5_carryOut_X5_carriesOutOrder : GoodIn wsX5_carryOut wsX5_carriesOutOrder := goodIn_r _ [178, 1, 3, 179, 11, 12, 7, 13, 9, 14, 15, 16, 17, 180, 181, 182, 183, 10, 30, 31, 32, 37, 38, 39, 18, 19, 20, 21, 22, 23, 24, 25, 26, 27, 28, 29, 40, 41, 42, 43, 44, 45, 46, 47, 48, 49, 50, 51, 52, 53, 54, 55, 56, 57, 58, 59, 60, 61, 62, 63, 64, 65, 66, 67, 68, 69, 70, 71, 72, 73, 74, 75, 76, 77, 78, 79, 80, 81, 82, 83, 84, 85, 86, 87, 88, 89, 90, 91, 92, 93, 94, 95, 96, 97, 98, 99, 100, 101, 102, 103, 104, 105, 106, 107, 108, 109, 110, 111, 112, 113, 114, 115, 116, 117, 118, 119, 120, 121, 122, 123, 124, 125, 126, 127, 128, 129, 130, 131, 132, 133, 134, 135, 136, 137, 138, 139, 140, 184, 185, 186, 187, 188, 189, 190, 191, 192, 193, 194, 195, 196, 197, 198, 199, 200, 201, 152, 202, 203, 204, 205, 206, 154, 207, 208, 209, 171, 210, 173, 211, 212, 213, 214, 174, 215, 216, 217, 218, 219, 220, 221, 156, 222, 223, 224, 225, 226, 227, 228, 229, 230, 231, 232, 233, 234, 235, 236, 237, 238, 239, 240, 241, 242, 243, 244, 245, 246, 247, 248, 249, 250, 155, 251, 252, 253, 254, 255, 256, 257, 258, 259, 260, 261, 262, 263, 264, 265, 266, 267, 268, 269, 270, 271, 272, 273, 274, 163, 165, 166, 275, 276, 277, 278, 162, 279, 280, 281, 282, 283, 284, 285, 286, 287, 288, 289, 290, 291, 292, 293, 294, 295, 296, 164, 167, 297, 298, 299, 300, 157, 301, 302, 303, 304, 305, 306, 307, 308, 309, 310, 311, 312, 313, 322, 323, 324, 325, 326, 327, 328, 329, 333, 334, 335, 336, 337, 338, 339, 340, 341, 342, 343, 344, 345] (by decide +kernel) (by decide +kernel)
set_option maxRecDepth 20000 in
theorem gX5_carryOut_X5_carriesOutOrder : GoodIn wsX5_carryOut (wsV RX5 188 RX5 yX5_carriesOutOrder wsX5_carriesOutOrder) := goodIn_app (goodIn_of _ (by decide +kernel)) ggX5_carryOut_X5_carriesOutOrder
set_option maxRecDepth 20000 in
theorem ggX5_carryOut_X2_widthAt : GoodIn wsX5_carryOut wsX2_widthAt := goodIn_r _ [317, 10, 11, 12, 7, 13, 9, 14, 15, 16, 17, 30, 31, 32, 18, 19, 20, 21, 22, 23, 24, 25, 26, 27, 28, 29, 328, 329] (by decide +kernel) (by decide +kernel)
set_option maxRecDepth 20000 in
theorem gX5_carryOut_X2_widthAt : GoodIn wsX5_carryOut (wsV RX5 192 RX2 yX2_widthAt wsX2_widthAt) := goodIn_app (goodIn_of _ (by decide +kernel)) ggX5_carryOut_X2_widthAt
set_option maxRecDepth 20000 in
theorem ggX5_carryOut_X2_empty : GoodIn wsX5_carryOut wsX2_empty := goodIn_r _ [321, 9, 328, 329] (by decide +kernel) (by decide +kernel)
set_option maxRecDepth 20000 in
theorem gX5_carryOut_X2_empty : GoodIn wsX5_carryOut (wsV RX5 178 RX2 yX2_empty wsX2_empty) := goodIn_app (goodIn_of _ (by decide +kernel)) ggX5_carryOut_X2_empty
theorem dX5_carryOut_0 : decode cX5_carryOut 0 = .ok (.aload_n 0, 1) := by decide +kernel
theorem dX5_carryOut_1 : decode cX5_carryOut 1 = .ok (.getfield 33, 3) := by decide +kernel
theorem dX5_carryOut_4 : decode cX5_carryOut 4 = .ok (.invokevirtual 181, 3) := by decide +kernel
theorem dX5_carryOut_7 : decode cX5_carryOut 7 = .ok (.bipush (-6), 2) := by decide +kernel
theorem dX5_carryOut_9 : decode cX5_carryOut 9 = .ok (.if_icmp .eq 6, 3) := by decide +kernel
theorem dX5_carryOut_12 : decode cX5_carryOut 12 = .ok (.bipush (-5), 2) := by decide +kernel
theorem dX5_carryOut_14 : decode cX5_carryOut 14 = .ok (.ireturn, 1) := by decide +kernel
theorem dX5_carryOut_15 : decode cX5_carryOut 15 = .ok (.aload_n 0, 1) := by decide +kernel
theorem dX5_carryOut_16 : decode cX5_carryOut 16 = .ok (.getfield 26, 3) := by decide +kernel
theorem dX5_carryOut_19 : decode cX5_carryOut 19 = .ok (.aload_n 0, 1) := by decide +kernel
theorem dX5_carryOut_20 : decode cX5_carryOut 20 = .ok (.getfield 10, 3) := by decide +kernel
theorem dX5_carryOut_23 : decode cX5_carryOut 23 = .ok (.invokevirtual 184, 3) := by decide +kernel
theorem dX5_carryOut_26 : decode cX5_carryOut 26 = .ok (.iconst 0, 1) := by decide +kernel
theorem dX5_carryOut_27 : decode cX5_carryOut 27 = .ok (.istore_n 1, 1) := by decide +kernel
theorem dX5_carryOut_28 : decode cX5_carryOut 28 = .ok (.iconst 0, 1) := by decide +kernel
theorem dX5_carryOut_29 : decode cX5_carryOut 29 = .ok (.istore_n 2, 1) := by decide +kernel
theorem dX5_carryOut_30 : decode cX5_carryOut 30 = .ok (.iload_n 2, 1) := by decide +kernel
theorem dX5_carryOut_31 : decode cX5_carryOut 31 = .ok (.aload_n 0, 1) := by decide +kernel
theorem dX5_carryOut_32 : decode cX5_carryOut 32 = .ok (.getfield 33, 3) := by decide +kernel
theorem dX5_carryOut_35 : decode cX5_carryOut 35 = .ok (.getfield 172, 3) := by decide +kernel
theorem dX5_carryOut_38 : decode cX5_carryOut 38 = .ok (.if_icmp .ge 33, 3) := by decide +kernel
theorem dX5_carryOut_41 : decode cX5_carryOut 41 = .ok (.aload_n 0, 1) := by decide +kernel
theorem dX5_carryOut_42 : decode cX5_carryOut 42 = .ok (.iload_n 2, 1) := by decide +kernel
theorem dX5_carryOut_43 : decode cX5_carryOut 43 = .ok (.invokevirtual 188, 3) := by decide +kernel
theorem dX5_carryOut_46 : decode cX5_carryOut 46 = .ok (.ifCond .ne 6, 3) := by decide +kernel
theorem dX5_carryOut_49 : decode cX5_carryOut 49 = .ok (.goto 22, 3) := by decide +kernel
theorem dX5_carryOut_52 : decode cX5_carryOut 52 = .ok (.iinc 1 1, 3) := by decide +kernel
theorem dX5_carryOut_55 : decode cX5_carryOut 55 = .ok (.iload_n 2, 1) := by decide +kernel
theorem dX5_carryOut_56 : decode cX5_carryOut 56 = .ok (.aload_n 0, 1) := by decide +kernel
theorem dX5_carryOut_57 : decode cX5_carryOut 57 = .ok (.getfield 33, 3) := by decide +kernel
theorem dX5_carryOut_60 : decode cX5_carryOut 60 = .ok (.iload_n 2, 1) := by decide +kernel
theorem dX5_carryOut_61 : decode cX5_carryOut 61 = .ok (.invokevirtual 192, 3) := by decide +kernel
theorem dX5_carryOut_64 : decode cX5_carryOut 64 = .ok (.iconst 1, 1) := by decide +kernel
theorem dX5_carryOut_65 : decode cX5_carryOut 65 = .ok (.iadd, 1) := by decide +kernel
theorem dX5_carryOut_66 : decode cX5_carryOut 66 = .ok (.iadd, 1) := by decide +kernel
theorem dX5_carryOut_67 : decode cX5_carryOut 67 = .ok (.istore_n 2, 1) := by decide +kernel
theorem dX5_carryOut_68 : decode cX5_carryOut 68 = .ok (.goto (-38), 3) := by decide +kernel
theorem dX5_carryOut_71 : decode cX5_carryOut 71 = .ok (.aload_n 0, 1) := by decide +kernel
theorem dX5_carryOut_72 : decode cX5_carryOut 72 = .ok (.getfield 33, 3) := by decide +kernel
theorem dX5_carryOut_75 : decode cX5_carryOut 75 = .ok (.invokevirtual 178, 3) := by decide +kernel
theorem dX5_carryOut_78 : decode cX5_carryOut 78 = .ok (.pop, 1) := by decide +kernel
theorem dX5_carryOut_79 : decode cX5_carryOut 79 = .ok (.iload_n 1, 1) := by decide +kernel
theorem dX5_carryOut_80 : decode cX5_carryOut 80 = .ok (.ireturn, 1) := by decide +kernel
set_option maxRecDepth 20000 in
theorem ggX5_undo_X1_takeBack : GoodIn wsX5_undo wsX1_takeBack := goodIn_r _ [7, 8, 9, 10, 11, 12, 13, 14, 15, 16, 17, 18, 19, 20, 21, 22, 23, 24, 25, 26, 27, 28, 29, 30, 31, 32, 33, 34, 35, 36, 43, 44, 45, 46, 47, 48, 49, 50, 51, 52, 53, 54, 55, 56, 57, 58] (by decide +kernel) (by decide +kernel)
set_option maxRecDepth 20000 in
theorem gX5_undo_X1_takeBack : GoodIn wsX5_undo (wsV RX5 197 RX1 yX1_takeBack wsX1_takeBack) := goodIn_app (goodIn_of _ (by decide +kernel)) ggX5_undo_X1_takeBack
theorem dX5_undo_0 : decode cX5_undo 0 = .ok (.aload_n 0, 1) := by decide +kernel
theorem dX5_undo_1 : decode cX5_undo 1 = .ok (.getfield 26, 3) := by decide +kernel
theorem dX5_undo_4 : decode cX5_undo 4 = .ok (.getfield 195, 3) := by decide +kernel
theorem dX5_undo_7 : decode cX5_undo 7 = .ok (.ifCond .ne 6, 3) := by decide +kernel
theorem dX5_undo_10 : decode cX5_undo 10 = .ok (.bipush (-3), 2) := by decide +kernel
theorem dX5_undo_12 : decode cX5_undo 12 = .ok (.ireturn, 1) := by decide +kernel
theorem dX5_undo_13 : decode cX5_undo 13 = .ok (.aload_n 0, 1) := by decide +kernel
theorem dX5_undo_14 : decode cX5_undo 14 = .ok (.getfield 26, 3) := by decide +kernel
theorem dX5_undo_17 : decode cX5_undo 17 = .ok (.aload_n 0, 1) := by decide +kernel
theorem dX5_undo_18 : decode cX5_undo 18 = .ok (.getfield 10, 3) := by decide +kernel
theorem dX5_undo_21 : decode cX5_undo 21 = .ok (.invokevirtual 197, 3) := by decide +kernel
theorem dX5_undo_24 : decode cX5_undo 24 = .ok (.ireturn, 1) := by decide +kernel
set_option maxRecDepth 20000 in
theorem ggX5_save_X3_copyFrom : GoodIn wsX5_save wsX3_copyFrom := goodIn_r _ [8, 9, 10, 11, 12, 13, 14, 15, 16, 17, 18, 19, 20, 21, 22, 23, 24, 25, 26, 27, 28, 29, 36, 37, 38, 39, 40, 41, 42, 43, 44, 45, 46, 47, 48] (by decide +kernel) (by decide +kernel)
set_option maxRecDepth 20000 in
theorem gX5_save_X3_copyFrom : GoodIn wsX5_save (wsV RX5 201 RX3 yX3_copyFrom wsX3_copyFrom) := goodIn_app (goodIn_of _ (by decide +kernel)) ggX5_save_X3_copyFrom
theorem dX5_save_0 : decode cX5_save 0 = .ok (.aload_n 0, 1) := by decide +kernel
theorem dX5_save_1 : decode cX5_save 1 = .ok (.getfield 16, 3) := by decide +kernel
theorem dX5_save_4 : decode cX5_save 4 = .ok (.aload_n 0, 1) := by decide +kernel
theorem dX5_save_5 : decode cX5_save 5 = .ok (.getfield 10, 3) := by decide +kernel
theorem dX5_save_8 : decode cX5_save 8 = .ok (.invokevirtual 201, 3) := by decide +kernel
theorem dX5_save_11 : decode cX5_save 11 = .ok (.aload_n 0, 1) := by decide +kernel
theorem dX5_save_12 : decode cX5_save 12 = .ok (.iconst 1, 1) := by decide +kernel
theorem dX5_save_13 : decode cX5_save 13 = .ok (.putfield 19, 3) := by decide +kernel
theorem dX5_save_16 : decode cX5_save 16 = .ok (.aload_n 0, 1) := by decide +kernel
theorem dX5_save_17 : decode cX5_save 17 = .ok (.getfield 10, 3) := by decide +kernel
theorem dX5_save_20 : decode cX5_save 20 = .ok (.getfield 141, 3) := by decide +kernel
theorem dX5_save_23 : decode cX5_save 23 = .ok (.ireturn, 1) := by decide +kernel
set_option maxRecDepth 20000 in
theorem ggX5_restore_X5_recordedRoad : GoodIn wsX5_restore wsX5_recordedRoad := goodIn_r _ [8, 9, 3, 10, 11, 12, 13, 14, 15, 16, 17, 18, 19, 20, 21, 22, 23, 24, 25, 26, 27, 28, 29, 30, 31, 32, 33, 34, 35, 36, 37, 38, 39, 40, 41, 42, 43, 45, 46, 47, 48, 49, 50, 61, 62, 63, 51, 52, 53, 54, 55, 56, 57, 58, 59, 60, 64, 65, 66] (by decide +kernel) (by decide +kernel)
set_option maxRecDepth 20000 in
theorem gX5_restore_X5_recordedRoad : GoodIn wsX5_restore (wsV RX5 48 RX5 yX5_recordedRoad wsX5_recordedRoad) := goodIn_app (goodIn_of _ (by decide +kernel)) ggX5_restore_X5_recordedRoad
set_option maxRecDepth 20000 in
theorem ggX5_restore_X3_copyFrom : GoodIn wsX5_restore wsX3_copyFrom := goodIn_r _ [22, 23, 24, 25, 26, 27, 28, 29, 30, 31, 32, 33, 34, 35, 36, 37, 38, 39, 40, 41, 42, 43, 51, 52, 53, 54, 55, 56, 57, 58, 59, 60, 64, 65, 66] (by decide +kernel) (by decide +kernel)
set_option maxRecDepth 20000 in
theorem gX5_restore_X3_copyFrom : GoodIn wsX5_restore (wsV RX5 201 RX3 yX3_copyFrom wsX3_copyFrom) := goodIn_app (goodIn_of _ (by decide +kernel)) ggX5_restore_X3_copyFrom
theorem dX5_restore_0 : decode cX5_restore 0 = .ok (.aload_n 0, 1) := by decide +kernel
theorem dX5_restore_1 : decode cX5_restore 1 = .ok (.getfield 19, 3) := by decide +kernel
theorem dX5_restore_4 : decode cX5_restore 4 = .ok (.ifCond .ne 6, 3) := by decide +kernel
theorem dX5_restore_7 : decode cX5_restore 7 = .ok (.bipush (-3), 2) := by decide +kernel
theorem dX5_restore_9 : decode cX5_restore 9 = .ok (.ireturn, 1) := by decide +kernel
theorem dX5_restore_10 : decode cX5_restore 10 = .ok (.aload_n 0, 1) := by decide +kernel
theorem dX5_restore_11 : decode cX5_restore 11 = .ok (.invokevirtual 48, 3) := by decide +kernel
theorem dX5_restore_14 : decode cX5_restore 14 = .ok (.aload_n 0, 1) := by decide +kernel
theorem dX5_restore_15 : decode cX5_restore 15 = .ok (.getfield 16, 3) := by decide +kernel
theorem dX5_restore_18 : decode cX5_restore 18 = .ok (.invokevirtual 201, 3) := by decide +kernel
theorem dX5_restore_21 : decode cX5_restore 21 = .ok (.aload_n 0, 1) := by decide +kernel
theorem dX5_restore_22 : decode cX5_restore 22 = .ok (.getfield 10, 3) := by decide +kernel
theorem dX5_restore_25 : decode cX5_restore 25 = .ok (.getfield 141, 3) := by decide +kernel
theorem dX5_restore_28 : decode cX5_restore 28 = .ok (.ireturn, 1) := by decide +kernel
set_option maxRecDepth 20000 in
theorem ggX5_recordedRoad_X1_record : GoodIn wsX5_recordedRoad wsX1_record := goodIn_r _ [7, 8, 9, 10, 11, 12, 13, 14, 15, 16, 17, 18, 19, 20, 21, 22, 23, 24, 25, 26, 27, 28, 29, 30, 31, 32, 33, 34, 35, 36, 43, 44, 45, 46, 47, 48, 49, 50, 51, 52, 53, 54, 55, 56, 57, 58] (by decide +kernel) (by decide +kernel)
set_option maxRecDepth 20000 in
theorem gX5_recordedRoad_X1_record : GoodIn wsX5_recordedRoad (wsV RX5 184 RX1 yX1_record wsX1_record) := goodIn_app (goodIn_of _ (by decide +kernel)) ggX5_recordedRoad_X1_record
theorem dX5_recordedRoad_0 : decode cX5_recordedRoad 0 = .ok (.aload_n 0, 1) := by decide +kernel
theorem dX5_recordedRoad_1 : decode cX5_recordedRoad 1 = .ok (.getfield 26, 3) := by decide +kernel
theorem dX5_recordedRoad_4 : decode cX5_recordedRoad 4 = .ok (.aload_n 0, 1) := by decide +kernel
theorem dX5_recordedRoad_5 : decode cX5_recordedRoad 5 = .ok (.getfield 10, 3) := by decide +kernel
theorem dX5_recordedRoad_8 : decode cX5_recordedRoad 8 = .ok (.invokevirtual 184, 3) := by decide +kernel
theorem dX5_recordedRoad_11 : decode cX5_recordedRoad 11 = .ok (.aload_n 0, 1) := by decide +kernel
theorem dX5_recordedRoad_12 : decode cX5_recordedRoad 12 = .ok (.getfield 10, 3) := by decide +kernel
theorem dX5_recordedRoad_15 : decode cX5_recordedRoad 15 = .ok (.areturn, 1) := by decide +kernel
set_option maxRecDepth 20000 in
theorem ggX5_arrowError_X5_placeError : GoodIn wsX5_arrowError wsX5_placeError := goodIn_r _ [5, 6, 7, 4, 8, 9, 10, 11] (by decide +kernel) (by decide +kernel)
set_option maxRecDepth 20000 in
theorem gX5_arrowError_X5_placeError : GoodIn wsX5_arrowError (va_wsS RX5 55 yX5_placeError wsX5_placeError) := goodIn_app (goodIn_of _ (by decide +kernel)) ggX5_arrowError_X5_placeError
set_option maxRecDepth 20000 in
theorem ggX5_arrowError_X3_refusal : GoodIn wsX5_arrowError wsX3_refusal := goodIn_r _ [16, 17, 18, 19, 15, 20, 21, 10, 4, 11, 22, 23, 24, 25, 26, 27, 28, 29, 30, 31, 32, 33, 34, 35, 36, 37, 38, 39, 40, 41, 42, 43, 50, 51, 52, 53, 54, 55, 56, 57, 58, 59, 60, 61, 62] (by decide +kernel) (by decide +kernel)
set_option maxRecDepth 20000 in
theorem gX5_arrowError_X3_refusal : GoodIn wsX5_arrowError (wsV RX5 159 RX3 yX3_refusal wsX3_refusal) := goodIn_app (goodIn_of _ (by decide +kernel)) ggX5_arrowError_X3_refusal
theorem dX5_arrowError_0 : decode cX5_arrowError 0 = .ok (.iload_n 1, 1) := by decide +kernel
theorem dX5_arrowError_1 : decode cX5_arrowError 1 = .ok (.iconst 3, 1) := by decide +kernel
theorem dX5_arrowError_2 : decode cX5_arrowError 2 = .ok (.iload_n 2, 1) := by decide +kernel
theorem dX5_arrowError_3 : decode cX5_arrowError 3 = .ok (.iload_n 3, 1) := by decide +kernel
theorem dX5_arrowError_4 : decode cX5_arrowError 4 = .ok (.iconst 3, 1) := by decide +kernel
theorem dX5_arrowError_5 : decode cX5_arrowError 5 = .ok (.invokestatic 55, 3) := by decide +kernel
theorem dX5_arrowError_8 : decode cX5_arrowError 8 = .ok (.istore 4, 2) := by decide +kernel
theorem dX5_arrowError_10 : decode cX5_arrowError 10 = .ok (.iload 4, 2) := by decide +kernel
theorem dX5_arrowError_12 : decode cX5_arrowError 12 = .ok (.ifCond .eq 6, 3) := by decide +kernel
theorem dX5_arrowError_15 : decode cX5_arrowError 15 = .ok (.iload 4, 2) := by decide +kernel
theorem dX5_arrowError_17 : decode cX5_arrowError 17 = .ok (.ireturn, 1) := by decide +kernel
theorem dX5_arrowError_18 : decode cX5_arrowError 18 = .ok (.aload_n 0, 1) := by decide +kernel
theorem dX5_arrowError_19 : decode cX5_arrowError 19 = .ok (.getfield 10, 3) := by decide +kernel
theorem dX5_arrowError_22 : decode cX5_arrowError 22 = .ok (.iload_n 1, 1) := by decide +kernel
theorem dX5_arrowError_23 : decode cX5_arrowError 23 = .ok (.iload_n 2, 1) := by decide +kernel
theorem dX5_arrowError_24 : decode cX5_arrowError 24 = .ok (.iload_n 3, 1) := by decide +kernel
theorem dX5_arrowError_25 : decode cX5_arrowError 25 = .ok (.invokevirtual 159, 3) := by decide +kernel
theorem dX5_arrowError_28 : decode cX5_arrowError 28 = .ok (.ifCond .ne 7, 3) := by decide +kernel
theorem dX5_arrowError_31 : decode cX5_arrowError 31 = .ok (.iconst 0, 1) := by decide +kernel
theorem dX5_arrowError_32 : decode cX5_arrowError 32 = .ok (.goto 5, 3) := by decide +kernel
theorem dX5_arrowError_35 : decode cX5_arrowError 35 = .ok (.bipush (-3), 2) := by decide +kernel
theorem dX5_arrowError_37 : decode cX5_arrowError 37 = .ok (.ireturn, 1) := by decide +kernel
set_option maxRecDepth 20000 in
theorem ggX5_nightError_X5_isWithin : GoodIn wsX5_nightError wsX5_isWithin := goodIn_r _ [5] (by decide +kernel) (by decide +kernel)
set_option maxRecDepth 20000 in
theorem gX5_nightError_X5_isWithin : GoodIn wsX5_nightError (va_wsS RX5 73 yX5_isWithin wsX5_isWithin) := goodIn_app (goodIn_of _ (by decide +kernel)) ggX5_nightError_X5_isWithin
theorem dX5_nightError_0 : decode cX5_nightError 0 = .ok (.iload_n 1, 1) := by decide +kernel
theorem dX5_nightError_1 : decode cX5_nightError 1 = .ok (.iconst 0, 1) := by decide +kernel
theorem dX5_nightError_2 : decode cX5_nightError 2 = .ok (.bipush 15, 2) := by decide +kernel
theorem dX5_nightError_4 : decode cX5_nightError 4 = .ok (.invokestatic 73, 3) := by decide +kernel
theorem dX5_nightError_7 : decode cX5_nightError 7 = .ok (.ifCond .eq 13, 3) := by decide +kernel
theorem dX5_nightError_10 : decode cX5_nightError 10 = .ok (.iload_n 2, 1) := by decide +kernel
theorem dX5_nightError_11 : decode cX5_nightError 11 = .ok (.iconst 0, 1) := by decide +kernel
theorem dX5_nightError_12 : decode cX5_nightError 12 = .ok (.bipush 15, 2) := by decide +kernel
theorem dX5_nightError_14 : decode cX5_nightError 14 = .ok (.invokestatic 73, 3) := by decide +kernel
theorem dX5_nightError_17 : decode cX5_nightError 17 = .ok (.ifCond .ne 5, 3) := by decide +kernel
theorem dX5_nightError_20 : decode cX5_nightError 20 = .ok (.iconst (-1), 1) := by decide +kernel
theorem dX5_nightError_21 : decode cX5_nightError 21 = .ok (.ireturn, 1) := by decide +kernel
theorem dX5_nightError_22 : decode cX5_nightError 22 = .ok (.aload_n 0, 1) := by decide +kernel
theorem dX5_nightError_23 : decode cX5_nightError 23 = .ok (.getfield 10, 3) := by decide +kernel
theorem dX5_nightError_26 : decode cX5_nightError 26 = .ok (.getfield 82, 3) := by decide +kernel
theorem dX5_nightError_29 : decode cX5_nightError 29 = .ok (.ifCond .ne 8, 3) := by decide +kernel
theorem dX5_nightError_32 : decode cX5_nightError 32 = .ok (.bipush (-3), 2) := by decide +kernel
theorem dX5_nightError_34 : decode cX5_nightError 34 = .ok (.goto 4, 3) := by decide +kernel
theorem dX5_nightError_37 : decode cX5_nightError 37 = .ok (.iconst 0, 1) := by decide +kernel
theorem dX5_nightError_38 : decode cX5_nightError 38 = .ok (.ireturn, 1) := by decide +kernel
set_option maxRecDepth 20000 in
theorem ggX5_carriesOutOrder_X2_codeAt : GoodIn wsX5_carriesOutOrder wsX2_codeAt := goodIn_r _ [7, 8, 9, 10, 11, 12, 287, 288] (by decide +kernel) (by decide +kernel)
set_option maxRecDepth 20000 in
theorem gX5_carriesOutOrder_X2_codeAt : GoodIn wsX5_carriesOutOrder (wsV RX5 204 RX2 yX2_codeAt wsX2_codeAt) := goodIn_app (goodIn_of _ (by decide +kernel)) ggX5_carriesOutOrder_X2_codeAt
set_option maxRecDepth 20000 in
theorem ggX5_carriesOutOrder_X2_argument : GoodIn wsX5_carriesOutOrder wsX2_argument := goodIn_r _ [16, 17, 4, 5, 6, 7, 8, 9, 10, 11, 12, 18, 19, 20, 21, 22, 23, 24, 25, 26, 27, 28, 29, 30, 31, 32, 33, 34, 35, 36, 37, 38, 39, 40, 41, 42, 43, 44, 45, 46, 47, 48, 49, 50, 51, 52, 53, 54, 55, 56, 57, 58, 59, 60, 61, 62, 63, 64, 65, 66, 67, 68, 69, 70, 71, 72, 73, 74, 75, 76, 77, 78, 79, 80, 81, 82, 83, 84, 85, 86, 87, 88, 89, 90, 91, 92, 93, 94, 95, 96, 97, 98, 99, 100, 101, 102, 103, 104, 105, 106, 107, 108, 109, 110, 111, 112, 113, 114, 115, 116, 117, 118, 119, 120, 121, 122, 123, 124, 125, 126, 127, 128, 129, 130, 131, 132, 133, 134, 135, 136, 287, 288] (by decide +kernel) (by decide +kernel)
set_option maxRecDepth 20000 in
theorem gX5_carriesOutOrder_X2_argument : GoodIn wsX5_carriesOutOrder (wsV RX5 207 RX2 yX2_argument wsX2_argument) := goodIn_app (goodIn_of _ (by decide +kernel)) ggX5_carriesOutOrder_X2_argument
set_option maxRecDepth 20000 in
theorem ggX5_carriesOutOrder_X5_orderError : GoodIn wsX5_carriesOutOrder wsX5_orderError := goodIn_r _ [140, 141, 142, 143, 11, 144, 2, 145, 146, 147, 148, 149, 150, 151, 10, 12, 152, 153, 154, 155, 156, 157, 158, 159, 160, 161, 162, 163, 164, 165, 166, 167, 168, 169, 170, 171, 172, 173, 174, 175, 176, 177, 178, 179, 180, 181, 182, 183, 184, 185, 186, 187, 281, 282, 283, 284, 285, 286, 289, 290, 291, 292, 293, 294, 295, 296, 297, 298, 299, 300, 301] (by decide +kernel) (by decide +kernel)
set_option maxRecDepth 20000 in
theorem gX5_carriesOutOrder_X5_orderError : GoodIn wsX5_carriesOutOrder (wsV RX5 210 RX5 yX5_orderError wsX5_orderError) := goodIn_app (goodIn_of _ (by decide +kernel)) ggX5_carriesOutOrder_X5_orderError
set_option maxRecDepth 20000 in
theorem ggX5_carriesOutOrder_X3_putArrow : GoodIn wsX5_carriesOutOrder wsX3_putArrow := goodIn_r _ [191, 161, 192, 193, 194, 165, 195, 172, 167, 196, 197, 198, 199, 200, 201, 202, 203, 204, 11, 205, 289, 290, 291, 292, 293, 294, 295, 296, 297, 298, 299, 300, 301] (by decide +kernel) (by decide +kernel)
set_option maxRecDepth 20000 in
theorem gX5_carriesOutOrder_X3_putArrow : GoodIn wsX5_carriesOutOrder (wsV RX5 52 RX3 yX3_putArrow wsX3_putArrow) := goodIn_app (goodIn_of _ (by decide +kernel)) ggX5_carriesOutOrder_X3_putArrow
set_option maxRecDepth 20000 in
theorem ggX5_carriesOutOrder_X3_putWord : GoodIn wsX5_carriesOutOrder wsX3_putWord := goodIn_r _ [209, 210, 192, 193, 194, 165, 195, 172, 167, 196, 197, 198, 199, 200, 201, 202, 203, 204, 11, 205, 289, 290, 291, 292, 293, 294, 295, 296, 297, 298, 299, 300, 301] (by decide +kernel) (by decide +kernel)
set_option maxRecDepth 20000 in
theorem gX5_carriesOutOrder_X3_putWord : GoodIn wsX5_carriesOutOrder (wsV RX5 59 RX3 yX3_putWord wsX3_putWord) := goodIn_app (goodIn_of _ (by decide +kernel)) ggX5_carriesOutOrder_X3_putWord
set_option maxRecDepth 20000 in
theorem ggX5_carriesOutOrder_X3_putDash : GoodIn wsX5_carriesOutOrder wsX3_putDash := goodIn_r _ [214, 180, 215, 216, 217, 155, 218, 168, 169, 170, 165, 171, 167, 172, 219, 220, 221, 222, 223, 224, 225, 226, 227, 89, 90, 91, 204, 11, 205, 192, 193, 194, 195, 289, 290, 291, 292, 293, 294, 295, 296, 297, 298, 299, 300, 301] (by decide +kernel) (by decide +kernel)
set_option maxRecDepth 20000 in
theorem gX5_carriesOutOrder_X3_putDash : GoodIn wsX5_carriesOutOrder (wsV RX5 62 RX3 yX3_putDash wsX3_putDash) := goodIn_app (goodIn_of _ (by decide +kernel)) ggX5_carriesOutOrder_X3_putDash
set_option maxRecDepth 20000 in
theorem ggX5_carriesOutOrder_X3_workNight : GoodIn wsX5_carriesOutOrder wsX3_workNight := goodIn_r _ [231, 232, 233, 90, 234, 235, 236, 237, 238, 239, 240, 155, 241, 242, 243, 93, 94, 244, 245, 246, 247, 210, 161, 180, 248, 249, 250, 165, 251, 252, 167, 253, 254, 255, 256, 289, 290, 291, 292, 293, 294, 295, 296, 297, 298, 299, 300, 301] (by decide +kernel) (by decide +kernel)
set_option maxRecDepth 20000 in
theorem gX5_carriesOutOrder_X3_workNight : GoodIn wsX5_carriesOutOrder (wsV RX5 96 RX3 yX3_workNight wsX3_workNight) := goodIn_app (goodIn_of _ (by decide +kernel)) ggX5_carriesOutOrder_X3_workNight
set_option maxRecDepth 20000 in
theorem ggX5_carriesOutOrder_X3_passDays : GoodIn wsX5_carriesOutOrder wsX3_passDays := goodIn_r _ [260, 261, 262, 263, 264, 265, 155, 266, 210, 161, 267, 180, 268, 269, 270, 271, 272, 273, 274, 275, 242, 276, 277, 278, 165, 279, 167, 168, 169, 170, 171, 172, 280, 224, 225, 226, 227, 89, 90, 91, 204, 11, 205, 289, 290, 291, 292, 293, 294, 295, 296, 297, 298, 299, 300, 301] (by decide +kernel) (by decide +kernel)
set_option maxRecDepth 20000 in
theorem gX5_carriesOutOrder_X3_passDays : GoodIn wsX5_carriesOutOrder (wsV RX5 90 RX3 yX3_passDays wsX3_passDays) := goodIn_app (goodIn_of _ (by decide +kernel)) ggX5_carriesOutOrder_X3_passDays
theorem dX5_carriesOutOrder_0 : decode cX5_carriesOutOrder 0 = .ok (.aload_n 0, 1) := by decide +kernel
theorem dX5_carriesOutOrder_1 : decode cX5_carriesOutOrder 1 = .ok (.getfield 33, 3) := by decide +kernel
theorem dX5_carriesOutOrder_4 : decode cX5_carriesOutOrder 4 = .ok (.iload_n 1, 1) := by decide +kernel
theorem dX5_carriesOutOrder_5 : decode cX5_carriesOutOrder 5 = .ok (.invokevirtual 204, 3) := by decide +kernel
theorem dX5_carriesOutOrder_8 : decode cX5_carriesOutOrder 8 = .ok (.istore_n 2, 1) := by decide +kernel
theorem dX5_carriesOutOrder_9 : decode cX5_carriesOutOrder 9 = .ok (.aload_n 0, 1) := by decide +kernel
theorem dX5_carriesOutOrder_10 : decode cX5_carriesOutOrder 10 = .ok (.getfield 33, 3) := by decide +kernel
theorem dX5_carriesOutOrder_13 : decode cX5_carriesOutOrder 13 = .ok (.iload_n 1, 1) := by decide +kernel
theorem dX5_carriesOutOrder_14 : decode cX5_carriesOutOrder 14 = .ok (.iconst 1, 1) := by decide +kernel
theorem dX5_carriesOutOrder_15 : decode cX5_carriesOutOrder 15 = .ok (.invokevirtual 207, 3) := by decide +kernel
theorem dX5_carriesOutOrder_18 : decode cX5_carriesOutOrder 18 = .ok (.istore_n 3, 1) := by decide +kernel
theorem dX5_carriesOutOrder_19 : decode cX5_carriesOutOrder 19 = .ok (.aload_n 0, 1) := by decide +kernel
theorem dX5_carriesOutOrder_20 : decode cX5_carriesOutOrder 20 = .ok (.getfield 33, 3) := by decide +kernel
theorem dX5_carriesOutOrder_23 : decode cX5_carriesOutOrder 23 = .ok (.iload_n 1, 1) := by decide +kernel
theorem dX5_carriesOutOrder_24 : decode cX5_carriesOutOrder 24 = .ok (.iconst 2, 1) := by decide +kernel
theorem dX5_carriesOutOrder_25 : decode cX5_carriesOutOrder 25 = .ok (.invokevirtual 207, 3) := by decide +kernel
theorem dX5_carriesOutOrder_28 : decode cX5_carriesOutOrder 28 = .ok (.istore 4, 2) := by decide +kernel
theorem dX5_carriesOutOrder_30 : decode cX5_carriesOutOrder 30 = .ok (.aload_n 0, 1) := by decide +kernel
theorem dX5_carriesOutOrder_31 : decode cX5_carriesOutOrder 31 = .ok (.getfield 33, 3) := by decide +kernel
theorem dX5_carriesOutOrder_34 : decode cX5_carriesOutOrder 34 = .ok (.iload_n 1, 1) := by decide +kernel
theorem dX5_carriesOutOrder_35 : decode cX5_carriesOutOrder 35 = .ok (.iconst 3, 1) := by decide +kernel
theorem dX5_carriesOutOrder_36 : decode cX5_carriesOutOrder 36 = .ok (.invokevirtual 207, 3) := by decide +kernel
theorem dX5_carriesOutOrder_39 : decode cX5_carriesOutOrder 39 = .ok (.istore 5, 2) := by decide +kernel
theorem dX5_carriesOutOrder_41 : decode cX5_carriesOutOrder 41 = .ok (.aload_n 0, 1) := by decide +kernel
theorem dX5_carriesOutOrder_42 : decode cX5_carriesOutOrder 42 = .ok (.iload_n 2, 1) := by decide +kernel
theorem dX5_carriesOutOrder_43 : decode cX5_carriesOutOrder 43 = .ok (.iload_n 3, 1) := by decide +kernel
theorem dX5_carriesOutOrder_44 : decode cX5_carriesOutOrder 44 = .ok (.iload 4, 2) := by decide +kernel
theorem dX5_carriesOutOrder_46 : decode cX5_carriesOutOrder 46 = .ok (.iload 5, 2) := by decide +kernel
theorem dX5_carriesOutOrder_48 : decode cX5_carriesOutOrder 48 = .ok (.invokevirtual 210, 3) := by decide +kernel
theorem dX5_carriesOutOrder_51 : decode cX5_carriesOutOrder 51 = .ok (.ifCond .eq 5, 3) := by decide +kernel
theorem dX5_carriesOutOrder_54 : decode cX5_carriesOutOrder 54 = .ok (.iconst 0, 1) := by decide +kernel
theorem dX5_carriesOutOrder_55 : decode cX5_carriesOutOrder 55 = .ok (.ireturn, 1) := by decide +kernel
theorem dX5_carriesOutOrder_56 : decode cX5_carriesOutOrder 56 = .ok (.iload_n 2, 1) := by decide +kernel
theorem dX5_carriesOutOrder_57 : decode cX5_carriesOutOrder 57 = .ok (.lookupswitch 105 #[(97, 43), (108, 75), (110, 91), (119, 59)], 43) := by decide +kernel
theorem dX5_carriesOutOrder_100 : decode cX5_carriesOutOrder 100 = .ok (.aload_n 0, 1) := by decide +kernel
theorem dX5_carriesOutOrder_101 : decode cX5_carriesOutOrder 101 = .ok (.getfield 10, 3) := by decide +kernel
theorem dX5_carriesOutOrder_104 : decode cX5_carriesOutOrder 104 = .ok (.iload_n 3, 1) := by decide +kernel
theorem dX5_carriesOutOrder_105 : decode cX5_carriesOutOrder 105 = .ok (.iload 4, 2) := by decide +kernel
theorem dX5_carriesOutOrder_107 : decode cX5_carriesOutOrder 107 = .ok (.iload 5, 2) := by decide +kernel
theorem dX5_carriesOutOrder_109 : decode cX5_carriesOutOrder 109 = .ok (.invokevirtual 52, 3) := by decide +kernel
theorem dX5_carriesOutOrder_112 : decode cX5_carriesOutOrder 112 = .ok (.pop, 1) := by decide +kernel
theorem dX5_carriesOutOrder_113 : decode cX5_carriesOutOrder 113 = .ok (.goto 58, 3) := by decide +kernel
theorem dX5_carriesOutOrder_116 : decode cX5_carriesOutOrder 116 = .ok (.aload_n 0, 1) := by decide +kernel
theorem dX5_carriesOutOrder_117 : decode cX5_carriesOutOrder 117 = .ok (.getfield 10, 3) := by decide +kernel
theorem dX5_carriesOutOrder_120 : decode cX5_carriesOutOrder 120 = .ok (.iload_n 3, 1) := by decide +kernel
theorem dX5_carriesOutOrder_121 : decode cX5_carriesOutOrder 121 = .ok (.iload 4, 2) := by decide +kernel
theorem dX5_carriesOutOrder_123 : decode cX5_carriesOutOrder 123 = .ok (.iload 5, 2) := by decide +kernel
theorem dX5_carriesOutOrder_125 : decode cX5_carriesOutOrder 125 = .ok (.invokevirtual 59, 3) := by decide +kernel
theorem dX5_carriesOutOrder_128 : decode cX5_carriesOutOrder 128 = .ok (.pop, 1) := by decide +kernel
theorem dX5_carriesOutOrder_129 : decode cX5_carriesOutOrder 129 = .ok (.goto 42, 3) := by decide +kernel
theorem dX5_carriesOutOrder_132 : decode cX5_carriesOutOrder 132 = .ok (.aload_n 0, 1) := by decide +kernel
theorem dX5_carriesOutOrder_133 : decode cX5_carriesOutOrder 133 = .ok (.getfield 10, 3) := by decide +kernel
theorem dX5_carriesOutOrder_136 : decode cX5_carriesOutOrder 136 = .ok (.iload_n 3, 1) := by decide +kernel
theorem dX5_carriesOutOrder_137 : decode cX5_carriesOutOrder 137 = .ok (.iload 4, 2) := by decide +kernel
theorem dX5_carriesOutOrder_139 : decode cX5_carriesOutOrder 139 = .ok (.iload 5, 2) := by decide +kernel
theorem dX5_carriesOutOrder_141 : decode cX5_carriesOutOrder 141 = .ok (.invokevirtual 62, 3) := by decide +kernel
theorem dX5_carriesOutOrder_144 : decode cX5_carriesOutOrder 144 = .ok (.pop, 1) := by decide +kernel
theorem dX5_carriesOutOrder_145 : decode cX5_carriesOutOrder 145 = .ok (.goto 26, 3) := by decide +kernel
theorem dX5_carriesOutOrder_148 : decode cX5_carriesOutOrder 148 = .ok (.aload_n 0, 1) := by decide +kernel
theorem dX5_carriesOutOrder_149 : decode cX5_carriesOutOrder 149 = .ok (.getfield 10, 3) := by decide +kernel
theorem dX5_carriesOutOrder_152 : decode cX5_carriesOutOrder 152 = .ok (.iload_n 3, 1) := by decide +kernel
theorem dX5_carriesOutOrder_153 : decode cX5_carriesOutOrder 153 = .ok (.iload 4, 2) := by decide +kernel
theorem dX5_carriesOutOrder_155 : decode cX5_carriesOutOrder 155 = .ok (.invokevirtual 96, 3) := by decide +kernel
theorem dX5_carriesOutOrder_158 : decode cX5_carriesOutOrder 158 = .ok (.pop, 1) := by decide +kernel
theorem dX5_carriesOutOrder_159 : decode cX5_carriesOutOrder 159 = .ok (.goto 12, 3) := by decide +kernel
theorem dX5_carriesOutOrder_162 : decode cX5_carriesOutOrder 162 = .ok (.aload_n 0, 1) := by decide +kernel
theorem dX5_carriesOutOrder_163 : decode cX5_carriesOutOrder 163 = .ok (.getfield 10, 3) := by decide +kernel
theorem dX5_carriesOutOrder_166 : decode cX5_carriesOutOrder 166 = .ok (.iconst 1, 1) := by decide +kernel
theorem dX5_carriesOutOrder_167 : decode cX5_carriesOutOrder 167 = .ok (.invokevirtual 90, 3) := by decide +kernel
theorem dX5_carriesOutOrder_170 : decode cX5_carriesOutOrder 170 = .ok (.pop, 1) := by decide +kernel
theorem dX5_carriesOutOrder_171 : decode cX5_carriesOutOrder 171 = .ok (.iconst 1, 1) := by decide +kernel
theorem dX5_carriesOutOrder_172 : decode cX5_carriesOutOrder 172 = .ok (.ireturn, 1) := by decide +kernel
set_option maxRecDepth 20000 in
theorem ggX5_orderError_X5_arrowError : GoodIn wsX5_orderError wsX5_arrowError := goodIn_r _ [5, 6, 7, 8, 4, 9, 10, 11, 12, 13, 14, 15, 16, 17, 18, 19, 20, 21, 22, 23, 24, 25, 26, 27, 28, 29, 30, 31, 32, 33, 34, 35, 36, 37, 38, 39, 40, 41, 42, 43, 44, 45, 46, 47, 52, 53, 54, 55, 56, 57, 58, 59, 60, 61, 62, 63, 64, 65, 66, 67, 68, 69, 70] (by decide +kernel) (by decide +kernel)
set_option maxRecDepth 20000 in
theorem gX5_orderError_X5_arrowError : GoodIn wsX5_orderError (wsV RX5 44 RX5 yX5_arrowError wsX5_arrowError) := goodIn_app (goodIn_of _ (by decide +kernel)) ggX5_orderError_X5_arrowError
set_option maxRecDepth 20000 in
theorem ggX5_orderError_X5_placeError : GoodIn wsX5_orderError wsX5_placeError := goodIn_r _ [9, 10, 11, 4, 12, 13, 14, 15] (by decide +kernel) (by decide +kernel)
set_option maxRecDepth 20000 in
theorem gX5_orderError_X5_placeError : GoodIn wsX5_orderError (va_wsS RX5 55 yX5_placeError wsX5_placeError) := goodIn_app (goodIn_of _ (by decide +kernel)) ggX5_orderError_X5_placeError
set_option maxRecDepth 20000 in
theorem ggX5_orderError_X5_nightError : GoodIn wsX5_orderError wsX5_nightError := goodIn_r _ [51, 6, 13, 14, 4, 15, 52, 53, 54, 55, 56, 57, 58, 59, 60, 61, 62, 63, 64, 65, 66, 67] (by decide +kernel) (by decide +kernel)
set_option maxRecDepth 20000 in
theorem gX5_orderError_X5_nightError : GoodIn wsX5_orderError (wsV RX5 93 RX5 yX5_nightError wsX5_nightError) := goodIn_app (goodIn_of _ (by decide +kernel)) ggX5_orderError_X5_nightError
theorem dX5_orderError_0 : decode cX5_orderError 0 = .ok (.iload_n 1, 1) := by decide +kernel
theorem dX5_orderError_1 : decode cX5_orderError 1 = .ok (.lookupswitch 89 #[(97, 51), (100, 87), (108, 70), (110, 80), (119, 60)], 51) := by decide +kernel
theorem dX5_orderError_52 : decode cX5_orderError 52 = .ok (.aload_n 0, 1) := by decide +kernel
theorem dX5_orderError_53 : decode cX5_orderError 53 = .ok (.iload_n 2, 1) := by decide +kernel
theorem dX5_orderError_54 : decode cX5_orderError 54 = .ok (.iload_n 3, 1) := by decide +kernel
theorem dX5_orderError_55 : decode cX5_orderError 55 = .ok (.iload 4, 2) := by decide +kernel
theorem dX5_orderError_57 : decode cX5_orderError 57 = .ok (.invokevirtual 44, 3) := by decide +kernel
theorem dX5_orderError_60 : decode cX5_orderError 60 = .ok (.ireturn, 1) := by decide +kernel
theorem dX5_orderError_61 : decode cX5_orderError 61 = .ok (.iload_n 2, 1) := by decide +kernel
theorem dX5_orderError_62 : decode cX5_orderError 62 = .ok (.iconst 3, 1) := by decide +kernel
theorem dX5_orderError_63 : decode cX5_orderError 63 = .ok (.iload_n 3, 1) := by decide +kernel
theorem dX5_orderError_64 : decode cX5_orderError 64 = .ok (.iload 4, 2) := by decide +kernel
theorem dX5_orderError_66 : decode cX5_orderError 66 = .ok (.iconst 4, 1) := by decide +kernel
theorem dX5_orderError_67 : decode cX5_orderError 67 = .ok (.invokestatic 55, 3) := by decide +kernel
theorem dX5_orderError_70 : decode cX5_orderError 70 = .ok (.ireturn, 1) := by decide +kernel
theorem dX5_orderError_71 : decode cX5_orderError 71 = .ok (.iload_n 2, 1) := by decide +kernel
theorem dX5_orderError_72 : decode cX5_orderError 72 = .ok (.iconst 2, 1) := by decide +kernel
theorem dX5_orderError_73 : decode cX5_orderError 73 = .ok (.iload_n 3, 1) := by decide +kernel
theorem dX5_orderError_74 : decode cX5_orderError 74 = .ok (.iload 4, 2) := by decide +kernel
theorem dX5_orderError_76 : decode cX5_orderError 76 = .ok (.iconst 4, 1) := by decide +kernel
theorem dX5_orderError_77 : decode cX5_orderError 77 = .ok (.invokestatic 55, 3) := by decide +kernel
theorem dX5_orderError_80 : decode cX5_orderError 80 = .ok (.ireturn, 1) := by decide +kernel
theorem dX5_orderError_81 : decode cX5_orderError 81 = .ok (.aload_n 0, 1) := by decide +kernel
theorem dX5_orderError_82 : decode cX5_orderError 82 = .ok (.iload_n 2, 1) := by decide +kernel
theorem dX5_orderError_83 : decode cX5_orderError 83 = .ok (.iload_n 3, 1) := by decide +kernel
theorem dX5_orderError_84 : decode cX5_orderError 84 = .ok (.invokevirtual 93, 3) := by decide +kernel
theorem dX5_orderError_87 : decode cX5_orderError 87 = .ok (.ireturn, 1) := by decide +kernel
theorem dX5_orderError_88 : decode cX5_orderError 88 = .ok (.iconst 0, 1) := by decide +kernel
theorem dX5_orderError_89 : decode cX5_orderError 89 = .ok (.ireturn, 1) := by decide +kernel
theorem dX5_orderError_90 : decode cX5_orderError 90 = .ok (.bipush (-5), 2) := by decide +kernel
theorem dX5_orderError_92 : decode cX5_orderError 92 = .ok (.ireturn, 1) := by decide +kernel
set_option maxRecDepth 20000 in
theorem ggX5_placeError_X5_isPlace : GoodIn wsX5_placeError wsX5_isPlace := goodIn_r _ [4, 5, 6, 3, 7] (by decide +kernel) (by decide +kernel)
set_option maxRecDepth 20000 in
theorem gX5_placeError_X5_isPlace : GoodIn wsX5_placeError (va_wsS RX5 65 yX5_isPlace wsX5_isPlace) := goodIn_app (goodIn_of _ (by decide +kernel)) ggX5_placeError_X5_isPlace
set_option maxRecDepth 20000 in
theorem ggX5_placeError_X5_isWithin : GoodIn wsX5_placeError wsX5_isWithin := goodIn_r _ [7] (by decide +kernel) (by decide +kernel)
set_option maxRecDepth 20000 in
theorem gX5_placeError_X5_isWithin : GoodIn wsX5_placeError (va_wsS RX5 73 yX5_isWithin wsX5_isWithin) := goodIn_app (goodIn_of _ (by decide +kernel)) ggX5_placeError_X5_isWithin
theorem dX5_placeError_0 : decode cX5_placeError 0 = .ok (.iload_n 0, 1) := by decide +kernel
theorem dX5_placeError_1 : decode cX5_placeError 1 = .ok (.iload_n 1, 1) := by decide +kernel
theorem dX5_placeError_2 : decode cX5_placeError 2 = .ok (.iload_n 2, 1) := by decide +kernel
theorem dX5_placeError_3 : decode cX5_placeError 3 = .ok (.invokestatic 65, 3) := by decide +kernel
theorem dX5_placeError_6 : decode cX5_placeError 6 = .ok (.ifCond .ne 5, 3) := by decide +kernel
theorem dX5_placeError_9 : decode cX5_placeError 9 = .ok (.iconst (-1), 1) := by decide +kernel
theorem dX5_placeError_10 : decode cX5_placeError 10 = .ok (.ireturn, 1) := by decide +kernel
theorem dX5_placeError_11 : decode cX5_placeError 11 = .ok (.iload_n 3, 1) := by decide +kernel
theorem dX5_placeError_12 : decode cX5_placeError 12 = .ok (.iconst 0, 1) := by decide +kernel
theorem dX5_placeError_13 : decode cX5_placeError 13 = .ok (.iload 4, 2) := by decide +kernel
theorem dX5_placeError_15 : decode cX5_placeError 15 = .ok (.iconst 1, 1) := by decide +kernel
theorem dX5_placeError_16 : decode cX5_placeError 16 = .ok (.isub, 1) := by decide +kernel
theorem dX5_placeError_17 : decode cX5_placeError 17 = .ok (.invokestatic 73, 3) := by decide +kernel
theorem dX5_placeError_20 : decode cX5_placeError 20 = .ok (.ifCond .eq 7, 3) := by decide +kernel
theorem dX5_placeError_23 : decode cX5_placeError 23 = .ok (.iconst 0, 1) := by decide +kernel
theorem dX5_placeError_24 : decode cX5_placeError 24 = .ok (.goto 5, 3) := by decide +kernel
theorem dX5_placeError_27 : decode cX5_placeError 27 = .ok (.bipush (-2), 2) := by decide +kernel
theorem dX5_placeError_29 : decode cX5_placeError 29 = .ok (.ireturn, 1) := by decide +kernel
set_option maxRecDepth 20000 in
theorem ggX5_isPlace_X5_isWithin : GoodIn wsX5_isPlace wsX5_isWithin := goodIn_r _ [4] (by decide +kernel) (by decide +kernel)
set_option maxRecDepth 20000 in
theorem gX5_isPlace_X5_isWithin : GoodIn wsX5_isPlace (va_wsS RX5 73 yX5_isWithin wsX5_isWithin) := goodIn_app (goodIn_of _ (by decide +kernel)) ggX5_isPlace_X5_isWithin
theorem dX5_isPlace_0 : decode cX5_isPlace 0 = .ok (.iload_n 0, 1) := by decide +kernel
theorem dX5_isPlace_1 : decode cX5_isPlace 1 = .ok (.iconst 0, 1) := by decide +kernel
theorem dX5_isPlace_2 : decode cX5_isPlace 2 = .ok (.iload_n 1, 1) := by decide +kernel
theorem dX5_isPlace_3 : decode cX5_isPlace 3 = .ok (.iconst 1, 1) := by decide +kernel
theorem dX5_isPlace_4 : decode cX5_isPlace 4 = .ok (.isub, 1) := by decide +kernel
theorem dX5_isPlace_5 : decode cX5_isPlace 5 = .ok (.invokestatic 73, 3) := by decide +kernel
theorem dX5_isPlace_8 : decode cX5_isPlace 8 = .ok (.ifCond .eq 17, 3) := by decide +kernel
theorem dX5_isPlace_11 : decode cX5_isPlace 11 = .ok (.iload_n 2, 1) := by decide +kernel
theorem dX5_isPlace_12 : decode cX5_isPlace 12 = .ok (.iconst 0, 1) := by decide +kernel
theorem dX5_isPlace_13 : decode cX5_isPlace 13 = .ok (.bipush 15, 2) := by decide +kernel
theorem dX5_isPlace_15 : decode cX5_isPlace 15 = .ok (.invokestatic 73, 3) := by decide +kernel
theorem dX5_isPlace_18 : decode cX5_isPlace 18 = .ok (.ifCond .eq 7, 3) := by decide +kernel
theorem dX5_isPlace_21 : decode cX5_isPlace 21 = .ok (.iconst 1, 1) := by decide +kernel
theorem dX5_isPlace_22 : decode cX5_isPlace 22 = .ok (.goto 4, 3) := by decide +kernel
theorem dX5_isPlace_25 : decode cX5_isPlace 25 = .ok (.iconst 0, 1) := by decide +kernel
theorem dX5_isPlace_26 : decode cX5_isPlace 26 = .ok (.ireturn, 1) := by decide +kernel
theorem dX5_isWithin_0 : decode cX5_isWithin 0 = .ok (.iload_n 0, 1) := by decide +kernel
theorem dX5_isWithin_1 : decode cX5_isWithin 1 = .ok (.iload_n 1, 1) := by decide +kernel
theorem dX5_isWithin_2 : decode cX5_isWithin 2 = .ok (.if_icmp .lt 12, 3) := by decide +kernel
theorem dX5_isWithin_5 : decode cX5_isWithin 5 = .ok (.iload_n 0, 1) := by decide +kernel
theorem dX5_isWithin_6 : decode cX5_isWithin 6 = .ok (.iload_n 2, 1) := by decide +kernel
theorem dX5_isWithin_7 : decode cX5_isWithin 7 = .ok (.if_icmp .gt 7, 3) := by decide +kernel
theorem dX5_isWithin_10 : decode cX5_isWithin 10 = .ok (.iconst 1, 1) := by decide +kernel
theorem dX5_isWithin_11 : decode cX5_isWithin 11 = .ok (.goto 4, 3) := by decide +kernel
theorem dX5_isWithin_14 : decode cX5_isWithin 14 = .ok (.iconst 0, 1) := by decide +kernel
theorem dX5_isWithin_15 : decode cX5_isWithin 15 = .ok (.ireturn, 1) := by decide +kernel
theorem dX5_asNumber_0 : decode cX5_asNumber 0 = .ok (.iload_n 0, 1) := by decide +kernel
theorem dX5_asNumber_1 : decode cX5_asNumber 1 = .ok (.ifCond .eq 7, 3) := by decide +kernel
theorem dX5_asNumber_4 : decode cX5_asNumber 4 = .ok (.iconst 1, 1) := by decide +kernel
theorem dX5_asNumber_5 : decode cX5_asNumber 5 = .ok (.goto 4, 3) := by decide +kernel
theorem dX5_asNumber_8 : decode cX5_asNumber 8 = .ok (.iconst 0, 1) := by decide +kernel
theorem dX5_asNumber_9 : decode cX5_asNumber 9 = .ok (.ireturn, 1) := by decide +kernel
theorem dX6_init_0 : decode cX6_init 0 = .ok (.aload_n 0, 1) := by decide +kernel
theorem dX6_init_1 : decode cX6_init 1 = .ok (.invokespecial 1, 3) := by decide +kernel
theorem dX6_init_4 : decode cX6_init 4 = .ok (.aload_n 0, 1) := by decide +kernel
theorem dX6_init_5 : decode cX6_init 5 = .ok (.sipush 268, 3) := by decide +kernel
theorem dX6_init_8 : decode cX6_init 8 = .ok (.newarray .int, 2) := by decide +kernel
theorem dX6_init_10 : decode cX6_init 10 = .ok (.putfield 7, 3) := by decide +kernel
theorem dX6_init_13 : decode cX6_init 13 = .ok (.aload_n 0, 1) := by decide +kernel
theorem dX6_init_14 : decode cX6_init 14 = .ok (.sipush 1340, 3) := by decide +kernel
theorem dX6_init_17 : decode cX6_init 17 = .ok (.newarray .int, 2) := by decide +kernel
theorem dX6_init_19 : decode cX6_init 19 = .ok (.putfield 13, 3) := by decide +kernel
theorem dX6_init_22 : decode cX6_init 22 = .ok (.aload_n 0, 1) := by decide +kernel
theorem dX6_init_23 : decode cX6_init 23 = .ok (.sipush 268, 3) := by decide +kernel
theorem dX6_init_26 : decode cX6_init 26 = .ok (.newarray .int, 2) := by decide +kernel
theorem dX6_init_28 : decode cX6_init 28 = .ok (.putfield 16, 3) := by decide +kernel
theorem dX6_init_31 : decode cX6_init 31 = .ok (.aload_n 0, 1) := by decide +kernel
theorem dX6_init_32 : decode cX6_init 32 = .ok (.bipush 70, 2) := by decide +kernel
theorem dX6_init_34 : decode cX6_init 34 = .ok (.newarray .char, 2) := by decide +kernel
theorem dX6_init_36 : decode cX6_init 36 = .ok (.putfield 19, 3) := by decide +kernel
theorem dX6_init_39 : decode cX6_init 39 = .ok (.aload_n 0, 1) := by decide +kernel
theorem dX6_init_40 : decode cX6_init 40 = .ok (.iconst 3, 1) := by decide +kernel
theorem dX6_init_41 : decode cX6_init 41 = .ok (.newarray .int, 2) := by decide +kernel
theorem dX6_init_43 : decode cX6_init 43 = .ok (.putfield 23, 3) := by decide +kernel
theorem dX6_init_46 : decode cX6_init 46 = .ok (.aload_n 0, 1) := by decide +kernel
theorem dX6_init_47 : decode cX6_init 47 = .ok (.sipush 144, 3) := by decide +kernel
theorem dX6_init_50 : decode cX6_init 50 = .ok (.newarray .int, 2) := by decide +kernel
theorem dX6_init_52 : decode cX6_init 52 = .ok (.putfield 26, 3) := by decide +kernel
theorem dX6_init_55 : decode cX6_init 55 = .ok (.aload_n 0, 1) := by decide +kernel
theorem dX6_init_56 : decode cX6_init 56 = .ok (.getfield 7, 3) := by decide +kernel
theorem dX6_init_59 : decode cX6_init 59 = .ok (.iconst 0, 1) := by decide +kernel
theorem dX6_init_60 : decode cX6_init 60 = .ok (.bipush 30, 2) := by decide +kernel
theorem dX6_init_62 : decode cX6_init 62 = .ok (.iastore, 1) := by decide +kernel
theorem dX6_init_63 : decode cX6_init 63 = .ok (.aload_n 0, 1) := by decide +kernel
theorem dX6_init_64 : decode cX6_init 64 = .ok (.getfield 7, 3) := by decide +kernel
theorem dX6_init_67 : decode cX6_init 67 = .ok (.iconst 1, 1) := by decide +kernel
theorem dX6_init_68 : decode cX6_init 68 = .ok (.bipush 12, 2) := by decide +kernel
theorem dX6_init_70 : decode cX6_init 70 = .ok (.iastore, 1) := by decide +kernel
theorem dX6_init_71 : decode cX6_init 71 = .ok (.aload_n 0, 1) := by decide +kernel
theorem dX6_init_72 : decode cX6_init 72 = .ok (.getfield 7, 3) := by decide +kernel
theorem dX6_init_75 : decode cX6_init 75 = .ok (.iconst 5, 1) := by decide +kernel
theorem dX6_init_76 : decode cX6_init 76 = .ok (.bipush 20, 2) := by decide +kernel
theorem dX6_init_78 : decode cX6_init 78 = .ok (.iastore, 1) := by decide +kernel
theorem dX6_init_79 : decode cX6_init 79 = .ok (.iconst 0, 1) := by decide +kernel
theorem dX6_init_80 : decode cX6_init 80 = .ok (.istore_n 1, 1) := by decide +kernel
theorem dX6_init_81 : decode cX6_init 81 = .ok (.iload_n 1, 1) := by decide +kernel
theorem dX6_init_82 : decode cX6_init 82 = .ok (.iconst 3, 1) := by decide +kernel
theorem dX6_init_83 : decode cX6_init 83 = .ok (.if_icmp .ge 18, 3) := by decide +kernel
theorem dX6_init_86 : decode cX6_init 86 = .ok (.aload_n 0, 1) := by decide +kernel
theorem dX6_init_87 : decode cX6_init 87 = .ok (.getfield 7, 3) := by decide +kernel
theorem dX6_init_90 : decode cX6_init 90 = .ok (.iconst 2, 1) := by decide +kernel
theorem dX6_init_91 : decode cX6_init 91 = .ok (.iload_n 1, 1) := by decide +kernel
theorem dX6_init_92 : decode cX6_init 92 = .ok (.iadd, 1) := by decide +kernel
theorem dX6_init_93 : decode cX6_init 93 = .ok (.iconst 5, 1) := by decide +kernel
theorem dX6_init_94 : decode cX6_init 94 = .ok (.iastore, 1) := by decide +kernel
theorem dX6_init_95 : decode cX6_init 95 = .ok (.iinc 1 1, 3) := by decide +kernel
theorem dX6_init_98 : decode cX6_init 98 = .ok (.goto (-17), 3) := by decide +kernel
theorem dX6_init_101 : decode cX6_init 101 = .ok (.return_, 1) := by decide +kernel
theorem dX6_in_0 : decode cX6_in 0 = .ok (.iload_n 0, 1) := by decide +kernel
theorem dX6_in_1 : decode cX6_in 1 = .ok (.iload_n 1, 1) := by decide +kernel
theorem dX6_in_2 : decode cX6_in 2 = .ok (.if_icmp .lt 12, 3) := by decide +kernel
theorem dX6_in_5 : decode cX6_in 5 = .ok (.iload_n 0, 1) := by decide +kernel
theorem dX6_in_6 : decode cX6_in 6 = .ok (.iload_n 2, 1) := by decide +kernel
theorem dX6_in_7 : decode cX6_in 7 = .ok (.if_icmp .gt 7, 3) := by decide +kernel
theorem dX6_in_10 : decode cX6_in 10 = .ok (.iconst 1, 1) := by decide +kernel
theorem dX6_in_11 : decode cX6_in 11 = .ok (.goto 4, 3) := by decide +kernel
theorem dX6_in_14 : decode cX6_in 14 = .ok (.iconst 0, 1) := by decide +kernel
theorem dX6_in_15 : decode cX6_in 15 = .ok (.ireturn, 1) := by decide +kernel
set_option maxRecDepth 20000 in
theorem ggX6_isCell_X6_in : GoodIn wsX6_isCell wsX6_in := goodIn_r _ [4] (by decide +kernel) (by decide +kernel)
set_option maxRecDepth 20000 in
theorem gX6_isCell_X6_in : GoodIn wsX6_isCell (va_wsS RX6 29 yX6_in wsX6_in) := goodIn_app (goodIn_of _ (by decide +kernel)) ggX6_isCell_X6_in
theorem dX6_isCell_0 : decode cX6_isCell 0 = .ok (.iload_n 0, 1) := by decide +kernel
theorem dX6_isCell_1 : decode cX6_isCell 1 = .ok (.iconst 0, 1) := by decide +kernel
theorem dX6_isCell_2 : decode cX6_isCell 2 = .ok (.iconst 2, 1) := by decide +kernel
theorem dX6_isCell_3 : decode cX6_isCell 3 = .ok (.invokestatic 29, 3) := by decide +kernel
theorem dX6_isCell_6 : decode cX6_isCell 6 = .ok (.ifCond .eq 17, 3) := by decide +kernel
theorem dX6_isCell_9 : decode cX6_isCell 9 = .ok (.iload_n 1, 1) := by decide +kernel
theorem dX6_isCell_10 : decode cX6_isCell 10 = .ok (.iconst 0, 1) := by decide +kernel
theorem dX6_isCell_11 : decode cX6_isCell 11 = .ok (.bipush 15, 2) := by decide +kernel
theorem dX6_isCell_13 : decode cX6_isCell 13 = .ok (.invokestatic 29, 3) := by decide +kernel
theorem dX6_isCell_16 : decode cX6_isCell 16 = .ok (.ifCond .eq 7, 3) := by decide +kernel
theorem dX6_isCell_19 : decode cX6_isCell 19 = .ok (.iconst 1, 1) := by decide +kernel
theorem dX6_isCell_20 : decode cX6_isCell 20 = .ok (.goto 4, 3) := by decide +kernel
theorem dX6_isCell_23 : decode cX6_isCell 23 = .ok (.iconst 0, 1) := by decide +kernel
theorem dX6_isCell_24 : decode cX6_isCell 24 = .ok (.ireturn, 1) := by decide +kernel
set_option maxRecDepth 20000 in
theorem ggX6_isLine_X6_in : GoodIn wsX6_isLine wsX6_in := goodIn_r _ [4] (by decide +kernel) (by decide +kernel)
set_option maxRecDepth 20000 in
theorem gX6_isLine_X6_in : GoodIn wsX6_isLine (va_wsS RX6 29 yX6_in wsX6_in) := goodIn_app (goodIn_of _ (by decide +kernel)) ggX6_isLine_X6_in
theorem dX6_isLine_0 : decode cX6_isLine 0 = .ok (.iload_n 0, 1) := by decide +kernel
theorem dX6_isLine_1 : decode cX6_isLine 1 = .ok (.iconst 0, 1) := by decide +kernel
theorem dX6_isLine_2 : decode cX6_isLine 2 = .ok (.iconst 1, 1) := by decide +kernel
theorem dX6_isLine_3 : decode cX6_isLine 3 = .ok (.invokestatic 29, 3) := by decide +kernel
theorem dX6_isLine_6 : decode cX6_isLine 6 = .ok (.ifCond .eq 17, 3) := by decide +kernel
theorem dX6_isLine_9 : decode cX6_isLine 9 = .ok (.iload_n 1, 1) := by decide +kernel
theorem dX6_isLine_10 : decode cX6_isLine 10 = .ok (.iconst 0, 1) := by decide +kernel
theorem dX6_isLine_11 : decode cX6_isLine 11 = .ok (.bipush 15, 2) := by decide +kernel
theorem dX6_isLine_13 : decode cX6_isLine 13 = .ok (.invokestatic 29, 3) := by decide +kernel
theorem dX6_isLine_16 : decode cX6_isLine 16 = .ok (.ifCond .eq 7, 3) := by decide +kernel
theorem dX6_isLine_19 : decode cX6_isLine 19 = .ok (.iconst 1, 1) := by decide +kernel
theorem dX6_isLine_20 : decode cX6_isLine 20 = .ok (.goto 4, 3) := by decide +kernel
theorem dX6_isLine_23 : decode cX6_isLine 23 = .ok (.iconst 0, 1) := by decide +kernel
theorem dX6_isLine_24 : decode cX6_isLine 24 = .ok (.ireturn, 1) := by decide +kernel
theorem dX6_cellAt_0 : decode cX6_cellAt 0 = .ok (.bipush 12, 2) := by decide +kernel
theorem dX6_cellAt_2 : decode cX6_cellAt 2 = .ok (.iconst 4, 1) := by decide +kernel
theorem dX6_cellAt_3 : decode cX6_cellAt 3 = .ok (.bipush 16, 2) := by decide +kernel
theorem dX6_cellAt_5 : decode cX6_cellAt 5 = .ok (.iload_n 0, 1) := by decide +kernel
theorem dX6_cellAt_6 : decode cX6_cellAt 6 = .ok (.imul, 1) := by decide +kernel
theorem dX6_cellAt_7 : decode cX6_cellAt 7 = .ok (.iload_n 1, 1) := by decide +kernel
theorem dX6_cellAt_8 : decode cX6_cellAt 8 = .ok (.iadd, 1) := by decide +kernel
theorem dX6_cellAt_9 : decode cX6_cellAt 9 = .ok (.imul, 1) := by decide +kernel
theorem dX6_cellAt_10 : decode cX6_cellAt 10 = .ok (.iadd, 1) := by decide +kernel
theorem dX6_cellAt_11 : decode cX6_cellAt 11 = .ok (.ireturn, 1) := by decide +kernel
theorem dX6_lineAt_0 : decode cX6_lineAt 0 = .ok (.sipush 204, 3) := by decide +kernel
theorem dX6_lineAt_3 : decode cX6_lineAt 3 = .ok (.iconst 2, 1) := by decide +kernel
theorem dX6_lineAt_4 : decode cX6_lineAt 4 = .ok (.bipush 16, 2) := by decide +kernel
theorem dX6_lineAt_6 : decode cX6_lineAt 6 = .ok (.iload_n 0, 1) := by decide +kernel
theorem dX6_lineAt_7 : decode cX6_lineAt 7 = .ok (.imul, 1) := by decide +kernel
theorem dX6_lineAt_8 : decode cX6_lineAt 8 = .ok (.iload_n 1, 1) := by decide +kernel
theorem dX6_lineAt_9 : decode cX6_lineAt 9 = .ok (.iadd, 1) := by decide +kernel
theorem dX6_lineAt_10 : decode cX6_lineAt 10 = .ok (.imul, 1) := by decide +kernel
theorem dX6_lineAt_11 : decode cX6_lineAt 11 = .ok (.iadd, 1) := by decide +kernel
theorem dX6_lineAt_12 : decode cX6_lineAt 12 = .ok (.ireturn, 1) := by decide +kernel
set_option maxRecDepth 20000 in
theorem ggX6_wayAt_X6_cellAt : GoodIn wsX6_wayAt wsX6_cellAt := goodIn_r _ [5] (by decide +kernel) (by decide +kernel)
set_option maxRecDepth 20000 in
theorem gX6_wayAt_X6_cellAt : GoodIn wsX6_wayAt (va_wsS RX6 33 yX6_cellAt wsX6_cellAt) := goodIn_app (goodIn_of _ (by decide +kernel)) ggX6_wayAt_X6_cellAt
theorem dX6_wayAt_0 : decode cX6_wayAt 0 = .ok (.aload_n 0, 1) := by decide +kernel
theorem dX6_wayAt_1 : decode cX6_wayAt 1 = .ok (.getfield 7, 3) := by decide +kernel
theorem dX6_wayAt_4 : decode cX6_wayAt 4 = .ok (.iload_n 1, 1) := by decide +kernel
theorem dX6_wayAt_5 : decode cX6_wayAt 5 = .ok (.iload_n 2, 1) := by decide +kernel
theorem dX6_wayAt_6 : decode cX6_wayAt 6 = .ok (.invokestatic 33, 3) := by decide +kernel
theorem dX6_wayAt_9 : decode cX6_wayAt 9 = .ok (.iaload, 1) := by decide +kernel
theorem dX6_wayAt_10 : decode cX6_wayAt 10 = .ok (.istore_n 3, 1) := by decide +kernel
theorem dX6_wayAt_11 : decode cX6_wayAt 11 = .ok (.iload_n 3, 1) := by decide +kernel
theorem dX6_wayAt_12 : decode cX6_wayAt 12 = .ok (.ifCond .ne 8, 3) := by decide +kernel
theorem dX6_wayAt_15 : decode cX6_wayAt 15 = .ok (.bipush (-6), 2) := by decide +kernel
theorem dX6_wayAt_17 : decode cX6_wayAt 17 = .ok (.goto 6, 3) := by decide +kernel
theorem dX6_wayAt_20 : decode cX6_wayAt 20 = .ok (.iload_n 3, 1) := by decide +kernel
theorem dX6_wayAt_21 : decode cX6_wayAt 21 = .ok (.iconst 1, 1) := by decide +kernel
theorem dX6_wayAt_22 : decode cX6_wayAt 22 = .ok (.isub, 1) := by decide +kernel
theorem dX6_wayAt_23 : decode cX6_wayAt 23 = .ok (.ireturn, 1) := by decide +kernel
theorem dX6_record_0 : decode cX6_record 0 = .ok (.aload_n 0, 1) := by decide +kernel
theorem dX6_record_1 : decode cX6_record 1 = .ok (.getfield 37, 3) := by decide +kernel
theorem dX6_record_4 : decode cX6_record 4 = .ok (.iconst 5, 1) := by decide +kernel
theorem dX6_record_5 : decode cX6_record 5 = .ok (.if_icmp .ne 44, 3) := by decide +kernel
theorem dX6_record_8 : decode cX6_record 8 = .ok (.iconst 0, 1) := by decide +kernel
theorem dX6_record_9 : decode cX6_record 9 = .ok (.istore_n 1, 1) := by decide +kernel
theorem dX6_record_10 : decode cX6_record 10 = .ok (.iload_n 1, 1) := by decide +kernel
theorem dX6_record_11 : decode cX6_record 11 = .ok (.sipush 1072, 3) := by decide +kernel
theorem dX6_record_14 : decode cX6_record 14 = .ok (.if_icmp .ge 25, 3) := by decide +kernel
theorem dX6_record_17 : decode cX6_record 17 = .ok (.aload_n 0, 1) := by decide +kernel
theorem dX6_record_18 : decode cX6_record 18 = .ok (.getfield 13, 3) := by decide +kernel
theorem dX6_record_21 : decode cX6_record 21 = .ok (.iload_n 1, 1) := by decide +kernel
theorem dX6_record_22 : decode cX6_record 22 = .ok (.aload_n 0, 1) := by decide +kernel
theorem dX6_record_23 : decode cX6_record 23 = .ok (.getfield 13, 3) := by decide +kernel
theorem dX6_record_26 : decode cX6_record 26 = .ok (.iload_n 1, 1) := by decide +kernel
theorem dX6_record_27 : decode cX6_record 27 = .ok (.sipush 268, 3) := by decide +kernel
theorem dX6_record_30 : decode cX6_record 30 = .ok (.iadd, 1) := by decide +kernel
theorem dX6_record_31 : decode cX6_record 31 = .ok (.iaload, 1) := by decide +kernel
theorem dX6_record_32 : decode cX6_record 32 = .ok (.iastore, 1) := by decide +kernel
theorem dX6_record_33 : decode cX6_record 33 = .ok (.iinc 1 1, 3) := by decide +kernel
theorem dX6_record_36 : decode cX6_record 36 = .ok (.goto (-26), 3) := by decide +kernel
theorem dX6_record_39 : decode cX6_record 39 = .ok (.aload_n 0, 1) := by decide +kernel
theorem dX6_record_40 : decode cX6_record 40 = .ok (.dup, 1) := by decide +kernel
theorem dX6_record_41 : decode cX6_record 41 = .ok (.getfield 37, 3) := by decide +kernel
theorem dX6_record_44 : decode cX6_record 44 = .ok (.iconst 1, 1) := by decide +kernel
theorem dX6_record_45 : decode cX6_record 45 = .ok (.isub, 1) := by decide +kernel
theorem dX6_record_46 : decode cX6_record 46 = .ok (.putfield 37, 3) := by decide +kernel
theorem dX6_record_49 : decode cX6_record 49 = .ok (.iconst 0, 1) := by decide +kernel
theorem dX6_record_50 : decode cX6_record 50 = .ok (.istore_n 1, 1) := by decide +kernel
theorem dX6_record_51 : decode cX6_record 51 = .ok (.iload_n 1, 1) := by decide +kernel
theorem dX6_record_52 : decode cX6_record 52 = .ok (.sipush 268, 3) := by decide +kernel
theorem dX6_record_55 : decode cX6_record 55 = .ok (.if_icmp .ge 30, 3) := by decide +kernel
theorem dX6_record_58 : decode cX6_record 58 = .ok (.aload_n 0, 1) := by decide +kernel
theorem dX6_record_59 : decode cX6_record 59 = .ok (.getfield 13, 3) := by decide +kernel
theorem dX6_record_62 : decode cX6_record 62 = .ok (.aload_n 0, 1) := by decide +kernel
theorem dX6_record_63 : decode cX6_record 63 = .ok (.getfield 37, 3) := by decide +kernel
theorem dX6_record_66 : decode cX6_record 66 = .ok (.sipush 268, 3) := by decide +kernel
theorem dX6_record_69 : decode cX6_record 69 = .ok (.imul, 1) := by decide +kernel
theorem dX6_record_70 : decode cX6_record 70 = .ok (.iload_n 1, 1) := by decide +kernel
theorem dX6_record_71 : decode cX6_record 71 = .ok (.iadd, 1) := by decide +kernel
theorem dX6_record_72 : decode cX6_record 72 = .ok (.aload_n 0, 1) := by decide +kernel
theorem dX6_record_73 : decode cX6_record 73 = .ok (.getfield 7, 3) := by decide +kernel
theorem dX6_record_76 : decode cX6_record 76 = .ok (.iload_n 1, 1) := by decide +kernel
theorem dX6_record_77 : decode cX6_record 77 = .ok (.iaload, 1) := by decide +kernel
theorem dX6_record_78 : decode cX6_record 78 = .ok (.iastore, 1) := by decide +kernel
theorem dX6_record_79 : decode cX6_record 79 = .ok (.iinc 1 1, 3) := by decide +kernel
theorem dX6_record_82 : decode cX6_record 82 = .ok (.goto (-31), 3) := by decide +kernel
theorem dX6_record_85 : decode cX6_record 85 = .ok (.aload_n 0, 1) := by decide +kernel
theorem dX6_record_86 : decode cX6_record 86 = .ok (.dup, 1) := by decide +kernel
theorem dX6_record_87 : decode cX6_record 87 = .ok (.getfield 37, 3) := by decide +kernel
theorem dX6_record_90 : decode cX6_record 90 = .ok (.iconst 1, 1) := by decide +kernel
theorem dX6_record_91 : decode cX6_record 91 = .ok (.iadd, 1) := by decide +kernel
theorem dX6_record_92 : decode cX6_record 92 = .ok (.putfield 37, 3) := by decide +kernel
theorem dX6_record_95 : decode cX6_record 95 = .ok (.return_, 1) := by decide +kernel
theorem dX6_undo_0 : decode cX6_undo 0 = .ok (.aload_n 0, 1) := by decide +kernel
theorem dX6_undo_1 : decode cX6_undo 1 = .ok (.getfield 37, 3) := by decide +kernel
theorem dX6_undo_4 : decode cX6_undo 4 = .ok (.ifCond .ne 6, 3) := by decide +kernel
theorem dX6_undo_7 : decode cX6_undo 7 = .ok (.bipush (-3), 2) := by decide +kernel
theorem dX6_undo_9 : decode cX6_undo 9 = .ok (.ireturn, 1) := by decide +kernel
theorem dX6_undo_10 : decode cX6_undo 10 = .ok (.aload_n 0, 1) := by decide +kernel
theorem dX6_undo_11 : decode cX6_undo 11 = .ok (.dup, 1) := by decide +kernel
theorem dX6_undo_12 : decode cX6_undo 12 = .ok (.getfield 37, 3) := by decide +kernel
theorem dX6_undo_15 : decode cX6_undo 15 = .ok (.iconst 1, 1) := by decide +kernel
theorem dX6_undo_16 : decode cX6_undo 16 = .ok (.isub, 1) := by decide +kernel
theorem dX6_undo_17 : decode cX6_undo 17 = .ok (.putfield 37, 3) := by decide +kernel
theorem dX6_undo_20 : decode cX6_undo 20 = .ok (.iconst 0, 1) := by decide +kernel
theorem dX6_undo_21 : decode cX6_undo 21 = .ok (.istore_n 1, 1) := by decide +kernel
theorem dX6_undo_22 : decode cX6_undo 22 = .ok (.iload_n 1, 1) := by decide +kernel
theorem dX6_undo_23 : decode cX6_undo 23 = .ok (.sipush 268, 3) := by decide +kernel
theorem dX6_undo_26 : decode cX6_undo 26 = .ok (.if_icmp .ge 30, 3) := by decide +kernel
theorem dX6_undo_29 : decode cX6_undo 29 = .ok (.aload_n 0, 1) := by decide +kernel
theorem dX6_undo_30 : decode cX6_undo 30 = .ok (.getfield 7, 3) := by decide +kernel
theorem dX6_undo_33 : decode cX6_undo 33 = .ok (.iload_n 1, 1) := by decide +kernel
theorem dX6_undo_34 : decode cX6_undo 34 = .ok (.aload_n 0, 1) := by decide +kernel
theorem dX6_undo_35 : decode cX6_undo 35 = .ok (.getfield 13, 3) := by decide +kernel
theorem dX6_undo_38 : decode cX6_undo 38 = .ok (.aload_n 0, 1) := by decide +kernel
theorem dX6_undo_39 : decode cX6_undo 39 = .ok (.getfield 37, 3) := by decide +kernel
theorem dX6_undo_42 : decode cX6_undo 42 = .ok (.sipush 268, 3) := by decide +kernel
theorem dX6_undo_45 : decode cX6_undo 45 = .ok (.imul, 1) := by decide +kernel
theorem dX6_undo_46 : decode cX6_undo 46 = .ok (.iload_n 1, 1) := by decide +kernel
theorem dX6_undo_47 : decode cX6_undo 47 = .ok (.iadd, 1) := by decide +kernel
theorem dX6_undo_48 : decode cX6_undo 48 = .ok (.iaload, 1) := by decide +kernel
theorem dX6_undo_49 : decode cX6_undo 49 = .ok (.iastore, 1) := by decide +kernel
theorem dX6_undo_50 : decode cX6_undo 50 = .ok (.iinc 1 1, 3) := by decide +kernel
theorem dX6_undo_53 : decode cX6_undo 53 = .ok (.goto (-31), 3) := by decide +kernel
theorem dX6_undo_56 : decode cX6_undo 56 = .ok (.aload_n 0, 1) := by decide +kernel
theorem dX6_undo_57 : decode cX6_undo 57 = .ok (.getfield 37, 3) := by decide +kernel
theorem dX6_undo_60 : decode cX6_undo 60 = .ok (.ireturn, 1) := by decide +kernel
theorem dX6_save_0 : decode cX6_save 0 = .ok (.aload_n 0, 1) := by decide +kernel
theorem dX6_save_1 : decode cX6_save 1 = .ok (.iconst 1, 1) := by decide +kernel
theorem dX6_save_2 : decode cX6_save 2 = .ok (.putfield 41, 3) := by decide +kernel
theorem dX6_save_5 : decode cX6_save 5 = .ok (.iconst 0, 1) := by decide +kernel
theorem dX6_save_6 : decode cX6_save 6 = .ok (.istore_n 1, 1) := by decide +kernel
theorem dX6_save_7 : decode cX6_save 7 = .ok (.iload_n 1, 1) := by decide +kernel
theorem dX6_save_8 : decode cX6_save 8 = .ok (.sipush 268, 3) := by decide +kernel
theorem dX6_save_11 : decode cX6_save 11 = .ok (.if_icmp .ge 21, 3) := by decide +kernel
theorem dX6_save_14 : decode cX6_save 14 = .ok (.aload_n 0, 1) := by decide +kernel
theorem dX6_save_15 : decode cX6_save 15 = .ok (.getfield 16, 3) := by decide +kernel
theorem dX6_save_18 : decode cX6_save 18 = .ok (.iload_n 1, 1) := by decide +kernel
theorem dX6_save_19 : decode cX6_save 19 = .ok (.aload_n 0, 1) := by decide +kernel
theorem dX6_save_20 : decode cX6_save 20 = .ok (.getfield 7, 3) := by decide +kernel
theorem dX6_save_23 : decode cX6_save 23 = .ok (.iload_n 1, 1) := by decide +kernel
theorem dX6_save_24 : decode cX6_save 24 = .ok (.iaload, 1) := by decide +kernel
theorem dX6_save_25 : decode cX6_save 25 = .ok (.iastore, 1) := by decide +kernel
theorem dX6_save_26 : decode cX6_save 26 = .ok (.iinc 1 1, 3) := by decide +kernel
theorem dX6_save_29 : decode cX6_save 29 = .ok (.goto (-22), 3) := by decide +kernel
theorem dX6_save_32 : decode cX6_save 32 = .ok (.aload_n 0, 1) := by decide +kernel
theorem dX6_save_33 : decode cX6_save 33 = .ok (.getfield 7, 3) := by decide +kernel
theorem dX6_save_36 : decode cX6_save 36 = .ok (.bipush 6, 2) := by decide +kernel
theorem dX6_save_38 : decode cX6_save 38 = .ok (.iaload, 1) := by decide +kernel
theorem dX6_save_39 : decode cX6_save 39 = .ok (.ireturn, 1) := by decide +kernel
set_option maxRecDepth 20000 in
theorem ggX6_restore_X6_record : GoodIn wsX6_restore wsX6_record := goodIn_r _ [8, 9, 10, 2, 11, 12, 13, 14, 15, 16, 17, 18, 19, 20, 21, 22] (by decide +kernel) (by decide +kernel)
set_option maxRecDepth 20000 in
theorem gX6_restore_X6_record : GoodIn wsX6_restore (wsV RX6 45 RX6 yX6_record wsX6_record) := goodIn_app (goodIn_of _ (by decide +kernel)) ggX6_restore_X6_record
theorem dX6_restore_0 : decode cX6_restore 0 = .ok (.aload_n 0, 1) := by decide +kernel
theorem dX6_restore_1 : decode cX6_restore 1 = .ok (.getfield 41, 3) := by decide +kernel
theorem dX6_restore_4 : decode cX6_restore 4 = .ok (.ifCond .ne 6, 3) := by decide +kernel
theorem dX6_restore_7 : decode cX6_restore 7 = .ok (.bipush (-3), 2) := by decide +kernel
theorem dX6_restore_9 : decode cX6_restore 9 = .ok (.ireturn, 1) := by decide +kernel
theorem dX6_restore_10 : decode cX6_restore 10 = .ok (.aload_n 0, 1) := by decide +kernel
theorem dX6_restore_11 : decode cX6_restore 11 = .ok (.invokevirtual 45, 3) := by decide +kernel
theorem dX6_restore_14 : decode cX6_restore 14 = .ok (.iconst 0, 1) := by decide +kernel
theorem dX6_restore_15 : decode cX6_restore 15 = .ok (.istore_n 1, 1) := by decide +kernel
theorem dX6_restore_16 : decode cX6_restore 16 = .ok (.iload_n 1, 1) := by decide +kernel
theorem dX6_restore_17 : decode cX6_restore 17 = .ok (.sipush 268, 3) := by decide +kernel
theorem dX6_restore_20 : decode cX6_restore 20 = .ok (.if_icmp .ge 21, 3) := by decide +kernel
theorem dX6_restore_23 : decode cX6_restore 23 = .ok (.aload_n 0, 1) := by decide +kernel
theorem dX6_restore_24 : decode cX6_restore 24 = .ok (.getfield 7, 3) := by decide +kernel
theorem dX6_restore_27 : decode cX6_restore 27 = .ok (.iload_n 1, 1) := by decide +kernel
theorem dX6_restore_28 : decode cX6_restore 28 = .ok (.aload_n 0, 1) := by decide +kernel
theorem dX6_restore_29 : decode cX6_restore 29 = .ok (.getfield 16, 3) := by decide +kernel
theorem dX6_restore_32 : decode cX6_restore 32 = .ok (.iload_n 1, 1) := by decide +kernel
theorem dX6_restore_33 : decode cX6_restore 33 = .ok (.iaload, 1) := by decide +kernel
theorem dX6_restore_34 : decode cX6_restore 34 = .ok (.iastore, 1) := by decide +kernel
theorem dX6_restore_35 : decode cX6_restore 35 = .ok (.iinc 1 1, 3) := by decide +kernel
theorem dX6_restore_38 : decode cX6_restore 38 = .ok (.goto (-22), 3) := by decide +kernel
theorem dX6_restore_41 : decode cX6_restore 41 = .ok (.aload_n 0, 1) := by decide +kernel
theorem dX6_restore_42 : decode cX6_restore 42 = .ok (.getfield 7, 3) := by decide +kernel
theorem dX6_restore_45 : decode cX6_restore 45 = .ok (.bipush 6, 2) := by decide +kernel
theorem dX6_restore_47 : decode cX6_restore 47 = .ok (.iaload, 1) := by decide +kernel
theorem dX6_restore_48 : decode cX6_restore 48 = .ok (.ireturn, 1) := by decide +kernel
theorem dX6_meets_0 : decode cX6_meets 0 = .ok (.iload_n 0, 1) := by decide +kernel
theorem dX6_meets_1 : decode cX6_meets 1 = .ok (.ifCond .eq 8, 3) := by decide +kernel
theorem dX6_meets_4 : decode cX6_meets 4 = .ok (.iload_n 0, 1) := by decide +kernel
theorem dX6_meets_5 : decode cX6_meets 5 = .ok (.iconst 2, 1) := by decide +kernel
theorem dX6_meets_6 : decode cX6_meets 6 = .ok (.if_icmp .ne 17, 3) := by decide +kernel
theorem dX6_meets_9 : decode cX6_meets 9 = .ok (.iload_n 1, 1) := by decide +kernel
theorem dX6_meets_10 : decode cX6_meets 10 = .ok (.iconst 1, 1) := by decide +kernel
theorem dX6_meets_11 : decode cX6_meets 11 = .ok (.if_icmp .eq 8, 3) := by decide +kernel
theorem dX6_meets_14 : decode cX6_meets 14 = .ok (.iload_n 1, 1) := by decide +kernel
theorem dX6_meets_15 : decode cX6_meets 15 = .ok (.iconst 2, 1) := by decide +kernel
theorem dX6_meets_16 : decode cX6_meets 16 = .ok (.if_icmp .ne 7, 3) := by decide +kernel
theorem dX6_meets_19 : decode cX6_meets 19 = .ok (.iconst 1, 1) := by decide +kernel
theorem dX6_meets_20 : decode cX6_meets 20 = .ok (.goto 4, 3) := by decide +kernel
theorem dX6_meets_23 : decode cX6_meets 23 = .ok (.iconst 0, 1) := by decide +kernel
theorem dX6_meets_24 : decode cX6_meets 24 = .ok (.ireturn, 1) := by decide +kernel
set_option maxRecDepth 20000 in
theorem ggX6_nearest_X6_in : GoodIn wsX6_nearest wsX6_in := goodIn_r _ [4] (by decide +kernel) (by decide +kernel)
set_option maxRecDepth 20000 in
theorem gX6_nearest_X6_in : GoodIn wsX6_nearest (va_wsS RX6 29 yX6_in wsX6_in) := goodIn_app (goodIn_of _ (by decide +kernel)) ggX6_nearest_X6_in
set_option maxRecDepth 20000 in
theorem ggX6_nearest_X6_wayAt : GoodIn wsX6_nearest wsX6_wayAt := goodIn_r _ [8, 9, 10, 11, 3, 12, 13, 14, 15, 16, 17, 18, 19, 20, 21, 22, 23, 24] (by decide +kernel) (by decide +kernel)
set_option maxRecDepth 20000 in
theorem gX6_nearest_X6_wayAt : GoodIn wsX6_nearest (wsV RX6 48 RX6 yX6_wayAt wsX6_wayAt) := goodIn_app (goodIn_of _ (by decide +kernel)) ggX6_nearest_X6_wayAt
theorem dX6_nearest_0 : decode cX6_nearest 0 = .ok (.iconst 1, 1) := by decide +kernel
theorem dX6_nearest_1 : decode cX6_nearest 1 = .ok (.istore 4, 2) := by decide +kernel
theorem dX6_nearest_3 : decode cX6_nearest 3 = .ok (.iload 4, 2) := by decide +kernel
theorem dX6_nearest_5 : decode cX6_nearest 5 = .ok (.iconst 4, 1) := by decide +kernel
theorem dX6_nearest_6 : decode cX6_nearest 6 = .ok (.if_icmp .gt 48, 3) := by decide +kernel
theorem dX6_nearest_9 : decode cX6_nearest 9 = .ok (.iload_n 2, 1) := by decide +kernel
theorem dX6_nearest_10 : decode cX6_nearest 10 = .ok (.iload_n 3, 1) := by decide +kernel
theorem dX6_nearest_11 : decode cX6_nearest 11 = .ok (.iload 4, 2) := by decide +kernel
theorem dX6_nearest_13 : decode cX6_nearest 13 = .ok (.imul, 1) := by decide +kernel
theorem dX6_nearest_14 : decode cX6_nearest 14 = .ok (.iadd, 1) := by decide +kernel
theorem dX6_nearest_15 : decode cX6_nearest 15 = .ok (.istore 5, 2) := by decide +kernel
theorem dX6_nearest_17 : decode cX6_nearest 17 = .ok (.iload 5, 2) := by decide +kernel
theorem dX6_nearest_19 : decode cX6_nearest 19 = .ok (.iconst 0, 1) := by decide +kernel
theorem dX6_nearest_20 : decode cX6_nearest 20 = .ok (.bipush 15, 2) := by decide +kernel
theorem dX6_nearest_22 : decode cX6_nearest 22 = .ok (.invokestatic 29, 3) := by decide +kernel
theorem dX6_nearest_25 : decode cX6_nearest 25 = .ok (.ifCond .eq 23, 3) := by decide +kernel
theorem dX6_nearest_28 : decode cX6_nearest 28 = .ok (.aload_n 0, 1) := by decide +kernel
theorem dX6_nearest_29 : decode cX6_nearest 29 = .ok (.iload_n 1, 1) := by decide +kernel
theorem dX6_nearest_30 : decode cX6_nearest 30 = .ok (.iload 5, 2) := by decide +kernel
theorem dX6_nearest_32 : decode cX6_nearest 32 = .ok (.invokevirtual 48, 3) := by decide +kernel
theorem dX6_nearest_35 : decode cX6_nearest 35 = .ok (.bipush (-6), 2) := by decide +kernel
theorem dX6_nearest_37 : decode cX6_nearest 37 = .ok (.if_icmp .eq 11, 3) := by decide +kernel
theorem dX6_nearest_40 : decode cX6_nearest 40 = .ok (.aload_n 0, 1) := by decide +kernel
theorem dX6_nearest_41 : decode cX6_nearest 41 = .ok (.iload_n 1, 1) := by decide +kernel
theorem dX6_nearest_42 : decode cX6_nearest 42 = .ok (.iload 5, 2) := by decide +kernel
theorem dX6_nearest_44 : decode cX6_nearest 44 = .ok (.invokevirtual 48, 3) := by decide +kernel
theorem dX6_nearest_47 : decode cX6_nearest 47 = .ok (.ireturn, 1) := by decide +kernel
theorem dX6_nearest_48 : decode cX6_nearest 48 = .ok (.iinc 4 1, 3) := by decide +kernel
theorem dX6_nearest_51 : decode cX6_nearest 51 = .ok (.goto (-48), 3) := by decide +kernel
theorem dX6_nearest_54 : decode cX6_nearest 54 = .ok (.bipush (-6), 2) := by decide +kernel
theorem dX6_nearest_56 : decode cX6_nearest 56 = .ok (.ireturn, 1) := by decide +kernel
set_option maxRecDepth 20000 in
theorem ggX6_reason_X6_nearest : GoodIn wsX6_reason wsX6_nearest := goodIn_r _ [6, 7, 8, 5, 9, 10, 11, 12, 13, 1, 14, 15, 16, 23, 24, 25, 26, 27, 28, 29, 30, 31, 32, 33, 34] (by decide +kernel) (by decide +kernel)
set_option maxRecDepth 20000 in
theorem gX6_reason_X6_nearest : GoodIn wsX6_reason (wsV RX6 51 RX6 yX6_nearest wsX6_nearest) := goodIn_app (goodIn_of _ (by decide +kernel)) ggX6_reason_X6_nearest
set_option maxRecDepth 20000 in
theorem ggX6_reason_X6_meets : GoodIn wsX6_reason wsX6_meets := goodIn_r _ [19] (by decide +kernel) (by decide +kernel)
set_option maxRecDepth 20000 in
theorem gX6_reason_X6_meets : GoodIn wsX6_reason (va_wsS RX6 55 yX6_meets wsX6_meets) := goodIn_app (goodIn_of _ (by decide +kernel)) ggX6_reason_X6_meets
set_option maxRecDepth 20000 in
theorem ggX6_reason_X6_in : GoodIn wsX6_reason wsX6_in := goodIn_r _ [9] (by decide +kernel) (by decide +kernel)
set_option maxRecDepth 20000 in
theorem gX6_reason_X6_in : GoodIn wsX6_reason (va_wsS RX6 29 yX6_in wsX6_in) := goodIn_app (goodIn_of _ (by decide +kernel)) ggX6_reason_X6_in
set_option maxRecDepth 20000 in
theorem ggX6_reason_X6_wayAt : GoodIn wsX6_reason wsX6_wayAt := goodIn_r _ [13, 1, 14, 15, 5, 16, 23, 24, 25, 26, 27, 28, 29, 30, 31, 32, 33, 34] (by decide +kernel) (by decide +kernel)
set_option maxRecDepth 20000 in
theorem gX6_reason_X6_wayAt : GoodIn wsX6_reason (wsV RX6 48 RX6 yX6_wayAt wsX6_wayAt) := goodIn_app (goodIn_of _ (by decide +kernel)) ggX6_reason_X6_wayAt
set_option maxRecDepth 20000 in
theorem ggX6_reason_X6_lineAt : GoodIn wsX6_reason wsX6_lineAt := goodIn_r _ [22] (by decide +kernel) (by decide +kernel)
set_option maxRecDepth 20000 in
theorem gX6_reason_X6_lineAt : GoodIn wsX6_reason (va_wsS RX6 59 yX6_lineAt wsX6_lineAt) := goodIn_app (goodIn_of _ (by decide +kernel)) ggX6_reason_X6_lineAt
theorem dX6_reason_0 : decode cX6_reason 0 = .ok (.aload_n 0, 1) := by decide +kernel
theorem dX6_reason_1 : decode cX6_reason 1 = .ok (.iload_n 1, 1) := by decide +kernel
theorem dX6_reason_2 : decode cX6_reason 2 = .ok (.iload_n 2, 1) := by decide +kernel
theorem dX6_reason_3 : decode cX6_reason 3 = .ok (.iconst 1, 1) := by decide +kernel
theorem dX6_reason_4 : decode cX6_reason 4 = .ok (.invokevirtual 51, 3) := by decide +kernel
theorem dX6_reason_7 : decode cX6_reason 7 = .ok (.istore 4, 2) := by decide +kernel
theorem dX6_reason_9 : decode cX6_reason 9 = .ok (.aload_n 0, 1) := by decide +kernel
theorem dX6_reason_10 : decode cX6_reason 10 = .ok (.iload_n 1, 1) := by decide +kernel
theorem dX6_reason_11 : decode cX6_reason 11 = .ok (.iload_n 2, 1) := by decide +kernel
theorem dX6_reason_12 : decode cX6_reason 12 = .ok (.iconst (-1), 1) := by decide +kernel
theorem dX6_reason_13 : decode cX6_reason 13 = .ok (.invokevirtual 51, 3) := by decide +kernel
theorem dX6_reason_16 : decode cX6_reason 16 = .ok (.istore 5, 2) := by decide +kernel
theorem dX6_reason_18 : decode cX6_reason 18 = .ok (.iload 4, 2) := by decide +kernel
theorem dX6_reason_20 : decode cX6_reason 20 = .ok (.bipush (-6), 2) := by decide +kernel
theorem dX6_reason_22 : decode cX6_reason 22 = .ok (.if_icmp .eq 12, 3) := by decide +kernel
theorem dX6_reason_25 : decode cX6_reason 25 = .ok (.iload_n 3, 1) := by decide +kernel
theorem dX6_reason_26 : decode cX6_reason 26 = .ok (.iload 4, 2) := by decide +kernel
theorem dX6_reason_28 : decode cX6_reason 28 = .ok (.invokestatic 55, 3) := by decide +kernel
theorem dX6_reason_31 : decode cX6_reason 31 = .ok (.ifCond .ne 19, 3) := by decide +kernel
theorem dX6_reason_34 : decode cX6_reason 34 = .ok (.iload 5, 2) := by decide +kernel
theorem dX6_reason_36 : decode cX6_reason 36 = .ok (.bipush (-6), 2) := by decide +kernel
theorem dX6_reason_38 : decode cX6_reason 38 = .ok (.if_icmp .eq 14, 3) := by decide +kernel
theorem dX6_reason_41 : decode cX6_reason 41 = .ok (.iload 5, 2) := by decide +kernel
theorem dX6_reason_43 : decode cX6_reason 43 = .ok (.iload_n 3, 1) := by decide +kernel
theorem dX6_reason_44 : decode cX6_reason 44 = .ok (.invokestatic 55, 3) := by decide +kernel
theorem dX6_reason_47 : decode cX6_reason 47 = .ok (.ifCond .eq 5, 3) := by decide +kernel
theorem dX6_reason_50 : decode cX6_reason 50 = .ok (.iconst 1, 1) := by decide +kernel
theorem dX6_reason_51 : decode cX6_reason 51 = .ok (.ireturn, 1) := by decide +kernel
theorem dX6_reason_52 : decode cX6_reason 52 = .ok (.iload_n 1, 1) := by decide +kernel
theorem dX6_reason_53 : decode cX6_reason 53 = .ok (.iconst 1, 1) := by decide +kernel
theorem dX6_reason_54 : decode cX6_reason 54 = .ok (.isub, 1) := by decide +kernel
theorem dX6_reason_55 : decode cX6_reason 55 = .ok (.istore 6, 2) := by decide +kernel
theorem dX6_reason_57 : decode cX6_reason 57 = .ok (.iload 6, 2) := by decide +kernel
theorem dX6_reason_59 : decode cX6_reason 59 = .ok (.iload_n 1, 1) := by decide +kernel
theorem dX6_reason_60 : decode cX6_reason 60 = .ok (.iconst 1, 1) := by decide +kernel
theorem dX6_reason_61 : decode cX6_reason 61 = .ok (.iadd, 1) := by decide +kernel
theorem dX6_reason_62 : decode cX6_reason 62 = .ok (.if_icmp .gt 73, 3) := by decide +kernel
theorem dX6_reason_65 : decode cX6_reason 65 = .ok (.iload 6, 2) := by decide +kernel
theorem dX6_reason_67 : decode cX6_reason 67 = .ok (.iconst 0, 1) := by decide +kernel
theorem dX6_reason_68 : decode cX6_reason 68 = .ok (.iconst 2, 1) := by decide +kernel
theorem dX6_reason_69 : decode cX6_reason 69 = .ok (.invokestatic 29, 3) := by decide +kernel
theorem dX6_reason_72 : decode cX6_reason 72 = .ok (.ifCond .eq 57, 3) := by decide +kernel
theorem dX6_reason_75 : decode cX6_reason 75 = .ok (.iload_n 3, 1) := by decide +kernel
theorem dX6_reason_76 : decode cX6_reason 76 = .ok (.iconst 2, 1) := by decide +kernel
theorem dX6_reason_77 : decode cX6_reason 77 = .ok (.if_icmp .ge 52, 3) := by decide +kernel
theorem dX6_reason_80 : decode cX6_reason 80 = .ok (.aload_n 0, 1) := by decide +kernel
theorem dX6_reason_81 : decode cX6_reason 81 = .ok (.iload 6, 2) := by decide +kernel
theorem dX6_reason_83 : decode cX6_reason 83 = .ok (.iload_n 2, 1) := by decide +kernel
theorem dX6_reason_84 : decode cX6_reason 84 = .ok (.invokevirtual 48, 3) := by decide +kernel
theorem dX6_reason_87 : decode cX6_reason 87 = .ok (.iconst 1, 1) := by decide +kernel
theorem dX6_reason_88 : decode cX6_reason 88 = .ok (.iload_n 3, 1) := by decide +kernel
theorem dX6_reason_89 : decode cX6_reason 89 = .ok (.isub, 1) := by decide +kernel
theorem dX6_reason_90 : decode cX6_reason 90 = .ok (.if_icmp .ne 39, 3) := by decide +kernel
theorem dX6_reason_93 : decode cX6_reason 93 = .ok (.aload_n 0, 1) := by decide +kernel
theorem dX6_reason_94 : decode cX6_reason 94 = .ok (.getfield 7, 3) := by decide +kernel
theorem dX6_reason_97 : decode cX6_reason 97 = .ok (.iload 6, 2) := by decide +kernel
theorem dX6_reason_99 : decode cX6_reason 99 = .ok (.iload_n 1, 1) := by decide +kernel
theorem dX6_reason_100 : decode cX6_reason 100 = .ok (.if_icmp .ge 8, 3) := by decide +kernel
theorem dX6_reason_103 : decode cX6_reason 103 = .ok (.iload 6, 2) := by decide +kernel
theorem dX6_reason_105 : decode cX6_reason 105 = .ok (.goto 4, 3) := by decide +kernel
theorem dX6_reason_108 : decode cX6_reason 108 = .ok (.iload_n 1, 1) := by decide +kernel
theorem dX6_reason_109 : decode cX6_reason 109 = .ok (.iload_n 2, 1) := by decide +kernel
theorem dX6_reason_110 : decode cX6_reason 110 = .ok (.invokestatic 59, 3) := by decide +kernel
theorem dX6_reason_113 : decode cX6_reason 113 = .ok (.iaload, 1) := by decide +kernel
theorem dX6_reason_114 : decode cX6_reason 114 = .ok (.istore 7, 2) := by decide +kernel
theorem dX6_reason_116 : decode cX6_reason 116 = .ok (.iload 7, 2) := by decide +kernel
theorem dX6_reason_118 : decode cX6_reason 118 = .ok (.ifCond .eq 9, 3) := by decide +kernel
theorem dX6_reason_121 : decode cX6_reason 121 = .ok (.iload 7, 2) := by decide +kernel
theorem dX6_reason_123 : decode cX6_reason 123 = .ok (.iconst 2, 1) := by decide +kernel
theorem dX6_reason_124 : decode cX6_reason 124 = .ok (.if_icmp .ne 5, 3) := by decide +kernel
theorem dX6_reason_127 : decode cX6_reason 127 = .ok (.iconst 2, 1) := by decide +kernel
theorem dX6_reason_128 : decode cX6_reason 128 = .ok (.ireturn, 1) := by decide +kernel
theorem dX6_reason_129 : decode cX6_reason 129 = .ok (.iinc 6 2, 3) := by decide +kernel
theorem dX6_reason_132 : decode cX6_reason 132 = .ok (.goto (-75), 3) := by decide +kernel
theorem dX6_reason_135 : decode cX6_reason 135 = .ok (.iconst 0, 1) := by decide +kernel
theorem dX6_reason_136 : decode cX6_reason 136 = .ok (.ireturn, 1) := by decide +kernel
theorem dX6_cellSigns_0 : decode cX6_cellSigns 0 = .ok (.iconst 0, 1) := by decide +kernel
theorem dX6_cellSigns_1 : decode cX6_cellSigns 1 = .ok (.istore_n 2, 1) := by decide +kernel
theorem dX6_cellSigns_2 : decode cX6_cellSigns 2 = .ok (.bipush 12, 2) := by decide +kernel
theorem dX6_cellSigns_4 : decode cX6_cellSigns 4 = .ok (.iload_n 1, 1) := by decide +kernel
theorem dX6_cellSigns_5 : decode cX6_cellSigns 5 = .ok (.iadd, 1) := by decide +kernel
theorem dX6_cellSigns_6 : decode cX6_cellSigns 6 = .ok (.istore_n 3, 1) := by decide +kernel
theorem dX6_cellSigns_7 : decode cX6_cellSigns 7 = .ok (.iload_n 3, 1) := by decide +kernel
theorem dX6_cellSigns_8 : decode cX6_cellSigns 8 = .ok (.sipush 204, 3) := by decide +kernel
theorem dX6_cellSigns_11 : decode cX6_cellSigns 11 = .ok (.if_icmp .ge 26, 3) := by decide +kernel
theorem dX6_cellSigns_14 : decode cX6_cellSigns 14 = .ok (.iload_n 2, 1) := by decide +kernel
theorem dX6_cellSigns_15 : decode cX6_cellSigns 15 = .ok (.aload_n 0, 1) := by decide +kernel
theorem dX6_cellSigns_16 : decode cX6_cellSigns 16 = .ok (.getfield 7, 3) := by decide +kernel
theorem dX6_cellSigns_19 : decode cX6_cellSigns 19 = .ok (.iload_n 3, 1) := by decide +kernel
theorem dX6_cellSigns_20 : decode cX6_cellSigns 20 = .ok (.iaload, 1) := by decide +kernel
theorem dX6_cellSigns_21 : decode cX6_cellSigns 21 = .ok (.ifCond .le 7, 3) := by decide +kernel
theorem dX6_cellSigns_24 : decode cX6_cellSigns 24 = .ok (.iconst 1, 1) := by decide +kernel
theorem dX6_cellSigns_25 : decode cX6_cellSigns 25 = .ok (.goto 4, 3) := by decide +kernel
theorem dX6_cellSigns_28 : decode cX6_cellSigns 28 = .ok (.iconst 0, 1) := by decide +kernel
theorem dX6_cellSigns_29 : decode cX6_cellSigns 29 = .ok (.iadd, 1) := by decide +kernel
theorem dX6_cellSigns_30 : decode cX6_cellSigns 30 = .ok (.istore_n 2, 1) := by decide +kernel
theorem dX6_cellSigns_31 : decode cX6_cellSigns 31 = .ok (.iinc 3 4, 3) := by decide +kernel
theorem dX6_cellSigns_34 : decode cX6_cellSigns 34 = .ok (.goto (-27), 3) := by decide +kernel
theorem dX6_cellSigns_37 : decode cX6_cellSigns 37 = .ok (.iload_n 2, 1) := by decide +kernel
theorem dX6_cellSigns_38 : decode cX6_cellSigns 38 = .ok (.ireturn, 1) := by decide +kernel
set_option maxRecDepth 20000 in
theorem ggX6_whyNotArrow_X6_isCell : GoodIn wsX6_whyNotArrow wsX6_isCell := goodIn_r _ [4, 5, 6, 3, 7] (by decide +kernel) (by decide +kernel)
set_option maxRecDepth 20000 in
theorem gX6_whyNotArrow_X6_isCell : GoodIn wsX6_whyNotArrow (va_wsS RX6 62 yX6_isCell wsX6_isCell) := goodIn_app (goodIn_of _ (by decide +kernel)) ggX6_whyNotArrow_X6_isCell
set_option maxRecDepth 20000 in
theorem ggX6_whyNotArrow_X6_in : GoodIn wsX6_whyNotArrow wsX6_in := goodIn_r _ [7] (by decide +kernel) (by decide +kernel)
set_option maxRecDepth 20000 in
theorem gX6_whyNotArrow_X6_in : GoodIn wsX6_whyNotArrow (va_wsS RX6 29 yX6_in wsX6_in) := goodIn_app (goodIn_of _ (by decide +kernel)) ggX6_whyNotArrow_X6_in
set_option maxRecDepth 20000 in
theorem ggX6_whyNotArrow_X6_reason : GoodIn wsX6_whyNotArrow wsX6_reason := goodIn_r _ [11, 12, 13, 14, 15, 3, 16, 5, 6, 7, 17, 18, 19, 20, 21, 22, 23, 24, 25, 26, 27, 28, 29, 30, 31, 32, 33, 34, 35, 36, 37, 38, 39, 40, 41] (by decide +kernel) (by decide +kernel)
set_option maxRecDepth 20000 in
theorem gX6_whyNotArrow_X6_reason : GoodIn wsX6_whyNotArrow (wsV RX6 65 RX6 yX6_reason wsX6_reason) := goodIn_app (goodIn_of _ (by decide +kernel)) ggX6_whyNotArrow_X6_reason
theorem dX6_whyNotArrow_0 : decode cX6_whyNotArrow 0 = .ok (.iload_n 1, 1) := by decide +kernel
theorem dX6_whyNotArrow_1 : decode cX6_whyNotArrow 1 = .ok (.iload_n 2, 1) := by decide +kernel
theorem dX6_whyNotArrow_2 : decode cX6_whyNotArrow 2 = .ok (.invokestatic 62, 3) := by decide +kernel
theorem dX6_whyNotArrow_5 : decode cX6_whyNotArrow 5 = .ok (.ifCond .ne 7, 3) := by decide +kernel
theorem dX6_whyNotArrow_8 : decode cX6_whyNotArrow 8 = .ok (.iconst (-1), 1) := by decide +kernel
theorem dX6_whyNotArrow_9 : decode cX6_whyNotArrow 9 = .ok (.goto 33, 3) := by decide +kernel
theorem dX6_whyNotArrow_12 : decode cX6_whyNotArrow 12 = .ok (.iload_n 3, 1) := by decide +kernel
theorem dX6_whyNotArrow_13 : decode cX6_whyNotArrow 13 = .ok (.iconst 0, 1) := by decide +kernel
theorem dX6_whyNotArrow_14 : decode cX6_whyNotArrow 14 = .ok (.iconst 2, 1) := by decide +kernel
theorem dX6_whyNotArrow_15 : decode cX6_whyNotArrow 15 = .ok (.invokestatic 29, 3) := by decide +kernel
theorem dX6_whyNotArrow_18 : decode cX6_whyNotArrow 18 = .ok (.ifCond .ne 8, 3) := by decide +kernel
theorem dX6_whyNotArrow_21 : decode cX6_whyNotArrow 21 = .ok (.bipush (-2), 2) := by decide +kernel
theorem dX6_whyNotArrow_23 : decode cX6_whyNotArrow 23 = .ok (.goto 19, 3) := by decide +kernel
theorem dX6_whyNotArrow_26 : decode cX6_whyNotArrow 26 = .ok (.aload_n 0, 1) := by decide +kernel
theorem dX6_whyNotArrow_27 : decode cX6_whyNotArrow 27 = .ok (.iload_n 1, 1) := by decide +kernel
theorem dX6_whyNotArrow_28 : decode cX6_whyNotArrow 28 = .ok (.iload_n 2, 1) := by decide +kernel
theorem dX6_whyNotArrow_29 : decode cX6_whyNotArrow 29 = .ok (.iload_n 3, 1) := by decide +kernel
theorem dX6_whyNotArrow_30 : decode cX6_whyNotArrow 30 = .ok (.invokevirtual 65, 3) := by decide +kernel
theorem dX6_whyNotArrow_33 : decode cX6_whyNotArrow 33 = .ok (.ifCond .le 8, 3) := by decide +kernel
theorem dX6_whyNotArrow_36 : decode cX6_whyNotArrow 36 = .ok (.bipush (-3), 2) := by decide +kernel
theorem dX6_whyNotArrow_38 : decode cX6_whyNotArrow 38 = .ok (.goto 4, 3) := by decide +kernel
theorem dX6_whyNotArrow_41 : decode cX6_whyNotArrow 41 = .ok (.iconst 0, 1) := by decide +kernel
theorem dX6_whyNotArrow_42 : decode cX6_whyNotArrow 42 = .ok (.ireturn, 1) := by decide +kernel
theorem dX6_signs_0 : decode cX6_signs 0 = .ok (.aload_n 0, 1) := by decide +kernel
theorem dX6_signs_1 : decode cX6_signs 1 = .ok (.getfield 7, 3) := by decide +kernel
theorem dX6_signs_4 : decode cX6_signs 4 = .ok (.iload_n 1, 1) := by decide +kernel
theorem dX6_signs_5 : decode cX6_signs 5 = .ok (.iload_n 2, 1) := by decide +kernel
theorem dX6_signs_6 : decode cX6_signs 6 = .ok (.iastore, 1) := by decide +kernel
theorem dX6_signs_7 : decode cX6_signs 7 = .ok (.aload_n 0, 1) := by decide +kernel
theorem dX6_signs_8 : decode cX6_signs 8 = .ok (.getfield 7, 3) := by decide +kernel
theorem dX6_signs_11 : decode cX6_signs 11 = .ok (.iload_n 1, 1) := by decide +kernel
theorem dX6_signs_12 : decode cX6_signs 12 = .ok (.iconst 1, 1) := by decide +kernel
theorem dX6_signs_13 : decode cX6_signs 13 = .ok (.iadd, 1) := by decide +kernel
theorem dX6_signs_14 : decode cX6_signs 14 = .ok (.iload_n 2, 1) := by decide +kernel
theorem dX6_signs_15 : decode cX6_signs 15 = .ok (.ifCond .ne 7, 3) := by decide +kernel
theorem dX6_signs_18 : decode cX6_signs 18 = .ok (.iconst 0, 1) := by decide +kernel
theorem dX6_signs_19 : decode cX6_signs 19 = .ok (.goto 5, 3) := by decide +kernel
theorem dX6_signs_22 : decode cX6_signs 22 = .ok (.bipush 100, 2) := by decide +kernel
theorem dX6_signs_24 : decode cX6_signs 24 = .ok (.iastore, 1) := by decide +kernel
theorem dX6_signs_25 : decode cX6_signs 25 = .ok (.iload_n 2, 1) := by decide +kernel
theorem dX6_signs_26 : decode cX6_signs 26 = .ok (.ireturn, 1) := by decide +kernel
set_option maxRecDepth 20000 in
theorem ggX6_arrow_X6_whyNotArrow : GoodIn wsX6_arrow wsX6_whyNotArrow := goodIn_r _ [5, 6, 7, 4, 8, 9, 10, 11, 12, 13, 14, 15, 16, 17, 18, 19, 20, 21, 22, 23, 24, 25, 26, 27, 28, 29, 30, 31, 32, 33, 48, 49, 50, 51, 52, 53, 54, 55, 56, 57, 58, 59] (by decide +kernel) (by decide +kernel)
set_option maxRecDepth 20000 in
theorem gX6_arrow_X6_whyNotArrow : GoodIn wsX6_arrow (wsV RX6 68 RX6 yX6_whyNotArrow wsX6_whyNotArrow) := goodIn_app (goodIn_of _ (by decide +kernel)) ggX6_arrow_X6_whyNotArrow
set_option maxRecDepth 20000 in
theorem ggX6_arrow_X6_record : GoodIn wsX6_arrow wsX6_record := goodIn_r _ [37, 38, 39, 16, 48, 49, 50, 51, 52, 53, 54, 55, 56, 57, 58, 59] (by decide +kernel) (by decide +kernel)
set_option maxRecDepth 20000 in
theorem gX6_arrow_X6_record : GoodIn wsX6_arrow (wsV RX6 45 RX6 yX6_record wsX6_record) := goodIn_app (goodIn_of _ (by decide +kernel)) ggX6_arrow_X6_record
set_option maxRecDepth 20000 in
theorem ggX6_arrow_X6_cellAt : GoodIn wsX6_arrow wsX6_cellAt := goodIn_r _ [27] (by decide +kernel) (by decide +kernel)
set_option maxRecDepth 20000 in
theorem gX6_arrow_X6_cellAt : GoodIn wsX6_arrow (va_wsS RX6 33 yX6_cellAt wsX6_cellAt) := goodIn_app (goodIn_of _ (by decide +kernel)) ggX6_arrow_X6_cellAt
set_option maxRecDepth 20000 in
theorem ggX6_arrow_X6_signs : GoodIn wsX6_arrow wsX6_signs := goodIn_r _ [43, 16, 48, 49, 50, 51, 52, 53, 54, 55, 56, 57, 58, 59] (by decide +kernel) (by decide +kernel)
set_option maxRecDepth 20000 in
theorem gX6_arrow_X6_signs : GoodIn wsX6_arrow (wsV RX6 71 RX6 yX6_signs wsX6_signs) := goodIn_app (goodIn_of _ (by decide +kernel)) ggX6_arrow_X6_signs
set_option maxRecDepth 20000 in
theorem ggX6_arrow_X6_cellSigns : GoodIn wsX6_arrow wsX6_cellSigns := goodIn_r _ [47, 16, 48, 49, 50, 51, 52, 53, 54, 55, 56, 57, 58, 59] (by decide +kernel) (by decide +kernel)
set_option maxRecDepth 20000 in
theorem gX6_arrow_X6_cellSigns : GoodIn wsX6_arrow (wsV RX6 74 RX6 yX6_cellSigns wsX6_cellSigns) := goodIn_app (goodIn_of _ (by decide +kernel)) ggX6_arrow_X6_cellSigns
theorem dX6_arrow_0 : decode cX6_arrow 0 = .ok (.aload_n 0, 1) := by decide +kernel
theorem dX6_arrow_1 : decode cX6_arrow 1 = .ok (.iload_n 1, 1) := by decide +kernel
theorem dX6_arrow_2 : decode cX6_arrow 2 = .ok (.iload_n 2, 1) := by decide +kernel
theorem dX6_arrow_3 : decode cX6_arrow 3 = .ok (.iload_n 3, 1) := by decide +kernel
theorem dX6_arrow_4 : decode cX6_arrow 4 = .ok (.invokevirtual 68, 3) := by decide +kernel
theorem dX6_arrow_7 : decode cX6_arrow 7 = .ok (.istore 4, 2) := by decide +kernel
theorem dX6_arrow_9 : decode cX6_arrow 9 = .ok (.iload 4, 2) := by decide +kernel
theorem dX6_arrow_11 : decode cX6_arrow 11 = .ok (.ifCond .ge 6, 3) := by decide +kernel
theorem dX6_arrow_14 : decode cX6_arrow 14 = .ok (.iload 4, 2) := by decide +kernel
theorem dX6_arrow_16 : decode cX6_arrow 16 = .ok (.ireturn, 1) := by decide +kernel
theorem dX6_arrow_17 : decode cX6_arrow 17 = .ok (.aload_n 0, 1) := by decide +kernel
theorem dX6_arrow_18 : decode cX6_arrow 18 = .ok (.invokevirtual 45, 3) := by decide +kernel
theorem dX6_arrow_21 : decode cX6_arrow 21 = .ok (.aload_n 0, 1) := by decide +kernel
theorem dX6_arrow_22 : decode cX6_arrow 22 = .ok (.iload_n 1, 1) := by decide +kernel
theorem dX6_arrow_23 : decode cX6_arrow 23 = .ok (.iload_n 2, 1) := by decide +kernel
theorem dX6_arrow_24 : decode cX6_arrow 24 = .ok (.invokestatic 33, 3) := by decide +kernel
theorem dX6_arrow_27 : decode cX6_arrow 27 = .ok (.iload_n 3, 1) := by decide +kernel
theorem dX6_arrow_28 : decode cX6_arrow 28 = .ok (.iconst 1, 1) := by decide +kernel
theorem dX6_arrow_29 : decode cX6_arrow 29 = .ok (.iadd, 1) := by decide +kernel
theorem dX6_arrow_30 : decode cX6_arrow 30 = .ok (.invokevirtual 71, 3) := by decide +kernel
theorem dX6_arrow_33 : decode cX6_arrow 33 = .ok (.pop, 1) := by decide +kernel
theorem dX6_arrow_34 : decode cX6_arrow 34 = .ok (.aload_n 0, 1) := by decide +kernel
theorem dX6_arrow_35 : decode cX6_arrow 35 = .ok (.iconst 0, 1) := by decide +kernel
theorem dX6_arrow_36 : decode cX6_arrow 36 = .ok (.invokevirtual 74, 3) := by decide +kernel
theorem dX6_arrow_39 : decode cX6_arrow 39 = .ok (.ireturn, 1) := by decide +kernel
set_option maxRecDepth 20000 in
theorem ggX6_whyNotWord_X6_isCell : GoodIn wsX6_whyNotWord wsX6_isCell := goodIn_r _ [4, 5, 6, 3, 7] (by decide +kernel) (by decide +kernel)
set_option maxRecDepth 20000 in
theorem gX6_whyNotWord_X6_isCell : GoodIn wsX6_whyNotWord (va_wsS RX6 62 yX6_isCell wsX6_isCell) := goodIn_app (goodIn_of _ (by decide +kernel)) ggX6_whyNotWord_X6_isCell
set_option maxRecDepth 20000 in
theorem ggX6_whyNotWord_X6_in : GoodIn wsX6_whyNotWord wsX6_in := goodIn_r _ [7] (by decide +kernel) (by decide +kernel)
set_option maxRecDepth 20000 in
theorem gX6_whyNotWord_X6_in : GoodIn wsX6_whyNotWord (va_wsS RX6 29 yX6_in wsX6_in) := goodIn_app (goodIn_of _ (by decide +kernel)) ggX6_whyNotWord_X6_in
theorem dX6_whyNotWord_0 : decode cX6_whyNotWord 0 = .ok (.iload_n 0, 1) := by decide +kernel
theorem dX6_whyNotWord_1 : decode cX6_whyNotWord 1 = .ok (.iload_n 1, 1) := by decide +kernel
theorem dX6_whyNotWord_2 : decode cX6_whyNotWord 2 = .ok (.invokestatic 62, 3) := by decide +kernel
theorem dX6_whyNotWord_5 : decode cX6_whyNotWord 5 = .ok (.ifCond .ne 7, 3) := by decide +kernel
theorem dX6_whyNotWord_8 : decode cX6_whyNotWord 8 = .ok (.iconst (-1), 1) := by decide +kernel
theorem dX6_whyNotWord_9 : decode cX6_whyNotWord 9 = .ok (.goto 18, 3) := by decide +kernel
theorem dX6_whyNotWord_12 : decode cX6_whyNotWord 12 = .ok (.iload_n 2, 1) := by decide +kernel
theorem dX6_whyNotWord_13 : decode cX6_whyNotWord 13 = .ok (.iconst 0, 1) := by decide +kernel
theorem dX6_whyNotWord_14 : decode cX6_whyNotWord 14 = .ok (.iconst 3, 1) := by decide +kernel
theorem dX6_whyNotWord_15 : decode cX6_whyNotWord 15 = .ok (.invokestatic 29, 3) := by decide +kernel
theorem dX6_whyNotWord_18 : decode cX6_whyNotWord 18 = .ok (.ifCond .eq 7, 3) := by decide +kernel
theorem dX6_whyNotWord_21 : decode cX6_whyNotWord 21 = .ok (.iconst 0, 1) := by decide +kernel
theorem dX6_whyNotWord_22 : decode cX6_whyNotWord 22 = .ok (.goto 5, 3) := by decide +kernel
theorem dX6_whyNotWord_25 : decode cX6_whyNotWord 25 = .ok (.bipush (-2), 2) := by decide +kernel
theorem dX6_whyNotWord_27 : decode cX6_whyNotWord 27 = .ok (.ireturn, 1) := by decide +kernel
set_option maxRecDepth 20000 in
theorem ggX6_word_X6_whyNotWord : GoodIn wsX6_word wsX6_whyNotWord := goodIn_r _ [4, 5, 6, 3, 7, 8, 9, 10] (by decide +kernel) (by decide +kernel)
set_option maxRecDepth 20000 in
theorem gX6_word_X6_whyNotWord : GoodIn wsX6_word (va_wsS RX6 78 yX6_whyNotWord wsX6_whyNotWord) := goodIn_app (goodIn_of _ (by decide +kernel)) ggX6_word_X6_whyNotWord
set_option maxRecDepth 20000 in
theorem ggX6_word_X6_record : GoodIn wsX6_word wsX6_record := goodIn_r _ [14, 15, 16, 17, 29, 30, 31, 32, 33, 34, 35, 36, 37, 38, 39, 40] (by decide +kernel) (by decide +kernel)
set_option maxRecDepth 20000 in
theorem gX6_word_X6_record : GoodIn wsX6_word (wsV RX6 45 RX6 yX6_record wsX6_record) := goodIn_app (goodIn_of _ (by decide +kernel)) ggX6_word_X6_record
set_option maxRecDepth 20000 in
theorem ggX6_word_X6_cellAt : GoodIn wsX6_word wsX6_cellAt := goodIn_r _ [20] (by decide +kernel) (by decide +kernel)
set_option maxRecDepth 20000 in
theorem gX6_word_X6_cellAt : GoodIn wsX6_word (va_wsS RX6 33 yX6_cellAt wsX6_cellAt) := goodIn_app (goodIn_of _ (by decide +kernel)) ggX6_word_X6_cellAt
set_option maxRecDepth 20000 in
theorem ggX6_word_X6_signs : GoodIn wsX6_word wsX6_signs := goodIn_r _ [24, 17, 29, 30, 31, 32, 33, 34, 35, 36, 37, 38, 39, 40] (by decide +kernel) (by decide +kernel)
set_option maxRecDepth 20000 in
theorem gX6_word_X6_signs : GoodIn wsX6_word (wsV RX6 71 RX6 yX6_signs wsX6_signs) := goodIn_app (goodIn_of _ (by decide +kernel)) ggX6_word_X6_signs
set_option maxRecDepth 20000 in
theorem ggX6_word_X6_cellSigns : GoodIn wsX6_word wsX6_cellSigns := goodIn_r _ [28, 17, 29, 30, 31, 32, 33, 34, 35, 36, 37, 38, 39, 40] (by decide +kernel) (by decide +kernel)
set_option maxRecDepth 20000 in
theorem gX6_word_X6_cellSigns : GoodIn wsX6_word (wsV RX6 74 RX6 yX6_cellSigns wsX6_cellSigns) := goodIn_app (goodIn_of _ (by decide +kernel)) ggX6_word_X6_cellSigns
theorem dX6_word_0 : decode cX6_word 0 = .ok (.iload_n 1, 1) := by decide +kernel
theorem dX6_word_1 : decode cX6_word 1 = .ok (.iload_n 2, 1) := by decide +kernel
theorem dX6_word_2 : decode cX6_word 2 = .ok (.iload_n 3, 1) := by decide +kernel
theorem dX6_word_3 : decode cX6_word 3 = .ok (.invokestatic 78, 3) := by decide +kernel
theorem dX6_word_6 : decode cX6_word 6 = .ok (.istore 4, 2) := by decide +kernel
theorem dX6_word_8 : decode cX6_word 8 = .ok (.iload 4, 2) := by decide +kernel
theorem dX6_word_10 : decode cX6_word 10 = .ok (.ifCond .ge 6, 3) := by decide +kernel
theorem dX6_word_13 : decode cX6_word 13 = .ok (.iload 4, 2) := by decide +kernel
theorem dX6_word_15 : decode cX6_word 15 = .ok (.ireturn, 1) := by decide +kernel
theorem dX6_word_16 : decode cX6_word 16 = .ok (.aload_n 0, 1) := by decide +kernel
theorem dX6_word_17 : decode cX6_word 17 = .ok (.invokevirtual 45, 3) := by decide +kernel
theorem dX6_word_20 : decode cX6_word 20 = .ok (.aload_n 0, 1) := by decide +kernel
theorem dX6_word_21 : decode cX6_word 21 = .ok (.iload_n 1, 1) := by decide +kernel
theorem dX6_word_22 : decode cX6_word 22 = .ok (.iload_n 2, 1) := by decide +kernel
theorem dX6_word_23 : decode cX6_word 23 = .ok (.invokestatic 33, 3) := by decide +kernel
theorem dX6_word_26 : decode cX6_word 26 = .ok (.iconst 2, 1) := by decide +kernel
theorem dX6_word_27 : decode cX6_word 27 = .ok (.iadd, 1) := by decide +kernel
theorem dX6_word_28 : decode cX6_word 28 = .ok (.iload_n 3, 1) := by decide +kernel
theorem dX6_word_29 : decode cX6_word 29 = .ok (.iconst 1, 1) := by decide +kernel
theorem dX6_word_30 : decode cX6_word 30 = .ok (.iadd, 1) := by decide +kernel
theorem dX6_word_31 : decode cX6_word 31 = .ok (.invokevirtual 71, 3) := by decide +kernel
theorem dX6_word_34 : decode cX6_word 34 = .ok (.pop, 1) := by decide +kernel
theorem dX6_word_35 : decode cX6_word 35 = .ok (.aload_n 0, 1) := by decide +kernel
theorem dX6_word_36 : decode cX6_word 36 = .ok (.iconst 2, 1) := by decide +kernel
theorem dX6_word_37 : decode cX6_word 37 = .ok (.invokevirtual 74, 3) := by decide +kernel
theorem dX6_word_40 : decode cX6_word 40 = .ok (.ireturn, 1) := by decide +kernel
set_option maxRecDepth 20000 in
theorem ggX6_whyNotDash_X6_isLine : GoodIn wsX6_whyNotDash wsX6_isLine := goodIn_r _ [4, 5, 6, 3, 7] (by decide +kernel) (by decide +kernel)
set_option maxRecDepth 20000 in
theorem gX6_whyNotDash_X6_isLine : GoodIn wsX6_whyNotDash (va_wsS RX6 81 yX6_isLine wsX6_isLine) := goodIn_app (goodIn_of _ (by decide +kernel)) ggX6_whyNotDash_X6_isLine
set_option maxRecDepth 20000 in
theorem ggX6_whyNotDash_X6_in : GoodIn wsX6_whyNotDash wsX6_in := goodIn_r _ [7] (by decide +kernel) (by decide +kernel)
set_option maxRecDepth 20000 in
theorem gX6_whyNotDash_X6_in : GoodIn wsX6_whyNotDash (va_wsS RX6 29 yX6_in wsX6_in) := goodIn_app (goodIn_of _ (by decide +kernel)) ggX6_whyNotDash_X6_in
theorem dX6_whyNotDash_0 : decode cX6_whyNotDash 0 = .ok (.iload_n 0, 1) := by decide +kernel
theorem dX6_whyNotDash_1 : decode cX6_whyNotDash 1 = .ok (.iload_n 1, 1) := by decide +kernel
theorem dX6_whyNotDash_2 : decode cX6_whyNotDash 2 = .ok (.invokestatic 81, 3) := by decide +kernel
theorem dX6_whyNotDash_5 : decode cX6_whyNotDash 5 = .ok (.ifCond .ne 7, 3) := by decide +kernel
theorem dX6_whyNotDash_8 : decode cX6_whyNotDash 8 = .ok (.iconst (-1), 1) := by decide +kernel
theorem dX6_whyNotDash_9 : decode cX6_whyNotDash 9 = .ok (.goto 18, 3) := by decide +kernel
theorem dX6_whyNotDash_12 : decode cX6_whyNotDash 12 = .ok (.iload_n 2, 1) := by decide +kernel
theorem dX6_whyNotDash_13 : decode cX6_whyNotDash 13 = .ok (.iconst 0, 1) := by decide +kernel
theorem dX6_whyNotDash_14 : decode cX6_whyNotDash 14 = .ok (.iconst 3, 1) := by decide +kernel
theorem dX6_whyNotDash_15 : decode cX6_whyNotDash 15 = .ok (.invokestatic 29, 3) := by decide +kernel
theorem dX6_whyNotDash_18 : decode cX6_whyNotDash 18 = .ok (.ifCond .eq 7, 3) := by decide +kernel
theorem dX6_whyNotDash_21 : decode cX6_whyNotDash 21 = .ok (.iconst 0, 1) := by decide +kernel
theorem dX6_whyNotDash_22 : decode cX6_whyNotDash 22 = .ok (.goto 5, 3) := by decide +kernel
theorem dX6_whyNotDash_25 : decode cX6_whyNotDash 25 = .ok (.bipush (-2), 2) := by decide +kernel
theorem dX6_whyNotDash_27 : decode cX6_whyNotDash 27 = .ok (.ireturn, 1) := by decide +kernel
set_option maxRecDepth 20000 in
theorem ggX6_dash_X6_whyNotDash : GoodIn wsX6_dash wsX6_whyNotDash := goodIn_r _ [5, 6, 7, 4, 8, 9, 10, 11] (by decide +kernel) (by decide +kernel)
set_option maxRecDepth 20000 in
theorem gX6_dash_X6_whyNotDash : GoodIn wsX6_dash (va_wsS RX6 84 yX6_whyNotDash wsX6_whyNotDash) := goodIn_app (goodIn_of _ (by decide +kernel)) ggX6_dash_X6_whyNotDash
set_option maxRecDepth 20000 in
theorem ggX6_dash_X6_record : GoodIn wsX6_dash wsX6_record := goodIn_r _ [15, 16, 17, 1, 25, 26, 27, 28, 29, 30, 31, 32, 33, 34, 35, 36] (by decide +kernel) (by decide +kernel)
set_option maxRecDepth 20000 in
theorem gX6_dash_X6_record : GoodIn wsX6_dash (wsV RX6 45 RX6 yX6_record wsX6_record) := goodIn_app (goodIn_of _ (by decide +kernel)) ggX6_dash_X6_record
set_option maxRecDepth 20000 in
theorem ggX6_dash_X6_lineAt : GoodIn wsX6_dash wsX6_lineAt := goodIn_r _ [20] (by decide +kernel) (by decide +kernel)
set_option maxRecDepth 20000 in
theorem gX6_dash_X6_lineAt : GoodIn wsX6_dash (va_wsS RX6 59 yX6_lineAt wsX6_lineAt) := goodIn_app (goodIn_of _ (by decide +kernel)) ggX6_dash_X6_lineAt
set_option maxRecDepth 20000 in
theorem ggX6_dash_X6_signs : GoodIn wsX6_dash wsX6_signs := goodIn_r _ [24, 1, 25, 26, 27, 28, 29, 30, 31, 32, 33, 34, 35, 36] (by decide +kernel) (by decide +kernel)
set_option maxRecDepth 20000 in
theorem gX6_dash_X6_signs : GoodIn wsX6_dash (wsV RX6 71 RX6 yX6_signs wsX6_signs) := goodIn_app (goodIn_of _ (by decide +kernel)) ggX6_dash_X6_signs
theorem dX6_dash_0 : decode cX6_dash 0 = .ok (.iload_n 1, 1) := by decide +kernel
theorem dX6_dash_1 : decode cX6_dash 1 = .ok (.iload_n 2, 1) := by decide +kernel
theorem dX6_dash_2 : decode cX6_dash 2 = .ok (.iload_n 3, 1) := by decide +kernel
theorem dX6_dash_3 : decode cX6_dash 3 = .ok (.invokestatic 84, 3) := by decide +kernel
theorem dX6_dash_6 : decode cX6_dash 6 = .ok (.istore 4, 2) := by decide +kernel
theorem dX6_dash_8 : decode cX6_dash 8 = .ok (.iload 4, 2) := by decide +kernel
theorem dX6_dash_10 : decode cX6_dash 10 = .ok (.ifCond .ge 6, 3) := by decide +kernel
theorem dX6_dash_13 : decode cX6_dash 13 = .ok (.iload 4, 2) := by decide +kernel
theorem dX6_dash_15 : decode cX6_dash 15 = .ok (.ireturn, 1) := by decide +kernel
theorem dX6_dash_16 : decode cX6_dash 16 = .ok (.aload_n 0, 1) := by decide +kernel
theorem dX6_dash_17 : decode cX6_dash 17 = .ok (.invokevirtual 45, 3) := by decide +kernel
theorem dX6_dash_20 : decode cX6_dash 20 = .ok (.aload_n 0, 1) := by decide +kernel
theorem dX6_dash_21 : decode cX6_dash 21 = .ok (.getfield 7, 3) := by decide +kernel
theorem dX6_dash_24 : decode cX6_dash 24 = .ok (.iload_n 1, 1) := by decide +kernel
theorem dX6_dash_25 : decode cX6_dash 25 = .ok (.iload_n 2, 1) := by decide +kernel
theorem dX6_dash_26 : decode cX6_dash 26 = .ok (.invokestatic 59, 3) := by decide +kernel
theorem dX6_dash_29 : decode cX6_dash 29 = .ok (.iaload, 1) := by decide +kernel
theorem dX6_dash_30 : decode cX6_dash 30 = .ok (.istore 5, 2) := by decide +kernel
theorem dX6_dash_32 : decode cX6_dash 32 = .ok (.aload_n 0, 1) := by decide +kernel
theorem dX6_dash_33 : decode cX6_dash 33 = .ok (.iload_n 1, 1) := by decide +kernel
theorem dX6_dash_34 : decode cX6_dash 34 = .ok (.iload_n 2, 1) := by decide +kernel
theorem dX6_dash_35 : decode cX6_dash 35 = .ok (.invokestatic 59, 3) := by decide +kernel
theorem dX6_dash_38 : decode cX6_dash 38 = .ok (.iload_n 3, 1) := by decide +kernel
theorem dX6_dash_39 : decode cX6_dash 39 = .ok (.invokevirtual 71, 3) := by decide +kernel
theorem dX6_dash_42 : decode cX6_dash 42 = .ok (.pop, 1) := by decide +kernel
theorem dX6_dash_43 : decode cX6_dash 43 = .ok (.iload 5, 2) := by decide +kernel
theorem dX6_dash_45 : decode cX6_dash 45 = .ok (.ireturn, 1) := by decide +kernel
set_option maxRecDepth 20000 in
theorem ggX6_erase_X6_isCell : GoodIn wsX6_erase wsX6_isCell := goodIn_r _ [5, 6, 7, 4, 8] (by decide +kernel) (by decide +kernel)
set_option maxRecDepth 20000 in
theorem gX6_erase_X6_isCell : GoodIn wsX6_erase (va_wsS RX6 62 yX6_isCell wsX6_isCell) := goodIn_app (goodIn_of _ (by decide +kernel)) ggX6_erase_X6_isCell
set_option maxRecDepth 20000 in
theorem ggX6_erase_X6_record : GoodIn wsX6_erase wsX6_record := goodIn_r _ [12, 13, 14, 1, 22, 23, 24, 25, 26, 27, 28, 29, 30, 31, 32, 33] (by decide +kernel) (by decide +kernel)
set_option maxRecDepth 20000 in
theorem gX6_erase_X6_record : GoodIn wsX6_erase (wsV RX6 45 RX6 yX6_record wsX6_record) := goodIn_app (goodIn_of _ (by decide +kernel)) ggX6_erase_X6_record
set_option maxRecDepth 20000 in
theorem ggX6_erase_X6_cellAt : GoodIn wsX6_erase wsX6_cellAt := goodIn_r _ [17] (by decide +kernel) (by decide +kernel)
set_option maxRecDepth 20000 in
theorem gX6_erase_X6_cellAt : GoodIn wsX6_erase (va_wsS RX6 33 yX6_cellAt wsX6_cellAt) := goodIn_app (goodIn_of _ (by decide +kernel)) ggX6_erase_X6_cellAt
set_option maxRecDepth 20000 in
theorem ggX6_erase_X6_signs : GoodIn wsX6_erase wsX6_signs := goodIn_r _ [21, 1, 22, 23, 24, 25, 26, 27, 28, 29, 30, 31, 32, 33] (by decide +kernel) (by decide +kernel)
set_option maxRecDepth 20000 in
theorem gX6_erase_X6_signs : GoodIn wsX6_erase (wsV RX6 71 RX6 yX6_signs wsX6_signs) := goodIn_app (goodIn_of _ (by decide +kernel)) ggX6_erase_X6_signs
theorem dX6_erase_0 : decode cX6_erase 0 = .ok (.iload_n 1, 1) := by decide +kernel
theorem dX6_erase_1 : decode cX6_erase 1 = .ok (.iload_n 2, 1) := by decide +kernel
theorem dX6_erase_2 : decode cX6_erase 2 = .ok (.invokestatic 62, 3) := by decide +kernel
theorem dX6_erase_5 : decode cX6_erase 5 = .ok (.ifCond .ne 5, 3) := by decide +kernel
theorem dX6_erase_8 : decode cX6_erase 8 = .ok (.iconst (-1), 1) := by decide +kernel
theorem dX6_erase_9 : decode cX6_erase 9 = .ok (.ireturn, 1) := by decide +kernel
theorem dX6_erase_10 : decode cX6_erase 10 = .ok (.aload_n 0, 1) := by decide +kernel
theorem dX6_erase_11 : decode cX6_erase 11 = .ok (.invokevirtual 45, 3) := by decide +kernel
theorem dX6_erase_14 : decode cX6_erase 14 = .ok (.iload_n 1, 1) := by decide +kernel
theorem dX6_erase_15 : decode cX6_erase 15 = .ok (.iload_n 2, 1) := by decide +kernel
theorem dX6_erase_16 : decode cX6_erase 16 = .ok (.invokestatic 33, 3) := by decide +kernel
theorem dX6_erase_19 : decode cX6_erase 19 = .ok (.istore_n 3, 1) := by decide +kernel
theorem dX6_erase_20 : decode cX6_erase 20 = .ok (.aload_n 0, 1) := by decide +kernel
theorem dX6_erase_21 : decode cX6_erase 21 = .ok (.getfield 7, 3) := by decide +kernel
theorem dX6_erase_24 : decode cX6_erase 24 = .ok (.iload_n 3, 1) := by decide +kernel
theorem dX6_erase_25 : decode cX6_erase 25 = .ok (.iaload, 1) := by decide +kernel
theorem dX6_erase_26 : decode cX6_erase 26 = .ok (.ifCond .le 7, 3) := by decide +kernel
theorem dX6_erase_29 : decode cX6_erase 29 = .ok (.iconst 1, 1) := by decide +kernel
theorem dX6_erase_30 : decode cX6_erase 30 = .ok (.goto 4, 3) := by decide +kernel
theorem dX6_erase_33 : decode cX6_erase 33 = .ok (.iconst 0, 1) := by decide +kernel
theorem dX6_erase_34 : decode cX6_erase 34 = .ok (.aload_n 0, 1) := by decide +kernel
theorem dX6_erase_35 : decode cX6_erase 35 = .ok (.getfield 7, 3) := by decide +kernel
theorem dX6_erase_38 : decode cX6_erase 38 = .ok (.iload_n 3, 1) := by decide +kernel
theorem dX6_erase_39 : decode cX6_erase 39 = .ok (.iconst 2, 1) := by decide +kernel
theorem dX6_erase_40 : decode cX6_erase 40 = .ok (.iadd, 1) := by decide +kernel
theorem dX6_erase_41 : decode cX6_erase 41 = .ok (.iaload, 1) := by decide +kernel
theorem dX6_erase_42 : decode cX6_erase 42 = .ok (.ifCond .le 7, 3) := by decide +kernel
theorem dX6_erase_45 : decode cX6_erase 45 = .ok (.iconst 1, 1) := by decide +kernel
theorem dX6_erase_46 : decode cX6_erase 46 = .ok (.goto 4, 3) := by decide +kernel
theorem dX6_erase_49 : decode cX6_erase 49 = .ok (.iconst 0, 1) := by decide +kernel
theorem dX6_erase_50 : decode cX6_erase 50 = .ok (.iadd, 1) := by decide +kernel
theorem dX6_erase_51 : decode cX6_erase 51 = .ok (.istore 4, 2) := by decide +kernel
theorem dX6_erase_53 : decode cX6_erase 53 = .ok (.aload_n 0, 1) := by decide +kernel
theorem dX6_erase_54 : decode cX6_erase 54 = .ok (.iload_n 3, 1) := by decide +kernel
theorem dX6_erase_55 : decode cX6_erase 55 = .ok (.iconst 0, 1) := by decide +kernel
theorem dX6_erase_56 : decode cX6_erase 56 = .ok (.invokevirtual 71, 3) := by decide +kernel
theorem dX6_erase_59 : decode cX6_erase 59 = .ok (.pop, 1) := by decide +kernel
theorem dX6_erase_60 : decode cX6_erase 60 = .ok (.aload_n 0, 1) := by decide +kernel
theorem dX6_erase_61 : decode cX6_erase 61 = .ok (.iload_n 3, 1) := by decide +kernel
theorem dX6_erase_62 : decode cX6_erase 62 = .ok (.iconst 2, 1) := by decide +kernel
theorem dX6_erase_63 : decode cX6_erase 63 = .ok (.iadd, 1) := by decide +kernel
theorem dX6_erase_64 : decode cX6_erase 64 = .ok (.iconst 0, 1) := by decide +kernel
theorem dX6_erase_65 : decode cX6_erase 65 = .ok (.invokevirtual 71, 3) := by decide +kernel
theorem dX6_erase_68 : decode cX6_erase 68 = .ok (.pop, 1) := by decide +kernel
theorem dX6_erase_69 : decode cX6_erase 69 = .ok (.iload 4, 2) := by decide +kernel
theorem dX6_erase_71 : decode cX6_erase 71 = .ok (.ireturn, 1) := by decide +kernel
set_option maxRecDepth 20000 in
theorem ggX6_set_X6_in : GoodIn wsX6_set wsX6_in := goodIn_r _ [5] (by decide +kernel) (by decide +kernel)
set_option maxRecDepth 20000 in
theorem gX6_set_X6_in : GoodIn wsX6_set (va_wsS RX6 29 yX6_in wsX6_in) := goodIn_app (goodIn_of _ (by decide +kernel)) ggX6_set_X6_in
set_option maxRecDepth 20000 in
theorem ggX6_set_X6_record : GoodIn wsX6_set wsX6_record := goodIn_r _ [9, 10, 11, 1, 12, 13, 14, 15, 16, 17, 18, 19, 20, 21, 22, 23] (by decide +kernel) (by decide +kernel)
set_option maxRecDepth 20000 in
theorem gX6_set_X6_record : GoodIn wsX6_set (wsV RX6 45 RX6 yX6_record wsX6_record) := goodIn_app (goodIn_of _ (by decide +kernel)) ggX6_set_X6_record
theorem dX6_set_0 : decode cX6_set 0 = .ok (.iload_n 1, 1) := by decide +kernel
theorem dX6_set_1 : decode cX6_set 1 = .ok (.iconst 0, 1) := by decide +kernel
theorem dX6_set_2 : decode cX6_set 2 = .ok (.iconst 1, 1) := by decide +kernel
theorem dX6_set_3 : decode cX6_set 3 = .ok (.invokestatic 29, 3) := by decide +kernel
theorem dX6_set_6 : decode cX6_set 6 = .ok (.ifCond .ne 5, 3) := by decide +kernel
theorem dX6_set_9 : decode cX6_set 9 = .ok (.iconst (-1), 1) := by decide +kernel
theorem dX6_set_10 : decode cX6_set 10 = .ok (.ireturn, 1) := by decide +kernel
theorem dX6_set_11 : decode cX6_set 11 = .ok (.iload_n 2, 1) := by decide +kernel
theorem dX6_set_12 : decode cX6_set 12 = .ok (.iconst 1, 1) := by decide +kernel
theorem dX6_set_13 : decode cX6_set 13 = .ok (.iload_n 1, 1) := by decide +kernel
theorem dX6_set_14 : decode cX6_set 14 = .ok (.ifCond .ne 8, 3) := by decide +kernel
theorem dX6_set_17 : decode cX6_set 17 = .ok (.bipush 100, 2) := by decide +kernel
theorem dX6_set_19 : decode cX6_set 19 = .ok (.goto 5, 3) := by decide +kernel
theorem dX6_set_22 : decode cX6_set 22 = .ok (.bipush 40, 2) := by decide +kernel
theorem dX6_set_24 : decode cX6_set 24 = .ok (.invokestatic 29, 3) := by decide +kernel
theorem dX6_set_27 : decode cX6_set 27 = .ok (.ifCond .ne 6, 3) := by decide +kernel
theorem dX6_set_30 : decode cX6_set 30 = .ok (.bipush (-2), 2) := by decide +kernel
theorem dX6_set_32 : decode cX6_set 32 = .ok (.ireturn, 1) := by decide +kernel
theorem dX6_set_33 : decode cX6_set 33 = .ok (.aload_n 0, 1) := by decide +kernel
theorem dX6_set_34 : decode cX6_set 34 = .ok (.invokevirtual 45, 3) := by decide +kernel
theorem dX6_set_37 : decode cX6_set 37 = .ok (.aload_n 0, 1) := by decide +kernel
theorem dX6_set_38 : decode cX6_set 38 = .ok (.getfield 7, 3) := by decide +kernel
theorem dX6_set_41 : decode cX6_set 41 = .ok (.iload_n 1, 1) := by decide +kernel
theorem dX6_set_42 : decode cX6_set 42 = .ok (.iaload, 1) := by decide +kernel
theorem dX6_set_43 : decode cX6_set 43 = .ok (.istore_n 3, 1) := by decide +kernel
theorem dX6_set_44 : decode cX6_set 44 = .ok (.aload_n 0, 1) := by decide +kernel
theorem dX6_set_45 : decode cX6_set 45 = .ok (.getfield 7, 3) := by decide +kernel
theorem dX6_set_48 : decode cX6_set 48 = .ok (.iload_n 1, 1) := by decide +kernel
theorem dX6_set_49 : decode cX6_set 49 = .ok (.iload_n 2, 1) := by decide +kernel
theorem dX6_set_50 : decode cX6_set 50 = .ok (.iastore, 1) := by decide +kernel
theorem dX6_set_51 : decode cX6_set 51 = .ok (.iload_n 3, 1) := by decide +kernel
theorem dX6_set_52 : decode cX6_set 52 = .ok (.ireturn, 1) := by decide +kernel
set_option maxRecDepth 20000 in
theorem ggX6_traffic_X6_in : GoodIn wsX6_traffic wsX6_in := goodIn_r _ [5] (by decide +kernel) (by decide +kernel)
set_option maxRecDepth 20000 in
theorem gX6_traffic_X6_in : GoodIn wsX6_traffic (va_wsS RX6 29 yX6_in wsX6_in) := goodIn_app (goodIn_of _ (by decide +kernel)) ggX6_traffic_X6_in
set_option maxRecDepth 20000 in
theorem ggX6_traffic_X6_record : GoodIn wsX6_traffic wsX6_record := goodIn_r _ [9, 10, 11, 1, 12, 13, 14, 15, 16, 17, 18, 19, 20, 21, 22, 23] (by decide +kernel) (by decide +kernel)
set_option maxRecDepth 20000 in
theorem gX6_traffic_X6_record : GoodIn wsX6_traffic (wsV RX6 45 RX6 yX6_record wsX6_record) := goodIn_app (goodIn_of _ (by decide +kernel)) ggX6_traffic_X6_record
theorem dX6_traffic_0 : decode cX6_traffic 0 = .ok (.iload_n 1, 1) := by decide +kernel
theorem dX6_traffic_1 : decode cX6_traffic 1 = .ok (.iconst 0, 1) := by decide +kernel
theorem dX6_traffic_2 : decode cX6_traffic 2 = .ok (.iconst 2, 1) := by decide +kernel
theorem dX6_traffic_3 : decode cX6_traffic 3 = .ok (.invokestatic 29, 3) := by decide +kernel
theorem dX6_traffic_6 : decode cX6_traffic 6 = .ok (.ifCond .ne 5, 3) := by decide +kernel
theorem dX6_traffic_9 : decode cX6_traffic 9 = .ok (.iconst (-1), 1) := by decide +kernel
theorem dX6_traffic_10 : decode cX6_traffic 10 = .ok (.ireturn, 1) := by decide +kernel
theorem dX6_traffic_11 : decode cX6_traffic 11 = .ok (.iload_n 2, 1) := by decide +kernel
theorem dX6_traffic_12 : decode cX6_traffic 12 = .ok (.iconst 0, 1) := by decide +kernel
theorem dX6_traffic_13 : decode cX6_traffic 13 = .ok (.bipush 20, 2) := by decide +kernel
theorem dX6_traffic_15 : decode cX6_traffic 15 = .ok (.invokestatic 29, 3) := by decide +kernel
theorem dX6_traffic_18 : decode cX6_traffic 18 = .ok (.ifCond .ne 6, 3) := by decide +kernel
theorem dX6_traffic_21 : decode cX6_traffic 21 = .ok (.bipush (-2), 2) := by decide +kernel
theorem dX6_traffic_23 : decode cX6_traffic 23 = .ok (.ireturn, 1) := by decide +kernel
theorem dX6_traffic_24 : decode cX6_traffic 24 = .ok (.aload_n 0, 1) := by decide +kernel
theorem dX6_traffic_25 : decode cX6_traffic 25 = .ok (.invokevirtual 45, 3) := by decide +kernel
theorem dX6_traffic_28 : decode cX6_traffic 28 = .ok (.aload_n 0, 1) := by decide +kernel
theorem dX6_traffic_29 : decode cX6_traffic 29 = .ok (.getfield 7, 3) := by decide +kernel
theorem dX6_traffic_32 : decode cX6_traffic 32 = .ok (.iconst 2, 1) := by decide +kernel
theorem dX6_traffic_33 : decode cX6_traffic 33 = .ok (.iload_n 1, 1) := by decide +kernel
theorem dX6_traffic_34 : decode cX6_traffic 34 = .ok (.iadd, 1) := by decide +kernel
theorem dX6_traffic_35 : decode cX6_traffic 35 = .ok (.iaload, 1) := by decide +kernel
theorem dX6_traffic_36 : decode cX6_traffic 36 = .ok (.istore_n 3, 1) := by decide +kernel
theorem dX6_traffic_37 : decode cX6_traffic 37 = .ok (.aload_n 0, 1) := by decide +kernel
theorem dX6_traffic_38 : decode cX6_traffic 38 = .ok (.getfield 7, 3) := by decide +kernel
theorem dX6_traffic_41 : decode cX6_traffic 41 = .ok (.iconst 2, 1) := by decide +kernel
theorem dX6_traffic_42 : decode cX6_traffic 42 = .ok (.iload_n 1, 1) := by decide +kernel
theorem dX6_traffic_43 : decode cX6_traffic 43 = .ok (.iadd, 1) := by decide +kernel
theorem dX6_traffic_44 : decode cX6_traffic 44 = .ok (.iload_n 2, 1) := by decide +kernel
theorem dX6_traffic_45 : decode cX6_traffic 45 = .ok (.iastore, 1) := by decide +kernel
theorem dX6_traffic_46 : decode cX6_traffic 46 = .ok (.iload_n 3, 1) := by decide +kernel
theorem dX6_traffic_47 : decode cX6_traffic 47 = .ok (.ireturn, 1) := by decide +kernel
set_option maxRecDepth 20000 in
theorem ggX6_bring_X6_in : GoodIn wsX6_bring wsX6_in := goodIn_r _ [5] (by decide +kernel) (by decide +kernel)
set_option maxRecDepth 20000 in
theorem gX6_bring_X6_in : GoodIn wsX6_bring (va_wsS RX6 29 yX6_in wsX6_in) := goodIn_app (goodIn_of _ (by decide +kernel)) ggX6_bring_X6_in
set_option maxRecDepth 20000 in
theorem ggX6_bring_X6_record : GoodIn wsX6_bring wsX6_record := goodIn_r _ [9, 10, 11, 1, 12, 13, 14, 15, 16, 17, 18, 19, 20, 21, 22, 23] (by decide +kernel) (by decide +kernel)
set_option maxRecDepth 20000 in
theorem gX6_bring_X6_record : GoodIn wsX6_bring (wsV RX6 45 RX6 yX6_record wsX6_record) := goodIn_app (goodIn_of _ (by decide +kernel)) ggX6_bring_X6_record
theorem dX6_bring_0 : decode cX6_bring 0 = .ok (.iload_n 1, 1) := by decide +kernel
theorem dX6_bring_1 : decode cX6_bring 1 = .ok (.iconst 1, 1) := by decide +kernel
theorem dX6_bring_2 : decode cX6_bring 2 = .ok (.bipush 99, 2) := by decide +kernel
theorem dX6_bring_4 : decode cX6_bring 4 = .ok (.invokestatic 29, 3) := by decide +kernel
theorem dX6_bring_7 : decode cX6_bring 7 = .ok (.ifCond .ne 6, 3) := by decide +kernel
theorem dX6_bring_10 : decode cX6_bring 10 = .ok (.bipush (-2), 2) := by decide +kernel
theorem dX6_bring_12 : decode cX6_bring 12 = .ok (.ireturn, 1) := by decide +kernel
theorem dX6_bring_13 : decode cX6_bring 13 = .ok (.aload_n 0, 1) := by decide +kernel
theorem dX6_bring_14 : decode cX6_bring 14 = .ok (.getfield 7, 3) := by decide +kernel
theorem dX6_bring_17 : decode cX6_bring 17 = .ok (.iconst 5, 1) := by decide +kernel
theorem dX6_bring_18 : decode cX6_bring 18 = .ok (.iaload, 1) := by decide +kernel
theorem dX6_bring_19 : decode cX6_bring 19 = .ok (.iload_n 1, 1) := by decide +kernel
theorem dX6_bring_20 : decode cX6_bring 20 = .ok (.iadd, 1) := by decide +kernel
theorem dX6_bring_21 : decode cX6_bring 21 = .ok (.bipush 99, 2) := by decide +kernel
theorem dX6_bring_23 : decode cX6_bring 23 = .ok (.if_icmp .le 6, 3) := by decide +kernel
theorem dX6_bring_26 : decode cX6_bring 26 = .ok (.bipush (-4), 2) := by decide +kernel
theorem dX6_bring_28 : decode cX6_bring 28 = .ok (.ireturn, 1) := by decide +kernel
theorem dX6_bring_29 : decode cX6_bring 29 = .ok (.aload_n 0, 1) := by decide +kernel
theorem dX6_bring_30 : decode cX6_bring 30 = .ok (.invokevirtual 45, 3) := by decide +kernel
theorem dX6_bring_33 : decode cX6_bring 33 = .ok (.aload_n 0, 1) := by decide +kernel
theorem dX6_bring_34 : decode cX6_bring 34 = .ok (.getfield 7, 3) := by decide +kernel
theorem dX6_bring_37 : decode cX6_bring 37 = .ok (.iconst 5, 1) := by decide +kernel
theorem dX6_bring_38 : decode cX6_bring 38 = .ok (.dup2, 1) := by decide +kernel
theorem dX6_bring_39 : decode cX6_bring 39 = .ok (.iaload, 1) := by decide +kernel
theorem dX6_bring_40 : decode cX6_bring 40 = .ok (.iload_n 1, 1) := by decide +kernel
theorem dX6_bring_41 : decode cX6_bring 41 = .ok (.iadd, 1) := by decide +kernel
theorem dX6_bring_42 : decode cX6_bring 42 = .ok (.iastore, 1) := by decide +kernel
theorem dX6_bring_43 : decode cX6_bring 43 = .ok (.aload_n 0, 1) := by decide +kernel
theorem dX6_bring_44 : decode cX6_bring 44 = .ok (.getfield 7, 3) := by decide +kernel
theorem dX6_bring_47 : decode cX6_bring 47 = .ok (.iconst 5, 1) := by decide +kernel
theorem dX6_bring_48 : decode cX6_bring 48 = .ok (.iaload, 1) := by decide +kernel
theorem dX6_bring_49 : decode cX6_bring 49 = .ok (.ireturn, 1) := by decide +kernel
set_option maxRecDepth 20000 in
theorem ggX6_isRead_X6_cellAt : GoodIn wsX6_isRead wsX6_cellAt := goodIn_r _ [5] (by decide +kernel) (by decide +kernel)
set_option maxRecDepth 20000 in
theorem gX6_isRead_X6_cellAt : GoodIn wsX6_isRead (va_wsS RX6 33 yX6_cellAt wsX6_cellAt) := goodIn_app (goodIn_of _ (by decide +kernel)) ggX6_isRead_X6_cellAt
theorem dX6_isRead_0 : decode cX6_isRead 0 = .ok (.iload_n 1, 1) := by decide +kernel
theorem dX6_isRead_1 : decode cX6_isRead 1 = .ok (.iload_n 2, 1) := by decide +kernel
theorem dX6_isRead_2 : decode cX6_isRead 2 = .ok (.invokestatic 33, 3) := by decide +kernel
theorem dX6_isRead_5 : decode cX6_isRead 5 = .ok (.istore_n 3, 1) := by decide +kernel
theorem dX6_isRead_6 : decode cX6_isRead 6 = .ok (.aload_n 0, 1) := by decide +kernel
theorem dX6_isRead_7 : decode cX6_isRead 7 = .ok (.getfield 7, 3) := by decide +kernel
theorem dX6_isRead_10 : decode cX6_isRead 10 = .ok (.iload_n 3, 1) := by decide +kernel
theorem dX6_isRead_11 : decode cX6_isRead 11 = .ok (.iconst 2, 1) := by decide +kernel
theorem dX6_isRead_12 : decode cX6_isRead 12 = .ok (.iadd, 1) := by decide +kernel
theorem dX6_isRead_13 : decode cX6_isRead 13 = .ok (.iaload, 1) := by decide +kernel
theorem dX6_isRead_14 : decode cX6_isRead 14 = .ok (.ifCond .le 24, 3) := by decide +kernel
theorem dX6_isRead_17 : decode cX6_isRead 17 = .ok (.aload_n 0, 1) := by decide +kernel
theorem dX6_isRead_18 : decode cX6_isRead 18 = .ok (.getfield 7, 3) := by decide +kernel
theorem dX6_isRead_21 : decode cX6_isRead 21 = .ok (.iload_n 3, 1) := by decide +kernel
theorem dX6_isRead_22 : decode cX6_isRead 22 = .ok (.iconst 3, 1) := by decide +kernel
theorem dX6_isRead_23 : decode cX6_isRead 23 = .ok (.iadd, 1) := by decide +kernel
theorem dX6_isRead_24 : decode cX6_isRead 24 = .ok (.iaload, 1) := by decide +kernel
theorem dX6_isRead_25 : decode cX6_isRead 25 = .ok (.aload_n 0, 1) := by decide +kernel
theorem dX6_isRead_26 : decode cX6_isRead 26 = .ok (.getfield 7, 3) := by decide +kernel
theorem dX6_isRead_29 : decode cX6_isRead 29 = .ok (.iconst 0, 1) := by decide +kernel
theorem dX6_isRead_30 : decode cX6_isRead 30 = .ok (.iaload, 1) := by decide +kernel
theorem dX6_isRead_31 : decode cX6_isRead 31 = .ok (.if_icmp .lt 7, 3) := by decide +kernel
theorem dX6_isRead_34 : decode cX6_isRead 34 = .ok (.iconst 1, 1) := by decide +kernel
theorem dX6_isRead_35 : decode cX6_isRead 35 = .ok (.goto 4, 3) := by decide +kernel
theorem dX6_isRead_38 : decode cX6_isRead 38 = .ok (.iconst 0, 1) := by decide +kernel
theorem dX6_isRead_39 : decode cX6_isRead 39 = .ok (.ireturn, 1) := by decide +kernel
theorem dX6_loses_0 : decode cX6_loses 0 = .ok (.aload_n 0, 1) := by decide +kernel
theorem dX6_loses_1 : decode cX6_loses 1 = .ok (.getfield 7, 3) := by decide +kernel
theorem dX6_loses_4 : decode cX6_loses 4 = .ok (.iload_n 1, 1) := by decide +kernel
theorem dX6_loses_5 : decode cX6_loses 5 = .ok (.iaload, 1) := by decide +kernel
theorem dX6_loses_6 : decode cX6_loses 6 = .ok (.ifCond .ne 5, 3) := by decide +kernel
theorem dX6_loses_9 : decode cX6_loses 9 = .ok (.iconst 0, 1) := by decide +kernel
theorem dX6_loses_10 : decode cX6_loses 10 = .ok (.ireturn, 1) := by decide +kernel
theorem dX6_loses_11 : decode cX6_loses 11 = .ok (.aload_n 0, 1) := by decide +kernel
theorem dX6_loses_12 : decode cX6_loses 12 = .ok (.getfield 7, 3) := by decide +kernel
theorem dX6_loses_15 : decode cX6_loses 15 = .ok (.iload_n 1, 1) := by decide +kernel
theorem dX6_loses_16 : decode cX6_loses 16 = .ok (.iconst 1, 1) := by decide +kernel
theorem dX6_loses_17 : decode cX6_loses 17 = .ok (.iadd, 1) := by decide +kernel
theorem dX6_loses_18 : decode cX6_loses 18 = .ok (.aload_n 0, 1) := by decide +kernel
theorem dX6_loses_19 : decode cX6_loses 19 = .ok (.getfield 7, 3) := by decide +kernel
theorem dX6_loses_22 : decode cX6_loses 22 = .ok (.iload_n 1, 1) := by decide +kernel
theorem dX6_loses_23 : decode cX6_loses 23 = .ok (.iconst 1, 1) := by decide +kernel
theorem dX6_loses_24 : decode cX6_loses 24 = .ok (.iadd, 1) := by decide +kernel
theorem dX6_loses_25 : decode cX6_loses 25 = .ok (.iaload, 1) := by decide +kernel
theorem dX6_loses_26 : decode cX6_loses 26 = .ok (.iload_n 2, 1) := by decide +kernel
theorem dX6_loses_27 : decode cX6_loses 27 = .ok (.if_icmp .le 16, 3) := by decide +kernel
theorem dX6_loses_30 : decode cX6_loses 30 = .ok (.aload_n 0, 1) := by decide +kernel
theorem dX6_loses_31 : decode cX6_loses 31 = .ok (.getfield 7, 3) := by decide +kernel
theorem dX6_loses_34 : decode cX6_loses 34 = .ok (.iload_n 1, 1) := by decide +kernel
theorem dX6_loses_35 : decode cX6_loses 35 = .ok (.iconst 1, 1) := by decide +kernel
theorem dX6_loses_36 : decode cX6_loses 36 = .ok (.iadd, 1) := by decide +kernel
theorem dX6_loses_37 : decode cX6_loses 37 = .ok (.iaload, 1) := by decide +kernel
theorem dX6_loses_38 : decode cX6_loses 38 = .ok (.iload_n 2, 1) := by decide +kernel
theorem dX6_loses_39 : decode cX6_loses 39 = .ok (.isub, 1) := by decide +kernel
theorem dX6_loses_40 : decode cX6_loses 40 = .ok (.goto 4, 3) := by decide +kernel
theorem dX6_loses_43 : decode cX6_loses 43 = .ok (.iconst 0, 1) := by decide +kernel
theorem dX6_loses_44 : decode cX6_loses 44 = .ok (.iastore, 1) := by decide +kernel
theorem dX6_loses_45 : decode cX6_loses 45 = .ok (.aload_n 0, 1) := by decide +kernel
theorem dX6_loses_46 : decode cX6_loses 46 = .ok (.getfield 7, 3) := by decide +kernel
theorem dX6_loses_49 : decode cX6_loses 49 = .ok (.iload_n 1, 1) := by decide +kernel
theorem dX6_loses_50 : decode cX6_loses 50 = .ok (.iconst 1, 1) := by decide +kernel
theorem dX6_loses_51 : decode cX6_loses 51 = .ok (.iadd, 1) := by decide +kernel
theorem dX6_loses_52 : decode cX6_loses 52 = .ok (.iaload, 1) := by decide +kernel
theorem dX6_loses_53 : decode cX6_loses 53 = .ok (.ifCond .ne 12, 3) := by decide +kernel
theorem dX6_loses_56 : decode cX6_loses 56 = .ok (.aload_n 0, 1) := by decide +kernel
theorem dX6_loses_57 : decode cX6_loses 57 = .ok (.getfield 7, 3) := by decide +kernel
theorem dX6_loses_60 : decode cX6_loses 60 = .ok (.iload_n 1, 1) := by decide +kernel
theorem dX6_loses_61 : decode cX6_loses 61 = .ok (.iconst 0, 1) := by decide +kernel
theorem dX6_loses_62 : decode cX6_loses 62 = .ok (.iastore, 1) := by decide +kernel
theorem dX6_loses_63 : decode cX6_loses 63 = .ok (.iconst 1, 1) := by decide +kernel
theorem dX6_loses_64 : decode cX6_loses 64 = .ok (.ireturn, 1) := by decide +kernel
theorem dX6_loses_65 : decode cX6_loses 65 = .ok (.iconst 0, 1) := by decide +kernel
theorem dX6_loses_66 : decode cX6_loses 66 = .ok (.ireturn, 1) := by decide +kernel
set_option maxRecDepth 20000 in
theorem ggX6_lossOf_X6_cellAt : GoodIn wsX6_lossOf wsX6_cellAt := goodIn_r _ [5] (by decide +kernel) (by decide +kernel)
set_option maxRecDepth 20000 in
theorem gX6_lossOf_X6_cellAt : GoodIn wsX6_lossOf (va_wsS RX6 33 yX6_cellAt wsX6_cellAt) := goodIn_app (goodIn_of _ (by decide +kernel)) ggX6_lossOf_X6_cellAt
set_option maxRecDepth 20000 in
theorem ggX6_lossOf_X6_isRead : GoodIn wsX6_lossOf wsX6_isRead := goodIn_r _ [9, 1, 2, 3, 4, 5, 10, 11, 12, 13, 14, 15, 16, 17, 18, 19, 20, 21] (by decide +kernel) (by decide +kernel)
set_option maxRecDepth 20000 in
theorem gX6_lossOf_X6_isRead : GoodIn wsX6_lossOf (wsV RX6 87 RX6 yX6_isRead wsX6_isRead) := goodIn_app (goodIn_of _ (by decide +kernel)) ggX6_lossOf_X6_isRead
theorem dX6_lossOf_0 : decode cX6_lossOf 0 = .ok (.aload_n 0, 1) := by decide +kernel
theorem dX6_lossOf_1 : decode cX6_lossOf 1 = .ok (.getfield 7, 3) := by decide +kernel
theorem dX6_lossOf_4 : decode cX6_lossOf 4 = .ok (.iload_n 1, 1) := by decide +kernel
theorem dX6_lossOf_5 : decode cX6_lossOf 5 = .ok (.iload_n 2, 1) := by decide +kernel
theorem dX6_lossOf_6 : decode cX6_lossOf 6 = .ok (.invokestatic 33, 3) := by decide +kernel
theorem dX6_lossOf_9 : decode cX6_lossOf 9 = .ok (.iconst 2, 1) := by decide +kernel
theorem dX6_lossOf_10 : decode cX6_lossOf 10 = .ok (.iadd, 1) := by decide +kernel
theorem dX6_lossOf_11 : decode cX6_lossOf 11 = .ok (.iaload, 1) := by decide +kernel
theorem dX6_lossOf_12 : decode cX6_lossOf 12 = .ok (.istore_n 3, 1) := by decide +kernel
theorem dX6_lossOf_13 : decode cX6_lossOf 13 = .ok (.iload_n 3, 1) := by decide +kernel
theorem dX6_lossOf_14 : decode cX6_lossOf 14 = .ok (.iconst 1, 1) := by decide +kernel
theorem dX6_lossOf_15 : decode cX6_lossOf 15 = .ok (.if_icmp .eq 8, 3) := by decide +kernel
theorem dX6_lossOf_18 : decode cX6_lossOf 18 = .ok (.iload_n 3, 1) := by decide +kernel
theorem dX6_lossOf_19 : decode cX6_lossOf 19 = .ok (.iconst 2, 1) := by decide +kernel
theorem dX6_lossOf_20 : decode cX6_lossOf 20 = .ok (.if_icmp .ne 16, 3) := by decide +kernel
theorem dX6_lossOf_23 : decode cX6_lossOf 23 = .ok (.aload_n 0, 1) := by decide +kernel
theorem dX6_lossOf_24 : decode cX6_lossOf 24 = .ok (.iload_n 1, 1) := by decide +kernel
theorem dX6_lossOf_25 : decode cX6_lossOf 25 = .ok (.iload_n 2, 1) := by decide +kernel
theorem dX6_lossOf_26 : decode cX6_lossOf 26 = .ok (.invokevirtual 87, 3) := by decide +kernel
theorem dX6_lossOf_29 : decode cX6_lossOf 29 = .ok (.ifCond .eq 7, 3) := by decide +kernel
theorem dX6_lossOf_32 : decode cX6_lossOf 32 = .ok (.iconst 1, 1) := by decide +kernel
theorem dX6_lossOf_33 : decode cX6_lossOf 33 = .ok (.goto 4, 3) := by decide +kernel
theorem dX6_lossOf_36 : decode cX6_lossOf 36 = .ok (.iconst 0, 1) := by decide +kernel
theorem dX6_lossOf_37 : decode cX6_lossOf 37 = .ok (.istore 4, 2) := by decide +kernel
theorem dX6_lossOf_39 : decode cX6_lossOf 39 = .ok (.iload 4, 2) := by decide +kernel
theorem dX6_lossOf_41 : decode cX6_lossOf 41 = .ok (.ifCond .eq 16, 3) := by decide +kernel
theorem dX6_lossOf_44 : decode cX6_lossOf 44 = .ok (.aload_n 0, 1) := by decide +kernel
theorem dX6_lossOf_45 : decode cX6_lossOf 45 = .ok (.getfield 7, 3) := by decide +kernel
theorem dX6_lossOf_48 : decode cX6_lossOf 48 = .ok (.iconst 2, 1) := by decide +kernel
theorem dX6_lossOf_49 : decode cX6_lossOf 49 = .ok (.iload_n 1, 1) := by decide +kernel
theorem dX6_lossOf_50 : decode cX6_lossOf 50 = .ok (.iadd, 1) := by decide +kernel
theorem dX6_lossOf_51 : decode cX6_lossOf 51 = .ok (.iaload, 1) := by decide +kernel
theorem dX6_lossOf_52 : decode cX6_lossOf 52 = .ok (.iconst 2, 1) := by decide +kernel
theorem dX6_lossOf_53 : decode cX6_lossOf 53 = .ok (.idiv, 1) := by decide +kernel
theorem dX6_lossOf_54 : decode cX6_lossOf 54 = .ok (.goto 11, 3) := by decide +kernel
theorem dX6_lossOf_57 : decode cX6_lossOf 57 = .ok (.aload_n 0, 1) := by decide +kernel
theorem dX6_lossOf_58 : decode cX6_lossOf 58 = .ok (.getfield 7, 3) := by decide +kernel
theorem dX6_lossOf_61 : decode cX6_lossOf 61 = .ok (.iconst 2, 1) := by decide +kernel
theorem dX6_lossOf_62 : decode cX6_lossOf 62 = .ok (.iload_n 1, 1) := by decide +kernel
theorem dX6_lossOf_63 : decode cX6_lossOf 63 = .ok (.iadd, 1) := by decide +kernel
theorem dX6_lossOf_64 : decode cX6_lossOf 64 = .ok (.iaload, 1) := by decide +kernel
theorem dX6_lossOf_65 : decode cX6_lossOf 65 = .ok (.ireturn, 1) := by decide +kernel
set_option maxRecDepth 20000 in
theorem ggX6_day_X6_lossOf : GoodIn wsX6_day wsX6_lossOf := goodIn_r _ [6, 1, 7, 8, 5, 9, 10, 11, 12, 13, 21, 22, 23, 24, 25, 26, 27, 28, 29, 30, 31, 32] (by decide +kernel) (by decide +kernel)
set_option maxRecDepth 20000 in
theorem gX6_day_X6_lossOf : GoodIn wsX6_day (wsV RX6 90 RX6 yX6_lossOf wsX6_lossOf) := goodIn_app (goodIn_of _ (by decide +kernel)) ggX6_day_X6_lossOf
set_option maxRecDepth 20000 in
theorem ggX6_day_X6_cellAt : GoodIn wsX6_day wsX6_cellAt := goodIn_r _ [9] (by decide +kernel) (by decide +kernel)
set_option maxRecDepth 20000 in
theorem gX6_day_X6_cellAt : GoodIn wsX6_day (va_wsS RX6 33 yX6_cellAt wsX6_cellAt) := goodIn_app (goodIn_of _ (by decide +kernel)) ggX6_day_X6_cellAt
set_option maxRecDepth 20000 in
theorem ggX6_day_X6_loses : GoodIn wsX6_day wsX6_loses := goodIn_r _ [17, 1, 21, 22, 23, 24, 25, 26, 27, 28, 29, 30, 31, 32] (by decide +kernel) (by decide +kernel)
set_option maxRecDepth 20000 in
theorem gX6_day_X6_loses : GoodIn wsX6_day (wsV RX6 93 RX6 yX6_loses wsX6_loses) := goodIn_app (goodIn_of _ (by decide +kernel)) ggX6_day_X6_loses
set_option maxRecDepth 20000 in
theorem ggX6_day_X6_lineAt : GoodIn wsX6_day wsX6_lineAt := goodIn_r _ [20] (by decide +kernel) (by decide +kernel)
set_option maxRecDepth 20000 in
theorem gX6_day_X6_lineAt : GoodIn wsX6_day (va_wsS RX6 59 yX6_lineAt wsX6_lineAt) := goodIn_app (goodIn_of _ (by decide +kernel)) ggX6_day_X6_lineAt
theorem dX6_day_0 : decode cX6_day 0 = .ok (.iconst 0, 1) := by decide +kernel
theorem dX6_day_1 : decode cX6_day 1 = .ok (.istore_n 1, 1) := by decide +kernel
theorem dX6_day_2 : decode cX6_day 2 = .ok (.iconst 0, 1) := by decide +kernel
theorem dX6_day_3 : decode cX6_day 3 = .ok (.istore_n 2, 1) := by decide +kernel
theorem dX6_day_4 : decode cX6_day 4 = .ok (.iload_n 2, 1) := by decide +kernel
theorem dX6_day_5 : decode cX6_day 5 = .ok (.bipush 16, 2) := by decide +kernel
theorem dX6_day_7 : decode cX6_day 7 = .ok (.if_icmp .ge 104, 3) := by decide +kernel
theorem dX6_day_10 : decode cX6_day 10 = .ok (.iconst 0, 1) := by decide +kernel
theorem dX6_day_11 : decode cX6_day 11 = .ok (.istore_n 3, 1) := by decide +kernel
theorem dX6_day_12 : decode cX6_day 12 = .ok (.iload_n 3, 1) := by decide +kernel
theorem dX6_day_13 : decode cX6_day 13 = .ok (.iconst 3, 1) := by decide +kernel
theorem dX6_day_14 : decode cX6_day 14 = .ok (.if_icmp .ge 45, 3) := by decide +kernel
theorem dX6_day_17 : decode cX6_day 17 = .ok (.aload_n 0, 1) := by decide +kernel
theorem dX6_day_18 : decode cX6_day 18 = .ok (.iload_n 3, 1) := by decide +kernel
theorem dX6_day_19 : decode cX6_day 19 = .ok (.iload_n 2, 1) := by decide +kernel
theorem dX6_day_20 : decode cX6_day 20 = .ok (.invokevirtual 90, 3) := by decide +kernel
theorem dX6_day_23 : decode cX6_day 23 = .ok (.istore 4, 2) := by decide +kernel
theorem dX6_day_25 : decode cX6_day 25 = .ok (.iload_n 1, 1) := by decide +kernel
theorem dX6_day_26 : decode cX6_day 26 = .ok (.aload_n 0, 1) := by decide +kernel
theorem dX6_day_27 : decode cX6_day 27 = .ok (.iload_n 3, 1) := by decide +kernel
theorem dX6_day_28 : decode cX6_day 28 = .ok (.iload_n 2, 1) := by decide +kernel
theorem dX6_day_29 : decode cX6_day 29 = .ok (.invokestatic 33, 3) := by decide +kernel
theorem dX6_day_32 : decode cX6_day 32 = .ok (.iload 4, 2) := by decide +kernel
theorem dX6_day_34 : decode cX6_day 34 = .ok (.invokevirtual 93, 3) := by decide +kernel
theorem dX6_day_37 : decode cX6_day 37 = .ok (.aload_n 0, 1) := by decide +kernel
theorem dX6_day_38 : decode cX6_day 38 = .ok (.iload_n 3, 1) := by decide +kernel
theorem dX6_day_39 : decode cX6_day 39 = .ok (.iload_n 2, 1) := by decide +kernel
theorem dX6_day_40 : decode cX6_day 40 = .ok (.invokestatic 33, 3) := by decide +kernel
theorem dX6_day_43 : decode cX6_day 43 = .ok (.iconst 2, 1) := by decide +kernel
theorem dX6_day_44 : decode cX6_day 44 = .ok (.iadd, 1) := by decide +kernel
theorem dX6_day_45 : decode cX6_day 45 = .ok (.iload 4, 2) := by decide +kernel
theorem dX6_day_47 : decode cX6_day 47 = .ok (.invokevirtual 93, 3) := by decide +kernel
theorem dX6_day_50 : decode cX6_day 50 = .ok (.iadd, 1) := by decide +kernel
theorem dX6_day_51 : decode cX6_day 51 = .ok (.iadd, 1) := by decide +kernel
theorem dX6_day_52 : decode cX6_day 52 = .ok (.istore_n 1, 1) := by decide +kernel
theorem dX6_day_53 : decode cX6_day 53 = .ok (.iinc 3 1, 3) := by decide +kernel
theorem dX6_day_56 : decode cX6_day 56 = .ok (.goto (-44), 3) := by decide +kernel
theorem dX6_day_59 : decode cX6_day 59 = .ok (.iconst 0, 1) := by decide +kernel
theorem dX6_day_60 : decode cX6_day 60 = .ok (.istore_n 3, 1) := by decide +kernel
theorem dX6_day_61 : decode cX6_day 61 = .ok (.iload_n 3, 1) := by decide +kernel
theorem dX6_day_62 : decode cX6_day 62 = .ok (.iconst 2, 1) := by decide +kernel
theorem dX6_day_63 : decode cX6_day 63 = .ok (.if_icmp .ge 42, 3) := by decide +kernel
theorem dX6_day_66 : decode cX6_day 66 = .ok (.iload_n 1, 1) := by decide +kernel
theorem dX6_day_67 : decode cX6_day 67 = .ok (.aload_n 0, 1) := by decide +kernel
theorem dX6_day_68 : decode cX6_day 68 = .ok (.iload_n 3, 1) := by decide +kernel
theorem dX6_day_69 : decode cX6_day 69 = .ok (.iload_n 2, 1) := by decide +kernel
theorem dX6_day_70 : decode cX6_day 70 = .ok (.invokestatic 59, 3) := by decide +kernel
theorem dX6_day_73 : decode cX6_day 73 = .ok (.aload_n 0, 1) := by decide +kernel
theorem dX6_day_74 : decode cX6_day 74 = .ok (.getfield 7, 3) := by decide +kernel
theorem dX6_day_77 : decode cX6_day 77 = .ok (.iconst 2, 1) := by decide +kernel
theorem dX6_day_78 : decode cX6_day 78 = .ok (.iload_n 3, 1) := by decide +kernel
theorem dX6_day_79 : decode cX6_day 79 = .ok (.iadd, 1) := by decide +kernel
theorem dX6_day_80 : decode cX6_day 80 = .ok (.iaload, 1) := by decide +kernel
theorem dX6_day_81 : decode cX6_day 81 = .ok (.aload_n 0, 1) := by decide +kernel
theorem dX6_day_82 : decode cX6_day 82 = .ok (.getfield 7, 3) := by decide +kernel
theorem dX6_day_85 : decode cX6_day 85 = .ok (.iconst 2, 1) := by decide +kernel
theorem dX6_day_86 : decode cX6_day 86 = .ok (.iload_n 3, 1) := by decide +kernel
theorem dX6_day_87 : decode cX6_day 87 = .ok (.iadd, 1) := by decide +kernel
theorem dX6_day_88 : decode cX6_day 88 = .ok (.iconst 1, 1) := by decide +kernel
theorem dX6_day_89 : decode cX6_day 89 = .ok (.iadd, 1) := by decide +kernel
theorem dX6_day_90 : decode cX6_day 90 = .ok (.iaload, 1) := by decide +kernel
theorem dX6_day_91 : decode cX6_day 91 = .ok (.iadd, 1) := by decide +kernel
theorem dX6_day_92 : decode cX6_day 92 = .ok (.iconst 2, 1) := by decide +kernel
theorem dX6_day_93 : decode cX6_day 93 = .ok (.idiv, 1) := by decide +kernel
theorem dX6_day_94 : decode cX6_day 94 = .ok (.invokevirtual 93, 3) := by decide +kernel
theorem dX6_day_97 : decode cX6_day 97 = .ok (.iadd, 1) := by decide +kernel
theorem dX6_day_98 : decode cX6_day 98 = .ok (.istore_n 1, 1) := by decide +kernel
theorem dX6_day_99 : decode cX6_day 99 = .ok (.iinc 3 1, 3) := by decide +kernel
theorem dX6_day_102 : decode cX6_day 102 = .ok (.goto (-41), 3) := by decide +kernel
theorem dX6_day_105 : decode cX6_day 105 = .ok (.iinc 2 1, 3) := by decide +kernel
theorem dX6_day_108 : decode cX6_day 108 = .ok (.goto (-104), 3) := by decide +kernel
theorem dX6_day_111 : decode cX6_day 111 = .ok (.aload_n 0, 1) := by decide +kernel
theorem dX6_day_112 : decode cX6_day 112 = .ok (.getfield 7, 3) := by decide +kernel
theorem dX6_day_115 : decode cX6_day 115 = .ok (.bipush 6, 2) := by decide +kernel
theorem dX6_day_117 : decode cX6_day 117 = .ok (.dup2, 1) := by decide +kernel
theorem dX6_day_118 : decode cX6_day 118 = .ok (.iaload, 1) := by decide +kernel
theorem dX6_day_119 : decode cX6_day 119 = .ok (.iconst 1, 1) := by decide +kernel
theorem dX6_day_120 : decode cX6_day 120 = .ok (.iadd, 1) := by decide +kernel
theorem dX6_day_121 : decode cX6_day 121 = .ok (.iastore, 1) := by decide +kernel
theorem dX6_day_122 : decode cX6_day 122 = .ok (.aload_n 0, 1) := by decide +kernel
theorem dX6_day_123 : decode cX6_day 123 = .ok (.getfield 7, 3) := by decide +kernel
theorem dX6_day_126 : decode cX6_day 126 = .ok (.bipush 9, 2) := by decide +kernel
theorem dX6_day_128 : decode cX6_day 128 = .ok (.dup2, 1) := by decide +kernel
theorem dX6_day_129 : decode cX6_day 129 = .ok (.iaload, 1) := by decide +kernel
theorem dX6_day_130 : decode cX6_day 130 = .ok (.iload_n 1, 1) := by decide +kernel
theorem dX6_day_131 : decode cX6_day 131 = .ok (.iadd, 1) := by decide +kernel
theorem dX6_day_132 : decode cX6_day 132 = .ok (.iastore, 1) := by decide +kernel
theorem dX6_day_133 : decode cX6_day 133 = .ok (.iload_n 1, 1) := by decide +kernel
theorem dX6_day_134 : decode cX6_day 134 = .ok (.ireturn, 1) := by decide +kernel
set_option maxRecDepth 20000 in
theorem ggX6_pass_X6_in : GoodIn wsX6_pass wsX6_in := goodIn_r _ [4] (by decide +kernel) (by decide +kernel)
set_option maxRecDepth 20000 in
theorem gX6_pass_X6_in : GoodIn wsX6_pass (va_wsS RX6 29 yX6_in wsX6_in) := goodIn_app (goodIn_of _ (by decide +kernel)) ggX6_pass_X6_in
set_option maxRecDepth 20000 in
theorem ggX6_pass_X6_record : GoodIn wsX6_pass wsX6_record := goodIn_r _ [8, 9, 10, 11, 34, 35, 36, 37, 38, 39, 40, 41, 42, 43, 44, 45] (by decide +kernel) (by decide +kernel)
set_option maxRecDepth 20000 in
theorem gX6_pass_X6_record : GoodIn wsX6_pass (wsV RX6 45 RX6 yX6_record wsX6_record) := goodIn_app (goodIn_of _ (by decide +kernel)) ggX6_pass_X6_record
set_option maxRecDepth 20000 in
theorem ggX6_pass_X6_day : GoodIn wsX6_pass wsX6_day := goodIn_r _ [15, 11, 16, 17, 18, 3, 19, 20, 21, 22, 23, 24, 25, 26, 27, 28, 29, 30, 31, 32, 33, 34, 35, 36, 37, 38, 39, 40, 41, 42, 43, 44, 45] (by decide +kernel) (by decide +kernel)
set_option maxRecDepth 20000 in
theorem gX6_pass_X6_day : GoodIn wsX6_pass (wsV RX6 96 RX6 yX6_day wsX6_day) := goodIn_app (goodIn_of _ (by decide +kernel)) ggX6_pass_X6_day
theorem dX6_pass_0 : decode cX6_pass 0 = .ok (.iload_n 1, 1) := by decide +kernel
theorem dX6_pass_1 : decode cX6_pass 1 = .ok (.iconst 1, 1) := by decide +kernel
theorem dX6_pass_2 : decode cX6_pass 2 = .ok (.bipush 30, 2) := by decide +kernel
theorem dX6_pass_4 : decode cX6_pass 4 = .ok (.invokestatic 29, 3) := by decide +kernel
theorem dX6_pass_7 : decode cX6_pass 7 = .ok (.ifCond .ne 6, 3) := by decide +kernel
theorem dX6_pass_10 : decode cX6_pass 10 = .ok (.bipush (-2), 2) := by decide +kernel
theorem dX6_pass_12 : decode cX6_pass 12 = .ok (.ireturn, 1) := by decide +kernel
theorem dX6_pass_13 : decode cX6_pass 13 = .ok (.aload_n 0, 1) := by decide +kernel
theorem dX6_pass_14 : decode cX6_pass 14 = .ok (.invokevirtual 45, 3) := by decide +kernel
theorem dX6_pass_17 : decode cX6_pass 17 = .ok (.iconst 0, 1) := by decide +kernel
theorem dX6_pass_18 : decode cX6_pass 18 = .ok (.istore_n 2, 1) := by decide +kernel
theorem dX6_pass_19 : decode cX6_pass 19 = .ok (.iconst 0, 1) := by decide +kernel
theorem dX6_pass_20 : decode cX6_pass 20 = .ok (.istore_n 3, 1) := by decide +kernel
theorem dX6_pass_21 : decode cX6_pass 21 = .ok (.iload_n 3, 1) := by decide +kernel
theorem dX6_pass_22 : decode cX6_pass 22 = .ok (.iload_n 1, 1) := by decide +kernel
theorem dX6_pass_23 : decode cX6_pass 23 = .ok (.if_icmp .ge 16, 3) := by decide +kernel
theorem dX6_pass_26 : decode cX6_pass 26 = .ok (.iload_n 2, 1) := by decide +kernel
theorem dX6_pass_27 : decode cX6_pass 27 = .ok (.aload_n 0, 1) := by decide +kernel
theorem dX6_pass_28 : decode cX6_pass 28 = .ok (.invokevirtual 96, 3) := by decide +kernel
theorem dX6_pass_31 : decode cX6_pass 31 = .ok (.iadd, 1) := by decide +kernel
theorem dX6_pass_32 : decode cX6_pass 32 = .ok (.istore_n 2, 1) := by decide +kernel
theorem dX6_pass_33 : decode cX6_pass 33 = .ok (.iinc 3 1, 3) := by decide +kernel
theorem dX6_pass_36 : decode cX6_pass 36 = .ok (.goto (-15), 3) := by decide +kernel
theorem dX6_pass_39 : decode cX6_pass 39 = .ok (.iload_n 2, 1) := by decide +kernel
theorem dX6_pass_40 : decode cX6_pass 40 = .ok (.ireturn, 1) := by decide +kernel
theorem dX6_isWeak_0 : decode cX6_isWeak 0 = .ok (.aload_n 0, 1) := by decide +kernel
theorem dX6_isWeak_1 : decode cX6_isWeak 1 = .ok (.getfield 7, 3) := by decide +kernel
theorem dX6_isWeak_4 : decode cX6_isWeak 4 = .ok (.iload_n 1, 1) := by decide +kernel
theorem dX6_isWeak_5 : decode cX6_isWeak 5 = .ok (.iaload, 1) := by decide +kernel
theorem dX6_isWeak_6 : decode cX6_isWeak 6 = .ok (.ifCond .le 20, 3) := by decide +kernel
theorem dX6_isWeak_9 : decode cX6_isWeak 9 = .ok (.aload_n 0, 1) := by decide +kernel
theorem dX6_isWeak_10 : decode cX6_isWeak 10 = .ok (.getfield 7, 3) := by decide +kernel
theorem dX6_isWeak_13 : decode cX6_isWeak 13 = .ok (.iload_n 1, 1) := by decide +kernel
theorem dX6_isWeak_14 : decode cX6_isWeak 14 = .ok (.iconst 1, 1) := by decide +kernel
theorem dX6_isWeak_15 : decode cX6_isWeak 15 = .ok (.iadd, 1) := by decide +kernel
theorem dX6_isWeak_16 : decode cX6_isWeak 16 = .ok (.iaload, 1) := by decide +kernel
theorem dX6_isWeak_17 : decode cX6_isWeak 17 = .ok (.bipush 60, 2) := by decide +kernel
theorem dX6_isWeak_19 : decode cX6_isWeak 19 = .ok (.if_icmp .ge 7, 3) := by decide +kernel
theorem dX6_isWeak_22 : decode cX6_isWeak 22 = .ok (.iconst 1, 1) := by decide +kernel
theorem dX6_isWeak_23 : decode cX6_isWeak 23 = .ok (.goto 4, 3) := by decide +kernel
theorem dX6_isWeak_26 : decode cX6_isWeak 26 = .ok (.iconst 0, 1) := by decide +kernel
theorem dX6_isWeak_27 : decode cX6_isWeak 27 = .ok (.ireturn, 1) := by decide +kernel
set_option maxRecDepth 20000 in
theorem ggX6_signAt_X6_cellAt : GoodIn wsX6_signAt wsX6_cellAt := goodIn_r _ [4] (by decide +kernel) (by decide +kernel)
set_option maxRecDepth 20000 in
theorem gX6_signAt_X6_cellAt : GoodIn wsX6_signAt (va_wsS RX6 33 yX6_cellAt wsX6_cellAt) := goodIn_app (goodIn_of _ (by decide +kernel)) ggX6_signAt_X6_cellAt
set_option maxRecDepth 20000 in
theorem ggX6_signAt_X6_lineAt : GoodIn wsX6_signAt wsX6_lineAt := goodIn_r _ [7] (by decide +kernel) (by decide +kernel)
set_option maxRecDepth 20000 in
theorem gX6_signAt_X6_lineAt : GoodIn wsX6_signAt (va_wsS RX6 59 yX6_lineAt wsX6_lineAt) := goodIn_app (goodIn_of _ (by decide +kernel)) ggX6_signAt_X6_lineAt
theorem dX6_signAt_0 : decode cX6_signAt 0 = .ok (.iload_n 1, 1) := by decide +kernel
theorem dX6_signAt_1 : decode cX6_signAt 1 = .ok (.iconst 3, 1) := by decide +kernel
theorem dX6_signAt_2 : decode cX6_signAt 2 = .ok (.if_icmp .ge 13, 3) := by decide +kernel
theorem dX6_signAt_5 : decode cX6_signAt 5 = .ok (.iload_n 1, 1) := by decide +kernel
theorem dX6_signAt_6 : decode cX6_signAt 6 = .ok (.iload_n 0, 1) := by decide +kernel
theorem dX6_signAt_7 : decode cX6_signAt 7 = .ok (.invokestatic 33, 3) := by decide +kernel
theorem dX6_signAt_10 : decode cX6_signAt 10 = .ok (.iconst 2, 1) := by decide +kernel
theorem dX6_signAt_11 : decode cX6_signAt 11 = .ok (.iadd, 1) := by decide +kernel
theorem dX6_signAt_12 : decode cX6_signAt 12 = .ok (.goto 27, 3) := by decide +kernel
theorem dX6_signAt_15 : decode cX6_signAt 15 = .ok (.iload_n 1, 1) := by decide +kernel
theorem dX6_signAt_16 : decode cX6_signAt 16 = .ok (.bipush 6, 2) := by decide +kernel
theorem dX6_signAt_18 : decode cX6_signAt 18 = .ok (.if_icmp .ge 13, 3) := by decide +kernel
theorem dX6_signAt_21 : decode cX6_signAt 21 = .ok (.iload_n 1, 1) := by decide +kernel
theorem dX6_signAt_22 : decode cX6_signAt 22 = .ok (.iconst 3, 1) := by decide +kernel
theorem dX6_signAt_23 : decode cX6_signAt 23 = .ok (.isub, 1) := by decide +kernel
theorem dX6_signAt_24 : decode cX6_signAt 24 = .ok (.iload_n 0, 1) := by decide +kernel
theorem dX6_signAt_25 : decode cX6_signAt 25 = .ok (.invokestatic 33, 3) := by decide +kernel
theorem dX6_signAt_28 : decode cX6_signAt 28 = .ok (.goto 11, 3) := by decide +kernel
theorem dX6_signAt_31 : decode cX6_signAt 31 = .ok (.iload_n 1, 1) := by decide +kernel
theorem dX6_signAt_32 : decode cX6_signAt 32 = .ok (.bipush 6, 2) := by decide +kernel
theorem dX6_signAt_34 : decode cX6_signAt 34 = .ok (.isub, 1) := by decide +kernel
theorem dX6_signAt_35 : decode cX6_signAt 35 = .ok (.iload_n 0, 1) := by decide +kernel
theorem dX6_signAt_36 : decode cX6_signAt 36 = .ok (.invokestatic 59, 3) := by decide +kernel
theorem dX6_signAt_39 : decode cX6_signAt 39 = .ok (.ireturn, 1) := by decide +kernel
set_option maxRecDepth 20000 in
theorem ggX6_whyNotNight_X6_in : GoodIn wsX6_whyNotNight wsX6_in := goodIn_r _ [5] (by decide +kernel) (by decide +kernel)
set_option maxRecDepth 20000 in
theorem gX6_whyNotNight_X6_in : GoodIn wsX6_whyNotNight (va_wsS RX6 29 yX6_in wsX6_in) := goodIn_app (goodIn_of _ (by decide +kernel)) ggX6_whyNotNight_X6_in
theorem dX6_whyNotNight_0 : decode cX6_whyNotNight 0 = .ok (.iload_n 1, 1) := by decide +kernel
theorem dX6_whyNotNight_1 : decode cX6_whyNotNight 1 = .ok (.iconst 0, 1) := by decide +kernel
theorem dX6_whyNotNight_2 : decode cX6_whyNotNight 2 = .ok (.bipush 15, 2) := by decide +kernel
theorem dX6_whyNotNight_4 : decode cX6_whyNotNight 4 = .ok (.invokestatic 29, 3) := by decide +kernel
theorem dX6_whyNotNight_7 : decode cX6_whyNotNight 7 = .ok (.ifCond .eq 13, 3) := by decide +kernel
theorem dX6_whyNotNight_10 : decode cX6_whyNotNight 10 = .ok (.iload_n 2, 1) := by decide +kernel
theorem dX6_whyNotNight_11 : decode cX6_whyNotNight 11 = .ok (.iconst 0, 1) := by decide +kernel
theorem dX6_whyNotNight_12 : decode cX6_whyNotNight 12 = .ok (.bipush 15, 2) := by decide +kernel
theorem dX6_whyNotNight_14 : decode cX6_whyNotNight 14 = .ok (.invokestatic 29, 3) := by decide +kernel
theorem dX6_whyNotNight_17 : decode cX6_whyNotNight 17 = .ok (.ifCond .ne 7, 3) := by decide +kernel
theorem dX6_whyNotNight_20 : decode cX6_whyNotNight 20 = .ok (.iconst (-1), 1) := by decide +kernel
theorem dX6_whyNotNight_21 : decode cX6_whyNotNight 21 = .ok (.goto 18, 3) := by decide +kernel
theorem dX6_whyNotNight_24 : decode cX6_whyNotNight 24 = .ok (.aload_n 0, 1) := by decide +kernel
theorem dX6_whyNotNight_25 : decode cX6_whyNotNight 25 = .ok (.getfield 7, 3) := by decide +kernel
theorem dX6_whyNotNight_28 : decode cX6_whyNotNight 28 = .ok (.iconst 5, 1) := by decide +kernel
theorem dX6_whyNotNight_29 : decode cX6_whyNotNight 29 = .ok (.iaload, 1) := by decide +kernel
theorem dX6_whyNotNight_30 : decode cX6_whyNotNight 30 = .ok (.ifCond .ne 8, 3) := by decide +kernel
theorem dX6_whyNotNight_33 : decode cX6_whyNotNight 33 = .ok (.bipush (-3), 2) := by decide +kernel
theorem dX6_whyNotNight_35 : decode cX6_whyNotNight 35 = .ok (.goto 4, 3) := by decide +kernel
theorem dX6_whyNotNight_38 : decode cX6_whyNotNight 38 = .ok (.iconst 0, 1) := by decide +kernel
theorem dX6_whyNotNight_39 : decode cX6_whyNotNight 39 = .ok (.ireturn, 1) := by decide +kernel
set_option maxRecDepth 20000 in
theorem ggX6_works_X6_signAt : GoodIn wsX6_works wsX6_signAt := goodIn_r _ [5, 6, 7, 4, 8, 9, 10, 11] (by decide +kernel) (by decide +kernel)
set_option maxRecDepth 20000 in
theorem gX6_works_X6_signAt : GoodIn wsX6_works (va_wsS RX6 100 yX6_signAt wsX6_signAt) := goodIn_app (goodIn_of _ (by decide +kernel)) ggX6_works_X6_signAt
set_option maxRecDepth 20000 in
theorem ggX6_works_X6_isWeak : GoodIn wsX6_works wsX6_isWeak := goodIn_r _ [15, 1, 16, 17, 18, 19, 20, 21, 22, 23, 24, 25, 26, 27] (by decide +kernel) (by decide +kernel)
set_option maxRecDepth 20000 in
theorem gX6_works_X6_isWeak : GoodIn wsX6_works (wsV RX6 103 RX6 yX6_isWeak wsX6_isWeak) := goodIn_app (goodIn_of _ (by decide +kernel)) ggX6_works_X6_isWeak
theorem dX6_works_0 : decode cX6_works 0 = .ok (.iconst 0, 1) := by decide +kernel
theorem dX6_works_1 : decode cX6_works 1 = .ok (.istore_n 3, 1) := by decide +kernel
theorem dX6_works_2 : decode cX6_works 2 = .ok (.iload_n 1, 1) := by decide +kernel
theorem dX6_works_3 : decode cX6_works 3 = .ok (.iload_n 2, 1) := by decide +kernel
theorem dX6_works_4 : decode cX6_works 4 = .ok (.if_icmp .gt 7, 3) := by decide +kernel
theorem dX6_works_7 : decode cX6_works 7 = .ok (.iconst 1, 1) := by decide +kernel
theorem dX6_works_8 : decode cX6_works 8 = .ok (.goto 4, 3) := by decide +kernel
theorem dX6_works_11 : decode cX6_works 11 = .ok (.iconst (-1), 1) := by decide +kernel
theorem dX6_works_12 : decode cX6_works 12 = .ok (.istore 4, 2) := by decide +kernel
theorem dX6_works_14 : decode cX6_works 14 = .ok (.iload_n 1, 1) := by decide +kernel
theorem dX6_works_15 : decode cX6_works 15 = .ok (.istore 5, 2) := by decide +kernel
theorem dX6_works_17 : decode cX6_works 17 = .ok (.iload 5, 2) := by decide +kernel
theorem dX6_works_19 : decode cX6_works 19 = .ok (.iload_n 2, 1) := by decide +kernel
theorem dX6_works_20 : decode cX6_works 20 = .ok (.iload 4, 2) := by decide +kernel
theorem dX6_works_22 : decode cX6_works 22 = .ok (.iadd, 1) := by decide +kernel
theorem dX6_works_23 : decode cX6_works 23 = .ok (.if_icmp .eq 90, 3) := by decide +kernel
theorem dX6_works_26 : decode cX6_works 26 = .ok (.iconst 0, 1) := by decide +kernel
theorem dX6_works_27 : decode cX6_works 27 = .ok (.istore 6, 2) := by decide +kernel
theorem dX6_works_29 : decode cX6_works 29 = .ok (.iload 6, 2) := by decide +kernel
theorem dX6_works_31 : decode cX6_works 31 = .ok (.bipush 8, 2) := by decide +kernel
theorem dX6_works_33 : decode cX6_works 33 = .ok (.if_icmp .ge 70, 3) := by decide +kernel
theorem dX6_works_36 : decode cX6_works 36 = .ok (.iload 5, 2) := by decide +kernel
theorem dX6_works_38 : decode cX6_works 38 = .ok (.iload 6, 2) := by decide +kernel
theorem dX6_works_40 : decode cX6_works 40 = .ok (.invokestatic 100, 3) := by decide +kernel
theorem dX6_works_43 : decode cX6_works 43 = .ok (.istore 7, 2) := by decide +kernel
theorem dX6_works_45 : decode cX6_works 45 = .ok (.aload_n 0, 1) := by decide +kernel
theorem dX6_works_46 : decode cX6_works 46 = .ok (.iload 7, 2) := by decide +kernel
theorem dX6_works_48 : decode cX6_works 48 = .ok (.invokevirtual 103, 3) := by decide +kernel
theorem dX6_works_51 : decode cX6_works 51 = .ok (.ifCond .eq 46, 3) := by decide +kernel
theorem dX6_works_54 : decode cX6_works 54 = .ok (.aload_n 0, 1) := by decide +kernel
theorem dX6_works_55 : decode cX6_works 55 = .ok (.getfield 7, 3) := by decide +kernel
theorem dX6_works_58 : decode cX6_works 58 = .ok (.iconst 5, 1) := by decide +kernel
theorem dX6_works_59 : decode cX6_works 59 = .ok (.iaload, 1) := by decide +kernel
theorem dX6_works_60 : decode cX6_works 60 = .ok (.ifCond .le 37, 3) := by decide +kernel
theorem dX6_works_63 : decode cX6_works 63 = .ok (.iload_n 3, 1) := by decide +kernel
theorem dX6_works_64 : decode cX6_works 64 = .ok (.aload_n 0, 1) := by decide +kernel
theorem dX6_works_65 : decode cX6_works 65 = .ok (.getfield 7, 3) := by decide +kernel
theorem dX6_works_68 : decode cX6_works 68 = .ok (.iconst 1, 1) := by decide +kernel
theorem dX6_works_69 : decode cX6_works 69 = .ok (.iaload, 1) := by decide +kernel
theorem dX6_works_70 : decode cX6_works 70 = .ok (.if_icmp .ge 27, 3) := by decide +kernel
theorem dX6_works_73 : decode cX6_works 73 = .ok (.aload_n 0, 1) := by decide +kernel
theorem dX6_works_74 : decode cX6_works 74 = .ok (.getfield 7, 3) := by decide +kernel
theorem dX6_works_77 : decode cX6_works 77 = .ok (.iload 7, 2) := by decide +kernel
theorem dX6_works_79 : decode cX6_works 79 = .ok (.iconst 1, 1) := by decide +kernel
theorem dX6_works_80 : decode cX6_works 80 = .ok (.iadd, 1) := by decide +kernel
theorem dX6_works_81 : decode cX6_works 81 = .ok (.bipush 100, 2) := by decide +kernel
theorem dX6_works_83 : decode cX6_works 83 = .ok (.iastore, 1) := by decide +kernel
theorem dX6_works_84 : decode cX6_works 84 = .ok (.aload_n 0, 1) := by decide +kernel
theorem dX6_works_85 : decode cX6_works 85 = .ok (.getfield 7, 3) := by decide +kernel
theorem dX6_works_88 : decode cX6_works 88 = .ok (.iconst 5, 1) := by decide +kernel
theorem dX6_works_89 : decode cX6_works 89 = .ok (.dup2, 1) := by decide +kernel
theorem dX6_works_90 : decode cX6_works 90 = .ok (.iaload, 1) := by decide +kernel
theorem dX6_works_91 : decode cX6_works 91 = .ok (.iconst 1, 1) := by decide +kernel
theorem dX6_works_92 : decode cX6_works 92 = .ok (.isub, 1) := by decide +kernel
theorem dX6_works_93 : decode cX6_works 93 = .ok (.iastore, 1) := by decide +kernel
theorem dX6_works_94 : decode cX6_works 94 = .ok (.iinc 3 1, 3) := by decide +kernel
theorem dX6_works_97 : decode cX6_works 97 = .ok (.iinc 6 1, 3) := by decide +kernel
theorem dX6_works_100 : decode cX6_works 100 = .ok (.goto (-71), 3) := by decide +kernel
theorem dX6_works_103 : decode cX6_works 103 = .ok (.iload 5, 2) := by decide +kernel
theorem dX6_works_105 : decode cX6_works 105 = .ok (.iload 4, 2) := by decide +kernel
theorem dX6_works_107 : decode cX6_works 107 = .ok (.iadd, 1) := by decide +kernel
theorem dX6_works_108 : decode cX6_works 108 = .ok (.istore 5, 2) := by decide +kernel
theorem dX6_works_110 : decode cX6_works 110 = .ok (.goto (-93), 3) := by decide +kernel
theorem dX6_works_113 : decode cX6_works 113 = .ok (.aload_n 0, 1) := by decide +kernel
theorem dX6_works_114 : decode cX6_works 114 = .ok (.getfield 7, 3) := by decide +kernel
theorem dX6_works_117 : decode cX6_works 117 = .ok (.bipush 7, 2) := by decide +kernel
theorem dX6_works_119 : decode cX6_works 119 = .ok (.dup2, 1) := by decide +kernel
theorem dX6_works_120 : decode cX6_works 120 = .ok (.iaload, 1) := by decide +kernel
theorem dX6_works_121 : decode cX6_works 121 = .ok (.iconst 1, 1) := by decide +kernel
theorem dX6_works_122 : decode cX6_works 122 = .ok (.iadd, 1) := by decide +kernel
theorem dX6_works_123 : decode cX6_works 123 = .ok (.iastore, 1) := by decide +kernel
theorem dX6_works_124 : decode cX6_works 124 = .ok (.aload_n 0, 1) := by decide +kernel
theorem dX6_works_125 : decode cX6_works 125 = .ok (.getfield 7, 3) := by decide +kernel
theorem dX6_works_128 : decode cX6_works 128 = .ok (.bipush 8, 2) := by decide +kernel
theorem dX6_works_130 : decode cX6_works 130 = .ok (.dup2, 1) := by decide +kernel
theorem dX6_works_131 : decode cX6_works 131 = .ok (.iaload, 1) := by decide +kernel
theorem dX6_works_132 : decode cX6_works 132 = .ok (.iload_n 3, 1) := by decide +kernel
theorem dX6_works_133 : decode cX6_works 133 = .ok (.iadd, 1) := by decide +kernel
theorem dX6_works_134 : decode cX6_works 134 = .ok (.iastore, 1) := by decide +kernel
theorem dX6_works_135 : decode cX6_works 135 = .ok (.iload_n 3, 1) := by decide +kernel
theorem dX6_works_136 : decode cX6_works 136 = .ok (.ireturn, 1) := by decide +kernel
set_option maxRecDepth 20000 in
theorem ggX6_night_X6_whyNotNight : GoodIn wsX6_night wsX6_whyNotNight := goodIn_r _ [5, 6, 7, 8, 4, 9, 33, 34, 35, 36, 37, 38, 39, 40, 41, 42, 43, 44] (by decide +kernel) (by decide +kernel)
set_option maxRecDepth 20000 in
theorem gX6_night_X6_whyNotNight : GoodIn wsX6_night (wsV RX6 107 RX6 yX6_whyNotNight wsX6_whyNotNight) := goodIn_app (goodIn_of _ (by decide +kernel)) ggX6_night_X6_whyNotNight
set_option maxRecDepth 20000 in
theorem ggX6_night_X6_record : GoodIn wsX6_night wsX6_record := goodIn_r _ [13, 14, 15, 6, 33, 34, 35, 36, 37, 38, 39, 40, 41, 42, 43, 44] (by decide +kernel) (by decide +kernel)
set_option maxRecDepth 20000 in
theorem gX6_night_X6_record : GoodIn wsX6_night (wsV RX6 45 RX6 yX6_record wsX6_record) := goodIn_app (goodIn_of _ (by decide +kernel)) ggX6_night_X6_record
set_option maxRecDepth 20000 in
theorem ggX6_night_X6_works : GoodIn wsX6_night wsX6_works := goodIn_r _ [19, 6, 20, 21, 4, 22, 23, 24, 25, 26, 27, 28, 29, 30, 31, 32, 33, 34, 35, 36, 37, 38, 39, 40, 41, 42, 43, 44] (by decide +kernel) (by decide +kernel)
set_option maxRecDepth 20000 in
theorem gX6_night_X6_works : GoodIn wsX6_night (wsV RX6 110 RX6 yX6_works wsX6_works) := goodIn_app (goodIn_of _ (by decide +kernel)) ggX6_night_X6_works
theorem dX6_night_0 : decode cX6_night 0 = .ok (.aload_n 0, 1) := by decide +kernel
theorem dX6_night_1 : decode cX6_night 1 = .ok (.iload_n 1, 1) := by decide +kernel
theorem dX6_night_2 : decode cX6_night 2 = .ok (.iload_n 2, 1) := by decide +kernel
theorem dX6_night_3 : decode cX6_night 3 = .ok (.invokevirtual 107, 3) := by decide +kernel
theorem dX6_night_6 : decode cX6_night 6 = .ok (.istore_n 3, 1) := by decide +kernel
theorem dX6_night_7 : decode cX6_night 7 = .ok (.iload_n 3, 1) := by decide +kernel
theorem dX6_night_8 : decode cX6_night 8 = .ok (.ifCond .ge 5, 3) := by decide +kernel
theorem dX6_night_11 : decode cX6_night 11 = .ok (.iload_n 3, 1) := by decide +kernel
theorem dX6_night_12 : decode cX6_night 12 = .ok (.ireturn, 1) := by decide +kernel
theorem dX6_night_13 : decode cX6_night 13 = .ok (.aload_n 0, 1) := by decide +kernel
theorem dX6_night_14 : decode cX6_night 14 = .ok (.invokevirtual 45, 3) := by decide +kernel
theorem dX6_night_17 : decode cX6_night 17 = .ok (.aload_n 0, 1) := by decide +kernel
theorem dX6_night_18 : decode cX6_night 18 = .ok (.iload_n 1, 1) := by decide +kernel
theorem dX6_night_19 : decode cX6_night 19 = .ok (.iload_n 2, 1) := by decide +kernel
theorem dX6_night_20 : decode cX6_night 20 = .ok (.invokevirtual 110, 3) := by decide +kernel
theorem dX6_night_23 : decode cX6_night 23 = .ok (.ireturn, 1) := by decide +kernel
set_option maxRecDepth 20000 in
theorem ggX6_isFree_X6_wayAt : GoodIn wsX6_isFree wsX6_wayAt := goodIn_r _ [5, 6, 7, 8, 4, 9, 10, 11, 12, 13, 14, 15, 16, 17, 18, 19, 20, 21] (by decide +kernel) (by decide +kernel)
set_option maxRecDepth 20000 in
theorem gX6_isFree_X6_wayAt : GoodIn wsX6_isFree (wsV RX6 48 RX6 yX6_wayAt wsX6_wayAt) := goodIn_app (goodIn_of _ (by decide +kernel)) ggX6_isFree_X6_wayAt
theorem dX6_isFree_0 : decode cX6_isFree 0 = .ok (.aload_n 0, 1) := by decide +kernel
theorem dX6_isFree_1 : decode cX6_isFree 1 = .ok (.iload_n 1, 1) := by decide +kernel
theorem dX6_isFree_2 : decode cX6_isFree 2 = .ok (.iload_n 2, 1) := by decide +kernel
theorem dX6_isFree_3 : decode cX6_isFree 3 = .ok (.invokevirtual 48, 3) := by decide +kernel
theorem dX6_isFree_6 : decode cX6_isFree 6 = .ok (.iconst 1, 1) := by decide +kernel
theorem dX6_isFree_7 : decode cX6_isFree 7 = .ok (.iload_n 3, 1) := by decide +kernel
theorem dX6_isFree_8 : decode cX6_isFree 8 = .ok (.isub, 1) := by decide +kernel
theorem dX6_isFree_9 : decode cX6_isFree 9 = .ok (.if_icmp .eq 7, 3) := by decide +kernel
theorem dX6_isFree_12 : decode cX6_isFree 12 = .ok (.iconst 1, 1) := by decide +kernel
theorem dX6_isFree_13 : decode cX6_isFree 13 = .ok (.goto 4, 3) := by decide +kernel
theorem dX6_isFree_16 : decode cX6_isFree 16 = .ok (.iconst 0, 1) := by decide +kernel
theorem dX6_isFree_17 : decode cX6_isFree 17 = .ok (.ireturn, 1) := by decide +kernel
set_option maxRecDepth 20000 in
theorem ggX6_cell_X6_isCell : GoodIn wsX6_cell wsX6_isCell := goodIn_r _ [5, 6, 7, 4, 8] (by decide +kernel) (by decide +kernel)
set_option maxRecDepth 20000 in
theorem gX6_cell_X6_isCell : GoodIn wsX6_cell (va_wsS RX6 62 yX6_isCell wsX6_isCell) := goodIn_app (goodIn_of _ (by decide +kernel)) ggX6_cell_X6_isCell
set_option maxRecDepth 20000 in
theorem ggX6_cell_X6_cellAt : GoodIn wsX6_cell wsX6_cellAt := goodIn_r _ [11] (by decide +kernel) (by decide +kernel)
set_option maxRecDepth 20000 in
theorem gX6_cell_X6_cellAt : GoodIn wsX6_cell (va_wsS RX6 33 yX6_cellAt wsX6_cellAt) := goodIn_app (goodIn_of _ (by decide +kernel)) ggX6_cell_X6_cellAt
set_option maxRecDepth 20000 in
theorem ggX6_cell_X6_wayAt : GoodIn wsX6_cell wsX6_wayAt := goodIn_r _ [15, 1, 9, 10, 4, 11, 24, 25, 26, 27, 28, 29, 30, 31, 32, 33, 34, 35] (by decide +kernel) (by decide +kernel)
set_option maxRecDepth 20000 in
theorem gX6_cell_X6_wayAt : GoodIn wsX6_cell (wsV RX6 48 RX6 yX6_wayAt wsX6_wayAt) := goodIn_app (goodIn_of _ (by decide +kernel)) ggX6_cell_X6_wayAt
set_option maxRecDepth 20000 in
theorem ggX6_cell_X6_isRead : GoodIn wsX6_cell wsX6_isRead := goodIn_r _ [19, 1, 9, 10, 4, 11, 24, 25, 26, 27, 28, 29, 30, 31, 32, 33, 34, 35] (by decide +kernel) (by decide +kernel)
set_option maxRecDepth 20000 in
theorem gX6_cell_X6_isRead : GoodIn wsX6_cell (wsV RX6 87 RX6 yX6_isRead wsX6_isRead) := goodIn_app (goodIn_of _ (by decide +kernel)) ggX6_cell_X6_isRead
set_option maxRecDepth 20000 in
theorem ggX6_cell_X6_isFree : GoodIn wsX6_cell wsX6_isFree := goodIn_r _ [23, 12, 13, 14, 4, 15, 1, 9, 10, 11, 24, 25, 26, 27, 28, 29, 30, 31, 32, 33, 34, 35] (by decide +kernel) (by decide +kernel)
set_option maxRecDepth 20000 in
theorem gX6_cell_X6_isFree : GoodIn wsX6_cell (wsV RX6 113 RX6 yX6_isFree wsX6_isFree) := goodIn_app (goodIn_of _ (by decide +kernel)) ggX6_cell_X6_isFree
theorem dX6_cell_0 : decode cX6_cell 0 = .ok (.iload_n 1, 1) := by decide +kernel
theorem dX6_cell_1 : decode cX6_cell 1 = .ok (.iload_n 2, 1) := by decide +kernel
theorem dX6_cell_2 : decode cX6_cell 2 = .ok (.invokestatic 62, 3) := by decide +kernel
theorem dX6_cell_5 : decode cX6_cell 5 = .ok (.ifCond .ne 5, 3) := by decide +kernel
theorem dX6_cell_8 : decode cX6_cell 8 = .ok (.iconst (-1), 1) := by decide +kernel
theorem dX6_cell_9 : decode cX6_cell 9 = .ok (.ireturn, 1) := by decide +kernel
theorem dX6_cell_10 : decode cX6_cell 10 = .ok (.iload_n 1, 1) := by decide +kernel
theorem dX6_cell_11 : decode cX6_cell 11 = .ok (.iload_n 2, 1) := by decide +kernel
theorem dX6_cell_12 : decode cX6_cell 12 = .ok (.invokestatic 33, 3) := by decide +kernel
theorem dX6_cell_15 : decode cX6_cell 15 = .ok (.istore 4, 2) := by decide +kernel
theorem dX6_cell_17 : decode cX6_cell 17 = .ok (.iload_n 3, 1) := by decide +kernel
theorem dX6_cell_18 : decode cX6_cell 18 = .ok (.tableswitch 121 0 6 #[42, 49, 59, 49, 88, 103, 103], 42) := by decide +kernel
theorem dX6_cell_60 : decode cX6_cell 60 = .ok (.aload_n 0, 1) := by decide +kernel
theorem dX6_cell_61 : decode cX6_cell 61 = .ok (.iload_n 1, 1) := by decide +kernel
theorem dX6_cell_62 : decode cX6_cell 62 = .ok (.iload_n 2, 1) := by decide +kernel
theorem dX6_cell_63 : decode cX6_cell 63 = .ok (.invokevirtual 48, 3) := by decide +kernel
theorem dX6_cell_66 : decode cX6_cell 66 = .ok (.ireturn, 1) := by decide +kernel
theorem dX6_cell_67 : decode cX6_cell 67 = .ok (.aload_n 0, 1) := by decide +kernel
theorem dX6_cell_68 : decode cX6_cell 68 = .ok (.getfield 7, 3) := by decide +kernel
theorem dX6_cell_71 : decode cX6_cell 71 = .ok (.iload 4, 2) := by decide +kernel
theorem dX6_cell_73 : decode cX6_cell 73 = .ok (.iload_n 3, 1) := by decide +kernel
theorem dX6_cell_74 : decode cX6_cell 74 = .ok (.iadd, 1) := by decide +kernel
theorem dX6_cell_75 : decode cX6_cell 75 = .ok (.iaload, 1) := by decide +kernel
theorem dX6_cell_76 : decode cX6_cell 76 = .ok (.ireturn, 1) := by decide +kernel
theorem dX6_cell_77 : decode cX6_cell 77 = .ok (.aload_n 0, 1) := by decide +kernel
theorem dX6_cell_78 : decode cX6_cell 78 = .ok (.getfield 7, 3) := by decide +kernel
theorem dX6_cell_81 : decode cX6_cell 81 = .ok (.iload 4, 2) := by decide +kernel
theorem dX6_cell_83 : decode cX6_cell 83 = .ok (.iconst 2, 1) := by decide +kernel
theorem dX6_cell_84 : decode cX6_cell 84 = .ok (.iadd, 1) := by decide +kernel
theorem dX6_cell_85 : decode cX6_cell 85 = .ok (.iaload, 1) := by decide +kernel
theorem dX6_cell_86 : decode cX6_cell 86 = .ok (.ifCond .ne 8, 3) := by decide +kernel
theorem dX6_cell_89 : decode cX6_cell 89 = .ok (.bipush (-6), 2) := by decide +kernel
theorem dX6_cell_91 : decode cX6_cell 91 = .ok (.goto 14, 3) := by decide +kernel
theorem dX6_cell_94 : decode cX6_cell 94 = .ok (.aload_n 0, 1) := by decide +kernel
theorem dX6_cell_95 : decode cX6_cell 95 = .ok (.getfield 7, 3) := by decide +kernel
theorem dX6_cell_98 : decode cX6_cell 98 = .ok (.iload 4, 2) := by decide +kernel
theorem dX6_cell_100 : decode cX6_cell 100 = .ok (.iconst 2, 1) := by decide +kernel
theorem dX6_cell_101 : decode cX6_cell 101 = .ok (.iadd, 1) := by decide +kernel
theorem dX6_cell_102 : decode cX6_cell 102 = .ok (.iaload, 1) := by decide +kernel
theorem dX6_cell_103 : decode cX6_cell 103 = .ok (.iconst 1, 1) := by decide +kernel
theorem dX6_cell_104 : decode cX6_cell 104 = .ok (.isub, 1) := by decide +kernel
theorem dX6_cell_105 : decode cX6_cell 105 = .ok (.ireturn, 1) := by decide +kernel
theorem dX6_cell_106 : decode cX6_cell 106 = .ok (.aload_n 0, 1) := by decide +kernel
theorem dX6_cell_107 : decode cX6_cell 107 = .ok (.iload_n 1, 1) := by decide +kernel
theorem dX6_cell_108 : decode cX6_cell 108 = .ok (.iload_n 2, 1) := by decide +kernel
theorem dX6_cell_109 : decode cX6_cell 109 = .ok (.invokevirtual 87, 3) := by decide +kernel
theorem dX6_cell_112 : decode cX6_cell 112 = .ok (.ifCond .eq 7, 3) := by decide +kernel
theorem dX6_cell_115 : decode cX6_cell 115 = .ok (.iconst 1, 1) := by decide +kernel
theorem dX6_cell_116 : decode cX6_cell 116 = .ok (.goto 4, 3) := by decide +kernel
theorem dX6_cell_119 : decode cX6_cell 119 = .ok (.iconst 0, 1) := by decide +kernel
theorem dX6_cell_120 : decode cX6_cell 120 = .ok (.ireturn, 1) := by decide +kernel
theorem dX6_cell_121 : decode cX6_cell 121 = .ok (.aload_n 0, 1) := by decide +kernel
theorem dX6_cell_122 : decode cX6_cell 122 = .ok (.iload_n 1, 1) := by decide +kernel
theorem dX6_cell_123 : decode cX6_cell 123 = .ok (.iload_n 2, 1) := by decide +kernel
theorem dX6_cell_124 : decode cX6_cell 124 = .ok (.iload_n 3, 1) := by decide +kernel
theorem dX6_cell_125 : decode cX6_cell 125 = .ok (.iconst 5, 1) := by decide +kernel
theorem dX6_cell_126 : decode cX6_cell 126 = .ok (.isub, 1) := by decide +kernel
theorem dX6_cell_127 : decode cX6_cell 127 = .ok (.invokevirtual 113, 3) := by decide +kernel
theorem dX6_cell_130 : decode cX6_cell 130 = .ok (.ifCond .eq 7, 3) := by decide +kernel
theorem dX6_cell_133 : decode cX6_cell 133 = .ok (.iconst 1, 1) := by decide +kernel
theorem dX6_cell_134 : decode cX6_cell 134 = .ok (.goto 4, 3) := by decide +kernel
theorem dX6_cell_137 : decode cX6_cell 137 = .ok (.iconst 0, 1) := by decide +kernel
theorem dX6_cell_138 : decode cX6_cell 138 = .ok (.ireturn, 1) := by decide +kernel
theorem dX6_cell_139 : decode cX6_cell 139 = .ok (.bipush (-2), 2) := by decide +kernel
theorem dX6_cell_141 : decode cX6_cell 141 = .ok (.ireturn, 1) := by decide +kernel
set_option maxRecDepth 20000 in
theorem ggX6_line_X6_isLine : GoodIn wsX6_line wsX6_isLine := goodIn_r _ [5, 6, 7, 4, 8] (by decide +kernel) (by decide +kernel)
set_option maxRecDepth 20000 in
theorem gX6_line_X6_isLine : GoodIn wsX6_line (va_wsS RX6 81 yX6_isLine wsX6_isLine) := goodIn_app (goodIn_of _ (by decide +kernel)) ggX6_line_X6_isLine
set_option maxRecDepth 20000 in
theorem ggX6_line_X6_in : GoodIn wsX6_line wsX6_in := goodIn_r _ [8] (by decide +kernel) (by decide +kernel)
set_option maxRecDepth 20000 in
theorem gX6_line_X6_in : GoodIn wsX6_line (va_wsS RX6 29 yX6_in wsX6_in) := goodIn_app (goodIn_of _ (by decide +kernel)) ggX6_line_X6_in
set_option maxRecDepth 20000 in
theorem ggX6_line_X6_lineAt : GoodIn wsX6_line wsX6_lineAt := goodIn_r _ [11] (by decide +kernel) (by decide +kernel)
set_option maxRecDepth 20000 in
theorem gX6_line_X6_lineAt : GoodIn wsX6_line (va_wsS RX6 59 yX6_lineAt wsX6_lineAt) := goodIn_app (goodIn_of _ (by decide +kernel)) ggX6_line_X6_lineAt
theorem dX6_line_0 : decode cX6_line 0 = .ok (.iload_n 1, 1) := by decide +kernel
theorem dX6_line_1 : decode cX6_line 1 = .ok (.iload_n 2, 1) := by decide +kernel
theorem dX6_line_2 : decode cX6_line 2 = .ok (.invokestatic 81, 3) := by decide +kernel
theorem dX6_line_5 : decode cX6_line 5 = .ok (.ifCond .ne 5, 3) := by decide +kernel
theorem dX6_line_8 : decode cX6_line 8 = .ok (.iconst (-1), 1) := by decide +kernel
theorem dX6_line_9 : decode cX6_line 9 = .ok (.ireturn, 1) := by decide +kernel
theorem dX6_line_10 : decode cX6_line 10 = .ok (.iload_n 3, 1) := by decide +kernel
theorem dX6_line_11 : decode cX6_line 11 = .ok (.iconst 0, 1) := by decide +kernel
theorem dX6_line_12 : decode cX6_line 12 = .ok (.iconst 1, 1) := by decide +kernel
theorem dX6_line_13 : decode cX6_line 13 = .ok (.invokestatic 29, 3) := by decide +kernel
theorem dX6_line_16 : decode cX6_line 16 = .ok (.ifCond .eq 18, 3) := by decide +kernel
theorem dX6_line_19 : decode cX6_line 19 = .ok (.aload_n 0, 1) := by decide +kernel
theorem dX6_line_20 : decode cX6_line 20 = .ok (.getfield 7, 3) := by decide +kernel
theorem dX6_line_23 : decode cX6_line 23 = .ok (.iload_n 1, 1) := by decide +kernel
theorem dX6_line_24 : decode cX6_line 24 = .ok (.iload_n 2, 1) := by decide +kernel
theorem dX6_line_25 : decode cX6_line 25 = .ok (.invokestatic 59, 3) := by decide +kernel
theorem dX6_line_28 : decode cX6_line 28 = .ok (.iload_n 3, 1) := by decide +kernel
theorem dX6_line_29 : decode cX6_line 29 = .ok (.iadd, 1) := by decide +kernel
theorem dX6_line_30 : decode cX6_line 30 = .ok (.iaload, 1) := by decide +kernel
theorem dX6_line_31 : decode cX6_line 31 = .ok (.goto 5, 3) := by decide +kernel
theorem dX6_line_34 : decode cX6_line 34 = .ok (.bipush (-2), 2) := by decide +kernel
theorem dX6_line_36 : decode cX6_line 36 = .ok (.ireturn, 1) := by decide +kernel
set_option maxRecDepth 20000 in
theorem ggX6_canChange_X6_lineAt : GoodIn wsX6_canChange wsX6_lineAt := goodIn_r _ [5] (by decide +kernel) (by decide +kernel)
set_option maxRecDepth 20000 in
theorem gX6_canChange_X6_lineAt : GoodIn wsX6_canChange (va_wsS RX6 59 yX6_lineAt wsX6_lineAt) := goodIn_app (goodIn_of _ (by decide +kernel)) ggX6_canChange_X6_lineAt
set_option maxRecDepth 20000 in
theorem ggX6_canChange_X6_isFree : GoodIn wsX6_canChange wsX6_isFree := goodIn_r _ [9, 10, 11, 12, 4, 13, 1, 14, 15, 16, 17, 18, 19, 20, 21, 22, 23, 24, 25, 26, 27, 28] (by decide +kernel) (by decide +kernel)
set_option maxRecDepth 20000 in
theorem gX6_canChange_X6_isFree : GoodIn wsX6_canChange (wsV RX6 113 RX6 yX6_isFree wsX6_isFree) := goodIn_app (goodIn_of _ (by decide +kernel)) ggX6_canChange_X6_isFree
theorem dX6_canChange_0 : decode cX6_canChange 0 = .ok (.aload_n 0, 1) := by decide +kernel
theorem dX6_canChange_1 : decode cX6_canChange 1 = .ok (.getfield 7, 3) := by decide +kernel
theorem dX6_canChange_4 : decode cX6_canChange 4 = .ok (.iload_n 1, 1) := by decide +kernel
theorem dX6_canChange_5 : decode cX6_canChange 5 = .ok (.iload_n 2, 1) := by decide +kernel
theorem dX6_canChange_6 : decode cX6_canChange 6 = .ok (.if_icmp .ge 7, 3) := by decide +kernel
theorem dX6_canChange_9 : decode cX6_canChange 9 = .ok (.iload_n 1, 1) := by decide +kernel
theorem dX6_canChange_10 : decode cX6_canChange 10 = .ok (.goto 4, 3) := by decide +kernel
theorem dX6_canChange_13 : decode cX6_canChange 13 = .ok (.iload_n 2, 1) := by decide +kernel
theorem dX6_canChange_14 : decode cX6_canChange 14 = .ok (.iload_n 3, 1) := by decide +kernel
theorem dX6_canChange_15 : decode cX6_canChange 15 = .ok (.invokestatic 59, 3) := by decide +kernel
theorem dX6_canChange_18 : decode cX6_canChange 18 = .ok (.iaload, 1) := by decide +kernel
theorem dX6_canChange_19 : decode cX6_canChange 19 = .ok (.istore 5, 2) := by decide +kernel
theorem dX6_canChange_21 : decode cX6_canChange 21 = .ok (.aload_n 0, 1) := by decide +kernel
theorem dX6_canChange_22 : decode cX6_canChange 22 = .ok (.iload_n 2, 1) := by decide +kernel
theorem dX6_canChange_23 : decode cX6_canChange 23 = .ok (.iload_n 3, 1) := by decide +kernel
theorem dX6_canChange_24 : decode cX6_canChange 24 = .ok (.iload 4, 2) := by decide +kernel
theorem dX6_canChange_26 : decode cX6_canChange 26 = .ok (.invokevirtual 113, 3) := by decide +kernel
theorem dX6_canChange_29 : decode cX6_canChange 29 = .ok (.ifCond .eq 29, 3) := by decide +kernel
theorem dX6_canChange_32 : decode cX6_canChange 32 = .ok (.iload 5, 2) := by decide +kernel
theorem dX6_canChange_34 : decode cX6_canChange 34 = .ok (.ifCond .eq 20, 3) := by decide +kernel
theorem dX6_canChange_37 : decode cX6_canChange 37 = .ok (.iload 5, 2) := by decide +kernel
theorem dX6_canChange_39 : decode cX6_canChange 39 = .ok (.iconst 2, 1) := by decide +kernel
theorem dX6_canChange_40 : decode cX6_canChange 40 = .ok (.if_icmp .eq 14, 3) := by decide +kernel
theorem dX6_canChange_43 : decode cX6_canChange 43 = .ok (.iload 5, 2) := by decide +kernel
theorem dX6_canChange_45 : decode cX6_canChange 45 = .ok (.iconst 3, 1) := by decide +kernel
theorem dX6_canChange_46 : decode cX6_canChange 46 = .ok (.if_icmp .ne 12, 3) := by decide +kernel
theorem dX6_canChange_49 : decode cX6_canChange 49 = .ok (.iload_n 1, 1) := by decide +kernel
theorem dX6_canChange_50 : decode cX6_canChange 50 = .ok (.iload_n 2, 1) := by decide +kernel
theorem dX6_canChange_51 : decode cX6_canChange 51 = .ok (.if_icmp .ge 7, 3) := by decide +kernel
theorem dX6_canChange_54 : decode cX6_canChange 54 = .ok (.iconst 1, 1) := by decide +kernel
theorem dX6_canChange_55 : decode cX6_canChange 55 = .ok (.goto 4, 3) := by decide +kernel
theorem dX6_canChange_58 : decode cX6_canChange 58 = .ok (.iconst 0, 1) := by decide +kernel
theorem dX6_canChange_59 : decode cX6_canChange 59 = .ok (.ireturn, 1) := by decide +kernel
set_option maxRecDepth 20000 in
theorem ggX6_mayChange_X6_isCell : GoodIn wsX6_mayChange wsX6_isCell := goodIn_r _ [4, 5, 6, 3, 7] (by decide +kernel) (by decide +kernel)
set_option maxRecDepth 20000 in
theorem gX6_mayChange_X6_isCell : GoodIn wsX6_mayChange (va_wsS RX6 62 yX6_isCell wsX6_isCell) := goodIn_app (goodIn_of _ (by decide +kernel)) ggX6_mayChange_X6_isCell
set_option maxRecDepth 20000 in
theorem ggX6_mayChange_X6_in : GoodIn wsX6_mayChange wsX6_in := goodIn_r _ [7] (by decide +kernel) (by decide +kernel)
set_option maxRecDepth 20000 in
theorem gX6_mayChange_X6_in : GoodIn wsX6_mayChange (va_wsS RX6 29 yX6_in wsX6_in) := goodIn_app (goodIn_of _ (by decide +kernel)) ggX6_mayChange_X6_in
set_option maxRecDepth 20000 in
theorem ggX6_mayChange_X6_canChange : GoodIn wsX6_mayChange wsX6_canChange := goodIn_r _ [11, 12, 13, 14, 3, 15, 16, 17, 18, 19, 20, 21, 22, 23, 24, 25, 26, 27, 28, 29, 30, 31, 32, 33, 34, 35, 36, 37, 38] (by decide +kernel) (by decide +kernel)
set_option maxRecDepth 20000 in
theorem gX6_mayChange_X6_canChange : GoodIn wsX6_mayChange (wsV RX6 116 RX6 yX6_canChange wsX6_canChange) := goodIn_app (goodIn_of _ (by decide +kernel)) ggX6_mayChange_X6_canChange
theorem dX6_mayChange_0 : decode cX6_mayChange 0 = .ok (.iload_n 1, 1) := by decide +kernel
theorem dX6_mayChange_1 : decode cX6_mayChange 1 = .ok (.iload_n 3, 1) := by decide +kernel
theorem dX6_mayChange_2 : decode cX6_mayChange 2 = .ok (.invokestatic 62, 3) := by decide +kernel
theorem dX6_mayChange_5 : decode cX6_mayChange 5 = .ok (.ifCond .eq 11, 3) := by decide +kernel
theorem dX6_mayChange_8 : decode cX6_mayChange 8 = .ok (.iload_n 2, 1) := by decide +kernel
theorem dX6_mayChange_9 : decode cX6_mayChange 9 = .ok (.iload_n 3, 1) := by decide +kernel

set_option maxRecDepth 20000 in
theorem gX5_mayChange_X5_isPlace : GoodIn wsX5_mayChange (va_wsS RX5 65 yX5_isPlace wsX5_isPlace) := goodIn_app (goodIn_of _ (by decide +kernel)) ggX5_mayChange_X5_isPlace
set_option maxRecDepth 20000 in
theorem ggX5_mayChange_X5_isWithin : GoodIn wsX5_mayChange wsX5_isWithin := goodIn_r _ [12] (by decide +kernel) (by decide +kernel)
set_option maxRecDepth 20000 in
theorem gX5_mayChange_X5_isWithin : GoodIn wsX5_mayChange (va_wsS RX5 73 yX5_isWithin wsX5_isWithin) := goodIn_app (goodIn_of _ (by decide +kernel)) ggX5_mayChange_X5_isWithin
set_option maxRecDepth 20000 in
theorem ggX5_mayChange_X3_allowsChange : GoodIn wsX5_mayChange wsX3_allowsChange := goodIn_r _ [17, 18, 19, 3, 20, 21, 22, 23, 16, 24, 25, 26, 27, 28, 29, 30, 31, 32, 33, 34, 35, 36, 37, 38, 39, 40, 50, 51, 52, 53, 54, 55, 56, 57, 58, 59, 60, 61, 62] (by decide +kernel) (by decide +kernel)
set_option maxRecDepth 20000 in
theorem gX5_mayChange_X3_allowsChange : GoodIn wsX5_mayChange (wsV RX5 110 RX3 yX3_allowsChange wsX3_allowsChange) := goodIn_app (goodIn_of _ (by decide +kernel)) ggX5_mayChange_X3_allowsChange
set_option maxRecDepth 20000 in
theorem ggX5_mayChange_X5_asNumber : GoodIn wsX5_mayChange wsX5_asNumber := goodIn_r _ [43] (by decide +kernel) (by decide +kernel)
set_option maxRecDepth 20000 in
theorem gX5_mayChange_X5_asNumber : GoodIn wsX5_mayChange (va_wsS RX5 114 yX5_asNumber wsX5_asNumber) := goodIn_app (goodIn_of _ (by decide +kernel)) ggX5_mayChange_X5_asNumber
theorem dX5_mayChange_0 : decode cX5_mayChange 0 = .ok (.iload_n 1, 1) := by decide +kernel
theorem dX5_mayChange_1 : decode cX5_mayChange 1 = .ok (.iconst 3, 1) := by decide +kernel
theorem dX5_mayChange_2 : decode cX5_mayChange 2 = .ok (.iload_n 3, 1) := by decide +kernel
theorem dX5_mayChange_3 : decode cX5_mayChange 3 = .ok (.invokestatic 65, 3) := by decide +kernel
theorem dX5_mayChange_6 : decode cX5_mayChange 6 = .ok (.ifCond .eq 12, 3) := by decide +kernel
theorem dX5_mayChange_9 : decode cX5_mayChange 9 = .ok (.iload_n 2, 1) := by decide +kernel
theorem dX5_mayChange_10 : decode cX5_mayChange 10 = .ok (.iconst 3, 1) := by decide +kernel
theorem dX5_mayChange_11 : decode cX5_mayChange 11 = .ok (.iload_n 3, 1) := by decide +kernel
theorem dX5_mayChange_12 : decode cX5_mayChange 12 = .ok (.invokestatic 65, 3) := by decide +kernel
theorem dX5_mayChange_15 : decode cX5_mayChange 15 = .ok (.ifCond .ne 5, 3) := by decide +kernel
theorem dX5_mayChange_18 : decode cX5_mayChange 18 = .ok (.iconst (-1), 1) := by decide +kernel
theorem dX5_mayChange_19 : decode cX5_mayChange 19 = .ok (.ireturn, 1) := by decide +kernel
theorem dX5_mayChange_20 : decode cX5_mayChange 20 = .ok (.iload_n 1, 1) := by decide +kernel
theorem dX5_mayChange_21 : decode cX5_mayChange 21 = .ok (.iload_n 2, 1) := by decide +kernel
theorem dX5_mayChange_22 : decode cX5_mayChange 22 = .ok (.isub, 1) := by decide +kernel
theorem dX5_mayChange_23 : decode cX5_mayChange 23 = .ok (.invokestatic 105, 3) := by decide +kernel
theorem dX5_mayChange_26 : decode cX5_mayChange 26 = .ok (.iconst 1, 1) := by decide +kernel
theorem dX5_mayChange_27 : decode cX5_mayChange 27 = .ok (.if_icmp .ne 13, 3) := by decide +kernel
theorem dX5_mayChange_30 : decode cX5_mayChange 30 = .ok (.iload 4, 2) := by decide +kernel
theorem dX5_mayChange_32 : decode cX5_mayChange 32 = .ok (.iconst 0, 1) := by decide +kernel
theorem dX5_mayChange_33 : decode cX5_mayChange 33 = .ok (.iconst 1, 1) := by decide +kernel
theorem dX5_mayChange_34 : decode cX5_mayChange 34 = .ok (.invokestatic 73, 3) := by decide +kernel
theorem dX5_mayChange_37 : decode cX5_mayChange 37 = .ok (.ifCond .ne 6, 3) := by decide +kernel
theorem dX5_mayChange_40 : decode cX5_mayChange 40 = .ok (.bipush (-2), 2) := by decide +kernel
theorem dX5_mayChange_42 : decode cX5_mayChange 42 = .ok (.ireturn, 1) := by decide +kernel
theorem dX5_mayChange_43 : decode cX5_mayChange 43 = .ok (.aload_n 0, 1) := by decide +kernel
theorem dX5_mayChange_44 : decode cX5_mayChange 44 = .ok (.getfield 10, 3) := by decide +kernel
theorem dX5_mayChange_47 : decode cX5_mayChange 47 = .ok (.iload_n 1, 1) := by decide +kernel
theorem dX5_mayChange_48 : decode cX5_mayChange 48 = .ok (.iload_n 2, 1) := by decide +kernel
theorem dX5_mayChange_49 : decode cX5_mayChange 49 = .ok (.iload_n 3, 1) := by decide +kernel
theorem dX5_mayChange_50 : decode cX5_mayChange 50 = .ok (.iload 4, 2) := by decide +kernel
theorem dX5_mayChange_52 : decode cX5_mayChange 52 = .ok (.invokevirtual 110, 3) := by decide +kernel
theorem dX5_mayChange_55 : decode cX5_mayChange 55 = .ok (.invokestatic 114, 3) := by decide +kernel
theorem dX5_mayChange_58 : decode cX5_mayChange 58 = .ok (.ireturn, 1) := by decide +kernel
set_option maxRecDepth 20000 in
theorem ggX5_total_X4_count : GoodIn wsX5_total wsX4_count := goodIn_r _ [6, 7, 8, 9, 5, 10, 11, 12, 13, 14, 44, 45, 46] (by decide +kernel) (by decide +kernel)
set_option maxRecDepth 20000 in
theorem gX5_total_X4_count : GoodIn wsX5_total (wsV RX5 122 RX4 yX4_count wsX4_count) := goodIn_app (goodIn_of _ (by decide +kernel)) ggX5_total_X4_count
set_option maxRecDepth 20000 in
theorem ggX5_total_X4_countFrom : GoodIn wsX5_total wsX4_countFrom := goodIn_r _ [10, 11, 12, 13, 14, 44, 45, 46] (by decide +kernel) (by decide +kernel)
set_option maxRecDepth 20000 in
theorem gX5_total_X4_countFrom : GoodIn wsX5_total (wsV RX5 138 RX4 yX4_countFrom wsX4_countFrom) := goodIn_app (goodIn_of _ (by decide +kernel)) ggX5_total_X4_countFrom
set_option maxRecDepth 20000 in
theorem ggX5_total_X3_sumOfStrengths : GoodIn wsX5_total wsX3_sumOfStrengths := goodIn_r _ [20, 21, 22, 23, 24, 25, 26, 5, 27, 11, 34, 35, 36, 37, 38, 39, 40, 41, 42, 43, 44, 45, 46] (by decide +kernel) (by decide +kernel)
set_option maxRecDepth 20000 in
theorem gX5_total_X3_sumOfStrengths : GoodIn wsX5_total (wsV RX5 153 RX3 yX3_sumOfStrengths wsX3_sumOfStrengths) := goodIn_app (goodIn_of _ (by decide +kernel)) ggX5_total_X3_sumOfStrengths
theorem dX5_total_0 : decode cX5_total 0 = .ok (.iload_n 1, 1) := by decide +kernel
theorem dX5_total_1 : decode cX5_total 1 = .ok (.tableswitch 226 0 14 #[75, 86, 97, 108, 128, 136, 144, 152, 160, 168, 176, 186, 196, 206, 216], 75) := by decide +kernel
theorem dX5_total_76 : decode cX5_total 76 = .ok (.aload_n 0, 1) := by decide +kernel
theorem dX5_total_77 : decode cX5_total 77 = .ok (.getfield 10, 3) := by decide +kernel
theorem dX5_total_80 : decode cX5_total 80 = .ok (.getfield 118, 3) := by decide +kernel
theorem dX5_total_83 : decode cX5_total 83 = .ok (.invokevirtual 122, 3) := by decide +kernel
theorem dX5_total_86 : decode cX5_total 86 = .ok (.ireturn, 1) := by decide +kernel
theorem dX5_total_87 : decode cX5_total 87 = .ok (.aload_n 0, 1) := by decide +kernel
theorem dX5_total_88 : decode cX5_total 88 = .ok (.getfield 10, 3) := by decide +kernel
theorem dX5_total_91 : decode cX5_total 91 = .ok (.getfield 128, 3) := by decide +kernel
theorem dX5_total_94 : decode cX5_total 94 = .ok (.invokevirtual 122, 3) := by decide +kernel
theorem dX5_total_97 : decode cX5_total 97 = .ok (.ireturn, 1) := by decide +kernel
theorem dX5_total_98 : decode cX5_total 98 = .ok (.aload_n 0, 1) := by decide +kernel
theorem dX5_total_99 : decode cX5_total 99 = .ok (.getfield 10, 3) := by decide +kernel
theorem dX5_total_102 : decode cX5_total 102 = .ok (.getfield 131, 3) := by decide +kernel
theorem dX5_total_105 : decode cX5_total 105 = .ok (.invokevirtual 122, 3) := by decide +kernel
theorem dX5_total_108 : decode cX5_total 108 = .ok (.ireturn, 1) := by decide +kernel
theorem dX5_total_109 : decode cX5_total 109 = .ok (.aload_n 0, 1) := by decide +kernel
theorem dX5_total_110 : decode cX5_total 110 = .ok (.getfield 10, 3) := by decide +kernel
theorem dX5_total_113 : decode cX5_total 113 = .ok (.getfield 128, 3) := by decide +kernel
theorem dX5_total_116 : decode cX5_total 116 = .ok (.aload_n 0, 1) := by decide +kernel
theorem dX5_total_117 : decode cX5_total 117 = .ok (.getfield 10, 3) := by decide +kernel
theorem dX5_total_120 : decode cX5_total 120 = .ok (.getfield 134, 3) := by decide +kernel
theorem dX5_total_123 : decode cX5_total 123 = .ok (.iconst 0, 1) := by decide +kernel
theorem dX5_total_124 : decode cX5_total 124 = .ok (.iaload, 1) := by decide +kernel
theorem dX5_total_125 : decode cX5_total 125 = .ok (.invokevirtual 138, 3) := by decide +kernel
theorem dX5_total_128 : decode cX5_total 128 = .ok (.ireturn, 1) := by decide +kernel
theorem dX5_total_129 : decode cX5_total 129 = .ok (.aload_n 0, 1) := by decide +kernel
theorem dX5_total_130 : decode cX5_total 130 = .ok (.getfield 10, 3) := by decide +kernel
theorem dX5_total_133 : decode cX5_total 133 = .ok (.getfield 82, 3) := by decide +kernel
theorem dX5_total_136 : decode cX5_total 136 = .ok (.ireturn, 1) := by decide +kernel
theorem dX5_total_137 : decode cX5_total 137 = .ok (.aload_n 0, 1) := by decide +kernel
theorem dX5_total_138 : decode cX5_total 138 = .ok (.getfield 10, 3) := by decide +kernel
theorem dX5_total_141 : decode cX5_total 141 = .ok (.getfield 141, 3) := by decide +kernel
theorem dX5_total_144 : decode cX5_total 144 = .ok (.ireturn, 1) := by decide +kernel
theorem dX5_total_145 : decode cX5_total 145 = .ok (.aload_n 0, 1) := by decide +kernel
theorem dX5_total_146 : decode cX5_total 146 = .ok (.getfield 10, 3) := by decide +kernel
theorem dX5_total_149 : decode cX5_total 149 = .ok (.getfield 144, 3) := by decide +kernel
theorem dX5_total_152 : decode cX5_total 152 = .ok (.ireturn, 1) := by decide +kernel
theorem dX5_total_153 : decode cX5_total 153 = .ok (.aload_n 0, 1) := by decide +kernel
theorem dX5_total_154 : decode cX5_total 154 = .ok (.getfield 10, 3) := by decide +kernel
theorem dX5_total_157 : decode cX5_total 157 = .ok (.getfield 147, 3) := by decide +kernel
theorem dX5_total_160 : decode cX5_total 160 = .ok (.ireturn, 1) := by decide +kernel
theorem dX5_total_161 : decode cX5_total 161 = .ok (.aload_n 0, 1) := by decide +kernel
theorem dX5_total_162 : decode cX5_total 162 = .ok (.getfield 10, 3) := by decide +kernel
theorem dX5_total_165 : decode cX5_total 165 = .ok (.getfield 150, 3) := by decide +kernel
theorem dX5_total_168 : decode cX5_total 168 = .ok (.ireturn, 1) := by decide +kernel
theorem dX5_total_169 : decode cX5_total 169 = .ok (.aload_n 0, 1) := by decide +kernel
theorem dX5_total_170 : decode cX5_total 170 = .ok (.getfield 10, 3) := by decide +kernel
theorem dX5_total_173 : decode cX5_total 173 = .ok (.invokevirtual 153, 3) := by decide +kernel
theorem dX5_total_176 : decode cX5_total 176 = .ok (.ireturn, 1) := by decide +kernel
theorem dX5_total_177 : decode cX5_total 177 = .ok (.aload_n 0, 1) := by decide +kernel
theorem dX5_total_178 : decode cX5_total 178 = .ok (.getfield 10, 3) := by decide +kernel
theorem dX5_total_181 : decode cX5_total 181 = .ok (.getfield 156, 3) := by decide +kernel
theorem dX5_total_184 : decode cX5_total 184 = .ok (.iconst 0, 1) := by decide +kernel
theorem dX5_total_185 : decode cX5_total 185 = .ok (.iaload, 1) := by decide +kernel
theorem dX5_total_186 : decode cX5_total 186 = .ok (.ireturn, 1) := by decide +kernel
theorem dX5_total_187 : decode cX5_total 187 = .ok (.aload_n 0, 1) := by decide +kernel
theorem dX5_total_188 : decode cX5_total 188 = .ok (.getfield 10, 3) := by decide +kernel
theorem dX5_total_191 : decode cX5_total 191 = .ok (.getfield 156, 3) := by decide +kernel
theorem dX5_total_194 : decode cX5_total 194 = .ok (.iconst 1, 1) := by decide +kernel
theorem dX5_total_195 : decode cX5_total 195 = .ok (.iaload, 1) := by decide +kernel
theorem dX5_total_196 : decode cX5_total 196 = .ok (.ireturn, 1) := by decide +kernel
theorem dX5_total_197 : decode cX5_total 197 = .ok (.aload_n 0, 1) := by decide +kernel
theorem dX5_total_198 : decode cX5_total 198 = .ok (.getfield 10, 3) := by decide +kernel
theorem dX5_total_201 : decode cX5_total 201 = .ok (.getfield 156, 3) := by decide +kernel
theorem dX5_total_204 : decode cX5_total 204 = .ok (.iconst 2, 1) := by decide +kernel
theorem dX5_total_205 : decode cX5_total 205 = .ok (.iaload, 1) := by decide +kernel
theorem dX5_total_206 : decode cX5_total 206 = .ok (.ireturn, 1) := by decide +kernel
theorem dX5_total_207 : decode cX5_total 207 = .ok (.aload_n 0, 1) := by decide +kernel
theorem dX5_total_208 : decode cX5_total 208 = .ok (.getfield 10, 3) := by decide +kernel
theorem dX5_total_211 : decode cX5_total 211 = .ok (.getfield 134, 3) := by decide +kernel
theorem dX5_total_214 : decode cX5_total 214 = .ok (.iconst 0, 1) := by decide +kernel
theorem dX5_total_215 : decode cX5_total 215 = .ok (.iaload, 1) := by decide +kernel
theorem dX5_total_216 : decode cX5_total 216 = .ok (.ireturn, 1) := by decide +kernel
theorem dX5_total_217 : decode cX5_total 217 = .ok (.aload_n 0, 1) := by decide +kernel
theorem dX5_total_218 : decode cX5_total 218 = .ok (.getfield 10, 3) := by decide +kernel
theorem dX5_total_221 : decode cX5_total 221 = .ok (.getfield 134, 3) := by decide +kernel
theorem dX5_total_224 : decode cX5_total 224 = .ok (.iconst 1, 1) := by decide +kernel
theorem dX5_total_225 : decode cX5_total 225 = .ok (.iaload, 1) := by decide +kernel
theorem dX5_total_226 : decode cX5_total 226 = .ok (.ireturn, 1) := by decide +kernel
theorem dX5_total_227 : decode cX5_total 227 = .ok (.bipush (-2), 2) := by decide +kernel
theorem dX5_total_229 : decode cX5_total 229 = .ok (.ireturn, 1) := by decide +kernel
set_option maxRecDepth 20000 in
theorem ggX5_whyNot_X5_placeError : GoodIn wsX5_whyNot wsX5_placeError := goodIn_r _ [5, 6, 7, 4, 8, 9, 10, 11] (by decide +kernel) (by decide +kernel)
set_option maxRecDepth 20000 in
theorem gX5_whyNot_X5_placeError : GoodIn wsX5_whyNot (va_wsS RX5 55 yX5_placeError wsX5_placeError) := goodIn_app (goodIn_of _ (by decide +kernel)) ggX5_whyNot_X5_placeError
set_option maxRecDepth 20000 in
theorem ggX5_whyNot_X3_refusal : GoodIn wsX5_whyNot wsX3_refusal := goodIn_r _ [16, 17, 18, 19, 15, 20, 21, 10, 4, 11, 22, 23, 24, 25, 26, 27, 28, 29, 30, 31, 32, 33, 34, 35, 36, 37, 38, 39, 40, 41, 42, 43, 50, 51, 52, 53, 54, 55, 56, 57, 58, 59, 60, 61, 62] (by decide +kernel) (by decide +kernel)
set_option maxRecDepth 20000 in
theorem gX5_whyNot_X3_refusal : GoodIn wsX5_whyNot (wsV RX5 159 RX3 yX3_refusal wsX3_refusal) := goodIn_app (goodIn_of _ (by decide +kernel)) ggX5_whyNot_X3_refusal
theorem dX5_whyNot_0 : decode cX5_whyNot 0 = .ok (.iload_n 1, 1) := by decide +kernel
theorem dX5_whyNot_1 : decode cX5_whyNot 1 = .ok (.iconst 3, 1) := by decide +kernel
theorem dX5_whyNot_2 : decode cX5_whyNot 2 = .ok (.iload_n 2, 1) := by decide +kernel
theorem dX5_whyNot_3 : decode cX5_whyNot 3 = .ok (.iload_n 3, 1) := by decide +kernel
theorem dX5_whyNot_4 : decode cX5_whyNot 4 = .ok (.iconst 3, 1) := by decide +kernel
theorem dX5_whyNot_5 : decode cX5_whyNot 5 = .ok (.invokestatic 55, 3) := by decide +kernel
theorem dX5_whyNot_8 : decode cX5_whyNot 8 = .ok (.istore 4, 2) := by decide +kernel
theorem dX5_whyNot_10 : decode cX5_whyNot 10 = .ok (.iload 4, 2) := by decide +kernel
theorem dX5_whyNot_12 : decode cX5_whyNot 12 = .ok (.ifCond .eq 8, 3) := by decide +kernel
theorem dX5_whyNot_15 : decode cX5_whyNot 15 = .ok (.iload 4, 2) := by decide +kernel
theorem dX5_whyNot_17 : decode cX5_whyNot 17 = .ok (.goto 13, 3) := by decide +kernel
theorem dX5_whyNot_20 : decode cX5_whyNot 20 = .ok (.aload_n 0, 1) := by decide +kernel
theorem dX5_whyNot_21 : decode cX5_whyNot 21 = .ok (.getfield 10, 3) := by decide +kernel
theorem dX5_whyNot_24 : decode cX5_whyNot 24 = .ok (.iload_n 1, 1) := by decide +kernel
theorem dX5_whyNot_25 : decode cX5_whyNot 25 = .ok (.iload_n 2, 1) := by decide +kernel
theorem dX5_whyNot_26 : decode cX5_whyNot 26 = .ok (.iload_n 3, 1) := by decide +kernel
theorem dX5_whyNot_27 : decode cX5_whyNot 27 = .ok (.invokevirtual 159, 3) := by decide +kernel
theorem dX5_whyNot_30 : decode cX5_whyNot 30 = .ok (.ireturn, 1) := by decide +kernel
set_option maxRecDepth 20000 in
theorem ggX5_readableFor_X5_isPlace : GoodIn wsX5_readableFor wsX5_isPlace := goodIn_r _ [5, 6, 7, 4, 8] (by decide +kernel) (by decide +kernel)
set_option maxRecDepth 20000 in
theorem gX5_readableFor_X5_isPlace : GoodIn wsX5_readableFor (va_wsS RX5 65 yX5_isPlace wsX5_isPlace) := goodIn_app (goodIn_of _ (by decide +kernel)) ggX5_readableFor_X5_isPlace
set_option maxRecDepth 20000 in
theorem ggX5_readableFor_X3_readableDays : GoodIn wsX5_readableFor wsX3_readableDays := goodIn_r _ [13, 14, 15, 16, 17, 18, 19, 20, 21, 22, 23, 24, 12, 25, 26, 27, 28, 29, 30, 31, 32, 33, 34, 35, 36, 37, 38, 39, 46, 47, 48, 49, 50, 51, 52, 53, 54, 55, 56, 57, 58] (by decide +kernel) (by decide +kernel)
set_option maxRecDepth 20000 in
theorem gX5_readableFor_X3_readableDays : GoodIn wsX5_readableFor (wsV RX5 162 RX3 yX3_readableDays wsX3_readableDays) := goodIn_app (goodIn_of _ (by decide +kernel)) ggX5_readableFor_X3_readableDays
theorem dX5_readableFor_0 : decode cX5_readableFor 0 = .ok (.iload_n 1, 1) := by decide +kernel
theorem dX5_readableFor_1 : decode cX5_readableFor 1 = .ok (.iconst 3, 1) := by decide +kernel
theorem dX5_readableFor_2 : decode cX5_readableFor 2 = .ok (.iload_n 2, 1) := by decide +kernel
theorem dX5_readableFor_3 : decode cX5_readableFor 3 = .ok (.invokestatic 65, 3) := by decide +kernel
theorem dX5_readableFor_6 : decode cX5_readableFor 6 = .ok (.ifCond .ne 5, 3) := by decide +kernel
theorem dX5_readableFor_9 : decode cX5_readableFor 9 = .ok (.iconst (-1), 1) := by decide +kernel
theorem dX5_readableFor_10 : decode cX5_readableFor 10 = .ok (.ireturn, 1) := by decide +kernel
theorem dX5_readableFor_11 : decode cX5_readableFor 11 = .ok (.aload_n 0, 1) := by decide +kernel
theorem dX5_readableFor_12 : decode cX5_readableFor 12 = .ok (.getfield 10, 3) := by decide +kernel
theorem dX5_readableFor_15 : decode cX5_readableFor 15 = .ok (.iload_n 1, 1) := by decide +kernel
theorem dX5_readableFor_16 : decode cX5_readableFor 16 = .ok (.iload_n 2, 1) := by decide +kernel
theorem dX5_readableFor_17 : decode cX5_readableFor 17 = .ok (.invokevirtual 162, 3) := by decide +kernel
theorem dX5_readableFor_20 : decode cX5_readableFor 20 = .ok (.ireturn, 1) := by decide +kernel
set_option maxRecDepth 20000 in
theorem ggX5_bestNight_X3_nightOfMostSigns : GoodIn wsX5_bestNight wsX3_nightOfMostSigns := goodIn_r _ [6, 7, 8, 9, 10, 11, 12, 13, 5, 14, 15, 16, 17, 18, 19, 20, 21, 22, 23, 24, 25, 26, 27, 28, 29, 30, 31, 32, 33, 34, 35, 36, 37, 44, 45, 46, 47, 48, 49, 50, 51, 52, 53, 54, 55, 56] (by decide +kernel) (by decide +kernel)
set_option maxRecDepth 20000 in
theorem gX5_bestNight_X3_nightOfMostSigns : GoodIn wsX5_bestNight (wsV RX5 165 RX3 yX3_nightOfMostSigns wsX3_nightOfMostSigns) := goodIn_app (goodIn_of _ (by decide +kernel)) ggX5_bestNight_X3_nightOfMostSigns
theorem dX5_bestNight_0 : decode cX5_bestNight 0 = .ok (.aload_n 0, 1) := by decide +kernel
theorem dX5_bestNight_1 : decode cX5_bestNight 1 = .ok (.getfield 10, 3) := by decide +kernel
theorem dX5_bestNight_4 : decode cX5_bestNight 4 = .ok (.getfield 82, 3) := by decide +kernel
theorem dX5_bestNight_7 : decode cX5_bestNight 7 = .ok (.ifCond .ne 6, 3) := by decide +kernel
theorem dX5_bestNight_10 : decode cX5_bestNight 10 = .ok (.bipush (-3), 2) := by decide +kernel
theorem dX5_bestNight_12 : decode cX5_bestNight 12 = .ok (.ireturn, 1) := by decide +kernel
theorem dX5_bestNight_13 : decode cX5_bestNight 13 = .ok (.aload_n 0, 1) := by decide +kernel
theorem dX5_bestNight_14 : decode cX5_bestNight 14 = .ok (.getfield 10, 3) := by decide +kernel
theorem dX5_bestNight_17 : decode cX5_bestNight 17 = .ok (.invokevirtual 165, 3) := by decide +kernel
theorem dX5_bestNight_20 : decode cX5_bestNight 20 = .ok (.ireturn, 1) := by decide +kernel
set_option maxRecDepth 20000 in
theorem ggX5_fewestChanges_X5_isWithin : GoodIn wsX5_fewestChanges wsX5_isWithin := goodIn_r _ [6] (by decide +kernel) (by decide +kernel)
set_option maxRecDepth 20000 in
theorem gX5_fewestChanges_X5_isWithin : GoodIn wsX5_fewestChanges (va_wsS RX5 73 yX5_isWithin wsX5_isWithin) := goodIn_app (goodIn_of _ (by decide +kernel)) ggX5_fewestChanges_X5_isWithin
set_option maxRecDepth 20000 in
theorem ggX5_fewestChanges_X0_driveAlong : GoodIn wsX5_fewestChanges wsX0_driveAlong := goodIn_r _ [11, 12, 13, 14, 15, 16, 17, 18, 19, 10, 20, 21, 22, 23, 24, 25, 26, 27, 28, 29, 30, 31, 32, 33, 34, 35, 36, 37, 38, 39, 40, 41, 42, 43, 44, 45, 46, 47, 48, 49, 50, 51, 52, 53, 54, 55, 62, 63, 64, 65, 66, 67, 68, 69, 70, 71, 72, 73, 74, 75] (by decide +kernel) (by decide +kernel)
set_option maxRecDepth 20000 in
theorem gX5_fewestChanges_X0_driveAlong : GoodIn wsX5_fewestChanges (wsV RX5 168 RX0 yX0_driveAlong wsX0_driveAlong) := goodIn_app (goodIn_of _ (by decide +kernel)) ggX5_fewestChanges_X0_driveAlong
theorem dX5_fewestChanges_0 : decode cX5_fewestChanges 0 = .ok (.iload_n 2, 1) := by decide +kernel
theorem dX5_fewestChanges_1 : decode cX5_fewestChanges 1 = .ok (.iconst 0, 1) := by decide +kernel
theorem dX5_fewestChanges_2 : decode cX5_fewestChanges 2 = .ok (.iconst 2, 1) := by decide +kernel
theorem dX5_fewestChanges_3 : decode cX5_fewestChanges 3 = .ok (.invokestatic 73, 3) := by decide +kernel
theorem dX5_fewestChanges_6 : decode cX5_fewestChanges 6 = .ok (.ifCond .ne 5, 3) := by decide +kernel
theorem dX5_fewestChanges_9 : decode cX5_fewestChanges 9 = .ok (.iconst (-1), 1) := by decide +kernel
theorem dX5_fewestChanges_10 : decode cX5_fewestChanges 10 = .ok (.ireturn, 1) := by decide +kernel
theorem dX5_fewestChanges_11 : decode cX5_fewestChanges 11 = .ok (.iload_n 1, 1) := by decide +kernel
theorem dX5_fewestChanges_12 : decode cX5_fewestChanges 12 = .ok (.iconst 0, 1) := by decide +kernel
theorem dX5_fewestChanges_13 : decode cX5_fewestChanges 13 = .ok (.iconst 1, 1) := by decide +kernel
theorem dX5_fewestChanges_14 : decode cX5_fewestChanges 14 = .ok (.invokestatic 73, 3) := by decide +kernel
theorem dX5_fewestChanges_17 : decode cX5_fewestChanges 17 = .ok (.ifCond .ne 6, 3) := by decide +kernel
theorem dX5_fewestChanges_20 : decode cX5_fewestChanges 20 = .ok (.bipush (-2), 2) := by decide +kernel
theorem dX5_fewestChanges_22 : decode cX5_fewestChanges 22 = .ok (.ireturn, 1) := by decide +kernel
theorem dX5_fewestChanges_23 : decode cX5_fewestChanges 23 = .ok (.aload_n 0, 1) := by decide +kernel
theorem dX5_fewestChanges_24 : decode cX5_fewestChanges 24 = .ok (.getfield 40, 3) := by decide +kernel
theorem dX5_fewestChanges_27 : decode cX5_fewestChanges 27 = .ok (.aload_n 0, 1) := by decide +kernel
theorem dX5_fewestChanges_28 : decode cX5_fewestChanges 28 = .ok (.getfield 10, 3) := by decide +kernel
theorem dX5_fewestChanges_31 : decode cX5_fewestChanges 31 = .ok (.iload_n 1, 1) := by decide +kernel
theorem dX5_fewestChanges_32 : decode cX5_fewestChanges 32 = .ok (.iload_n 2, 1) := by decide +kernel
theorem dX5_fewestChanges_33 : decode cX5_fewestChanges 33 = .ok (.invokevirtual 168, 3) := by decide +kernel
theorem dX5_fewestChanges_36 : decode cX5_fewestChanges 36 = .ok (.ireturn, 1) := by decide +kernel
set_option maxRecDepth 20000 in
theorem ggX5_recordedRoad_X1_record : GoodIn wsX5_recordedRoad wsX1_record := goodIn_r _ [7, 8, 9, 10, 11, 12, 13, 14, 15, 16, 17, 18, 19, 20, 21, 22, 23, 24, 25, 26, 27, 28, 29, 30, 31, 32, 33, 34, 35, 36, 43, 44, 45, 46, 47, 48, 49, 50, 51, 52, 53, 54, 55, 56, 57, 58] (by decide +kernel) (by decide +kernel)
set_option maxRecDepth 20000 in
theorem gX5_recordedRoad_X1_record : GoodIn wsX5_recordedRoad (wsV RX5 184 RX1 yX1_record wsX1_record) := goodIn_app (goodIn_of _ (by decide +kernel)) ggX5_recordedRoad_X1_record
theorem dX5_recordedRoad_0 : decode cX5_recordedRoad 0 = .ok (.aload_n 0, 1) := by decide +kernel
theorem dX5_recordedRoad_1 : decode cX5_recordedRoad 1 = .ok (.getfield 26, 3) := by decide +kernel
theorem dX5_recordedRoad_4 : decode cX5_recordedRoad 4 = .ok (.aload_n 0, 1) := by decide +kernel
theorem dX5_recordedRoad_5 : decode cX5_recordedRoad 5 = .ok (.getfield 10, 3) := by decide +kernel
theorem dX5_recordedRoad_8 : decode cX5_recordedRoad 8 = .ok (.invokevirtual 184, 3) := by decide +kernel
theorem dX5_recordedRoad_11 : decode cX5_recordedRoad 11 = .ok (.aload_n 0, 1) := by decide +kernel
theorem dX5_recordedRoad_12 : decode cX5_recordedRoad 12 = .ok (.getfield 10, 3) := by decide +kernel
theorem dX5_recordedRoad_15 : decode cX5_recordedRoad 15 = .ok (.areturn, 1) := by decide +kernel
set_option maxRecDepth 20000 in
theorem ggX5_arrowError_X5_placeError : GoodIn wsX5_arrowError wsX5_placeError := goodIn_r _ [5, 6, 7, 4, 8, 9, 10, 11] (by decide +kernel) (by decide +kernel)
set_option maxRecDepth 20000 in
theorem gX5_arrowError_X5_placeError : GoodIn wsX5_arrowError (va_wsS RX5 55 yX5_placeError wsX5_placeError) := goodIn_app (goodIn_of _ (by decide +kernel)) ggX5_arrowError_X5_placeError
set_option maxRecDepth 20000 in
theorem ggX5_arrowError_X3_refusal : GoodIn wsX5_arrowError wsX3_refusal := goodIn_r _ [16, 17, 18, 19, 15, 20, 21, 10, 4, 11, 22, 23, 24, 25, 26, 27, 28, 29, 30, 31, 32, 33, 34, 35, 36, 37, 38, 39, 40, 41, 42, 43, 50, 51, 52, 53, 54, 55, 56, 57, 58, 59, 60, 61, 62] (by decide +kernel) (by decide +kernel)
set_option maxRecDepth 20000 in
theorem gX5_arrowError_X3_refusal : GoodIn wsX5_arrowError (wsV RX5 159 RX3 yX3_refusal wsX3_refusal) := goodIn_app (goodIn_of _ (by decide +kernel)) ggX5_arrowError_X3_refusal
theorem dX5_arrowError_0 : decode cX5_arrowError 0 = .ok (.iload_n 1, 1) := by decide +kernel
theorem dX5_arrowError_1 : decode cX5_arrowError 1 = .ok (.iconst 3, 1) := by decide +kernel
theorem dX5_arrowError_2 : decode cX5_arrowError 2 = .ok (.iload_n 2, 1) := by decide +kernel
theorem dX5_arrowError_3 : decode cX5_arrowError 3 = .ok (.iload_n 3, 1) := by decide +kernel
theorem dX5_arrowError_4 : decode cX5_arrowError 4 = .ok (.iconst 3, 1) := by decide +kernel
theorem dX5_arrowError_5 : decode cX5_arrowError 5 = .ok (.invokestatic 55, 3) := by decide +kernel
theorem dX5_arrowError_8 : decode cX5_arrowError 8 = .ok (.istore 4, 2) := by decide +kernel
theorem dX5_arrowError_10 : decode cX5_arrowError 10 = .ok (.iload 4, 2) := by decide +kernel
theorem dX5_arrowError_12 : decode cX5_arrowError 12 = .ok (.ifCond .eq 6, 3) := by decide +kernel
theorem dX5_arrowError_15 : decode cX5_arrowError 15 = .ok (.iload 4, 2) := by decide +kernel
theorem dX5_arrowError_17 : decode cX5_arrowError 17 = .ok (.ireturn, 1) := by decide +kernel
theorem dX5_arrowError_18 : decode cX5_arrowError 18 = .ok (.aload_n 0, 1) := by decide +kernel
theorem dX5_arrowError_19 : decode cX5_arrowError 19 = .ok (.getfield 10, 3) := by decide +kernel
theorem dX5_arrowError_22 : decode cX5_arrowError 22 = .ok (.iload_n 1, 1) := by decide +kernel
theorem dX5_arrowError_23 : decode cX5_arrowError 23 = .ok (.iload_n 2, 1) := by decide +kernel
theorem dX5_arrowError_24 : decode cX5_arrowError 24 = .ok (.iload_n 3, 1) := by decide +kernel
theorem dX5_arrowError_25 : decode cX5_arrowError 25 = .ok (.invokevirtual 159, 3) := by decide +kernel
theorem dX5_arrowError_28 : decode cX5_arrowError 28 = .ok (.ifCond .ne 7, 3) := by decide +kernel
theorem dX5_arrowError_31 : decode cX5_arrowError 31 = .ok (.iconst 0, 1) := by decide +kernel
theorem dX5_arrowError_32 : decode cX5_arrowError 32 = .ok (.goto 5, 3) := by decide +kernel
theorem dX5_arrowError_35 : decode cX5_arrowError 35 = .ok (.bipush (-3), 2) := by decide +kernel
theorem dX5_arrowError_37 : decode cX5_arrowError 37 = .ok (.ireturn, 1) := by decide +kernel
set_option maxRecDepth 20000 in
theorem ggX5_nightError_X5_isWithin : GoodIn wsX5_nightError wsX5_isWithin := goodIn_r _ [5] (by decide +kernel) (by decide +kernel)
set_option maxRecDepth 20000 in
theorem gX5_nightError_X5_isWithin : GoodIn wsX5_nightError (va_wsS RX5 73 yX5_isWithin wsX5_isWithin) := goodIn_app (goodIn_of _ (by decide +kernel)) ggX5_nightError_X5_isWithin
theorem dX5_nightError_0 : decode cX5_nightError 0 = .ok (.iload_n 1, 1) := by decide +kernel
theorem dX5_nightError_1 : decode cX5_nightError 1 = .ok (.iconst 0, 1) := by decide +kernel
theorem dX5_nightError_2 : decode cX5_nightError 2 = .ok (.bipush 15, 2) := by decide +kernel
theorem dX5_nightError_4 : decode cX5_nightError 4 = .ok (.invokestatic 73, 3) := by decide +kernel
theorem dX5_nightError_7 : decode cX5_nightError 7 = .ok (.ifCond .eq 13, 3) := by decide +kernel
theorem dX5_nightError_10 : decode cX5_nightError 10 = .ok (.iload_n 2, 1) := by decide +kernel
theorem dX5_nightError_11 : decode cX5_nightError 11 = .ok (.iconst 0, 1) := by decide +kernel
theorem dX5_nightError_12 : decode cX5_nightError 12 = .ok (.bipush 15, 2) := by decide +kernel
theorem dX5_nightError_14 : decode cX5_nightError 14 = .ok (.invokestatic 73, 3) := by decide +kernel
theorem dX5_nightError_17 : decode cX5_nightError 17 = .ok (.ifCond .ne 5, 3) := by decide +kernel
theorem dX5_nightError_20 : decode cX5_nightError 20 = .ok (.iconst (-1), 1) := by decide +kernel
theorem dX5_nightError_21 : decode cX5_nightError 21 = .ok (.ireturn, 1) := by decide +kernel
theorem dX5_nightError_22 : decode cX5_nightError 22 = .ok (.aload_n 0, 1) := by decide +kernel
theorem dX5_nightError_23 : decode cX5_nightError 23 = .ok (.getfield 10, 3) := by decide +kernel
theorem dX5_nightError_26 : decode cX5_nightError 26 = .ok (.getfield 82, 3) := by decide +kernel
theorem dX5_nightError_29 : decode cX5_nightError 29 = .ok (.ifCond .ne 8, 3) := by decide +kernel
theorem dX5_nightError_32 : decode cX5_nightError 32 = .ok (.bipush (-3), 2) := by decide +kernel
theorem dX5_nightError_34 : decode cX5_nightError 34 = .ok (.goto 4, 3) := by decide +kernel
theorem dX5_nightError_37 : decode cX5_nightError 37 = .ok (.iconst 0, 1) := by decide +kernel
theorem dX5_nightError_38 : decode cX5_nightError 38 = .ok (.ireturn, 1) := by decide +kernel
set_option maxRecDepth 20000 in
theorem ggX5_placeError_X5_isPlace : GoodIn wsX5_placeError wsX5_isPlace := goodIn_r _ [4, 5, 6, 3, 7] (by decide +kernel) (by decide +kernel)
set_option maxRecDepth 20000 in
theorem gX5_placeError_X5_isPlace : GoodIn wsX5_placeError (va_wsS RX5 65 yX5_isPlace wsX5_isPlace) := goodIn_app (goodIn_of _ (by decide +kernel)) ggX5_placeError_X5_isPlace
set_option maxRecDepth 20000 in
theorem ggX5_placeError_X5_isWithin : GoodIn wsX5_placeError wsX5_isWithin := goodIn_r _ [7] (by decide +kernel) (by decide +kernel)
set_option maxRecDepth 20000 in
theorem gX5_placeError_X5_isWithin : GoodIn wsX5_placeError (va_wsS RX5 73 yX5_isWithin wsX5_isWithin) := goodIn_app (goodIn_of _ (by decide +kernel)) ggX5_placeError_X5_isWithin
theorem dX5_placeError_0 : decode cX5_placeError 0 = .ok (.iload_n 0, 1) := by decide +kernel
theorem dX5_placeError_1 : decode cX5_placeError 1 = .ok (.iload_n 1, 1) := by decide +kernel
theorem dX5_placeError_2 : decode cX5_placeError 2 = .ok (.iload_n 2, 1) := by decide +kernel
theorem dX5_placeError_3 : decode cX5_placeError 3 = .ok (.invokestatic 65, 3) := by decide +kernel
theorem dX5_placeError_6 : decode cX5_placeError 6 = .ok (.ifCond .ne 5, 3) := by decide +kernel
theorem dX5_placeError_9 : decode cX5_placeError 9 = .ok (.iconst (-1), 1) := by decide +kernel
theorem dX5_placeError_10 : decode cX5_placeError 10 = .ok (.ireturn, 1) := by decide +kernel
theorem dX5_placeError_11 : decode cX5_placeError 11 = .ok (.iload_n 3, 1) := by decide +kernel
theorem dX5_placeError_12 : decode cX5_placeError 12 = .ok (.iconst 0, 1) := by decide +kernel
theorem dX5_placeError_13 : decode cX5_placeError 13 = .ok (.iload 4, 2) := by decide +kernel
theorem dX5_placeError_15 : decode cX5_placeError 15 = .ok (.iconst 1, 1) := by decide +kernel
theorem dX5_placeError_16 : decode cX5_placeError 16 = .ok (.isub, 1) := by decide +kernel
theorem dX5_placeError_17 : decode cX5_placeError 17 = .ok (.invokestatic 73, 3) := by decide +kernel
theorem dX5_placeError_20 : decode cX5_placeError 20 = .ok (.ifCond .eq 7, 3) := by decide +kernel
theorem dX5_placeError_23 : decode cX5_placeError 23 = .ok (.iconst 0, 1) := by decide +kernel
theorem dX5_placeError_24 : decode cX5_placeError 24 = .ok (.goto 5, 3) := by decide +kernel
theorem dX5_placeError_27 : decode cX5_placeError 27 = .ok (.bipush (-2), 2) := by decide +kernel
theorem dX5_placeError_29 : decode cX5_placeError 29 = .ok (.ireturn, 1) := by decide +kernel
set_option maxRecDepth 20000 in
theorem ggX5_isPlace_X5_isWithin : GoodIn wsX5_isPlace wsX5_isWithin := goodIn_r _ [4] (by decide +kernel) (by decide +kernel)
set_option maxRecDepth 20000 in
theorem gX5_isPlace_X5_isWithin : GoodIn wsX5_isPlace (va_wsS RX5 73 yX5_isWithin wsX5_isWithin) := goodIn_app (goodIn_of _ (by decide +kernel)) ggX5_isPlace_X5_isWithin
theorem dX5_isPlace_0 : decode cX5_isPlace 0 = .ok (.iload_n 0, 1) := by decide +kernel
theorem dX5_isPlace_1 : decode cX5_isPlace 1 = .ok (.iconst 0, 1) := by decide +kernel
theorem dX5_isPlace_2 : decode cX5_isPlace 2 = .ok (.iload_n 1, 1) := by decide +kernel
theorem dX5_isPlace_3 : decode cX5_isPlace 3 = .ok (.iconst 1, 1) := by decide +kernel
theorem dX5_isPlace_4 : decode cX5_isPlace 4 = .ok (.isub, 1) := by decide +kernel
theorem dX5_isPlace_5 : decode cX5_isPlace 5 = .ok (.invokestatic 73, 3) := by decide +kernel
theorem dX5_isPlace_8 : decode cX5_isPlace 8 = .ok (.ifCond .eq 17, 3) := by decide +kernel
theorem dX5_isPlace_11 : decode cX5_isPlace 11 = .ok (.iload_n 2, 1) := by decide +kernel
theorem dX5_isPlace_12 : decode cX5_isPlace 12 = .ok (.iconst 0, 1) := by decide +kernel
theorem dX5_isPlace_13 : decode cX5_isPlace 13 = .ok (.bipush 15, 2) := by decide +kernel
theorem dX5_isPlace_15 : decode cX5_isPlace 15 = .ok (.invokestatic 73, 3) := by decide +kernel
theorem dX5_isPlace_18 : decode cX5_isPlace 18 = .ok (.ifCond .eq 7, 3) := by decide +kernel
theorem dX5_isPlace_21 : decode cX5_isPlace 21 = .ok (.iconst 1, 1) := by decide +kernel
theorem dX5_isPlace_22 : decode cX5_isPlace 22 = .ok (.goto 4, 3) := by decide +kernel
theorem dX5_isPlace_25 : decode cX5_isPlace 25 = .ok (.iconst 0, 1) := by decide +kernel
theorem dX5_isPlace_26 : decode cX5_isPlace 26 = .ok (.ireturn, 1) := by decide +kernel
theorem dX5_isWithin_0 : decode cX5_isWithin 0 = .ok (.iload_n 0, 1) := by decide +kernel
theorem dX5_isWithin_1 : decode cX5_isWithin 1 = .ok (.iload_n 1, 1) := by decide +kernel
theorem dX5_isWithin_2 : decode cX5_isWithin 2 = .ok (.if_icmp .lt 12, 3) := by decide +kernel
theorem dX5_isWithin_5 : decode cX5_isWithin 5 = .ok (.iload_n 0, 1) := by decide +kernel
theorem dX5_isWithin_6 : decode cX5_isWithin 6 = .ok (.iload_n 2, 1) := by decide +kernel
theorem dX5_isWithin_7 : decode cX5_isWithin 7 = .ok (.if_icmp .gt 7, 3) := by decide +kernel
theorem dX5_isWithin_10 : decode cX5_isWithin 10 = .ok (.iconst 1, 1) := by decide +kernel
theorem dX5_isWithin_11 : decode cX5_isWithin 11 = .ok (.goto 4, 3) := by decide +kernel
theorem dX5_isWithin_14 : decode cX5_isWithin 14 = .ok (.iconst 0, 1) := by decide +kernel
theorem dX5_isWithin_15 : decode cX5_isWithin 15 = .ok (.ireturn, 1) := by decide +kernel
theorem dX5_asNumber_0 : decode cX5_asNumber 0 = .ok (.iload_n 0, 1) := by decide +kernel
theorem dX5_asNumber_1 : decode cX5_asNumber 1 = .ok (.ifCond .eq 7, 3) := by decide +kernel
theorem dX5_asNumber_4 : decode cX5_asNumber 4 = .ok (.iconst 1, 1) := by decide +kernel
theorem dX5_asNumber_5 : decode cX5_asNumber 5 = .ok (.goto 4, 3) := by decide +kernel
theorem dX5_asNumber_8 : decode cX5_asNumber 8 = .ok (.iconst 0, 1) := by decide +kernel
theorem dX5_asNumber_9 : decode cX5_asNumber 9 = .ok (.ireturn, 1) := by decide +kernel
theorem dJ9_abs_0f7a4_0 : decode cJ9_abs_0f7a4 0 = .ok (.iload_n 0, 1) := by decide +kernel
theorem dJ9_abs_0f7a4_1 : decode cJ9_abs_0f7a4 1 = .ok (.ifCond .ge 8, 3) := by decide +kernel
theorem dJ9_abs_0f7a4_4 : decode cJ9_abs_0f7a4 4 = .ok (.iload_n 0, 1) := by decide +kernel
theorem dJ9_abs_0f7a4_5 : decode cJ9_abs_0f7a4 5 = .ok (.ineg, 1) := by decide +kernel
theorem dJ9_abs_0f7a4_6 : decode cJ9_abs_0f7a4 6 = .ok (.goto 4, 3) := by decide +kernel
theorem dJ9_abs_0f7a4_9 : decode cJ9_abs_0f7a4 9 = .ok (.iload_n 0, 1) := by decide +kernel
theorem dJ9_abs_0f7a4_10 : decode cJ9_abs_0f7a4 10 = .ok (.ireturn, 1) := by decide +kernel
theorem dJ9_max_7cf53_0 : decode cJ9_max_7cf53 0 = .ok (.iload_n 0, 1) := by decide +kernel
theorem dJ9_max_7cf53_1 : decode cJ9_max_7cf53 1 = .ok (.iload_n 1, 1) := by decide +kernel
theorem dJ9_max_7cf53_2 : decode cJ9_max_7cf53 2 = .ok (.if_icmp .lt 7, 3) := by decide +kernel
theorem dJ9_max_7cf53_5 : decode cJ9_max_7cf53 5 = .ok (.iload_n 0, 1) := by decide +kernel
theorem dJ9_max_7cf53_6 : decode cJ9_max_7cf53 6 = .ok (.goto 4, 3) := by decide +kernel
theorem dJ9_max_7cf53_9 : decode cJ9_max_7cf53 9 = .ok (.iload_n 1, 1) := by decide +kernel
theorem dJ9_max_7cf53_10 : decode cJ9_max_7cf53 10 = .ok (.ireturn, 1) := by decide +kernel
theorem dJ9_min_7cf53_0 : decode cJ9_min_7cf53 0 = .ok (.iload_n 0, 1) := by decide +kernel
theorem dJ9_min_7cf53_1 : decode cJ9_min_7cf53 1 = .ok (.iload_n 1, 1) := by decide +kernel
theorem dJ9_min_7cf53_2 : decode cJ9_min_7cf53 2 = .ok (.if_icmp .gt 7, 3) := by decide +kernel
theorem dJ9_min_7cf53_5 : decode cJ9_min_7cf53 5 = .ok (.iload_n 0, 1) := by decide +kernel
theorem dJ9_min_7cf53_6 : decode cJ9_min_7cf53 6 = .ok (.goto 4, 3) := by decide +kernel
theorem dJ9_min_7cf53_9 : decode cJ9_min_7cf53 9 = .ok (.iload_n 1, 1) := by decide +kernel
theorem dJ9_min_7cf53_10 : decode cJ9_min_7cf53 10 = .ok (.ireturn, 1) := by decide +kernel
theorem dL_cell_0 : decode cL_cell 0 = .ok (.iload_n 1, 1) := by decide +kernel
theorem dL_cell_1 : decode cL_cell 1 = .ok (.aload_n 0, 1) := by decide +kernel
theorem dL_cell_2 : decode cL_cell 2 = .ok (.arraylength, 1) := by decide +kernel
theorem dL_cell_3 : decode cL_cell 3 = .ok (.if_icmp .ge 9, 3) := by decide +kernel
theorem dL_cell_6 : decode cL_cell 6 = .ok (.aload_n 0, 1) := by decide +kernel
theorem dL_cell_7 : decode cL_cell 7 = .ok (.iload_n 1, 1) := by decide +kernel
theorem dL_cell_8 : decode cL_cell 8 = .ok (.iaload, 1) := by decide +kernel
theorem dL_cell_9 : decode cL_cell 9 = .ok (.goto 10, 3) := by decide +kernel
theorem dL_cell_12 : decode cL_cell 12 = .ok (.ldc 7, 2) := by decide +kernel
theorem dL_cell_14 : decode cL_cell 14 = .ok (.iload_n 1, 1) := by decide +kernel
theorem dL_cell_15 : decode cL_cell 15 = .ok (.imul, 1) := by decide +kernel
theorem dL_cell_16 : decode cL_cell 16 = .ok (.ldc 8, 2) := by decide +kernel
theorem dL_cell_18 : decode cL_cell 18 = .ok (.iadd, 1) := by decide +kernel
theorem dL_cell_19 : decode cL_cell 19 = .ok (.ireturn, 1) := by decide +kernel
theorem dL_low_0 : decode cL_low 0 = .ok (.iload_n 0, 1) := by decide +kernel
theorem dL_low_1 : decode cL_low 1 = .ok (.ldc 9, 2) := by decide +kernel
theorem dL_low_3 : decode cL_low 3 = .ok (.iand, 1) := by decide +kernel
theorem dL_low_4 : decode cL_low 4 = .ok (.iload_n 1, 1) := by decide +kernel
theorem dL_low_5 : decode cL_low 5 = .ok (.irem, 1) := by decide +kernel
theorem dL_low_6 : decode cL_low 6 = .ok (.ireturn, 1) := by decide +kernel
theorem dL_read_0 : decode cL_read 0 = .ok (.aload_n 0, 1) := by decide +kernel
theorem dL_read_1 : decode cL_read 1 = .ok (.iload_n 3, 1) := by decide +kernel
theorem dL_read_2 : decode cL_read 2 = .ok (.iaload, 1) := by decide +kernel
theorem dL_read_3 : decode cL_read 3 = .ok (.ifCond .lt 16, 3) := by decide +kernel
theorem dL_read_6 : decode cL_read 6 = .ok (.aload_n 1, 1) := by decide +kernel
theorem dL_read_7 : decode cL_read 7 = .ok (.iload_n 3, 1) := by decide +kernel
theorem dL_read_8 : decode cL_read 8 = .ok (.iaload, 1) := by decide +kernel
theorem dL_read_9 : decode cL_read 9 = .ok (.aload_n 2, 1) := by decide +kernel
theorem dL_read_10 : decode cL_read 10 = .ok (.iconst 0, 1) := by decide +kernel
theorem dL_read_11 : decode cL_read 11 = .ok (.iaload, 1) := by decide +kernel
theorem dL_read_12 : decode cL_read 12 = .ok (.if_icmp .lt 7, 3) := by decide +kernel
theorem dL_read_15 : decode cL_read 15 = .ok (.iconst 1, 1) := by decide +kernel
theorem dL_read_16 : decode cL_read 16 = .ok (.goto 4, 3) := by decide +kernel
theorem dL_read_19 : decode cL_read 19 = .ok (.iconst 0, 1) := by decide +kernel
theorem dL_read_20 : decode cL_read 20 = .ok (.ireturn, 1) := by decide +kernel
theorem dL_reason_0 : decode cL_reason 0 = .ok (.iconst (-1), 1) := by decide +kernel
theorem dL_reason_1 : decode cL_reason 1 = .ok (.istore 5, 2) := by decide +kernel
theorem dL_reason_3 : decode cL_reason 3 = .ok (.iconst (-1), 1) := by decide +kernel
theorem dL_reason_4 : decode cL_reason 4 = .ok (.istore 6, 2) := by decide +kernel
theorem dL_reason_6 : decode cL_reason 6 = .ok (.bipush 15, 2) := by decide +kernel
theorem dL_reason_8 : decode cL_reason 8 = .ok (.istore 7, 2) := by decide +kernel
theorem dL_reason_10 : decode cL_reason 10 = .ok (.iload 7, 2) := by decide +kernel
theorem dL_reason_12 : decode cL_reason 12 = .ok (.iload_n 3, 1) := by decide +kernel
theorem dL_reason_13 : decode cL_reason 13 = .ok (.if_icmp .le 30, 3) := by decide +kernel
theorem dL_reason_16 : decode cL_reason 16 = .ok (.aload_n 0, 1) := by decide +kernel
theorem dL_reason_17 : decode cL_reason 17 = .ok (.bipush 16, 2) := by decide +kernel
theorem dL_reason_19 : decode cL_reason 19 = .ok (.iload_n 2, 1) := by decide +kernel
theorem dL_reason_20 : decode cL_reason 20 = .ok (.imul, 1) := by decide +kernel
theorem dL_reason_21 : decode cL_reason 21 = .ok (.iload 7, 2) := by decide +kernel
theorem dL_reason_23 : decode cL_reason 23 = .ok (.iadd, 1) := by decide +kernel
theorem dL_reason_24 : decode cL_reason 24 = .ok (.iaload, 1) := by decide +kernel
theorem dL_reason_25 : decode cL_reason 25 = .ok (.ifCond .lt 8, 3) := by decide +kernel
theorem dL_reason_28 : decode cL_reason 28 = .ok (.iload 7, 2) := by decide +kernel
theorem dL_reason_30 : decode cL_reason 30 = .ok (.goto 5, 3) := by decide +kernel
theorem dL_reason_33 : decode cL_reason 33 = .ok (.iload 5, 2) := by decide +kernel
theorem dL_reason_35 : decode cL_reason 35 = .ok (.istore 5, 2) := by decide +kernel
theorem dL_reason_37 : decode cL_reason 37 = .ok (.iinc 7 (-1), 3) := by decide +kernel
theorem dL_reason_40 : decode cL_reason 40 = .ok (.goto (-30), 3) := by decide +kernel
theorem dL_reason_43 : decode cL_reason 43 = .ok (.iconst 0, 1) := by decide +kernel
theorem dL_reason_44 : decode cL_reason 44 = .ok (.istore 7, 2) := by decide +kernel
theorem dL_reason_46 : decode cL_reason 46 = .ok (.iload 7, 2) := by decide +kernel
theorem dL_reason_48 : decode cL_reason 48 = .ok (.iload_n 3, 1) := by decide +kernel
theorem dL_reason_49 : decode cL_reason 49 = .ok (.if_icmp .ge 30, 3) := by decide +kernel
theorem dL_reason_52 : decode cL_reason 52 = .ok (.aload_n 0, 1) := by decide +kernel
theorem dL_reason_53 : decode cL_reason 53 = .ok (.bipush 16, 2) := by decide +kernel
theorem dL_reason_55 : decode cL_reason 55 = .ok (.iload_n 2, 1) := by decide +kernel
theorem dL_reason_56 : decode cL_reason 56 = .ok (.imul, 1) := by decide +kernel
theorem dL_reason_57 : decode cL_reason 57 = .ok (.iload 7, 2) := by decide +kernel
theorem dL_reason_59 : decode cL_reason 59 = .ok (.iadd, 1) := by decide +kernel
theorem dL_reason_60 : decode cL_reason 60 = .ok (.iaload, 1) := by decide +kernel
theorem dL_reason_61 : decode cL_reason 61 = .ok (.ifCond .lt 8, 3) := by decide +kernel
theorem dL_reason_64 : decode cL_reason 64 = .ok (.iload 7, 2) := by decide +kernel
theorem dL_reason_66 : decode cL_reason 66 = .ok (.goto 5, 3) := by decide +kernel
theorem dL_reason_69 : decode cL_reason 69 = .ok (.iload 6, 2) := by decide +kernel
theorem dL_reason_71 : decode cL_reason 71 = .ok (.istore 6, 2) := by decide +kernel
theorem dL_reason_73 : decode cL_reason 73 = .ok (.iinc 7 1, 3) := by decide +kernel
theorem dL_reason_76 : decode cL_reason 76 = .ok (.goto (-30), 3) := by decide +kernel
theorem dL_reason_79 : decode cL_reason 79 = .ok (.iload 5, 2) := by decide +kernel
theorem dL_reason_81 : decode cL_reason 81 = .ok (.ifCond .lt 29, 3) := by decide +kernel
theorem dL_reason_84 : decode cL_reason 84 = .ok (.iload 5, 2) := by decide +kernel
theorem dL_reason_86 : decode cL_reason 86 = .ok (.iload_n 3, 1) := by decide +kernel
theorem dL_reason_87 : decode cL_reason 87 = .ok (.iconst 4, 1) := by decide +kernel
theorem dL_reason_88 : decode cL_reason 88 = .ok (.iadd, 1) := by decide +kernel
theorem dL_reason_89 : decode cL_reason 89 = .ok (.if_icmp .gt 21, 3) := by decide +kernel
theorem dL_reason_92 : decode cL_reason 92 = .ok (.iload 4, 2) := by decide +kernel
theorem dL_reason_94 : decode cL_reason 94 = .ok (.iconst 1, 1) := by decide +kernel
theorem dL_reason_95 : decode cL_reason 95 = .ok (.if_icmp .eq 15, 3) := by decide +kernel
theorem dL_reason_98 : decode cL_reason 98 = .ok (.aload_n 0, 1) := by decide +kernel
theorem dL_reason_99 : decode cL_reason 99 = .ok (.bipush 16, 2) := by decide +kernel
theorem dL_reason_101 : decode cL_reason 101 = .ok (.iload_n 2, 1) := by decide +kernel
theorem dL_reason_102 : decode cL_reason 102 = .ok (.imul, 1) := by decide +kernel
theorem dL_reason_103 : decode cL_reason 103 = .ok (.iload 5, 2) := by decide +kernel
theorem dL_reason_105 : decode cL_reason 105 = .ok (.iadd, 1) := by decide +kernel
theorem dL_reason_106 : decode cL_reason 106 = .ok (.iaload, 1) := by decide +kernel
theorem dL_reason_107 : decode cL_reason 107 = .ok (.ifCond .ne 34, 3) := by decide +kernel
theorem dL_reason_110 : decode cL_reason 110 = .ok (.iload 6, 2) := by decide +kernel
theorem dL_reason_112 : decode cL_reason 112 = .ok (.ifCond .lt 31, 3) := by decide +kernel
theorem dL_reason_115 : decode cL_reason 115 = .ok (.iload 6, 2) := by decide +kernel
theorem dL_reason_117 : decode cL_reason 117 = .ok (.iload_n 3, 1) := by decide +kernel
theorem dL_reason_118 : decode cL_reason 118 = .ok (.iconst 4, 1) := by decide +kernel
theorem dL_reason_119 : decode cL_reason 119 = .ok (.isub, 1) := by decide +kernel
theorem dL_reason_120 : decode cL_reason 120 = .ok (.if_icmp .lt 23, 3) := by decide +kernel
theorem dL_reason_123 : decode cL_reason 123 = .ok (.aload_n 0, 1) := by decide +kernel
theorem dL_reason_124 : decode cL_reason 124 = .ok (.bipush 16, 2) := by decide +kernel
theorem dL_reason_126 : decode cL_reason 126 = .ok (.iload_n 2, 1) := by decide +kernel
theorem dL_reason_127 : decode cL_reason 127 = .ok (.imul, 1) := by decide +kernel
theorem dL_reason_128 : decode cL_reason 128 = .ok (.iload 6, 2) := by decide +kernel
theorem dL_reason_130 : decode cL_reason 130 = .ok (.iadd, 1) := by decide +kernel
theorem dL_reason_131 : decode cL_reason 131 = .ok (.iaload, 1) := by decide +kernel
theorem dL_reason_132 : decode cL_reason 132 = .ok (.iconst 1, 1) := by decide +kernel
theorem dL_reason_133 : decode cL_reason 133 = .ok (.if_icmp .eq 10, 3) := by decide +kernel
theorem dL_reason_136 : decode cL_reason 136 = .ok (.iload 4, 2) := by decide +kernel
theorem dL_reason_138 : decode cL_reason 138 = .ok (.ifCond .eq 5, 3) := by decide +kernel
theorem dL_reason_141 : decode cL_reason 141 = .ok (.iconst 1, 1) := by decide +kernel
theorem dL_reason_142 : decode cL_reason 142 = .ok (.ireturn, 1) := by decide +kernel
theorem dL_reason_143 : decode cL_reason 143 = .ok (.iload_n 2, 1) := by decide +kernel
theorem dL_reason_144 : decode cL_reason 144 = .ok (.ifCond .le 61, 3) := by decide +kernel
theorem dL_reason_147 : decode cL_reason 147 = .ok (.aload_n 0, 1) := by decide +kernel
theorem dL_reason_148 : decode cL_reason 148 = .ok (.bipush 16, 2) := by decide +kernel
theorem dL_reason_150 : decode cL_reason 150 = .ok (.iload_n 2, 1) := by decide +kernel
theorem dL_reason_151 : decode cL_reason 151 = .ok (.imul, 1) := by decide +kernel
theorem dL_reason_152 : decode cL_reason 152 = .ok (.bipush 16, 2) := by decide +kernel
theorem dL_reason_154 : decode cL_reason 154 = .ok (.isub, 1) := by decide +kernel
theorem dL_reason_155 : decode cL_reason 155 = .ok (.iload_n 3, 1) := by decide +kernel
theorem dL_reason_156 : decode cL_reason 156 = .ok (.iadd, 1) := by decide +kernel
theorem dL_reason_157 : decode cL_reason 157 = .ok (.iaload, 1) := by decide +kernel
theorem dL_reason_158 : decode cL_reason 158 = .ok (.iload 4, 2) := by decide +kernel
theorem dL_reason_160 : decode cL_reason 160 = .ok (.iadd, 1) := by decide +kernel
theorem dL_reason_161 : decode cL_reason 161 = .ok (.iconst 1, 1) := by decide +kernel
theorem dL_reason_162 : decode cL_reason 162 = .ok (.if_icmp .ne 43, 3) := by decide +kernel
theorem dL_reason_165 : decode cL_reason 165 = .ok (.aload_n 0, 1) := by decide +kernel
theorem dL_reason_166 : decode cL_reason 166 = .ok (.bipush 16, 2) := by decide +kernel
theorem dL_reason_168 : decode cL_reason 168 = .ok (.iload_n 2, 1) := by decide +kernel
theorem dL_reason_169 : decode cL_reason 169 = .ok (.imul, 1) := by decide +kernel
theorem dL_reason_170 : decode cL_reason 170 = .ok (.bipush 16, 2) := by decide +kernel
theorem dL_reason_172 : decode cL_reason 172 = .ok (.isub, 1) := by decide +kernel
theorem dL_reason_173 : decode cL_reason 173 = .ok (.iload_n 3, 1) := by decide +kernel
theorem dL_reason_174 : decode cL_reason 174 = .ok (.iadd, 1) := by decide +kernel
theorem dL_reason_175 : decode cL_reason 175 = .ok (.iaload, 1) := by decide +kernel
theorem dL_reason_176 : decode cL_reason 176 = .ok (.ifCond .lt 29, 3) := by decide +kernel
theorem dL_reason_179 : decode cL_reason 179 = .ok (.iload 4, 2) := by decide +kernel
theorem dL_reason_181 : decode cL_reason 181 = .ok (.iconst 2, 1) := by decide +kernel
theorem dL_reason_182 : decode cL_reason 182 = .ok (.if_icmp .ge 23, 3) := by decide +kernel
theorem dL_reason_185 : decode cL_reason 185 = .ok (.aload_n 1, 1) := by decide +kernel
theorem dL_reason_186 : decode cL_reason 186 = .ok (.bipush 16, 2) := by decide +kernel
theorem dL_reason_188 : decode cL_reason 188 = .ok (.iload_n 2, 1) := by decide +kernel
theorem dL_reason_189 : decode cL_reason 189 = .ok (.imul, 1) := by decide +kernel
theorem dL_reason_190 : decode cL_reason 190 = .ok (.bipush 16, 2) := by decide +kernel
theorem dL_reason_192 : decode cL_reason 192 = .ok (.isub, 1) := by decide +kernel
theorem dL_reason_193 : decode cL_reason 193 = .ok (.iload_n 3, 1) := by decide +kernel
theorem dL_reason_194 : decode cL_reason 194 = .ok (.iadd, 1) := by decide +kernel
theorem dL_reason_195 : decode cL_reason 195 = .ok (.iaload, 1) := by decide +kernel
theorem dL_reason_196 : decode cL_reason 196 = .ok (.iconst 2, 1) := by decide +kernel
theorem dL_reason_197 : decode cL_reason 197 = .ok (.irem, 1) := by decide +kernel
theorem dL_reason_198 : decode cL_reason 198 = .ok (.ifCond .ne 7, 3) := by decide +kernel
theorem dL_reason_201 : decode cL_reason 201 = .ok (.iconst 1, 1) := by decide +kernel
theorem dL_reason_202 : decode cL_reason 202 = .ok (.goto 4, 3) := by decide +kernel
theorem dL_reason_205 : decode cL_reason 205 = .ok (.iconst 0, 1) := by decide +kernel
theorem dL_reason_206 : decode cL_reason 206 = .ok (.istore 7, 2) := by decide +kernel
theorem dL_reason_208 : decode cL_reason 208 = .ok (.iload_n 2, 1) := by decide +kernel
theorem dL_reason_209 : decode cL_reason 209 = .ok (.iconst 2, 1) := by decide +kernel
theorem dL_reason_210 : decode cL_reason 210 = .ok (.if_icmp .ge 58, 3) := by decide +kernel
theorem dL_reason_213 : decode cL_reason 213 = .ok (.aload_n 0, 1) := by decide +kernel
theorem dL_reason_214 : decode cL_reason 214 = .ok (.bipush 16, 2) := by decide +kernel
theorem dL_reason_216 : decode cL_reason 216 = .ok (.iload_n 2, 1) := by decide +kernel
theorem dL_reason_217 : decode cL_reason 217 = .ok (.imul, 1) := by decide +kernel
theorem dL_reason_218 : decode cL_reason 218 = .ok (.bipush 16, 2) := by decide +kernel
theorem dL_reason_220 : decode cL_reason 220 = .ok (.iadd, 1) := by decide +kernel
theorem dL_reason_221 : decode cL_reason 221 = .ok (.iload_n 3, 1) := by decide +kernel
theorem dL_reason_222 : decode cL_reason 222 = .ok (.iadd, 1) := by decide +kernel
theorem dL_reason_223 : decode cL_reason 223 = .ok (.iaload, 1) := by decide +kernel
theorem dL_reason_224 : decode cL_reason 224 = .ok (.iload 4, 2) := by decide +kernel
theorem dL_reason_226 : decode cL_reason 226 = .ok (.iadd, 1) := by decide +kernel
theorem dL_reason_227 : decode cL_reason 227 = .ok (.iconst 1, 1) := by decide +kernel
theorem dL_reason_228 : decode cL_reason 228 = .ok (.if_icmp .ne 40, 3) := by decide +kernel
theorem dL_reason_231 : decode cL_reason 231 = .ok (.aload_n 0, 1) := by decide +kernel
theorem dL_reason_232 : decode cL_reason 232 = .ok (.bipush 16, 2) := by decide +kernel
theorem dL_reason_234 : decode cL_reason 234 = .ok (.iload_n 2, 1) := by decide +kernel
theorem dL_reason_235 : decode cL_reason 235 = .ok (.imul, 1) := by decide +kernel
theorem dL_reason_236 : decode cL_reason 236 = .ok (.bipush 16, 2) := by decide +kernel
theorem dL_reason_238 : decode cL_reason 238 = .ok (.iadd, 1) := by decide +kernel
theorem dL_reason_239 : decode cL_reason 239 = .ok (.iload_n 3, 1) := by decide +kernel
theorem dL_reason_240 : decode cL_reason 240 = .ok (.iadd, 1) := by decide +kernel
theorem dL_reason_241 : decode cL_reason 241 = .ok (.iaload, 1) := by decide +kernel
theorem dL_reason_242 : decode cL_reason 242 = .ok (.ifCond .lt 26, 3) := by decide +kernel
theorem dL_reason_245 : decode cL_reason 245 = .ok (.iload 4, 2) := by decide +kernel
theorem dL_reason_247 : decode cL_reason 247 = .ok (.iconst 2, 1) := by decide +kernel
theorem dL_reason_248 : decode cL_reason 248 = .ok (.if_icmp .ge 20, 3) := by decide +kernel
theorem dL_reason_251 : decode cL_reason 251 = .ok (.aload_n 1, 1) := by decide +kernel
theorem dL_reason_252 : decode cL_reason 252 = .ok (.bipush 16, 2) := by decide +kernel
theorem dL_reason_254 : decode cL_reason 254 = .ok (.iload_n 2, 1) := by decide +kernel
theorem dL_reason_255 : decode cL_reason 255 = .ok (.imul, 1) := by decide +kernel
theorem dL_reason_256 : decode cL_reason 256 = .ok (.iload_n 3, 1) := by decide +kernel
theorem dL_reason_257 : decode cL_reason 257 = .ok (.iadd, 1) := by decide +kernel
theorem dL_reason_258 : decode cL_reason 258 = .ok (.iaload, 1) := by decide +kernel
theorem dL_reason_259 : decode cL_reason 259 = .ok (.iconst 2, 1) := by decide +kernel
theorem dL_reason_260 : decode cL_reason 260 = .ok (.irem, 1) := by decide +kernel
theorem dL_reason_261 : decode cL_reason 261 = .ok (.ifCond .ne 7, 3) := by decide +kernel
theorem dL_reason_264 : decode cL_reason 264 = .ok (.iconst 1, 1) := by decide +kernel
theorem dL_reason_265 : decode cL_reason 265 = .ok (.goto 4, 3) := by decide +kernel
theorem dL_reason_268 : decode cL_reason 268 = .ok (.iconst 0, 1) := by decide +kernel
theorem dL_reason_269 : decode cL_reason 269 = .ok (.istore 8, 2) := by decide +kernel
theorem dL_reason_271 : decode cL_reason 271 = .ok (.iload 7, 2) := by decide +kernel
theorem dL_reason_273 : decode cL_reason 273 = .ok (.ifCond .ne 8, 3) := by decide +kernel
theorem dL_reason_276 : decode cL_reason 276 = .ok (.iload 8, 2) := by decide +kernel
theorem dL_reason_278 : decode cL_reason 278 = .ok (.ifCond .eq 7, 3) := by decide +kernel
theorem dL_reason_281 : decode cL_reason 281 = .ok (.iconst 2, 1) := by decide +kernel
theorem dL_reason_282 : decode cL_reason 282 = .ok (.goto 4, 3) := by decide +kernel
theorem dL_reason_285 : decode cL_reason 285 = .ok (.iconst 0, 1) := by decide +kernel
theorem dL_reason_286 : decode cL_reason 286 = .ok (.ireturn, 1) := by decide +kernel
set_option maxRecDepth 20000 in
theorem ggL_day_L_read : GoodIn wsL_day wsL_read := goodIn_r _ [4] (by decide +kernel) (by decide +kernel)
set_option maxRecDepth 20000 in
theorem gL_day_L_read : GoodIn wsL_day (va_wsS RL 10 yL_read wsL_read) := goodIn_app (goodIn_of _ (by decide +kernel)) ggL_day_L_read
theorem dL_day_0 : decode cL_day 0 = .ok (.iconst 0, 1) := by decide +kernel
theorem dL_day_1 : decode cL_day 1 = .ok (.istore 7, 2) := by decide +kernel
theorem dL_day_3 : decode cL_day 3 = .ok (.iconst 0, 1) := by decide +kernel
theorem dL_day_4 : decode cL_day 4 = .ok (.istore 8, 2) := by decide +kernel
theorem dL_day_6 : decode cL_day 6 = .ok (.iload 8, 2) := by decide +kernel
theorem dL_day_8 : decode cL_day 8 = .ok (.bipush 48, 2) := by decide +kernel
theorem dL_day_10 : decode cL_day 10 = .ok (.if_icmp .ge 189, 3) := by decide +kernel
theorem dL_day_13 : decode cL_day 13 = .ok (.aload 6, 2) := by decide +kernel
theorem dL_day_15 : decode cL_day 15 = .ok (.iconst 2, 1) := by decide +kernel
theorem dL_day_16 : decode cL_day 16 = .ok (.iload 8, 2) := by decide +kernel
theorem dL_day_18 : decode cL_day 18 = .ok (.bipush 16, 2) := by decide +kernel
theorem dL_day_20 : decode cL_day 20 = .ok (.idiv, 1) := by decide +kernel
theorem dL_day_21 : decode cL_day 21 = .ok (.iadd, 1) := by decide +kernel
theorem dL_day_22 : decode cL_day 22 = .ok (.iaload, 1) := by decide +kernel
theorem dL_day_23 : decode cL_day 23 = .ok (.istore 9, 2) := by decide +kernel
theorem dL_day_25 : decode cL_day 25 = .ok (.aload_n 2, 1) := by decide +kernel
theorem dL_day_26 : decode cL_day 26 = .ok (.iload 8, 2) := by decide +kernel
theorem dL_day_28 : decode cL_day 28 = .ok (.iaload, 1) := by decide +kernel
theorem dL_day_29 : decode cL_day 29 = .ok (.ifCond .eq 11, 3) := by decide +kernel
theorem dL_day_32 : decode cL_day 32 = .ok (.aload_n 2, 1) := by decide +kernel
theorem dL_day_33 : decode cL_day 33 = .ok (.iload 8, 2) := by decide +kernel
theorem dL_day_35 : decode cL_day 35 = .ok (.iaload, 1) := by decide +kernel
theorem dL_day_36 : decode cL_day 36 = .ok (.iconst 1, 1) := by decide +kernel
theorem dL_day_37 : decode cL_day 37 = .ok (.if_icmp .ne 22, 3) := by decide +kernel
theorem dL_day_40 : decode cL_day 40 = .ok (.aload_n 2, 1) := by decide +kernel
theorem dL_day_41 : decode cL_day 41 = .ok (.aload_n 3, 1) := by decide +kernel
theorem dL_day_42 : decode cL_day 42 = .ok (.aload 6, 2) := by decide +kernel
theorem dL_day_44 : decode cL_day 44 = .ok (.iload 8, 2) := by decide +kernel
theorem dL_day_46 : decode cL_day 46 = .ok (.invokestatic 10, 3) := by decide +kernel
theorem dL_day_49 : decode cL_day 49 = .ok (.ifCond .eq 10, 3) := by decide +kernel
theorem dL_day_52 : decode cL_day 52 = .ok (.iload 9, 2) := by decide +kernel
theorem dL_day_54 : decode cL_day 54 = .ok (.iconst 2, 1) := by decide +kernel
theorem dL_day_55 : decode cL_day 55 = .ok (.idiv, 1) := by decide +kernel
theorem dL_day_56 : decode cL_day 56 = .ok (.goto 5, 3) := by decide +kernel
theorem dL_day_59 : decode cL_day 59 = .ok (.iload 9, 2) := by decide +kernel
theorem dL_day_61 : decode cL_day 61 = .ok (.istore 9, 2) := by decide +kernel
theorem dL_day_63 : decode cL_day 63 = .ok (.aload_n 1, 1) := by decide +kernel
theorem dL_day_64 : decode cL_day 64 = .ok (.iload 8, 2) := by decide +kernel
theorem dL_day_66 : decode cL_day 66 = .ok (.aload_n 1, 1) := by decide +kernel
theorem dL_day_67 : decode cL_day 67 = .ok (.iload 8, 2) := by decide +kernel
theorem dL_day_69 : decode cL_day 69 = .ok (.iaload, 1) := by decide +kernel
theorem dL_day_70 : decode cL_day 70 = .ok (.iload 9, 2) := by decide +kernel
theorem dL_day_72 : decode cL_day 72 = .ok (.if_icmp .ge 7, 3) := by decide +kernel
theorem dL_day_75 : decode cL_day 75 = .ok (.iconst 0, 1) := by decide +kernel
theorem dL_day_76 : decode cL_day 76 = .ok (.goto 10, 3) := by decide +kernel
theorem dL_day_79 : decode cL_day 79 = .ok (.aload_n 1, 1) := by decide +kernel
theorem dL_day_80 : decode cL_day 80 = .ok (.iload 8, 2) := by decide +kernel
theorem dL_day_82 : decode cL_day 82 = .ok (.iaload, 1) := by decide +kernel
theorem dL_day_83 : decode cL_day 83 = .ok (.iload 9, 2) := by decide +kernel
theorem dL_day_85 : decode cL_day 85 = .ok (.isub, 1) := by decide +kernel
theorem dL_day_86 : decode cL_day 86 = .ok (.iastore, 1) := by decide +kernel
theorem dL_day_87 : decode cL_day 87 = .ok (.aload_n 3, 1) := by decide +kernel
theorem dL_day_88 : decode cL_day 88 = .ok (.iload 8, 2) := by decide +kernel
theorem dL_day_90 : decode cL_day 90 = .ok (.aload_n 3, 1) := by decide +kernel
theorem dL_day_91 : decode cL_day 91 = .ok (.iload 8, 2) := by decide +kernel
theorem dL_day_93 : decode cL_day 93 = .ok (.iaload, 1) := by decide +kernel
theorem dL_day_94 : decode cL_day 94 = .ok (.iload 9, 2) := by decide +kernel
theorem dL_day_96 : decode cL_day 96 = .ok (.if_icmp .ge 7, 3) := by decide +kernel
theorem dL_day_99 : decode cL_day 99 = .ok (.iconst 0, 1) := by decide +kernel
theorem dL_day_100 : decode cL_day 100 = .ok (.goto 10, 3) := by decide +kernel
theorem dL_day_103 : decode cL_day 103 = .ok (.aload_n 3, 1) := by decide +kernel
theorem dL_day_104 : decode cL_day 104 = .ok (.iload 8, 2) := by decide +kernel
theorem dL_day_106 : decode cL_day 106 = .ok (.iaload, 1) := by decide +kernel
theorem dL_day_107 : decode cL_day 107 = .ok (.iload 9, 2) := by decide +kernel
theorem dL_day_109 : decode cL_day 109 = .ok (.isub, 1) := by decide +kernel
theorem dL_day_110 : decode cL_day 110 = .ok (.iastore, 1) := by decide +kernel
theorem dL_day_111 : decode cL_day 111 = .ok (.iload 7, 2) := by decide +kernel
theorem dL_day_113 : decode cL_day 113 = .ok (.aload_n 0, 1) := by decide +kernel
theorem dL_day_114 : decode cL_day 114 = .ok (.iload 8, 2) := by decide +kernel
theorem dL_day_116 : decode cL_day 116 = .ok (.iaload, 1) := by decide +kernel
theorem dL_day_117 : decode cL_day 117 = .ok (.ifCond .lt 14, 3) := by decide +kernel
theorem dL_day_120 : decode cL_day 120 = .ok (.aload_n 1, 1) := by decide +kernel
theorem dL_day_121 : decode cL_day 121 = .ok (.iload 8, 2) := by decide +kernel
theorem dL_day_123 : decode cL_day 123 = .ok (.iaload, 1) := by decide +kernel
theorem dL_day_124 : decode cL_day 124 = .ok (.ifCond .ne 7, 3) := by decide +kernel
theorem dL_day_127 : decode cL_day 127 = .ok (.iconst 1, 1) := by decide +kernel
theorem dL_day_128 : decode cL_day 128 = .ok (.goto 4, 3) := by decide +kernel
theorem dL_day_131 : decode cL_day 131 = .ok (.iconst 0, 1) := by decide +kernel
theorem dL_day_132 : decode cL_day 132 = .ok (.aload_n 2, 1) := by decide +kernel
theorem dL_day_133 : decode cL_day 133 = .ok (.iload 8, 2) := by decide +kernel
theorem dL_day_135 : decode cL_day 135 = .ok (.iaload, 1) := by decide +kernel
theorem dL_day_136 : decode cL_day 136 = .ok (.ifCond .lt 14, 3) := by decide +kernel
theorem dL_day_139 : decode cL_day 139 = .ok (.aload_n 3, 1) := by decide +kernel
theorem dL_day_140 : decode cL_day 140 = .ok (.iload 8, 2) := by decide +kernel
theorem dL_day_142 : decode cL_day 142 = .ok (.iaload, 1) := by decide +kernel
theorem dL_day_143 : decode cL_day 143 = .ok (.ifCond .ne 7, 3) := by decide +kernel
theorem dL_day_146 : decode cL_day 146 = .ok (.iconst 1, 1) := by decide +kernel
theorem dL_day_147 : decode cL_day 147 = .ok (.goto 4, 3) := by decide +kernel
theorem dL_day_150 : decode cL_day 150 = .ok (.iconst 0, 1) := by decide +kernel
theorem dL_day_151 : decode cL_day 151 = .ok (.iadd, 1) := by decide +kernel
theorem dL_day_152 : decode cL_day 152 = .ok (.iadd, 1) := by decide +kernel
theorem dL_day_153 : decode cL_day 153 = .ok (.istore 7, 2) := by decide +kernel
theorem dL_day_155 : decode cL_day 155 = .ok (.aload_n 0, 1) := by decide +kernel
theorem dL_day_156 : decode cL_day 156 = .ok (.iload 8, 2) := by decide +kernel
theorem dL_day_158 : decode cL_day 158 = .ok (.aload_n 1, 1) := by decide +kernel
theorem dL_day_159 : decode cL_day 159 = .ok (.iload 8, 2) := by decide +kernel
theorem dL_day_161 : decode cL_day 161 = .ok (.iaload, 1) := by decide +kernel
theorem dL_day_162 : decode cL_day 162 = .ok (.ifCond .ne 7, 3) := by decide +kernel
theorem dL_day_165 : decode cL_day 165 = .ok (.iconst (-1), 1) := by decide +kernel
theorem dL_day_166 : decode cL_day 166 = .ok (.goto 7, 3) := by decide +kernel
theorem dL_day_169 : decode cL_day 169 = .ok (.aload_n 0, 1) := by decide +kernel
theorem dL_day_170 : decode cL_day 170 = .ok (.iload 8, 2) := by decide +kernel
theorem dL_day_172 : decode cL_day 172 = .ok (.iaload, 1) := by decide +kernel
theorem dL_day_173 : decode cL_day 173 = .ok (.iastore, 1) := by decide +kernel
theorem dL_day_174 : decode cL_day 174 = .ok (.aload_n 2, 1) := by decide +kernel
theorem dL_day_175 : decode cL_day 175 = .ok (.iload 8, 2) := by decide +kernel
theorem dL_day_177 : decode cL_day 177 = .ok (.aload_n 3, 1) := by decide +kernel
theorem dL_day_178 : decode cL_day 178 = .ok (.iload 8, 2) := by decide +kernel
theorem dL_day_180 : decode cL_day 180 = .ok (.iaload, 1) := by decide +kernel
theorem dL_day_181 : decode cL_day 181 = .ok (.ifCond .ne 7, 3) := by decide +kernel
theorem dL_day_184 : decode cL_day 184 = .ok (.iconst (-1), 1) := by decide +kernel
theorem dL_day_185 : decode cL_day 185 = .ok (.goto 7, 3) := by decide +kernel
theorem dL_day_188 : decode cL_day 188 = .ok (.aload_n 2, 1) := by decide +kernel
theorem dL_day_189 : decode cL_day 189 = .ok (.iload 8, 2) := by decide +kernel
theorem dL_day_191 : decode cL_day 191 = .ok (.iaload, 1) := by decide +kernel
theorem dL_day_192 : decode cL_day 192 = .ok (.iastore, 1) := by decide +kernel
theorem dL_day_193 : decode cL_day 193 = .ok (.iinc 8 1, 3) := by decide +kernel
theorem dL_day_196 : decode cL_day 196 = .ok (.goto (-190), 3) := by decide +kernel
theorem dL_day_199 : decode cL_day 199 = .ok (.iconst 0, 1) := by decide +kernel
theorem dL_day_200 : decode cL_day 200 = .ok (.istore 8, 2) := by decide +kernel
theorem dL_day_202 : decode cL_day 202 = .ok (.iload 8, 2) := by decide +kernel
theorem dL_day_204 : decode cL_day 204 = .ok (.bipush 32, 2) := by decide +kernel
theorem dL_day_206 : decode cL_day 206 = .ok (.if_icmp .ge 109, 3) := by decide +kernel
theorem dL_day_209 : decode cL_day 209 = .ok (.aload 6, 2) := by decide +kernel
theorem dL_day_211 : decode cL_day 211 = .ok (.iconst 2, 1) := by decide +kernel
theorem dL_day_212 : decode cL_day 212 = .ok (.iload 8, 2) := by decide +kernel
theorem dL_day_214 : decode cL_day 214 = .ok (.bipush 16, 2) := by decide +kernel
theorem dL_day_216 : decode cL_day 216 = .ok (.idiv, 1) := by decide +kernel
theorem dL_day_217 : decode cL_day 217 = .ok (.iadd, 1) := by decide +kernel
theorem dL_day_218 : decode cL_day 218 = .ok (.iaload, 1) := by decide +kernel
theorem dL_day_219 : decode cL_day 219 = .ok (.aload 6, 2) := by decide +kernel
theorem dL_day_221 : decode cL_day 221 = .ok (.iconst 3, 1) := by decide +kernel
theorem dL_day_222 : decode cL_day 222 = .ok (.iload 8, 2) := by decide +kernel
theorem dL_day_224 : decode cL_day 224 = .ok (.bipush 16, 2) := by decide +kernel
theorem dL_day_226 : decode cL_day 226 = .ok (.idiv, 1) := by decide +kernel
theorem dL_day_227 : decode cL_day 227 = .ok (.iadd, 1) := by decide +kernel
theorem dL_day_228 : decode cL_day 228 = .ok (.iaload, 1) := by decide +kernel
theorem dL_day_229 : decode cL_day 229 = .ok (.iadd, 1) := by decide +kernel
theorem dL_day_230 : decode cL_day 230 = .ok (.iconst 2, 1) := by decide +kernel
theorem dL_day_231 : decode cL_day 231 = .ok (.idiv, 1) := by decide +kernel
theorem dL_day_232 : decode cL_day 232 = .ok (.istore 9, 2) := by decide +kernel
theorem dL_day_234 : decode cL_day 234 = .ok (.aload 5, 2) := by decide +kernel
theorem dL_day_236 : decode cL_day 236 = .ok (.iload 8, 2) := by decide +kernel
theorem dL_day_238 : decode cL_day 238 = .ok (.aload 5, 2) := by decide +kernel
theorem dL_day_240 : decode cL_day 240 = .ok (.iload 8, 2) := by decide +kernel
theorem dL_day_242 : decode cL_day 242 = .ok (.iaload, 1) := by decide +kernel
theorem dL_day_243 : decode cL_day 243 = .ok (.iload 9, 2) := by decide +kernel
theorem dL_day_245 : decode cL_day 245 = .ok (.if_icmp .ge 7, 3) := by decide +kernel
theorem dL_day_248 : decode cL_day 248 = .ok (.iconst 0, 1) := by decide +kernel
theorem dL_day_249 : decode cL_day 249 = .ok (.goto 11, 3) := by decide +kernel
theorem dL_day_252 : decode cL_day 252 = .ok (.aload 5, 2) := by decide +kernel
theorem dL_day_254 : decode cL_day 254 = .ok (.iload 8, 2) := by decide +kernel
theorem dL_day_256 : decode cL_day 256 = .ok (.iaload, 1) := by decide +kernel
theorem dL_day_257 : decode cL_day 257 = .ok (.iload 9, 2) := by decide +kernel
theorem dL_day_259 : decode cL_day 259 = .ok (.isub, 1) := by decide +kernel
theorem dL_day_260 : decode cL_day 260 = .ok (.iastore, 1) := by decide +kernel
theorem dL_day_261 : decode cL_day 261 = .ok (.iload 7, 2) := by decide +kernel
theorem dL_day_263 : decode cL_day 263 = .ok (.aload 4, 2) := by decide +kernel
theorem dL_day_265 : decode cL_day 265 = .ok (.iload 8, 2) := by decide +kernel
theorem dL_day_267 : decode cL_day 267 = .ok (.iaload, 1) := by decide +kernel
theorem dL_day_268 : decode cL_day 268 = .ok (.ifCond .le 15, 3) := by decide +kernel
theorem dL_day_271 : decode cL_day 271 = .ok (.aload 5, 2) := by decide +kernel
theorem dL_day_273 : decode cL_day 273 = .ok (.iload 8, 2) := by decide +kernel
theorem dL_day_275 : decode cL_day 275 = .ok (.iaload, 1) := by decide +kernel
theorem dL_day_276 : decode cL_day 276 = .ok (.ifCond .ne 7, 3) := by decide +kernel
theorem dL_day_279 : decode cL_day 279 = .ok (.iconst 1, 1) := by decide +kernel
theorem dL_day_280 : decode cL_day 280 = .ok (.goto 4, 3) := by decide +kernel
theorem dL_day_283 : decode cL_day 283 = .ok (.iconst 0, 1) := by decide +kernel
theorem dL_day_284 : decode cL_day 284 = .ok (.iadd, 1) := by decide +kernel
theorem dL_day_285 : decode cL_day 285 = .ok (.istore 7, 2) := by decide +kernel
theorem dL_day_287 : decode cL_day 287 = .ok (.aload 4, 2) := by decide +kernel
theorem dL_day_289 : decode cL_day 289 = .ok (.iload 8, 2) := by decide +kernel
theorem dL_day_291 : decode cL_day 291 = .ok (.aload 5, 2) := by decide +kernel
theorem dL_day_293 : decode cL_day 293 = .ok (.iload 8, 2) := by decide +kernel
theorem dL_day_295 : decode cL_day 295 = .ok (.iaload, 1) := by decide +kernel
theorem dL_day_296 : decode cL_day 296 = .ok (.ifCond .ne 7, 3) := by decide +kernel
theorem dL_day_299 : decode cL_day 299 = .ok (.iconst 0, 1) := by decide +kernel
theorem dL_day_300 : decode cL_day 300 = .ok (.goto 8, 3) := by decide +kernel
theorem dL_day_303 : decode cL_day 303 = .ok (.aload 4, 2) := by decide +kernel
theorem dL_day_305 : decode cL_day 305 = .ok (.iload 8, 2) := by decide +kernel
theorem dL_day_307 : decode cL_day 307 = .ok (.iaload, 1) := by decide +kernel
theorem dL_day_308 : decode cL_day 308 = .ok (.iastore, 1) := by decide +kernel
theorem dL_day_309 : decode cL_day 309 = .ok (.iinc 8 1, 3) := by decide +kernel
theorem dL_day_312 : decode cL_day 312 = .ok (.goto (-110), 3) := by decide +kernel
theorem dL_day_315 : decode cL_day 315 = .ok (.aload 6, 2) := by decide +kernel
theorem dL_day_317 : decode cL_day 317 = .ok (.bipush 6, 2) := by decide +kernel
theorem dL_day_319 : decode cL_day 319 = .ok (.dup2, 1) := by decide +kernel
theorem dL_day_320 : decode cL_day 320 = .ok (.iaload, 1) := by decide +kernel
theorem dL_day_321 : decode cL_day 321 = .ok (.iconst 1, 1) := by decide +kernel
theorem dL_day_322 : decode cL_day 322 = .ok (.iadd, 1) := by decide +kernel
theorem dL_day_323 : decode cL_day 323 = .ok (.iastore, 1) := by decide +kernel
theorem dL_day_324 : decode cL_day 324 = .ok (.aload 6, 2) := by decide +kernel
theorem dL_day_326 : decode cL_day 326 = .ok (.bipush 9, 2) := by decide +kernel
theorem dL_day_328 : decode cL_day 328 = .ok (.dup2, 1) := by decide +kernel
theorem dL_day_329 : decode cL_day 329 = .ok (.iaload, 1) := by decide +kernel
theorem dL_day_330 : decode cL_day 330 = .ok (.iload 7, 2) := by decide +kernel
theorem dL_day_332 : decode cL_day 332 = .ok (.iadd, 1) := by decide +kernel
theorem dL_day_333 : decode cL_day 333 = .ok (.iastore, 1) := by decide +kernel
theorem dL_day_334 : decode cL_day 334 = .ok (.iload 7, 2) := by decide +kernel
theorem dL_day_336 : decode cL_day 336 = .ok (.ireturn, 1) := by decide +kernel
theorem dL_weak_0 : decode cL_weak 0 = .ok (.iload_n 0, 1) := by decide +kernel
theorem dL_weak_1 : decode cL_weak 1 = .ok (.ifCond .le 13, 3) := by decide +kernel
theorem dL_weak_4 : decode cL_weak 4 = .ok (.iload_n 0, 1) := by decide +kernel
theorem dL_weak_5 : decode cL_weak 5 = .ok (.bipush 60, 2) := by decide +kernel
theorem dL_weak_7 : decode cL_weak 7 = .ok (.if_icmp .ge 7, 3) := by decide +kernel
theorem dL_weak_10 : decode cL_weak 10 = .ok (.iconst 1, 1) := by decide +kernel
theorem dL_weak_11 : decode cL_weak 11 = .ok (.goto 4, 3) := by decide +kernel
theorem dL_weak_14 : decode cL_weak 14 = .ok (.iconst 0, 1) := by decide +kernel
theorem dL_weak_15 : decode cL_weak 15 = .ok (.ireturn, 1) := by decide +kernel
set_option maxRecDepth 20000 in
theorem ggL_night_L_weak : GoodIn wsL_night wsL_weak := goodIn_r _ [4] (by decide +kernel) (by decide +kernel)
set_option maxRecDepth 20000 in
theorem gL_night_L_weak : GoodIn wsL_night (va_wsS RL 16 yL_weak wsL_weak) := goodIn_app (goodIn_of _ (by decide +kernel)) ggL_night_L_weak
theorem dL_night_0 : decode cL_night 0 = .ok (.iconst 0, 1) := by decide +kernel
theorem dL_night_1 : decode cL_night 1 = .ok (.istore 6, 2) := by decide +kernel
theorem dL_night_3 : decode cL_night 3 = .ok (.iload 4, 2) := by decide +kernel
theorem dL_night_5 : decode cL_night 5 = .ok (.istore 7, 2) := by decide +kernel
theorem dL_night_7 : decode cL_night 7 = .ok (.iload 4, 2) := by decide +kernel
theorem dL_night_9 : decode cL_night 9 = .ok (.iload 5, 2) := by decide +kernel
theorem dL_night_11 : decode cL_night 11 = .ok (.if_icmp .gt 13, 3) := by decide +kernel
theorem dL_night_14 : decode cL_night 14 = .ok (.iload 7, 2) := by decide +kernel
theorem dL_night_16 : decode cL_night 16 = .ok (.iload 5, 2) := by decide +kernel
theorem dL_night_18 : decode cL_night 18 = .ok (.if_icmp .gt 204, 3) := by decide +kernel
theorem dL_night_21 : decode cL_night 21 = .ok (.goto 10, 3) := by decide +kernel
theorem dL_night_24 : decode cL_night 24 = .ok (.iload 7, 2) := by decide +kernel
theorem dL_night_26 : decode cL_night 26 = .ok (.iload 5, 2) := by decide +kernel
theorem dL_night_28 : decode cL_night 28 = .ok (.if_icmp .lt 194, 3) := by decide +kernel
theorem dL_night_31 : decode cL_night 31 = .ok (.iconst 0, 1) := by decide +kernel
theorem dL_night_32 : decode cL_night 32 = .ok (.istore 8, 2) := by decide +kernel
theorem dL_night_34 : decode cL_night 34 = .ok (.iload 8, 2) := by decide +kernel
theorem dL_night_36 : decode cL_night 36 = .ok (.bipush 8, 2) := by decide +kernel
theorem dL_night_38 : decode cL_night 38 = .ok (.if_icmp .ge 164, 3) := by decide +kernel
theorem dL_night_41 : decode cL_night 41 = .ok (.iload 8, 2) := by decide +kernel
theorem dL_night_43 : decode cL_night 43 = .ok (.bipush 6, 2) := by decide +kernel
theorem dL_night_45 : decode cL_night 45 = .ok (.if_icmp .ge 16, 3) := by decide +kernel
theorem dL_night_48 : decode cL_night 48 = .ok (.bipush 16, 2) := by decide +kernel
theorem dL_night_50 : decode cL_night 50 = .ok (.iload 8, 2) := by decide +kernel
theorem dL_night_52 : decode cL_night 52 = .ok (.iconst 3, 1) := by decide +kernel
theorem dL_night_53 : decode cL_night 53 = .ok (.irem, 1) := by decide +kernel
theorem dL_night_54 : decode cL_night 54 = .ok (.imul, 1) := by decide +kernel
theorem dL_night_55 : decode cL_night 55 = .ok (.iload 7, 2) := by decide +kernel
theorem dL_night_57 : decode cL_night 57 = .ok (.iadd, 1) := by decide +kernel
theorem dL_night_58 : decode cL_night 58 = .ok (.goto 14, 3) := by decide +kernel
theorem dL_night_61 : decode cL_night 61 = .ok (.bipush 16, 2) := by decide +kernel
theorem dL_night_63 : decode cL_night 63 = .ok (.iload 8, 2) := by decide +kernel
theorem dL_night_65 : decode cL_night 65 = .ok (.bipush 6, 2) := by decide +kernel
theorem dL_night_67 : decode cL_night 67 = .ok (.isub, 1) := by decide +kernel
theorem dL_night_68 : decode cL_night 68 = .ok (.imul, 1) := by decide +kernel
theorem dL_night_69 : decode cL_night 69 = .ok (.iload 7, 2) := by decide +kernel
theorem dL_night_71 : decode cL_night 71 = .ok (.iadd, 1) := by decide +kernel
theorem dL_night_72 : decode cL_night 72 = .ok (.istore 9, 2) := by decide +kernel
theorem dL_night_74 : decode cL_night 74 = .ok (.iload 8, 2) := by decide +kernel
theorem dL_night_76 : decode cL_night 76 = .ok (.iconst 3, 1) := by decide +kernel
theorem dL_night_77 : decode cL_night 77 = .ok (.if_icmp .ge 10, 3) := by decide +kernel
theorem dL_night_80 : decode cL_night 80 = .ok (.aload_n 1, 1) := by decide +kernel
theorem dL_night_81 : decode cL_night 81 = .ok (.iload 9, 2) := by decide +kernel
theorem dL_night_83 : decode cL_night 83 = .ok (.iaload, 1) := by decide +kernel
theorem dL_night_84 : decode cL_night 84 = .ok (.goto 21, 3) := by decide +kernel
theorem dL_night_87 : decode cL_night 87 = .ok (.iload 8, 2) := by decide +kernel
theorem dL_night_89 : decode cL_night 89 = .ok (.bipush 6, 2) := by decide +kernel
theorem dL_night_91 : decode cL_night 91 = .ok (.if_icmp .ge 10, 3) := by decide +kernel
theorem dL_night_94 : decode cL_night 94 = .ok (.aload_n 0, 1) := by decide +kernel
theorem dL_night_95 : decode cL_night 95 = .ok (.iload 9, 2) := by decide +kernel
theorem dL_night_97 : decode cL_night 97 = .ok (.iaload, 1) := by decide +kernel
theorem dL_night_98 : decode cL_night 98 = .ok (.goto 7, 3) := by decide +kernel
theorem dL_night_101 : decode cL_night 101 = .ok (.aload_n 2, 1) := by decide +kernel
theorem dL_night_102 : decode cL_night 102 = .ok (.iload 9, 2) := by decide +kernel
theorem dL_night_104 : decode cL_night 104 = .ok (.iaload, 1) := by decide +kernel
theorem dL_night_105 : decode cL_night 105 = .ok (.istore 10, 2) := by decide +kernel
theorem dL_night_107 : decode cL_night 107 = .ok (.iload 10, 2) := by decide +kernel
theorem dL_night_109 : decode cL_night 109 = .ok (.invokestatic 16, 3) := by decide +kernel
theorem dL_night_112 : decode cL_night 112 = .ok (.ifCond .eq 84, 3) := by decide +kernel
theorem dL_night_115 : decode cL_night 115 = .ok (.aload_n 3, 1) := by decide +kernel
theorem dL_night_116 : decode cL_night 116 = .ok (.iconst 5, 1) := by decide +kernel
theorem dL_night_117 : decode cL_night 117 = .ok (.iaload, 1) := by decide +kernel
theorem dL_night_118 : decode cL_night 118 = .ok (.ifCond .le 78, 3) := by decide +kernel
theorem dL_night_121 : decode cL_night 121 = .ok (.iload 6, 2) := by decide +kernel
theorem dL_night_123 : decode cL_night 123 = .ok (.aload_n 3, 1) := by decide +kernel
theorem dL_night_124 : decode cL_night 124 = .ok (.iconst 1, 1) := by decide +kernel
theorem dL_night_125 : decode cL_night 125 = .ok (.iaload, 1) := by decide +kernel
theorem dL_night_126 : decode cL_night 126 = .ok (.if_icmp .ge 70, 3) := by decide +kernel
theorem dL_night_129 : decode cL_night 129 = .ok (.aload_n 1, 1) := by decide +kernel
theorem dL_night_130 : decode cL_night 130 = .ok (.iload 9, 2) := by decide +kernel
theorem dL_night_132 : decode cL_night 132 = .ok (.iload 8, 2) := by decide +kernel
theorem dL_night_134 : decode cL_night 134 = .ok (.iconst 3, 1) := by decide +kernel
theorem dL_night_135 : decode cL_night 135 = .ok (.if_icmp .ge 8, 3) := by decide +kernel
theorem dL_night_138 : decode cL_night 138 = .ok (.bipush 100, 2) := by decide +kernel
theorem dL_night_140 : decode cL_night 140 = .ok (.goto 7, 3) := by decide +kernel
theorem dL_night_143 : decode cL_night 143 = .ok (.aload_n 1, 1) := by decide +kernel
theorem dL_night_144 : decode cL_night 144 = .ok (.iload 9, 2) := by decide +kernel
theorem dL_night_146 : decode cL_night 146 = .ok (.iaload, 1) := by decide +kernel
theorem dL_night_147 : decode cL_night 147 = .ok (.iastore, 1) := by decide +kernel
theorem dL_night_148 : decode cL_night 148 = .ok (.aload_n 0, 1) := by decide +kernel
theorem dL_night_149 : decode cL_night 149 = .ok (.iload 9, 2) := by decide +kernel
theorem dL_night_151 : decode cL_night 151 = .ok (.iload 8, 2) := by decide +kernel
theorem dL_night_153 : decode cL_night 153 = .ok (.iconst 3, 1) := by decide +kernel
theorem dL_night_154 : decode cL_night 154 = .ok (.if_icmp .lt 15, 3) := by decide +kernel
theorem dL_night_157 : decode cL_night 157 = .ok (.iload 8, 2) := by decide +kernel
theorem dL_night_159 : decode cL_night 159 = .ok (.bipush 6, 2) := by decide +kernel
theorem dL_night_161 : decode cL_night 161 = .ok (.if_icmp .ge 8, 3) := by decide +kernel
theorem dL_night_164 : decode cL_night 164 = .ok (.bipush 100, 2) := by decide +kernel
theorem dL_night_166 : decode cL_night 166 = .ok (.goto 7, 3) := by decide +kernel
theorem dL_night_169 : decode cL_night 169 = .ok (.aload_n 0, 1) := by decide +kernel
theorem dL_night_170 : decode cL_night 170 = .ok (.iload 9, 2) := by decide +kernel
theorem dL_night_172 : decode cL_night 172 = .ok (.iaload, 1) := by decide +kernel
theorem dL_night_173 : decode cL_night 173 = .ok (.iastore, 1) := by decide +kernel
theorem dL_night_174 : decode cL_night 174 = .ok (.iload 8, 2) := by decide +kernel
theorem dL_night_176 : decode cL_night 176 = .ok (.iconst 5, 1) := by decide +kernel
theorem dL_night_177 : decode cL_night 177 = .ok (.if_icmp .le 9, 3) := by decide +kernel
theorem dL_night_180 : decode cL_night 180 = .ok (.aload_n 2, 1) := by decide +kernel
theorem dL_night_181 : decode cL_night 181 = .ok (.iload 9, 2) := by decide +kernel
theorem dL_night_183 : decode cL_night 183 = .ok (.bipush 100, 2) := by decide +kernel
theorem dL_night_185 : decode cL_night 185 = .ok (.iastore, 1) := by decide +kernel
theorem dL_night_186 : decode cL_night 186 = .ok (.aload_n 3, 1) := by decide +kernel
theorem dL_night_187 : decode cL_night 187 = .ok (.iconst 5, 1) := by decide +kernel
theorem dL_night_188 : decode cL_night 188 = .ok (.dup2, 1) := by decide +kernel
theorem dL_night_189 : decode cL_night 189 = .ok (.iaload, 1) := by decide +kernel
theorem dL_night_190 : decode cL_night 190 = .ok (.iconst 1, 1) := by decide +kernel
theorem dL_night_191 : decode cL_night 191 = .ok (.isub, 1) := by decide +kernel
theorem dL_night_192 : decode cL_night 192 = .ok (.iastore, 1) := by decide +kernel
theorem dL_night_193 : decode cL_night 193 = .ok (.iinc 6 1, 3) := by decide +kernel
theorem dL_night_196 : decode cL_night 196 = .ok (.iinc 8 1, 3) := by decide +kernel
theorem dL_night_199 : decode cL_night 199 = .ok (.goto (-165), 3) := by decide +kernel
theorem dL_night_202 : decode cL_night 202 = .ok (.iload 7, 2) := by decide +kernel
theorem dL_night_204 : decode cL_night 204 = .ok (.iload 4, 2) := by decide +kernel
theorem dL_night_206 : decode cL_night 206 = .ok (.iload 5, 2) := by decide +kernel
theorem dL_night_208 : decode cL_night 208 = .ok (.if_icmp .gt 7, 3) := by decide +kernel
theorem dL_night_211 : decode cL_night 211 = .ok (.iconst 1, 1) := by decide +kernel
theorem dL_night_212 : decode cL_night 212 = .ok (.goto 4, 3) := by decide +kernel
theorem dL_night_215 : decode cL_night 215 = .ok (.iconst (-1), 1) := by decide +kernel
theorem dL_night_216 : decode cL_night 216 = .ok (.iadd, 1) := by decide +kernel
theorem dL_night_217 : decode cL_night 217 = .ok (.istore 7, 2) := by decide +kernel
theorem dL_night_219 : decode cL_night 219 = .ok (.goto (-212), 3) := by decide +kernel
theorem dL_night_222 : decode cL_night 222 = .ok (.aload_n 3, 1) := by decide +kernel
theorem dL_night_223 : decode cL_night 223 = .ok (.bipush 7, 2) := by decide +kernel
theorem dL_night_225 : decode cL_night 225 = .ok (.dup2, 1) := by decide +kernel
theorem dL_night_226 : decode cL_night 226 = .ok (.iaload, 1) := by decide +kernel
theorem dL_night_227 : decode cL_night 227 = .ok (.iconst 1, 1) := by decide +kernel
theorem dL_night_228 : decode cL_night 228 = .ok (.iadd, 1) := by decide +kernel
theorem dL_night_229 : decode cL_night 229 = .ok (.iastore, 1) := by decide +kernel
theorem dL_night_230 : decode cL_night 230 = .ok (.aload_n 3, 1) := by decide +kernel
theorem dL_night_231 : decode cL_night 231 = .ok (.bipush 8, 2) := by decide +kernel
theorem dL_night_233 : decode cL_night 233 = .ok (.dup2, 1) := by decide +kernel
theorem dL_night_234 : decode cL_night 234 = .ok (.iaload, 1) := by decide +kernel
theorem dL_night_235 : decode cL_night 235 = .ok (.iload 6, 2) := by decide +kernel
theorem dL_night_237 : decode cL_night 237 = .ok (.iadd, 1) := by decide +kernel
theorem dL_night_238 : decode cL_night 238 = .ok (.iastore, 1) := by decide +kernel
theorem dL_night_239 : decode cL_night 239 = .ok (.iload 6, 2) := by decide +kernel
theorem dL_night_241 : decode cL_night 241 = .ok (.ireturn, 1) := by decide +kernel
theorem dL_free_0 : decode cL_free 0 = .ok (.aload_n 0, 1) := by decide +kernel
theorem dL_free_1 : decode cL_free 1 = .ok (.bipush 16, 2) := by decide +kernel
theorem dL_free_3 : decode cL_free 3 = .ok (.iload_n 1, 1) := by decide +kernel
theorem dL_free_4 : decode cL_free 4 = .ok (.imul, 1) := by decide +kernel
theorem dL_free_5 : decode cL_free 5 = .ok (.iload_n 2, 1) := by decide +kernel
theorem dL_free_6 : decode cL_free 6 = .ok (.iadd, 1) := by decide +kernel
theorem dL_free_7 : decode cL_free 7 = .ok (.iaload, 1) := by decide +kernel
theorem dL_free_8 : decode cL_free 8 = .ok (.ifCond .lt 27, 3) := by decide +kernel
theorem dL_free_11 : decode cL_free 11 = .ok (.aload_n 0, 1) := by decide +kernel
theorem dL_free_12 : decode cL_free 12 = .ok (.bipush 16, 2) := by decide +kernel
theorem dL_free_14 : decode cL_free 14 = .ok (.iload_n 1, 1) := by decide +kernel
theorem dL_free_15 : decode cL_free 15 = .ok (.imul, 1) := by decide +kernel
theorem dL_free_16 : decode cL_free 16 = .ok (.iload_n 2, 1) := by decide +kernel
theorem dL_free_17 : decode cL_free 17 = .ok (.iadd, 1) := by decide +kernel
theorem dL_free_18 : decode cL_free 18 = .ok (.iaload, 1) := by decide +kernel
theorem dL_free_19 : decode cL_free 19 = .ok (.iload_n 3, 1) := by decide +kernel
theorem dL_free_20 : decode cL_free 20 = .ok (.if_icmp .eq 15, 3) := by decide +kernel
theorem dL_free_23 : decode cL_free 23 = .ok (.aload_n 0, 1) := by decide +kernel
theorem dL_free_24 : decode cL_free 24 = .ok (.bipush 16, 2) := by decide +kernel
theorem dL_free_26 : decode cL_free 26 = .ok (.iload_n 1, 1) := by decide +kernel
theorem dL_free_27 : decode cL_free 27 = .ok (.imul, 1) := by decide +kernel
theorem dL_free_28 : decode cL_free 28 = .ok (.iload_n 2, 1) := by decide +kernel
theorem dL_free_29 : decode cL_free 29 = .ok (.iadd, 1) := by decide +kernel
theorem dL_free_30 : decode cL_free 30 = .ok (.iaload, 1) := by decide +kernel
theorem dL_free_31 : decode cL_free 31 = .ok (.iconst 2, 1) := by decide +kernel
theorem dL_free_32 : decode cL_free 32 = .ok (.if_icmp .ne 7, 3) := by decide +kernel
theorem dL_free_35 : decode cL_free 35 = .ok (.iconst 1, 1) := by decide +kernel
theorem dL_free_36 : decode cL_free 36 = .ok (.goto 4, 3) := by decide +kernel
theorem dL_free_39 : decode cL_free 39 = .ok (.iconst 0, 1) := by decide +kernel
theorem dL_free_40 : decode cL_free 40 = .ok (.ireturn, 1) := by decide +kernel
set_option maxRecDepth 20000 in
theorem ggL_change_L_free : GoodIn wsL_change wsL_free := goodIn_r _ [4] (by decide +kernel) (by decide +kernel)
set_option maxRecDepth 20000 in
theorem gL_change_L_free : GoodIn wsL_change (va_wsS RL 20 yL_free wsL_free) := goodIn_app (goodIn_of _ (by decide +kernel)) ggL_change_L_free
theorem dL_change_0 : decode cL_change 0 = .ok (.aload_n 1, 1) := by decide +kernel
theorem dL_change_1 : decode cL_change 1 = .ok (.bipush 16, 2) := by decide +kernel
theorem dL_change_3 : decode cL_change 3 = .ok (.iload_n 2, 1) := by decide +kernel
theorem dL_change_4 : decode cL_change 4 = .ok (.iload_n 3, 1) := by decide +kernel
theorem dL_change_5 : decode cL_change 5 = .ok (.if_icmp .le 7, 3) := by decide +kernel
theorem dL_change_8 : decode cL_change 8 = .ok (.iload_n 3, 1) := by decide +kernel
theorem dL_change_9 : decode cL_change 9 = .ok (.goto 4, 3) := by decide +kernel
theorem dL_change_12 : decode cL_change 12 = .ok (.iload_n 2, 1) := by decide +kernel
theorem dL_change_13 : decode cL_change 13 = .ok (.imul, 1) := by decide +kernel
theorem dL_change_14 : decode cL_change 14 = .ok (.iload 4, 2) := by decide +kernel
theorem dL_change_16 : decode cL_change 16 = .ok (.iadd, 1) := by decide +kernel
theorem dL_change_17 : decode cL_change 17 = .ok (.iaload, 1) := by decide +kernel
theorem dL_change_18 : decode cL_change 18 = .ok (.istore 6, 2) := by decide +kernel
theorem dL_change_20 : decode cL_change 20 = .ok (.aload_n 0, 1) := by decide +kernel
theorem dL_change_21 : decode cL_change 21 = .ok (.iload_n 3, 1) := by decide +kernel
theorem dL_change_22 : decode cL_change 22 = .ok (.iload 4, 2) := by decide +kernel
theorem dL_change_24 : decode cL_change 24 = .ok (.iload 5, 2) := by decide +kernel
theorem dL_change_26 : decode cL_change 26 = .ok (.invokestatic 20, 3) := by decide +kernel
theorem dL_change_29 : decode cL_change 29 = .ok (.ifCond .eq 25, 3) := by decide +kernel
theorem dL_change_32 : decode cL_change 32 = .ok (.iload 6, 2) := by decide +kernel

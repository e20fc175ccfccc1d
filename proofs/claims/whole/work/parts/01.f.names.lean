theorem dX5_pass_10 : decode cX5_pass 10 = .ok (.bipush (-2), 2) := by decide +kernel
theorem dX5_pass_12 : decode cX5_pass 12 = .ok (.ireturn, 1) := by decide +kernel
theorem dX5_pass_13 : decode cX5_pass 13 = .ok (.aload_n 0, 1) := by decide +kernel
theorem dX5_pass_14 : decode cX5_pass 14 = .ok (.invokevirtual 48, 3) := by decide +kernel
theorem dX5_pass_17 : decode cX5_pass 17 = .ok (.iload_n 1, 1) := by decide +kernel
theorem dX5_pass_18 : decode cX5_pass 18 = .ok (.invokevirtual 90, 3) := by decide +kernel
theorem dX5_pass_21 : decode cX5_pass 21 = .ok (.ireturn, 1) := by decide +kernel
set_option maxRecDepth 20000 in
theorem ggX5_night_X5_nightError : GoodIn wsX5_night wsX5_nightError := goodIn_r _ [5, 6, 7, 8, 4, 9, 77, 78, 79, 80, 81, 82, 83, 84, 85, 86, 87, 88, 89, 90, 91, 92] (by decide +kernel) (by decide +kernel)
set_option maxRecDepth 20000 in
theorem gX5_night_X5_nightError : GoodIn wsX5_night (wsV RX5 93 RX5 yX5_nightError wsX5_nightError) := goodIn_app (goodIn_of _ (by decide +kernel)) ggX5_night_X5_nightError
set_option maxRecDepth 20000 in
theorem ggX5_night_X5_recordedRoad : GoodIn wsX5_night wsX5_recordedRoad := goodIn_r _ [13, 14, 6, 15, 16, 17, 18, 19, 20, 21, 22, 23, 24, 25, 26, 27, 28, 29, 30, 31, 32, 33, 34, 35, 36, 37, 38, 39, 40, 41, 42, 43, 44, 45, 46, 47, 48, 77, 78, 79, 80, 81, 82, 93, 94, 95, 83, 84, 85, 86, 87, 88, 89, 90, 91, 92, 96, 97, 98] (by decide +kernel) (by decide +kernel)
set_option maxRecDepth 20000 in
theorem gX5_night_X5_recordedRoad : GoodIn wsX5_night (wsV RX5 48 RX5 yX5_recordedRoad wsX5_recordedRoad) := goodIn_app (goodIn_of _ (by decide +kernel)) ggX5_night_X5_recordedRoad
set_option maxRecDepth 20000 in
theorem ggX5_night_X3_workNight : GoodIn wsX5_night wsX3_workNight := goodIn_r _ [52, 53, 54, 55, 56, 37, 39, 40, 57, 58, 59, 26, 60, 36, 61, 62, 63, 64, 65, 66, 67, 29, 28, 30, 68, 69, 70, 45, 71, 72, 47, 73, 74, 75, 76, 83, 84, 85, 86, 87, 88, 89, 90, 91, 92, 96, 97, 98] (by decide +kernel) (by decide +kernel)
set_option maxRecDepth 20000 in
theorem gX5_night_X3_workNight : GoodIn wsX5_night (wsV RX5 96 RX3 yX3_workNight wsX3_workNight) := goodIn_app (goodIn_of _ (by decide +kernel)) ggX5_night_X3_workNight
theorem dX5_night_0 : decode cX5_night 0 = .ok (.aload_n 0, 1) := by decide +kernel
theorem dX5_night_1 : decode cX5_night 1 = .ok (.iload_n 1, 1) := by decide +kernel
theorem dX5_night_2 : decode cX5_night 2 = .ok (.iload_n 2, 1) := by decide +kernel
theorem dX5_night_3 : decode cX5_night 3 = .ok (.invokevirtual 93, 3) := by decide +kernel
theorem dX5_night_6 : decode cX5_night 6 = .ok (.istore_n 3, 1) := by decide +kernel
theorem dX5_night_7 : decode cX5_night 7 = .ok (.iload_n 3, 1) := by decide +kernel
theorem dX5_night_8 : decode cX5_night 8 = .ok (.ifCond .eq 7, 3) := by decide +kernel
theorem dX5_night_11 : decode cX5_night 11 = .ok (.iload_n 3, 1) := by decide +kernel
theorem dX5_night_12 : decode cX5_night 12 = .ok (.goto 12, 3) := by decide +kernel
theorem dX5_night_15 : decode cX5_night 15 = .ok (.aload_n 0, 1) := by decide +kernel
theorem dX5_night_16 : decode cX5_night 16 = .ok (.invokevirtual 48, 3) := by decide +kernel
theorem dX5_night_19 : decode cX5_night 19 = .ok (.iload_n 1, 1) := by decide +kernel
theorem dX5_night_20 : decode cX5_night 20 = .ok (.iload_n 2, 1) := by decide +kernel
theorem dX5_night_21 : decode cX5_night 21 = .ok (.invokevirtual 96, 3) := by decide +kernel
theorem dX5_night_24 : decode cX5_night 24 = .ok (.ireturn, 1) := by decide +kernel
set_option maxRecDepth 20000 in
theorem ggX5_cell_X5_placeError : GoodIn wsX5_cell wsX5_placeError := goodIn_r _ [5, 6, 7, 4, 8, 9, 10, 11] (by decide +kernel) (by decide +kernel)
set_option maxRecDepth 20000 in
theorem gX5_cell_X5_placeError : GoodIn wsX5_cell (va_wsS RX5 55 yX5_placeError wsX5_placeError) := goodIn_app (goodIn_of _ (by decide +kernel)) ggX5_cell_X5_placeError
set_option maxRecDepth 20000 in
theorem ggX5_cell_X3_cellPart : GoodIn wsX5_cell wsX3_cellPart := goodIn_r _ [16, 17, 18, 19, 20, 21, 22, 23, 24, 25, 26, 27, 28, 29, 30, 31, 32, 15, 33, 34, 35, 4, 36, 37, 38, 39, 40, 41, 42, 43, 50, 51, 52, 53, 54, 55, 56, 57, 58, 59, 60, 61, 62] (by decide +kernel) (by decide +kernel)
set_option maxRecDepth 20000 in
theorem gX5_cell_X3_cellPart : GoodIn wsX5_cell (wsV RX5 99 RX3 yX3_cellPart wsX3_cellPart) := goodIn_app (goodIn_of _ (by decide +kernel)) ggX5_cell_X3_cellPart
theorem dX5_cell_0 : decode cX5_cell 0 = .ok (.iload_n 1, 1) := by decide +kernel
theorem dX5_cell_1 : decode cX5_cell 1 = .ok (.iconst 3, 1) := by decide +kernel
theorem dX5_cell_2 : decode cX5_cell 2 = .ok (.iload_n 2, 1) := by decide +kernel
theorem dX5_cell_3 : decode cX5_cell 3 = .ok (.iload_n 3, 1) := by decide +kernel
theorem dX5_cell_4 : decode cX5_cell 4 = .ok (.bipush 7, 2) := by decide +kernel
theorem dX5_cell_6 : decode cX5_cell 6 = .ok (.invokestatic 55, 3) := by decide +kernel
theorem dX5_cell_9 : decode cX5_cell 9 = .ok (.istore 4, 2) := by decide +kernel
theorem dX5_cell_11 : decode cX5_cell 11 = .ok (.iload 4, 2) := by decide +kernel
theorem dX5_cell_13 : decode cX5_cell 13 = .ok (.ifCond .eq 8, 3) := by decide +kernel
theorem dX5_cell_16 : decode cX5_cell 16 = .ok (.iload 4, 2) := by decide +kernel
theorem dX5_cell_18 : decode cX5_cell 18 = .ok (.goto 13, 3) := by decide +kernel
theorem dX5_cell_21 : decode cX5_cell 21 = .ok (.aload_n 0, 1) := by decide +kernel
theorem dX5_cell_22 : decode cX5_cell 22 = .ok (.getfield 10, 3) := by decide +kernel
theorem dX5_cell_25 : decode cX5_cell 25 = .ok (.iload_n 1, 1) := by decide +kernel
theorem dX5_cell_26 : decode cX5_cell 26 = .ok (.iload_n 2, 1) := by decide +kernel
theorem dX5_cell_27 : decode cX5_cell 27 = .ok (.iload_n 3, 1) := by decide +kernel
theorem dX5_cell_28 : decode cX5_cell 28 = .ok (.invokevirtual 99, 3) := by decide +kernel
theorem dX5_cell_31 : decode cX5_cell 31 = .ok (.ireturn, 1) := by decide +kernel
set_option maxRecDepth 20000 in
theorem ggX5_line_X5_placeError : GoodIn wsX5_line wsX5_placeError := goodIn_r _ [5, 6, 7, 4, 8, 9, 10, 11] (by decide +kernel) (by decide +kernel)
set_option maxRecDepth 20000 in
theorem gX5_line_X5_placeError : GoodIn wsX5_line (va_wsS RX5 55 yX5_placeError wsX5_placeError) := goodIn_app (goodIn_of _ (by decide +kernel)) ggX5_line_X5_placeError
set_option maxRecDepth 20000 in
theorem ggX5_line_X3_linePart : GoodIn wsX5_line wsX3_linePart := goodIn_r _ [16, 17, 18, 19, 20, 15, 21, 22, 23, 24, 25, 26, 27, 28, 29, 30, 31, 32, 39, 40, 41, 42, 43, 44, 45, 46, 47, 48, 49, 50, 51] (by decide +kernel) (by decide +kernel)
set_option maxRecDepth 20000 in
theorem gX5_line_X3_linePart : GoodIn wsX5_line (wsV RX5 102 RX3 yX3_linePart wsX3_linePart) := goodIn_app (goodIn_of _ (by decide +kernel)) ggX5_line_X3_linePart
theorem dX5_line_0 : decode cX5_line 0 = .ok (.iload_n 1, 1) := by decide +kernel
theorem dX5_line_1 : decode cX5_line 1 = .ok (.iconst 2, 1) := by decide +kernel
theorem dX5_line_2 : decode cX5_line 2 = .ok (.iload_n 2, 1) := by decide +kernel
theorem dX5_line_3 : decode cX5_line 3 = .ok (.iload_n 3, 1) := by decide +kernel
theorem dX5_line_4 : decode cX5_line 4 = .ok (.iconst 2, 1) := by decide +kernel
theorem dX5_line_5 : decode cX5_line 5 = .ok (.invokestatic 55, 3) := by decide +kernel
theorem dX5_line_8 : decode cX5_line 8 = .ok (.istore 4, 2) := by decide +kernel
theorem dX5_line_10 : decode cX5_line 10 = .ok (.iload 4, 2) := by decide +kernel
theorem dX5_line_12 : decode cX5_line 12 = .ok (.ifCond .eq 8, 3) := by decide +kernel
theorem dX5_line_15 : decode cX5_line 15 = .ok (.iload 4, 2) := by decide +kernel
theorem dX5_line_17 : decode cX5_line 17 = .ok (.goto 13, 3) := by decide +kernel
theorem dX5_line_20 : decode cX5_line 20 = .ok (.aload_n 0, 1) := by decide +kernel
theorem dX5_line_21 : decode cX5_line 21 = .ok (.getfield 10, 3) := by decide +kernel
theorem dX5_line_24 : decode cX5_line 24 = .ok (.iload_n 1, 1) := by decide +kernel
theorem dX5_line_25 : decode cX5_line 25 = .ok (.iload_n 2, 1) := by decide +kernel
theorem dX5_line_26 : decode cX5_line 26 = .ok (.iload_n 3, 1) := by decide +kernel
theorem dX5_line_27 : decode cX5_line 27 = .ok (.invokevirtual 102, 3) := by decide +kernel
theorem dX5_line_30 : decode cX5_line 30 = .ok (.ireturn, 1) := by decide +kernel
set_option maxRecDepth 20000 in
theorem ggX5_mayChange_X5_isPlace : GoodIn wsX5_mayChange wsX5_isPlace := goodIn_r _ [9, 10, 11, 8, 12] (by decide +kernel) (by decide +kernel)
set_option maxRecDepth 20000 in
theorem gX5_mayChange_X5_isPlace : GoodIn wsX5_mayChange (va_wsS RX5 65 yX5_isPlace wsX5_isPlace) := goodIn_app (goodIn_of _ (by decide +kernel)) ggX5_mayChange_X5_isPlace
set_option maxRecDepth 20000 in
theorem ggX5_mayChange_X5_isWithin : GoodIn wsX5_mayChange wsX5_isWithin := goodIn_r _ [12] (by decide +kernel) (by decide +kernel)
set_option maxRecDepth 20000 in
theorem gX5_mayChange_X5_isWithin : GoodIn wsX5_mayChange (va_wsS RX5 73 yX5_isWithin wsX5_isWithin) := goodIn_app (goodIn_of _ (by decide +kernel)) ggX5_mayChange_X5_isWithin
set_option maxRecDepth 20000 in
theorem ggX5_mayChange_X3_allowsChange : GoodIn wsX5_mayChange wsX3_allowsChange := goodIn_r _ [17, 18, 19, 3, 20, 21, 22, 23, 16, 24, 25, 26, 27, 28, 29, 30, 31, 32, 33, 34, 35, 36, 37, 38, 39, 40, 50, 51, 52, 53, 54, 55, 56, 57, 58, 59, 60, 61, 62] (by decide +kernel) (by decide +kernel)
set_option maxRecDepth 20000 in
theorem gX5_mayChange_X3_allowsChange : GoodIn wsX5_mayChange (wsV RX5 110 RX3 yX3_allowsChange wsX3_allowsChange) := goodIn_app (goodIn_of _ (by decide +kernel)) ggX5_mayChange_X3_allowsChange
set_option maxRecDepth 20000 in
theorem ggX5_mayChange_X5_asNumber : GoodIn wsX5_mayChange wsX5_asNumber := goodIn_r _ [43] (by decide +kernel) (by decide +kernel)
set_option maxRecDepth 20000 in
theorem gX5_mayChange_X5_asNumber : GoodIn wsX5_mayChange (va_wsS RX5 114 yX5_asNumber wsX5_asNumber) := goodIn_app (goodIn_of _ (by decide +kernel)) ggX5_mayChange_X5_asNumber
theorem dX5_mayChange_0 : decode cX5_mayChange 0 = .ok (.iload_n 1, 1) := by decide +kernel
theorem dX5_mayChange_1 : decode cX5_mayChange 1 = .ok (.iconst 3, 1) := by decide +kernel
theorem dX5_mayChange_2 : decode cX5_mayChange 2 = .ok (.iload_n 3, 1) := by decide +kernel
theorem dX5_mayChange_3 : decode cX5_mayChange 3 = .ok (.invokestatic 65, 3) := by decide +kernel
theorem dX5_mayChange_6 : decode cX5_mayChange 6 = .ok (.ifCond .eq 12, 3) := by decide +kernel
theorem dX5_mayChange_9 : decode cX5_mayChange 9 = .ok (.iload_n 2, 1) := by decide +kernel
theorem dX5_mayChange_10 : decode cX5_mayChange 10 = .ok (.iconst 3, 1) := by decide +kernel
theorem dX5_mayChange_11 : decode cX5_mayChange 11 = .ok (.iload_n 3, 1) := by decide +kernel
theorem dX5_mayChange_12 : decode cX5_mayChange 12 = .ok (.invokestatic 65, 3) := by decide +kernel
theorem dX5_mayChange_15 : decode cX5_mayChange 15 = .ok (.ifCond .ne 5, 3) := by decide +kernel
theorem dX5_mayChange_18 : decode cX5_mayChange 18 = .ok (.iconst (-1), 1) := by decide +kernel
theorem dX5_mayChange_19 : decode cX5_mayChange 19 = .ok (.ireturn, 1) := by decide +kernel
theorem dX5_mayChange_20 : decode cX5_mayChange 20 = .ok (.iload_n 1, 1) := by decide +kernel
theorem dX5_mayChange_21 : decode cX5_mayChange 21 = .ok (.iload_n 2, 1) := by decide +kernel
theorem dX5_mayChange_22 : decode cX5_mayChange 22 = .ok (.isub, 1) := by decide +kernel
theorem dX5_mayChange_23 : decode cX5_mayChange 23 = .ok (.invokestatic 105, 3) := by decide +kernel
theorem dX5_mayChange_26 : decode cX5_mayChange 26 = .ok (.iconst 1, 1) := by decide +kernel
theorem dX5_mayChange_27 : decode cX5_mayChange 27 = .ok (.if_icmp .ne 13, 3) := by decide +kernel
theorem dX5_mayChange_30 : decode cX5_mayChange 30 = .ok (.iload 4, 2) := by decide +kernel
theorem dX5_mayChange_32 : decode cX5_mayChange 32 = .ok (.iconst 0, 1) := by decide +kernel
theorem dX5_mayChange_33 : decode cX5_mayChange 33 = .ok (.iconst 1, 1) := by decide +kernel
theorem dX5_mayChange_34 : decode cX5_mayChange 34 = .ok (.invokestatic 73, 3) := by decide +kernel
theorem dX5_mayChange_37 : decode cX5_mayChange 37 = .ok (.ifCond .ne 6, 3) := by decide +kernel
theorem dX5_mayChange_40 : decode cX5_mayChange 40 = .ok (.bipush (-2), 2) := by decide +kernel
theorem dX5_mayChange_42 : decode cX5_mayChange 42 = .ok (.ireturn, 1) := by decide +kernel
theorem dX5_mayChange_43 : decode cX5_mayChange 43 = .ok (.aload_n 0, 1) := by decide +kernel
theorem dX5_mayChange_44 : decode cX5_mayChange 44 = .ok (.getfield 10, 3) := by decide +kernel
theorem dX5_mayChange_47 : decode cX5_mayChange 47 = .ok (.iload_n 1, 1) := by decide +kernel
theorem dX5_mayChange_48 : decode cX5_mayChange 48 = .ok (.iload_n 2, 1) := by decide +kernel
theorem dX5_mayChange_49 : decode cX5_mayChange 49 = .ok (.iload_n 3, 1) := by decide +kernel
theorem dX5_mayChange_50 : decode cX5_mayChange 50 = .ok (.iload 4, 2) := by decide +kernel
theorem dX5_mayChange_52 : decode cX5_mayChange 52 = .ok (.invokevirtual 110, 3) := by decide +kernel
theorem dX5_mayChange_55 : decode cX5_mayChange 55 = .ok (.invokestatic 114, 3) := by decide +kernel
theorem dX5_mayChange_58 : decode cX5_mayChange 58 = .ok (.ireturn, 1) := by decide +kernel
set_option maxRecDepth 20000 in
theorem ggX5_total_X4_count : GoodIn wsX5_total wsX4_count := goodIn_r _ [6, 7, 8, 9, 5, 10, 11, 12, 13, 14, 44, 45, 46] (by decide +kernel) (by decide +kernel)
set_option maxRecDepth 20000 in
theorem gX5_total_X4_count : GoodIn wsX5_total (wsV RX5 122 RX4 yX4_count wsX4_count) := goodIn_app (goodIn_of _ (by decide +kernel)) ggX5_total_X4_count
set_option maxRecDepth 20000 in
theorem ggX5_total_X4_countFrom : GoodIn wsX5_total wsX4_countFrom := goodIn_r _ [10, 11, 12, 13, 14, 44, 45, 46] (by decide +kernel) (by decide +kernel)
set_option maxRecDepth 20000 in
theorem gX5_total_X4_countFrom : GoodIn wsX5_total (wsV RX5 138 RX4 yX4_countFrom wsX4_countFrom) := goodIn_app (goodIn_of _ (by decide +kernel)) ggX5_total_X4_countFrom
set_option maxRecDepth 20000 in
theorem ggX5_total_X3_sumOfStrengths : GoodIn wsX5_total wsX3_sumOfStrengths := goodIn_r _ [20, 21, 22, 23, 24, 25, 26, 5, 27, 11, 34, 35, 36, 37, 38, 39, 40, 41, 42, 43, 44, 45, 46] (by decide +kernel) (by decide +kernel)
set_option maxRecDepth 20000 in
theorem gX5_total_X3_sumOfStrengths : GoodIn wsX5_total (wsV RX5 153 RX3 yX3_sumOfStrengths wsX3_sumOfStrengths) := goodIn_app (goodIn_of _ (by decide +kernel)) ggX5_total_X3_sumOfStrengths
theorem dX5_total_0 : decode cX5_total 0 = .ok (.iload_n 1, 1) := by decide +kernel
theorem dX5_total_1 : decode cX5_total 1 = .ok (.tableswitch 226 0 14 #[75, 86, 97, 108, 128, 136, 144, 152, 160, 168, 176, 186, 196, 206, 216], 75) := by decide +kernel
theorem dX5_total_76 : decode cX5_total 76 = .ok (.aload_n 0, 1) := by decide +kernel
theorem dX5_total_77 : decode cX5_total 77 = .ok (.getfield 10, 3) := by decide +kernel
theorem dX5_total_80 : decode cX5_total 80 = .ok (.getfield 118, 3) := by decide +kernel
theorem dX5_total_83 : decode cX5_total 83 = .ok (.invokevirtual 122, 3) := by decide +kernel
theorem dX5_total_86 : decode cX5_total 86 = .ok (.ireturn, 1) := by decide +kernel
theorem dX5_total_87 : decode cX5_total 87 = .ok (.aload_n 0, 1) := by decide +kernel
theorem dX5_total_88 : decode cX5_total 88 = .ok (.getfield 10, 3) := by decide +kernel
theorem dX5_total_91 : decode cX5_total 91 = .ok (.getfield 128, 3) := by decide +kernel
theorem dX5_total_94 : decode cX5_total 94 = .ok (.invokevirtual 122, 3) := by decide +kernel
theorem dX5_total_97 : decode cX5_total 97 = .ok (.ireturn, 1) := by decide +kernel
theorem dX5_total_98 : decode cX5_total 98 = .ok (.aload_n 0, 1) := by decide +kernel
theorem dX5_total_99 : decode cX5_total 99 = .ok (.getfield 10, 3) := by decide +kernel
theorem dX5_total_102 : decode cX5_total 102 = .ok (.getfield 131, 3) := by decide +kernel
theorem dX5_total_105 : decode cX5_total 105 = .ok (.invokevirtual 122, 3) := by decide +kernel
theorem dX5_total_108 : decode cX5_total 108 = .ok (.ireturn, 1) := by decide +kernel
theorem dX5_total_109 : decode cX5_total 109 = .ok (.aload_n 0, 1) := by decide +kernel
theorem dX5_total_110 : decode cX5_total 110 = .ok (.getfield 10, 3) := by decide +kernel
theorem dX5_total_113 : decode cX5_total 113 = .ok (.getfield 128, 3) := by decide +kernel
theorem dX5_total_116 : decode cX5_total 116 = .ok (.aload_n 0, 1) := by decide +kernel
theorem dX5_total_117 : decode cX5_total 117 = .ok (.getfield 10, 3) := by decide +kernel
theorem dX5_total_120 : decode cX5_total 120 = .ok (.getfield 134, 3) := by decide +kernel
theorem dX5_total_123 : decode cX5_total 123 = .ok (.iconst 0, 1) := by decide +kernel
theorem dX5_total_124 : decode cX5_total 124 = .ok (.iaload, 1) := by decide +kernel
theorem dX5_total_125 : decode cX5_total 125 = .ok (.invokevirtual 138, 3) := by decide +kernel
theorem dX5_total_128 : decode cX5_total 128 = .ok (.ireturn, 1) := by decide +kernel
theorem dX5_total_129 : decode cX5_total 129 = .ok (.aload_n 0, 1) := by decide +kernel
theorem dX5_total_130 : decode cX5_total 130 = .ok (.getfield 10, 3) := by decide +kernel
theorem dX5_total_133 : decode cX5_total 133 = .ok (.getfield 82, 3) := by decide +kernel
theorem dX5_total_136 : decode cX5_total 136 = .ok (.ireturn, 1) := by decide +kernel
theorem dX5_total_137 : decode cX5_total 137 = .ok (.aload_n 0, 1) := by decide +kernel
theorem dX5_total_138 : decode cX5_total 138 = .ok (.getfield 10, 3) := by decide +kernel
theorem dX5_total_141 : decode cX5_total 141 = .ok (.getfield 141, 3) := by decide +kernel
theorem dX5_total_144 : decode cX5_total 144 = .ok (.ireturn, 1) := by decide +kernel
theorem dX5_total_145 : decode cX5_total 145 = .ok (.aload_n 0, 1) := by decide +kernel
theorem dX5_total_146 : decode cX5_total 146 = .ok (.getfield 10, 3) := by decide +kernel
theorem dX5_total_149 : decode cX5_total 149 = .ok (.getfield 144, 3) := by decide +kernel
theorem dX5_total_152 : decode cX5_total 152 = .ok (.ireturn, 1) := by decide +kernel
theorem dX5_total_153 : decode cX5_total 153 = .ok (.aload_n 0, 1) := by decide +kernel
theorem dX5_total_154 : decode cX5_total 154 = .ok (.getfield 10, 3) := by decide +kernel
theorem dX5_total_157 : decode cX5_total 157 = .ok (.getfield 147, 3) := by decide +kernel
theorem dX5_total_160 : decode cX5_total 160 = .ok (.ireturn, 1) := by decide +kernel
theorem dX5_total_161 : decode cX5_total 161 = .ok (.aload_n 0, 1) := by decide +kernel
theorem dX5_total_162 : decode cX5_total 162 = .ok (.getfield 10, 3) := by decide +kernel
theorem dX5_total_165 : decode cX5_total 165 = .ok (.getfield 150, 3) := by decide +kernel
theorem dX5_total_168 : decode cX5_total 168 = .ok (.ireturn, 1) := by decide +kernel
theorem dX5_total_169 : decode cX5_total 169 = .ok (.aload_n 0, 1) := by decide +kernel
theorem dX5_total_170 : decode cX5_total 170 = .ok (.getfield 10, 3) := by decide +kernel
theorem dX5_total_173 : decode cX5_total 173 = .ok (.invokevirtual 153, 3) := by decide +kernel
theorem dX5_total_176 : decode cX5_total 176 = .ok (.ireturn, 1) := by decide +kernel
theorem dX5_total_177 : decode cX5_total 177 = .ok (.aload_n 0, 1) := by decide +kernel
theorem dX5_total_178 : decode cX5_total 178 = .ok (.getfield 10, 3) := by decide +kernel
theorem dX5_total_181 : decode cX5_total 181 = .ok (.getfield 156, 3) := by decide +kernel
theorem dX5_total_184 : decode cX5_total 184 = .ok (.iconst 0, 1) := by decide +kernel
theorem dX5_total_185 : decode cX5_total 185 = .ok (.iaload, 1) := by decide +kernel
theorem dX5_total_186 : decode cX5_total 186 = .ok (.ireturn, 1) := by decide +kernel
theorem dX5_total_187 : decode cX5_total 187 = .ok (.aload_n 0, 1) := by decide +kernel
theorem dX5_total_188 : decode cX5_total 188 = .ok (.getfield 10, 3) := by decide +kernel
theorem dX5_total_191 : decode cX5_total 191 = .ok (.getfield 156, 3) := by decide +kernel
theorem dX5_total_194 : decode cX5_total 194 = .ok (.iconst 1, 1) := by decide +kernel
theorem dX5_total_195 : decode cX5_total 195 = .ok (.iaload, 1) := by decide +kernel
theorem dX5_total_196 : decode cX5_total 196 = .ok (.ireturn, 1) := by decide +kernel
theorem dX5_total_197 : decode cX5_total 197 = .ok (.aload_n 0, 1) := by decide +kernel
theorem dX5_total_198 : decode cX5_total 198 = .ok (.getfield 10, 3) := by decide +kernel
theorem dX5_total_201 : decode cX5_total 201 = .ok (.getfield 156, 3) := by decide +kernel
theorem dX5_total_204 : decode cX5_total 204 = .ok (.iconst 2, 1) := by decide +kernel
theorem dX5_total_205 : decode cX5_total 205 = .ok (.iaload, 1) := by decide +kernel
theorem dX5_total_206 : decode cX5_total 206 = .ok (.ireturn, 1) := by decide +kernel
theorem dX5_total_207 : decode cX5_total 207 = .ok (.aload_n 0, 1) := by decide +kernel
theorem dX5_total_208 : decode cX5_total 208 = .ok (.getfield 10, 3) := by decide +kernel
theorem dX5_total_211 : decode cX5_total 211 = .ok (.getfield 134, 3) := by decide +kernel
theorem dX5_total_214 : decode cX5_total 214 = .ok (.iconst 0, 1) := by decide +kernel
theorem dX5_total_215 : decode cX5_total 215 = .ok (.iaload, 1) := by decide +kernel
theorem dX5_total_216 : decode cX5_total 216 = .ok (.ireturn, 1) := by decide +kernel
theorem dX5_total_217 : decode cX5_total 217 = .ok (.aload_n 0, 1) := by decide +kernel
theorem dX5_total_218 : decode cX5_total 218 = .ok (.getfield 10, 3) := by decide +kernel
theorem dX5_total_221 : decode cX5_total 221 = .ok (.getfield 134, 3) := by decide +kernel
theorem dX5_total_224 : decode cX5_total 224 = .ok (.iconst 1, 1) := by decide +kernel
theorem dX5_total_225 : decode cX5_total 225 = .ok (.iaload, 1) := by decide +kernel
theorem dX5_total_226 : decode cX5_total 226 = .ok (.ireturn, 1) := by decide +kernel
theorem dX5_total_227 : decode cX5_total 227 = .ok (.bipush (-2), 2) := by decide +kernel
theorem dX5_total_229 : decode cX5_total 229 = .ok (.ireturn, 1) := by decide +kernel
set_option maxRecDepth 20000 in
theorem ggX5_whyNot_X5_placeError : GoodIn wsX5_whyNot wsX5_placeError := goodIn_r _ [5, 6, 7, 4, 8, 9, 10, 11] (by decide +kernel) (by decide +kernel)
set_option maxRecDepth 20000 in
theorem gX5_whyNot_X5_placeError : GoodIn wsX5_whyNot (va_wsS RX5 55 yX5_placeError wsX5_placeError) := goodIn_app (goodIn_of _ (by decide +kernel)) ggX5_whyNot_X5_placeError
set_option maxRecDepth 20000 in
theorem ggX5_whyNot_X3_refusal : GoodIn wsX5_whyNot wsX3_refusal := goodIn_r _ [16, 17, 18, 19, 15, 20, 21, 10, 4, 11, 22, 23, 24, 25, 26, 27, 28, 29, 30, 31, 32, 33, 34, 35, 36, 37, 38, 39, 40, 41, 42, 43, 50, 51, 52, 53, 54, 55, 56, 57, 58, 59, 60, 61, 62] (by decide +kernel) (by decide +kernel)
set_option maxRecDepth 20000 in
theorem gX5_whyNot_X3_refusal : GoodIn wsX5_whyNot (wsV RX5 159 RX3 yX3_refusal wsX3_refusal) := goodIn_app (goodIn_of _ (by decide +kernel)) ggX5_whyNot_X3_refusal
theorem dX5_whyNot_0 : decode cX5_whyNot 0 = .ok (.iload_n 1, 1) := by decide +kernel
theorem dX5_whyNot_1 : decode cX5_whyNot 1 = .ok (.iconst 3, 1) := by decide +kernel
theorem dX5_whyNot_2 : decode cX5_whyNot 2 = .ok (.iload_n 2, 1) := by decide +kernel
theorem dX5_whyNot_3 : decode cX5_whyNot 3 = .ok (.iload_n 3, 1) := by decide +kernel
theorem dX5_whyNot_4 : decode cX5_whyNot 4 = .ok (.iconst 3, 1) := by decide +kernel
theorem dX5_whyNot_5 : decode cX5_whyNot 5 = .ok (.invokestatic 55, 3) := by decide +kernel
theorem dX5_whyNot_8 : decode cX5_whyNot 8 = .ok (.istore 4, 2) := by decide +kernel
theorem dX5_whyNot_10 : decode cX5_whyNot 10 = .ok (.iload 4, 2) := by decide +kernel
theorem dX5_whyNot_12 : decode cX5_whyNot 12 = .ok (.ifCond .eq 8, 3) := by decide +kernel
theorem dX5_whyNot_15 : decode cX5_whyNot 15 = .ok (.iload 4, 2) := by decide +kernel
theorem dX5_whyNot_17 : decode cX5_whyNot 17 = .ok (.goto 13, 3) := by decide +kernel
theorem dX5_whyNot_20 : decode cX5_whyNot 20 = .ok (.aload_n 0, 1) := by decide +kernel
theorem dX5_whyNot_21 : decode cX5_whyNot 21 = .ok (.getfield 10, 3) := by decide +kernel
theorem dX5_whyNot_24 : decode cX5_whyNot 24 = .ok (.iload_n 1, 1) := by decide +kernel
theorem dX5_whyNot_25 : decode cX5_whyNot 25 = .ok (.iload_n 2, 1) := by decide +kernel
theorem dX5_whyNot_26 : decode cX5_whyNot 26 = .ok (.iload_n 3, 1) := by decide +kernel
theorem dX5_whyNot_27 : decode cX5_whyNot 27 = .ok (.invokevirtual 159, 3) := by decide +kernel
theorem dX5_whyNot_30 : decode cX5_whyNot 30 = .ok (.ireturn, 1) := by decide +kernel
set_option maxRecDepth 20000 in
theorem ggX5_readableFor_X5_isPlace : GoodIn wsX5_readableFor wsX5_isPlace := goodIn_r _ [5, 6, 7, 4, 8] (by decide +kernel) (by decide +kernel)
set_option maxRecDepth 20000 in
theorem gX5_readableFor_X5_isPlace : GoodIn wsX5_readableFor (va_wsS RX5 65 yX5_isPlace wsX5_isPlace) := goodIn_app (goodIn_of _ (by decide +kernel)) ggX5_readableFor_X5_isPlace
set_option maxRecDepth 20000 in
theorem ggX5_readableFor_X3_readableDays : GoodIn wsX5_readableFor wsX3_readableDays := goodIn_r _ [13, 14, 15, 16, 17, 18, 19, 20, 21, 22, 23, 24, 12, 25, 26, 27, 28, 29, 30, 31, 32, 33, 34, 35, 36, 37, 38, 39, 46, 47, 48, 49, 50, 51, 52, 53, 54, 55, 56, 57, 58] (by decide +kernel) (by decide +kernel)
set_option maxRecDepth 20000 in
theorem gX5_readableFor_X3_readableDays : GoodIn wsX5_readableFor (wsV RX5 162 RX3 yX3_readableDays wsX3_readableDays) := goodIn_app (goodIn_of _ (by decide +kernel)) ggX5_readableFor_X3_readableDays
theorem dX5_readableFor_0 : decode cX5_readableFor 0 = .ok (.iload_n 1, 1) := by decide +kernel
theorem dX5_readableFor_1 : decode cX5_readableFor 1 = .ok (.iconst 3, 1) := by decide +kernel
theorem dX5_readableFor_2 : decode cX5_readableFor 2 = .ok (.iload_n 2, 1) := by decide +kernel
theorem dX5_readableFor_3 : decode cX5_readableFor 3 = .ok (.invokestatic 65, 3) := by decide +kernel
theorem dX5_readableFor_6 : decode cX5_readableFor 6 = .ok (.ifCond .ne 5, 3) := by decide +kernel
theorem dX5_readableFor_9 : decode cX5_readableFor 9 = .ok (.iconst (-1), 1) := by decide +kernel
theorem dX5_readableFor_10 : decode cX5_readableFor 10 = .ok (.ireturn, 1) := by decide +kernel
theorem dX5_readableFor_11 : decode cX5_readableFor 11 = .ok (.aload_n 0, 1) := by decide +kernel
theorem dX5_readableFor_12 : decode cX5_readableFor 12 = .ok (.getfield 10, 3) := by decide +kernel
theorem dX5_readableFor_15 : decode cX5_readableFor 15 = .ok (.iload_n 1, 1) := by decide +kernel
theorem dX5_readableFor_16 : decode cX5_readableFor 16 = .ok (.iload_n 2, 1) := by decide +kernel
theorem dX5_readableFor_17 : decode cX5_readableFor 17 = .ok (.invokevirtual 162, 3) := by decide +kernel
theorem dX5_readableFor_20 : decode cX5_readableFor 20 = .ok (.ireturn, 1) := by decide +kernel
set_option maxRecDepth 20000 in
theorem ggX5_bestNight_X3_nightOfMostSigns : GoodIn wsX5_bestNight wsX3_nightOfMostSigns := goodIn_r _ [6, 7, 8, 9, 10, 11, 12, 13, 5, 14, 15, 16, 17, 18, 19, 20, 21, 22, 23, 24, 25, 26, 27, 28, 29, 30, 31, 32, 33, 34, 35, 36, 37, 44, 45, 46, 47, 48, 49, 50, 51, 52, 53, 54, 55, 56] (by decide +kernel) (by decide +kernel)
set_option maxRecDepth 20000 in
theorem gX5_bestNight_X3_nightOfMostSigns : GoodIn wsX5_bestNight (wsV RX5 165 RX3 yX3_nightOfMostSigns wsX3_nightOfMostSigns) := goodIn_app (goodIn_of _ (by decide +kernel)) ggX5_bestNight_X3_nightOfMostSigns
theorem dX5_bestNight_0 : decode cX5_bestNight 0 = .ok (.aload_n 0, 1) := by decide +kernel
theorem dX5_bestNight_1 : decode cX5_bestNight 1 = .ok (.getfield 10, 3) := by decide +kernel
theorem dX5_bestNight_4 : decode cX5_bestNight 4 = .ok (.getfield 82, 3) := by decide +kernel
theorem dX5_bestNight_7 : decode cX5_bestNight 7 = .ok (.ifCond .ne 6, 3) := by decide +kernel
theorem dX5_bestNight_10 : decode cX5_bestNight 10 = .ok (.bipush (-3), 2) := by decide +kernel
theorem dX5_bestNight_12 : decode cX5_bestNight 12 = .ok (.ireturn, 1) := by decide +kernel
theorem dX5_bestNight_13 : decode cX5_bestNight 13 = .ok (.aload_n 0, 1) := by decide +kernel
theorem dX5_bestNight_14 : decode cX5_bestNight 14 = .ok (.getfield 10, 3) := by decide +kernel
theorem dX5_bestNight_17 : decode cX5_bestNight 17 = .ok (.invokevirtual 165, 3) := by decide +kernel
theorem dX5_bestNight_20 : decode cX5_bestNight 20 = .ok (.ireturn, 1) := by decide +kernel
set_option maxRecDepth 20000 in
theorem ggX5_fewestChanges_X5_isWithin : GoodIn wsX5_fewestChanges wsX5_isWithin := goodIn_r _ [6] (by decide +kernel) (by decide +kernel)
set_option maxRecDepth 20000 in
theorem gX5_fewestChanges_X5_isWithin : GoodIn wsX5_fewestChanges (va_wsS RX5 73 yX5_isWithin wsX5_isWithin) := goodIn_app (goodIn_of _ (by decide +kernel)) ggX5_fewestChanges_X5_isWithin
set_option maxRecDepth 20000 in
theorem ggX5_fewestChanges_X0_driveAlong : GoodIn wsX5_fewestChanges wsX0_driveAlong := goodIn_r _ [11, 12, 13, 14, 15, 16, 17, 18, 19, 10, 20, 21, 22, 23, 24, 25, 26, 27, 28, 29, 30, 31, 32, 33, 34, 35, 36, 37, 38, 39, 40, 41, 42, 43, 44, 45, 46, 47, 48, 49, 50, 51, 52, 53, 54, 55, 62, 63, 64, 65, 66, 67, 68, 69, 70, 71, 72, 73, 74, 75] (by decide +kernel) (by decide +kernel)
set_option maxRecDepth 20000 in
theorem gX5_fewestChanges_X0_driveAlong : GoodIn wsX5_fewestChanges (wsV RX5 168 RX0 yX0_driveAlong wsX0_driveAlong) := goodIn_app (goodIn_of _ (by decide +kernel)) ggX5_fewestChanges_X0_driveAlong
theorem dX5_fewestChanges_0 : decode cX5_fewestChanges 0 = .ok (.iload_n 2, 1) := by decide +kernel
theorem dX5_fewestChanges_1 : decode cX5_fewestChanges 1 = .ok (.iconst 0, 1) := by decide +kernel
theorem dX5_fewestChanges_2 : decode cX5_fewestChanges 2 = .ok (.iconst 2, 1) := by decide +kernel
theorem dX5_fewestChanges_3 : decode cX5_fewestChanges 3 = .ok (.invokestatic 73, 3) := by decide +kernel
theorem dX5_fewestChanges_6 : decode cX5_fewestChanges 6 = .ok (.ifCond .ne 5, 3) := by decide +kernel
theorem dX5_fewestChanges_9 : decode cX5_fewestChanges 9 = .ok (.iconst (-1), 1) := by decide +kernel
theorem dX5_fewestChanges_10 : decode cX5_fewestChanges 10 = .ok (.ireturn, 1) := by decide +kernel
theorem dX5_fewestChanges_11 : decode cX5_fewestChanges 11 = .ok (.iload_n 1, 1) := by decide +kernel
theorem dX5_fewestChanges_12 : decode cX5_fewestChanges 12 = .ok (.iconst 0, 1) := by decide +kernel
theorem dX5_fewestChanges_13 : decode cX5_fewestChanges 13 = .ok (.iconst 1, 1) := by decide +kernel
theorem dX5_fewestChanges_14 : decode cX5_fewestChanges 14 = .ok (.invokestatic 73, 3) := by decide +kernel
theorem dX5_fewestChanges_17 : decode cX5_fewestChanges 17 = .ok (.ifCond .ne 6, 3) := by decide +kernel
theorem dX5_fewestChanges_20 : decode cX5_fewestChanges 20 = .ok (.bipush (-2), 2) := by decide +kernel
theorem dX5_fewestChanges_22 : decode cX5_fewestChanges 22 = .ok (.ireturn, 1) := by decide +kernel
theorem dX5_fewestChanges_23 : decode cX5_fewestChanges 23 = .ok (.aload_n 0, 1) := by decide +kernel
theorem dX5_fewestChanges_24 : decode cX5_fewestChanges 24 = .ok (.getfield 40, 3) := by decide +kernel
theorem dX5_fewestChanges_27 : decode cX5_fewestChanges 27 = .ok (.aload_n 0, 1) := by decide +kernel
theorem dX5_fewestChanges_28 : decode cX5_fewestChanges 28 = .ok (.getfield 10, 3) := by decide +kernel
theorem dX5_fewestChanges_31 : decode cX5_fewestChanges 31 = .ok (.iload_n 1, 1) := by decide +kernel
theorem dX5_fewestChanges_32 : decode cX5_fewestChanges 32 = .ok (.iload_n 2, 1) := by decide +kernel
theorem dX5_fewestChanges_33 : decode cX5_fewestChanges 33 = .ok (.invokevirtual 168, 3) := by decide +kernel
theorem dX5_fewestChanges_36 : decode cX5_fewestChanges 36 = .ok (.ireturn, 1) := by decide +kernel
set_option maxRecDepth 20000 in
theorem ggX5_append_X5_isWithin : GoodIn wsX5_append wsX5_isWithin := goodIn_r _ [5] (by decide +kernel) (by decide +kernel)
set_option maxRecDepth 20000 in
theorem gX5_append_X5_isWithin : GoodIn wsX5_append (va_wsS RX5 73 yX5_isWithin wsX5_isWithin) := goodIn_app (goodIn_of _ (by decide +kernel)) ggX5_append_X5_isWithin
set_option maxRecDepth 20000 in
theorem ggX5_append_X2_add : GoodIn wsX5_append wsX2_add := goodIn_r _ [10, 11, 12, 19, 20] (by decide +kernel) (by decide +kernel)
set_option maxRecDepth 20000 in
theorem gX5_append_X2_add : GoodIn wsX5_append (wsV RX5 175 RX2 yX2_add wsX2_add) := goodIn_app (goodIn_of _ (by decide +kernel)) ggX5_append_X2_add
theorem dX5_append_0 : decode cX5_append 0 = .ok (.iload_n 1, 1) := by decide +kernel
theorem dX5_append_1 : decode cX5_append 1 = .ok (.bipush 33, 2) := by decide +kernel
theorem dX5_append_3 : decode cX5_append 3 = .ok (.bipush 126, 2) := by decide +kernel
theorem dX5_append_5 : decode cX5_append 5 = .ok (.invokestatic 73, 3) := by decide +kernel
theorem dX5_append_8 : decode cX5_append 8 = .ok (.ifCond .ne 6, 3) := by decide +kernel
theorem dX5_append_11 : decode cX5_append 11 = .ok (.bipush (-2), 2) := by decide +kernel
theorem dX5_append_13 : decode cX5_append 13 = .ok (.ireturn, 1) := by decide +kernel
theorem dX5_append_14 : decode cX5_append 14 = .ok (.aload_n 0, 1) := by decide +kernel
theorem dX5_append_15 : decode cX5_append 15 = .ok (.getfield 33, 3) := by decide +kernel
theorem dX5_append_18 : decode cX5_append 18 = .ok (.getfield 172, 3) := by decide +kernel
theorem dX5_append_21 : decode cX5_append 21 = .ok (.bipush 70, 2) := by decide +kernel
theorem dX5_append_23 : decode cX5_append 23 = .ok (.if_icmp .lt 6, 3) := by decide +kernel
theorem dX5_append_26 : decode cX5_append 26 = .ok (.bipush (-4), 2) := by decide +kernel
theorem dX5_append_28 : decode cX5_append 28 = .ok (.ireturn, 1) := by decide +kernel
theorem dX5_append_29 : decode cX5_append 29 = .ok (.aload_n 0, 1) := by decide +kernel
theorem dX5_append_30 : decode cX5_append 30 = .ok (.getfield 33, 3) := by decide +kernel
theorem dX5_append_33 : decode cX5_append 33 = .ok (.iload_n 1, 1) := by decide +kernel
theorem dX5_append_34 : decode cX5_append 34 = .ok (.invokevirtual 175, 3) := by decide +kernel
theorem dX5_append_37 : decode cX5_append 37 = .ok (.ireturn, 1) := by decide +kernel
set_option maxRecDepth 20000 in
theorem ggX5_clearText_X2_empty : GoodIn wsX5_clearText wsX2_empty := goodIn_r _ [6, 7, 14, 15] (by decide +kernel) (by decide +kernel)
set_option maxRecDepth 20000 in
theorem gX5_clearText_X2_empty : GoodIn wsX5_clearText (wsV RX5 178 RX2 yX2_empty wsX2_empty) := goodIn_app (goodIn_of _ (by decide +kernel)) ggX5_clearText_X2_empty
theorem dX5_clearText_0 : decode cX5_clearText 0 = .ok (.aload_n 0, 1) := by decide +kernel
theorem dX5_clearText_1 : decode cX5_clearText 1 = .ok (.getfield 33, 3) := by decide +kernel
theorem dX5_clearText_4 : decode cX5_clearText 4 = .ok (.invokevirtual 178, 3) := by decide +kernel
theorem dX5_clearText_7 : decode cX5_clearText 7 = .ok (.ireturn, 1) := by decide +kernel
set_option maxRecDepth 20000 in
theorem ggX5_errorPosition_X2_firstError : GoodIn wsX5_errorPosition wsX2_firstError := goodIn_r _ [6, 7, 8, 9, 10, 5, 11, 12, 13, 14, 15, 16, 17, 18, 19, 20, 21, 22, 23, 24, 25, 26, 27, 28, 29, 30, 31, 32, 33, 34, 35, 36, 37, 38, 39, 40, 41, 42, 43, 44, 45, 46, 47, 48, 49, 50, 51, 52, 53, 54, 55, 56, 57, 58, 59, 60, 61, 62, 63, 64, 65, 66, 67, 68, 69, 70, 71, 72, 73, 74, 75, 76, 77, 78, 79, 80, 81, 82, 83, 84, 85, 86, 87, 88, 89, 90, 91, 92, 93, 94, 95, 96, 97, 98, 99, 100, 101, 102, 103, 104, 105, 106, 107, 108, 109, 110, 111, 112, 113, 114, 115, 116, 117, 118, 119, 120, 121, 122, 123, 124, 125, 126, 127, 128, 129, 130, 131, 132, 133, 134, 135, 136, 137, 138, 145, 146] (by decide +kernel) (by decide +kernel)
set_option maxRecDepth 20000 in
theorem gX5_errorPosition_X2_firstError : GoodIn wsX5_errorPosition (wsV RX5 181 RX2 yX2_firstError wsX2_firstError) := goodIn_app (goodIn_of _ (by decide +kernel)) ggX5_errorPosition_X2_firstError
theorem dX5_errorPosition_0 : decode cX5_errorPosition 0 = .ok (.aload_n 0, 1) := by decide +kernel
theorem dX5_errorPosition_1 : decode cX5_errorPosition 1 = .ok (.getfield 33, 3) := by decide +kernel
theorem dX5_errorPosition_4 : decode cX5_errorPosition 4 = .ok (.invokevirtual 181, 3) := by decide +kernel
theorem dX5_errorPosition_7 : decode cX5_errorPosition 7 = .ok (.ireturn, 1) := by decide +kernel
set_option maxRecDepth 20000 in
theorem ggX5_carryOut_X2_firstError : GoodIn wsX5_carryOut wsX2_firstError := goodIn_r _ [8, 9, 10, 11, 12, 7, 13, 14, 15, 16, 17, 18, 19, 20, 21, 22, 23, 24, 25, 26, 27, 28, 29, 30, 31, 32, 33, 34, 35, 36, 37, 38, 39, 40, 41, 42, 43, 44, 45, 46, 47, 48, 49, 50, 51, 52, 53, 54, 55, 56, 57, 58, 59, 60, 61, 62, 63, 64, 65, 66, 67, 68, 69, 70, 71, 72, 73, 74, 75, 76, 77, 78, 79, 80, 81, 82, 83, 84, 85, 86, 87, 88, 89, 90, 91, 92, 93, 94, 95, 96, 97, 98, 99, 100, 101, 102, 103, 104, 105, 106, 107, 108, 109, 110, 111, 112, 113, 114, 115, 116, 117, 118, 119, 120, 121, 122, 123, 124, 125, 126, 127, 128, 129, 130, 131, 132, 133, 134, 135, 136, 137, 138, 139, 140, 328, 329] (by decide +kernel) (by decide +kernel)
set_option maxRecDepth 20000 in
theorem gX5_carryOut_X2_firstError : GoodIn wsX5_carryOut (wsV RX5 181 RX2 yX2_firstError wsX2_firstError) := goodIn_app (goodIn_of _ (by decide +kernel)) ggX5_carryOut_X2_firstError
set_option maxRecDepth 20000 in
theorem ggX5_carryOut_X1_record : GoodIn wsX5_carryOut wsX1_record := goodIn_r _ [145, 146, 147, 148, 149, 150, 151, 152, 153, 154, 155, 156, 157, 158, 159, 160, 161, 162, 163, 164, 165, 166, 167, 168, 169, 170, 171, 172, 173, 174, 330, 331, 332, 333, 334, 335, 336, 337, 338, 339, 340, 341, 342, 343, 344, 345] (by decide +kernel) (by decide +kernel)
set_option maxRecDepth 20000 in
theorem gX5_carryOut_X1_record : GoodIn wsX5_carryOut (wsV RX5 184 RX1 yX1_record wsX1_record) := goodIn_app (goodIn_of _ (by decide +kernel)) ggX5_carryOut_X1_record
set_option maxRecDepth 20000 in
theorem ggX5_carryOut_X5_carriesOutOrder : GoodIn wsX5_carryOut wsX5_carriesOutOrder := goodIn_r _ [178, 1, 3, 179, 11, 12, 7, 13, 9, 14, 15, 16, 17, 180, 181, 182, 183, 10, 30, 31, 32, 37, 38, 39, 18, 19, 20, 21, 22, 23, 24, 25, 26, 27, 28, 29, 40, 41, 42, 43, 44, 45, 46, 47, 48, 49, 50, 51, 52, 53, 54, 55, 56, 57, 58, 59, 60, 61, 62, 63, 64, 65, 66, 67, 68, 69, 70, 71, 72, 73, 74, 75, 76, 77, 78, 79, 80, 81, 82, 83, 84, 85, 86, 87, 88, 89, 90, 91, 92, 93, 94, 95, 96, 97, 98, 99, 100, 101, 102, 103, 104, 105, 106, 107, 108, 109, 110, 111, 112, 113, 114, 115, 116, 117, 118, 119, 120, 121, 122, 123, 124, 125, 126, 127, 128, 129, 130, 131, 132, 133, 134, 135, 136, 137, 138, 139, 140, 184, 185, 186, 187, 188, 189, 190, 191, 192, 193, 194, 195, 196, 197, 198, 199, 200, 201, 152, 202, 203, 204, 205, 206, 154, 207, 208, 209, 171, 210, 173, 211, 212, 213, 214, 174, 215, 216, 217, 218, 219, 220, 221, 156, 222, 223, 224, 225, 226, 227, 228, 229, 230, 231, 232, 233, 234, 235, 236, 237, 238, 239, 240, 241, 242, 243, 244, 245, 246, 247, 248, 249, 250, 155, 251, 252, 253, 254, 255, 256, 257, 258, 259, 260, 261, 262, 263, 264, 265, 266, 267, 268, 269, 270, 271, 272, 273, 274, 163, 165, 166, 275, 276, 277, 278, 162, 279, 280, 281, 282, 283, 284, 285, 286, 287, 288, 289, 290, 291, 292, 293, 294, 295, 296, 164, 167, 297, 298, 299, 300, 157, 301, 302, 303, 304, 305, 306, 307, 308, 309, 310, 311, 312, 313, 322, 323, 324, 325, 326, 327, 328, 329, 333, 334, 335, 336, 337, 338, 339, 340, 341, 342, 343, 344, 345] (by decide +kernel) (by decide +kernel)
set_option maxRecDepth 20000 in
theorem gX5_carryOut_X5_carriesOutOrder : GoodIn wsX5_carryOut (wsV RX5 188 RX5 yX5_carriesOutOrder wsX5_carriesOutOrder) := goodIn_app (goodIn_of _ (by decide +kernel)) ggX5_carryOut_X5_carriesOutOrder
set_option maxRecDepth 20000 in
theorem ggX5_carryOut_X2_widthAt : GoodIn wsX5_carryOut wsX2_widthAt := goodIn_r _ [317, 10, 11, 12, 7, 13, 9, 14, 15, 16, 17, 30, 31, 32, 18, 19, 20, 21, 22, 23, 24, 25, 26, 27, 28, 29, 328, 329] (by decide +kernel) (by decide +kernel)
set_option maxRecDepth 20000 in
theorem gX5_carryOut_X2_widthAt : GoodIn wsX5_carryOut (wsV RX5 192 RX2 yX2_widthAt wsX2_widthAt) := goodIn_app (goodIn_of _ (by decide +kernel)) ggX5_carryOut_X2_widthAt
set_option maxRecDepth 20000 in
theorem ggX5_carryOut_X2_empty : GoodIn wsX5_carryOut wsX2_empty := goodIn_r _ [321, 9, 328, 329] (by decide +kernel) (by decide +kernel)
set_option maxRecDepth 20000 in
theorem gX5_carryOut_X2_empty : GoodIn wsX5_carryOut (wsV RX5 178 RX2 yX2_empty wsX2_empty) := goodIn_app (goodIn_of _ (by decide +kernel)) ggX5_carryOut_X2_empty
theorem dX5_carryOut_0 : decode cX5_carryOut 0 = .ok (.aload_n 0, 1) := by decide +kernel
theorem dX5_carryOut_1 : decode cX5_carryOut 1 = .ok (.getfield 33, 3) := by decide +kernel
theorem dX5_carryOut_4 : decode cX5_carryOut 4 = .ok (.invokevirtual 181, 3) := by decide +kernel
theorem dX5_carryOut_7 : decode cX5_carryOut 7 = .ok (.bipush (-6), 2) := by decide +kernel
theorem dX5_carryOut_9 : decode cX5_carryOut 9 = .ok (.if_icmp .eq 6, 3) := by decide +kernel
theorem dX5_carryOut_12 : decode cX5_carryOut 12 = .ok (.bipush (-5), 2) := by decide +kernel
theorem dX5_carryOut_14 : decode cX5_carryOut 14 = .ok (.ireturn, 1) := by decide +kernel
theorem dX5_carryOut_15 : decode cX5_carryOut 15 = .ok (.aload_n 0, 1) := by decide +kernel
theorem dX5_carryOut_16 : decode cX5_carryOut 16 = .ok (.getfield 26, 3) := by decide +kernel
theorem dX5_carryOut_19 : decode cX5_carryOut 19 = .ok (.aload_n 0, 1) := by decide +kernel
theorem dX5_carryOut_20 : decode cX5_carryOut 20 = .ok (.getfield 10, 3) := by decide +kernel
theorem dX5_carryOut_23 : decode cX5_carryOut 23 = .ok (.invokevirtual 184, 3) := by decide +kernel
theorem dX5_carryOut_26 : decode cX5_carryOut 26 = .ok (.iconst 0, 1) := by decide +kernel
theorem dX5_carryOut_27 : decode cX5_carryOut 27 = .ok (.istore_n 1, 1) := by decide +kernel
theorem dX5_carryOut_28 : decode cX5_carryOut 28 = .ok (.iconst 0, 1) := by decide +kernel
theorem dX5_carryOut_29 : decode cX5_carryOut 29 = .ok (.istore_n 2, 1) := by decide +kernel
theorem dX5_carryOut_30 : decode cX5_carryOut 30 = .ok (.iload_n 2, 1) := by decide +kernel
theorem dX5_carryOut_31 : decode cX5_carryOut 31 = .ok (.bipush 70, 2) := by decide +kernel
theorem dX5_carryOut_33 : decode cX5_carryOut 33 = .ok (.if_icmp .ge 41, 3) := by decide +kernel
theorem dX5_carryOut_36 : decode cX5_carryOut 36 = .ok (.iload_n 1, 1) := by decide +kernel
theorem dX5_carryOut_37 : decode cX5_carryOut 37 = .ok (.aload_n 0, 1) := by decide +kernel
theorem dX5_carryOut_38 : decode cX5_carryOut 38 = .ok (.getfield 33, 3) := by decide +kernel
theorem dX5_carryOut_41 : decode cX5_carryOut 41 = .ok (.getfield 172, 3) := by decide +kernel
theorem dX5_carryOut_44 : decode cX5_carryOut 44 = .ok (.if_icmp .ge 30, 3) := by decide +kernel
theorem dX5_carryOut_47 : decode cX5_carryOut 47 = .ok (.aload_n 0, 1) := by decide +kernel
theorem dX5_carryOut_48 : decode cX5_carryOut 48 = .ok (.iload_n 1, 1) := by decide +kernel
theorem dX5_carryOut_49 : decode cX5_carryOut 49 = .ok (.invokevirtual 188, 3) := by decide +kernel
theorem dX5_carryOut_52 : decode cX5_carryOut 52 = .ok (.ifCond .eq 22, 3) := by decide +kernel
theorem dX5_carryOut_55 : decode cX5_carryOut 55 = .ok (.iload_n 1, 1) := by decide +kernel
theorem dX5_carryOut_56 : decode cX5_carryOut 56 = .ok (.aload_n 0, 1) := by decide +kernel
theorem dX5_carryOut_57 : decode cX5_carryOut 57 = .ok (.getfield 33, 3) := by decide +kernel
theorem dX5_carryOut_60 : decode cX5_carryOut 60 = .ok (.iload_n 1, 1) := by decide +kernel
theorem dX5_carryOut_61 : decode cX5_carryOut 61 = .ok (.invokevirtual 192, 3) := by decide +kernel
theorem dX5_carryOut_64 : decode cX5_carryOut 64 = .ok (.iconst 1, 1) := by decide +kernel
theorem dX5_carryOut_65 : decode cX5_carryOut 65 = .ok (.iadd, 1) := by decide +kernel
theorem dX5_carryOut_66 : decode cX5_carryOut 66 = .ok (.iadd, 1) := by decide +kernel
theorem dX5_carryOut_67 : decode cX5_carryOut 67 = .ok (.istore_n 1, 1) := by decide +kernel
theorem dX5_carryOut_68 : decode cX5_carryOut 68 = .ok (.iinc 2 1, 3) := by decide +kernel
theorem dX5_carryOut_71 : decode cX5_carryOut 71 = .ok (.goto (-41), 3) := by decide +kernel
theorem dX5_carryOut_74 : decode cX5_carryOut 74 = .ok (.aload_n 0, 1) := by decide +kernel
theorem dX5_carryOut_75 : decode cX5_carryOut 75 = .ok (.getfield 33, 3) := by decide +kernel
theorem dX5_carryOut_78 : decode cX5_carryOut 78 = .ok (.invokevirtual 178, 3) := by decide +kernel
theorem dX5_carryOut_81 : decode cX5_carryOut 81 = .ok (.pop, 1) := by decide +kernel
theorem dX5_carryOut_82 : decode cX5_carryOut 82 = .ok (.iload_n 2, 1) := by decide +kernel
theorem dX5_carryOut_83 : decode cX5_carryOut 83 = .ok (.ireturn, 1) := by decide +kernel
set_option maxRecDepth 20000 in
theorem ggX5_undo_X1_takeBack : GoodIn wsX5_undo wsX1_takeBack := goodIn_r _ [7, 8, 9, 10, 11, 12, 13, 14, 15, 16, 17, 18, 19, 20, 21, 22, 23, 24, 25, 26, 27, 28, 29, 30, 31, 32, 33, 34, 35, 36, 43, 44, 45, 46, 47, 48, 49, 50, 51, 52, 53, 54, 55, 56, 57, 58] (by decide +kernel) (by decide +kernel)
set_option maxRecDepth 20000 in
theorem gX5_undo_X1_takeBack : GoodIn wsX5_undo (wsV RX5 197 RX1 yX1_takeBack wsX1_takeBack) := goodIn_app (goodIn_of _ (by decide +kernel)) ggX5_undo_X1_takeBack
theorem dX5_undo_0 : decode cX5_undo 0 = .ok (.aload_n 0, 1) := by decide +kernel
theorem dX5_undo_1 : decode cX5_undo 1 = .ok (.getfield 26, 3) := by decide +kernel
theorem dX5_undo_4 : decode cX5_undo 4 = .ok (.getfield 195, 3) := by decide +kernel
theorem dX5_undo_7 : decode cX5_undo 7 = .ok (.ifCond .ne 6, 3) := by decide +kernel
theorem dX5_undo_10 : decode cX5_undo 10 = .ok (.bipush (-3), 2) := by decide +kernel
theorem dX5_undo_12 : decode cX5_undo 12 = .ok (.ireturn, 1) := by decide +kernel
theorem dX5_undo_13 : decode cX5_undo 13 = .ok (.aload_n 0, 1) := by decide +kernel
theorem dX5_undo_14 : decode cX5_undo 14 = .ok (.getfield 26, 3) := by decide +kernel
theorem dX5_undo_17 : decode cX5_undo 17 = .ok (.aload_n 0, 1) := by decide +kernel
theorem dX5_undo_18 : decode cX5_undo 18 = .ok (.getfield 10, 3) := by decide +kernel
theorem dX5_undo_21 : decode cX5_undo 21 = .ok (.invokevirtual 197, 3) := by decide +kernel
theorem dX5_undo_24 : decode cX5_undo 24 = .ok (.ireturn, 1) := by decide +kernel
set_option maxRecDepth 20000 in
theorem ggX5_save_X3_copyFrom : GoodIn wsX5_save wsX3_copyFrom := goodIn_r _ [8, 9, 10, 11, 12, 13, 14, 15, 16, 17, 18, 19, 20, 21, 22, 23, 24, 25, 26, 27, 28, 29, 36, 37, 38, 39, 40, 41, 42, 43, 44, 45, 46, 47, 48] (by decide +kernel) (by decide +kernel)
set_option maxRecDepth 20000 in
theorem gX5_save_X3_copyFrom : GoodIn wsX5_save (wsV RX5 201 RX3 yX3_copyFrom wsX3_copyFrom) := goodIn_app (goodIn_of _ (by decide +kernel)) ggX5_save_X3_copyFrom
theorem dX5_save_0 : decode cX5_save 0 = .ok (.aload_n 0, 1) := by decide +kernel
theorem dX5_save_1 : decode cX5_save 1 = .ok (.getfield 16, 3) := by decide +kernel
theorem dX5_save_4 : decode cX5_save 4 = .ok (.aload_n 0, 1) := by decide +kernel
theorem dX5_save_5 : decode cX5_save 5 = .ok (.getfield 10, 3) := by decide +kernel
theorem dX5_save_8 : decode cX5_save 8 = .ok (.invokevirtual 201, 3) := by decide +kernel
theorem dX5_save_11 : decode cX5_save 11 = .ok (.aload_n 0, 1) := by decide +kernel
theorem dX5_save_12 : decode cX5_save 12 = .ok (.iconst 1, 1) := by decide +kernel
theorem dX5_save_13 : decode cX5_save 13 = .ok (.putfield 19, 3) := by decide +kernel
theorem dX5_save_16 : decode cX5_save 16 = .ok (.aload_n 0, 1) := by decide +kernel
theorem dX5_save_17 : decode cX5_save 17 = .ok (.getfield 10, 3) := by decide +kernel
theorem dX5_save_20 : decode cX5_save 20 = .ok (.getfield 141, 3) := by decide +kernel
theorem dX5_save_23 : decode cX5_save 23 = .ok (.ireturn, 1) := by decide +kernel
set_option maxRecDepth 20000 in
theorem ggX5_restore_X5_recordedRoad : GoodIn wsX5_restore wsX5_recordedRoad := goodIn_r _ [8, 9, 3, 10, 11, 12, 13, 14, 15, 16, 17, 18, 19, 20, 21, 22, 23, 24, 25, 26, 27, 28, 29, 30, 31, 32, 33, 34, 35, 36, 37, 38, 39, 40, 41, 42, 43, 45, 46, 47, 48, 49, 50, 61, 62, 63, 51, 52, 53, 54, 55, 56, 57, 58, 59, 60, 64, 65, 66] (by decide +kernel) (by decide +kernel)
set_option maxRecDepth 20000 in
theorem gX5_restore_X5_recordedRoad : GoodIn wsX5_restore (wsV RX5 48 RX5 yX5_recordedRoad wsX5_recordedRoad) := goodIn_app (goodIn_of _ (by decide +kernel)) ggX5_restore_X5_recordedRoad
set_option maxRecDepth 20000 in
theorem ggX5_restore_X3_copyFrom : GoodIn wsX5_restore wsX3_copyFrom := goodIn_r _ [22, 23, 24, 25, 26, 27, 28, 29, 30, 31, 32, 33, 34, 35, 36, 37, 38, 39, 40, 41, 42, 43, 51, 52, 53, 54, 55, 56, 57, 58, 59, 60, 64, 65, 66] (by decide +kernel) (by decide +kernel)
set_option maxRecDepth 20000 in
theorem gX5_restore_X3_copyFrom : GoodIn wsX5_restore (wsV RX5 201 RX3 yX3_copyFrom wsX3_copyFrom) := goodIn_app (goodIn_of _ (by decide +kernel)) ggX5_restore_X3_copyFrom
theorem dX5_restore_0 : decode cX5_restore 0 = .ok (.aload_n 0, 1) := by decide +kernel
theorem dX5_restore_1 : decode cX5_restore 1 = .ok (.getfield 19, 3) := by decide +kernel
theorem dX5_restore_4 : decode cX5_restore 4 = .ok (.ifCond .ne 6, 3) := by decide +kernel
theorem dX5_restore_7 : decode cX5_restore 7 = .ok (.bipush (-3), 2) := by decide +kernel
theorem dX5_restore_9 : decode cX5_restore 9 = .ok (.ireturn, 1) := by decide +kernel
theorem dX5_restore_10 : decode cX5_restore 10 = .ok (.aload_n 0, 1) := by decide +kernel
theorem dX5_restore_11 : decode cX5_restore 11 = .ok (.invokevirtual 48, 3) := by decide +kernel
theorem dX5_restore_14 : decode cX5_restore 14 = .ok (.aload_n 0, 1) := by decide +kernel
theorem dX5_restore_15 : decode cX5_restore 15 = .ok (.getfield 16, 3) := by decide +kernel
theorem dX5_restore_18 : decode cX5_restore 18 = .ok (.invokevirtual 201, 3) := by decide +kernel
theorem dX5_restore_21 : decode cX5_restore 21 = .ok (.aload_n 0, 1) := by decide +kernel
theorem dX5_restore_22 : decode cX5_restore 22 = .ok (.getfield 10, 3) := by decide +kernel
theorem dX5_restore_25 : decode cX5_restore 25 = .ok (.getfield 141, 3) := by decide +kernel
theorem dX5_restore_28 : decode cX5_restore 28 = .ok (.ireturn, 1) := by decide +kernel
set_option maxRecDepth 20000 in
theorem ggX5_recordedRoad_X1_record : GoodIn wsX5_recordedRoad wsX1_record := goodIn_r _ [7, 8, 9, 10, 11, 12, 13, 14, 15, 16, 17, 18, 19, 20, 21, 22, 23, 24, 25, 26, 27, 28, 29, 30, 31, 32, 33, 34, 35, 36, 43, 44, 45, 46, 47, 48, 49, 50, 51, 52, 53, 54, 55, 56, 57, 58] (by decide +kernel) (by decide +kernel)
set_option maxRecDepth 20000 in
theorem gX5_recordedRoad_X1_record : GoodIn wsX5_recordedRoad (wsV RX5 184 RX1 yX1_record wsX1_record) := goodIn_app (goodIn_of _ (by decide +kernel)) ggX5_recordedRoad_X1_record
theorem dX5_recordedRoad_0 : decode cX5_recordedRoad 0 = .ok (.aload_n 0, 1) := by decide +kernel
theorem dX5_recordedRoad_1 : decode cX5_recordedRoad 1 = .ok (.getfield 26, 3) := by decide +kernel
theorem dX5_recordedRoad_4 : decode cX5_recordedRoad 4 = .ok (.aload_n 0, 1) := by decide +kernel
theorem dX5_recordedRoad_5 : decode cX5_recordedRoad 5 = .ok (.getfield 10, 3) := by decide +kernel
theorem dX5_recordedRoad_8 : decode cX5_recordedRoad 8 = .ok (.invokevirtual 184, 3) := by decide +kernel
theorem dX5_recordedRoad_11 : decode cX5_recordedRoad 11 = .ok (.aload_n 0, 1) := by decide +kernel
theorem dX5_recordedRoad_12 : decode cX5_recordedRoad 12 = .ok (.getfield 10, 3) := by decide +kernel
theorem dX5_recordedRoad_15 : decode cX5_recordedRoad 15 = .ok (.areturn, 1) := by decide +kernel
set_option maxRecDepth 20000 in
theorem ggX5_arrowError_X5_placeError : GoodIn wsX5_arrowError wsX5_placeError := goodIn_r _ [5, 6, 7, 4, 8, 9, 10, 11] (by decide +kernel) (by decide +kernel)
set_option maxRecDepth 20000 in
theorem gX5_arrowError_X5_placeError : GoodIn wsX5_arrowError (va_wsS RX5 55 yX5_placeError wsX5_placeError) := goodIn_app (goodIn_of _ (by decide +kernel)) ggX5_arrowError_X5_placeError
set_option maxRecDepth 20000 in
theorem ggX5_arrowError_X3_refusal : GoodIn wsX5_arrowError wsX3_refusal := goodIn_r _ [16, 17, 18, 19, 15, 20, 21, 10, 4, 11, 22, 23, 24, 25, 26, 27, 28, 29, 30, 31, 32, 33, 34, 35, 36, 37, 38, 39, 40, 41, 42, 43, 50, 51, 52, 53, 54, 55, 56, 57, 58, 59, 60, 61, 62] (by decide +kernel) (by decide +kernel)
set_option maxRecDepth 20000 in
theorem gX5_arrowError_X3_refusal : GoodIn wsX5_arrowError (wsV RX5 159 RX3 yX3_refusal wsX3_refusal) := goodIn_app (goodIn_of _ (by decide +kernel)) ggX5_arrowError_X3_refusal
theorem dX5_arrowError_0 : decode cX5_arrowError 0 = .ok (.iload_n 1, 1) := by decide +kernel
theorem dX5_arrowError_1 : decode cX5_arrowError 1 = .ok (.iconst 3, 1) := by decide +kernel
theorem dX5_arrowError_2 : decode cX5_arrowError 2 = .ok (.iload_n 2, 1) := by decide +kernel
theorem dX5_arrowError_3 : decode cX5_arrowError 3 = .ok (.iload_n 3, 1) := by decide +kernel
theorem dX5_arrowError_4 : decode cX5_arrowError 4 = .ok (.iconst 3, 1) := by decide +kernel
theorem dX5_arrowError_5 : decode cX5_arrowError 5 = .ok (.invokestatic 55, 3) := by decide +kernel
theorem dX5_arrowError_8 : decode cX5_arrowError 8 = .ok (.istore 4, 2) := by decide +kernel
theorem dX5_arrowError_10 : decode cX5_arrowError 10 = .ok (.iload 4, 2) := by decide +kernel
theorem dX5_arrowError_12 : decode cX5_arrowError 12 = .ok (.ifCond .eq 6, 3) := by decide +kernel
theorem dX5_arrowError_15 : decode cX5_arrowError 15 = .ok (.iload 4, 2) := by decide +kernel
theorem dX5_arrowError_17 : decode cX5_arrowError 17 = .ok (.ireturn, 1) := by decide +kernel
theorem dX5_arrowError_18 : decode cX5_arrowError 18 = .ok (.aload_n 0, 1) := by decide +kernel
theorem dX5_arrowError_19 : decode cX5_arrowError 19 = .ok (.getfield 10, 3) := by decide +kernel
theorem dX5_arrowError_22 : decode cX5_arrowError 22 = .ok (.iload_n 1, 1) := by decide +kernel
theorem dX5_arrowError_23 : decode cX5_arrowError 23 = .ok (.iload_n 2, 1) := by decide +kernel
theorem dX5_arrowError_24 : decode cX5_arrowError 24 = .ok (.iload_n 3, 1) := by decide +kernel
theorem dX5_arrowError_25 : decode cX5_arrowError 25 = .ok (.invokevirtual 159, 3) := by decide +kernel
theorem dX5_arrowError_28 : decode cX5_arrowError 28 = .ok (.ifCond .ne 7, 3) := by decide +kernel
theorem dX5_arrowError_31 : decode cX5_arrowError 31 = .ok (.iconst 0, 1) := by decide +kernel
theorem dX5_arrowError_32 : decode cX5_arrowError 32 = .ok (.goto 5, 3) := by decide +kernel
theorem dX5_arrowError_35 : decode cX5_arrowError 35 = .ok (.bipush (-3), 2) := by decide +kernel
theorem dX5_arrowError_37 : decode cX5_arrowError 37 = .ok (.ireturn, 1) := by decide +kernel
set_option maxRecDepth 20000 in
theorem ggX5_nightError_X5_isWithin : GoodIn wsX5_nightError wsX5_isWithin := goodIn_r _ [5] (by decide +kernel) (by decide +kernel)
set_option maxRecDepth 20000 in
theorem gX5_nightError_X5_isWithin : GoodIn wsX5_nightError (va_wsS RX5 73 yX5_isWithin wsX5_isWithin) := goodIn_app (goodIn_of _ (by decide +kernel)) ggX5_nightError_X5_isWithin
theorem dX5_nightError_0 : decode cX5_nightError 0 = .ok (.iload_n 1, 1) := by decide +kernel
theorem dX5_nightError_1 : decode cX5_nightError 1 = .ok (.iconst 0, 1) := by decide +kernel
theorem dX5_nightError_2 : decode cX5_nightError 2 = .ok (.bipush 15, 2) := by decide +kernel
theorem dX5_nightError_4 : decode cX5_nightError 4 = .ok (.invokestatic 73, 3) := by decide +kernel
theorem dX5_nightError_7 : decode cX5_nightError 7 = .ok (.ifCond .eq 13, 3) := by decide +kernel
theorem dX5_nightError_10 : decode cX5_nightError 10 = .ok (.iload_n 2, 1) := by decide +kernel
theorem dX5_nightError_11 : decode cX5_nightError 11 = .ok (.iconst 0, 1) := by decide +kernel
theorem dX5_nightError_12 : decode cX5_nightError 12 = .ok (.bipush 15, 2) := by decide +kernel
theorem dX5_nightError_14 : decode cX5_nightError 14 = .ok (.invokestatic 73, 3) := by decide +kernel
theorem dX5_nightError_17 : decode cX5_nightError 17 = .ok (.ifCond .ne 5, 3) := by decide +kernel
theorem dX5_nightError_20 : decode cX5_nightError 20 = .ok (.iconst (-1), 1) := by decide +kernel
theorem dX5_nightError_21 : decode cX5_nightError 21 = .ok (.ireturn, 1) := by decide +kernel
theorem dX5_nightError_22 : decode cX5_nightError 22 = .ok (.aload_n 0, 1) := by decide +kernel
theorem dX5_nightError_23 : decode cX5_nightError 23 = .ok (.getfield 10, 3) := by decide +kernel
theorem dX5_nightError_26 : decode cX5_nightError 26 = .ok (.getfield 82, 3) := by decide +kernel
theorem dX5_nightError_29 : decode cX5_nightError 29 = .ok (.ifCond .ne 8, 3) := by decide +kernel
theorem dX5_nightError_32 : decode cX5_nightError 32 = .ok (.bipush (-3), 2) := by decide +kernel
theorem dX5_nightError_34 : decode cX5_nightError 34 = .ok (.goto 4, 3) := by decide +kernel
theorem dX5_nightError_37 : decode cX5_nightError 37 = .ok (.iconst 0, 1) := by decide +kernel
theorem dX5_nightError_38 : decode cX5_nightError 38 = .ok (.ireturn, 1) := by decide +kernel
set_option maxRecDepth 20000 in
theorem ggX5_carriesOutOrder_X2_codeAt : GoodIn wsX5_carriesOutOrder wsX2_codeAt := goodIn_r _ [7, 8, 9, 10, 11, 12, 287, 288] (by decide +kernel) (by decide +kernel)
set_option maxRecDepth 20000 in
theorem gX5_carriesOutOrder_X2_codeAt : GoodIn wsX5_carriesOutOrder (wsV RX5 204 RX2 yX2_codeAt wsX2_codeAt) := goodIn_app (goodIn_of _ (by decide +kernel)) ggX5_carriesOutOrder_X2_codeAt
set_option maxRecDepth 20000 in
theorem ggX5_carriesOutOrder_X2_argument : GoodIn wsX5_carriesOutOrder wsX2_argument := goodIn_r _ [16, 17, 4, 5, 6, 7, 8, 9, 10, 11, 12, 18, 19, 20, 21, 22, 23, 24, 25, 26, 27, 28, 29, 30, 31, 32, 33, 34, 35, 36, 37, 38, 39, 40, 41, 42, 43, 44, 45, 46, 47, 48, 49, 50, 51, 52, 53, 54, 55, 56, 57, 58, 59, 60, 61, 62, 63, 64, 65, 66, 67, 68, 69, 70, 71, 72, 73, 74, 75, 76, 77, 78, 79, 80, 81, 82, 83, 84, 85, 86, 87, 88, 89, 90, 91, 92, 93, 94, 95, 96, 97, 98, 99, 100, 101, 102, 103, 104, 105, 106, 107, 108, 109, 110, 111, 112, 113, 114, 115, 116, 117, 118, 119, 120, 121, 122, 123, 124, 125, 126, 127, 128, 129, 130, 131, 132, 133, 134, 135, 136, 287, 288] (by decide +kernel) (by decide +kernel)
set_option maxRecDepth 20000 in
theorem gX5_carriesOutOrder_X2_argument : GoodIn wsX5_carriesOutOrder (wsV RX5 207 RX2 yX2_argument wsX2_argument) := goodIn_app (goodIn_of _ (by decide +kernel)) ggX5_carriesOutOrder_X2_argument
set_option maxRecDepth 20000 in
theorem ggX5_carriesOutOrder_X5_orderError : GoodIn wsX5_carriesOutOrder wsX5_orderError := goodIn_r _ [140, 141, 142, 143, 11, 144, 2, 145, 146, 147, 148, 149, 150, 151, 10, 12, 152, 153, 154, 155, 156, 157, 158, 159, 160, 161, 162, 163, 164, 165, 166, 167, 168, 169, 170, 171, 172, 173, 174, 175, 176, 177, 178, 179, 180, 181, 182, 183, 184, 185, 186, 187, 281, 282, 283, 284, 285, 286, 289, 290, 291, 292, 293, 294, 295, 296, 297, 298, 299, 300, 301] (by decide +kernel) (by decide +kernel)
set_option maxRecDepth 20000 in
theorem gX5_carriesOutOrder_X5_orderError : GoodIn wsX5_carriesOutOrder (wsV RX5 210 RX5 yX5_orderError wsX5_orderError) := goodIn_app (goodIn_of _ (by decide +kernel)) ggX5_carriesOutOrder_X5_orderError
set_option maxRecDepth 20000 in
theorem ggX5_carriesOutOrder_X3_putArrow : GoodIn wsX5_carriesOutOrder wsX3_putArrow := goodIn_r _ [191, 161, 192, 193, 194, 165, 195, 172, 167, 196, 197, 198, 199, 200, 201, 202, 203, 204, 11, 205, 289, 290, 291, 292, 293, 294, 295, 296, 297, 298, 299, 300, 301] (by decide +kernel) (by decide +kernel)
set_option maxRecDepth 20000 in
theorem gX5_carriesOutOrder_X3_putArrow : GoodIn wsX5_carriesOutOrder (wsV RX5 52 RX3 yX3_putArrow wsX3_putArrow) := goodIn_app (goodIn_of _ (by decide +kernel)) ggX5_carriesOutOrder_X3_putArrow
set_option maxRecDepth 20000 in
theorem ggX5_carriesOutOrder_X3_putWord : GoodIn wsX5_carriesOutOrder wsX3_putWord := goodIn_r _ [209, 210, 192, 193, 194, 165, 195, 172, 167, 196, 197, 198, 199, 200, 201, 202, 203, 204, 11, 205, 289, 290, 291, 292, 293, 294, 295, 296, 297, 298, 299, 300, 301] (by decide +kernel) (by decide +kernel)
set_option maxRecDepth 20000 in
theorem gX5_carriesOutOrder_X3_putWord : GoodIn wsX5_carriesOutOrder (wsV RX5 59 RX3 yX3_putWord wsX3_putWord) := goodIn_app (goodIn_of _ (by decide +kernel)) ggX5_carriesOutOrder_X3_putWord
set_option maxRecDepth 20000 in
theorem ggX5_carriesOutOrder_X3_putDash : GoodIn wsX5_carriesOutOrder wsX3_putDash := goodIn_r _ [214, 180, 215, 216, 217, 155, 218, 168, 169, 170, 165, 171, 167, 172, 219, 220, 221, 222, 223, 224, 225, 226, 227, 89, 90, 91, 204, 11, 205, 192, 193, 194, 195, 289, 290, 291, 292, 293, 294, 295, 296, 297, 298, 299, 300, 301] (by decide +kernel) (by decide +kernel)
set_option maxRecDepth 20000 in
theorem gX5_carriesOutOrder_X3_putDash : GoodIn wsX5_carriesOutOrder (wsV RX5 62 RX3 yX3_putDash wsX3_putDash) := goodIn_app (goodIn_of _ (by decide +kernel)) ggX5_carriesOutOrder_X3_putDash
set_option maxRecDepth 20000 in
theorem ggX5_carriesOutOrder_X3_workNight : GoodIn wsX5_carriesOutOrder wsX3_workNight := goodIn_r _ [231, 232, 233, 90, 234, 235, 236, 237, 238, 239, 240, 155, 241, 242, 243, 93, 94, 244, 245, 246, 247, 210, 161, 180, 248, 249, 250, 165, 251, 252, 167, 253, 254, 255, 256, 289, 290, 291, 292, 293, 294, 295, 296, 297, 298, 299, 300, 301] (by decide +kernel) (by decide +kernel)
set_option maxRecDepth 20000 in
theorem gX5_carriesOutOrder_X3_workNight : GoodIn wsX5_carriesOutOrder (wsV RX5 96 RX3 yX3_workNight wsX3_workNight) := goodIn_app (goodIn_of _ (by decide +kernel)) ggX5_carriesOutOrder_X3_workNight
set_option maxRecDepth 20000 in
theorem ggX5_carriesOutOrder_X3_passDays : GoodIn wsX5_carriesOutOrder wsX3_passDays := goodIn_r _ [260, 261, 262, 263, 264, 265, 155, 266, 210, 161, 267, 180, 268, 269, 270, 271, 272, 273, 274, 275, 242, 276, 277, 278, 165, 279, 167, 168, 169, 170, 171, 172, 280, 224, 225, 226, 227, 89, 90, 91, 204, 11, 205, 289, 290, 291, 292, 293, 294, 295, 296, 297, 298, 299, 300, 301] (by decide +kernel) (by decide +kernel)
set_option maxRecDepth 20000 in
theorem gX5_carriesOutOrder_X3_passDays : GoodIn wsX5_carriesOutOrder (wsV RX5 90 RX3 yX3_passDays wsX3_passDays) := goodIn_app (goodIn_of _ (by decide +kernel)) ggX5_carriesOutOrder_X3_passDays
theorem dX5_carriesOutOrder_0 : decode cX5_carriesOutOrder 0 = .ok (.aload_n 0, 1) := by decide +kernel
theorem dX5_carriesOutOrder_1 : decode cX5_carriesOutOrder 1 = .ok (.getfield 33, 3) := by decide +kernel
theorem dX5_carriesOutOrder_4 : decode cX5_carriesOutOrder 4 = .ok (.iload_n 1, 1) := by decide +kernel
theorem dX5_carriesOutOrder_5 : decode cX5_carriesOutOrder 5 = .ok (.invokevirtual 204, 3) := by decide +kernel
theorem dX5_carriesOutOrder_8 : decode cX5_carriesOutOrder 8 = .ok (.istore_n 2, 1) := by decide +kernel
theorem dX5_carriesOutOrder_9 : decode cX5_carriesOutOrder 9 = .ok (.aload_n 0, 1) := by decide +kernel
theorem dX5_carriesOutOrder_10 : decode cX5_carriesOutOrder 10 = .ok (.getfield 33, 3) := by decide +kernel
theorem dX5_carriesOutOrder_13 : decode cX5_carriesOutOrder 13 = .ok (.iload_n 1, 1) := by decide +kernel
theorem dX5_carriesOutOrder_14 : decode cX5_carriesOutOrder 14 = .ok (.iconst 1, 1) := by decide +kernel
theorem dX5_carriesOutOrder_15 : decode cX5_carriesOutOrder 15 = .ok (.invokevirtual 207, 3) := by decide +kernel
theorem dX5_carriesOutOrder_18 : decode cX5_carriesOutOrder 18 = .ok (.istore_n 3, 1) := by decide +kernel
theorem dX5_carriesOutOrder_19 : decode cX5_carriesOutOrder 19 = .ok (.aload_n 0, 1) := by decide +kernel
theorem dX5_carriesOutOrder_20 : decode cX5_carriesOutOrder 20 = .ok (.getfield 33, 3) := by decide +kernel
theorem dX5_carriesOutOrder_23 : decode cX5_carriesOutOrder 23 = .ok (.iload_n 1, 1) := by decide +kernel
theorem dX5_carriesOutOrder_24 : decode cX5_carriesOutOrder 24 = .ok (.iconst 2, 1) := by decide +kernel
theorem dX5_carriesOutOrder_25 : decode cX5_carriesOutOrder 25 = .ok (.invokevirtual 207, 3) := by decide +kernel
theorem dX5_carriesOutOrder_28 : decode cX5_carriesOutOrder 28 = .ok (.istore 4, 2) := by decide +kernel
theorem dX5_carriesOutOrder_30 : decode cX5_carriesOutOrder 30 = .ok (.aload_n 0, 1) := by decide +kernel
theorem dX5_carriesOutOrder_31 : decode cX5_carriesOutOrder 31 = .ok (.getfield 33, 3) := by decide +kernel
theorem dX5_carriesOutOrder_34 : decode cX5_carriesOutOrder 34 = .ok (.iload_n 1, 1) := by decide +kernel
theorem dX5_carriesOutOrder_35 : decode cX5_carriesOutOrder 35 = .ok (.iconst 3, 1) := by decide +kernel
theorem dX5_carriesOutOrder_36 : decode cX5_carriesOutOrder 36 = .ok (.invokevirtual 207, 3) := by decide +kernel
theorem dX5_carriesOutOrder_39 : decode cX5_carriesOutOrder 39 = .ok (.istore 5, 2) := by decide +kernel
theorem dX5_carriesOutOrder_41 : decode cX5_carriesOutOrder 41 = .ok (.aload_n 0, 1) := by decide +kernel
theorem dX5_carriesOutOrder_42 : decode cX5_carriesOutOrder 42 = .ok (.iload_n 2, 1) := by decide +kernel
theorem dX5_carriesOutOrder_43 : decode cX5_carriesOutOrder 43 = .ok (.iload_n 3, 1) := by decide +kernel
theorem dX5_carriesOutOrder_44 : decode cX5_carriesOutOrder 44 = .ok (.iload 4, 2) := by decide +kernel
theorem dX5_carriesOutOrder_46 : decode cX5_carriesOutOrder 46 = .ok (.iload 5, 2) := by decide +kernel
theorem dX5_carriesOutOrder_48 : decode cX5_carriesOutOrder 48 = .ok (.invokevirtual 210, 3) := by decide +kernel
theorem dX5_carriesOutOrder_51 : decode cX5_carriesOutOrder 51 = .ok (.ifCond .eq 5, 3) := by decide +kernel
theorem dX5_carriesOutOrder_54 : decode cX5_carriesOutOrder 54 = .ok (.iconst 0, 1) := by decide +kernel
theorem dX5_carriesOutOrder_55 : decode cX5_carriesOutOrder 55 = .ok (.ireturn, 1) := by decide +kernel
theorem dX5_carriesOutOrder_56 : decode cX5_carriesOutOrder 56 = .ok (.iload_n 2, 1) := by decide +kernel
theorem dX5_carriesOutOrder_57 : decode cX5_carriesOutOrder 57 = .ok (.lookupswitch 105 #[(97, 43), (108, 75), (110, 91), (119, 59)], 43) := by decide +kernel
theorem dX5_carriesOutOrder_100 : decode cX5_carriesOutOrder 100 = .ok (.aload_n 0, 1) := by decide +kernel
theorem dX5_carriesOutOrder_101 : decode cX5_carriesOutOrder 101 = .ok (.getfield 10, 3) := by decide +kernel
theorem dX5_carriesOutOrder_104 : decode cX5_carriesOutOrder 104 = .ok (.iload_n 3, 1) := by decide +kernel
theorem dX5_carriesOutOrder_105 : decode cX5_carriesOutOrder 105 = .ok (.iload 4, 2) := by decide +kernel
theorem dX5_carriesOutOrder_107 : decode cX5_carriesOutOrder 107 = .ok (.iload 5, 2) := by decide +kernel
theorem dX5_carriesOutOrder_109 : decode cX5_carriesOutOrder 109 = .ok (.invokevirtual 52, 3) := by decide +kernel
theorem dX5_carriesOutOrder_112 : decode cX5_carriesOutOrder 112 = .ok (.pop, 1) := by decide +kernel
theorem dX5_carriesOutOrder_113 : decode cX5_carriesOutOrder 113 = .ok (.goto 58, 3) := by decide +kernel
theorem dX5_carriesOutOrder_116 : decode cX5_carriesOutOrder 116 = .ok (.aload_n 0, 1) := by decide +kernel
theorem dX5_carriesOutOrder_117 : decode cX5_carriesOutOrder 117 = .ok (.getfield 10, 3) := by decide +kernel
theorem dX5_carriesOutOrder_120 : decode cX5_carriesOutOrder 120 = .ok (.iload_n 3, 1) := by decide +kernel
theorem dX5_carriesOutOrder_121 : decode cX5_carriesOutOrder 121 = .ok (.iload 4, 2) := by decide +kernel
theorem dX5_carriesOutOrder_123 : decode cX5_carriesOutOrder 123 = .ok (.iload 5, 2) := by decide +kernel
theorem dX5_carriesOutOrder_125 : decode cX5_carriesOutOrder 125 = .ok (.invokevirtual 59, 3) := by decide +kernel
theorem dX5_carriesOutOrder_128 : decode cX5_carriesOutOrder 128 = .ok (.pop, 1) := by decide +kernel
theorem dX5_carriesOutOrder_129 : decode cX5_carriesOutOrder 129 = .ok (.goto 42, 3) := by decide +kernel
theorem dX5_carriesOutOrder_132 : decode cX5_carriesOutOrder 132 = .ok (.aload_n 0, 1) := by decide +kernel
theorem dX5_carriesOutOrder_133 : decode cX5_carriesOutOrder 133 = .ok (.getfield 10, 3) := by decide +kernel
theorem dX5_carriesOutOrder_136 : decode cX5_carriesOutOrder 136 = .ok (.iload_n 3, 1) := by decide +kernel
theorem dX5_carriesOutOrder_137 : decode cX5_carriesOutOrder 137 = .ok (.iload 4, 2) := by decide +kernel
theorem dX5_carriesOutOrder_139 : decode cX5_carriesOutOrder 139 = .ok (.iload 5, 2) := by decide +kernel
theorem dX5_carriesOutOrder_141 : decode cX5_carriesOutOrder 141 = .ok (.invokevirtual 62, 3) := by decide +kernel
theorem dX5_carriesOutOrder_144 : decode cX5_carriesOutOrder 144 = .ok (.pop, 1) := by decide +kernel
theorem dX5_carriesOutOrder_145 : decode cX5_carriesOutOrder 145 = .ok (.goto 26, 3) := by decide +kernel
theorem dX5_carriesOutOrder_148 : decode cX5_carriesOutOrder 148 = .ok (.aload_n 0, 1) := by decide +kernel
theorem dX5_carriesOutOrder_149 : decode cX5_carriesOutOrder 149 = .ok (.getfield 10, 3) := by decide +kernel
theorem dX5_carriesOutOrder_152 : decode cX5_carriesOutOrder 152 = .ok (.iload_n 3, 1) := by decide +kernel
theorem dX5_carriesOutOrder_153 : decode cX5_carriesOutOrder 153 = .ok (.iload 4, 2) := by decide +kernel
theorem dX5_carriesOutOrder_155 : decode cX5_carriesOutOrder 155 = .ok (.invokevirtual 96, 3) := by decide +kernel
theorem dX5_carriesOutOrder_158 : decode cX5_carriesOutOrder 158 = .ok (.pop, 1) := by decide +kernel
theorem dX5_carriesOutOrder_159 : decode cX5_carriesOutOrder 159 = .ok (.goto 12, 3) := by decide +kernel
theorem dX5_carriesOutOrder_162 : decode cX5_carriesOutOrder 162 = .ok (.aload_n 0, 1) := by decide +kernel
theorem dX5_carriesOutOrder_163 : decode cX5_carriesOutOrder 163 = .ok (.getfield 10, 3) := by decide +kernel
theorem dX5_carriesOutOrder_166 : decode cX5_carriesOutOrder 166 = .ok (.iconst 1, 1) := by decide +kernel
theorem dX5_carriesOutOrder_167 : decode cX5_carriesOutOrder 167 = .ok (.invokevirtual 90, 3) := by decide +kernel
theorem dX5_carriesOutOrder_170 : decode cX5_carriesOutOrder 170 = .ok (.pop, 1) := by decide +kernel
theorem dX5_carriesOutOrder_171 : decode cX5_carriesOutOrder 171 = .ok (.iconst 1, 1) := by decide +kernel
theorem dX5_carriesOutOrder_172 : decode cX5_carriesOutOrder 172 = .ok (.ireturn, 1) := by decide +kernel
set_option maxRecDepth 20000 in
theorem ggX5_orderError_X5_arrowError : GoodIn wsX5_orderError wsX5_arrowError := goodIn_r _ [5, 6, 7, 8, 4, 9, 10, 11, 12, 13, 14, 15, 16, 17, 18, 19, 20, 21, 22, 23, 24, 25, 26, 27, 28, 29, 30, 31, 32, 33, 34, 35, 36, 37, 38, 39, 40, 41, 42, 43, 44, 45, 46, 47, 52, 53, 54, 55, 56, 57, 58, 59, 60, 61, 62, 63, 64, 65, 66, 67, 68, 69, 70] (by decide +kernel) (by decide +kernel)
set_option maxRecDepth 20000 in
theorem gX5_orderError_X5_arrowError : GoodIn wsX5_orderError (wsV RX5 44 RX5 yX5_arrowError wsX5_arrowError) := goodIn_app (goodIn_of _ (by decide +kernel)) ggX5_orderError_X5_arrowError
set_option maxRecDepth 20000 in
theorem ggX5_orderError_X5_placeError : GoodIn wsX5_orderError wsX5_placeError := goodIn_r _ [9, 10, 11, 4, 12, 13, 14, 15] (by decide +kernel) (by decide +kernel)
set_option maxRecDepth 20000 in
theorem gX5_orderError_X5_placeError : GoodIn wsX5_orderError (va_wsS RX5 55 yX5_placeError wsX5_placeError) := goodIn_app (goodIn_of _ (by decide +kernel)) ggX5_orderError_X5_placeError
set_option maxRecDepth 20000 in
theorem ggX5_orderError_X5_nightError : GoodIn wsX5_orderError wsX5_nightError := goodIn_r _ [51, 6, 13, 14, 4, 15, 52, 53, 54, 55, 56, 57, 58, 59, 60, 61, 62, 63, 64, 65, 66, 67] (by decide +kernel) (by decide +kernel)
set_option maxRecDepth 20000 in
theorem gX5_orderError_X5_nightError : GoodIn wsX5_orderError (wsV RX5 93 RX5 yX5_nightError wsX5_nightError) := goodIn_app (goodIn_of _ (by decide +kernel)) ggX5_orderError_X5_nightError
theorem dX5_orderError_0 : decode cX5_orderError 0 = .ok (.iload_n 1, 1) := by decide +kernel
theorem dX5_orderError_1 : decode cX5_orderError 1 = .ok (.lookupswitch 89 #[(97, 51), (100, 87), (108, 70), (110, 80), (119, 60)], 51) := by decide +kernel
theorem dX5_orderError_52 : decode cX5_orderError 52 = .ok (.aload_n 0, 1) := by decide +kernel
theorem dX5_orderError_53 : decode cX5_orderError 53 = .ok (.iload_n 2, 1) := by decide +kernel
theorem dX5_orderError_54 : decode cX5_orderError 54 = .ok (.iload_n 3, 1) := by decide +kernel
theorem dX5_orderError_55 : decode cX5_orderError 55 = .ok (.iload 4, 2) := by decide +kernel
theorem dX5_orderError_57 : decode cX5_orderError 57 = .ok (.invokevirtual 44, 3) := by decide +kernel
theorem dX5_orderError_60 : decode cX5_orderError 60 = .ok (.ireturn, 1) := by decide +kernel
theorem dX5_orderError_61 : decode cX5_orderError 61 = .ok (.iload_n 2, 1) := by decide +kernel
theorem dX5_orderError_62 : decode cX5_orderError 62 = .ok (.iconst 3, 1) := by decide +kernel
theorem dX5_orderError_63 : decode cX5_orderError 63 = .ok (.iload_n 3, 1) := by decide +kernel
theorem dX5_orderError_64 : decode cX5_orderError 64 = .ok (.iload 4, 2) := by decide +kernel
theorem dX5_orderError_66 : decode cX5_orderError 66 = .ok (.iconst 4, 1) := by decide +kernel
theorem dX5_orderError_67 : decode cX5_orderError 67 = .ok (.invokestatic 55, 3) := by decide +kernel
theorem dX5_orderError_70 : decode cX5_orderError 70 = .ok (.ireturn, 1) := by decide +kernel
theorem dX5_orderError_71 : decode cX5_orderError 71 = .ok (.iload_n 2, 1) := by decide +kernel
theorem dX5_orderError_72 : decode cX5_orderError 72 = .ok (.iconst 2, 1) := by decide +kernel
theorem dX5_orderError_73 : decode cX5_orderError 73 = .ok (.iload_n 3, 1) := by decide +kernel
theorem dX5_orderError_74 : decode cX5_orderError 74 = .ok (.iload 4, 2) := by decide +kernel
theorem dX5_orderError_76 : decode cX5_orderError 76 = .ok (.iconst 4, 1) := by decide +kernel
theorem dX5_orderError_77 : decode cX5_orderError 77 = .ok (.invokestatic 55, 3) := by decide +kernel
theorem dX5_orderError_80 : decode cX5_orderError 80 = .ok (.ireturn, 1) := by decide +kernel
theorem dX5_orderError_81 : decode cX5_orderError 81 = .ok (.aload_n 0, 1) := by decide +kernel
theorem dX5_orderError_82 : decode cX5_orderError 82 = .ok (.iload_n 2, 1) := by decide +kernel
theorem dX5_orderError_83 : decode cX5_orderError 83 = .ok (.iload_n 3, 1) := by decide +kernel
theorem dX5_orderError_84 : decode cX5_orderError 84 = .ok (.invokevirtual 93, 3) := by decide +kernel
theorem dX5_orderError_87 : decode cX5_orderError 87 = .ok (.ireturn, 1) := by decide +kernel
theorem dX5_orderError_88 : decode cX5_orderError 88 = .ok (.iconst 0, 1) := by decide +kernel
theorem dX5_orderError_89 : decode cX5_orderError 89 = .ok (.ireturn, 1) := by decide +kernel
theorem dX5_orderError_90 : decode cX5_orderError 90 = .ok (.bipush (-5), 2) := by decide +kernel
theorem dX5_orderError_92 : decode cX5_orderError 92 = .ok (.ireturn, 1) := by decide +kernel
set_option maxRecDepth 20000 in
theorem ggX5_placeError_X5_isPlace : GoodIn wsX5_placeError wsX5_isPlace := goodIn_r _ [4, 5, 6, 3, 7] (by decide +kernel) (by decide +kernel)
set_option maxRecDepth 20000 in
theorem gX5_placeError_X5_isPlace : GoodIn wsX5_placeError (va_wsS RX5 65 yX5_isPlace wsX5_isPlace) := goodIn_app (goodIn_of _ (by decide +kernel)) ggX5_placeError_X5_isPlace
set_option maxRecDepth 20000 in
theorem ggX5_placeError_X5_isWithin : GoodIn wsX5_placeError wsX5_isWithin := goodIn_r _ [7] (by decide +kernel) (by decide +kernel)
set_option maxRecDepth 20000 in
theorem gX5_placeError_X5_isWithin : GoodIn wsX5_placeError (va_wsS RX5 73 yX5_isWithin wsX5_isWithin) := goodIn_app (goodIn_of _ (by decide +kernel)) ggX5_placeError_X5_isWithin
theorem dX5_placeError_0 : decode cX5_placeError 0 = .ok (.iload_n 0, 1) := by decide +kernel
theorem dX5_placeError_1 : decode cX5_placeError 1 = .ok (.iload_n 1, 1) := by decide +kernel
theorem dX5_placeError_2 : decode cX5_placeError 2 = .ok (.iload_n 2, 1) := by decide +kernel
theorem dX5_placeError_3 : decode cX5_placeError 3 = .ok (.invokestatic 65, 3) := by decide +kernel
theorem dX5_placeError_6 : decode cX5_placeError 6 = .ok (.ifCond .ne 5, 3) := by decide +kernel
theorem dX5_placeError_9 : decode cX5_placeError 9 = .ok (.iconst (-1), 1) := by decide +kernel
theorem dX5_placeError_10 : decode cX5_placeError 10 = .ok (.ireturn, 1) := by decide +kernel
theorem dX5_placeError_11 : decode cX5_placeError 11 = .ok (.iload_n 3, 1) := by decide +kernel
theorem dX5_placeError_12 : decode cX5_placeError 12 = .ok (.iconst 0, 1) := by decide +kernel
theorem dX5_placeError_13 : decode cX5_placeError 13 = .ok (.iload 4, 2) := by decide +kernel
theorem dX5_placeError_15 : decode cX5_placeError 15 = .ok (.iconst 1, 1) := by decide +kernel
theorem dX5_placeError_16 : decode cX5_placeError 16 = .ok (.isub, 1) := by decide +kernel
theorem dX5_placeError_17 : decode cX5_placeError 17 = .ok (.invokestatic 73, 3) := by decide +kernel
theorem dX5_placeError_20 : decode cX5_placeError 20 = .ok (.ifCond .eq 7, 3) := by decide +kernel
theorem dX5_placeError_23 : decode cX5_placeError 23 = .ok (.iconst 0, 1) := by decide +kernel
theorem dX5_placeError_24 : decode cX5_placeError 24 = .ok (.goto 5, 3) := by decide +kernel
theorem dX5_placeError_27 : decode cX5_placeError 27 = .ok (.bipush (-2), 2) := by decide +kernel
theorem dX5_placeError_29 : decode cX5_placeError 29 = .ok (.ireturn, 1) := by decide +kernel
set_option maxRecDepth 20000 in
theorem ggX5_isPlace_X5_isWithin : GoodIn wsX5_isPlace wsX5_isWithin := goodIn_r _ [4] (by decide +kernel) (by decide +kernel)
set_option maxRecDepth 20000 in
theorem gX5_isPlace_X5_isWithin : GoodIn wsX5_isPlace (va_wsS RX5 73 yX5_isWithin wsX5_isWithin) := goodIn_app (goodIn_of _ (by decide +kernel)) ggX5_isPlace_X5_isWithin
theorem dX5_isPlace_0 : decode cX5_isPlace 0 = .ok (.iload_n 0, 1) := by decide +kernel
theorem dX5_isPlace_1 : decode cX5_isPlace 1 = .ok (.iconst 0, 1) := by decide +kernel
theorem dX5_isPlace_2 : decode cX5_isPlace 2 = .ok (.iload_n 1, 1) := by decide +kernel
theorem dX5_isPlace_3 : decode cX5_isPlace 3 = .ok (.iconst 1, 1) := by decide +kernel
theorem dX5_isPlace_4 : decode cX5_isPlace 4 = .ok (.isub, 1) := by decide +kernel
theorem dX5_isPlace_5 : decode cX5_isPlace 5 = .ok (.invokestatic 73, 3) := by decide +kernel
theorem dX5_isPlace_8 : decode cX5_isPlace 8 = .ok (.ifCond .eq 17, 3) := by decide +kernel
theorem dX5_isPlace_11 : decode cX5_isPlace 11 = .ok (.iload_n 2, 1) := by decide +kernel
theorem dX5_isPlace_12 : decode cX5_isPlace 12 = .ok (.iconst 0, 1) := by decide +kernel
theorem dX5_isPlace_13 : decode cX5_isPlace 13 = .ok (.bipush 15, 2) := by decide +kernel
theorem dX5_isPlace_15 : decode cX5_isPlace 15 = .ok (.invokestatic 73, 3) := by decide +kernel
theorem dX5_isPlace_18 : decode cX5_isPlace 18 = .ok (.ifCond .eq 7, 3) := by decide +kernel
theorem dX5_isPlace_21 : decode cX5_isPlace 21 = .ok (.iconst 1, 1) := by decide +kernel
theorem dX5_isPlace_22 : decode cX5_isPlace 22 = .ok (.goto 4, 3) := by decide +kernel
theorem dX5_isPlace_25 : decode cX5_isPlace 25 = .ok (.iconst 0, 1) := by decide +kernel
theorem dX5_isPlace_26 : decode cX5_isPlace 26 = .ok (.ireturn, 1) := by decide +kernel
theorem dX5_isWithin_0 : decode cX5_isWithin 0 = .ok (.iload_n 0, 1) := by decide +kernel
theorem dX5_isWithin_1 : decode cX5_isWithin 1 = .ok (.iload_n 1, 1) := by decide +kernel
theorem dX5_isWithin_2 : decode cX5_isWithin 2 = .ok (.if_icmp .lt 12, 3) := by decide +kernel
theorem dX5_isWithin_5 : decode cX5_isWithin 5 = .ok (.iload_n 0, 1) := by decide +kernel
theorem dX5_isWithin_6 : decode cX5_isWithin 6 = .ok (.iload_n 2, 1) := by decide +kernel
theorem dX5_isWithin_7 : decode cX5_isWithin 7 = .ok (.if_icmp .gt 7, 3) := by decide +kernel
theorem dX5_isWithin_10 : decode cX5_isWithin 10 = .ok (.iconst 1, 1) := by decide +kernel
theorem dX5_isWithin_11 : decode cX5_isWithin 11 = .ok (.goto 4, 3) := by decide +kernel
theorem dX5_isWithin_14 : decode cX5_isWithin 14 = .ok (.iconst 0, 1) := by decide +kernel
theorem dX5_isWithin_15 : decode cX5_isWithin 15 = .ok (.ireturn, 1) := by decide +kernel
theorem dX5_asNumber_0 : decode cX5_asNumber 0 = .ok (.iload_n 0, 1) := by decide +kernel
theorem dX5_asNumber_1 : decode cX5_asNumber 1 = .ok (.ifCond .eq 7, 3) := by decide +kernel
theorem dX5_asNumber_4 : decode cX5_asNumber 4 = .ok (.iconst 1, 1) := by decide +kernel
theorem dX5_asNumber_5 : decode cX5_asNumber 5 = .ok (.goto 4, 3) := by decide +kernel
theorem dX5_asNumber_8 : decode cX5_asNumber 8 = .ok (.iconst 0, 1) := by decide +kernel
theorem dX5_asNumber_9 : decode cX5_asNumber 9 = .ok (.ireturn, 1) := by decide +kernel
theorem dX6_init_0 : decode cX6_init 0 = .ok (.aload_n 0, 1) := by decide +kernel
theorem dX6_init_1 : decode cX6_init 1 = .ok (.invokespecial 1, 3) := by decide +kernel
theorem dX6_init_4 : decode cX6_init 4 = .ok (.aload_n 0, 1) := by decide +kernel
theorem dX6_init_5 : decode cX6_init 5 = .ok (.sipush 268, 3) := by decide +kernel
theorem dX6_init_8 : decode cX6_init 8 = .ok (.newarray .int, 2) := by decide +kernel
theorem dX6_init_10 : decode cX6_init 10 = .ok (.putfield 7, 3) := by decide +kernel
theorem dX6_init_13 : decode cX6_init 13 = .ok (.aload_n 0, 1) := by decide +kernel
theorem dX6_init_14 : decode cX6_init 14 = .ok (.sipush 1340, 3) := by decide +kernel
theorem dX6_init_17 : decode cX6_init 17 = .ok (.newarray .int, 2) := by decide +kernel
theorem dX6_init_19 : decode cX6_init 19 = .ok (.putfield 13, 3) := by decide +kernel
theorem dX6_init_22 : decode cX6_init 22 = .ok (.aload_n 0, 1) := by decide +kernel
theorem dX6_init_23 : decode cX6_init 23 = .ok (.sipush 268, 3) := by decide +kernel
theorem dX6_init_26 : decode cX6_init 26 = .ok (.newarray .int, 2) := by decide +kernel
theorem dX6_init_28 : decode cX6_init 28 = .ok (.putfield 16, 3) := by decide +kernel
theorem dX6_init_31 : decode cX6_init 31 = .ok (.aload_n 0, 1) := by decide +kernel
theorem dX6_init_32 : decode cX6_init 32 = .ok (.bipush 70, 2) := by decide +kernel
theorem dX6_init_34 : decode cX6_init 34 = .ok (.newarray .char, 2) := by decide +kernel
theorem dX6_init_36 : decode cX6_init 36 = .ok (.putfield 19, 3) := by decide +kernel
theorem dX6_init_39 : decode cX6_init 39 = .ok (.aload_n 0, 1) := by decide +kernel
theorem dX6_init_40 : decode cX6_init 40 = .ok (.iconst 3, 1) := by decide +kernel
theorem dX6_init_41 : decode cX6_init 41 = .ok (.newarray .int, 2) := by decide +kernel
theorem dX6_init_43 : decode cX6_init 43 = .ok (.putfield 23, 3) := by decide +kernel
theorem dX6_init_46 : decode cX6_init 46 = .ok (.aload_n 0, 1) := by decide +kernel
theorem dX6_init_47 : decode cX6_init 47 = .ok (.sipush 144, 3) := by decide +kernel
theorem dX6_init_50 : decode cX6_init 50 = .ok (.newarray .int, 2) := by decide +kernel
theorem dX6_init_52 : decode cX6_init 52 = .ok (.putfield 26, 3) := by decide +kernel
theorem dX6_init_55 : decode cX6_init 55 = .ok (.aload_n 0, 1) := by decide +kernel
theorem dX6_init_56 : decode cX6_init 56 = .ok (.getfield 7, 3) := by decide +kernel
theorem dX6_init_59 : decode cX6_init 59 = .ok (.iconst 0, 1) := by decide +kernel
theorem dX6_init_60 : decode cX6_init 60 = .ok (.bipush 30, 2) := by decide +kernel
theorem dX6_init_62 : decode cX6_init 62 = .ok (.iastore, 1) := by decide +kernel
theorem dX6_init_63 : decode cX6_init 63 = .ok (.aload_n 0, 1) := by decide +kernel
theorem dX6_init_64 : decode cX6_init 64 = .ok (.getfield 7, 3) := by decide +kernel
theorem dX6_init_67 : decode cX6_init 67 = .ok (.iconst 1, 1) := by decide +kernel
theorem dX6_init_68 : decode cX6_init 68 = .ok (.bipush 12, 2) := by decide +kernel
theorem dX6_init_70 : decode cX6_init 70 = .ok (.iastore, 1) := by decide +kernel
theorem dX6_init_71 : decode cX6_init 71 = .ok (.aload_n 0, 1) := by decide +kernel
theorem dX6_init_72 : decode cX6_init 72 = .ok (.getfield 7, 3) := by decide +kernel
theorem dX6_init_75 : decode cX6_init 75 = .ok (.iconst 5, 1) := by decide +kernel
theorem dX6_init_76 : decode cX6_init 76 = .ok (.bipush 20, 2) := by decide +kernel
theorem dX6_init_78 : decode cX6_init 78 = .ok (.iastore, 1) := by decide +kernel
theorem dX6_init_79 : decode cX6_init 79 = .ok (.iconst 0, 1) := by decide +kernel
theorem dX6_init_80 : decode cX6_init 80 = .ok (.istore_n 1, 1) := by decide +kernel
theorem dX6_init_81 : decode cX6_init 81 = .ok (.iload_n 1, 1) := by decide +kernel
theorem dX6_init_82 : decode cX6_init 82 = .ok (.iconst 3, 1) := by decide +kernel
theorem dX6_init_83 : decode cX6_init 83 = .ok (.if_icmp .ge 18, 3) := by decide +kernel
theorem dX6_init_86 : decode cX6_init 86 = .ok (.aload_n 0, 1) := by decide +kernel
theorem dX6_init_87 : decode cX6_init 87 = .ok (.getfield 7, 3) := by decide +kernel
theorem dX6_init_90 : decode cX6_init 90 = .ok (.iconst 2, 1) := by decide +kernel
theorem dX6_init_91 : decode cX6_init 91 = .ok (.iload_n 1, 1) := by decide +kernel
theorem dX6_init_92 : decode cX6_init 92 = .ok (.iadd, 1) := by decide +kernel
theorem dX6_init_93 : decode cX6_init 93 = .ok (.iconst 5, 1) := by decide +kernel
theorem dX6_init_94 : decode cX6_init 94 = .ok (.iastore, 1) := by decide +kernel
theorem dX6_init_95 : decode cX6_init 95 = .ok (.iinc 1 1, 3) := by decide +kernel
theorem dX6_init_98 : decode cX6_init 98 = .ok (.goto (-17), 3) := by decide +kernel
theorem dX6_init_101 : decode cX6_init 101 = .ok (.return_, 1) := by decide +kernel
theorem dX6_in_0 : decode cX6_in 0 = .ok (.iload_n 0, 1) := by decide +kernel
theorem dX6_in_1 : decode cX6_in 1 = .ok (.iload_n 1, 1) := by decide +kernel
theorem dX6_in_2 : decode cX6_in 2 = .ok (.if_icmp .lt 12, 3) := by decide +kernel
theorem dX6_in_5 : decode cX6_in 5 = .ok (.iload_n 0, 1) := by decide +kernel
theorem dX6_in_6 : decode cX6_in 6 = .ok (.iload_n 2, 1) := by decide +kernel
theorem dX6_in_7 : decode cX6_in 7 = .ok (.if_icmp .gt 7, 3) := by decide +kernel
theorem dX6_in_10 : decode cX6_in 10 = .ok (.iconst 1, 1) := by decide +kernel
theorem dX6_in_11 : decode cX6_in 11 = .ok (.goto 4, 3) := by decide +kernel
theorem dX6_in_14 : decode cX6_in 14 = .ok (.iconst 0, 1) := by decide +kernel
theorem dX6_in_15 : decode cX6_in 15 = .ok (.ireturn, 1) := by decide +kernel
set_option maxRecDepth 20000 in
theorem ggX6_isCell_X6_in : GoodIn wsX6_isCell wsX6_in := goodIn_r _ [4] (by decide +kernel) (by decide +kernel)
set_option maxRecDepth 20000 in
theorem gX6_isCell_X6_in : GoodIn wsX6_isCell (va_wsS RX6 29 yX6_in wsX6_in) := goodIn_app (goodIn_of _ (by decide +kernel)) ggX6_isCell_X6_in
theorem dX6_isCell_0 : decode cX6_isCell 0 = .ok (.iload_n 0, 1) := by decide +kernel
theorem dX6_isCell_1 : decode cX6_isCell 1 = .ok (.iconst 0, 1) := by decide +kernel
theorem dX6_isCell_2 : decode cX6_isCell 2 = .ok (.iconst 2, 1) := by decide +kernel
theorem dX6_isCell_3 : decode cX6_isCell 3 = .ok (.invokestatic 29, 3) := by decide +kernel
theorem dX6_isCell_6 : decode cX6_isCell 6 = .ok (.ifCond .eq 17, 3) := by decide +kernel
theorem dX6_isCell_9 : decode cX6_isCell 9 = .ok (.iload_n 1, 1) := by decide +kernel
theorem dX6_isCell_10 : decode cX6_isCell 10 = .ok (.iconst 0, 1) := by decide +kernel
theorem dX6_isCell_11 : decode cX6_isCell 11 = .ok (.bipush 15, 2) := by decide +kernel
theorem dX6_isCell_13 : decode cX6_isCell 13 = .ok (.invokestatic 29, 3) := by decide +kernel
theorem dX6_isCell_16 : decode cX6_isCell 16 = .ok (.ifCond .eq 7, 3) := by decide +kernel
theorem dX6_isCell_19 : decode cX6_isCell 19 = .ok (.iconst 1, 1) := by decide +kernel
theorem dX6_isCell_20 : decode cX6_isCell 20 = .ok (.goto 4, 3) := by decide +kernel
theorem dX6_isCell_23 : decode cX6_isCell 23 = .ok (.iconst 0, 1) := by decide +kernel
theorem dX6_isCell_24 : decode cX6_isCell 24 = .ok (.ireturn, 1) := by decide +kernel
set_option maxRecDepth 20000 in
theorem ggX6_isLine_X6_in : GoodIn wsX6_isLine wsX6_in := goodIn_r _ [4] (by decide +kernel) (by decide +kernel)
set_option maxRecDepth 20000 in
theorem gX6_isLine_X6_in : GoodIn wsX6_isLine (va_wsS RX6 29 yX6_in wsX6_in) := goodIn_app (goodIn_of _ (by decide +kernel)) ggX6_isLine_X6_in
theorem dX6_isLine_0 : decode cX6_isLine 0 = .ok (.iload_n 0, 1) := by decide +kernel
theorem dX6_isLine_1 : decode cX6_isLine 1 = .ok (.iconst 0, 1) := by decide +kernel
theorem dX6_isLine_2 : decode cX6_isLine 2 = .ok (.iconst 1, 1) := by decide +kernel
theorem dX6_isLine_3 : decode cX6_isLine 3 = .ok (.invokestatic 29, 3) := by decide +kernel
theorem dX6_isLine_6 : decode cX6_isLine 6 = .ok (.ifCond .eq 17, 3) := by decide +kernel
theorem dX6_isLine_9 : decode cX6_isLine 9 = .ok (.iload_n 1, 1) := by decide +kernel
theorem dX6_isLine_10 : decode cX6_isLine 10 = .ok (.iconst 0, 1) := by decide +kernel
theorem dX6_isLine_11 : decode cX6_isLine 11 = .ok (.bipush 15, 2) := by decide +kernel
theorem dX6_isLine_13 : decode cX6_isLine 13 = .ok (.invokestatic 29, 3) := by decide +kernel
theorem dX6_isLine_16 : decode cX6_isLine 16 = .ok (.ifCond .eq 7, 3) := by decide +kernel
theorem dX6_isLine_19 : decode cX6_isLine 19 = .ok (.iconst 1, 1) := by decide +kernel
theorem dX6_isLine_20 : decode cX6_isLine 20 = .ok (.goto 4, 3) := by decide +kernel
theorem dX6_isLine_23 : decode cX6_isLine 23 = .ok (.iconst 0, 1) := by decide +kernel
theorem dX6_isLine_24 : decode cX6_isLine 24 = .ok (.ireturn, 1) := by decide +kernel
theorem dX6_cellAt_0 : decode cX6_cellAt 0 = .ok (.bipush 12, 2) := by decide +kernel
theorem dX6_cellAt_2 : decode cX6_cellAt 2 = .ok (.iconst 4, 1) := by decide +kernel
theorem dX6_cellAt_3 : decode cX6_cellAt 3 = .ok (.bipush 16, 2) := by decide +kernel
theorem dX6_cellAt_5 : decode cX6_cellAt 5 = .ok (.iload_n 0, 1) := by decide +kernel
theorem dX6_cellAt_6 : decode cX6_cellAt 6 = .ok (.imul, 1) := by decide +kernel
theorem dX6_cellAt_7 : decode cX6_cellAt 7 = .ok (.iload_n 1, 1) := by decide +kernel
theorem dX6_cellAt_8 : decode cX6_cellAt 8 = .ok (.iadd, 1) := by decide +kernel
theorem dX6_cellAt_9 : decode cX6_cellAt 9 = .ok (.imul, 1) := by decide +kernel
theorem dX6_cellAt_10 : decode cX6_cellAt 10 = .ok (.iadd, 1) := by decide +kernel
theorem dX6_cellAt_11 : decode cX6_cellAt 11 = .ok (.ireturn, 1) := by decide +kernel
theorem dX6_lineAt_0 : decode cX6_lineAt 0 = .ok (.sipush 204, 3) := by decide +kernel
theorem dX6_lineAt_3 : decode cX6_lineAt 3 = .ok (.iconst 2, 1) := by decide +kernel
theorem dX6_lineAt_4 : decode cX6_lineAt 4 = .ok (.bipush 16, 2) := by decide +kernel
theorem dX6_lineAt_6 : decode cX6_lineAt 6 = .ok (.iload_n 0, 1) := by decide +kernel
theorem dX6_lineAt_7 : decode cX6_lineAt 7 = .ok (.imul, 1) := by decide +kernel
theorem dX6_lineAt_8 : decode cX6_lineAt 8 = .ok (.iload_n 1, 1) := by decide +kernel
theorem dX6_lineAt_9 : decode cX6_lineAt 9 = .ok (.iadd, 1) := by decide +kernel
theorem dX6_lineAt_10 : decode cX6_lineAt 10 = .ok (.imul, 1) := by decide +kernel
theorem dX6_lineAt_11 : decode cX6_lineAt 11 = .ok (.iadd, 1) := by decide +kernel
theorem dX6_lineAt_12 : decode cX6_lineAt 12 = .ok (.ireturn, 1) := by decide +kernel
set_option maxRecDepth 20000 in
theorem ggX6_wayAt_X6_cellAt : GoodIn wsX6_wayAt wsX6_cellAt := goodIn_r _ [5] (by decide +kernel) (by decide +kernel)
set_option maxRecDepth 20000 in
theorem gX6_wayAt_X6_cellAt : GoodIn wsX6_wayAt (va_wsS RX6 33 yX6_cellAt wsX6_cellAt) := goodIn_app (goodIn_of _ (by decide +kernel)) ggX6_wayAt_X6_cellAt
theorem dX6_wayAt_0 : decode cX6_wayAt 0 = .ok (.aload_n 0, 1) := by decide +kernel
theorem dX6_wayAt_1 : decode cX6_wayAt 1 = .ok (.getfield 7, 3) := by decide +kernel
theorem dX6_wayAt_4 : decode cX6_wayAt 4 = .ok (.iload_n 1, 1) := by decide +kernel
theorem dX6_wayAt_5 : decode cX6_wayAt 5 = .ok (.iload_n 2, 1) := by decide +kernel
theorem dX6_wayAt_6 : decode cX6_wayAt 6 = .ok (.invokestatic 33, 3) := by decide +kernel
theorem dX6_wayAt_9 : decode cX6_wayAt 9 = .ok (.iaload, 1) := by decide +kernel
theorem dX6_wayAt_10 : decode cX6_wayAt 10 = .ok (.istore_n 3, 1) := by decide +kernel
theorem dX6_wayAt_11 : decode cX6_wayAt 11 = .ok (.iload_n 3, 1) := by decide +kernel
theorem dX6_wayAt_12 : decode cX6_wayAt 12 = .ok (.ifCond .ne 8, 3) := by decide +kernel
theorem dX6_wayAt_15 : decode cX6_wayAt 15 = .ok (.bipush (-6), 2) := by decide +kernel
theorem dX6_wayAt_17 : decode cX6_wayAt 17 = .ok (.goto 6, 3) := by decide +kernel
theorem dX6_wayAt_20 : decode cX6_wayAt 20 = .ok (.iload_n 3, 1) := by decide +kernel
theorem dX6_wayAt_21 : decode cX6_wayAt 21 = .ok (.iconst 1, 1) := by decide +kernel
theorem dX6_wayAt_22 : decode cX6_wayAt 22 = .ok (.isub, 1) := by decide +kernel
theorem dX6_wayAt_23 : decode cX6_wayAt 23 = .ok (.ireturn, 1) := by decide +kernel
theorem dX6_record_0 : decode cX6_record 0 = .ok (.aload_n 0, 1) := by decide +kernel
theorem dX6_record_1 : decode cX6_record 1 = .ok (.getfield 37, 3) := by decide +kernel
theorem dX6_record_4 : decode cX6_record 4 = .ok (.iconst 5, 1) := by decide +kernel
theorem dX6_record_5 : decode cX6_record 5 = .ok (.if_icmp .ne 44, 3) := by decide +kernel
theorem dX6_record_8 : decode cX6_record 8 = .ok (.iconst 0, 1) := by decide +kernel
theorem dX6_record_9 : decode cX6_record 9 = .ok (.istore_n 1, 1) := by decide +kernel
theorem dX6_record_10 : decode cX6_record 10 = .ok (.iload_n 1, 1) := by decide +kernel
theorem dX6_record_11 : decode cX6_record 11 = .ok (.sipush 1072, 3) := by decide +kernel
theorem dX6_record_14 : decode cX6_record 14 = .ok (.if_icmp .ge 25, 3) := by decide +kernel
theorem dX6_record_17 : decode cX6_record 17 = .ok (.aload_n 0, 1) := by decide +kernel
theorem dX6_record_18 : decode cX6_record 18 = .ok (.getfield 13, 3) := by decide +kernel
theorem dX6_record_21 : decode cX6_record 21 = .ok (.iload_n 1, 1) := by decide +kernel
theorem dX6_record_22 : decode cX6_record 22 = .ok (.aload_n 0, 1) := by decide +kernel
theorem dX6_record_23 : decode cX6_record 23 = .ok (.getfield 13, 3) := by decide +kernel
theorem dX6_record_26 : decode cX6_record 26 = .ok (.iload_n 1, 1) := by decide +kernel
theorem dX6_record_27 : decode cX6_record 27 = .ok (.sipush 268, 3) := by decide +kernel
theorem dX6_record_30 : decode cX6_record 30 = .ok (.iadd, 1) := by decide +kernel
theorem dX6_record_31 : decode cX6_record 31 = .ok (.iaload, 1) := by decide +kernel
theorem dX6_record_32 : decode cX6_record 32 = .ok (.iastore, 1) := by decide +kernel
theorem dX6_record_33 : decode cX6_record 33 = .ok (.iinc 1 1, 3) := by decide +kernel
theorem dX6_record_36 : decode cX6_record 36 = .ok (.goto (-26), 3) := by decide +kernel
theorem dX6_record_39 : decode cX6_record 39 = .ok (.aload_n 0, 1) := by decide +kernel
theorem dX6_record_40 : decode cX6_record 40 = .ok (.dup, 1) := by decide +kernel
theorem dX6_record_41 : decode cX6_record 41 = .ok (.getfield 37, 3) := by decide +kernel
theorem dX6_record_44 : decode cX6_record 44 = .ok (.iconst 1, 1) := by decide +kernel
theorem dX6_record_45 : decode cX6_record 45 = .ok (.isub, 1) := by decide +kernel
theorem dX6_record_46 : decode cX6_record 46 = .ok (.putfield 37, 3) := by decide +kernel
theorem dX6_record_49 : decode cX6_record 49 = .ok (.iconst 0, 1) := by decide +kernel
theorem dX6_record_50 : decode cX6_record 50 = .ok (.istore_n 1, 1) := by decide +kernel
theorem dX6_record_51 : decode cX6_record 51 = .ok (.iload_n 1, 1) := by decide +kernel
theorem dX6_record_52 : decode cX6_record 52 = .ok (.sipush 268, 3) := by decide +kernel
theorem dX6_record_55 : decode cX6_record 55 = .ok (.if_icmp .ge 30, 3) := by decide +kernel
theorem dX6_record_58 : decode cX6_record 58 = .ok (.aload_n 0, 1) := by decide +kernel
theorem dX6_record_59 : decode cX6_record 59 = .ok (.getfield 13, 3) := by decide +kernel
theorem dX6_record_62 : decode cX6_record 62 = .ok (.aload_n 0, 1) := by decide +kernel
theorem dX6_record_63 : decode cX6_record 63 = .ok (.getfield 37, 3) := by decide +kernel
theorem dX6_record_66 : decode cX6_record 66 = .ok (.sipush 268, 3) := by decide +kernel
theorem dX6_record_69 : decode cX6_record 69 = .ok (.imul, 1) := by decide +kernel
theorem dX6_record_70 : decode cX6_record 70 = .ok (.iload_n 1, 1) := by decide +kernel
theorem dX6_record_71 : decode cX6_record 71 = .ok (.iadd, 1) := by decide +kernel
theorem dX6_record_72 : decode cX6_record 72 = .ok (.aload_n 0, 1) := by decide +kernel
theorem dX6_record_73 : decode cX6_record 73 = .ok (.getfield 7, 3) := by decide +kernel
theorem dX6_record_76 : decode cX6_record 76 = .ok (.iload_n 1, 1) := by decide +kernel
theorem dX6_record_77 : decode cX6_record 77 = .ok (.iaload, 1) := by decide +kernel
theorem dX6_record_78 : decode cX6_record 78 = .ok (.iastore, 1) := by decide +kernel
theorem dX6_record_79 : decode cX6_record 79 = .ok (.iinc 1 1, 3) := by decide +kernel
theorem dX6_record_82 : decode cX6_record 82 = .ok (.goto (-31), 3) := by decide +kernel
theorem dX6_record_85 : decode cX6_record 85 = .ok (.aload_n 0, 1) := by decide +kernel
theorem dX6_record_86 : decode cX6_record 86 = .ok (.dup, 1) := by decide +kernel
theorem dX6_record_87 : decode cX6_record 87 = .ok (.getfield 37, 3) := by decide +kernel
theorem dX6_record_90 : decode cX6_record 90 = .ok (.iconst 1, 1) := by decide +kernel
theorem dX6_record_91 : decode cX6_record 91 = .ok (.iadd, 1) := by decide +kernel
theorem dX6_record_92 : decode cX6_record 92 = .ok (.putfield 37, 3) := by decide +kernel
theorem dX6_record_95 : decode cX6_record 95 = .ok (.return_, 1) := by decide +kernel
theorem dX6_undo_0 : decode cX6_undo 0 = .ok (.aload_n 0, 1) := by decide +kernel
theorem dX6_undo_1 : decode cX6_undo 1 = .ok (.getfield 37, 3) := by decide +kernel
theorem dX6_undo_4 : decode cX6_undo 4 = .ok (.ifCond .ne 6, 3) := by decide +kernel
theorem dX6_undo_7 : decode cX6_undo 7 = .ok (.bipush (-3), 2) := by decide +kernel
theorem dX6_undo_9 : decode cX6_undo 9 = .ok (.ireturn, 1) := by decide +kernel
theorem dX6_undo_10 : decode cX6_undo 10 = .ok (.aload_n 0, 1) := by decide +kernel
theorem dX6_undo_11 : decode cX6_undo 11 = .ok (.dup, 1) := by decide +kernel
theorem dX6_undo_12 : decode cX6_undo 12 = .ok (.getfield 37, 3) := by decide +kernel
theorem dX6_undo_15 : decode cX6_undo 15 = .ok (.iconst 1, 1) := by decide +kernel
theorem dX6_undo_16 : decode cX6_undo 16 = .ok (.isub, 1) := by decide +kernel
theorem dX6_undo_17 : decode cX6_undo 17 = .ok (.putfield 37, 3) := by decide +kernel
theorem dX6_undo_20 : decode cX6_undo 20 = .ok (.iconst 0, 1) := by decide +kernel
theorem dX6_undo_21 : decode cX6_undo 21 = .ok (.istore_n 1, 1) := by decide +kernel
theorem dX6_undo_22 : decode cX6_undo 22 = .ok (.iload_n 1, 1) := by decide +kernel
theorem dX6_undo_23 : decode cX6_undo 23 = .ok (.sipush 268, 3) := by decide +kernel
theorem dX6_undo_26 : decode cX6_undo 26 = .ok (.if_icmp .ge 30, 3) := by decide +kernel
theorem dX6_undo_29 : decode cX6_undo 29 = .ok (.aload_n 0, 1) := by decide +kernel
theorem dX6_undo_30 : decode cX6_undo 30 = .ok (.getfield 7, 3) := by decide +kernel
theorem dX6_undo_33 : decode cX6_undo 33 = .ok (.iload_n 1, 1) := by decide +kernel
theorem dX6_undo_34 : decode cX6_undo 34 = .ok (.aload_n 0, 1) := by decide +kernel
theorem dX6_undo_35 : decode cX6_undo 35 = .ok (.getfield 13, 3) := by decide +kernel
theorem dX6_undo_38 : decode cX6_undo 38 = .ok (.aload_n 0, 1) := by decide +kernel
theorem dX6_undo_39 : decode cX6_undo 39 = .ok (.getfield 37, 3) := by decide +kernel
theorem dX6_undo_42 : decode cX6_undo 42 = .ok (.sipush 268, 3) := by decide +kernel
theorem dX6_undo_45 : decode cX6_undo 45 = .ok (.imul, 1) := by decide +kernel
theorem dX6_undo_46 : decode cX6_undo 46 = .ok (.iload_n 1, 1) := by decide +kernel
theorem dX6_undo_47 : decode cX6_undo 47 = .ok (.iadd, 1) := by decide +kernel
theorem dX6_undo_48 : decode cX6_undo 48 = .ok (.iaload, 1) := by decide +kernel
theorem dX6_undo_49 : decode cX6_undo 49 = .ok (.iastore, 1) := by decide +kernel
theorem dX6_undo_50 : decode cX6_undo 50 = .ok (.iinc 1 1, 3) := by decide +kernel
theorem dX6_undo_53 : decode cX6_undo 53 = .ok (.goto (-31), 3) := by decide +kernel
theorem dX6_undo_56 : decode cX6_undo 56 = .ok (.aload_n 0, 1) := by decide +kernel
theorem dX6_undo_57 : decode cX6_undo 57 = .ok (.getfield 37, 3) := by decide +kernel
theorem dX6_undo_60 : decode cX6_undo 60 = .ok (.ireturn, 1) := by decide +kernel
theorem dX6_save_0 : decode cX6_save 0 = .ok (.aload_n 0, 1) := by decide +kernel
theorem dX6_save_1 : decode cX6_save 1 = .ok (.iconst 1, 1) := by decide +kernel
theorem dX6_save_2 : decode cX6_save 2 = .ok (.putfield 41, 3) := by decide +kernel
theorem dX6_save_5 : decode cX6_save 5 = .ok (.iconst 0, 1) := by decide +kernel
theorem dX6_save_6 : decode cX6_save 6 = .ok (.istore_n 1, 1) := by decide +kernel
theorem dX6_save_7 : decode cX6_save 7 = .ok (.iload_n 1, 1) := by decide +kernel
theorem dX6_save_8 : decode cX6_save 8 = .ok (.sipush 268, 3) := by decide +kernel
theorem dX6_save_11 : decode cX6_save 11 = .ok (.if_icmp .ge 21, 3) := by decide +kernel
theorem dX6_save_14 : decode cX6_save 14 = .ok (.aload_n 0, 1) := by decide +kernel
theorem dX6_save_15 : decode cX6_save 15 = .ok (.getfield 16, 3) := by decide +kernel
theorem dX6_save_18 : decode cX6_save 18 = .ok (.iload_n 1, 1) := by decide +kernel
theorem dX6_save_19 : decode cX6_save 19 = .ok (.aload_n 0, 1) := by decide +kernel
theorem dX6_save_20 : decode cX6_save 20 = .ok (.getfield 7, 3) := by decide +kernel
theorem dX6_save_23 : decode cX6_save 23 = .ok (.iload_n 1, 1) := by decide +kernel
theorem dX6_save_24 : decode cX6_save 24 = .ok (.iaload, 1) := by decide +kernel
theorem dX6_save_25 : decode cX6_save 25 = .ok (.iastore, 1) := by decide +kernel
theorem dX6_save_26 : decode cX6_save 26 = .ok (.iinc 1 1, 3) := by decide +kernel
theorem dX6_save_29 : decode cX6_save 29 = .ok (.goto (-22), 3) := by decide +kernel
theorem dX6_save_32 : decode cX6_save 32 = .ok (.aload_n 0, 1) := by decide +kernel
theorem dX6_save_33 : decode cX6_save 33 = .ok (.getfield 7, 3) := by decide +kernel
theorem dX6_save_36 : decode cX6_save 36 = .ok (.bipush 6, 2) := by decide +kernel
theorem dX6_save_38 : decode cX6_save 38 = .ok (.iaload, 1) := by decide +kernel
theorem dX6_save_39 : decode cX6_save 39 = .ok (.ireturn, 1) := by decide +kernel
set_option maxRecDepth 20000 in
theorem ggX6_restore_X6_record : GoodIn wsX6_restore wsX6_record := goodIn_r _ [8, 9, 10, 2, 11, 12, 13, 14, 15, 16, 17, 18, 19, 20, 21, 22] (by decide +kernel) (by decide +kernel)
set_option maxRecDepth 20000 in
theorem gX6_restore_X6_record : GoodIn wsX6_restore (wsV RX6 45 RX6 yX6_record wsX6_record) := goodIn_app (goodIn_of _ (by decide +kernel)) ggX6_restore_X6_record
theorem dX6_restore_0 : decode cX6_restore 0 = .ok (.aload_n 0, 1) := by decide +kernel
theorem dX6_restore_1 : decode cX6_restore 1 = .ok (.getfield 41, 3) := by decide +kernel
theorem dX6_restore_4 : decode cX6_restore 4 = .ok (.ifCond .ne 6, 3) := by decide +kernel
theorem dX6_restore_7 : decode cX6_restore 7 = .ok (.bipush (-3), 2) := by decide +kernel
theorem dX6_restore_9 : decode cX6_restore 9 = .ok (.ireturn, 1) := by decide +kernel
theorem dX6_restore_10 : decode cX6_restore 10 = .ok (.aload_n 0, 1) := by decide +kernel
theorem dX6_restore_11 : decode cX6_restore 11 = .ok (.invokevirtual 45, 3) := by decide +kernel
theorem dX6_restore_14 : decode cX6_restore 14 = .ok (.iconst 0, 1) := by decide +kernel
theorem dX6_restore_15 : decode cX6_restore 15 = .ok (.istore_n 1, 1) := by decide +kernel
theorem dX6_restore_16 : decode cX6_restore 16 = .ok (.iload_n 1, 1) := by decide +kernel
theorem dX6_restore_17 : decode cX6_restore 17 = .ok (.sipush 268, 3) := by decide +kernel
theorem dX6_restore_20 : decode cX6_restore 20 = .ok (.if_icmp .ge 21, 3) := by decide +kernel
theorem dX6_restore_23 : decode cX6_restore 23 = .ok (.aload_n 0, 1) := by decide +kernel
theorem dX6_restore_24 : decode cX6_restore 24 = .ok (.getfield 7, 3) := by decide +kernel
theorem dX6_restore_27 : decode cX6_restore 27 = .ok (.iload_n 1, 1) := by decide +kernel
theorem dX6_restore_28 : decode cX6_restore 28 = .ok (.aload_n 0, 1) := by decide +kernel
theorem dX6_restore_29 : decode cX6_restore 29 = .ok (.getfield 16, 3) := by decide +kernel
theorem dX6_restore_32 : decode cX6_restore 32 = .ok (.iload_n 1, 1) := by decide +kernel
theorem dX6_restore_33 : decode cX6_restore 33 = .ok (.iaload, 1) := by decide +kernel
theorem dX6_restore_34 : decode cX6_restore 34 = .ok (.iastore, 1) := by decide +kernel
theorem dX6_restore_35 : decode cX6_restore 35 = .ok (.iinc 1 1, 3) := by decide +kernel
theorem dX6_restore_38 : decode cX6_restore 38 = .ok (.goto (-22), 3) := by decide +kernel
theorem dX6_restore_41 : decode cX6_restore 41 = .ok (.aload_n 0, 1) := by decide +kernel
theorem dX6_restore_42 : decode cX6_restore 42 = .ok (.getfield 7, 3) := by decide +kernel
theorem dX6_restore_45 : decode cX6_restore 45 = .ok (.bipush 6, 2) := by decide +kernel
theorem dX6_restore_47 : decode cX6_restore 47 = .ok (.iaload, 1) := by decide +kernel
theorem dX6_restore_48 : decode cX6_restore 48 = .ok (.ireturn, 1) := by decide +kernel
theorem dX6_meets_0 : decode cX6_meets 0 = .ok (.iload_n 0, 1) := by decide +kernel
theorem dX6_meets_1 : decode cX6_meets 1 = .ok (.ifCond .eq 8, 3) := by decide +kernel
theorem dX6_meets_4 : decode cX6_meets 4 = .ok (.iload_n 0, 1) := by decide +kernel
theorem dX6_meets_5 : decode cX6_meets 5 = .ok (.iconst 2, 1) := by decide +kernel
theorem dX6_meets_6 : decode cX6_meets 6 = .ok (.if_icmp .ne 17, 3) := by decide +kernel
theorem dX6_meets_9 : decode cX6_meets 9 = .ok (.iload_n 1, 1) := by decide +kernel
theorem dX6_meets_10 : decode cX6_meets 10 = .ok (.iconst 1, 1) := by decide +kernel
theorem dX6_meets_11 : decode cX6_meets 11 = .ok (.if_icmp .eq 8, 3) := by decide +kernel
theorem dX6_meets_14 : decode cX6_meets 14 = .ok (.iload_n 1, 1) := by decide +kernel
theorem dX6_meets_15 : decode cX6_meets 15 = .ok (.iconst 2, 1) := by decide +kernel
theorem dX6_meets_16 : decode cX6_meets 16 = .ok (.if_icmp .ne 7, 3) := by decide +kernel
theorem dX6_meets_19 : decode cX6_meets 19 = .ok (.iconst 1, 1) := by decide +kernel
theorem dX6_meets_20 : decode cX6_meets 20 = .ok (.goto 4, 3) := by decide +kernel
theorem dX6_meets_23 : decode cX6_meets 23 = .ok (.iconst 0, 1) := by decide +kernel
theorem dX6_meets_24 : decode cX6_meets 24 = .ok (.ireturn, 1) := by decide +kernel
set_option maxRecDepth 20000 in
theorem ggX6_nearest_X6_in : GoodIn wsX6_nearest wsX6_in := goodIn_r _ [4] (by decide +kernel) (by decide +kernel)
set_option maxRecDepth 20000 in
theorem gX6_nearest_X6_in : GoodIn wsX6_nearest (va_wsS RX6 29 yX6_in wsX6_in) := goodIn_app (goodIn_of _ (by decide +kernel)) ggX6_nearest_X6_in
set_option maxRecDepth 20000 in
theorem ggX6_nearest_X6_wayAt : GoodIn wsX6_nearest wsX6_wayAt := goodIn_r _ [8, 9, 10, 11, 3, 12, 13, 14, 15, 16, 17, 18, 19, 20, 21, 22, 23, 24] (by decide +kernel) (by decide +kernel)
set_option maxRecDepth 20000 in
theorem gX6_nearest_X6_wayAt : GoodIn wsX6_nearest (wsV RX6 48 RX6 yX6_wayAt wsX6_wayAt) := goodIn_app (goodIn_of _ (by decide +kernel)) ggX6_nearest_X6_wayAt
theorem dX6_nearest_0 : decode cX6_nearest 0 = .ok (.iconst 1, 1) := by decide +kernel
theorem dX6_nearest_1 : decode cX6_nearest 1 = .ok (.istore 4, 2) := by decide +kernel
theorem dX6_nearest_3 : decode cX6_nearest 3 = .ok (.iload 4, 2) := by decide +kernel
theorem dX6_nearest_5 : decode cX6_nearest 5 = .ok (.iconst 4, 1) := by decide +kernel
theorem dX6_nearest_6 : decode cX6_nearest 6 = .ok (.if_icmp .gt 48, 3) := by decide +kernel
theorem dX6_nearest_9 : decode cX6_nearest 9 = .ok (.iload_n 2, 1) := by decide +kernel
theorem dX6_nearest_10 : decode cX6_nearest 10 = .ok (.iload_n 3, 1) := by decide +kernel
theorem dX6_nearest_11 : decode cX6_nearest 11 = .ok (.iload 4, 2) := by decide +kernel
theorem dX6_nearest_13 : decode cX6_nearest 13 = .ok (.imul, 1) := by decide +kernel
theorem dX6_nearest_14 : decode cX6_nearest 14 = .ok (.iadd, 1) := by decide +kernel
theorem dX6_nearest_15 : decode cX6_nearest 15 = .ok (.istore 5, 2) := by decide +kernel
theorem dX6_nearest_17 : decode cX6_nearest 17 = .ok (.iload 5, 2) := by decide +kernel
theorem dX6_nearest_19 : decode cX6_nearest 19 = .ok (.iconst 0, 1) := by decide +kernel
theorem dX6_nearest_20 : decode cX6_nearest 20 = .ok (.bipush 15, 2) := by decide +kernel
theorem dX6_nearest_22 : decode cX6_nearest 22 = .ok (.invokestatic 29, 3) := by decide +kernel
theorem dX6_nearest_25 : decode cX6_nearest 25 = .ok (.ifCond .eq 23, 3) := by decide +kernel
theorem dX6_nearest_28 : decode cX6_nearest 28 = .ok (.aload_n 0, 1) := by decide +kernel
theorem dX6_nearest_29 : decode cX6_nearest 29 = .ok (.iload_n 1, 1) := by decide +kernel
theorem dX6_nearest_30 : decode cX6_nearest 30 = .ok (.iload 5, 2) := by decide +kernel
theorem dX6_nearest_32 : decode cX6_nearest 32 = .ok (.invokevirtual 48, 3) := by decide +kernel
theorem dX6_nearest_35 : decode cX6_nearest 35 = .ok (.bipush (-6), 2) := by decide +kernel
theorem dX6_nearest_37 : decode cX6_nearest 37 = .ok (.if_icmp .eq 11, 3) := by decide +kernel
theorem dX6_nearest_40 : decode cX6_nearest 40 = .ok (.aload_n 0, 1) := by decide +kernel
theorem dX6_nearest_41 : decode cX6_nearest 41 = .ok (.iload_n 1, 1) := by decide +kernel
theorem dX6_nearest_42 : decode cX6_nearest 42 = .ok (.iload 5, 2) := by decide +kernel
theorem dX6_nearest_44 : decode cX6_nearest 44 = .ok (.invokevirtual 48, 3) := by decide +kernel
theorem dX6_nearest_47 : decode cX6_nearest 47 = .ok (.ireturn, 1) := by decide +kernel
theorem dX6_nearest_48 : decode cX6_nearest 48 = .ok (.iinc 4 1, 3) := by decide +kernel
theorem dX6_nearest_51 : decode cX6_nearest 51 = .ok (.goto (-48), 3) := by decide +kernel
theorem dX6_nearest_54 : decode cX6_nearest 54 = .ok (.bipush (-6), 2) := by decide +kernel
theorem dX6_nearest_56 : decode cX6_nearest 56 = .ok (.ireturn, 1) := by decide +kernel
set_option maxRecDepth 20000 in
theorem ggX6_reason_X6_nearest : GoodIn wsX6_reason wsX6_nearest := goodIn_r _ [6, 7, 8, 5, 9, 10, 11, 12, 13, 1, 14, 15, 16, 23, 24, 25, 26, 27, 28, 29, 30, 31, 32, 33, 34] (by decide +kernel) (by decide +kernel)
set_option maxRecDepth 20000 in
theorem gX6_reason_X6_nearest : GoodIn wsX6_reason (wsV RX6 51 RX6 yX6_nearest wsX6_nearest) := goodIn_app (goodIn_of _ (by decide +kernel)) ggX6_reason_X6_nearest

set_option maxRecDepth 20000 in
theorem ggX6_line_X6_lineAt : GoodIn wsX6_line wsX6_lineAt := goodIn_r _ [11] (by decide +kernel) (by decide +kernel)
set_option maxRecDepth 20000 in
theorem gX6_line_X6_lineAt : GoodIn wsX6_line (va_wsS RX6 59 yX6_lineAt wsX6_lineAt) := goodIn_app (goodIn_of _ (by decide +kernel)) ggX6_line_X6_lineAt
theorem dX6_line_0 : decode cX6_line 0 = .ok (.iload_n 1, 1) := by decide +kernel
theorem dX6_line_1 : decode cX6_line 1 = .ok (.iload_n 2, 1) := by decide +kernel
theorem dX6_line_2 : decode cX6_line 2 = .ok (.invokestatic 81, 3) := by decide +kernel
theorem dX6_line_5 : decode cX6_line 5 = .ok (.ifCond .ne 5, 3) := by decide +kernel
theorem dX6_line_8 : decode cX6_line 8 = .ok (.iconst (-1), 1) := by decide +kernel
theorem dX6_line_9 : decode cX6_line 9 = .ok (.ireturn, 1) := by decide +kernel
theorem dX6_line_10 : decode cX6_line 10 = .ok (.iload_n 3, 1) := by decide +kernel
theorem dX6_line_11 : decode cX6_line 11 = .ok (.iconst 0, 1) := by decide +kernel
theorem dX6_line_12 : decode cX6_line 12 = .ok (.iconst 1, 1) := by decide +kernel
theorem dX6_line_13 : decode cX6_line 13 = .ok (.invokestatic 29, 3) := by decide +kernel
theorem dX6_line_16 : decode cX6_line 16 = .ok (.ifCond .eq 18, 3) := by decide +kernel
theorem dX6_line_19 : decode cX6_line 19 = .ok (.aload_n 0, 1) := by decide +kernel
theorem dX6_line_20 : decode cX6_line 20 = .ok (.getfield 7, 3) := by decide +kernel
theorem dX6_line_23 : decode cX6_line 23 = .ok (.iload_n 1, 1) := by decide +kernel
theorem dX6_line_24 : decode cX6_line 24 = .ok (.iload_n 2, 1) := by decide +kernel
theorem dX6_line_25 : decode cX6_line 25 = .ok (.invokestatic 59, 3) := by decide +kernel
theorem dX6_line_28 : decode cX6_line 28 = .ok (.iload_n 3, 1) := by decide +kernel
theorem dX6_line_29 : decode cX6_line 29 = .ok (.iadd, 1) := by decide +kernel
theorem dX6_line_30 : decode cX6_line 30 = .ok (.iaload, 1) := by decide +kernel
theorem dX6_line_31 : decode cX6_line 31 = .ok (.goto 5, 3) := by decide +kernel
theorem dX6_line_34 : decode cX6_line 34 = .ok (.bipush (-2), 2) := by decide +kernel
theorem dX6_line_36 : decode cX6_line 36 = .ok (.ireturn, 1) := by decide +kernel
set_option maxRecDepth 20000 in
theorem ggX6_canChange_X6_lineAt : GoodIn wsX6_canChange wsX6_lineAt := goodIn_r _ [5] (by decide +kernel) (by decide +kernel)
set_option maxRecDepth 20000 in
theorem gX6_canChange_X6_lineAt : GoodIn wsX6_canChange (va_wsS RX6 59 yX6_lineAt wsX6_lineAt) := goodIn_app (goodIn_of _ (by decide +kernel)) ggX6_canChange_X6_lineAt
set_option maxRecDepth 20000 in
theorem ggX6_canChange_X6_isFree : GoodIn wsX6_canChange wsX6_isFree := goodIn_r _ [9, 10, 11, 12, 4, 13, 1, 14, 15, 16, 17, 18, 19, 20, 21, 22, 23, 24, 25, 26, 27, 28] (by decide +kernel) (by decide +kernel)
set_option maxRecDepth 20000 in
theorem gX6_canChange_X6_isFree : GoodIn wsX6_canChange (wsV RX6 113 RX6 yX6_isFree wsX6_isFree) := goodIn_app (goodIn_of _ (by decide +kernel)) ggX6_canChange_X6_isFree
theorem dX6_canChange_0 : decode cX6_canChange 0 = .ok (.aload_n 0, 1) := by decide +kernel
theorem dX6_canChange_1 : decode cX6_canChange 1 = .ok (.getfield 7, 3) := by decide +kernel
theorem dX6_canChange_4 : decode cX6_canChange 4 = .ok (.iload_n 1, 1) := by decide +kernel
theorem dX6_canChange_5 : decode cX6_canChange 5 = .ok (.iload_n 2, 1) := by decide +kernel
theorem dX6_canChange_6 : decode cX6_canChange 6 = .ok (.if_icmp .ge 7, 3) := by decide +kernel
theorem dX6_canChange_9 : decode cX6_canChange 9 = .ok (.iload_n 1, 1) := by decide +kernel
theorem dX6_canChange_10 : decode cX6_canChange 10 = .ok (.goto 4, 3) := by decide +kernel
theorem dX6_canChange_13 : decode cX6_canChange 13 = .ok (.iload_n 2, 1) := by decide +kernel
theorem dX6_canChange_14 : decode cX6_canChange 14 = .ok (.iload_n 3, 1) := by decide +kernel
theorem dX6_canChange_15 : decode cX6_canChange 15 = .ok (.invokestatic 59, 3) := by decide +kernel
theorem dX6_canChange_18 : decode cX6_canChange 18 = .ok (.iaload, 1) := by decide +kernel
theorem dX6_canChange_19 : decode cX6_canChange 19 = .ok (.istore 5, 2) := by decide +kernel
theorem dX6_canChange_21 : decode cX6_canChange 21 = .ok (.aload_n 0, 1) := by decide +kernel
theorem dX6_canChange_22 : decode cX6_canChange 22 = .ok (.iload_n 2, 1) := by decide +kernel
theorem dX6_canChange_23 : decode cX6_canChange 23 = .ok (.iload_n 3, 1) := by decide +kernel
theorem dX6_canChange_24 : decode cX6_canChange 24 = .ok (.iload 4, 2) := by decide +kernel
theorem dX6_canChange_26 : decode cX6_canChange 26 = .ok (.invokevirtual 113, 3) := by decide +kernel
theorem dX6_canChange_29 : decode cX6_canChange 29 = .ok (.ifCond .eq 29, 3) := by decide +kernel
theorem dX6_canChange_32 : decode cX6_canChange 32 = .ok (.iload 5, 2) := by decide +kernel
theorem dX6_canChange_34 : decode cX6_canChange 34 = .ok (.ifCond .eq 20, 3) := by decide +kernel
theorem dX6_canChange_37 : decode cX6_canChange 37 = .ok (.iload 5, 2) := by decide +kernel
theorem dX6_canChange_39 : decode cX6_canChange 39 = .ok (.iconst 2, 1) := by decide +kernel
theorem dX6_canChange_40 : decode cX6_canChange 40 = .ok (.if_icmp .eq 14, 3) := by decide +kernel
theorem dX6_canChange_43 : decode cX6_canChange 43 = .ok (.iload 5, 2) := by decide +kernel
theorem dX6_canChange_45 : decode cX6_canChange 45 = .ok (.iconst 3, 1) := by decide +kernel
theorem dX6_canChange_46 : decode cX6_canChange 46 = .ok (.if_icmp .ne 12, 3) := by decide +kernel
theorem dX6_canChange_49 : decode cX6_canChange 49 = .ok (.iload_n 1, 1) := by decide +kernel
theorem dX6_canChange_50 : decode cX6_canChange 50 = .ok (.iload_n 2, 1) := by decide +kernel
theorem dX6_canChange_51 : decode cX6_canChange 51 = .ok (.if_icmp .ge 7, 3) := by decide +kernel
theorem dX6_canChange_54 : decode cX6_canChange 54 = .ok (.iconst 1, 1) := by decide +kernel
theorem dX6_canChange_55 : decode cX6_canChange 55 = .ok (.goto 4, 3) := by decide +kernel
theorem dX6_canChange_58 : decode cX6_canChange 58 = .ok (.iconst 0, 1) := by decide +kernel
theorem dX6_canChange_59 : decode cX6_canChange 59 = .ok (.ireturn, 1) := by decide +kernel
set_option maxRecDepth 20000 in
theorem ggX6_mayChange_X6_isCell : GoodIn wsX6_mayChange wsX6_isCell := goodIn_r _ [4, 5, 6, 3, 7] (by decide +kernel) (by decide +kernel)
set_option maxRecDepth 20000 in
theorem gX6_mayChange_X6_isCell : GoodIn wsX6_mayChange (va_wsS RX6 62 yX6_isCell wsX6_isCell) := goodIn_app (goodIn_of _ (by decide +kernel)) ggX6_mayChange_X6_isCell
set_option maxRecDepth 20000 in
theorem ggX6_mayChange_X6_in : GoodIn wsX6_mayChange wsX6_in := goodIn_r _ [7] (by decide +kernel) (by decide +kernel)
set_option maxRecDepth 20000 in
theorem gX6_mayChange_X6_in : GoodIn wsX6_mayChange (va_wsS RX6 29 yX6_in wsX6_in) := goodIn_app (goodIn_of _ (by decide +kernel)) ggX6_mayChange_X6_in
set_option maxRecDepth 20000 in
theorem ggX6_mayChange_X6_canChange : GoodIn wsX6_mayChange wsX6_canChange := goodIn_r _ [11, 12, 13, 14, 3, 15, 16, 17, 18, 19, 20, 21, 22, 23, 24, 25, 26, 27, 28, 29, 30, 31, 32, 33, 34, 35, 36, 37, 38] (by decide +kernel) (by decide +kernel)
set_option maxRecDepth 20000 in
theorem gX6_mayChange_X6_canChange : GoodIn wsX6_mayChange (wsV RX6 116 RX6 yX6_canChange wsX6_canChange) := goodIn_app (goodIn_of _ (by decide +kernel)) ggX6_mayChange_X6_canChange
theorem dX6_mayChange_0 : decode cX6_mayChange 0 = .ok (.iload_n 1, 1) := by decide +kernel
theorem dX6_mayChange_1 : decode cX6_mayChange 1 = .ok (.iload_n 3, 1) := by decide +kernel
theorem dX6_mayChange_2 : decode cX6_mayChange 2 = .ok (.invokestatic 62, 3) := by decide +kernel
theorem dX6_mayChange_5 : decode cX6_mayChange 5 = .ok (.ifCond .eq 11, 3) := by decide +kernel
theorem dX6_mayChange_8 : decode cX6_mayChange 8 = .ok (.iload_n 2, 1) := by decide +kernel
theorem dX6_mayChange_9 : decode cX6_mayChange 9 = .ok (.iload_n 3, 1) := by decide +kernel
theorem dX6_mayChange_10 : decode cX6_mayChange 10 = .ok (.invokestatic 62, 3) := by decide +kernel
theorem dX6_mayChange_13 : decode cX6_mayChange 13 = .ok (.ifCond .ne 5, 3) := by decide +kernel
theorem dX6_mayChange_16 : decode cX6_mayChange 16 = .ok (.iconst (-1), 1) := by decide +kernel
theorem dX6_mayChange_17 : decode cX6_mayChange 17 = .ok (.ireturn, 1) := by decide +kernel
theorem dX6_mayChange_18 : decode cX6_mayChange 18 = .ok (.iload_n 1, 1) := by decide +kernel
theorem dX6_mayChange_19 : decode cX6_mayChange 19 = .ok (.iload_n 2, 1) := by decide +kernel
theorem dX6_mayChange_20 : decode cX6_mayChange 20 = .ok (.isub, 1) := by decide +kernel
theorem dX6_mayChange_21 : decode cX6_mayChange 21 = .ok (.iconst 1, 1) := by decide +kernel
theorem dX6_mayChange_22 : decode cX6_mayChange 22 = .ok (.if_icmp .eq 10, 3) := by decide +kernel
theorem dX6_mayChange_25 : decode cX6_mayChange 25 = .ok (.iload_n 2, 1) := by decide +kernel
theorem dX6_mayChange_26 : decode cX6_mayChange 26 = .ok (.iload_n 1, 1) := by decide +kernel
theorem dX6_mayChange_27 : decode cX6_mayChange 27 = .ok (.isub, 1) := by decide +kernel
theorem dX6_mayChange_28 : decode cX6_mayChange 28 = .ok (.iconst 1, 1) := by decide +kernel
theorem dX6_mayChange_29 : decode cX6_mayChange 29 = .ok (.if_icmp .ne 13, 3) := by decide +kernel
theorem dX6_mayChange_32 : decode cX6_mayChange 32 = .ok (.iload 4, 2) := by decide +kernel
theorem dX6_mayChange_34 : decode cX6_mayChange 34 = .ok (.iconst 0, 1) := by decide +kernel
theorem dX6_mayChange_35 : decode cX6_mayChange 35 = .ok (.iconst 1, 1) := by decide +kernel
theorem dX6_mayChange_36 : decode cX6_mayChange 36 = .ok (.invokestatic 29, 3) := by decide +kernel
theorem dX6_mayChange_39 : decode cX6_mayChange 39 = .ok (.ifCond .ne 6, 3) := by decide +kernel
theorem dX6_mayChange_42 : decode cX6_mayChange 42 = .ok (.bipush (-2), 2) := by decide +kernel
theorem dX6_mayChange_44 : decode cX6_mayChange 44 = .ok (.ireturn, 1) := by decide +kernel
theorem dX6_mayChange_45 : decode cX6_mayChange 45 = .ok (.aload_n 0, 1) := by decide +kernel
theorem dX6_mayChange_46 : decode cX6_mayChange 46 = .ok (.iload_n 1, 1) := by decide +kernel
theorem dX6_mayChange_47 : decode cX6_mayChange 47 = .ok (.iload_n 2, 1) := by decide +kernel
theorem dX6_mayChange_48 : decode cX6_mayChange 48 = .ok (.iload_n 3, 1) := by decide +kernel
theorem dX6_mayChange_49 : decode cX6_mayChange 49 = .ok (.iload 4, 2) := by decide +kernel
theorem dX6_mayChange_51 : decode cX6_mayChange 51 = .ok (.invokevirtual 116, 3) := by decide +kernel
theorem dX6_mayChange_54 : decode cX6_mayChange 54 = .ok (.ifCond .eq 7, 3) := by decide +kernel
theorem dX6_mayChange_57 : decode cX6_mayChange 57 = .ok (.iconst 1, 1) := by decide +kernel
theorem dX6_mayChange_58 : decode cX6_mayChange 58 = .ok (.goto 4, 3) := by decide +kernel
theorem dX6_mayChange_61 : decode cX6_mayChange 61 = .ok (.iconst 0, 1) := by decide +kernel
theorem dX6_mayChange_62 : decode cX6_mayChange 62 = .ok (.ireturn, 1) := by decide +kernel
set_option maxRecDepth 20000 in
theorem ggX6_readable_X6_isRead : GoodIn wsX6_readable wsX6_isRead := goodIn_r _ [5, 6, 7, 8, 4, 9, 10, 11, 12, 13, 14, 15, 16, 17, 18, 19, 20, 21] (by decide +kernel) (by decide +kernel)
set_option maxRecDepth 20000 in
theorem gX6_readable_X6_isRead : GoodIn wsX6_readable (wsV RX6 87 RX6 yX6_isRead wsX6_isRead) := goodIn_app (goodIn_of _ (by decide +kernel)) ggX6_readable_X6_isRead
theorem dX6_readable_0 : decode cX6_readable 0 = .ok (.iconst 0, 1) := by decide +kernel
theorem dX6_readable_1 : decode cX6_readable 1 = .ok (.istore_n 1, 1) := by decide +kernel
theorem dX6_readable_2 : decode cX6_readable 2 = .ok (.iconst 0, 1) := by decide +kernel
theorem dX6_readable_3 : decode cX6_readable 3 = .ok (.istore_n 2, 1) := by decide +kernel
theorem dX6_readable_4 : decode cX6_readable 4 = .ok (.iload_n 2, 1) := by decide +kernel
theorem dX6_readable_5 : decode cX6_readable 5 = .ok (.iconst 3, 1) := by decide +kernel
theorem dX6_readable_6 : decode cX6_readable 6 = .ok (.if_icmp .ge 40, 3) := by decide +kernel
theorem dX6_readable_9 : decode cX6_readable 9 = .ok (.iconst 0, 1) := by decide +kernel
theorem dX6_readable_10 : decode cX6_readable 10 = .ok (.istore_n 3, 1) := by decide +kernel
theorem dX6_readable_11 : decode cX6_readable 11 = .ok (.iload_n 3, 1) := by decide +kernel
theorem dX6_readable_12 : decode cX6_readable 12 = .ok (.bipush 16, 2) := by decide +kernel
theorem dX6_readable_14 : decode cX6_readable 14 = .ok (.if_icmp .ge 26, 3) := by decide +kernel
theorem dX6_readable_17 : decode cX6_readable 17 = .ok (.iload_n 1, 1) := by decide +kernel
theorem dX6_readable_18 : decode cX6_readable 18 = .ok (.aload_n 0, 1) := by decide +kernel
theorem dX6_readable_19 : decode cX6_readable 19 = .ok (.iload_n 2, 1) := by decide +kernel
theorem dX6_readable_20 : decode cX6_readable 20 = .ok (.iload_n 3, 1) := by decide +kernel
theorem dX6_readable_21 : decode cX6_readable 21 = .ok (.invokevirtual 87, 3) := by decide +kernel
theorem dX6_readable_24 : decode cX6_readable 24 = .ok (.ifCond .eq 7, 3) := by decide +kernel
theorem dX6_readable_27 : decode cX6_readable 27 = .ok (.iconst 1, 1) := by decide +kernel
theorem dX6_readable_28 : decode cX6_readable 28 = .ok (.goto 4, 3) := by decide +kernel
theorem dX6_readable_31 : decode cX6_readable 31 = .ok (.iconst 0, 1) := by decide +kernel
theorem dX6_readable_32 : decode cX6_readable 32 = .ok (.iadd, 1) := by decide +kernel
theorem dX6_readable_33 : decode cX6_readable 33 = .ok (.istore_n 1, 1) := by decide +kernel
theorem dX6_readable_34 : decode cX6_readable 34 = .ok (.iinc 3 1, 3) := by decide +kernel
theorem dX6_readable_37 : decode cX6_readable 37 = .ok (.goto (-26), 3) := by decide +kernel
theorem dX6_readable_40 : decode cX6_readable 40 = .ok (.iinc 2 1, 3) := by decide +kernel
theorem dX6_readable_43 : decode cX6_readable 43 = .ok (.goto (-39), 3) := by decide +kernel
theorem dX6_readable_46 : decode cX6_readable 46 = .ok (.iload_n 1, 1) := by decide +kernel
theorem dX6_readable_47 : decode cX6_readable 47 = .ok (.ireturn, 1) := by decide +kernel
theorem dX6_strengths_0 : decode cX6_strengths 0 = .ok (.iconst 0, 1) := by decide +kernel
theorem dX6_strengths_1 : decode cX6_strengths 1 = .ok (.istore_n 1, 1) := by decide +kernel
theorem dX6_strengths_2 : decode cX6_strengths 2 = .ok (.bipush 13, 2) := by decide +kernel
theorem dX6_strengths_4 : decode cX6_strengths 4 = .ok (.istore_n 2, 1) := by decide +kernel
theorem dX6_strengths_5 : decode cX6_strengths 5 = .ok (.iload_n 2, 1) := by decide +kernel
theorem dX6_strengths_6 : decode cX6_strengths 6 = .ok (.sipush 268, 3) := by decide +kernel
theorem dX6_strengths_9 : decode cX6_strengths 9 = .ok (.if_icmp .ge 18, 3) := by decide +kernel
theorem dX6_strengths_12 : decode cX6_strengths 12 = .ok (.iload_n 1, 1) := by decide +kernel
theorem dX6_strengths_13 : decode cX6_strengths 13 = .ok (.aload_n 0, 1) := by decide +kernel
theorem dX6_strengths_14 : decode cX6_strengths 14 = .ok (.getfield 7, 3) := by decide +kernel
theorem dX6_strengths_17 : decode cX6_strengths 17 = .ok (.iload_n 2, 1) := by decide +kernel
theorem dX6_strengths_18 : decode cX6_strengths 18 = .ok (.iaload, 1) := by decide +kernel
theorem dX6_strengths_19 : decode cX6_strengths 19 = .ok (.iadd, 1) := by decide +kernel
theorem dX6_strengths_20 : decode cX6_strengths 20 = .ok (.istore_n 1, 1) := by decide +kernel
theorem dX6_strengths_21 : decode cX6_strengths 21 = .ok (.iinc 2 2, 3) := by decide +kernel
theorem dX6_strengths_24 : decode cX6_strengths 24 = .ok (.goto (-19), 3) := by decide +kernel
theorem dX6_strengths_27 : decode cX6_strengths 27 = .ok (.iload_n 1, 1) := by decide +kernel
theorem dX6_strengths_28 : decode cX6_strengths 28 = .ok (.ireturn, 1) := by decide +kernel
theorem dX6_dashes_0 : decode cX6_dashes 0 = .ok (.iconst 0, 1) := by decide +kernel
theorem dX6_dashes_1 : decode cX6_dashes 1 = .ok (.istore_n 1, 1) := by decide +kernel
theorem dX6_dashes_2 : decode cX6_dashes 2 = .ok (.sipush 204, 3) := by decide +kernel
theorem dX6_dashes_5 : decode cX6_dashes 5 = .ok (.istore_n 2, 1) := by decide +kernel
theorem dX6_dashes_6 : decode cX6_dashes 6 = .ok (.iload_n 2, 1) := by decide +kernel
theorem dX6_dashes_7 : decode cX6_dashes 7 = .ok (.sipush 268, 3) := by decide +kernel
theorem dX6_dashes_10 : decode cX6_dashes 10 = .ok (.if_icmp .ge 26, 3) := by decide +kernel
theorem dX6_dashes_13 : decode cX6_dashes 13 = .ok (.iload_n 1, 1) := by decide +kernel
theorem dX6_dashes_14 : decode cX6_dashes 14 = .ok (.aload_n 0, 1) := by decide +kernel
theorem dX6_dashes_15 : decode cX6_dashes 15 = .ok (.getfield 7, 3) := by decide +kernel
theorem dX6_dashes_18 : decode cX6_dashes 18 = .ok (.iload_n 2, 1) := by decide +kernel
theorem dX6_dashes_19 : decode cX6_dashes 19 = .ok (.iaload, 1) := by decide +kernel
theorem dX6_dashes_20 : decode cX6_dashes 20 = .ok (.ifCond .le 7, 3) := by decide +kernel
theorem dX6_dashes_23 : decode cX6_dashes 23 = .ok (.iconst 1, 1) := by decide +kernel
theorem dX6_dashes_24 : decode cX6_dashes 24 = .ok (.goto 4, 3) := by decide +kernel
theorem dX6_dashes_27 : decode cX6_dashes 27 = .ok (.iconst 0, 1) := by decide +kernel
theorem dX6_dashes_28 : decode cX6_dashes 28 = .ok (.iadd, 1) := by decide +kernel
theorem dX6_dashes_29 : decode cX6_dashes 29 = .ok (.istore_n 1, 1) := by decide +kernel
theorem dX6_dashes_30 : decode cX6_dashes 30 = .ok (.iinc 2 2, 3) := by decide +kernel
theorem dX6_dashes_33 : decode cX6_dashes 33 = .ok (.goto (-27), 3) := by decide +kernel
theorem dX6_dashes_36 : decode cX6_dashes 36 = .ok (.iload_n 1, 1) := by decide +kernel
theorem dX6_dashes_37 : decode cX6_dashes 37 = .ok (.ireturn, 1) := by decide +kernel
set_option maxRecDepth 20000 in
theorem ggX6_total_X6_cellSigns : GoodIn wsX6_total wsX6_cellSigns := goodIn_r _ [6, 1, 26, 27, 28, 29, 30, 31, 32, 33, 34, 35, 36, 37] (by decide +kernel) (by decide +kernel)
set_option maxRecDepth 20000 in
theorem gX6_total_X6_cellSigns : GoodIn wsX6_total (wsV RX6 74 RX6 yX6_cellSigns wsX6_cellSigns) := goodIn_app (goodIn_of _ (by decide +kernel)) ggX6_total_X6_cellSigns
set_option maxRecDepth 20000 in
theorem ggX6_total_X6_dashes : GoodIn wsX6_total wsX6_dashes := goodIn_r _ [10, 1, 26, 27, 28, 29, 30, 31, 32, 33, 34, 35, 36, 37] (by decide +kernel) (by decide +kernel)
set_option maxRecDepth 20000 in
theorem gX6_total_X6_dashes : GoodIn wsX6_total (wsV RX6 120 RX6 yX6_dashes wsX6_dashes) := goodIn_app (goodIn_of _ (by decide +kernel)) ggX6_total_X6_dashes
set_option maxRecDepth 20000 in
theorem ggX6_total_X6_readable : GoodIn wsX6_total wsX6_readable := goodIn_r _ [14, 15, 16, 17, 5, 18, 1, 19, 20, 21, 26, 27, 28, 29, 30, 31, 32, 33, 34, 35, 36, 37] (by decide +kernel) (by decide +kernel)
set_option maxRecDepth 20000 in
theorem gX6_total_X6_readable : GoodIn wsX6_total (wsV RX6 123 RX6 yX6_readable wsX6_readable) := goodIn_app (goodIn_of _ (by decide +kernel)) ggX6_total_X6_readable
set_option maxRecDepth 20000 in
theorem ggX6_total_X6_strengths : GoodIn wsX6_total wsX6_strengths := goodIn_r _ [25, 1, 26, 27, 28, 29, 30, 31, 32, 33, 34, 35, 36, 37] (by decide +kernel) (by decide +kernel)
set_option maxRecDepth 20000 in
theorem gX6_total_X6_strengths : GoodIn wsX6_total (wsV RX6 126 RX6 yX6_strengths wsX6_strengths) := goodIn_app (goodIn_of _ (by decide +kernel)) ggX6_total_X6_strengths
theorem dX6_total_0 : decode cX6_total 0 = .ok (.iload_n 1, 1) := by decide +kernel
theorem dX6_total_1 : decode cX6_total 1 = .ok (.tableswitch 135 0 14 #[75, 81, 87, 92, 97, 97, 97, 97, 97, 108, 113, 113, 113, 125, 125], 75) := by decide +kernel
theorem dX6_total_76 : decode cX6_total 76 = .ok (.aload_n 0, 1) := by decide +kernel
theorem dX6_total_77 : decode cX6_total 77 = .ok (.iconst 0, 1) := by decide +kernel
theorem dX6_total_78 : decode cX6_total 78 = .ok (.invokevirtual 74, 3) := by decide +kernel
theorem dX6_total_81 : decode cX6_total 81 = .ok (.ireturn, 1) := by decide +kernel
theorem dX6_total_82 : decode cX6_total 82 = .ok (.aload_n 0, 1) := by decide +kernel
theorem dX6_total_83 : decode cX6_total 83 = .ok (.iconst 2, 1) := by decide +kernel
theorem dX6_total_84 : decode cX6_total 84 = .ok (.invokevirtual 74, 3) := by decide +kernel
theorem dX6_total_87 : decode cX6_total 87 = .ok (.ireturn, 1) := by decide +kernel
theorem dX6_total_88 : decode cX6_total 88 = .ok (.aload_n 0, 1) := by decide +kernel
theorem dX6_total_89 : decode cX6_total 89 = .ok (.invokevirtual 120, 3) := by decide +kernel
theorem dX6_total_92 : decode cX6_total 92 = .ok (.ireturn, 1) := by decide +kernel
theorem dX6_total_93 : decode cX6_total 93 = .ok (.aload_n 0, 1) := by decide +kernel
theorem dX6_total_94 : decode cX6_total 94 = .ok (.invokevirtual 123, 3) := by decide +kernel
theorem dX6_total_97 : decode cX6_total 97 = .ok (.ireturn, 1) := by decide +kernel
theorem dX6_total_98 : decode cX6_total 98 = .ok (.aload_n 0, 1) := by decide +kernel
theorem dX6_total_99 : decode cX6_total 99 = .ok (.getfield 7, 3) := by decide +kernel
theorem dX6_total_102 : decode cX6_total 102 = .ok (.iconst 5, 1) := by decide +kernel
theorem dX6_total_103 : decode cX6_total 103 = .ok (.iload_n 1, 1) := by decide +kernel
theorem dX6_total_104 : decode cX6_total 104 = .ok (.iadd, 1) := by decide +kernel
theorem dX6_total_105 : decode cX6_total 105 = .ok (.iconst 4, 1) := by decide +kernel
theorem dX6_total_106 : decode cX6_total 106 = .ok (.isub, 1) := by decide +kernel
theorem dX6_total_107 : decode cX6_total 107 = .ok (.iaload, 1) := by decide +kernel
theorem dX6_total_108 : decode cX6_total 108 = .ok (.ireturn, 1) := by decide +kernel
theorem dX6_total_109 : decode cX6_total 109 = .ok (.aload_n 0, 1) := by decide +kernel
theorem dX6_total_110 : decode cX6_total 110 = .ok (.invokevirtual 126, 3) := by decide +kernel
theorem dX6_total_113 : decode cX6_total 113 = .ok (.ireturn, 1) := by decide +kernel
theorem dX6_total_114 : decode cX6_total 114 = .ok (.aload_n 0, 1) := by decide +kernel
theorem dX6_total_115 : decode cX6_total 115 = .ok (.getfield 7, 3) := by decide +kernel
theorem dX6_total_118 : decode cX6_total 118 = .ok (.iconst 2, 1) := by decide +kernel
theorem dX6_total_119 : decode cX6_total 119 = .ok (.iload_n 1, 1) := by decide +kernel
theorem dX6_total_120 : decode cX6_total 120 = .ok (.iadd, 1) := by decide +kernel
theorem dX6_total_121 : decode cX6_total 121 = .ok (.bipush 10, 2) := by decide +kernel
theorem dX6_total_123 : decode cX6_total 123 = .ok (.isub, 1) := by decide +kernel
theorem dX6_total_124 : decode cX6_total 124 = .ok (.iaload, 1) := by decide +kernel
theorem dX6_total_125 : decode cX6_total 125 = .ok (.ireturn, 1) := by decide +kernel
theorem dX6_total_126 : decode cX6_total 126 = .ok (.aload_n 0, 1) := by decide +kernel
theorem dX6_total_127 : decode cX6_total 127 = .ok (.getfield 7, 3) := by decide +kernel
theorem dX6_total_130 : decode cX6_total 130 = .ok (.iload_n 1, 1) := by decide +kernel
theorem dX6_total_131 : decode cX6_total 131 = .ok (.bipush 13, 2) := by decide +kernel
theorem dX6_total_133 : decode cX6_total 133 = .ok (.isub, 1) := by decide +kernel
theorem dX6_total_134 : decode cX6_total 134 = .ok (.iaload, 1) := by decide +kernel
theorem dX6_total_135 : decode cX6_total 135 = .ok (.ireturn, 1) := by decide +kernel
theorem dX6_total_136 : decode cX6_total 136 = .ok (.bipush (-2), 2) := by decide +kernel
theorem dX6_total_138 : decode cX6_total 138 = .ok (.ireturn, 1) := by decide +kernel
set_option maxRecDepth 20000 in
theorem ggX6_whyNot_X6_isCell : GoodIn wsX6_whyNot wsX6_isCell := goodIn_r _ [4, 5, 6, 3, 7] (by decide +kernel) (by decide +kernel)
set_option maxRecDepth 20000 in
theorem gX6_whyNot_X6_isCell : GoodIn wsX6_whyNot (va_wsS RX6 62 yX6_isCell wsX6_isCell) := goodIn_app (goodIn_of _ (by decide +kernel)) ggX6_whyNot_X6_isCell
set_option maxRecDepth 20000 in
theorem ggX6_whyNot_X6_in : GoodIn wsX6_whyNot wsX6_in := goodIn_r _ [7] (by decide +kernel) (by decide +kernel)
set_option maxRecDepth 20000 in
theorem gX6_whyNot_X6_in : GoodIn wsX6_whyNot (va_wsS RX6 29 yX6_in wsX6_in) := goodIn_app (goodIn_of _ (by decide +kernel)) ggX6_whyNot_X6_in
set_option maxRecDepth 20000 in
theorem ggX6_whyNot_X6_reason : GoodIn wsX6_whyNot wsX6_reason := goodIn_r _ [11, 12, 13, 14, 15, 3, 16, 5, 6, 7, 17, 18, 19, 20, 21, 22, 23, 24, 25, 26, 27, 28, 29, 30, 31, 32, 33, 34, 35, 36, 37, 38, 39, 40, 41] (by decide +kernel) (by decide +kernel)
set_option maxRecDepth 20000 in
theorem gX6_whyNot_X6_reason : GoodIn wsX6_whyNot (wsV RX6 65 RX6 yX6_reason wsX6_reason) := goodIn_app (goodIn_of _ (by decide +kernel)) ggX6_whyNot_X6_reason
theorem dX6_whyNot_0 : decode cX6_whyNot 0 = .ok (.iload_n 1, 1) := by decide +kernel
theorem dX6_whyNot_1 : decode cX6_whyNot 1 = .ok (.iload_n 2, 1) := by decide +kernel
theorem dX6_whyNot_2 : decode cX6_whyNot 2 = .ok (.invokestatic 62, 3) := by decide +kernel
theorem dX6_whyNot_5 : decode cX6_whyNot 5 = .ok (.ifCond .ne 7, 3) := by decide +kernel
theorem dX6_whyNot_8 : decode cX6_whyNot 8 = .ok (.iconst (-1), 1) := by decide +kernel
theorem dX6_whyNot_9 : decode cX6_whyNot 9 = .ok (.goto 24, 3) := by decide +kernel
theorem dX6_whyNot_12 : decode cX6_whyNot 12 = .ok (.iload_n 3, 1) := by decide +kernel
theorem dX6_whyNot_13 : decode cX6_whyNot 13 = .ok (.iconst 0, 1) := by decide +kernel
theorem dX6_whyNot_14 : decode cX6_whyNot 14 = .ok (.iconst 2, 1) := by decide +kernel
theorem dX6_whyNot_15 : decode cX6_whyNot 15 = .ok (.invokestatic 29, 3) := by decide +kernel
theorem dX6_whyNot_18 : decode cX6_whyNot 18 = .ok (.ifCond .eq 13, 3) := by decide +kernel
theorem dX6_whyNot_21 : decode cX6_whyNot 21 = .ok (.aload_n 0, 1) := by decide +kernel
theorem dX6_whyNot_22 : decode cX6_whyNot 22 = .ok (.iload_n 1, 1) := by decide +kernel
theorem dX6_whyNot_23 : decode cX6_whyNot 23 = .ok (.iload_n 2, 1) := by decide +kernel
theorem dX6_whyNot_24 : decode cX6_whyNot 24 = .ok (.iload_n 3, 1) := by decide +kernel
theorem dX6_whyNot_25 : decode cX6_whyNot 25 = .ok (.invokevirtual 65, 3) := by decide +kernel
theorem dX6_whyNot_28 : decode cX6_whyNot 28 = .ok (.goto 5, 3) := by decide +kernel
theorem dX6_whyNot_31 : decode cX6_whyNot 31 = .ok (.bipush (-2), 2) := by decide +kernel
theorem dX6_whyNot_33 : decode cX6_whyNot 33 = .ok (.ireturn, 1) := by decide +kernel
set_option maxRecDepth 20000 in
theorem ggX6_readableFor_X6_isCell : GoodIn wsX6_readableFor wsX6_isCell := goodIn_r _ [5, 6, 7, 4, 8] (by decide +kernel) (by decide +kernel)
set_option maxRecDepth 20000 in
theorem gX6_readableFor_X6_isCell : GoodIn wsX6_readableFor (va_wsS RX6 62 yX6_isCell wsX6_isCell) := goodIn_app (goodIn_of _ (by decide +kernel)) ggX6_readableFor_X6_isCell
set_option maxRecDepth 20000 in
theorem ggX6_readableFor_X6_cellAt : GoodIn wsX6_readableFor wsX6_cellAt := goodIn_r _ [11] (by decide +kernel) (by decide +kernel)
set_option maxRecDepth 20000 in
theorem gX6_readableFor_X6_cellAt : GoodIn wsX6_readableFor (va_wsS RX6 33 yX6_cellAt wsX6_cellAt) := goodIn_app (goodIn_of _ (by decide +kernel)) ggX6_readableFor_X6_cellAt
set_option maxRecDepth 20000 in
theorem ggX6_readableFor_X6_lossOf : GoodIn wsX6_readableFor wsX6_lossOf := goodIn_r _ [15, 1, 9, 10, 4, 11, 16, 17, 18, 19, 20, 21, 22, 23, 24, 25, 26, 27, 28, 29, 30, 31] (by decide +kernel) (by decide +kernel)
set_option maxRecDepth 20000 in
theorem gX6_readableFor_X6_lossOf : GoodIn wsX6_readableFor (wsV RX6 90 RX6 yX6_lossOf wsX6_lossOf) := goodIn_app (goodIn_of _ (by decide +kernel)) ggX6_readableFor_X6_lossOf
theorem dX6_readableFor_0 : decode cX6_readableFor 0 = .ok (.iload_n 1, 1) := by decide +kernel
theorem dX6_readableFor_1 : decode cX6_readableFor 1 = .ok (.iload_n 2, 1) := by decide +kernel
theorem dX6_readableFor_2 : decode cX6_readableFor 2 = .ok (.invokestatic 62, 3) := by decide +kernel
theorem dX6_readableFor_5 : decode cX6_readableFor 5 = .ok (.ifCond .ne 5, 3) := by decide +kernel
theorem dX6_readableFor_8 : decode cX6_readableFor 8 = .ok (.iconst (-1), 1) := by decide +kernel
theorem dX6_readableFor_9 : decode cX6_readableFor 9 = .ok (.ireturn, 1) := by decide +kernel
theorem dX6_readableFor_10 : decode cX6_readableFor 10 = .ok (.iload_n 1, 1) := by decide +kernel
theorem dX6_readableFor_11 : decode cX6_readableFor 11 = .ok (.iload_n 2, 1) := by decide +kernel
theorem dX6_readableFor_12 : decode cX6_readableFor 12 = .ok (.invokestatic 33, 3) := by decide +kernel
theorem dX6_readableFor_15 : decode cX6_readableFor 15 = .ok (.istore_n 3, 1) := by decide +kernel
theorem dX6_readableFor_16 : decode cX6_readableFor 16 = .ok (.aload_n 0, 1) := by decide +kernel
theorem dX6_readableFor_17 : decode cX6_readableFor 17 = .ok (.getfield 7, 3) := by decide +kernel
theorem dX6_readableFor_20 : decode cX6_readableFor 20 = .ok (.iload_n 3, 1) := by decide +kernel
theorem dX6_readableFor_21 : decode cX6_readableFor 21 = .ok (.iconst 2, 1) := by decide +kernel
theorem dX6_readableFor_22 : decode cX6_readableFor 22 = .ok (.iadd, 1) := by decide +kernel
theorem dX6_readableFor_23 : decode cX6_readableFor 23 = .ok (.iaload, 1) := by decide +kernel
theorem dX6_readableFor_24 : decode cX6_readableFor 24 = .ok (.ifCond .ne 6, 3) := by decide +kernel
theorem dX6_readableFor_27 : decode cX6_readableFor 27 = .ok (.bipush (-6), 2) := by decide +kernel
theorem dX6_readableFor_29 : decode cX6_readableFor 29 = .ok (.ireturn, 1) := by decide +kernel
theorem dX6_readableFor_30 : decode cX6_readableFor 30 = .ok (.aload_n 0, 1) := by decide +kernel
theorem dX6_readableFor_31 : decode cX6_readableFor 31 = .ok (.getfield 7, 3) := by decide +kernel
theorem dX6_readableFor_34 : decode cX6_readableFor 34 = .ok (.iload_n 3, 1) := by decide +kernel
theorem dX6_readableFor_35 : decode cX6_readableFor 35 = .ok (.iconst 3, 1) := by decide +kernel
theorem dX6_readableFor_36 : decode cX6_readableFor 36 = .ok (.iadd, 1) := by decide +kernel
theorem dX6_readableFor_37 : decode cX6_readableFor 37 = .ok (.iaload, 1) := by decide +kernel
theorem dX6_readableFor_38 : decode cX6_readableFor 38 = .ok (.istore 4, 2) := by decide +kernel
theorem dX6_readableFor_40 : decode cX6_readableFor 40 = .ok (.iconst 0, 1) := by decide +kernel
theorem dX6_readableFor_41 : decode cX6_readableFor 41 = .ok (.istore 5, 2) := by decide +kernel
theorem dX6_readableFor_43 : decode cX6_readableFor 43 = .ok (.iload 5, 2) := by decide +kernel
theorem dX6_readableFor_45 : decode cX6_readableFor 45 = .ok (.sipush 300, 3) := by decide +kernel
theorem dX6_readableFor_48 : decode cX6_readableFor 48 = .ok (.if_icmp .gt 31, 3) := by decide +kernel
theorem dX6_readableFor_51 : decode cX6_readableFor 51 = .ok (.iload 4, 2) := by decide +kernel
theorem dX6_readableFor_53 : decode cX6_readableFor 53 = .ok (.aload_n 0, 1) := by decide +kernel
theorem dX6_readableFor_54 : decode cX6_readableFor 54 = .ok (.getfield 7, 3) := by decide +kernel
theorem dX6_readableFor_57 : decode cX6_readableFor 57 = .ok (.iconst 0, 1) := by decide +kernel
theorem dX6_readableFor_58 : decode cX6_readableFor 58 = .ok (.iaload, 1) := by decide +kernel
theorem dX6_readableFor_59 : decode cX6_readableFor 59 = .ok (.if_icmp .lt 20, 3) := by decide +kernel
theorem dX6_readableFor_62 : decode cX6_readableFor 62 = .ok (.iload 4, 2) := by decide +kernel
theorem dX6_readableFor_64 : decode cX6_readableFor 64 = .ok (.aload_n 0, 1) := by decide +kernel
theorem dX6_readableFor_65 : decode cX6_readableFor 65 = .ok (.iload_n 1, 1) := by decide +kernel
theorem dX6_readableFor_66 : decode cX6_readableFor 66 = .ok (.iload_n 2, 1) := by decide +kernel
theorem dX6_readableFor_67 : decode cX6_readableFor 67 = .ok (.invokevirtual 90, 3) := by decide +kernel
theorem dX6_readableFor_70 : decode cX6_readableFor 70 = .ok (.isub, 1) := by decide +kernel
theorem dX6_readableFor_71 : decode cX6_readableFor 71 = .ok (.istore 4, 2) := by decide +kernel
theorem dX6_readableFor_73 : decode cX6_readableFor 73 = .ok (.iinc 5 1, 3) := by decide +kernel
theorem dX6_readableFor_76 : decode cX6_readableFor 76 = .ok (.goto (-33), 3) := by decide +kernel
theorem dX6_readableFor_79 : decode cX6_readableFor 79 = .ok (.iload 5, 2) := by decide +kernel
theorem dX6_readableFor_81 : decode cX6_readableFor 81 = .ok (.sipush 300, 3) := by decide +kernel
theorem dX6_readableFor_84 : decode cX6_readableFor 84 = .ok (.if_icmp .le 8, 3) := by decide +kernel
theorem dX6_readableFor_87 : decode cX6_readableFor 87 = .ok (.bipush (-6), 2) := by decide +kernel
theorem dX6_readableFor_89 : decode cX6_readableFor 89 = .ok (.goto 5, 3) := by decide +kernel
theorem dX6_readableFor_92 : decode cX6_readableFor 92 = .ok (.iload 5, 2) := by decide +kernel
theorem dX6_readableFor_94 : decode cX6_readableFor 94 = .ok (.ireturn, 1) := by decide +kernel
set_option maxRecDepth 20000 in
theorem ggX6_wouldPaint_X6_signAt : GoodIn wsX6_wouldPaint wsX6_signAt := goodIn_r _ [5, 6, 7, 4, 8, 9, 10, 11] (by decide +kernel) (by decide +kernel)
set_option maxRecDepth 20000 in
theorem gX6_wouldPaint_X6_signAt : GoodIn wsX6_wouldPaint (va_wsS RX6 100 yX6_signAt wsX6_signAt) := goodIn_app (goodIn_of _ (by decide +kernel)) ggX6_wouldPaint_X6_signAt
set_option maxRecDepth 20000 in
theorem ggX6_wouldPaint_X6_isWeak : GoodIn wsX6_wouldPaint wsX6_isWeak := goodIn_r _ [15, 1, 16, 17, 18, 19, 20, 21, 22, 23, 24, 25, 26, 27] (by decide +kernel) (by decide +kernel)
set_option maxRecDepth 20000 in
theorem gX6_wouldPaint_X6_isWeak : GoodIn wsX6_wouldPaint (wsV RX6 103 RX6 yX6_isWeak wsX6_isWeak) := goodIn_app (goodIn_of _ (by decide +kernel)) ggX6_wouldPaint_X6_isWeak
theorem dX6_wouldPaint_0 : decode cX6_wouldPaint 0 = .ok (.iconst 0, 1) := by decide +kernel
theorem dX6_wouldPaint_1 : decode cX6_wouldPaint 1 = .ok (.istore_n 3, 1) := by decide +kernel
theorem dX6_wouldPaint_2 : decode cX6_wouldPaint 2 = .ok (.iload_n 1, 1) := by decide +kernel
theorem dX6_wouldPaint_3 : decode cX6_wouldPaint 3 = .ok (.istore 4, 2) := by decide +kernel
theorem dX6_wouldPaint_5 : decode cX6_wouldPaint 5 = .ok (.iload 4, 2) := by decide +kernel
theorem dX6_wouldPaint_7 : decode cX6_wouldPaint 7 = .ok (.iload_n 2, 1) := by decide +kernel
theorem dX6_wouldPaint_8 : decode cX6_wouldPaint 8 = .ok (.if_icmp .gt 47, 3) := by decide +kernel
theorem dX6_wouldPaint_11 : decode cX6_wouldPaint 11 = .ok (.iconst 0, 1) := by decide +kernel
theorem dX6_wouldPaint_12 : decode cX6_wouldPaint 12 = .ok (.istore 5, 2) := by decide +kernel
theorem dX6_wouldPaint_14 : decode cX6_wouldPaint 14 = .ok (.iload 5, 2) := by decide +kernel
theorem dX6_wouldPaint_16 : decode cX6_wouldPaint 16 = .ok (.bipush 8, 2) := by decide +kernel
theorem dX6_wouldPaint_18 : decode cX6_wouldPaint 18 = .ok (.if_icmp .ge 31, 3) := by decide +kernel
theorem dX6_wouldPaint_21 : decode cX6_wouldPaint 21 = .ok (.iload_n 3, 1) := by decide +kernel
theorem dX6_wouldPaint_22 : decode cX6_wouldPaint 22 = .ok (.aload_n 0, 1) := by decide +kernel
theorem dX6_wouldPaint_23 : decode cX6_wouldPaint 23 = .ok (.iload 4, 2) := by decide +kernel
theorem dX6_wouldPaint_25 : decode cX6_wouldPaint 25 = .ok (.iload 5, 2) := by decide +kernel
theorem dX6_wouldPaint_27 : decode cX6_wouldPaint 27 = .ok (.invokestatic 100, 3) := by decide +kernel
theorem dX6_wouldPaint_30 : decode cX6_wouldPaint 30 = .ok (.invokevirtual 103, 3) := by decide +kernel
theorem dX6_wouldPaint_33 : decode cX6_wouldPaint 33 = .ok (.ifCond .eq 7, 3) := by decide +kernel
theorem dX6_wouldPaint_36 : decode cX6_wouldPaint 36 = .ok (.iconst 1, 1) := by decide +kernel
theorem dX6_wouldPaint_37 : decode cX6_wouldPaint 37 = .ok (.goto 4, 3) := by decide +kernel
theorem dX6_wouldPaint_40 : decode cX6_wouldPaint 40 = .ok (.iconst 0, 1) := by decide +kernel
theorem dX6_wouldPaint_41 : decode cX6_wouldPaint 41 = .ok (.iadd, 1) := by decide +kernel
theorem dX6_wouldPaint_42 : decode cX6_wouldPaint 42 = .ok (.istore_n 3, 1) := by decide +kernel
theorem dX6_wouldPaint_43 : decode cX6_wouldPaint 43 = .ok (.iinc 5 1, 3) := by decide +kernel
theorem dX6_wouldPaint_46 : decode cX6_wouldPaint 46 = .ok (.goto (-32), 3) := by decide +kernel
theorem dX6_wouldPaint_49 : decode cX6_wouldPaint 49 = .ok (.iinc 4 1, 3) := by decide +kernel
theorem dX6_wouldPaint_52 : decode cX6_wouldPaint 52 = .ok (.goto (-47), 3) := by decide +kernel
theorem dX6_wouldPaint_55 : decode cX6_wouldPaint 55 = .ok (.aload_n 0, 1) := by decide +kernel
theorem dX6_wouldPaint_56 : decode cX6_wouldPaint 56 = .ok (.getfield 7, 3) := by decide +kernel
theorem dX6_wouldPaint_59 : decode cX6_wouldPaint 59 = .ok (.iconst 5, 1) := by decide +kernel
theorem dX6_wouldPaint_60 : decode cX6_wouldPaint 60 = .ok (.iaload, 1) := by decide +kernel
theorem dX6_wouldPaint_61 : decode cX6_wouldPaint 61 = .ok (.aload_n 0, 1) := by decide +kernel
theorem dX6_wouldPaint_62 : decode cX6_wouldPaint 62 = .ok (.getfield 7, 3) := by decide +kernel
theorem dX6_wouldPaint_65 : decode cX6_wouldPaint 65 = .ok (.iconst 1, 1) := by decide +kernel
theorem dX6_wouldPaint_66 : decode cX6_wouldPaint 66 = .ok (.iaload, 1) := by decide +kernel
theorem dX6_wouldPaint_67 : decode cX6_wouldPaint 67 = .ok (.if_icmp .ge 12, 3) := by decide +kernel
theorem dX6_wouldPaint_70 : decode cX6_wouldPaint 70 = .ok (.aload_n 0, 1) := by decide +kernel
theorem dX6_wouldPaint_71 : decode cX6_wouldPaint 71 = .ok (.getfield 7, 3) := by decide +kernel
theorem dX6_wouldPaint_74 : decode cX6_wouldPaint 74 = .ok (.iconst 5, 1) := by decide +kernel
theorem dX6_wouldPaint_75 : decode cX6_wouldPaint 75 = .ok (.iaload, 1) := by decide +kernel
theorem dX6_wouldPaint_76 : decode cX6_wouldPaint 76 = .ok (.goto 9, 3) := by decide +kernel
theorem dX6_wouldPaint_79 : decode cX6_wouldPaint 79 = .ok (.aload_n 0, 1) := by decide +kernel
theorem dX6_wouldPaint_80 : decode cX6_wouldPaint 80 = .ok (.getfield 7, 3) := by decide +kernel
theorem dX6_wouldPaint_83 : decode cX6_wouldPaint 83 = .ok (.iconst 1, 1) := by decide +kernel
theorem dX6_wouldPaint_84 : decode cX6_wouldPaint 84 = .ok (.iaload, 1) := by decide +kernel
theorem dX6_wouldPaint_85 : decode cX6_wouldPaint 85 = .ok (.istore 4, 2) := by decide +kernel
theorem dX6_wouldPaint_87 : decode cX6_wouldPaint 87 = .ok (.iload_n 3, 1) := by decide +kernel
theorem dX6_wouldPaint_88 : decode cX6_wouldPaint 88 = .ok (.iload 4, 2) := by decide +kernel
theorem dX6_wouldPaint_90 : decode cX6_wouldPaint 90 = .ok (.if_icmp .ge 7, 3) := by decide +kernel
theorem dX6_wouldPaint_93 : decode cX6_wouldPaint 93 = .ok (.iload_n 3, 1) := by decide +kernel
theorem dX6_wouldPaint_94 : decode cX6_wouldPaint 94 = .ok (.goto 5, 3) := by decide +kernel
theorem dX6_wouldPaint_97 : decode cX6_wouldPaint 97 = .ok (.iload 4, 2) := by decide +kernel
theorem dX6_wouldPaint_99 : decode cX6_wouldPaint 99 = .ok (.ireturn, 1) := by decide +kernel
set_option maxRecDepth 20000 in
theorem ggX6_bestNight_X6_in : GoodIn wsX6_bestNight wsX6_in := goodIn_r _ [5] (by decide +kernel) (by decide +kernel)
set_option maxRecDepth 20000 in
theorem gX6_bestNight_X6_in : GoodIn wsX6_bestNight (va_wsS RX6 29 yX6_in wsX6_in) := goodIn_app (goodIn_of _ (by decide +kernel)) ggX6_bestNight_X6_in
set_option maxRecDepth 20000 in
theorem ggX6_bestNight_X6_wouldPaint : GoodIn wsX6_bestNight wsX6_wouldPaint := goodIn_r _ [9, 1, 10, 11, 4, 12, 13, 14, 15, 16, 17, 18, 19, 20, 21, 22, 23, 24, 25, 26, 27, 28, 29, 30, 31, 32, 33, 34] (by decide +kernel) (by decide +kernel)
set_option maxRecDepth 20000 in
theorem gX6_bestNight_X6_wouldPaint : GoodIn wsX6_bestNight (wsV RX6 129 RX6 yX6_wouldPaint wsX6_wouldPaint) := goodIn_app (goodIn_of _ (by decide +kernel)) ggX6_bestNight_X6_wouldPaint
theorem dX6_bestNight_0 : decode cX6_bestNight 0 = .ok (.aload_n 0, 1) := by decide +kernel
theorem dX6_bestNight_1 : decode cX6_bestNight 1 = .ok (.getfield 7, 3) := by decide +kernel
theorem dX6_bestNight_4 : decode cX6_bestNight 4 = .ok (.iconst 5, 1) := by decide +kernel
theorem dX6_bestNight_5 : decode cX6_bestNight 5 = .ok (.iaload, 1) := by decide +kernel
theorem dX6_bestNight_6 : decode cX6_bestNight 6 = .ok (.ifCond .ne 6, 3) := by decide +kernel
theorem dX6_bestNight_9 : decode cX6_bestNight 9 = .ok (.bipush (-3), 2) := by decide +kernel
theorem dX6_bestNight_11 : decode cX6_bestNight 11 = .ok (.ireturn, 1) := by decide +kernel
theorem dX6_bestNight_12 : decode cX6_bestNight 12 = .ok (.bipush (-6), 2) := by decide +kernel
theorem dX6_bestNight_14 : decode cX6_bestNight 14 = .ok (.istore_n 1, 1) := by decide +kernel
theorem dX6_bestNight_15 : decode cX6_bestNight 15 = .ok (.iconst 0, 1) := by decide +kernel
theorem dX6_bestNight_16 : decode cX6_bestNight 16 = .ok (.istore_n 2, 1) := by decide +kernel
theorem dX6_bestNight_17 : decode cX6_bestNight 17 = .ok (.iconst 0, 1) := by decide +kernel
theorem dX6_bestNight_18 : decode cX6_bestNight 18 = .ok (.istore_n 3, 1) := by decide +kernel
theorem dX6_bestNight_19 : decode cX6_bestNight 19 = .ok (.iload_n 3, 1) := by decide +kernel
theorem dX6_bestNight_20 : decode cX6_bestNight 20 = .ok (.bipush 16, 2) := by decide +kernel
theorem dX6_bestNight_22 : decode cX6_bestNight 22 = .ok (.if_icmp .ge 136, 3) := by decide +kernel
theorem dX6_bestNight_25 : decode cX6_bestNight 25 = .ok (.iconst 0, 1) := by decide +kernel
theorem dX6_bestNight_26 : decode cX6_bestNight 26 = .ok (.istore 4, 2) := by decide +kernel
theorem dX6_bestNight_28 : decode cX6_bestNight 28 = .ok (.iload 4, 2) := by decide +kernel
theorem dX6_bestNight_30 : decode cX6_bestNight 30 = .ok (.bipush 16, 2) := by decide +kernel
theorem dX6_bestNight_32 : decode cX6_bestNight 32 = .ok (.if_icmp .ge 120, 3) := by decide +kernel
theorem dX6_bestNight_35 : decode cX6_bestNight 35 = .ok (.iload 4, 2) := by decide +kernel
theorem dX6_bestNight_37 : decode cX6_bestNight 37 = .ok (.iload_n 3, 1) := by decide +kernel
theorem dX6_bestNight_38 : decode cX6_bestNight 38 = .ok (.isub, 1) := by decide +kernel
theorem dX6_bestNight_39 : decode cX6_bestNight 39 = .ok (.istore 5, 2) := by decide +kernel
theorem dX6_bestNight_41 : decode cX6_bestNight 41 = .ok (.iload 5, 2) := by decide +kernel
theorem dX6_bestNight_43 : decode cX6_bestNight 43 = .ok (.iload 4, 2) := by decide +kernel
theorem dX6_bestNight_45 : decode cX6_bestNight 45 = .ok (.iload_n 3, 1) := by decide +kernel
theorem dX6_bestNight_46 : decode cX6_bestNight 46 = .ok (.iadd, 1) := by decide +kernel
theorem dX6_bestNight_47 : decode cX6_bestNight 47 = .ok (.if_icmp .gt 99, 3) := by decide +kernel
theorem dX6_bestNight_50 : decode cX6_bestNight 50 = .ok (.iload 5, 2) := by decide +kernel
theorem dX6_bestNight_52 : decode cX6_bestNight 52 = .ok (.iconst 0, 1) := by decide +kernel
theorem dX6_bestNight_53 : decode cX6_bestNight 53 = .ok (.bipush 15, 2) := by decide +kernel
theorem dX6_bestNight_55 : decode cX6_bestNight 55 = .ok (.invokestatic 29, 3) := by decide +kernel
theorem dX6_bestNight_58 : decode cX6_bestNight 58 = .ok (.ifCond .eq 69, 3) := by decide +kernel
theorem dX6_bestNight_61 : decode cX6_bestNight 61 = .ok (.aload_n 0, 1) := by decide +kernel
theorem dX6_bestNight_62 : decode cX6_bestNight 62 = .ok (.iload 4, 2) := by decide +kernel
theorem dX6_bestNight_64 : decode cX6_bestNight 64 = .ok (.iload 5, 2) := by decide +kernel
theorem dX6_bestNight_66 : decode cX6_bestNight 66 = .ok (.if_icmp .ge 8, 3) := by decide +kernel
theorem dX6_bestNight_69 : decode cX6_bestNight 69 = .ok (.iload 4, 2) := by decide +kernel
theorem dX6_bestNight_71 : decode cX6_bestNight 71 = .ok (.goto 5, 3) := by decide +kernel
theorem dX6_bestNight_74 : decode cX6_bestNight 74 = .ok (.iload 5, 2) := by decide +kernel
theorem dX6_bestNight_76 : decode cX6_bestNight 76 = .ok (.iload 4, 2) := by decide +kernel
theorem dX6_bestNight_78 : decode cX6_bestNight 78 = .ok (.iload 5, 2) := by decide +kernel
theorem dX6_bestNight_80 : decode cX6_bestNight 80 = .ok (.if_icmp .ge 8, 3) := by decide +kernel
theorem dX6_bestNight_83 : decode cX6_bestNight 83 = .ok (.iload 5, 2) := by decide +kernel
theorem dX6_bestNight_85 : decode cX6_bestNight 85 = .ok (.goto 5, 3) := by decide +kernel
theorem dX6_bestNight_88 : decode cX6_bestNight 88 = .ok (.iload 4, 2) := by decide +kernel
theorem dX6_bestNight_90 : decode cX6_bestNight 90 = .ok (.invokevirtual 129, 3) := by decide +kernel
theorem dX6_bestNight_93 : decode cX6_bestNight 93 = .ok (.istore 6, 2) := by decide +kernel
theorem dX6_bestNight_95 : decode cX6_bestNight 95 = .ok (.iload 6, 2) := by decide +kernel
theorem dX6_bestNight_97 : decode cX6_bestNight 97 = .ok (.iload_n 2, 1) := by decide +kernel
theorem dX6_bestNight_98 : decode cX6_bestNight 98 = .ok (.if_icmp .le 14, 3) := by decide +kernel
theorem dX6_bestNight_101 : decode cX6_bestNight 101 = .ok (.bipush 16, 2) := by decide +kernel
theorem dX6_bestNight_103 : decode cX6_bestNight 103 = .ok (.iload 4, 2) := by decide +kernel
theorem dX6_bestNight_105 : decode cX6_bestNight 105 = .ok (.imul, 1) := by decide +kernel
theorem dX6_bestNight_106 : decode cX6_bestNight 106 = .ok (.iload 5, 2) := by decide +kernel
theorem dX6_bestNight_108 : decode cX6_bestNight 108 = .ok (.iadd, 1) := by decide +kernel
theorem dX6_bestNight_109 : decode cX6_bestNight 109 = .ok (.goto 4, 3) := by decide +kernel
theorem dX6_bestNight_112 : decode cX6_bestNight 112 = .ok (.iload_n 1, 1) := by decide +kernel
theorem dX6_bestNight_113 : decode cX6_bestNight 113 = .ok (.istore_n 1, 1) := by decide +kernel
theorem dX6_bestNight_114 : decode cX6_bestNight 114 = .ok (.iload 6, 2) := by decide +kernel
theorem dX6_bestNight_116 : decode cX6_bestNight 116 = .ok (.iload_n 2, 1) := by decide +kernel
theorem dX6_bestNight_117 : decode cX6_bestNight 117 = .ok (.if_icmp .le 8, 3) := by decide +kernel
theorem dX6_bestNight_120 : decode cX6_bestNight 120 = .ok (.iload 6, 2) := by decide +kernel
theorem dX6_bestNight_122 : decode cX6_bestNight 122 = .ok (.goto 4, 3) := by decide +kernel
theorem dX6_bestNight_125 : decode cX6_bestNight 125 = .ok (.iload_n 2, 1) := by decide +kernel
theorem dX6_bestNight_126 : decode cX6_bestNight 126 = .ok (.istore_n 2, 1) := by decide +kernel
theorem dX6_bestNight_127 : decode cX6_bestNight 127 = .ok (.iload 5, 2) := by decide +kernel
theorem dX6_bestNight_129 : decode cX6_bestNight 129 = .ok (.iload_n 3, 1) := by decide +kernel
theorem dX6_bestNight_130 : decode cX6_bestNight 130 = .ok (.ifCond .ne 7, 3) := by decide +kernel
theorem dX6_bestNight_133 : decode cX6_bestNight 133 = .ok (.iconst 1, 1) := by decide +kernel
theorem dX6_bestNight_134 : decode cX6_bestNight 134 = .ok (.goto 6, 3) := by decide +kernel
theorem dX6_bestNight_137 : decode cX6_bestNight 137 = .ok (.iconst 2, 1) := by decide +kernel
theorem dX6_bestNight_138 : decode cX6_bestNight 138 = .ok (.iload_n 3, 1) := by decide +kernel
theorem dX6_bestNight_139 : decode cX6_bestNight 139 = .ok (.imul, 1) := by decide +kernel
theorem dX6_bestNight_140 : decode cX6_bestNight 140 = .ok (.iadd, 1) := by decide +kernel
theorem dX6_bestNight_141 : decode cX6_bestNight 141 = .ok (.istore 5, 2) := by decide +kernel
theorem dX6_bestNight_143 : decode cX6_bestNight 143 = .ok (.goto (-102), 3) := by decide +kernel
theorem dX6_bestNight_146 : decode cX6_bestNight 146 = .ok (.iinc 4 1, 3) := by decide +kernel
theorem dX6_bestNight_149 : decode cX6_bestNight 149 = .ok (.goto (-121), 3) := by decide +kernel
theorem dX6_bestNight_152 : decode cX6_bestNight 152 = .ok (.iinc 3 1, 3) := by decide +kernel
theorem dX6_bestNight_155 : decode cX6_bestNight 155 = .ok (.goto (-136), 3) := by decide +kernel
theorem dX6_bestNight_158 : decode cX6_bestNight 158 = .ok (.iload_n 1, 1) := by decide +kernel
theorem dX6_bestNight_159 : decode cX6_bestNight 159 = .ok (.ireturn, 1) := by decide +kernel
set_option maxRecDepth 20000 in
theorem ggX6_fewestChanges_X6_in : GoodIn wsX6_fewestChanges wsX6_in := goodIn_r _ [5] (by decide +kernel) (by decide +kernel)
set_option maxRecDepth 20000 in
theorem gX6_fewestChanges_X6_in : GoodIn wsX6_fewestChanges (va_wsS RX6 29 yX6_in wsX6_in) := goodIn_app (goodIn_of _ (by decide +kernel)) ggX6_fewestChanges_X6_in
set_option maxRecDepth 20000 in
theorem ggX6_fewestChanges_X6_isFree : GoodIn wsX6_fewestChanges wsX6_isFree := goodIn_r _ [9, 10, 11, 12, 4, 13, 14, 15, 16, 17, 25, 26, 27, 28, 29, 30, 31, 32, 33, 34, 35, 36] (by decide +kernel) (by decide +kernel)
set_option maxRecDepth 20000 in
theorem gX6_fewestChanges_X6_isFree : GoodIn wsX6_fewestChanges (wsV RX6 113 RX6 yX6_isFree wsX6_isFree) := goodIn_app (goodIn_of _ (by decide +kernel)) ggX6_fewestChanges_X6_isFree
set_option maxRecDepth 20000 in
theorem ggX6_fewestChanges_X6_canChange : GoodIn wsX6_fewestChanges wsX6_canChange := goodIn_r _ [21, 14, 22, 23, 4, 24, 6, 7, 8, 9, 10, 11, 12, 13, 15, 16, 17, 25, 26, 27, 28, 29, 30, 31, 32, 33, 34, 35, 36] (by decide +kernel) (by decide +kernel)
set_option maxRecDepth 20000 in
theorem gX6_fewestChanges_X6_canChange : GoodIn wsX6_fewestChanges (wsV RX6 116 RX6 yX6_canChange wsX6_canChange) := goodIn_app (goodIn_of _ (by decide +kernel)) ggX6_fewestChanges_X6_canChange
theorem dX6_fewestChanges_0 : decode cX6_fewestChanges 0 = .ok (.iload_n 2, 1) := by decide +kernel
theorem dX6_fewestChanges_1 : decode cX6_fewestChanges 1 = .ok (.iconst 0, 1) := by decide +kernel
theorem dX6_fewestChanges_2 : decode cX6_fewestChanges 2 = .ok (.iconst 2, 1) := by decide +kernel
theorem dX6_fewestChanges_3 : decode cX6_fewestChanges 3 = .ok (.invokestatic 29, 3) := by decide +kernel
theorem dX6_fewestChanges_6 : decode cX6_fewestChanges 6 = .ok (.ifCond .ne 5, 3) := by decide +kernel
theorem dX6_fewestChanges_9 : decode cX6_fewestChanges 9 = .ok (.iconst (-1), 1) := by decide +kernel
theorem dX6_fewestChanges_10 : decode cX6_fewestChanges 10 = .ok (.ireturn, 1) := by decide +kernel
theorem dX6_fewestChanges_11 : decode cX6_fewestChanges 11 = .ok (.iload_n 1, 1) := by decide +kernel
theorem dX6_fewestChanges_12 : decode cX6_fewestChanges 12 = .ok (.iconst 0, 1) := by decide +kernel
theorem dX6_fewestChanges_13 : decode cX6_fewestChanges 13 = .ok (.iconst 1, 1) := by decide +kernel
theorem dX6_fewestChanges_14 : decode cX6_fewestChanges 14 = .ok (.invokestatic 29, 3) := by decide +kernel
theorem dX6_fewestChanges_17 : decode cX6_fewestChanges 17 = .ok (.ifCond .ne 6, 3) := by decide +kernel
theorem dX6_fewestChanges_20 : decode cX6_fewestChanges 20 = .ok (.bipush (-2), 2) := by decide +kernel
theorem dX6_fewestChanges_22 : decode cX6_fewestChanges 22 = .ok (.ireturn, 1) := by decide +kernel
theorem dX6_fewestChanges_23 : decode cX6_fewestChanges 23 = .ok (.iconst 0, 1) := by decide +kernel
theorem dX6_fewestChanges_24 : decode cX6_fewestChanges 24 = .ok (.istore_n 3, 1) := by decide +kernel
theorem dX6_fewestChanges_25 : decode cX6_fewestChanges 25 = .ok (.iload_n 3, 1) := by decide +kernel
theorem dX6_fewestChanges_26 : decode cX6_fewestChanges 26 = .ok (.iconst 3, 1) := by decide +kernel
theorem dX6_fewestChanges_27 : decode cX6_fewestChanges 27 = .ok (.if_icmp .ge 26, 3) := by decide +kernel
theorem dX6_fewestChanges_30 : decode cX6_fewestChanges 30 = .ok (.aload_n 0, 1) := by decide +kernel
theorem dX6_fewestChanges_31 : decode cX6_fewestChanges 31 = .ok (.getfield 23, 3) := by decide +kernel
theorem dX6_fewestChanges_34 : decode cX6_fewestChanges 34 = .ok (.iload_n 3, 1) := by decide +kernel
theorem dX6_fewestChanges_35 : decode cX6_fewestChanges 35 = .ok (.iload_n 3, 1) := by decide +kernel
theorem dX6_fewestChanges_36 : decode cX6_fewestChanges 36 = .ok (.iload_n 2, 1) := by decide +kernel
theorem dX6_fewestChanges_37 : decode cX6_fewestChanges 37 = .ok (.if_icmp .ne 7, 3) := by decide +kernel
theorem dX6_fewestChanges_40 : decode cX6_fewestChanges 40 = .ok (.iconst 0, 1) := by decide +kernel
theorem dX6_fewestChanges_41 : decode cX6_fewestChanges 41 = .ok (.goto 5, 3) := by decide +kernel
theorem dX6_fewestChanges_44 : decode cX6_fewestChanges 44 = .ok (.bipush (-6), 2) := by decide +kernel
theorem dX6_fewestChanges_46 : decode cX6_fewestChanges 46 = .ok (.iastore, 1) := by decide +kernel
theorem dX6_fewestChanges_47 : decode cX6_fewestChanges 47 = .ok (.iinc 3 1, 3) := by decide +kernel
theorem dX6_fewestChanges_50 : decode cX6_fewestChanges 50 = .ok (.goto (-25), 3) := by decide +kernel
theorem dX6_fewestChanges_53 : decode cX6_fewestChanges 53 = .ok (.iconst 0, 1) := by decide +kernel
theorem dX6_fewestChanges_54 : decode cX6_fewestChanges 54 = .ok (.istore_n 3, 1) := by decide +kernel
theorem dX6_fewestChanges_55 : decode cX6_fewestChanges 55 = .ok (.iload_n 3, 1) := by decide +kernel
theorem dX6_fewestChanges_56 : decode cX6_fewestChanges 56 = .ok (.bipush 16, 2) := by decide +kernel
theorem dX6_fewestChanges_58 : decode cX6_fewestChanges 58 = .ok (.if_icmp .ge 215, 3) := by decide +kernel
theorem dX6_fewestChanges_61 : decode cX6_fewestChanges 61 = .ok (.iload_n 1, 1) := by decide +kernel
theorem dX6_fewestChanges_62 : decode cX6_fewestChanges 62 = .ok (.ifCond .ne 7, 3) := by decide +kernel
theorem dX6_fewestChanges_65 : decode cX6_fewestChanges 65 = .ok (.iload_n 3, 1) := by decide +kernel
theorem dX6_fewestChanges_66 : decode cX6_fewestChanges 66 = .ok (.goto 7, 3) := by decide +kernel
theorem dX6_fewestChanges_69 : decode cX6_fewestChanges 69 = .ok (.bipush 15, 2) := by decide +kernel
theorem dX6_fewestChanges_71 : decode cX6_fewestChanges 71 = .ok (.iload_n 3, 1) := by decide +kernel
theorem dX6_fewestChanges_72 : decode cX6_fewestChanges 72 = .ok (.isub, 1) := by decide +kernel
theorem dX6_fewestChanges_73 : decode cX6_fewestChanges 73 = .ok (.istore 4, 2) := by decide +kernel
theorem dX6_fewestChanges_75 : decode cX6_fewestChanges 75 = .ok (.iconst 0, 1) := by decide +kernel
theorem dX6_fewestChanges_76 : decode cX6_fewestChanges 76 = .ok (.istore 5, 2) := by decide +kernel
theorem dX6_fewestChanges_78 : decode cX6_fewestChanges 78 = .ok (.iload 5, 2) := by decide +kernel
theorem dX6_fewestChanges_80 : decode cX6_fewestChanges 80 = .ok (.iconst 3, 1) := by decide +kernel
theorem dX6_fewestChanges_81 : decode cX6_fewestChanges 81 = .ok (.if_icmp .ge 40, 3) := by decide +kernel
theorem dX6_fewestChanges_84 : decode cX6_fewestChanges 84 = .ok (.aload_n 0, 1) := by decide +kernel
theorem dX6_fewestChanges_85 : decode cX6_fewestChanges 85 = .ok (.getfield 23, 3) := by decide +kernel
theorem dX6_fewestChanges_88 : decode cX6_fewestChanges 88 = .ok (.iload 5, 2) := by decide +kernel
theorem dX6_fewestChanges_90 : decode cX6_fewestChanges 90 = .ok (.aload_n 0, 1) := by decide +kernel
theorem dX6_fewestChanges_91 : decode cX6_fewestChanges 91 = .ok (.iload 5, 2) := by decide +kernel
theorem dX6_fewestChanges_93 : decode cX6_fewestChanges 93 = .ok (.iload 4, 2) := by decide +kernel
theorem dX6_fewestChanges_95 : decode cX6_fewestChanges 95 = .ok (.iload_n 1, 1) := by decide +kernel
theorem dX6_fewestChanges_96 : decode cX6_fewestChanges 96 = .ok (.invokevirtual 113, 3) := by decide +kernel
theorem dX6_fewestChanges_99 : decode cX6_fewestChanges 99 = .ok (.ifCond .eq 13, 3) := by decide +kernel
theorem dX6_fewestChanges_102 : decode cX6_fewestChanges 102 = .ok (.aload_n 0, 1) := by decide +kernel
theorem dX6_fewestChanges_103 : decode cX6_fewestChanges 103 = .ok (.getfield 23, 3) := by decide +kernel
theorem dX6_fewestChanges_106 : decode cX6_fewestChanges 106 = .ok (.iload 5, 2) := by decide +kernel
theorem dX6_fewestChanges_108 : decode cX6_fewestChanges 108 = .ok (.iaload, 1) := by decide +kernel
theorem dX6_fewestChanges_109 : decode cX6_fewestChanges 109 = .ok (.goto 5, 3) := by decide +kernel
theorem dX6_fewestChanges_112 : decode cX6_fewestChanges 112 = .ok (.bipush (-6), 2) := by decide +kernel
theorem dX6_fewestChanges_114 : decode cX6_fewestChanges 114 = .ok (.iastore, 1) := by decide +kernel
theorem dX6_fewestChanges_115 : decode cX6_fewestChanges 115 = .ok (.iinc 5 1, 3) := by decide +kernel
theorem dX6_fewestChanges_118 : decode cX6_fewestChanges 118 = .ok (.goto (-40), 3) := by decide +kernel
theorem dX6_fewestChanges_121 : decode cX6_fewestChanges 121 = .ok (.iconst 0, 1) := by decide +kernel
theorem dX6_fewestChanges_122 : decode cX6_fewestChanges 122 = .ok (.istore 5, 2) := by decide +kernel
theorem dX6_fewestChanges_124 : decode cX6_fewestChanges 124 = .ok (.iload 5, 2) := by decide +kernel
theorem dX6_fewestChanges_126 : decode cX6_fewestChanges 126 = .ok (.iconst 3, 1) := by decide +kernel
theorem dX6_fewestChanges_127 : decode cX6_fewestChanges 127 = .ok (.if_icmp .ge 140, 3) := by decide +kernel
theorem dX6_fewestChanges_130 : decode cX6_fewestChanges 130 = .ok (.iconst 0, 1) := by decide +kernel
theorem dX6_fewestChanges_131 : decode cX6_fewestChanges 131 = .ok (.istore 6, 2) := by decide +kernel
theorem dX6_fewestChanges_133 : decode cX6_fewestChanges 133 = .ok (.iload 6, 2) := by decide +kernel
theorem dX6_fewestChanges_135 : decode cX6_fewestChanges 135 = .ok (.iconst 3, 1) := by decide +kernel
theorem dX6_fewestChanges_136 : decode cX6_fewestChanges 136 = .ok (.if_icmp .ge 125, 3) := by decide +kernel
theorem dX6_fewestChanges_139 : decode cX6_fewestChanges 139 = .ok (.iload 6, 2) := by decide +kernel
theorem dX6_fewestChanges_141 : decode cX6_fewestChanges 141 = .ok (.iconst 1, 1) := by decide +kernel
theorem dX6_fewestChanges_142 : decode cX6_fewestChanges 142 = .ok (.isub, 1) := by decide +kernel
theorem dX6_fewestChanges_143 : decode cX6_fewestChanges 143 = .ok (.istore 7, 2) := by decide +kernel
theorem dX6_fewestChanges_145 : decode cX6_fewestChanges 145 = .ok (.iload 7, 2) := by decide +kernel
theorem dX6_fewestChanges_147 : decode cX6_fewestChanges 147 = .ok (.iload 6, 2) := by decide +kernel
theorem dX6_fewestChanges_149 : decode cX6_fewestChanges 149 = .ok (.iconst 1, 1) := by decide +kernel
theorem dX6_fewestChanges_150 : decode cX6_fewestChanges 150 = .ok (.iadd, 1) := by decide +kernel
theorem dX6_fewestChanges_151 : decode cX6_fewestChanges 151 = .ok (.if_icmp .gt 104, 3) := by decide +kernel
theorem dX6_fewestChanges_154 : decode cX6_fewestChanges 154 = .ok (.iload 7, 2) := by decide +kernel
theorem dX6_fewestChanges_156 : decode cX6_fewestChanges 156 = .ok (.iconst 0, 1) := by decide +kernel
theorem dX6_fewestChanges_157 : decode cX6_fewestChanges 157 = .ok (.iconst 2, 1) := by decide +kernel
theorem dX6_fewestChanges_158 : decode cX6_fewestChanges 158 = .ok (.invokestatic 29, 3) := by decide +kernel
theorem dX6_fewestChanges_161 : decode cX6_fewestChanges 161 = .ok (.ifCond .eq 33, 3) := by decide +kernel
theorem dX6_fewestChanges_164 : decode cX6_fewestChanges 164 = .ok (.aload_n 0, 1) := by decide +kernel
theorem dX6_fewestChanges_165 : decode cX6_fewestChanges 165 = .ok (.getfield 23, 3) := by decide +kernel
theorem dX6_fewestChanges_168 : decode cX6_fewestChanges 168 = .ok (.iload 6, 2) := by decide +kernel
theorem dX6_fewestChanges_170 : decode cX6_fewestChanges 170 = .ok (.iaload, 1) := by decide +kernel
theorem dX6_fewestChanges_171 : decode cX6_fewestChanges 171 = .ok (.bipush (-6), 2) := by decide +kernel
theorem dX6_fewestChanges_173 : decode cX6_fewestChanges 173 = .ok (.if_icmp .eq 21, 3) := by decide +kernel
theorem dX6_fewestChanges_176 : decode cX6_fewestChanges 176 = .ok (.aload_n 0, 1) := by decide +kernel
theorem dX6_fewestChanges_177 : decode cX6_fewestChanges 177 = .ok (.iload 6, 2) := by decide +kernel
theorem dX6_fewestChanges_179 : decode cX6_fewestChanges 179 = .ok (.iload 7, 2) := by decide +kernel
theorem dX6_fewestChanges_181 : decode cX6_fewestChanges 181 = .ok (.iload 4, 2) := by decide +kernel
theorem dX6_fewestChanges_183 : decode cX6_fewestChanges 183 = .ok (.iload_n 1, 1) := by decide +kernel
theorem dX6_fewestChanges_184 : decode cX6_fewestChanges 184 = .ok (.invokevirtual 116, 3) := by decide +kernel
theorem dX6_fewestChanges_187 : decode cX6_fewestChanges 187 = .ok (.ifCond .eq 7, 3) := by decide +kernel
theorem dX6_fewestChanges_190 : decode cX6_fewestChanges 190 = .ok (.iconst 1, 1) := by decide +kernel
theorem dX6_fewestChanges_191 : decode cX6_fewestChanges 191 = .ok (.goto 4, 3) := by decide +kernel
theorem dX6_fewestChanges_194 : decode cX6_fewestChanges 194 = .ok (.iconst 0, 1) := by decide +kernel
theorem dX6_fewestChanges_195 : decode cX6_fewestChanges 195 = .ok (.istore 8, 2) := by decide +kernel
theorem dX6_fewestChanges_197 : decode cX6_fewestChanges 197 = .ok (.iload 8, 2) := by decide +kernel
theorem dX6_fewestChanges_199 : decode cX6_fewestChanges 199 = .ok (.ifCond .eq 50, 3) := by decide +kernel
theorem dX6_fewestChanges_202 : decode cX6_fewestChanges 202 = .ok (.aload_n 0, 1) := by decide +kernel
theorem dX6_fewestChanges_203 : decode cX6_fewestChanges 203 = .ok (.getfield 23, 3) := by decide +kernel
theorem dX6_fewestChanges_206 : decode cX6_fewestChanges 206 = .ok (.iload 7, 2) := by decide +kernel
theorem dX6_fewestChanges_208 : decode cX6_fewestChanges 208 = .ok (.iaload, 1) := by decide +kernel
theorem dX6_fewestChanges_209 : decode cX6_fewestChanges 209 = .ok (.bipush (-6), 2) := by decide +kernel
theorem dX6_fewestChanges_211 : decode cX6_fewestChanges 211 = .ok (.if_icmp .eq 22, 3) := by decide +kernel
theorem dX6_fewestChanges_214 : decode cX6_fewestChanges 214 = .ok (.aload_n 0, 1) := by decide +kernel
theorem dX6_fewestChanges_215 : decode cX6_fewestChanges 215 = .ok (.getfield 23, 3) := by decide +kernel
theorem dX6_fewestChanges_218 : decode cX6_fewestChanges 218 = .ok (.iload 6, 2) := by decide +kernel
theorem dX6_fewestChanges_220 : decode cX6_fewestChanges 220 = .ok (.iaload, 1) := by decide +kernel
theorem dX6_fewestChanges_221 : decode cX6_fewestChanges 221 = .ok (.iconst 1, 1) := by decide +kernel
theorem dX6_fewestChanges_222 : decode cX6_fewestChanges 222 = .ok (.iadd, 1) := by decide +kernel
theorem dX6_fewestChanges_223 : decode cX6_fewestChanges 223 = .ok (.aload_n 0, 1) := by decide +kernel
theorem dX6_fewestChanges_224 : decode cX6_fewestChanges 224 = .ok (.getfield 23, 3) := by decide +kernel
theorem dX6_fewestChanges_227 : decode cX6_fewestChanges 227 = .ok (.iload 7, 2) := by decide +kernel
theorem dX6_fewestChanges_229 : decode cX6_fewestChanges 229 = .ok (.iaload, 1) := by decide +kernel
theorem dX6_fewestChanges_230 : decode cX6_fewestChanges 230 = .ok (.if_icmp .ge 19, 3) := by decide +kernel
theorem dX6_fewestChanges_233 : decode cX6_fewestChanges 233 = .ok (.aload_n 0, 1) := by decide +kernel
theorem dX6_fewestChanges_234 : decode cX6_fewestChanges 234 = .ok (.getfield 23, 3) := by decide +kernel
theorem dX6_fewestChanges_237 : decode cX6_fewestChanges 237 = .ok (.iload 7, 2) := by decide +kernel
theorem dX6_fewestChanges_239 : decode cX6_fewestChanges 239 = .ok (.aload_n 0, 1) := by decide +kernel
theorem dX6_fewestChanges_240 : decode cX6_fewestChanges 240 = .ok (.getfield 23, 3) := by decide +kernel
theorem dX6_fewestChanges_243 : decode cX6_fewestChanges 243 = .ok (.iload 6, 2) := by decide +kernel
theorem dX6_fewestChanges_245 : decode cX6_fewestChanges 245 = .ok (.iaload, 1) := by decide +kernel
theorem dX6_fewestChanges_246 : decode cX6_fewestChanges 246 = .ok (.iconst 1, 1) := by decide +kernel
theorem dX6_fewestChanges_247 : decode cX6_fewestChanges 247 = .ok (.iadd, 1) := by decide +kernel
theorem dX6_fewestChanges_248 : decode cX6_fewestChanges 248 = .ok (.iastore, 1) := by decide +kernel
theorem dX6_fewestChanges_249 : decode cX6_fewestChanges 249 = .ok (.iinc 7 2, 3) := by decide +kernel
theorem dX6_fewestChanges_252 : decode cX6_fewestChanges 252 = .ok (.goto (-107), 3) := by decide +kernel
theorem dX6_fewestChanges_255 : decode cX6_fewestChanges 255 = .ok (.iinc 6 1, 3) := by decide +kernel
theorem dX6_fewestChanges_258 : decode cX6_fewestChanges 258 = .ok (.goto (-125), 3) := by decide +kernel
theorem dX6_fewestChanges_261 : decode cX6_fewestChanges 261 = .ok (.iinc 5 1, 3) := by decide +kernel
theorem dX6_fewestChanges_264 : decode cX6_fewestChanges 264 = .ok (.goto (-140), 3) := by decide +kernel
theorem dX6_fewestChanges_267 : decode cX6_fewestChanges 267 = .ok (.iinc 3 1, 3) := by decide +kernel
theorem dX6_fewestChanges_270 : decode cX6_fewestChanges 270 = .ok (.goto (-215), 3) := by decide +kernel
theorem dX6_fewestChanges_273 : decode cX6_fewestChanges 273 = .ok (.bipush (-6), 2) := by decide +kernel
theorem dX6_fewestChanges_275 : decode cX6_fewestChanges 275 = .ok (.istore_n 3, 1) := by decide +kernel
theorem dX6_fewestChanges_276 : decode cX6_fewestChanges 276 = .ok (.iconst 0, 1) := by decide +kernel
theorem dX6_fewestChanges_277 : decode cX6_fewestChanges 277 = .ok (.istore 4, 2) := by decide +kernel
theorem dX6_fewestChanges_279 : decode cX6_fewestChanges 279 = .ok (.iload 4, 2) := by decide +kernel
theorem dX6_fewestChanges_281 : decode cX6_fewestChanges 281 = .ok (.iconst 3, 1) := by decide +kernel
theorem dX6_fewestChanges_282 : decode cX6_fewestChanges 282 = .ok (.if_icmp .ge 50, 3) := by decide +kernel
theorem dX6_fewestChanges_285 : decode cX6_fewestChanges 285 = .ok (.aload_n 0, 1) := by decide +kernel
theorem dX6_fewestChanges_286 : decode cX6_fewestChanges 286 = .ok (.getfield 23, 3) := by decide +kernel
theorem dX6_fewestChanges_289 : decode cX6_fewestChanges 289 = .ok (.iload 4, 2) := by decide +kernel
theorem dX6_fewestChanges_291 : decode cX6_fewestChanges 291 = .ok (.iaload, 1) := by decide +kernel
theorem dX6_fewestChanges_292 : decode cX6_fewestChanges 292 = .ok (.bipush (-6), 2) := by decide +kernel
theorem dX6_fewestChanges_294 : decode cX6_fewestChanges 294 = .ok (.if_icmp .eq 30, 3) := by decide +kernel
theorem dX6_fewestChanges_297 : decode cX6_fewestChanges 297 = .ok (.iload_n 3, 1) := by decide +kernel
theorem dX6_fewestChanges_298 : decode cX6_fewestChanges 298 = .ok (.bipush (-6), 2) := by decide +kernel
theorem dX6_fewestChanges_300 : decode cX6_fewestChanges 300 = .ok (.if_icmp .eq 14, 3) := by decide +kernel
theorem dX6_fewestChanges_303 : decode cX6_fewestChanges 303 = .ok (.aload_n 0, 1) := by decide +kernel
theorem dX6_fewestChanges_304 : decode cX6_fewestChanges 304 = .ok (.getfield 23, 3) := by decide +kernel
theorem dX6_fewestChanges_307 : decode cX6_fewestChanges 307 = .ok (.iload 4, 2) := by decide +kernel
theorem dX6_fewestChanges_309 : decode cX6_fewestChanges 309 = .ok (.iaload, 1) := by decide +kernel
theorem dX6_fewestChanges_310 : decode cX6_fewestChanges 310 = .ok (.iload_n 3, 1) := by decide +kernel
theorem dX6_fewestChanges_311 : decode cX6_fewestChanges 311 = .ok (.if_icmp .ge 13, 3) := by decide +kernel
theorem dX6_fewestChanges_314 : decode cX6_fewestChanges 314 = .ok (.aload_n 0, 1) := by decide +kernel
theorem dX6_fewestChanges_315 : decode cX6_fewestChanges 315 = .ok (.getfield 23, 3) := by decide +kernel
theorem dX6_fewestChanges_318 : decode cX6_fewestChanges 318 = .ok (.iload 4, 2) := by decide +kernel
theorem dX6_fewestChanges_320 : decode cX6_fewestChanges 320 = .ok (.iaload, 1) := by decide +kernel
theorem dX6_fewestChanges_321 : decode cX6_fewestChanges 321 = .ok (.goto 4, 3) := by decide +kernel
theorem dX6_fewestChanges_324 : decode cX6_fewestChanges 324 = .ok (.iload_n 3, 1) := by decide +kernel
theorem dX6_fewestChanges_325 : decode cX6_fewestChanges 325 = .ok (.istore_n 3, 1) := by decide +kernel
theorem dX6_fewestChanges_326 : decode cX6_fewestChanges 326 = .ok (.iinc 4 1, 3) := by decide +kernel
theorem dX6_fewestChanges_329 : decode cX6_fewestChanges 329 = .ok (.goto (-50), 3) := by decide +kernel
theorem dX6_fewestChanges_332 : decode cX6_fewestChanges 332 = .ok (.iload_n 3, 1) := by decide +kernel
theorem dX6_fewestChanges_333 : decode cX6_fewestChanges 333 = .ok (.ireturn, 1) := by decide +kernel
set_option maxRecDepth 20000 in
theorem ggX6_append_X6_in : GoodIn wsX6_append wsX6_in := goodIn_r _ [6] (by decide +kernel) (by decide +kernel)
set_option maxRecDepth 20000 in
theorem gX6_append_X6_in : GoodIn wsX6_append (va_wsS RX6 29 yX6_in wsX6_in) := goodIn_app (goodIn_of _ (by decide +kernel)) ggX6_append_X6_in
theorem dX6_append_0 : decode cX6_append 0 = .ok (.iload_n 1, 1) := by decide +kernel
theorem dX6_append_1 : decode cX6_append 1 = .ok (.bipush 33, 2) := by decide +kernel
theorem dX6_append_3 : decode cX6_append 3 = .ok (.bipush 126, 2) := by decide +kernel
theorem dX6_append_5 : decode cX6_append 5 = .ok (.invokestatic 29, 3) := by decide +kernel
theorem dX6_append_8 : decode cX6_append 8 = .ok (.ifCond .ne 6, 3) := by decide +kernel
theorem dX6_append_11 : decode cX6_append 11 = .ok (.bipush (-2), 2) := by decide +kernel
theorem dX6_append_13 : decode cX6_append 13 = .ok (.ireturn, 1) := by decide +kernel
theorem dX6_append_14 : decode cX6_append 14 = .ok (.aload_n 0, 1) := by decide +kernel
theorem dX6_append_15 : decode cX6_append 15 = .ok (.getfield 132, 3) := by decide +kernel
theorem dX6_append_18 : decode cX6_append 18 = .ok (.bipush 70, 2) := by decide +kernel
theorem dX6_append_20 : decode cX6_append 20 = .ok (.if_icmp .ne 6, 3) := by decide +kernel
theorem dX6_append_23 : decode cX6_append 23 = .ok (.bipush (-4), 2) := by decide +kernel
theorem dX6_append_25 : decode cX6_append 25 = .ok (.ireturn, 1) := by decide +kernel
theorem dX6_append_26 : decode cX6_append 26 = .ok (.aload_n 0, 1) := by decide +kernel
theorem dX6_append_27 : decode cX6_append 27 = .ok (.getfield 19, 3) := by decide +kernel
theorem dX6_append_30 : decode cX6_append 30 = .ok (.aload_n 0, 1) := by decide +kernel
theorem dX6_append_31 : decode cX6_append 31 = .ok (.getfield 132, 3) := by decide +kernel
theorem dX6_append_34 : decode cX6_append 34 = .ok (.iload_n 1, 1) := by decide +kernel
theorem dX6_append_35 : decode cX6_append 35 = .ok (.i2c, 1) := by decide +kernel
theorem dX6_append_36 : decode cX6_append 36 = .ok (.castore, 1) := by decide +kernel
theorem dX6_append_37 : decode cX6_append 37 = .ok (.aload_n 0, 1) := by decide +kernel
theorem dX6_append_38 : decode cX6_append 38 = .ok (.dup, 1) := by decide +kernel
theorem dX6_append_39 : decode cX6_append 39 = .ok (.getfield 132, 3) := by decide +kernel
theorem dX6_append_42 : decode cX6_append 42 = .ok (.iconst 1, 1) := by decide +kernel
theorem dX6_append_43 : decode cX6_append 43 = .ok (.iadd, 1) := by decide +kernel
theorem dX6_append_44 : decode cX6_append 44 = .ok (.putfield 132, 3) := by decide +kernel
theorem dX6_append_47 : decode cX6_append 47 = .ok (.aload_n 0, 1) := by decide +kernel
theorem dX6_append_48 : decode cX6_append 48 = .ok (.getfield 132, 3) := by decide +kernel
theorem dX6_append_51 : decode cX6_append 51 = .ok (.ireturn, 1) := by decide +kernel
theorem dX6_clearText_0 : decode cX6_clearText 0 = .ok (.aload_n 0, 1) := by decide +kernel
theorem dX6_clearText_1 : decode cX6_clearText 1 = .ok (.getfield 132, 3) := by decide +kernel
theorem dX6_clearText_4 : decode cX6_clearText 4 = .ok (.istore_n 1, 1) := by decide +kernel
theorem dX6_clearText_5 : decode cX6_clearText 5 = .ok (.aload_n 0, 1) := by decide +kernel
theorem dX6_clearText_6 : decode cX6_clearText 6 = .ok (.iconst 0, 1) := by decide +kernel
theorem dX6_clearText_7 : decode cX6_clearText 7 = .ok (.putfield 132, 3) := by decide +kernel
theorem dX6_clearText_10 : decode cX6_clearText 10 = .ok (.iload_n 1, 1) := by decide +kernel
theorem dX6_clearText_11 : decode cX6_clearText 11 = .ok (.ireturn, 1) := by decide +kernel
theorem dX6_letter_0 : decode cX6_letter 0 = .ok (.aload_n 0, 1) := by decide +kernel
theorem dX6_letter_1 : decode cX6_letter 1 = .ok (.getfield 135, 3) := by decide +kernel
theorem dX6_letter_4 : decode cX6_letter 4 = .ok (.aload_n 0, 1) := by decide +kernel
theorem dX6_letter_5 : decode cX6_letter 5 = .ok (.getfield 132, 3) := by decide +kernel
theorem dX6_letter_8 : decode cX6_letter 8 = .ok (.if_icmp .ge 15, 3) := by decide +kernel
theorem dX6_letter_11 : decode cX6_letter 11 = .ok (.aload_n 0, 1) := by decide +kernel
theorem dX6_letter_12 : decode cX6_letter 12 = .ok (.getfield 19, 3) := by decide +kernel
theorem dX6_letter_15 : decode cX6_letter 15 = .ok (.aload_n 0, 1) := by decide +kernel
theorem dX6_letter_16 : decode cX6_letter 16 = .ok (.getfield 135, 3) := by decide +kernel
theorem dX6_letter_19 : decode cX6_letter 19 = .ok (.caload, 1) := by decide +kernel
theorem dX6_letter_20 : decode cX6_letter 20 = .ok (.goto 5, 3) := by decide +kernel
theorem dX6_letter_23 : decode cX6_letter 23 = .ok (.bipush (-6), 2) := by decide +kernel
theorem dX6_letter_25 : decode cX6_letter 25 = .ok (.ireturn, 1) := by decide +kernel
theorem dX6_wants_0 : decode cX6_wants 0 = .ok (.aload_n 0, 1) := by decide +kernel
theorem dX6_wants_1 : decode cX6_wants 1 = .ok (.getfield 138, 3) := by decide +kernel
theorem dX6_wants_4 : decode cX6_wants 4 = .ok (.bipush (-6), 2) := by decide +kernel
theorem dX6_wants_6 : decode cX6_wants 6 = .ok (.if_icmp .ne 30, 3) := by decide +kernel
theorem dX6_wants_9 : decode cX6_wants 9 = .ok (.aload_n 0, 1) := by decide +kernel
theorem dX6_wants_10 : decode cX6_wants 10 = .ok (.iload_n 1, 1) := by decide +kernel
theorem dX6_wants_11 : decode cX6_wants 11 = .ok (.ifCond .eq 8, 3) := by decide +kernel
theorem dX6_wants_14 : decode cX6_wants 14 = .ok (.bipush (-6), 2) := by decide +kernel
theorem dX6_wants_16 : decode cX6_wants 16 = .ok (.goto 7, 3) := by decide +kernel
theorem dX6_wants_19 : decode cX6_wants 19 = .ok (.aload_n 0, 1) := by decide +kernel
theorem dX6_wants_20 : decode cX6_wants 20 = .ok (.getfield 135, 3) := by decide +kernel
theorem dX6_wants_23 : decode cX6_wants 23 = .ok (.putfield 138, 3) := by decide +kernel
theorem dX6_wants_26 : decode cX6_wants 26 = .ok (.aload_n 0, 1) := by decide +kernel
theorem dX6_wants_27 : decode cX6_wants 27 = .ok (.dup, 1) := by decide +kernel
theorem dX6_wants_28 : decode cX6_wants 28 = .ok (.getfield 135, 3) := by decide +kernel
theorem dX6_wants_31 : decode cX6_wants 31 = .ok (.iconst 1, 1) := by decide +kernel
theorem dX6_wants_32 : decode cX6_wants 32 = .ok (.iadd, 1) := by decide +kernel
theorem dX6_wants_33 : decode cX6_wants 33 = .ok (.putfield 135, 3) := by decide +kernel
theorem dX6_wants_36 : decode cX6_wants 36 = .ok (.return_, 1) := by decide +kernel
set_option maxRecDepth 20000 in
theorem ggX6_figure_X6_letter : GoodIn wsX6_figure wsX6_letter := goodIn_r _ [5, 6, 7, 8, 17, 18, 19, 20, 21, 22, 23, 24, 25, 26, 27, 28] (by decide +kernel) (by decide +kernel)
set_option maxRecDepth 20000 in
theorem gX6_figure_X6_letter : GoodIn wsX6_figure (wsV RX6 141 RX6 yX6_letter wsX6_letter) := goodIn_app (goodIn_of _ (by decide +kernel)) ggX6_figure_X6_letter
set_option maxRecDepth 20000 in
theorem ggX6_figure_X6_in : GoodIn wsX6_figure wsX6_in := goodIn_r _ [11] (by decide +kernel) (by decide +kernel)
set_option maxRecDepth 20000 in
theorem gX6_figure_X6_in : GoodIn wsX6_figure (va_wsS RX6 29 yX6_in wsX6_in) := goodIn_app (goodIn_of _ (by decide +kernel)) ggX6_figure_X6_in
set_option maxRecDepth 20000 in
theorem ggX6_figure_X6_wants : GoodIn wsX6_figure wsX6_wants := goodIn_r _ [15, 16, 6, 17, 18, 19, 20, 21, 22, 23, 24, 25, 26, 27, 28] (by decide +kernel) (by decide +kernel)
set_option maxRecDepth 20000 in
theorem gX6_figure_X6_wants : GoodIn wsX6_figure (wsV RX6 144 RX6 yX6_wants wsX6_wants) := goodIn_app (goodIn_of _ (by decide +kernel)) ggX6_figure_X6_wants
theorem dX6_figure_0 : decode cX6_figure 0 = .ok (.aload_n 0, 1) := by decide +kernel
theorem dX6_figure_1 : decode cX6_figure 1 = .ok (.invokevirtual 141, 3) := by decide +kernel
theorem dX6_figure_4 : decode cX6_figure 4 = .ok (.bipush 48, 2) := by decide +kernel
theorem dX6_figure_6 : decode cX6_figure 6 = .ok (.isub, 1) := by decide +kernel
theorem dX6_figure_7 : decode cX6_figure 7 = .ok (.istore_n 2, 1) := by decide +kernel
theorem dX6_figure_8 : decode cX6_figure 8 = .ok (.aload_n 0, 1) := by decide +kernel
theorem dX6_figure_9 : decode cX6_figure 9 = .ok (.iload_n 2, 1) := by decide +kernel
theorem dX6_figure_10 : decode cX6_figure 10 = .ok (.iconst 0, 1) := by decide +kernel
theorem dX6_figure_11 : decode cX6_figure 11 = .ok (.iload_n 1, 1) := by decide +kernel
theorem dX6_figure_12 : decode cX6_figure 12 = .ok (.invokestatic 29, 3) := by decide +kernel
theorem dX6_figure_15 : decode cX6_figure 15 = .ok (.invokevirtual 144, 3) := by decide +kernel
theorem dX6_figure_18 : decode cX6_figure 18 = .ok (.iload_n 2, 1) := by decide +kernel
theorem dX6_figure_19 : decode cX6_figure 19 = .ok (.ireturn, 1) := by decide +kernel
set_option maxRecDepth 20000 in
theorem ggX6_mile_X6_letter : GoodIn wsX6_mile wsX6_letter := goodIn_r _ [5, 6, 7, 8, 17, 18, 19, 20, 21, 22, 23, 24, 25, 26, 27, 28] (by decide +kernel) (by decide +kernel)
set_option maxRecDepth 20000 in
theorem gX6_mile_X6_letter : GoodIn wsX6_mile (wsV RX6 141 RX6 yX6_letter wsX6_letter) := goodIn_app (goodIn_of _ (by decide +kernel)) ggX6_mile_X6_letter
set_option maxRecDepth 20000 in
theorem ggX6_mile_X6_in : GoodIn wsX6_mile wsX6_in := goodIn_r _ [11] (by decide +kernel) (by decide +kernel)
set_option maxRecDepth 20000 in
theorem gX6_mile_X6_in : GoodIn wsX6_mile (va_wsS RX6 29 yX6_in wsX6_in) := goodIn_app (goodIn_of _ (by decide +kernel)) ggX6_mile_X6_in
set_option maxRecDepth 20000 in
theorem ggX6_mile_X6_wants : GoodIn wsX6_mile wsX6_wants := goodIn_r _ [15, 16, 6, 17, 18, 19, 20, 21, 22, 23, 24, 25, 26, 27, 28] (by decide +kernel) (by decide +kernel)
set_option maxRecDepth 20000 in
theorem gX6_mile_X6_wants : GoodIn wsX6_mile (wsV RX6 144 RX6 yX6_wants wsX6_wants) := goodIn_app (goodIn_of _ (by decide +kernel)) ggX6_mile_X6_wants
theorem dX6_mile_0 : decode cX6_mile 0 = .ok (.aload_n 0, 1) := by decide +kernel
theorem dX6_mile_1 : decode cX6_mile 1 = .ok (.invokevirtual 141, 3) := by decide +kernel
theorem dX6_mile_4 : decode cX6_mile 4 = .ok (.bipush 97, 2) := by decide +kernel
theorem dX6_mile_6 : decode cX6_mile 6 = .ok (.isub, 1) := by decide +kernel
theorem dX6_mile_7 : decode cX6_mile 7 = .ok (.istore_n 1, 1) := by decide +kernel
theorem dX6_mile_8 : decode cX6_mile 8 = .ok (.aload_n 0, 1) := by decide +kernel
theorem dX6_mile_9 : decode cX6_mile 9 = .ok (.iload_n 1, 1) := by decide +kernel
theorem dX6_mile_10 : decode cX6_mile 10 = .ok (.iconst 0, 1) := by decide +kernel
theorem dX6_mile_11 : decode cX6_mile 11 = .ok (.bipush 15, 2) := by decide +kernel
theorem dX6_mile_13 : decode cX6_mile 13 = .ok (.invokestatic 29, 3) := by decide +kernel
theorem dX6_mile_16 : decode cX6_mile 16 = .ok (.invokevirtual 144, 3) := by decide +kernel
theorem dX6_mile_19 : decode cX6_mile 19 = .ok (.iload_n 1, 1) := by decide +kernel
theorem dX6_mile_20 : decode cX6_mile 20 = .ok (.ireturn, 1) := by decide +kernel
set_option maxRecDepth 20000 in
theorem ggX6_way_X6_letter : GoodIn wsX6_way wsX6_letter := goodIn_r _ [5, 6, 7, 8, 14, 15, 16, 17, 18, 19, 20, 21, 22, 23, 24, 25] (by decide +kernel) (by decide +kernel)
set_option maxRecDepth 20000 in
theorem gX6_way_X6_letter : GoodIn wsX6_way (wsV RX6 141 RX6 yX6_letter wsX6_letter) := goodIn_app (goodIn_of _ (by decide +kernel)) ggX6_way_X6_letter
set_option maxRecDepth 20000 in
theorem ggX6_way_X6_wants : GoodIn wsX6_way wsX6_wants := goodIn_r _ [12, 13, 6, 14, 15, 16, 17, 18, 19, 20, 21, 22, 23, 24, 25] (by decide +kernel) (by decide +kernel)
set_option maxRecDepth 20000 in
theorem gX6_way_X6_wants : GoodIn wsX6_way (wsV RX6 144 RX6 yX6_wants wsX6_wants) := goodIn_app (goodIn_of _ (by decide +kernel)) ggX6_way_X6_wants
theorem dX6_way_0 : decode cX6_way 0 = .ok (.aload_n 0, 1) := by decide +kernel
theorem dX6_way_1 : decode cX6_way 1 = .ok (.invokevirtual 141, 3) := by decide +kernel
theorem dX6_way_4 : decode cX6_way 4 = .ok (.istore_n 1, 1) := by decide +kernel
theorem dX6_way_5 : decode cX6_way 5 = .ok (.aload_n 0, 1) := by decide +kernel
theorem dX6_way_6 : decode cX6_way 6 = .ok (.iload_n 1, 1) := by decide +kernel
theorem dX6_way_7 : decode cX6_way 7 = .ok (.bipush 117, 2) := by decide +kernel
theorem dX6_way_9 : decode cX6_way 9 = .ok (.if_icmp .eq 15, 3) := by decide +kernel
theorem dX6_way_12 : decode cX6_way 12 = .ok (.iload_n 1, 1) := by decide +kernel
theorem dX6_way_13 : decode cX6_way 13 = .ok (.bipush 100, 2) := by decide +kernel
theorem dX6_way_15 : decode cX6_way 15 = .ok (.if_icmp .eq 9, 3) := by decide +kernel
theorem dX6_way_18 : decode cX6_way 18 = .ok (.iload_n 1, 1) := by decide +kernel
theorem dX6_way_19 : decode cX6_way 19 = .ok (.bipush 98, 2) := by decide +kernel
theorem dX6_way_21 : decode cX6_way 21 = .ok (.if_icmp .ne 7, 3) := by decide +kernel
theorem dX6_way_24 : decode cX6_way 24 = .ok (.iconst 1, 1) := by decide +kernel
theorem dX6_way_25 : decode cX6_way 25 = .ok (.goto 4, 3) := by decide +kernel
theorem dX6_way_28 : decode cX6_way 28 = .ok (.iconst 0, 1) := by decide +kernel
theorem dX6_way_29 : decode cX6_way 29 = .ok (.invokevirtual 144, 3) := by decide +kernel
theorem dX6_way_32 : decode cX6_way 32 = .ok (.iload_n 1, 1) := by decide +kernel
theorem dX6_way_33 : decode cX6_way 33 = .ok (.bipush 117, 2) := by decide +kernel
theorem dX6_way_35 : decode cX6_way 35 = .ok (.if_icmp .ne 7, 3) := by decide +kernel
theorem dX6_way_38 : decode cX6_way 38 = .ok (.iconst 0, 1) := by decide +kernel
theorem dX6_way_39 : decode cX6_way 39 = .ok (.goto 14, 3) := by decide +kernel
theorem dX6_way_42 : decode cX6_way 42 = .ok (.iload_n 1, 1) := by decide +kernel
theorem dX6_way_43 : decode cX6_way 43 = .ok (.bipush 100, 2) := by decide +kernel
theorem dX6_way_45 : decode cX6_way 45 = .ok (.if_icmp .ne 7, 3) := by decide +kernel
theorem dX6_way_48 : decode cX6_way 48 = .ok (.iconst 1, 1) := by decide +kernel
theorem dX6_way_49 : decode cX6_way 49 = .ok (.goto 4, 3) := by decide +kernel
theorem dX6_way_52 : decode cX6_way 52 = .ok (.iconst 2, 1) := by decide +kernel
theorem dX6_way_53 : decode cX6_way 53 = .ok (.ireturn, 1) := by decide +kernel
set_option maxRecDepth 20000 in
theorem ggX6_readOrder_X6_letter : GoodIn wsX6_readOrder wsX6_letter := goodIn_r _ [7, 8, 9, 10, 31, 32, 33, 34, 35, 36, 37, 38, 39, 40, 41, 42] (by decide +kernel) (by decide +kernel)
set_option maxRecDepth 20000 in
theorem gX6_readOrder_X6_letter : GoodIn wsX6_readOrder (wsV RX6 141 RX6 yX6_letter wsX6_letter) := goodIn_app (goodIn_of _ (by decide +kernel)) ggX6_readOrder_X6_letter
set_option maxRecDepth 20000 in
theorem ggX6_readOrder_X6_wants : GoodIn wsX6_readOrder wsX6_wants := goodIn_r _ [14, 15, 8, 31, 32, 33, 34, 35, 36, 37, 38, 39, 40, 41, 42] (by decide +kernel) (by decide +kernel)
set_option maxRecDepth 20000 in
theorem gX6_readOrder_X6_wants : GoodIn wsX6_readOrder (wsV RX6 144 RX6 yX6_wants wsX6_wants) := goodIn_app (goodIn_of _ (by decide +kernel)) ggX6_readOrder_X6_wants
set_option maxRecDepth 20000 in
theorem ggX6_readOrder_X6_mile : GoodIn wsX6_readOrder wsX6_mile := goodIn_r _ [19, 3, 4, 5, 6, 7, 8, 9, 10, 20, 21, 22, 11, 12, 13, 14, 15, 31, 32, 33, 34, 35, 36, 37, 38, 39, 40, 41, 42] (by decide +kernel) (by decide +kernel)
set_option maxRecDepth 20000 in
theorem gX6_readOrder_X6_mile : GoodIn wsX6_readOrder (wsV RX6 151 RX6 yX6_mile wsX6_mile) := goodIn_app (goodIn_of _ (by decide +kernel)) ggX6_readOrder_X6_mile
set_option maxRecDepth 20000 in
theorem ggX6_readOrder_X6_figure : GoodIn wsX6_readOrder wsX6_figure := goodIn_r _ [26, 3, 4, 5, 6, 7, 8, 9, 10, 20, 21, 22, 11, 12, 13, 14, 15, 31, 32, 33, 34, 35, 36, 37, 38, 39, 40, 41, 42] (by decide +kernel) (by decide +kernel)
set_option maxRecDepth 20000 in
theorem gX6_readOrder_X6_figure : GoodIn wsX6_readOrder (wsV RX6 154 RX6 yX6_figure wsX6_figure) := goodIn_app (goodIn_of _ (by decide +kernel)) ggX6_readOrder_X6_figure
set_option maxRecDepth 20000 in
theorem ggX6_readOrder_X6_way : GoodIn wsX6_readOrder wsX6_way := goodIn_r _ [30, 3, 4, 5, 6, 7, 8, 9, 10, 11, 12, 13, 14, 15, 31, 32, 33, 34, 35, 36, 37, 38, 39, 40, 41, 42] (by decide +kernel) (by decide +kernel)
set_option maxRecDepth 20000 in
theorem gX6_readOrder_X6_way : GoodIn wsX6_readOrder (wsV RX6 157 RX6 yX6_way wsX6_way) := goodIn_app (goodIn_of _ (by decide +kernel)) ggX6_readOrder_X6_way
theorem dX6_readOrder_0 : decode cX6_readOrder 0 = .ok (.aload_n 0, 1) := by decide +kernel
theorem dX6_readOrder_1 : decode cX6_readOrder 1 = .ok (.invokevirtual 141, 3) := by decide +kernel
theorem dX6_readOrder_4 : decode cX6_readOrder 4 = .ok (.istore_n 1, 1) := by decide +kernel
theorem dX6_readOrder_5 : decode cX6_readOrder 5 = .ok (.aload_n 0, 1) := by decide +kernel
theorem dX6_readOrder_6 : decode cX6_readOrder 6 = .ok (.iload_n 1, 1) := by decide +kernel
theorem dX6_readOrder_7 : decode cX6_readOrder 7 = .ok (.bipush 97, 2) := by decide +kernel
theorem dX6_readOrder_9 : decode cX6_readOrder 9 = .ok (.if_icmp .eq 27, 3) := by decide +kernel
theorem dX6_readOrder_12 : decode cX6_readOrder 12 = .ok (.iload_n 1, 1) := by decide +kernel
theorem dX6_readOrder_13 : decode cX6_readOrder 13 = .ok (.bipush 119, 2) := by decide +kernel
theorem dX6_readOrder_15 : decode cX6_readOrder 15 = .ok (.if_icmp .eq 21, 3) := by decide +kernel
theorem dX6_readOrder_18 : decode cX6_readOrder 18 = .ok (.iload_n 1, 1) := by decide +kernel
theorem dX6_readOrder_19 : decode cX6_readOrder 19 = .ok (.bipush 108, 2) := by decide +kernel
theorem dX6_readOrder_21 : decode cX6_readOrder 21 = .ok (.if_icmp .eq 15, 3) := by decide +kernel
theorem dX6_readOrder_24 : decode cX6_readOrder 24 = .ok (.iload_n 1, 1) := by decide +kernel
theorem dX6_readOrder_25 : decode cX6_readOrder 25 = .ok (.bipush 110, 2) := by decide +kernel
theorem dX6_readOrder_27 : decode cX6_readOrder 27 = .ok (.if_icmp .eq 9, 3) := by decide +kernel
theorem dX6_readOrder_30 : decode cX6_readOrder 30 = .ok (.iload_n 1, 1) := by decide +kernel
theorem dX6_readOrder_31 : decode cX6_readOrder 31 = .ok (.bipush 100, 2) := by decide +kernel
theorem dX6_readOrder_33 : decode cX6_readOrder 33 = .ok (.if_icmp .ne 7, 3) := by decide +kernel
theorem dX6_readOrder_36 : decode cX6_readOrder 36 = .ok (.iconst 1, 1) := by decide +kernel
theorem dX6_readOrder_37 : decode cX6_readOrder 37 = .ok (.goto 4, 3) := by decide +kernel
theorem dX6_readOrder_40 : decode cX6_readOrder 40 = .ok (.iconst 0, 1) := by decide +kernel
theorem dX6_readOrder_41 : decode cX6_readOrder 41 = .ok (.invokevirtual 144, 3) := by decide +kernel
theorem dX6_readOrder_44 : decode cX6_readOrder 44 = .ok (.iconst 4, 1) := by decide +kernel
theorem dX6_readOrder_45 : decode cX6_readOrder 45 = .ok (.aload_n 0, 1) := by decide +kernel
theorem dX6_readOrder_46 : decode cX6_readOrder 46 = .ok (.getfield 148, 3) := by decide +kernel
theorem dX6_readOrder_49 : decode cX6_readOrder 49 = .ok (.imul, 1) := by decide +kernel
theorem dX6_readOrder_50 : decode cX6_readOrder 50 = .ok (.istore_n 2, 1) := by decide +kernel
theorem dX6_readOrder_51 : decode cX6_readOrder 51 = .ok (.aload_n 0, 1) := by decide +kernel
theorem dX6_readOrder_52 : decode cX6_readOrder 52 = .ok (.getfield 26, 3) := by decide +kernel
theorem dX6_readOrder_55 : decode cX6_readOrder 55 = .ok (.iload_n 2, 1) := by decide +kernel
theorem dX6_readOrder_56 : decode cX6_readOrder 56 = .ok (.iload_n 1, 1) := by decide +kernel
theorem dX6_readOrder_57 : decode cX6_readOrder 57 = .ok (.iastore, 1) := by decide +kernel
theorem dX6_readOrder_58 : decode cX6_readOrder 58 = .ok (.iload_n 1, 1) := by decide +kernel
theorem dX6_readOrder_59 : decode cX6_readOrder 59 = .ok (.bipush 110, 2) := by decide +kernel
theorem dX6_readOrder_61 : decode cX6_readOrder 61 = .ok (.if_icmp .ne 30, 3) := by decide +kernel
theorem dX6_readOrder_64 : decode cX6_readOrder 64 = .ok (.aload_n 0, 1) := by decide +kernel
theorem dX6_readOrder_65 : decode cX6_readOrder 65 = .ok (.getfield 26, 3) := by decide +kernel
theorem dX6_readOrder_68 : decode cX6_readOrder 68 = .ok (.iload_n 2, 1) := by decide +kernel
theorem dX6_readOrder_69 : decode cX6_readOrder 69 = .ok (.iconst 1, 1) := by decide +kernel
theorem dX6_readOrder_70 : decode cX6_readOrder 70 = .ok (.iadd, 1) := by decide +kernel
theorem dX6_readOrder_71 : decode cX6_readOrder 71 = .ok (.aload_n 0, 1) := by decide +kernel
theorem dX6_readOrder_72 : decode cX6_readOrder 72 = .ok (.invokevirtual 151, 3) := by decide +kernel
theorem dX6_readOrder_75 : decode cX6_readOrder 75 = .ok (.iastore, 1) := by decide +kernel
theorem dX6_readOrder_76 : decode cX6_readOrder 76 = .ok (.aload_n 0, 1) := by decide +kernel
theorem dX6_readOrder_77 : decode cX6_readOrder 77 = .ok (.getfield 26, 3) := by decide +kernel
theorem dX6_readOrder_80 : decode cX6_readOrder 80 = .ok (.iload_n 2, 1) := by decide +kernel
theorem dX6_readOrder_81 : decode cX6_readOrder 81 = .ok (.iconst 2, 1) := by decide +kernel
theorem dX6_readOrder_82 : decode cX6_readOrder 82 = .ok (.iadd, 1) := by decide +kernel
theorem dX6_readOrder_83 : decode cX6_readOrder 83 = .ok (.aload_n 0, 1) := by decide +kernel
theorem dX6_readOrder_84 : decode cX6_readOrder 84 = .ok (.invokevirtual 151, 3) := by decide +kernel
theorem dX6_readOrder_87 : decode cX6_readOrder 87 = .ok (.iastore, 1) := by decide +kernel
theorem dX6_readOrder_88 : decode cX6_readOrder 88 = .ok (.goto 70, 3) := by decide +kernel
theorem dX6_readOrder_91 : decode cX6_readOrder 91 = .ok (.iload_n 1, 1) := by decide +kernel
theorem dX6_readOrder_92 : decode cX6_readOrder 92 = .ok (.bipush 100, 2) := by decide +kernel
theorem dX6_readOrder_94 : decode cX6_readOrder 94 = .ok (.if_icmp .eq 64, 3) := by decide +kernel
theorem dX6_readOrder_97 : decode cX6_readOrder 97 = .ok (.aload_n 0, 1) := by decide +kernel
theorem dX6_readOrder_98 : decode cX6_readOrder 98 = .ok (.getfield 26, 3) := by decide +kernel
theorem dX6_readOrder_101 : decode cX6_readOrder 101 = .ok (.iload_n 2, 1) := by decide +kernel
theorem dX6_readOrder_102 : decode cX6_readOrder 102 = .ok (.iconst 1, 1) := by decide +kernel
theorem dX6_readOrder_103 : decode cX6_readOrder 103 = .ok (.iadd, 1) := by decide +kernel
theorem dX6_readOrder_104 : decode cX6_readOrder 104 = .ok (.aload_n 0, 1) := by decide +kernel
theorem dX6_readOrder_105 : decode cX6_readOrder 105 = .ok (.iload_n 1, 1) := by decide +kernel
theorem dX6_readOrder_106 : decode cX6_readOrder 106 = .ok (.bipush 108, 2) := by decide +kernel
theorem dX6_readOrder_108 : decode cX6_readOrder 108 = .ok (.if_icmp .ne 7, 3) := by decide +kernel
theorem dX6_readOrder_111 : decode cX6_readOrder 111 = .ok (.iconst 1, 1) := by decide +kernel
theorem dX6_readOrder_112 : decode cX6_readOrder 112 = .ok (.goto 4, 3) := by decide +kernel
theorem dX6_readOrder_115 : decode cX6_readOrder 115 = .ok (.iconst 2, 1) := by decide +kernel
theorem dX6_readOrder_116 : decode cX6_readOrder 116 = .ok (.invokevirtual 154, 3) := by decide +kernel
theorem dX6_readOrder_119 : decode cX6_readOrder 119 = .ok (.iastore, 1) := by decide +kernel
theorem dX6_readOrder_120 : decode cX6_readOrder 120 = .ok (.aload_n 0, 1) := by decide +kernel
theorem dX6_readOrder_121 : decode cX6_readOrder 121 = .ok (.getfield 26, 3) := by decide +kernel
theorem dX6_readOrder_124 : decode cX6_readOrder 124 = .ok (.iload_n 2, 1) := by decide +kernel
theorem dX6_readOrder_125 : decode cX6_readOrder 125 = .ok (.iconst 2, 1) := by decide +kernel
theorem dX6_readOrder_126 : decode cX6_readOrder 126 = .ok (.iadd, 1) := by decide +kernel
theorem dX6_readOrder_127 : decode cX6_readOrder 127 = .ok (.aload_n 0, 1) := by decide +kernel
theorem dX6_readOrder_128 : decode cX6_readOrder 128 = .ok (.invokevirtual 151, 3) := by decide +kernel
theorem dX6_readOrder_131 : decode cX6_readOrder 131 = .ok (.iastore, 1) := by decide +kernel
theorem dX6_readOrder_132 : decode cX6_readOrder 132 = .ok (.aload_n 0, 1) := by decide +kernel
theorem dX6_readOrder_133 : decode cX6_readOrder 133 = .ok (.getfield 26, 3) := by decide +kernel
theorem dX6_readOrder_136 : decode cX6_readOrder 136 = .ok (.iload_n 2, 1) := by decide +kernel
theorem dX6_readOrder_137 : decode cX6_readOrder 137 = .ok (.iconst 3, 1) := by decide +kernel
theorem dX6_readOrder_138 : decode cX6_readOrder 138 = .ok (.iadd, 1) := by decide +kernel
theorem dX6_readOrder_139 : decode cX6_readOrder 139 = .ok (.iload_n 1, 1) := by decide +kernel
theorem dX6_readOrder_140 : decode cX6_readOrder 140 = .ok (.bipush 97, 2) := by decide +kernel
theorem dX6_readOrder_142 : decode cX6_readOrder 142 = .ok (.if_icmp .ne 10, 3) := by decide +kernel
theorem dX6_readOrder_145 : decode cX6_readOrder 145 = .ok (.aload_n 0, 1) := by decide +kernel
theorem dX6_readOrder_146 : decode cX6_readOrder 146 = .ok (.invokevirtual 157, 3) := by decide +kernel
theorem dX6_readOrder_149 : decode cX6_readOrder 149 = .ok (.goto 8, 3) := by decide +kernel
theorem dX6_readOrder_152 : decode cX6_readOrder 152 = .ok (.aload_n 0, 1) := by decide +kernel
theorem dX6_readOrder_153 : decode cX6_readOrder 153 = .ok (.iconst 3, 1) := by decide +kernel
theorem dX6_readOrder_154 : decode cX6_readOrder 154 = .ok (.invokevirtual 154, 3) := by decide +kernel
theorem dX6_readOrder_157 : decode cX6_readOrder 157 = .ok (.iastore, 1) := by decide +kernel
theorem dX6_readOrder_158 : decode cX6_readOrder 158 = .ok (.aload_n 0, 1) := by decide +kernel
theorem dX6_readOrder_159 : decode cX6_readOrder 159 = .ok (.dup, 1) := by decide +kernel
theorem dX6_readOrder_160 : decode cX6_readOrder 160 = .ok (.getfield 148, 3) := by decide +kernel
theorem dX6_readOrder_163 : decode cX6_readOrder 163 = .ok (.iconst 1, 1) := by decide +kernel
theorem dX6_readOrder_164 : decode cX6_readOrder 164 = .ok (.iadd, 1) := by decide +kernel
theorem dX6_readOrder_165 : decode cX6_readOrder 165 = .ok (.putfield 148, 3) := by decide +kernel
theorem dX6_readOrder_168 : decode cX6_readOrder 168 = .ok (.return_, 1) := by decide +kernel
set_option maxRecDepth 20000 in
theorem ggX6_errorPosition_X6_readOrder : GoodIn wsX6_errorPosition wsX6_readOrder := goodIn_r _ [9, 1, 10, 11, 12, 13, 8, 14, 2, 4, 15, 16, 17, 18, 19, 3, 20, 21, 22, 23, 24, 25, 26, 27, 28, 29, 30, 31, 32, 33, 34, 35, 36, 37, 38, 39, 40, 41, 42, 43, 44, 45, 46] (by decide +kernel) (by decide +kernel)
set_option maxRecDepth 20000 in
theorem gX6_errorPosition_X6_readOrder : GoodIn wsX6_errorPosition (wsV RX6 160 RX6 yX6_readOrder wsX6_readOrder) := goodIn_app (goodIn_of _ (by decide +kernel)) ggX6_errorPosition_X6_readOrder
set_option maxRecDepth 20000 in
theorem ggX6_errorPosition_X6_letter : GoodIn wsX6_errorPosition wsX6_letter := goodIn_r _ [14, 2, 4, 15, 35, 36, 37, 38, 39, 40, 41, 42, 43, 44, 45, 46] (by decide +kernel) (by decide +kernel)
set_option maxRecDepth 20000 in
theorem gX6_errorPosition_X6_letter : GoodIn wsX6_errorPosition (wsV RX6 141 RX6 yX6_letter wsX6_letter) := goodIn_app (goodIn_of _ (by decide +kernel)) ggX6_errorPosition_X6_letter
set_option maxRecDepth 20000 in
theorem ggX6_errorPosition_X6_wants : GoodIn wsX6_errorPosition wsX6_wants := goodIn_r _ [19, 3, 2, 35, 36, 37, 38, 39, 40, 41, 42, 43, 44, 45, 46] (by decide +kernel) (by decide +kernel)
set_option maxRecDepth 20000 in
theorem gX6_errorPosition_X6_wants : GoodIn wsX6_errorPosition (wsV RX6 144 RX6 yX6_wants wsX6_wants) := goodIn_app (goodIn_of _ (by decide +kernel)) ggX6_errorPosition_X6_wants
theorem dX6_errorPosition_0 : decode cX6_errorPosition 0 = .ok (.aload_n 0, 1) := by decide +kernel
theorem dX6_errorPosition_1 : decode cX6_errorPosition 1 = .ok (.iconst 0, 1) := by decide +kernel
theorem dX6_errorPosition_2 : decode cX6_errorPosition 2 = .ok (.putfield 148, 3) := by decide +kernel
theorem dX6_errorPosition_5 : decode cX6_errorPosition 5 = .ok (.aload_n 0, 1) := by decide +kernel
theorem dX6_errorPosition_6 : decode cX6_errorPosition 6 = .ok (.iconst 0, 1) := by decide +kernel
theorem dX6_errorPosition_7 : decode cX6_errorPosition 7 = .ok (.putfield 135, 3) := by decide +kernel
theorem dX6_errorPosition_10 : decode cX6_errorPosition 10 = .ok (.aload_n 0, 1) := by decide +kernel
theorem dX6_errorPosition_11 : decode cX6_errorPosition 11 = .ok (.bipush (-6), 2) := by decide +kernel
theorem dX6_errorPosition_13 : decode cX6_errorPosition 13 = .ok (.putfield 138, 3) := by decide +kernel
theorem dX6_errorPosition_16 : decode cX6_errorPosition 16 = .ok (.iconst 1, 1) := by decide +kernel
theorem dX6_errorPosition_17 : decode cX6_errorPosition 17 = .ok (.istore_n 1, 1) := by decide +kernel
theorem dX6_errorPosition_18 : decode cX6_errorPosition 18 = .ok (.iload_n 1, 1) := by decide +kernel
theorem dX6_errorPosition_19 : decode cX6_errorPosition 19 = .ok (.ifCond .eq 73, 3) := by decide +kernel
theorem dX6_errorPosition_22 : decode cX6_errorPosition 22 = .ok (.aload_n 0, 1) := by decide +kernel
theorem dX6_errorPosition_23 : decode cX6_errorPosition 23 = .ok (.invokevirtual 160, 3) := by decide +kernel
theorem dX6_errorPosition_26 : decode cX6_errorPosition 26 = .ok (.aload_n 0, 1) := by decide +kernel
theorem dX6_errorPosition_27 : decode cX6_errorPosition 27 = .ok (.getfield 138, 3) := by decide +kernel
theorem dX6_errorPosition_30 : decode cX6_errorPosition 30 = .ok (.bipush (-6), 2) := by decide +kernel
theorem dX6_errorPosition_32 : decode cX6_errorPosition 32 = .ok (.if_icmp .ne 18, 3) := by decide +kernel
theorem dX6_errorPosition_35 : decode cX6_errorPosition 35 = .ok (.aload_n 0, 1) := by decide +kernel
theorem dX6_errorPosition_36 : decode cX6_errorPosition 36 = .ok (.getfield 135, 3) := by decide +kernel
theorem dX6_errorPosition_39 : decode cX6_errorPosition 39 = .ok (.aload_n 0, 1) := by decide +kernel
theorem dX6_errorPosition_40 : decode cX6_errorPosition 40 = .ok (.getfield 132, 3) := by decide +kernel
theorem dX6_errorPosition_43 : decode cX6_errorPosition 43 = .ok (.if_icmp .ge 7, 3) := by decide +kernel
theorem dX6_errorPosition_46 : decode cX6_errorPosition 46 = .ok (.iconst 1, 1) := by decide +kernel
theorem dX6_errorPosition_47 : decode cX6_errorPosition 47 = .ok (.goto 4, 3) := by decide +kernel
theorem dX6_errorPosition_50 : decode cX6_errorPosition 50 = .ok (.iconst 0, 1) := by decide +kernel
theorem dX6_errorPosition_51 : decode cX6_errorPosition 51 = .ok (.istore_n 1, 1) := by decide +kernel
theorem dX6_errorPosition_52 : decode cX6_errorPosition 52 = .ok (.iload_n 1, 1) := by decide +kernel
theorem dX6_errorPosition_53 : decode cX6_errorPosition 53 = .ok (.ifCond .eq (-35), 3) := by decide +kernel
theorem dX6_errorPosition_56 : decode cX6_errorPosition 56 = .ok (.aload_n 0, 1) := by decide +kernel
theorem dX6_errorPosition_57 : decode cX6_errorPosition 57 = .ok (.aload_n 0, 1) := by decide +kernel
theorem dX6_errorPosition_58 : decode cX6_errorPosition 58 = .ok (.invokevirtual 141, 3) := by decide +kernel
theorem dX6_errorPosition_61 : decode cX6_errorPosition 61 = .ok (.bipush 59, 2) := by decide +kernel
theorem dX6_errorPosition_63 : decode cX6_errorPosition 63 = .ok (.if_icmp .ne 7, 3) := by decide +kernel
theorem dX6_errorPosition_66 : decode cX6_errorPosition 66 = .ok (.iconst 1, 1) := by decide +kernel
theorem dX6_errorPosition_67 : decode cX6_errorPosition 67 = .ok (.goto 4, 3) := by decide +kernel
theorem dX6_errorPosition_70 : decode cX6_errorPosition 70 = .ok (.iconst 0, 1) := by decide +kernel
theorem dX6_errorPosition_71 : decode cX6_errorPosition 71 = .ok (.invokevirtual 144, 3) := by decide +kernel
theorem dX6_errorPosition_74 : decode cX6_errorPosition 74 = .ok (.aload_n 0, 1) := by decide +kernel
theorem dX6_errorPosition_75 : decode cX6_errorPosition 75 = .ok (.getfield 138, 3) := by decide +kernel
theorem dX6_errorPosition_78 : decode cX6_errorPosition 78 = .ok (.bipush (-6), 2) := by decide +kernel
theorem dX6_errorPosition_80 : decode cX6_errorPosition 80 = .ok (.if_icmp .ne 7, 3) := by decide +kernel
theorem dX6_errorPosition_83 : decode cX6_errorPosition 83 = .ok (.iconst 1, 1) := by decide +kernel
theorem dX6_errorPosition_84 : decode cX6_errorPosition 84 = .ok (.goto 4, 3) := by decide +kernel
theorem dX6_errorPosition_87 : decode cX6_errorPosition 87 = .ok (.iconst 0, 1) := by decide +kernel
theorem dX6_errorPosition_88 : decode cX6_errorPosition 88 = .ok (.istore_n 1, 1) := by decide +kernel
theorem dX6_errorPosition_89 : decode cX6_errorPosition 89 = .ok (.goto (-71), 3) := by decide +kernel
theorem dX6_errorPosition_92 : decode cX6_errorPosition 92 = .ok (.aload_n 0, 1) := by decide +kernel
theorem dX6_errorPosition_93 : decode cX6_errorPosition 93 = .ok (.getfield 138, 3) := by decide +kernel
theorem dX6_errorPosition_96 : decode cX6_errorPosition 96 = .ok (.ireturn, 1) := by decide +kernel
set_option maxRecDepth 20000 in
theorem ggX6_carryOutOne_X6_whyNotArrow : GoodIn wsX6_carryOutOne wsX6_whyNotArrow := goodIn_r _ [6, 7, 8, 5, 9, 10, 11, 12, 13, 14, 15, 16, 17, 18, 19, 20, 21, 22, 23, 24, 25, 26, 27, 28, 29, 30, 31, 32, 33, 34, 70, 71, 72, 73, 74, 75, 76, 77, 78, 79, 80, 81] (by decide +kernel) (by decide +kernel)
set_option maxRecDepth 20000 in
theorem gX6_carryOutOne_X6_whyNotArrow : GoodIn wsX6_carryOutOne (wsV RX6 68 RX6 yX6_whyNotArrow wsX6_whyNotArrow) := goodIn_app (goodIn_of _ (by decide +kernel)) ggX6_carryOutOne_X6_whyNotArrow
set_option maxRecDepth 20000 in
theorem ggX6_carryOutOne_X6_cellAt : GoodIn wsX6_carryOutOne wsX6_cellAt := goodIn_r _ [28] (by decide +kernel) (by decide +kernel)
set_option maxRecDepth 20000 in
theorem gX6_carryOutOne_X6_cellAt : GoodIn wsX6_carryOutOne (va_wsS RX6 33 yX6_cellAt wsX6_cellAt) := goodIn_app (goodIn_of _ (by decide +kernel)) ggX6_carryOutOne_X6_cellAt
set_option maxRecDepth 20000 in
theorem ggX6_carryOutOne_X6_signs : GoodIn wsX6_carryOutOne wsX6_signs := goodIn_r _ [38, 17, 70, 71, 72, 73, 74, 75, 76, 77, 78, 79, 80, 81] (by decide +kernel) (by decide +kernel)
set_option maxRecDepth 20000 in
theorem gX6_carryOutOne_X6_signs : GoodIn wsX6_carryOutOne (wsV RX6 71 RX6 yX6_signs wsX6_signs) := goodIn_app (goodIn_of _ (by decide +kernel)) ggX6_carryOutOne_X6_signs
set_option maxRecDepth 20000 in
theorem ggX6_carryOutOne_X6_lineAt : GoodIn wsX6_carryOutOne wsX6_lineAt := goodIn_r _ [34] (by decide +kernel) (by decide +kernel)
set_option maxRecDepth 20000 in
theorem gX6_carryOutOne_X6_lineAt : GoodIn wsX6_carryOutOne (va_wsS RX6 59 yX6_lineAt wsX6_lineAt) := goodIn_app (goodIn_of _ (by decide +kernel)) ggX6_carryOutOne_X6_lineAt
set_option maxRecDepth 20000 in
theorem ggX6_carryOutOne_X6_whyNotNight : GoodIn wsX6_carryOutOne wsX6_whyNotNight := goodIn_r _ [42, 17, 10, 11, 5, 12, 70, 71, 72, 73, 74, 75, 76, 77, 78, 79, 80, 81] (by decide +kernel) (by decide +kernel)
set_option maxRecDepth 20000 in
theorem gX6_carryOutOne_X6_whyNotNight : GoodIn wsX6_carryOutOne (wsV RX6 107 RX6 yX6_whyNotNight wsX6_whyNotNight) := goodIn_app (goodIn_of _ (by decide +kernel)) ggX6_carryOutOne_X6_whyNotNight
set_option maxRecDepth 20000 in
theorem ggX6_carryOutOne_X6_works : GoodIn wsX6_carryOutOne wsX6_works := goodIn_r _ [46, 17, 47, 48, 5, 49, 26, 27, 28, 32, 33, 34, 50, 51, 52, 53, 70, 71, 72, 73, 74, 75, 76, 77, 78, 79, 80, 81] (by decide +kernel) (by decide +kernel)
set_option maxRecDepth 20000 in
theorem gX6_carryOutOne_X6_works : GoodIn wsX6_carryOutOne (wsV RX6 110 RX6 yX6_works wsX6_works) := goodIn_app (goodIn_of _ (by decide +kernel)) ggX6_carryOutOne_X6_works
set_option maxRecDepth 20000 in
theorem ggX6_carryOutOne_X6_day : GoodIn wsX6_carryOutOne wsX6_day := goodIn_r _ [57, 17, 58, 59, 60, 5, 61, 26, 27, 28, 62, 63, 64, 65, 66, 67, 68, 69, 32, 33, 34, 70, 71, 72, 73, 74, 75, 76, 77, 78, 79, 80, 81] (by decide +kernel) (by decide +kernel)
set_option maxRecDepth 20000 in
theorem gX6_carryOutOne_X6_day : GoodIn wsX6_carryOutOne (wsV RX6 96 RX6 yX6_day wsX6_day) := goodIn_app (goodIn_of _ (by decide +kernel)) ggX6_carryOutOne_X6_day
theorem dX6_carryOutOne_0 : decode cX6_carryOutOne 0 = .ok (.aload_n 0, 1) := by decide +kernel
theorem dX6_carryOutOne_1 : decode cX6_carryOutOne 1 = .ok (.getfield 26, 3) := by decide +kernel
theorem dX6_carryOutOne_4 : decode cX6_carryOutOne 4 = .ok (.iload_n 1, 1) := by decide +kernel
theorem dX6_carryOutOne_5 : decode cX6_carryOutOne 5 = .ok (.iconst 1, 1) := by decide +kernel
theorem dX6_carryOutOne_6 : decode cX6_carryOutOne 6 = .ok (.iadd, 1) := by decide +kernel
theorem dX6_carryOutOne_7 : decode cX6_carryOutOne 7 = .ok (.iaload, 1) := by decide +kernel
theorem dX6_carryOutOne_8 : decode cX6_carryOutOne 8 = .ok (.istore_n 2, 1) := by decide +kernel
theorem dX6_carryOutOne_9 : decode cX6_carryOutOne 9 = .ok (.aload_n 0, 1) := by decide +kernel
theorem dX6_carryOutOne_10 : decode cX6_carryOutOne 10 = .ok (.getfield 26, 3) := by decide +kernel
theorem dX6_carryOutOne_13 : decode cX6_carryOutOne 13 = .ok (.iload_n 1, 1) := by decide +kernel
theorem dX6_carryOutOne_14 : decode cX6_carryOutOne 14 = .ok (.iconst 2, 1) := by decide +kernel
theorem dX6_carryOutOne_15 : decode cX6_carryOutOne 15 = .ok (.iadd, 1) := by decide +kernel
theorem dX6_carryOutOne_16 : decode cX6_carryOutOne 16 = .ok (.iaload, 1) := by decide +kernel
theorem dX6_carryOutOne_17 : decode cX6_carryOutOne 17 = .ok (.istore_n 3, 1) := by decide +kernel
theorem dX6_carryOutOne_18 : decode cX6_carryOutOne 18 = .ok (.aload_n 0, 1) := by decide +kernel
theorem dX6_carryOutOne_19 : decode cX6_carryOutOne 19 = .ok (.getfield 26, 3) := by decide +kernel
theorem dX6_carryOutOne_22 : decode cX6_carryOutOne 22 = .ok (.iload_n 1, 1) := by decide +kernel
theorem dX6_carryOutOne_23 : decode cX6_carryOutOne 23 = .ok (.iconst 3, 1) := by decide +kernel
theorem dX6_carryOutOne_24 : decode cX6_carryOutOne 24 = .ok (.iadd, 1) := by decide +kernel
theorem dX6_carryOutOne_25 : decode cX6_carryOutOne 25 = .ok (.iaload, 1) := by decide +kernel
theorem dX6_carryOutOne_26 : decode cX6_carryOutOne 26 = .ok (.istore 4, 2) := by decide +kernel
theorem dX6_carryOutOne_28 : decode cX6_carryOutOne 28 = .ok (.iconst 0, 1) := by decide +kernel
theorem dX6_carryOutOne_29 : decode cX6_carryOutOne 29 = .ok (.istore 5, 2) := by decide +kernel
theorem dX6_carryOutOne_31 : decode cX6_carryOutOne 31 = .ok (.aload_n 0, 1) := by decide +kernel
theorem dX6_carryOutOne_32 : decode cX6_carryOutOne 32 = .ok (.getfield 26, 3) := by decide +kernel
theorem dX6_carryOutOne_35 : decode cX6_carryOutOne 35 = .ok (.iload_n 1, 1) := by decide +kernel
theorem dX6_carryOutOne_36 : decode cX6_carryOutOne 36 = .ok (.iaload, 1) := by decide +kernel
theorem dX6_carryOutOne_37 : decode cX6_carryOutOne 37 = .ok (.lookupswitch 132 #[(97, 43), (108, 94), (110, 109), (119, 75)], 43) := by decide +kernel
theorem dX6_carryOutOne_80 : decode cX6_carryOutOne 80 = .ok (.aload_n 0, 1) := by decide +kernel
theorem dX6_carryOutOne_81 : decode cX6_carryOutOne 81 = .ok (.iload_n 2, 1) := by decide +kernel
theorem dX6_carryOutOne_82 : decode cX6_carryOutOne 82 = .ok (.iload_n 3, 1) := by decide +kernel
theorem dX6_carryOutOne_83 : decode cX6_carryOutOne 83 = .ok (.iload 4, 2) := by decide +kernel
theorem dX6_carryOutOne_85 : decode cX6_carryOutOne 85 = .ok (.invokevirtual 68, 3) := by decide +kernel
theorem dX6_carryOutOne_88 : decode cX6_carryOutOne 88 = .ok (.istore 5, 2) := by decide +kernel
theorem dX6_carryOutOne_90 : decode cX6_carryOutOne 90 = .ok (.iload 5, 2) := by decide +kernel
theorem dX6_carryOutOne_92 : decode cX6_carryOutOne 92 = .ok (.ifCond .ne 82, 3) := by decide +kernel
theorem dX6_carryOutOne_95 : decode cX6_carryOutOne 95 = .ok (.aload_n 0, 1) := by decide +kernel
theorem dX6_carryOutOne_96 : decode cX6_carryOutOne 96 = .ok (.iload_n 2, 1) := by decide +kernel
theorem dX6_carryOutOne_97 : decode cX6_carryOutOne 97 = .ok (.iload_n 3, 1) := by decide +kernel
theorem dX6_carryOutOne_98 : decode cX6_carryOutOne 98 = .ok (.invokestatic 33, 3) := by decide +kernel
theorem dX6_carryOutOne_101 : decode cX6_carryOutOne 101 = .ok (.iload 4, 2) := by decide +kernel
theorem dX6_carryOutOne_103 : decode cX6_carryOutOne 103 = .ok (.iconst 1, 1) := by decide +kernel
theorem dX6_carryOutOne_104 : decode cX6_carryOutOne 104 = .ok (.iadd, 1) := by decide +kernel
theorem dX6_carryOutOne_105 : decode cX6_carryOutOne 105 = .ok (.invokevirtual 71, 3) := by decide +kernel
theorem dX6_carryOutOne_108 : decode cX6_carryOutOne 108 = .ok (.pop, 1) := by decide +kernel
theorem dX6_carryOutOne_109 : decode cX6_carryOutOne 109 = .ok (.goto 65, 3) := by decide +kernel
theorem dX6_carryOutOne_112 : decode cX6_carryOutOne 112 = .ok (.aload_n 0, 1) := by decide +kernel
theorem dX6_carryOutOne_113 : decode cX6_carryOutOne 113 = .ok (.iload_n 2, 1) := by decide +kernel
theorem dX6_carryOutOne_114 : decode cX6_carryOutOne 114 = .ok (.iload_n 3, 1) := by decide +kernel
theorem dX6_carryOutOne_115 : decode cX6_carryOutOne 115 = .ok (.invokestatic 33, 3) := by decide +kernel
theorem dX6_carryOutOne_118 : decode cX6_carryOutOne 118 = .ok (.iconst 2, 1) := by decide +kernel
theorem dX6_carryOutOne_119 : decode cX6_carryOutOne 119 = .ok (.iadd, 1) := by decide +kernel
theorem dX6_carryOutOne_120 : decode cX6_carryOutOne 120 = .ok (.iload 4, 2) := by decide +kernel
theorem dX6_carryOutOne_122 : decode cX6_carryOutOne 122 = .ok (.iconst 1, 1) := by decide +kernel
theorem dX6_carryOutOne_123 : decode cX6_carryOutOne 123 = .ok (.iadd, 1) := by decide +kernel
theorem dX6_carryOutOne_124 : decode cX6_carryOutOne 124 = .ok (.invokevirtual 71, 3) := by decide +kernel
theorem dX6_carryOutOne_127 : decode cX6_carryOutOne 127 = .ok (.pop, 1) := by decide +kernel
theorem dX6_carryOutOne_128 : decode cX6_carryOutOne 128 = .ok (.goto 46, 3) := by decide +kernel
theorem dX6_carryOutOne_131 : decode cX6_carryOutOne 131 = .ok (.aload_n 0, 1) := by decide +kernel
theorem dX6_carryOutOne_132 : decode cX6_carryOutOne 132 = .ok (.iload_n 2, 1) := by decide +kernel
theorem dX6_carryOutOne_133 : decode cX6_carryOutOne 133 = .ok (.iload_n 3, 1) := by decide +kernel
theorem dX6_carryOutOne_134 : decode cX6_carryOutOne 134 = .ok (.invokestatic 59, 3) := by decide +kernel
theorem dX6_carryOutOne_137 : decode cX6_carryOutOne 137 = .ok (.iload 4, 2) := by decide +kernel
theorem dX6_carryOutOne_139 : decode cX6_carryOutOne 139 = .ok (.invokevirtual 71, 3) := by decide +kernel
theorem dX6_carryOutOne_142 : decode cX6_carryOutOne 142 = .ok (.pop, 1) := by decide +kernel
theorem dX6_carryOutOne_143 : decode cX6_carryOutOne 143 = .ok (.goto 31, 3) := by decide +kernel
theorem dX6_carryOutOne_146 : decode cX6_carryOutOne 146 = .ok (.aload_n 0, 1) := by decide +kernel
theorem dX6_carryOutOne_147 : decode cX6_carryOutOne 147 = .ok (.iload_n 2, 1) := by decide +kernel
theorem dX6_carryOutOne_148 : decode cX6_carryOutOne 148 = .ok (.iload_n 3, 1) := by decide +kernel
theorem dX6_carryOutOne_149 : decode cX6_carryOutOne 149 = .ok (.invokevirtual 107, 3) := by decide +kernel
theorem dX6_carryOutOne_152 : decode cX6_carryOutOne 152 = .ok (.istore 5, 2) := by decide +kernel
theorem dX6_carryOutOne_154 : decode cX6_carryOutOne 154 = .ok (.iload 5, 2) := by decide +kernel
theorem dX6_carryOutOne_156 : decode cX6_carryOutOne 156 = .ok (.ifCond .ne 18, 3) := by decide +kernel
theorem dX6_carryOutOne_159 : decode cX6_carryOutOne 159 = .ok (.aload_n 0, 1) := by decide +kernel
theorem dX6_carryOutOne_160 : decode cX6_carryOutOne 160 = .ok (.iload_n 2, 1) := by decide +kernel
theorem dX6_carryOutOne_161 : decode cX6_carryOutOne 161 = .ok (.iload_n 3, 1) := by decide +kernel
theorem dX6_carryOutOne_162 : decode cX6_carryOutOne 162 = .ok (.invokevirtual 110, 3) := by decide +kernel
theorem dX6_carryOutOne_165 : decode cX6_carryOutOne 165 = .ok (.pop, 1) := by decide +kernel
theorem dX6_carryOutOne_166 : decode cX6_carryOutOne 166 = .ok (.goto 8, 3) := by decide +kernel
theorem dX6_carryOutOne_169 : decode cX6_carryOutOne 169 = .ok (.aload_n 0, 1) := by decide +kernel
theorem dX6_carryOutOne_170 : decode cX6_carryOutOne 170 = .ok (.invokevirtual 96, 3) := by decide +kernel
theorem dX6_carryOutOne_173 : decode cX6_carryOutOne 173 = .ok (.pop, 1) := by decide +kernel
theorem dX6_carryOutOne_174 : decode cX6_carryOutOne 174 = .ok (.iload 5, 2) := by decide +kernel
theorem dX6_carryOutOne_176 : decode cX6_carryOutOne 176 = .ok (.ireturn, 1) := by decide +kernel
set_option maxRecDepth 20000 in
theorem ggX6_carryOut_X6_errorPosition : GoodIn wsX6_carryOut wsX6_errorPosition := goodIn_r _ [7, 1, 8, 9, 2, 10, 11, 12, 6, 13, 14, 15, 16, 17, 18, 19, 20, 21, 22, 23, 24, 25, 26, 27, 28, 29, 30, 31, 32, 33, 34, 35, 36, 37, 38, 113, 114, 115, 116, 117, 118, 119, 120, 121, 122, 123, 124] (by decide +kernel) (by decide +kernel)
set_option maxRecDepth 20000 in
theorem gX6_carryOut_X6_errorPosition : GoodIn wsX6_carryOut (wsV RX6 163 RX6 yX6_errorPosition wsX6_errorPosition) := goodIn_app (goodIn_of _ (by decide +kernel)) ggX6_carryOut_X6_errorPosition
set_option maxRecDepth 20000 in
theorem ggX6_carryOut_X6_record : GoodIn wsX6_carryOut wsX6_record := goodIn_r _ [42, 43, 44, 45, 113, 114, 115, 116, 117, 118, 119, 120, 121, 122, 123, 124] (by decide +kernel) (by decide +kernel)
set_option maxRecDepth 20000 in
theorem gX6_carryOut_X6_record : GoodIn wsX6_carryOut (wsV RX6 45 RX6 yX6_record wsX6_record) := goodIn_app (goodIn_of _ (by decide +kernel)) ggX6_carryOut_X6_record
set_option maxRecDepth 20000 in
theorem ggX6_carryOut_X6_carryOutOne : GoodIn wsX6_carryOut wsX6_carryOutOne := goodIn_r _ [49, 14, 50, 51, 52, 6, 53, 54, 55, 56, 28, 29, 30, 57, 58, 59, 60, 45, 61, 62, 63, 64, 65, 66, 67, 68, 69, 70, 71, 72, 73, 74, 75, 76, 77, 78, 79, 80, 81, 82, 83, 84, 85, 86, 87, 88, 89, 90, 91, 92, 93, 94, 95, 96, 97, 98, 99, 100, 101, 102, 103, 104, 105, 106, 107, 108, 109, 110, 111, 112, 113, 114, 115, 116, 117, 118, 119, 120, 121, 122, 123, 124] (by decide +kernel) (by decide +kernel)
set_option maxRecDepth 20000 in
theorem gX6_carryOut_X6_carryOutOne : GoodIn wsX6_carryOut (wsV RX6 166 RX6 yX6_carryOutOne wsX6_carryOutOne) := goodIn_app (goodIn_of _ (by decide +kernel)) ggX6_carryOut_X6_carryOutOne
theorem dX6_carryOut_0 : decode cX6_carryOut 0 = .ok (.aload_n 0, 1) := by decide +kernel
theorem dX6_carryOut_1 : decode cX6_carryOut 1 = .ok (.invokevirtual 163, 3) := by decide +kernel
theorem dX6_carryOut_4 : decode cX6_carryOut 4 = .ok (.bipush (-6), 2) := by decide +kernel
theorem dX6_carryOut_6 : decode cX6_carryOut 6 = .ok (.if_icmp .eq 6, 3) := by decide +kernel
theorem dX6_carryOut_9 : decode cX6_carryOut 9 = .ok (.bipush (-5), 2) := by decide +kernel
theorem dX6_carryOut_11 : decode cX6_carryOut 11 = .ok (.ireturn, 1) := by decide +kernel
theorem dX6_carryOut_12 : decode cX6_carryOut 12 = .ok (.aload_n 0, 1) := by decide +kernel
theorem dX6_carryOut_13 : decode cX6_carryOut 13 = .ok (.invokevirtual 45, 3) := by decide +kernel
theorem dX6_carryOut_16 : decode cX6_carryOut 16 = .ok (.iconst 0, 1) := by decide +kernel
theorem dX6_carryOut_17 : decode cX6_carryOut 17 = .ok (.istore_n 1, 1) := by decide +kernel
theorem dX6_carryOut_18 : decode cX6_carryOut 18 = .ok (.iload_n 1, 1) := by decide +kernel
theorem dX6_carryOut_19 : decode cX6_carryOut 19 = .ok (.aload_n 0, 1) := by decide +kernel
theorem dX6_carryOut_20 : decode cX6_carryOut 20 = .ok (.getfield 148, 3) := by decide +kernel
theorem dX6_carryOut_23 : decode cX6_carryOut 23 = .ok (.if_icmp .ge 19, 3) := by decide +kernel
theorem dX6_carryOut_26 : decode cX6_carryOut 26 = .ok (.aload_n 0, 1) := by decide +kernel
theorem dX6_carryOut_27 : decode cX6_carryOut 27 = .ok (.iconst 4, 1) := by decide +kernel
theorem dX6_carryOut_28 : decode cX6_carryOut 28 = .ok (.iload_n 1, 1) := by decide +kernel
theorem dX6_carryOut_29 : decode cX6_carryOut 29 = .ok (.imul, 1) := by decide +kernel
theorem dX6_carryOut_30 : decode cX6_carryOut 30 = .ok (.invokevirtual 166, 3) := by decide +kernel
theorem dX6_carryOut_33 : decode cX6_carryOut 33 = .ok (.ifCond .ne 9, 3) := by decide +kernel
theorem dX6_carryOut_36 : decode cX6_carryOut 36 = .ok (.iinc 1 1, 3) := by decide +kernel
theorem dX6_carryOut_39 : decode cX6_carryOut 39 = .ok (.goto (-21), 3) := by decide +kernel
theorem dX6_carryOut_42 : decode cX6_carryOut 42 = .ok (.aload_n 0, 1) := by decide +kernel
theorem dX6_carryOut_43 : decode cX6_carryOut 43 = .ok (.iconst 0, 1) := by decide +kernel
theorem dX6_carryOut_44 : decode cX6_carryOut 44 = .ok (.putfield 132, 3) := by decide +kernel
theorem dX6_carryOut_47 : decode cX6_carryOut 47 = .ok (.iload_n 1, 1) := by decide +kernel
theorem dX6_carryOut_48 : decode cX6_carryOut 48 = .ok (.ireturn, 1) := by decide +kernel
theorem dJ11_isValidCodePoint_9a6ad_0 : decode cJ11_isValidCodePoint_9a6ad 0 = .ok (.iload_n 0, 1) := by decide +kernel
theorem dJ11_isValidCodePoint_9a6ad_1 : decode cJ11_isValidCodePoint_9a6ad 1 = .ok (.bipush 16, 2) := by decide +kernel
theorem dJ11_isValidCodePoint_9a6ad_3 : decode cJ11_isValidCodePoint_9a6ad 3 = .ok (.iushr, 1) := by decide +kernel
theorem dJ11_isValidCodePoint_9a6ad_4 : decode cJ11_isValidCodePoint_9a6ad 4 = .ok (.istore_n 1, 1) := by decide +kernel
theorem dJ11_isValidCodePoint_9a6ad_5 : decode cJ11_isValidCodePoint_9a6ad 5 = .ok (.iload_n 1, 1) := by decide +kernel
theorem dJ11_isValidCodePoint_9a6ad_6 : decode cJ11_isValidCodePoint_9a6ad 6 = .ok (.bipush 17, 2) := by decide +kernel
theorem dJ11_isValidCodePoint_9a6ad_8 : decode cJ11_isValidCodePoint_9a6ad 8 = .ok (.if_icmp .ge 7, 3) := by decide +kernel
theorem dJ11_isValidCodePoint_9a6ad_11 : decode cJ11_isValidCodePoint_9a6ad 11 = .ok (.iconst 1, 1) := by decide +kernel
theorem dJ11_isValidCodePoint_9a6ad_12 : decode cJ11_isValidCodePoint_9a6ad 12 = .ok (.goto 4, 3) := by decide +kernel
theorem dJ11_isValidCodePoint_9a6ad_15 : decode cJ11_isValidCodePoint_9a6ad 15 = .ok (.iconst 0, 1) := by decide +kernel
theorem dJ11_isValidCodePoint_9a6ad_16 : decode cJ11_isValidCodePoint_9a6ad 16 = .ok (.ireturn, 1) := by decide +kernel
theorem dJ11_highSurrogate_5068e_0 : decode cJ11_highSurrogate_5068e 0 = .ok (.iload_n 0, 1) := by decide +kernel
theorem dJ11_highSurrogate_5068e_1 : decode cJ11_highSurrogate_5068e 1 = .ok (.bipush 10, 2) := by decide +kernel
theorem dJ11_highSurrogate_5068e_3 : decode cJ11_highSurrogate_5068e 3 = .ok (.iushr, 1) := by decide +kernel
theorem dJ11_highSurrogate_5068e_4 : decode cJ11_highSurrogate_5068e 4 = .ok (.ldc 110, 2) := by decide +kernel
theorem dJ11_highSurrogate_5068e_6 : decode cJ11_highSurrogate_5068e 6 = .ok (.iadd, 1) := by decide +kernel
theorem dJ11_highSurrogate_5068e_7 : decode cJ11_highSurrogate_5068e 7 = .ok (.i2c, 1) := by decide +kernel
theorem dJ11_highSurrogate_5068e_8 : decode cJ11_highSurrogate_5068e 8 = .ok (.ireturn, 1) := by decide +kernel
theorem dJ11_lowSurrogate_5068e_0 : decode cJ11_lowSurrogate_5068e 0 = .ok (.iload_n 0, 1) := by decide +kernel
theorem dJ11_lowSurrogate_5068e_1 : decode cJ11_lowSurrogate_5068e 1 = .ok (.sipush 1023, 3) := by decide +kernel
theorem dJ11_lowSurrogate_5068e_4 : decode cJ11_lowSurrogate_5068e 4 = .ok (.iand, 1) := by decide +kernel
theorem dJ11_lowSurrogate_5068e_5 : decode cJ11_lowSurrogate_5068e 5 = .ok (.ldc 76, 2) := by decide +kernel
theorem dJ11_lowSurrogate_5068e_7 : decode cJ11_lowSurrogate_5068e 7 = .ok (.iadd, 1) := by decide +kernel
theorem dJ11_lowSurrogate_5068e_8 : decode cJ11_lowSurrogate_5068e 8 = .ok (.i2c, 1) := by decide +kernel
theorem dJ11_lowSurrogate_5068e_9 : decode cJ11_lowSurrogate_5068e 9 = .ok (.ireturn, 1) := by decide +kernel
theorem dJ9_abs_0f7a4_0 : decode cJ9_abs_0f7a4 0 = .ok (.iload_n 0, 1) := by decide +kernel
theorem dJ9_abs_0f7a4_1 : decode cJ9_abs_0f7a4 1 = .ok (.ifCond .ge 8, 3) := by decide +kernel
theorem dJ9_abs_0f7a4_4 : decode cJ9_abs_0f7a4 4 = .ok (.iload_n 0, 1) := by decide +kernel
theorem dJ9_abs_0f7a4_5 : decode cJ9_abs_0f7a4 5 = .ok (.ineg, 1) := by decide +kernel
theorem dJ9_abs_0f7a4_6 : decode cJ9_abs_0f7a4 6 = .ok (.goto 4, 3) := by decide +kernel
theorem dJ9_abs_0f7a4_9 : decode cJ9_abs_0f7a4 9 = .ok (.iload_n 0, 1) := by decide +kernel
theorem dJ9_abs_0f7a4_10 : decode cJ9_abs_0f7a4 10 = .ok (.ireturn, 1) := by decide +kernel
theorem dJ9_max_7cf53_0 : decode cJ9_max_7cf53 0 = .ok (.iload_n 0, 1) := by decide +kernel
theorem dJ9_max_7cf53_1 : decode cJ9_max_7cf53 1 = .ok (.iload_n 1, 1) := by decide +kernel
theorem dJ9_max_7cf53_2 : decode cJ9_max_7cf53 2 = .ok (.if_icmp .lt 7, 3) := by decide +kernel
theorem dJ9_max_7cf53_5 : decode cJ9_max_7cf53 5 = .ok (.iload_n 0, 1) := by decide +kernel
theorem dJ9_max_7cf53_6 : decode cJ9_max_7cf53 6 = .ok (.goto 4, 3) := by decide +kernel
theorem dJ9_max_7cf53_9 : decode cJ9_max_7cf53 9 = .ok (.iload_n 1, 1) := by decide +kernel
theorem dJ9_max_7cf53_10 : decode cJ9_max_7cf53 10 = .ok (.ireturn, 1) := by decide +kernel
theorem dJ9_min_7cf53_0 : decode cJ9_min_7cf53 0 = .ok (.iload_n 0, 1) := by decide +kernel
theorem dJ9_min_7cf53_1 : decode cJ9_min_7cf53 1 = .ok (.iload_n 1, 1) := by decide +kernel
theorem dJ9_min_7cf53_2 : decode cJ9_min_7cf53 2 = .ok (.if_icmp .gt 7, 3) := by decide +kernel
theorem dJ9_min_7cf53_5 : decode cJ9_min_7cf53 5 = .ok (.iload_n 0, 1) := by decide +kernel
theorem dJ9_min_7cf53_6 : decode cJ9_min_7cf53 6 = .ok (.goto 4, 3) := by decide +kernel
theorem dJ9_min_7cf53_9 : decode cJ9_min_7cf53 9 = .ok (.iload_n 1, 1) := by decide +kernel
theorem dJ9_min_7cf53_10 : decode cJ9_min_7cf53 10 = .ok (.ireturn, 1) := by decide +kernel
set_option maxRecDepth 20000 in
theorem ggJ0_length_8abf5_J0_coder_7d493 : GoodIn wsJ0_length_8abf5 wsJ0_coder_7d493 := goodIn_r _ [6, 7, 8] (by decide +kernel) (by decide +kernel)
set_option maxRecDepth 20000 in
theorem gJ0_length_8abf5_J0_coder_7d493 : GoodIn wsJ0_length_8abf5 (wsV RJ0 335 RJ0 yJ0_coder_7d493 wsJ0_coder_7d493) := goodIn_app (goodIn_of _ (by decide +kernel)) ggJ0_length_8abf5_J0_coder_7d493
theorem dJ0_length_8abf5_0 : decode cJ0_length_8abf5 0 = .ok (.aload_n 0, 1) := by decide +kernel
theorem dJ0_length_8abf5_1 : decode cJ0_length_8abf5 1 = .ok (.getfield 9, 3) := by decide +kernel
theorem dJ0_length_8abf5_4 : decode cJ0_length_8abf5 4 = .ok (.arraylength, 1) := by decide +kernel
theorem dJ0_length_8abf5_5 : decode cJ0_length_8abf5 5 = .ok (.aload_n 0, 1) := by decide +kernel
theorem dJ0_length_8abf5_6 : decode cJ0_length_8abf5 6 = .ok (.invokevirtual 335, 3) := by decide +kernel
theorem dJ0_length_8abf5_9 : decode cJ0_length_8abf5 9 = .ok (.ishr, 1) := by decide +kernel
theorem dJ0_length_8abf5_10 : decode cJ0_length_8abf5 10 = .ok (.ireturn, 1) := by decide +kernel
theorem dJ0_isEmpty_aae02_0 : decode cJ0_isEmpty_aae02 0 = .ok (.aload_n 0, 1) := by decide +kernel
theorem dJ0_isEmpty_aae02_1 : decode cJ0_isEmpty_aae02 1 = .ok (.getfield 9, 3) := by decide +kernel
theorem dJ0_isEmpty_aae02_4 : decode cJ0_isEmpty_aae02 4 = .ok (.arraylength, 1) := by decide +kernel
theorem dJ0_isEmpty_aae02_5 : decode cJ0_isEmpty_aae02 5 = .ok (.ifCond .ne 7, 3) := by decide +kernel
theorem dJ0_isEmpty_aae02_8 : decode cJ0_isEmpty_aae02 8 = .ok (.iconst 1, 1) := by decide +kernel
theorem dJ0_isEmpty_aae02_9 : decode cJ0_isEmpty_aae02 9 = .ok (.goto 4, 3) := by decide +kernel
theorem dJ0_isEmpty_aae02_12 : decode cJ0_isEmpty_aae02 12 = .ok (.iconst 0, 1) := by decide +kernel
theorem dJ0_isEmpty_aae02_13 : decode cJ0_isEmpty_aae02 13 = .ok (.ireturn, 1) := by decide +kernel
set_option maxRecDepth 20000 in
theorem ggJ0_charAt_5068e_J0_isLatin1_aae02 : GoodIn wsJ0_charAt_5068e wsJ0_isLatin1_aae02 := goodIn_r _ [6, 7, 8] (by decide +kernel) (by decide +kernel)
set_option maxRecDepth 20000 in
theorem gJ0_charAt_5068e_J0_isLatin1_aae02 : GoodIn wsJ0_charAt_5068e (wsV RJ0 492 RJ0 yJ0_isLatin1_aae02 wsJ0_isLatin1_aae02) := goodIn_app (goodIn_of _ (by decide +kernel)) ggJ0_charAt_5068e_J0_isLatin1_aae02
set_option maxRecDepth 20000 in
theorem ggJ0_charAt_5068e_J1_charAt_3b067 : GoodIn wsJ0_charAt_5068e wsJ1_charAt_3b067 := goodIn_r _ [12, 13, 14, 5, 15, 16, 17, 18, 19, 20] (by decide +kernel) (by decide +kernel)
set_option maxRecDepth 20000 in
theorem gJ0_charAt_5068e_J1_charAt_3b067 : GoodIn wsJ0_charAt_5068e (va_wsS RJ0 495 yJ1_charAt_3b067 wsJ1_charAt_3b067) := goodIn_app (goodIn_of _ (by decide +kernel)) ggJ0_charAt_5068e_J1_charAt_3b067
set_option maxRecDepth 20000 in
theorem ggJ0_charAt_5068e_J2_charAt_3b067 : GoodIn wsJ0_charAt_5068e wsJ2_charAt_3b067 := goodIn_r _ [24, 25, 26, 23, 27, 28, 29, 30, 31, 14, 5, 15, 16, 17, 18, 19, 20, 32, 33, 34, 35, 36, 37] (by decide +kernel) (by decide +kernel)
set_option maxRecDepth 20000 in
theorem gJ0_charAt_5068e_J2_charAt_3b067 : GoodIn wsJ0_charAt_5068e (va_wsS RJ0 498 yJ2_charAt_3b067 wsJ2_charAt_3b067) := goodIn_app (goodIn_of _ (by decide +kernel)) ggJ0_charAt_5068e_J2_charAt_3b067
theorem dJ0_charAt_5068e_0 : decode cJ0_charAt_5068e 0 = .ok (.aload_n 0, 1) := by decide +kernel
theorem dJ0_charAt_5068e_1 : decode cJ0_charAt_5068e 1 = .ok (.invokevirtual 492, 3) := by decide +kernel
theorem dJ0_charAt_5068e_4 : decode cJ0_charAt_5068e 4 = .ok (.ifCond .eq 12, 3) := by decide +kernel
theorem dJ0_charAt_5068e_7 : decode cJ0_charAt_5068e 7 = .ok (.aload_n 0, 1) := by decide +kernel
theorem dJ0_charAt_5068e_8 : decode cJ0_charAt_5068e 8 = .ok (.getfield 9, 3) := by decide +kernel
theorem dJ0_charAt_5068e_11 : decode cJ0_charAt_5068e 11 = .ok (.iload_n 1, 1) := by decide +kernel
theorem dJ0_charAt_5068e_12 : decode cJ0_charAt_5068e 12 = .ok (.invokestatic 495, 3) := by decide +kernel
theorem dJ0_charAt_5068e_15 : decode cJ0_charAt_5068e 15 = .ok (.ireturn, 1) := by decide +kernel
theorem dJ0_charAt_5068e_16 : decode cJ0_charAt_5068e 16 = .ok (.aload_n 0, 1) := by decide +kernel
theorem dJ0_charAt_5068e_17 : decode cJ0_charAt_5068e 17 = .ok (.getfield 9, 3) := by decide +kernel
theorem dJ0_charAt_5068e_20 : decode cJ0_charAt_5068e 20 = .ok (.iload_n 1, 1) := by decide +kernel
theorem dJ0_charAt_5068e_21 : decode cJ0_charAt_5068e 21 = .ok (.invokestatic 498, 3) := by decide +kernel
theorem dJ0_charAt_5068e_24 : decode cJ0_charAt_5068e 24 = .ok (.ireturn, 1) := by decide +kernel
set_option maxRecDepth 20000 in
theorem ggJ0_indexOf_0f7a4_J0_indexOf_7cf53 : GoodIn wsJ0_indexOf_0f7a4 wsJ0_indexOf_7cf53 := goodIn_r _ [5, 6, 7, 8, 9, 4, 10, 11, 12, 13, 14, 15, 16, 17, 18, 19, 20, 21, 22, 23, 24, 25, 26, 27, 28, 29, 30, 31, 32, 33, 34, 35, 36, 37, 38, 39, 40, 41, 42, 43, 44, 45, 46, 47, 48, 49, 50, 51, 52, 53, 54, 55, 56, 57, 58, 59, 60, 61, 62, 63, 64, 65, 66, 67, 68, 69, 70, 71, 72, 73, 74, 75, 76, 77, 78, 79, 80, 81, 82, 83, 84, 85] (by decide +kernel) (by decide +kernel)
set_option maxRecDepth 20000 in
theorem gJ0_indexOf_0f7a4_J0_indexOf_7cf53 : GoodIn wsJ0_indexOf_0f7a4 (wsV RJ0 633 RJ0 yJ0_indexOf_7cf53 wsJ0_indexOf_7cf53) := goodIn_app (goodIn_of _ (by decide +kernel)) ggJ0_indexOf_0f7a4_J0_indexOf_7cf53
theorem dJ0_indexOf_0f7a4_0 : decode cJ0_indexOf_0f7a4 0 = .ok (.aload_n 0, 1) := by decide +kernel
theorem dJ0_indexOf_0f7a4_1 : decode cJ0_indexOf_0f7a4 1 = .ok (.iload_n 1, 1) := by decide +kernel
theorem dJ0_indexOf_0f7a4_2 : decode cJ0_indexOf_0f7a4 2 = .ok (.iconst 0, 1) := by decide +kernel
theorem dJ0_indexOf_0f7a4_3 : decode cJ0_indexOf_0f7a4 3 = .ok (.invokevirtual 633, 3) := by decide +kernel
theorem dJ0_indexOf_0f7a4_6 : decode cJ0_indexOf_0f7a4 6 = .ok (.ireturn, 1) := by decide +kernel
set_option maxRecDepth 20000 in
theorem ggJ0_indexOf_7cf53_J0_isLatin1_aae02 : GoodIn wsJ0_indexOf_7cf53 wsJ0_isLatin1_aae02 := goodIn_r _ [6, 7, 8] (by decide +kernel) (by decide +kernel)
set_option maxRecDepth 20000 in
theorem gJ0_indexOf_7cf53_J0_isLatin1_aae02 : GoodIn wsJ0_indexOf_7cf53 (wsV RJ0 492 RJ0 yJ0_isLatin1_aae02 wsJ0_isLatin1_aae02) := goodIn_app (goodIn_of _ (by decide +kernel)) ggJ0_indexOf_7cf53_J0_isLatin1_aae02
set_option maxRecDepth 20000 in
theorem ggJ0_indexOf_7cf53_J0_length_8abf5 : GoodIn wsJ0_indexOf_7cf53 wsJ0_length_8abf5 := goodIn_r _ [12, 1, 13, 14, 15, 5, 16, 7, 8] (by decide +kernel) (by decide +kernel)
set_option maxRecDepth 20000 in
theorem gJ0_indexOf_7cf53_J0_length_8abf5 : GoodIn wsJ0_indexOf_7cf53 (wsV RJ0 505 RJ0 yJ0_length_8abf5 wsJ0_length_8abf5) := goodIn_app (goodIn_of _ (by decide +kernel)) ggJ0_indexOf_7cf53_J0_length_8abf5
set_option maxRecDepth 20000 in
theorem ggJ0_indexOf_7cf53_J1_indexOf_4cfef : GoodIn wsJ0_indexOf_7cf53 wsJ1_indexOf_4cfef := goodIn_r _ [20, 21, 22, 23, 24, 25, 26, 27, 28, 29, 19, 30, 31, 32, 33] (by decide +kernel) (by decide +kernel)
set_option maxRecDepth 20000 in
theorem gJ0_indexOf_7cf53_J1_indexOf_4cfef : GoodIn wsJ0_indexOf_7cf53 (va_wsS RJ0 637 yJ1_indexOf_4cfef wsJ1_indexOf_4cfef) := goodIn_app (goodIn_of _ (by decide +kernel)) ggJ0_indexOf_7cf53_J1_indexOf_4cfef
set_option maxRecDepth 20000 in
theorem ggJ0_indexOf_7cf53_J2_indexOf_4cfef : GoodIn wsJ0_indexOf_7cf53 wsJ2_indexOf_4cfef := goodIn_r _ [37, 38, 22, 23, 24, 39, 26, 27, 40, 41, 42, 36, 43, 44, 45, 46, 47, 48, 49, 50, 51, 5, 52, 53, 54, 55, 56, 57, 58, 59, 60, 61, 62, 63, 64, 65, 66, 67, 68, 69, 70, 71, 72, 73, 74, 75, 76, 77, 78, 79, 80, 81] (by decide +kernel) (by decide +kernel)

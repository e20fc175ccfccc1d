theorem dX6_mayChange_10 : decode cX6_mayChange 10 = .ok (.invokestatic 62, 3) := by decide +kernel
theorem dX6_mayChange_13 : decode cX6_mayChange 13 = .ok (.ifCond .ne 5, 3) := by decide +kernel
theorem dX6_mayChange_16 : decode cX6_mayChange 16 = .ok (.iconst (-1), 1) := by decide +kernel
theorem dX6_mayChange_17 : decode cX6_mayChange 17 = .ok (.ireturn, 1) := by decide +kernel
theorem dX6_mayChange_18 : decode cX6_mayChange 18 = .ok (.iload_n 1, 1) := by decide +kernel
theorem dX6_mayChange_19 : decode cX6_mayChange 19 = .ok (.iload_n 2, 1) := by decide +kernel
theorem dX6_mayChange_20 : decode cX6_mayChange 20 = .ok (.isub, 1) := by decide +kernel
theorem dX6_mayChange_21 : decode cX6_mayChange 21 = .ok (.iconst 1, 1) := by decide +kernel
theorem dX6_mayChange_22 : decode cX6_mayChange 22 = .ok (.if_icmp .eq 10, 3) := by decide +kernel
theorem dX6_mayChange_25 : decode cX6_mayChange 25 = .ok (.iload_n 2, 1) := by decide +kernel
theorem dX6_mayChange_26 : decode cX6_mayChange 26 = .ok (.iload_n 1, 1) := by decide +kernel
theorem dX6_mayChange_27 : decode cX6_mayChange 27 = .ok (.isub, 1) := by decide +kernel
theorem dX6_mayChange_28 : decode cX6_mayChange 28 = .ok (.iconst 1, 1) := by decide +kernel
theorem dX6_mayChange_29 : decode cX6_mayChange 29 = .ok (.if_icmp .ne 13, 3) := by decide +kernel
theorem dX6_mayChange_32 : decode cX6_mayChange 32 = .ok (.iload 4, 2) := by decide +kernel
theorem dX6_mayChange_34 : decode cX6_mayChange 34 = .ok (.iconst 0, 1) := by decide +kernel
theorem dX6_mayChange_35 : decode cX6_mayChange 35 = .ok (.iconst 1, 1) := by decide +kernel
theorem dX6_mayChange_36 : decode cX6_mayChange 36 = .ok (.invokestatic 29, 3) := by decide +kernel
theorem dX6_mayChange_39 : decode cX6_mayChange 39 = .ok (.ifCond .ne 6, 3) := by decide +kernel
theorem dX6_mayChange_42 : decode cX6_mayChange 42 = .ok (.bipush (-2), 2) := by decide +kernel
theorem dX6_mayChange_44 : decode cX6_mayChange 44 = .ok (.ireturn, 1) := by decide +kernel
theorem dX6_mayChange_45 : decode cX6_mayChange 45 = .ok (.aload_n 0, 1) := by decide +kernel
theorem dX6_mayChange_46 : decode cX6_mayChange 46 = .ok (.iload_n 1, 1) := by decide +kernel
theorem dX6_mayChange_47 : decode cX6_mayChange 47 = .ok (.iload_n 2, 1) := by decide +kernel
theorem dX6_mayChange_48 : decode cX6_mayChange 48 = .ok (.iload_n 3, 1) := by decide +kernel
theorem dX6_mayChange_49 : decode cX6_mayChange 49 = .ok (.iload 4, 2) := by decide +kernel
theorem dX6_mayChange_51 : decode cX6_mayChange 51 = .ok (.invokevirtual 116, 3) := by decide +kernel
theorem dX6_mayChange_54 : decode cX6_mayChange 54 = .ok (.ifCond .eq 7, 3) := by decide +kernel
theorem dX6_mayChange_57 : decode cX6_mayChange 57 = .ok (.iconst 1, 1) := by decide +kernel
theorem dX6_mayChange_58 : decode cX6_mayChange 58 = .ok (.goto 4, 3) := by decide +kernel
theorem dX6_mayChange_61 : decode cX6_mayChange 61 = .ok (.iconst 0, 1) := by decide +kernel
theorem dX6_mayChange_62 : decode cX6_mayChange 62 = .ok (.ireturn, 1) := by decide +kernel
set_option maxRecDepth 20000 in
theorem ggX6_readable_X6_isRead : GoodIn wsX6_readable wsX6_isRead := goodIn_r _ [5, 6, 7, 8, 4, 9, 10, 11, 12, 13, 14, 15, 16, 17, 18, 19, 20, 21] (by decide +kernel) (by decide +kernel)
set_option maxRecDepth 20000 in
theorem gX6_readable_X6_isRead : GoodIn wsX6_readable (wsV RX6 87 RX6 yX6_isRead wsX6_isRead) := goodIn_app (goodIn_of _ (by decide +kernel)) ggX6_readable_X6_isRead
theorem dX6_readable_0 : decode cX6_readable 0 = .ok (.iconst 0, 1) := by decide +kernel
theorem dX6_readable_1 : decode cX6_readable 1 = .ok (.istore_n 1, 1) := by decide +kernel
theorem dX6_readable_2 : decode cX6_readable 2 = .ok (.iconst 0, 1) := by decide +kernel
theorem dX6_readable_3 : decode cX6_readable 3 = .ok (.istore_n 2, 1) := by decide +kernel
theorem dX6_readable_4 : decode cX6_readable 4 = .ok (.iload_n 2, 1) := by decide +kernel
theorem dX6_readable_5 : decode cX6_readable 5 = .ok (.iconst 3, 1) := by decide +kernel
theorem dX6_readable_6 : decode cX6_readable 6 = .ok (.if_icmp .ge 40, 3) := by decide +kernel
theorem dX6_readable_9 : decode cX6_readable 9 = .ok (.iconst 0, 1) := by decide +kernel
theorem dX6_readable_10 : decode cX6_readable 10 = .ok (.istore_n 3, 1) := by decide +kernel
theorem dX6_readable_11 : decode cX6_readable 11 = .ok (.iload_n 3, 1) := by decide +kernel
theorem dX6_readable_12 : decode cX6_readable 12 = .ok (.bipush 16, 2) := by decide +kernel
theorem dX6_readable_14 : decode cX6_readable 14 = .ok (.if_icmp .ge 26, 3) := by decide +kernel
theorem dX6_readable_17 : decode cX6_readable 17 = .ok (.iload_n 1, 1) := by decide +kernel
theorem dX6_readable_18 : decode cX6_readable 18 = .ok (.aload_n 0, 1) := by decide +kernel
theorem dX6_readable_19 : decode cX6_readable 19 = .ok (.iload_n 2, 1) := by decide +kernel
theorem dX6_readable_20 : decode cX6_readable 20 = .ok (.iload_n 3, 1) := by decide +kernel
theorem dX6_readable_21 : decode cX6_readable 21 = .ok (.invokevirtual 87, 3) := by decide +kernel
theorem dX6_readable_24 : decode cX6_readable 24 = .ok (.ifCond .eq 7, 3) := by decide +kernel
theorem dX6_readable_27 : decode cX6_readable 27 = .ok (.iconst 1, 1) := by decide +kernel
theorem dX6_readable_28 : decode cX6_readable 28 = .ok (.goto 4, 3) := by decide +kernel
theorem dX6_readable_31 : decode cX6_readable 31 = .ok (.iconst 0, 1) := by decide +kernel
theorem dX6_readable_32 : decode cX6_readable 32 = .ok (.iadd, 1) := by decide +kernel
theorem dX6_readable_33 : decode cX6_readable 33 = .ok (.istore_n 1, 1) := by decide +kernel
theorem dX6_readable_34 : decode cX6_readable 34 = .ok (.iinc 3 1, 3) := by decide +kernel
theorem dX6_readable_37 : decode cX6_readable 37 = .ok (.goto (-26), 3) := by decide +kernel
theorem dX6_readable_40 : decode cX6_readable 40 = .ok (.iinc 2 1, 3) := by decide +kernel
theorem dX6_readable_43 : decode cX6_readable 43 = .ok (.goto (-39), 3) := by decide +kernel
theorem dX6_readable_46 : decode cX6_readable 46 = .ok (.iload_n 1, 1) := by decide +kernel
theorem dX6_readable_47 : decode cX6_readable 47 = .ok (.ireturn, 1) := by decide +kernel
theorem dX6_strengths_0 : decode cX6_strengths 0 = .ok (.iconst 0, 1) := by decide +kernel
theorem dX6_strengths_1 : decode cX6_strengths 1 = .ok (.istore_n 1, 1) := by decide +kernel
theorem dX6_strengths_2 : decode cX6_strengths 2 = .ok (.bipush 13, 2) := by decide +kernel
theorem dX6_strengths_4 : decode cX6_strengths 4 = .ok (.istore_n 2, 1) := by decide +kernel
theorem dX6_strengths_5 : decode cX6_strengths 5 = .ok (.iload_n 2, 1) := by decide +kernel
theorem dX6_strengths_6 : decode cX6_strengths 6 = .ok (.sipush 268, 3) := by decide +kernel
theorem dX6_strengths_9 : decode cX6_strengths 9 = .ok (.if_icmp .ge 18, 3) := by decide +kernel
theorem dX6_strengths_12 : decode cX6_strengths 12 = .ok (.iload_n 1, 1) := by decide +kernel
theorem dX6_strengths_13 : decode cX6_strengths 13 = .ok (.aload_n 0, 1) := by decide +kernel
theorem dX6_strengths_14 : decode cX6_strengths 14 = .ok (.getfield 7, 3) := by decide +kernel
theorem dX6_strengths_17 : decode cX6_strengths 17 = .ok (.iload_n 2, 1) := by decide +kernel
theorem dX6_strengths_18 : decode cX6_strengths 18 = .ok (.iaload, 1) := by decide +kernel
theorem dX6_strengths_19 : decode cX6_strengths 19 = .ok (.iadd, 1) := by decide +kernel
theorem dX6_strengths_20 : decode cX6_strengths 20 = .ok (.istore_n 1, 1) := by decide +kernel
theorem dX6_strengths_21 : decode cX6_strengths 21 = .ok (.iinc 2 2, 3) := by decide +kernel
theorem dX6_strengths_24 : decode cX6_strengths 24 = .ok (.goto (-19), 3) := by decide +kernel
theorem dX6_strengths_27 : decode cX6_strengths 27 = .ok (.iload_n 1, 1) := by decide +kernel
theorem dX6_strengths_28 : decode cX6_strengths 28 = .ok (.ireturn, 1) := by decide +kernel
theorem dX6_dashes_0 : decode cX6_dashes 0 = .ok (.iconst 0, 1) := by decide +kernel
theorem dX6_dashes_1 : decode cX6_dashes 1 = .ok (.istore_n 1, 1) := by decide +kernel
theorem dX6_dashes_2 : decode cX6_dashes 2 = .ok (.sipush 204, 3) := by decide +kernel
theorem dX6_dashes_5 : decode cX6_dashes 5 = .ok (.istore_n 2, 1) := by decide +kernel
theorem dX6_dashes_6 : decode cX6_dashes 6 = .ok (.iload_n 2, 1) := by decide +kernel
theorem dX6_dashes_7 : decode cX6_dashes 7 = .ok (.sipush 268, 3) := by decide +kernel
theorem dX6_dashes_10 : decode cX6_dashes 10 = .ok (.if_icmp .ge 26, 3) := by decide +kernel
theorem dX6_dashes_13 : decode cX6_dashes 13 = .ok (.iload_n 1, 1) := by decide +kernel
theorem dX6_dashes_14 : decode cX6_dashes 14 = .ok (.aload_n 0, 1) := by decide +kernel
theorem dX6_dashes_15 : decode cX6_dashes 15 = .ok (.getfield 7, 3) := by decide +kernel
theorem dX6_dashes_18 : decode cX6_dashes 18 = .ok (.iload_n 2, 1) := by decide +kernel
theorem dX6_dashes_19 : decode cX6_dashes 19 = .ok (.iaload, 1) := by decide +kernel
theorem dX6_dashes_20 : decode cX6_dashes 20 = .ok (.ifCond .le 7, 3) := by decide +kernel
theorem dX6_dashes_23 : decode cX6_dashes 23 = .ok (.iconst 1, 1) := by decide +kernel
theorem dX6_dashes_24 : decode cX6_dashes 24 = .ok (.goto 4, 3) := by decide +kernel
theorem dX6_dashes_27 : decode cX6_dashes 27 = .ok (.iconst 0, 1) := by decide +kernel
theorem dX6_dashes_28 : decode cX6_dashes 28 = .ok (.iadd, 1) := by decide +kernel
theorem dX6_dashes_29 : decode cX6_dashes 29 = .ok (.istore_n 1, 1) := by decide +kernel
theorem dX6_dashes_30 : decode cX6_dashes 30 = .ok (.iinc 2 2, 3) := by decide +kernel
theorem dX6_dashes_33 : decode cX6_dashes 33 = .ok (.goto (-27), 3) := by decide +kernel
theorem dX6_dashes_36 : decode cX6_dashes 36 = .ok (.iload_n 1, 1) := by decide +kernel
theorem dX6_dashes_37 : decode cX6_dashes 37 = .ok (.ireturn, 1) := by decide +kernel
set_option maxRecDepth 20000 in
theorem ggX6_total_X6_cellSigns : GoodIn wsX6_total wsX6_cellSigns := goodIn_r _ [6, 1, 26, 27, 28, 29, 30, 31, 32, 33, 34, 35, 36, 37] (by decide +kernel) (by decide +kernel)
set_option maxRecDepth 20000 in
theorem gX6_total_X6_cellSigns : GoodIn wsX6_total (wsV RX6 74 RX6 yX6_cellSigns wsX6_cellSigns) := goodIn_app (goodIn_of _ (by decide +kernel)) ggX6_total_X6_cellSigns
set_option maxRecDepth 20000 in
theorem ggX6_total_X6_dashes : GoodIn wsX6_total wsX6_dashes := goodIn_r _ [10, 1, 26, 27, 28, 29, 30, 31, 32, 33, 34, 35, 36, 37] (by decide +kernel) (by decide +kernel)
set_option maxRecDepth 20000 in
theorem gX6_total_X6_dashes : GoodIn wsX6_total (wsV RX6 120 RX6 yX6_dashes wsX6_dashes) := goodIn_app (goodIn_of _ (by decide +kernel)) ggX6_total_X6_dashes
set_option maxRecDepth 20000 in
theorem ggX6_total_X6_readable : GoodIn wsX6_total wsX6_readable := goodIn_r _ [14, 15, 16, 17, 5, 18, 1, 19, 20, 21, 26, 27, 28, 29, 30, 31, 32, 33, 34, 35, 36, 37] (by decide +kernel) (by decide +kernel)
set_option maxRecDepth 20000 in
theorem gX6_total_X6_readable : GoodIn wsX6_total (wsV RX6 123 RX6 yX6_readable wsX6_readable) := goodIn_app (goodIn_of _ (by decide +kernel)) ggX6_total_X6_readable
set_option maxRecDepth 20000 in
theorem ggX6_total_X6_strengths : GoodIn wsX6_total wsX6_strengths := goodIn_r _ [25, 1, 26, 27, 28, 29, 30, 31, 32, 33, 34, 35, 36, 37] (by decide +kernel) (by decide +kernel)
set_option maxRecDepth 20000 in
theorem gX6_total_X6_strengths : GoodIn wsX6_total (wsV RX6 126 RX6 yX6_strengths wsX6_strengths) := goodIn_app (goodIn_of _ (by decide +kernel)) ggX6_total_X6_strengths
theorem dX6_total_0 : decode cX6_total 0 = .ok (.iload_n 1, 1) := by decide +kernel
theorem dX6_total_1 : decode cX6_total 1 = .ok (.tableswitch 135 0 14 #[75, 81, 87, 92, 97, 97, 97, 97, 97, 108, 113, 113, 113, 125, 125], 75) := by decide +kernel
theorem dX6_total_76 : decode cX6_total 76 = .ok (.aload_n 0, 1) := by decide +kernel
theorem dX6_total_77 : decode cX6_total 77 = .ok (.iconst 0, 1) := by decide +kernel
theorem dX6_total_78 : decode cX6_total 78 = .ok (.invokevirtual 74, 3) := by decide +kernel
theorem dX6_total_81 : decode cX6_total 81 = .ok (.ireturn, 1) := by decide +kernel
theorem dX6_total_82 : decode cX6_total 82 = .ok (.aload_n 0, 1) := by decide +kernel
theorem dX6_total_83 : decode cX6_total 83 = .ok (.iconst 2, 1) := by decide +kernel
theorem dX6_total_84 : decode cX6_total 84 = .ok (.invokevirtual 74, 3) := by decide +kernel
theorem dX6_total_87 : decode cX6_total 87 = .ok (.ireturn, 1) := by decide +kernel
theorem dX6_total_88 : decode cX6_total 88 = .ok (.aload_n 0, 1) := by decide +kernel
theorem dX6_total_89 : decode cX6_total 89 = .ok (.invokevirtual 120, 3) := by decide +kernel
theorem dX6_total_92 : decode cX6_total 92 = .ok (.ireturn, 1) := by decide +kernel
theorem dX6_total_93 : decode cX6_total 93 = .ok (.aload_n 0, 1) := by decide +kernel
theorem dX6_total_94 : decode cX6_total 94 = .ok (.invokevirtual 123, 3) := by decide +kernel
theorem dX6_total_97 : decode cX6_total 97 = .ok (.ireturn, 1) := by decide +kernel
theorem dX6_total_98 : decode cX6_total 98 = .ok (.aload_n 0, 1) := by decide +kernel
theorem dX6_total_99 : decode cX6_total 99 = .ok (.getfield 7, 3) := by decide +kernel
theorem dX6_total_102 : decode cX6_total 102 = .ok (.iconst 5, 1) := by decide +kernel
theorem dX6_total_103 : decode cX6_total 103 = .ok (.iload_n 1, 1) := by decide +kernel
theorem dX6_total_104 : decode cX6_total 104 = .ok (.iadd, 1) := by decide +kernel
theorem dX6_total_105 : decode cX6_total 105 = .ok (.iconst 4, 1) := by decide +kernel
theorem dX6_total_106 : decode cX6_total 106 = .ok (.isub, 1) := by decide +kernel
theorem dX6_total_107 : decode cX6_total 107 = .ok (.iaload, 1) := by decide +kernel
theorem dX6_total_108 : decode cX6_total 108 = .ok (.ireturn, 1) := by decide +kernel
theorem dX6_total_109 : decode cX6_total 109 = .ok (.aload_n 0, 1) := by decide +kernel
theorem dX6_total_110 : decode cX6_total 110 = .ok (.invokevirtual 126, 3) := by decide +kernel
theorem dX6_total_113 : decode cX6_total 113 = .ok (.ireturn, 1) := by decide +kernel
theorem dX6_total_114 : decode cX6_total 114 = .ok (.aload_n 0, 1) := by decide +kernel
theorem dX6_total_115 : decode cX6_total 115 = .ok (.getfield 7, 3) := by decide +kernel
theorem dX6_total_118 : decode cX6_total 118 = .ok (.iconst 2, 1) := by decide +kernel
theorem dX6_total_119 : decode cX6_total 119 = .ok (.iload_n 1, 1) := by decide +kernel
theorem dX6_total_120 : decode cX6_total 120 = .ok (.iadd, 1) := by decide +kernel
theorem dX6_total_121 : decode cX6_total 121 = .ok (.bipush 10, 2) := by decide +kernel
theorem dX6_total_123 : decode cX6_total 123 = .ok (.isub, 1) := by decide +kernel
theorem dX6_total_124 : decode cX6_total 124 = .ok (.iaload, 1) := by decide +kernel
theorem dX6_total_125 : decode cX6_total 125 = .ok (.ireturn, 1) := by decide +kernel
theorem dX6_total_126 : decode cX6_total 126 = .ok (.aload_n 0, 1) := by decide +kernel
theorem dX6_total_127 : decode cX6_total 127 = .ok (.getfield 7, 3) := by decide +kernel
theorem dX6_total_130 : decode cX6_total 130 = .ok (.iload_n 1, 1) := by decide +kernel
theorem dX6_total_131 : decode cX6_total 131 = .ok (.bipush 13, 2) := by decide +kernel
theorem dX6_total_133 : decode cX6_total 133 = .ok (.isub, 1) := by decide +kernel
theorem dX6_total_134 : decode cX6_total 134 = .ok (.iaload, 1) := by decide +kernel
theorem dX6_total_135 : decode cX6_total 135 = .ok (.ireturn, 1) := by decide +kernel
theorem dX6_total_136 : decode cX6_total 136 = .ok (.bipush (-2), 2) := by decide +kernel
theorem dX6_total_138 : decode cX6_total 138 = .ok (.ireturn, 1) := by decide +kernel
set_option maxRecDepth 20000 in
theorem ggX6_whyNot_X6_isCell : GoodIn wsX6_whyNot wsX6_isCell := goodIn_r _ [4, 5, 6, 3, 7] (by decide +kernel) (by decide +kernel)
set_option maxRecDepth 20000 in
theorem gX6_whyNot_X6_isCell : GoodIn wsX6_whyNot (va_wsS RX6 62 yX6_isCell wsX6_isCell) := goodIn_app (goodIn_of _ (by decide +kernel)) ggX6_whyNot_X6_isCell
set_option maxRecDepth 20000 in
theorem ggX6_whyNot_X6_in : GoodIn wsX6_whyNot wsX6_in := goodIn_r _ [7] (by decide +kernel) (by decide +kernel)
set_option maxRecDepth 20000 in
theorem gX6_whyNot_X6_in : GoodIn wsX6_whyNot (va_wsS RX6 29 yX6_in wsX6_in) := goodIn_app (goodIn_of _ (by decide +kernel)) ggX6_whyNot_X6_in
set_option maxRecDepth 20000 in
theorem ggX6_whyNot_X6_reason : GoodIn wsX6_whyNot wsX6_reason := goodIn_r _ [11, 12, 13, 14, 15, 3, 16, 5, 6, 7, 17, 18, 19, 20, 21, 22, 23, 24, 25, 26, 27, 28, 29, 30, 31, 32, 33, 34, 35, 36, 37, 38, 39, 40, 41] (by decide +kernel) (by decide +kernel)
set_option maxRecDepth 20000 in
theorem gX6_whyNot_X6_reason : GoodIn wsX6_whyNot (wsV RX6 65 RX6 yX6_reason wsX6_reason) := goodIn_app (goodIn_of _ (by decide +kernel)) ggX6_whyNot_X6_reason
theorem dX6_whyNot_0 : decode cX6_whyNot 0 = .ok (.iload_n 1, 1) := by decide +kernel
theorem dX6_whyNot_1 : decode cX6_whyNot 1 = .ok (.iload_n 2, 1) := by decide +kernel
theorem dX6_whyNot_2 : decode cX6_whyNot 2 = .ok (.invokestatic 62, 3) := by decide +kernel
theorem dX6_whyNot_5 : decode cX6_whyNot 5 = .ok (.ifCond .ne 7, 3) := by decide +kernel
theorem dX6_whyNot_8 : decode cX6_whyNot 8 = .ok (.iconst (-1), 1) := by decide +kernel
theorem dX6_whyNot_9 : decode cX6_whyNot 9 = .ok (.goto 24, 3) := by decide +kernel
theorem dX6_whyNot_12 : decode cX6_whyNot 12 = .ok (.iload_n 3, 1) := by decide +kernel
theorem dX6_whyNot_13 : decode cX6_whyNot 13 = .ok (.iconst 0, 1) := by decide +kernel
theorem dX6_whyNot_14 : decode cX6_whyNot 14 = .ok (.iconst 2, 1) := by decide +kernel
theorem dX6_whyNot_15 : decode cX6_whyNot 15 = .ok (.invokestatic 29, 3) := by decide +kernel
theorem dX6_whyNot_18 : decode cX6_whyNot 18 = .ok (.ifCond .eq 13, 3) := by decide +kernel
theorem dX6_whyNot_21 : decode cX6_whyNot 21 = .ok (.aload_n 0, 1) := by decide +kernel
theorem dX6_whyNot_22 : decode cX6_whyNot 22 = .ok (.iload_n 1, 1) := by decide +kernel
theorem dX6_whyNot_23 : decode cX6_whyNot 23 = .ok (.iload_n 2, 1) := by decide +kernel
theorem dX6_whyNot_24 : decode cX6_whyNot 24 = .ok (.iload_n 3, 1) := by decide +kernel
theorem dX6_whyNot_25 : decode cX6_whyNot 25 = .ok (.invokevirtual 65, 3) := by decide +kernel
theorem dX6_whyNot_28 : decode cX6_whyNot 28 = .ok (.goto 5, 3) := by decide +kernel
theorem dX6_whyNot_31 : decode cX6_whyNot 31 = .ok (.bipush (-2), 2) := by decide +kernel
theorem dX6_whyNot_33 : decode cX6_whyNot 33 = .ok (.ireturn, 1) := by decide +kernel
set_option maxRecDepth 20000 in
theorem ggX6_readableFor_X6_isCell : GoodIn wsX6_readableFor wsX6_isCell := goodIn_r _ [5, 6, 7, 4, 8] (by decide +kernel) (by decide +kernel)
set_option maxRecDepth 20000 in
theorem gX6_readableFor_X6_isCell : GoodIn wsX6_readableFor (va_wsS RX6 62 yX6_isCell wsX6_isCell) := goodIn_app (goodIn_of _ (by decide +kernel)) ggX6_readableFor_X6_isCell
set_option maxRecDepth 20000 in
theorem ggX6_readableFor_X6_cellAt : GoodIn wsX6_readableFor wsX6_cellAt := goodIn_r _ [11] (by decide +kernel) (by decide +kernel)
set_option maxRecDepth 20000 in
theorem gX6_readableFor_X6_cellAt : GoodIn wsX6_readableFor (va_wsS RX6 33 yX6_cellAt wsX6_cellAt) := goodIn_app (goodIn_of _ (by decide +kernel)) ggX6_readableFor_X6_cellAt
set_option maxRecDepth 20000 in
theorem ggX6_readableFor_X6_lossOf : GoodIn wsX6_readableFor wsX6_lossOf := goodIn_r _ [15, 1, 9, 10, 4, 11, 16, 17, 18, 19, 20, 21, 22, 23, 24, 25, 26, 27, 28, 29, 30, 31] (by decide +kernel) (by decide +kernel)
set_option maxRecDepth 20000 in
theorem gX6_readableFor_X6_lossOf : GoodIn wsX6_readableFor (wsV RX6 90 RX6 yX6_lossOf wsX6_lossOf) := goodIn_app (goodIn_of _ (by decide +kernel)) ggX6_readableFor_X6_lossOf
theorem dX6_readableFor_0 : decode cX6_readableFor 0 = .ok (.iload_n 1, 1) := by decide +kernel
theorem dX6_readableFor_1 : decode cX6_readableFor 1 = .ok (.iload_n 2, 1) := by decide +kernel
theorem dX6_readableFor_2 : decode cX6_readableFor 2 = .ok (.invokestatic 62, 3) := by decide +kernel
theorem dX6_readableFor_5 : decode cX6_readableFor 5 = .ok (.ifCond .ne 5, 3) := by decide +kernel
theorem dX6_readableFor_8 : decode cX6_readableFor 8 = .ok (.iconst (-1), 1) := by decide +kernel
theorem dX6_readableFor_9 : decode cX6_readableFor 9 = .ok (.ireturn, 1) := by decide +kernel
theorem dX6_readableFor_10 : decode cX6_readableFor 10 = .ok (.iload_n 1, 1) := by decide +kernel
theorem dX6_readableFor_11 : decode cX6_readableFor 11 = .ok (.iload_n 2, 1) := by decide +kernel
theorem dX6_readableFor_12 : decode cX6_readableFor 12 = .ok (.invokestatic 33, 3) := by decide +kernel
theorem dX6_readableFor_15 : decode cX6_readableFor 15 = .ok (.istore_n 3, 1) := by decide +kernel
theorem dX6_readableFor_16 : decode cX6_readableFor 16 = .ok (.aload_n 0, 1) := by decide +kernel
theorem dX6_readableFor_17 : decode cX6_readableFor 17 = .ok (.getfield 7, 3) := by decide +kernel
theorem dX6_readableFor_20 : decode cX6_readableFor 20 = .ok (.iload_n 3, 1) := by decide +kernel
theorem dX6_readableFor_21 : decode cX6_readableFor 21 = .ok (.iconst 2, 1) := by decide +kernel
theorem dX6_readableFor_22 : decode cX6_readableFor 22 = .ok (.iadd, 1) := by decide +kernel
theorem dX6_readableFor_23 : decode cX6_readableFor 23 = .ok (.iaload, 1) := by decide +kernel
theorem dX6_readableFor_24 : decode cX6_readableFor 24 = .ok (.ifCond .ne 6, 3) := by decide +kernel
theorem dX6_readableFor_27 : decode cX6_readableFor 27 = .ok (.bipush (-6), 2) := by decide +kernel
theorem dX6_readableFor_29 : decode cX6_readableFor 29 = .ok (.ireturn, 1) := by decide +kernel
theorem dX6_readableFor_30 : decode cX6_readableFor 30 = .ok (.aload_n 0, 1) := by decide +kernel
theorem dX6_readableFor_31 : decode cX6_readableFor 31 = .ok (.getfield 7, 3) := by decide +kernel
theorem dX6_readableFor_34 : decode cX6_readableFor 34 = .ok (.iload_n 3, 1) := by decide +kernel
theorem dX6_readableFor_35 : decode cX6_readableFor 35 = .ok (.iconst 3, 1) := by decide +kernel
theorem dX6_readableFor_36 : decode cX6_readableFor 36 = .ok (.iadd, 1) := by decide +kernel
theorem dX6_readableFor_37 : decode cX6_readableFor 37 = .ok (.iaload, 1) := by decide +kernel
theorem dX6_readableFor_38 : decode cX6_readableFor 38 = .ok (.istore 4, 2) := by decide +kernel
theorem dX6_readableFor_40 : decode cX6_readableFor 40 = .ok (.iconst 0, 1) := by decide +kernel
theorem dX6_readableFor_41 : decode cX6_readableFor 41 = .ok (.istore 5, 2) := by decide +kernel
theorem dX6_readableFor_43 : decode cX6_readableFor 43 = .ok (.iload 5, 2) := by decide +kernel
theorem dX6_readableFor_45 : decode cX6_readableFor 45 = .ok (.sipush 300, 3) := by decide +kernel
theorem dX6_readableFor_48 : decode cX6_readableFor 48 = .ok (.if_icmp .gt 31, 3) := by decide +kernel
theorem dX6_readableFor_51 : decode cX6_readableFor 51 = .ok (.iload 4, 2) := by decide +kernel
theorem dX6_readableFor_53 : decode cX6_readableFor 53 = .ok (.aload_n 0, 1) := by decide +kernel
theorem dX6_readableFor_54 : decode cX6_readableFor 54 = .ok (.getfield 7, 3) := by decide +kernel
theorem dX6_readableFor_57 : decode cX6_readableFor 57 = .ok (.iconst 0, 1) := by decide +kernel
theorem dX6_readableFor_58 : decode cX6_readableFor 58 = .ok (.iaload, 1) := by decide +kernel
theorem dX6_readableFor_59 : decode cX6_readableFor 59 = .ok (.if_icmp .lt 20, 3) := by decide +kernel
theorem dX6_readableFor_62 : decode cX6_readableFor 62 = .ok (.iload 4, 2) := by decide +kernel
theorem dX6_readableFor_64 : decode cX6_readableFor 64 = .ok (.aload_n 0, 1) := by decide +kernel
theorem dX6_readableFor_65 : decode cX6_readableFor 65 = .ok (.iload_n 1, 1) := by decide +kernel
theorem dX6_readableFor_66 : decode cX6_readableFor 66 = .ok (.iload_n 2, 1) := by decide +kernel
theorem dX6_readableFor_67 : decode cX6_readableFor 67 = .ok (.invokevirtual 90, 3) := by decide +kernel
theorem dX6_readableFor_70 : decode cX6_readableFor 70 = .ok (.isub, 1) := by decide +kernel
theorem dX6_readableFor_71 : decode cX6_readableFor 71 = .ok (.istore 4, 2) := by decide +kernel
theorem dX6_readableFor_73 : decode cX6_readableFor 73 = .ok (.iinc 5 1, 3) := by decide +kernel
theorem dX6_readableFor_76 : decode cX6_readableFor 76 = .ok (.goto (-33), 3) := by decide +kernel
theorem dX6_readableFor_79 : decode cX6_readableFor 79 = .ok (.iload 5, 2) := by decide +kernel
theorem dX6_readableFor_81 : decode cX6_readableFor 81 = .ok (.sipush 300, 3) := by decide +kernel
theorem dX6_readableFor_84 : decode cX6_readableFor 84 = .ok (.if_icmp .le 8, 3) := by decide +kernel
theorem dX6_readableFor_87 : decode cX6_readableFor 87 = .ok (.bipush (-6), 2) := by decide +kernel
theorem dX6_readableFor_89 : decode cX6_readableFor 89 = .ok (.goto 5, 3) := by decide +kernel
theorem dX6_readableFor_92 : decode cX6_readableFor 92 = .ok (.iload 5, 2) := by decide +kernel
theorem dX6_readableFor_94 : decode cX6_readableFor 94 = .ok (.ireturn, 1) := by decide +kernel
set_option maxRecDepth 20000 in
theorem ggX6_wouldPaint_X6_signAt : GoodIn wsX6_wouldPaint wsX6_signAt := goodIn_r _ [5, 6, 7, 4, 8, 9, 10, 11] (by decide +kernel) (by decide +kernel)
set_option maxRecDepth 20000 in
theorem gX6_wouldPaint_X6_signAt : GoodIn wsX6_wouldPaint (va_wsS RX6 100 yX6_signAt wsX6_signAt) := goodIn_app (goodIn_of _ (by decide +kernel)) ggX6_wouldPaint_X6_signAt
set_option maxRecDepth 20000 in
theorem ggX6_wouldPaint_X6_isWeak : GoodIn wsX6_wouldPaint wsX6_isWeak := goodIn_r _ [15, 1, 16, 17, 18, 19, 20, 21, 22, 23, 24, 25, 26, 27] (by decide +kernel) (by decide +kernel)
set_option maxRecDepth 20000 in
theorem gX6_wouldPaint_X6_isWeak : GoodIn wsX6_wouldPaint (wsV RX6 103 RX6 yX6_isWeak wsX6_isWeak) := goodIn_app (goodIn_of _ (by decide +kernel)) ggX6_wouldPaint_X6_isWeak
theorem dX6_wouldPaint_0 : decode cX6_wouldPaint 0 = .ok (.iconst 0, 1) := by decide +kernel
theorem dX6_wouldPaint_1 : decode cX6_wouldPaint 1 = .ok (.istore_n 3, 1) := by decide +kernel
theorem dX6_wouldPaint_2 : decode cX6_wouldPaint 2 = .ok (.iload_n 1, 1) := by decide +kernel
theorem dX6_wouldPaint_3 : decode cX6_wouldPaint 3 = .ok (.istore 4, 2) := by decide +kernel
theorem dX6_wouldPaint_5 : decode cX6_wouldPaint 5 = .ok (.iload 4, 2) := by decide +kernel
theorem dX6_wouldPaint_7 : decode cX6_wouldPaint 7 = .ok (.iload_n 2, 1) := by decide +kernel
theorem dX6_wouldPaint_8 : decode cX6_wouldPaint 8 = .ok (.if_icmp .gt 47, 3) := by decide +kernel
theorem dX6_wouldPaint_11 : decode cX6_wouldPaint 11 = .ok (.iconst 0, 1) := by decide +kernel
theorem dX6_wouldPaint_12 : decode cX6_wouldPaint 12 = .ok (.istore 5, 2) := by decide +kernel
theorem dX6_wouldPaint_14 : decode cX6_wouldPaint 14 = .ok (.iload 5, 2) := by decide +kernel
theorem dX6_wouldPaint_16 : decode cX6_wouldPaint 16 = .ok (.bipush 8, 2) := by decide +kernel
theorem dX6_wouldPaint_18 : decode cX6_wouldPaint 18 = .ok (.if_icmp .ge 31, 3) := by decide +kernel
theorem dX6_wouldPaint_21 : decode cX6_wouldPaint 21 = .ok (.iload_n 3, 1) := by decide +kernel
theorem dX6_wouldPaint_22 : decode cX6_wouldPaint 22 = .ok (.aload_n 0, 1) := by decide +kernel
theorem dX6_wouldPaint_23 : decode cX6_wouldPaint 23 = .ok (.iload 4, 2) := by decide +kernel
theorem dX6_wouldPaint_25 : decode cX6_wouldPaint 25 = .ok (.iload 5, 2) := by decide +kernel
theorem dX6_wouldPaint_27 : decode cX6_wouldPaint 27 = .ok (.invokestatic 100, 3) := by decide +kernel
theorem dX6_wouldPaint_30 : decode cX6_wouldPaint 30 = .ok (.invokevirtual 103, 3) := by decide +kernel
theorem dX6_wouldPaint_33 : decode cX6_wouldPaint 33 = .ok (.ifCond .eq 7, 3) := by decide +kernel
theorem dX6_wouldPaint_36 : decode cX6_wouldPaint 36 = .ok (.iconst 1, 1) := by decide +kernel
theorem dX6_wouldPaint_37 : decode cX6_wouldPaint 37 = .ok (.goto 4, 3) := by decide +kernel
theorem dX6_wouldPaint_40 : decode cX6_wouldPaint 40 = .ok (.iconst 0, 1) := by decide +kernel
theorem dX6_wouldPaint_41 : decode cX6_wouldPaint 41 = .ok (.iadd, 1) := by decide +kernel
theorem dX6_wouldPaint_42 : decode cX6_wouldPaint 42 = .ok (.istore_n 3, 1) := by decide +kernel
theorem dX6_wouldPaint_43 : decode cX6_wouldPaint 43 = .ok (.iinc 5 1, 3) := by decide +kernel
theorem dX6_wouldPaint_46 : decode cX6_wouldPaint 46 = .ok (.goto (-32), 3) := by decide +kernel
theorem dX6_wouldPaint_49 : decode cX6_wouldPaint 49 = .ok (.iinc 4 1, 3) := by decide +kernel
theorem dX6_wouldPaint_52 : decode cX6_wouldPaint 52 = .ok (.goto (-47), 3) := by decide +kernel
theorem dX6_wouldPaint_55 : decode cX6_wouldPaint 55 = .ok (.aload_n 0, 1) := by decide +kernel
theorem dX6_wouldPaint_56 : decode cX6_wouldPaint 56 = .ok (.getfield 7, 3) := by decide +kernel
theorem dX6_wouldPaint_59 : decode cX6_wouldPaint 59 = .ok (.iconst 5, 1) := by decide +kernel
theorem dX6_wouldPaint_60 : decode cX6_wouldPaint 60 = .ok (.iaload, 1) := by decide +kernel
theorem dX6_wouldPaint_61 : decode cX6_wouldPaint 61 = .ok (.aload_n 0, 1) := by decide +kernel
theorem dX6_wouldPaint_62 : decode cX6_wouldPaint 62 = .ok (.getfield 7, 3) := by decide +kernel
theorem dX6_wouldPaint_65 : decode cX6_wouldPaint 65 = .ok (.iconst 1, 1) := by decide +kernel
theorem dX6_wouldPaint_66 : decode cX6_wouldPaint 66 = .ok (.iaload, 1) := by decide +kernel
theorem dX6_wouldPaint_67 : decode cX6_wouldPaint 67 = .ok (.if_icmp .ge 12, 3) := by decide +kernel
theorem dX6_wouldPaint_70 : decode cX6_wouldPaint 70 = .ok (.aload_n 0, 1) := by decide +kernel
theorem dX6_wouldPaint_71 : decode cX6_wouldPaint 71 = .ok (.getfield 7, 3) := by decide +kernel
theorem dX6_wouldPaint_74 : decode cX6_wouldPaint 74 = .ok (.iconst 5, 1) := by decide +kernel
theorem dX6_wouldPaint_75 : decode cX6_wouldPaint 75 = .ok (.iaload, 1) := by decide +kernel
theorem dX6_wouldPaint_76 : decode cX6_wouldPaint 76 = .ok (.goto 9, 3) := by decide +kernel
theorem dX6_wouldPaint_79 : decode cX6_wouldPaint 79 = .ok (.aload_n 0, 1) := by decide +kernel
theorem dX6_wouldPaint_80 : decode cX6_wouldPaint 80 = .ok (.getfield 7, 3) := by decide +kernel
theorem dX6_wouldPaint_83 : decode cX6_wouldPaint 83 = .ok (.iconst 1, 1) := by decide +kernel
theorem dX6_wouldPaint_84 : decode cX6_wouldPaint 84 = .ok (.iaload, 1) := by decide +kernel
theorem dX6_wouldPaint_85 : decode cX6_wouldPaint 85 = .ok (.istore 4, 2) := by decide +kernel
theorem dX6_wouldPaint_87 : decode cX6_wouldPaint 87 = .ok (.iload_n 3, 1) := by decide +kernel
theorem dX6_wouldPaint_88 : decode cX6_wouldPaint 88 = .ok (.iload 4, 2) := by decide +kernel
theorem dX6_wouldPaint_90 : decode cX6_wouldPaint 90 = .ok (.if_icmp .ge 7, 3) := by decide +kernel
theorem dX6_wouldPaint_93 : decode cX6_wouldPaint 93 = .ok (.iload_n 3, 1) := by decide +kernel
theorem dX6_wouldPaint_94 : decode cX6_wouldPaint 94 = .ok (.goto 5, 3) := by decide +kernel
theorem dX6_wouldPaint_97 : decode cX6_wouldPaint 97 = .ok (.iload 4, 2) := by decide +kernel
theorem dX6_wouldPaint_99 : decode cX6_wouldPaint 99 = .ok (.ireturn, 1) := by decide +kernel
set_option maxRecDepth 20000 in
theorem ggX6_bestNight_X6_in : GoodIn wsX6_bestNight wsX6_in := goodIn_r _ [5] (by decide +kernel) (by decide +kernel)
set_option maxRecDepth 20000 in
theorem gX6_bestNight_X6_in : GoodIn wsX6_bestNight (va_wsS RX6 29 yX6_in wsX6_in) := goodIn_app (goodIn_of _ (by decide +kernel)) ggX6_bestNight_X6_in
set_option maxRecDepth 20000 in
theorem ggX6_bestNight_X6_wouldPaint : GoodIn wsX6_bestNight wsX6_wouldPaint := goodIn_r _ [9, 1, 10, 11, 4, 12, 13, 14, 15, 16, 17, 18, 19, 20, 21, 22, 23, 24, 25, 26, 27, 28, 29, 30, 31, 32, 33, 34] (by decide +kernel) (by decide +kernel)
set_option maxRecDepth 20000 in
theorem gX6_bestNight_X6_wouldPaint : GoodIn wsX6_bestNight (wsV RX6 129 RX6 yX6_wouldPaint wsX6_wouldPaint) := goodIn_app (goodIn_of _ (by decide +kernel)) ggX6_bestNight_X6_wouldPaint
theorem dX6_bestNight_0 : decode cX6_bestNight 0 = .ok (.aload_n 0, 1) := by decide +kernel
theorem dX6_bestNight_1 : decode cX6_bestNight 1 = .ok (.getfield 7, 3) := by decide +kernel
theorem dX6_bestNight_4 : decode cX6_bestNight 4 = .ok (.iconst 5, 1) := by decide +kernel
theorem dX6_bestNight_5 : decode cX6_bestNight 5 = .ok (.iaload, 1) := by decide +kernel
theorem dX6_bestNight_6 : decode cX6_bestNight 6 = .ok (.ifCond .ne 6, 3) := by decide +kernel
theorem dX6_bestNight_9 : decode cX6_bestNight 9 = .ok (.bipush (-3), 2) := by decide +kernel
theorem dX6_bestNight_11 : decode cX6_bestNight 11 = .ok (.ireturn, 1) := by decide +kernel
theorem dX6_bestNight_12 : decode cX6_bestNight 12 = .ok (.bipush (-6), 2) := by decide +kernel
theorem dX6_bestNight_14 : decode cX6_bestNight 14 = .ok (.istore_n 1, 1) := by decide +kernel
theorem dX6_bestNight_15 : decode cX6_bestNight 15 = .ok (.iconst 0, 1) := by decide +kernel
theorem dX6_bestNight_16 : decode cX6_bestNight 16 = .ok (.istore_n 2, 1) := by decide +kernel
theorem dX6_bestNight_17 : decode cX6_bestNight 17 = .ok (.iconst 0, 1) := by decide +kernel
theorem dX6_bestNight_18 : decode cX6_bestNight 18 = .ok (.istore_n 3, 1) := by decide +kernel
theorem dX6_bestNight_19 : decode cX6_bestNight 19 = .ok (.iload_n 3, 1) := by decide +kernel
theorem dX6_bestNight_20 : decode cX6_bestNight 20 = .ok (.bipush 16, 2) := by decide +kernel
theorem dX6_bestNight_22 : decode cX6_bestNight 22 = .ok (.if_icmp .ge 136, 3) := by decide +kernel
theorem dX6_bestNight_25 : decode cX6_bestNight 25 = .ok (.iconst 0, 1) := by decide +kernel
theorem dX6_bestNight_26 : decode cX6_bestNight 26 = .ok (.istore 4, 2) := by decide +kernel
theorem dX6_bestNight_28 : decode cX6_bestNight 28 = .ok (.iload 4, 2) := by decide +kernel
theorem dX6_bestNight_30 : decode cX6_bestNight 30 = .ok (.bipush 16, 2) := by decide +kernel
theorem dX6_bestNight_32 : decode cX6_bestNight 32 = .ok (.if_icmp .ge 120, 3) := by decide +kernel
theorem dX6_bestNight_35 : decode cX6_bestNight 35 = .ok (.iload 4, 2) := by decide +kernel
theorem dX6_bestNight_37 : decode cX6_bestNight 37 = .ok (.iload_n 3, 1) := by decide +kernel
theorem dX6_bestNight_38 : decode cX6_bestNight 38 = .ok (.isub, 1) := by decide +kernel
theorem dX6_bestNight_39 : decode cX6_bestNight 39 = .ok (.istore 5, 2) := by decide +kernel
theorem dX6_bestNight_41 : decode cX6_bestNight 41 = .ok (.iload 5, 2) := by decide +kernel
theorem dX6_bestNight_43 : decode cX6_bestNight 43 = .ok (.iload 4, 2) := by decide +kernel
theorem dX6_bestNight_45 : decode cX6_bestNight 45 = .ok (.iload_n 3, 1) := by decide +kernel
theorem dX6_bestNight_46 : decode cX6_bestNight 46 = .ok (.iadd, 1) := by decide +kernel
theorem dX6_bestNight_47 : decode cX6_bestNight 47 = .ok (.if_icmp .gt 99, 3) := by decide +kernel
theorem dX6_bestNight_50 : decode cX6_bestNight 50 = .ok (.iload 5, 2) := by decide +kernel
theorem dX6_bestNight_52 : decode cX6_bestNight 52 = .ok (.iconst 0, 1) := by decide +kernel
theorem dX6_bestNight_53 : decode cX6_bestNight 53 = .ok (.bipush 15, 2) := by decide +kernel
theorem dX6_bestNight_55 : decode cX6_bestNight 55 = .ok (.invokestatic 29, 3) := by decide +kernel
theorem dX6_bestNight_58 : decode cX6_bestNight 58 = .ok (.ifCond .eq 69, 3) := by decide +kernel
theorem dX6_bestNight_61 : decode cX6_bestNight 61 = .ok (.aload_n 0, 1) := by decide +kernel
theorem dX6_bestNight_62 : decode cX6_bestNight 62 = .ok (.iload 4, 2) := by decide +kernel
theorem dX6_bestNight_64 : decode cX6_bestNight 64 = .ok (.iload 5, 2) := by decide +kernel
theorem dX6_bestNight_66 : decode cX6_bestNight 66 = .ok (.if_icmp .ge 8, 3) := by decide +kernel
theorem dX6_bestNight_69 : decode cX6_bestNight 69 = .ok (.iload 4, 2) := by decide +kernel
theorem dX6_bestNight_71 : decode cX6_bestNight 71 = .ok (.goto 5, 3) := by decide +kernel
theorem dX6_bestNight_74 : decode cX6_bestNight 74 = .ok (.iload 5, 2) := by decide +kernel
theorem dX6_bestNight_76 : decode cX6_bestNight 76 = .ok (.iload 4, 2) := by decide +kernel
theorem dX6_bestNight_78 : decode cX6_bestNight 78 = .ok (.iload 5, 2) := by decide +kernel
theorem dX6_bestNight_80 : decode cX6_bestNight 80 = .ok (.if_icmp .ge 8, 3) := by decide +kernel
theorem dX6_bestNight_83 : decode cX6_bestNight 83 = .ok (.iload 5, 2) := by decide +kernel
theorem dX6_bestNight_85 : decode cX6_bestNight 85 = .ok (.goto 5, 3) := by decide +kernel
theorem dX6_bestNight_88 : decode cX6_bestNight 88 = .ok (.iload 4, 2) := by decide +kernel
theorem dX6_bestNight_90 : decode cX6_bestNight 90 = .ok (.invokevirtual 129, 3) := by decide +kernel
theorem dX6_bestNight_93 : decode cX6_bestNight 93 = .ok (.istore 6, 2) := by decide +kernel
theorem dX6_bestNight_95 : decode cX6_bestNight 95 = .ok (.iload 6, 2) := by decide +kernel
theorem dX6_bestNight_97 : decode cX6_bestNight 97 = .ok (.iload_n 2, 1) := by decide +kernel
theorem dX6_bestNight_98 : decode cX6_bestNight 98 = .ok (.if_icmp .le 14, 3) := by decide +kernel
theorem dX6_bestNight_101 : decode cX6_bestNight 101 = .ok (.bipush 16, 2) := by decide +kernel
theorem dX6_bestNight_103 : decode cX6_bestNight 103 = .ok (.iload 4, 2) := by decide +kernel
theorem dX6_bestNight_105 : decode cX6_bestNight 105 = .ok (.imul, 1) := by decide +kernel
theorem dX6_bestNight_106 : decode cX6_bestNight 106 = .ok (.iload 5, 2) := by decide +kernel
theorem dX6_bestNight_108 : decode cX6_bestNight 108 = .ok (.iadd, 1) := by decide +kernel
theorem dX6_bestNight_109 : decode cX6_bestNight 109 = .ok (.goto 4, 3) := by decide +kernel
theorem dX6_bestNight_112 : decode cX6_bestNight 112 = .ok (.iload_n 1, 1) := by decide +kernel
theorem dX6_bestNight_113 : decode cX6_bestNight 113 = .ok (.istore_n 1, 1) := by decide +kernel
theorem dX6_bestNight_114 : decode cX6_bestNight 114 = .ok (.iload 6, 2) := by decide +kernel
theorem dX6_bestNight_116 : decode cX6_bestNight 116 = .ok (.iload_n 2, 1) := by decide +kernel
theorem dX6_bestNight_117 : decode cX6_bestNight 117 = .ok (.if_icmp .le 8, 3) := by decide +kernel
theorem dX6_bestNight_120 : decode cX6_bestNight 120 = .ok (.iload 6, 2) := by decide +kernel
theorem dX6_bestNight_122 : decode cX6_bestNight 122 = .ok (.goto 4, 3) := by decide +kernel
theorem dX6_bestNight_125 : decode cX6_bestNight 125 = .ok (.iload_n 2, 1) := by decide +kernel
theorem dX6_bestNight_126 : decode cX6_bestNight 126 = .ok (.istore_n 2, 1) := by decide +kernel
theorem dX6_bestNight_127 : decode cX6_bestNight 127 = .ok (.iload 5, 2) := by decide +kernel
theorem dX6_bestNight_129 : decode cX6_bestNight 129 = .ok (.iload_n 3, 1) := by decide +kernel
theorem dX6_bestNight_130 : decode cX6_bestNight 130 = .ok (.ifCond .ne 7, 3) := by decide +kernel
theorem dX6_bestNight_133 : decode cX6_bestNight 133 = .ok (.iconst 1, 1) := by decide +kernel
theorem dX6_bestNight_134 : decode cX6_bestNight 134 = .ok (.goto 6, 3) := by decide +kernel
theorem dX6_bestNight_137 : decode cX6_bestNight 137 = .ok (.iconst 2, 1) := by decide +kernel
theorem dX6_bestNight_138 : decode cX6_bestNight 138 = .ok (.iload_n 3, 1) := by decide +kernel
theorem dX6_bestNight_139 : decode cX6_bestNight 139 = .ok (.imul, 1) := by decide +kernel
theorem dX6_bestNight_140 : decode cX6_bestNight 140 = .ok (.iadd, 1) := by decide +kernel
theorem dX6_bestNight_141 : decode cX6_bestNight 141 = .ok (.istore 5, 2) := by decide +kernel
theorem dX6_bestNight_143 : decode cX6_bestNight 143 = .ok (.goto (-102), 3) := by decide +kernel
theorem dX6_bestNight_146 : decode cX6_bestNight 146 = .ok (.iinc 4 1, 3) := by decide +kernel
theorem dX6_bestNight_149 : decode cX6_bestNight 149 = .ok (.goto (-121), 3) := by decide +kernel
theorem dX6_bestNight_152 : decode cX6_bestNight 152 = .ok (.iinc 3 1, 3) := by decide +kernel
theorem dX6_bestNight_155 : decode cX6_bestNight 155 = .ok (.goto (-136), 3) := by decide +kernel
theorem dX6_bestNight_158 : decode cX6_bestNight 158 = .ok (.iload_n 1, 1) := by decide +kernel
theorem dX6_bestNight_159 : decode cX6_bestNight 159 = .ok (.ireturn, 1) := by decide +kernel
set_option maxRecDepth 20000 in
theorem ggX6_fewestChanges_X6_in : GoodIn wsX6_fewestChanges wsX6_in := goodIn_r _ [5] (by decide +kernel) (by decide +kernel)
set_option maxRecDepth 20000 in
theorem gX6_fewestChanges_X6_in : GoodIn wsX6_fewestChanges (va_wsS RX6 29 yX6_in wsX6_in) := goodIn_app (goodIn_of _ (by decide +kernel)) ggX6_fewestChanges_X6_in
set_option maxRecDepth 20000 in
theorem ggX6_fewestChanges_X6_isFree : GoodIn wsX6_fewestChanges wsX6_isFree := goodIn_r _ [9, 10, 11, 12, 4, 13, 14, 15, 16, 17, 25, 26, 27, 28, 29, 30, 31, 32, 33, 34, 35, 36] (by decide +kernel) (by decide +kernel)
set_option maxRecDepth 20000 in
theorem gX6_fewestChanges_X6_isFree : GoodIn wsX6_fewestChanges (wsV RX6 113 RX6 yX6_isFree wsX6_isFree) := goodIn_app (goodIn_of _ (by decide +kernel)) ggX6_fewestChanges_X6_isFree
set_option maxRecDepth 20000 in
theorem ggX6_fewestChanges_X6_canChange : GoodIn wsX6_fewestChanges wsX6_canChange := goodIn_r _ [21, 14, 22, 23, 4, 24, 6, 7, 8, 9, 10, 11, 12, 13, 15, 16, 17, 25, 26, 27, 28, 29, 30, 31, 32, 33, 34, 35, 36] (by decide +kernel) (by decide +kernel)
set_option maxRecDepth 20000 in
theorem gX6_fewestChanges_X6_canChange : GoodIn wsX6_fewestChanges (wsV RX6 116 RX6 yX6_canChange wsX6_canChange) := goodIn_app (goodIn_of _ (by decide +kernel)) ggX6_fewestChanges_X6_canChange
theorem dX6_fewestChanges_0 : decode cX6_fewestChanges 0 = .ok (.iload_n 2, 1) := by decide +kernel
theorem dX6_fewestChanges_1 : decode cX6_fewestChanges 1 = .ok (.iconst 0, 1) := by decide +kernel
theorem dX6_fewestChanges_2 : decode cX6_fewestChanges 2 = .ok (.iconst 2, 1) := by decide +kernel
theorem dX6_fewestChanges_3 : decode cX6_fewestChanges 3 = .ok (.invokestatic 29, 3) := by decide +kernel
theorem dX6_fewestChanges_6 : decode cX6_fewestChanges 6 = .ok (.ifCond .ne 5, 3) := by decide +kernel
theorem dX6_fewestChanges_9 : decode cX6_fewestChanges 9 = .ok (.iconst (-1), 1) := by decide +kernel
theorem dX6_fewestChanges_10 : decode cX6_fewestChanges 10 = .ok (.ireturn, 1) := by decide +kernel
theorem dX6_fewestChanges_11 : decode cX6_fewestChanges 11 = .ok (.iload_n 1, 1) := by decide +kernel
theorem dX6_fewestChanges_12 : decode cX6_fewestChanges 12 = .ok (.iconst 0, 1) := by decide +kernel
theorem dX6_fewestChanges_13 : decode cX6_fewestChanges 13 = .ok (.iconst 1, 1) := by decide +kernel
theorem dX6_fewestChanges_14 : decode cX6_fewestChanges 14 = .ok (.invokestatic 29, 3) := by decide +kernel
theorem dX6_fewestChanges_17 : decode cX6_fewestChanges 17 = .ok (.ifCond .ne 6, 3) := by decide +kernel
theorem dX6_fewestChanges_20 : decode cX6_fewestChanges 20 = .ok (.bipush (-2), 2) := by decide +kernel
theorem dX6_fewestChanges_22 : decode cX6_fewestChanges 22 = .ok (.ireturn, 1) := by decide +kernel
theorem dX6_fewestChanges_23 : decode cX6_fewestChanges 23 = .ok (.iconst 0, 1) := by decide +kernel
theorem dX6_fewestChanges_24 : decode cX6_fewestChanges 24 = .ok (.istore_n 3, 1) := by decide +kernel
theorem dX6_fewestChanges_25 : decode cX6_fewestChanges 25 = .ok (.iload_n 3, 1) := by decide +kernel
theorem dX6_fewestChanges_26 : decode cX6_fewestChanges 26 = .ok (.iconst 3, 1) := by decide +kernel
theorem dX6_fewestChanges_27 : decode cX6_fewestChanges 27 = .ok (.if_icmp .ge 26, 3) := by decide +kernel
theorem dX6_fewestChanges_30 : decode cX6_fewestChanges 30 = .ok (.aload_n 0, 1) := by decide +kernel
theorem dX6_fewestChanges_31 : decode cX6_fewestChanges 31 = .ok (.getfield 23, 3) := by decide +kernel
theorem dX6_fewestChanges_34 : decode cX6_fewestChanges 34 = .ok (.iload_n 3, 1) := by decide +kernel
theorem dX6_fewestChanges_35 : decode cX6_fewestChanges 35 = .ok (.iload_n 3, 1) := by decide +kernel
theorem dX6_fewestChanges_36 : decode cX6_fewestChanges 36 = .ok (.iload_n 2, 1) := by decide +kernel
theorem dX6_fewestChanges_37 : decode cX6_fewestChanges 37 = .ok (.if_icmp .ne 7, 3) := by decide +kernel
theorem dX6_fewestChanges_40 : decode cX6_fewestChanges 40 = .ok (.iconst 0, 1) := by decide +kernel
theorem dX6_fewestChanges_41 : decode cX6_fewestChanges 41 = .ok (.goto 5, 3) := by decide +kernel
theorem dX6_fewestChanges_44 : decode cX6_fewestChanges 44 = .ok (.bipush (-6), 2) := by decide +kernel
theorem dX6_fewestChanges_46 : decode cX6_fewestChanges 46 = .ok (.iastore, 1) := by decide +kernel
theorem dX6_fewestChanges_47 : decode cX6_fewestChanges 47 = .ok (.iinc 3 1, 3) := by decide +kernel
theorem dX6_fewestChanges_50 : decode cX6_fewestChanges 50 = .ok (.goto (-25), 3) := by decide +kernel
theorem dX6_fewestChanges_53 : decode cX6_fewestChanges 53 = .ok (.iconst 0, 1) := by decide +kernel
theorem dX6_fewestChanges_54 : decode cX6_fewestChanges 54 = .ok (.istore_n 3, 1) := by decide +kernel
theorem dX6_fewestChanges_55 : decode cX6_fewestChanges 55 = .ok (.iload_n 3, 1) := by decide +kernel
theorem dX6_fewestChanges_56 : decode cX6_fewestChanges 56 = .ok (.bipush 16, 2) := by decide +kernel
theorem dX6_fewestChanges_58 : decode cX6_fewestChanges 58 = .ok (.if_icmp .ge 215, 3) := by decide +kernel
theorem dX6_fewestChanges_61 : decode cX6_fewestChanges 61 = .ok (.iload_n 1, 1) := by decide +kernel
theorem dX6_fewestChanges_62 : decode cX6_fewestChanges 62 = .ok (.ifCond .ne 7, 3) := by decide +kernel
theorem dX6_fewestChanges_65 : decode cX6_fewestChanges 65 = .ok (.iload_n 3, 1) := by decide +kernel
theorem dX6_fewestChanges_66 : decode cX6_fewestChanges 66 = .ok (.goto 7, 3) := by decide +kernel
theorem dX6_fewestChanges_69 : decode cX6_fewestChanges 69 = .ok (.bipush 15, 2) := by decide +kernel
theorem dX6_fewestChanges_71 : decode cX6_fewestChanges 71 = .ok (.iload_n 3, 1) := by decide +kernel
theorem dX6_fewestChanges_72 : decode cX6_fewestChanges 72 = .ok (.isub, 1) := by decide +kernel
theorem dX6_fewestChanges_73 : decode cX6_fewestChanges 73 = .ok (.istore 4, 2) := by decide +kernel
theorem dX6_fewestChanges_75 : decode cX6_fewestChanges 75 = .ok (.iconst 0, 1) := by decide +kernel
theorem dX6_fewestChanges_76 : decode cX6_fewestChanges 76 = .ok (.istore 5, 2) := by decide +kernel
theorem dX6_fewestChanges_78 : decode cX6_fewestChanges 78 = .ok (.iload 5, 2) := by decide +kernel
theorem dX6_fewestChanges_80 : decode cX6_fewestChanges 80 = .ok (.iconst 3, 1) := by decide +kernel
theorem dX6_fewestChanges_81 : decode cX6_fewestChanges 81 = .ok (.if_icmp .ge 40, 3) := by decide +kernel
theorem dX6_fewestChanges_84 : decode cX6_fewestChanges 84 = .ok (.aload_n 0, 1) := by decide +kernel
theorem dX6_fewestChanges_85 : decode cX6_fewestChanges 85 = .ok (.getfield 23, 3) := by decide +kernel
theorem dX6_fewestChanges_88 : decode cX6_fewestChanges 88 = .ok (.iload 5, 2) := by decide +kernel
theorem dX6_fewestChanges_90 : decode cX6_fewestChanges 90 = .ok (.aload_n 0, 1) := by decide +kernel
theorem dX6_fewestChanges_91 : decode cX6_fewestChanges 91 = .ok (.iload 5, 2) := by decide +kernel
theorem dX6_fewestChanges_93 : decode cX6_fewestChanges 93 = .ok (.iload 4, 2) := by decide +kernel
theorem dX6_fewestChanges_95 : decode cX6_fewestChanges 95 = .ok (.iload_n 1, 1) := by decide +kernel
theorem dX6_fewestChanges_96 : decode cX6_fewestChanges 96 = .ok (.invokevirtual 113, 3) := by decide +kernel
theorem dX6_fewestChanges_99 : decode cX6_fewestChanges 99 = .ok (.ifCond .eq 13, 3) := by decide +kernel
theorem dX6_fewestChanges_102 : decode cX6_fewestChanges 102 = .ok (.aload_n 0, 1) := by decide +kernel
theorem dX6_fewestChanges_103 : decode cX6_fewestChanges 103 = .ok (.getfield 23, 3) := by decide +kernel
theorem dX6_fewestChanges_106 : decode cX6_fewestChanges 106 = .ok (.iload 5, 2) := by decide +kernel
theorem dX6_fewestChanges_108 : decode cX6_fewestChanges 108 = .ok (.iaload, 1) := by decide +kernel
theorem dX6_fewestChanges_109 : decode cX6_fewestChanges 109 = .ok (.goto 5, 3) := by decide +kernel
theorem dX6_fewestChanges_112 : decode cX6_fewestChanges 112 = .ok (.bipush (-6), 2) := by decide +kernel
theorem dX6_fewestChanges_114 : decode cX6_fewestChanges 114 = .ok (.iastore, 1) := by decide +kernel
theorem dX6_fewestChanges_115 : decode cX6_fewestChanges 115 = .ok (.iinc 5 1, 3) := by decide +kernel
theorem dX6_fewestChanges_118 : decode cX6_fewestChanges 118 = .ok (.goto (-40), 3) := by decide +kernel
theorem dX6_fewestChanges_121 : decode cX6_fewestChanges 121 = .ok (.iconst 0, 1) := by decide +kernel
theorem dX6_fewestChanges_122 : decode cX6_fewestChanges 122 = .ok (.istore 5, 2) := by decide +kernel
theorem dX6_fewestChanges_124 : decode cX6_fewestChanges 124 = .ok (.iload 5, 2) := by decide +kernel
theorem dX6_fewestChanges_126 : decode cX6_fewestChanges 126 = .ok (.iconst 3, 1) := by decide +kernel
theorem dX6_fewestChanges_127 : decode cX6_fewestChanges 127 = .ok (.if_icmp .ge 140, 3) := by decide +kernel
theorem dX6_fewestChanges_130 : decode cX6_fewestChanges 130 = .ok (.iconst 0, 1) := by decide +kernel
theorem dX6_fewestChanges_131 : decode cX6_fewestChanges 131 = .ok (.istore 6, 2) := by decide +kernel
theorem dX6_fewestChanges_133 : decode cX6_fewestChanges 133 = .ok (.iload 6, 2) := by decide +kernel
theorem dX6_fewestChanges_135 : decode cX6_fewestChanges 135 = .ok (.iconst 3, 1) := by decide +kernel
theorem dX6_fewestChanges_136 : decode cX6_fewestChanges 136 = .ok (.if_icmp .ge 125, 3) := by decide +kernel
theorem dX6_fewestChanges_139 : decode cX6_fewestChanges 139 = .ok (.iload 6, 2) := by decide +kernel
theorem dX6_fewestChanges_141 : decode cX6_fewestChanges 141 = .ok (.iconst 1, 1) := by decide +kernel
theorem dX6_fewestChanges_142 : decode cX6_fewestChanges 142 = .ok (.isub, 1) := by decide +kernel
theorem dX6_fewestChanges_143 : decode cX6_fewestChanges 143 = .ok (.istore 7, 2) := by decide +kernel
theorem dX6_fewestChanges_145 : decode cX6_fewestChanges 145 = .ok (.iload 7, 2) := by decide +kernel
theorem dX6_fewestChanges_147 : decode cX6_fewestChanges 147 = .ok (.iload 6, 2) := by decide +kernel
theorem dX6_fewestChanges_149 : decode cX6_fewestChanges 149 = .ok (.iconst 1, 1) := by decide +kernel
theorem dX6_fewestChanges_150 : decode cX6_fewestChanges 150 = .ok (.iadd, 1) := by decide +kernel
theorem dX6_fewestChanges_151 : decode cX6_fewestChanges 151 = .ok (.if_icmp .gt 104, 3) := by decide +kernel
theorem dX6_fewestChanges_154 : decode cX6_fewestChanges 154 = .ok (.iload 7, 2) := by decide +kernel
theorem dX6_fewestChanges_156 : decode cX6_fewestChanges 156 = .ok (.iconst 0, 1) := by decide +kernel
theorem dX6_fewestChanges_157 : decode cX6_fewestChanges 157 = .ok (.iconst 2, 1) := by decide +kernel
theorem dX6_fewestChanges_158 : decode cX6_fewestChanges 158 = .ok (.invokestatic 29, 3) := by decide +kernel
theorem dX6_fewestChanges_161 : decode cX6_fewestChanges 161 = .ok (.ifCond .eq 33, 3) := by decide +kernel
theorem dX6_fewestChanges_164 : decode cX6_fewestChanges 164 = .ok (.aload_n 0, 1) := by decide +kernel
theorem dX6_fewestChanges_165 : decode cX6_fewestChanges 165 = .ok (.getfield 23, 3) := by decide +kernel
theorem dX6_fewestChanges_168 : decode cX6_fewestChanges 168 = .ok (.iload 6, 2) := by decide +kernel
theorem dX6_fewestChanges_170 : decode cX6_fewestChanges 170 = .ok (.iaload, 1) := by decide +kernel
theorem dX6_fewestChanges_171 : decode cX6_fewestChanges 171 = .ok (.bipush (-6), 2) := by decide +kernel
theorem dX6_fewestChanges_173 : decode cX6_fewestChanges 173 = .ok (.if_icmp .eq 21, 3) := by decide +kernel
theorem dX6_fewestChanges_176 : decode cX6_fewestChanges 176 = .ok (.aload_n 0, 1) := by decide +kernel
theorem dX6_fewestChanges_177 : decode cX6_fewestChanges 177 = .ok (.iload 6, 2) := by decide +kernel
theorem dX6_fewestChanges_179 : decode cX6_fewestChanges 179 = .ok (.iload 7, 2) := by decide +kernel
theorem dX6_fewestChanges_181 : decode cX6_fewestChanges 181 = .ok (.iload 4, 2) := by decide +kernel
theorem dX6_fewestChanges_183 : decode cX6_fewestChanges 183 = .ok (.iload_n 1, 1) := by decide +kernel
theorem dX6_fewestChanges_184 : decode cX6_fewestChanges 184 = .ok (.invokevirtual 116, 3) := by decide +kernel
theorem dX6_fewestChanges_187 : decode cX6_fewestChanges 187 = .ok (.ifCond .eq 7, 3) := by decide +kernel
theorem dX6_fewestChanges_190 : decode cX6_fewestChanges 190 = .ok (.iconst 1, 1) := by decide +kernel
theorem dX6_fewestChanges_191 : decode cX6_fewestChanges 191 = .ok (.goto 4, 3) := by decide +kernel
theorem dX6_fewestChanges_194 : decode cX6_fewestChanges 194 = .ok (.iconst 0, 1) := by decide +kernel
theorem dX6_fewestChanges_195 : decode cX6_fewestChanges 195 = .ok (.istore 8, 2) := by decide +kernel
theorem dX6_fewestChanges_197 : decode cX6_fewestChanges 197 = .ok (.iload 8, 2) := by decide +kernel
theorem dX6_fewestChanges_199 : decode cX6_fewestChanges 199 = .ok (.ifCond .eq 50, 3) := by decide +kernel
theorem dX6_fewestChanges_202 : decode cX6_fewestChanges 202 = .ok (.aload_n 0, 1) := by decide +kernel
theorem dX6_fewestChanges_203 : decode cX6_fewestChanges 203 = .ok (.getfield 23, 3) := by decide +kernel
theorem dX6_fewestChanges_206 : decode cX6_fewestChanges 206 = .ok (.iload 7, 2) := by decide +kernel
theorem dX6_fewestChanges_208 : decode cX6_fewestChanges 208 = .ok (.iaload, 1) := by decide +kernel
theorem dX6_fewestChanges_209 : decode cX6_fewestChanges 209 = .ok (.bipush (-6), 2) := by decide +kernel
theorem dX6_fewestChanges_211 : decode cX6_fewestChanges 211 = .ok (.if_icmp .eq 22, 3) := by decide +kernel
theorem dX6_fewestChanges_214 : decode cX6_fewestChanges 214 = .ok (.aload_n 0, 1) := by decide +kernel
theorem dX6_fewestChanges_215 : decode cX6_fewestChanges 215 = .ok (.getfield 23, 3) := by decide +kernel
theorem dX6_fewestChanges_218 : decode cX6_fewestChanges 218 = .ok (.iload 6, 2) := by decide +kernel
theorem dX6_fewestChanges_220 : decode cX6_fewestChanges 220 = .ok (.iaload, 1) := by decide +kernel
theorem dX6_fewestChanges_221 : decode cX6_fewestChanges 221 = .ok (.iconst 1, 1) := by decide +kernel
theorem dX6_fewestChanges_222 : decode cX6_fewestChanges 222 = .ok (.iadd, 1) := by decide +kernel
theorem dX6_fewestChanges_223 : decode cX6_fewestChanges 223 = .ok (.aload_n 0, 1) := by decide +kernel
theorem dX6_fewestChanges_224 : decode cX6_fewestChanges 224 = .ok (.getfield 23, 3) := by decide +kernel
theorem dX6_fewestChanges_227 : decode cX6_fewestChanges 227 = .ok (.iload 7, 2) := by decide +kernel
theorem dX6_fewestChanges_229 : decode cX6_fewestChanges 229 = .ok (.iaload, 1) := by decide +kernel
theorem dX6_fewestChanges_230 : decode cX6_fewestChanges 230 = .ok (.if_icmp .ge 19, 3) := by decide +kernel
theorem dX6_fewestChanges_233 : decode cX6_fewestChanges 233 = .ok (.aload_n 0, 1) := by decide +kernel
theorem dX6_fewestChanges_234 : decode cX6_fewestChanges 234 = .ok (.getfield 23, 3) := by decide +kernel
theorem dX6_fewestChanges_237 : decode cX6_fewestChanges 237 = .ok (.iload 7, 2) := by decide +kernel
theorem dX6_fewestChanges_239 : decode cX6_fewestChanges 239 = .ok (.aload_n 0, 1) := by decide +kernel
theorem dX6_fewestChanges_240 : decode cX6_fewestChanges 240 = .ok (.getfield 23, 3) := by decide +kernel
theorem dX6_fewestChanges_243 : decode cX6_fewestChanges 243 = .ok (.iload 6, 2) := by decide +kernel
theorem dX6_fewestChanges_245 : decode cX6_fewestChanges 245 = .ok (.iaload, 1) := by decide +kernel
theorem dX6_fewestChanges_246 : decode cX6_fewestChanges 246 = .ok (.iconst 1, 1) := by decide +kernel
theorem dX6_fewestChanges_247 : decode cX6_fewestChanges 247 = .ok (.iadd, 1) := by decide +kernel
theorem dX6_fewestChanges_248 : decode cX6_fewestChanges 248 = .ok (.iastore, 1) := by decide +kernel
theorem dX6_fewestChanges_249 : decode cX6_fewestChanges 249 = .ok (.iinc 7 2, 3) := by decide +kernel
theorem dX6_fewestChanges_252 : decode cX6_fewestChanges 252 = .ok (.goto (-107), 3) := by decide +kernel
theorem dX6_fewestChanges_255 : decode cX6_fewestChanges 255 = .ok (.iinc 6 1, 3) := by decide +kernel
theorem dX6_fewestChanges_258 : decode cX6_fewestChanges 258 = .ok (.goto (-125), 3) := by decide +kernel
theorem dX6_fewestChanges_261 : decode cX6_fewestChanges 261 = .ok (.iinc 5 1, 3) := by decide +kernel
theorem dX6_fewestChanges_264 : decode cX6_fewestChanges 264 = .ok (.goto (-140), 3) := by decide +kernel
theorem dX6_fewestChanges_267 : decode cX6_fewestChanges 267 = .ok (.iinc 3 1, 3) := by decide +kernel
theorem dX6_fewestChanges_270 : decode cX6_fewestChanges 270 = .ok (.goto (-215), 3) := by decide +kernel
theorem dX6_fewestChanges_273 : decode cX6_fewestChanges 273 = .ok (.bipush (-6), 2) := by decide +kernel
theorem dX6_fewestChanges_275 : decode cX6_fewestChanges 275 = .ok (.istore_n 3, 1) := by decide +kernel
theorem dX6_fewestChanges_276 : decode cX6_fewestChanges 276 = .ok (.iconst 0, 1) := by decide +kernel
theorem dX6_fewestChanges_277 : decode cX6_fewestChanges 277 = .ok (.istore 4, 2) := by decide +kernel
theorem dX6_fewestChanges_279 : decode cX6_fewestChanges 279 = .ok (.iload 4, 2) := by decide +kernel
theorem dX6_fewestChanges_281 : decode cX6_fewestChanges 281 = .ok (.iconst 3, 1) := by decide +kernel
theorem dX6_fewestChanges_282 : decode cX6_fewestChanges 282 = .ok (.if_icmp .ge 50, 3) := by decide +kernel
theorem dX6_fewestChanges_285 : decode cX6_fewestChanges 285 = .ok (.aload_n 0, 1) := by decide +kernel
theorem dX6_fewestChanges_286 : decode cX6_fewestChanges 286 = .ok (.getfield 23, 3) := by decide +kernel
theorem dX6_fewestChanges_289 : decode cX6_fewestChanges 289 = .ok (.iload 4, 2) := by decide +kernel
theorem dX6_fewestChanges_291 : decode cX6_fewestChanges 291 = .ok (.iaload, 1) := by decide +kernel
theorem dX6_fewestChanges_292 : decode cX6_fewestChanges 292 = .ok (.bipush (-6), 2) := by decide +kernel
theorem dX6_fewestChanges_294 : decode cX6_fewestChanges 294 = .ok (.if_icmp .eq 30, 3) := by decide +kernel
theorem dX6_fewestChanges_297 : decode cX6_fewestChanges 297 = .ok (.iload_n 3, 1) := by decide +kernel
theorem dX6_fewestChanges_298 : decode cX6_fewestChanges 298 = .ok (.bipush (-6), 2) := by decide +kernel
theorem dX6_fewestChanges_300 : decode cX6_fewestChanges 300 = .ok (.if_icmp .eq 14, 3) := by decide +kernel
theorem dX6_fewestChanges_303 : decode cX6_fewestChanges 303 = .ok (.aload_n 0, 1) := by decide +kernel
theorem dX6_fewestChanges_304 : decode cX6_fewestChanges 304 = .ok (.getfield 23, 3) := by decide +kernel
theorem dX6_fewestChanges_307 : decode cX6_fewestChanges 307 = .ok (.iload 4, 2) := by decide +kernel
theorem dX6_fewestChanges_309 : decode cX6_fewestChanges 309 = .ok (.iaload, 1) := by decide +kernel
theorem dX6_fewestChanges_310 : decode cX6_fewestChanges 310 = .ok (.iload_n 3, 1) := by decide +kernel
theorem dX6_fewestChanges_311 : decode cX6_fewestChanges 311 = .ok (.if_icmp .ge 13, 3) := by decide +kernel
theorem dX6_fewestChanges_314 : decode cX6_fewestChanges 314 = .ok (.aload_n 0, 1) := by decide +kernel
theorem dX6_fewestChanges_315 : decode cX6_fewestChanges 315 = .ok (.getfield 23, 3) := by decide +kernel
theorem dX6_fewestChanges_318 : decode cX6_fewestChanges 318 = .ok (.iload 4, 2) := by decide +kernel
theorem dX6_fewestChanges_320 : decode cX6_fewestChanges 320 = .ok (.iaload, 1) := by decide +kernel
theorem dX6_fewestChanges_321 : decode cX6_fewestChanges 321 = .ok (.goto 4, 3) := by decide +kernel
theorem dX6_fewestChanges_324 : decode cX6_fewestChanges 324 = .ok (.iload_n 3, 1) := by decide +kernel
theorem dX6_fewestChanges_325 : decode cX6_fewestChanges 325 = .ok (.istore_n 3, 1) := by decide +kernel
theorem dX6_fewestChanges_326 : decode cX6_fewestChanges 326 = .ok (.iinc 4 1, 3) := by decide +kernel
theorem dX6_fewestChanges_329 : decode cX6_fewestChanges 329 = .ok (.goto (-50), 3) := by decide +kernel
theorem dX6_fewestChanges_332 : decode cX6_fewestChanges 332 = .ok (.iload_n 3, 1) := by decide +kernel
theorem dX6_fewestChanges_333 : decode cX6_fewestChanges 333 = .ok (.ireturn, 1) := by decide +kernel
set_option maxRecDepth 20000 in
theorem ggX6_append_X6_in : GoodIn wsX6_append wsX6_in := goodIn_r _ [6] (by decide +kernel) (by decide +kernel)
set_option maxRecDepth 20000 in
theorem gX6_append_X6_in : GoodIn wsX6_append (va_wsS RX6 29 yX6_in wsX6_in) := goodIn_app (goodIn_of _ (by decide +kernel)) ggX6_append_X6_in
theorem dX6_append_0 : decode cX6_append 0 = .ok (.iload_n 1, 1) := by decide +kernel
theorem dX6_append_1 : decode cX6_append 1 = .ok (.bipush 33, 2) := by decide +kernel
theorem dX6_append_3 : decode cX6_append 3 = .ok (.bipush 126, 2) := by decide +kernel
theorem dX6_append_5 : decode cX6_append 5 = .ok (.invokestatic 29, 3) := by decide +kernel
theorem dX6_append_8 : decode cX6_append 8 = .ok (.ifCond .ne 6, 3) := by decide +kernel
theorem dX6_append_11 : decode cX6_append 11 = .ok (.bipush (-2), 2) := by decide +kernel
theorem dX6_append_13 : decode cX6_append 13 = .ok (.ireturn, 1) := by decide +kernel
theorem dX6_append_14 : decode cX6_append 14 = .ok (.aload_n 0, 1) := by decide +kernel
theorem dX6_append_15 : decode cX6_append 15 = .ok (.getfield 132, 3) := by decide +kernel
theorem dX6_append_18 : decode cX6_append 18 = .ok (.bipush 70, 2) := by decide +kernel
theorem dX6_append_20 : decode cX6_append 20 = .ok (.if_icmp .ne 6, 3) := by decide +kernel
theorem dX6_append_23 : decode cX6_append 23 = .ok (.bipush (-4), 2) := by decide +kernel
theorem dX6_append_25 : decode cX6_append 25 = .ok (.ireturn, 1) := by decide +kernel
theorem dX6_append_26 : decode cX6_append 26 = .ok (.aload_n 0, 1) := by decide +kernel
theorem dX6_append_27 : decode cX6_append 27 = .ok (.getfield 19, 3) := by decide +kernel
theorem dX6_append_30 : decode cX6_append 30 = .ok (.aload_n 0, 1) := by decide +kernel
theorem dX6_append_31 : decode cX6_append 31 = .ok (.getfield 132, 3) := by decide +kernel
theorem dX6_append_34 : decode cX6_append 34 = .ok (.iload_n 1, 1) := by decide +kernel
theorem dX6_append_35 : decode cX6_append 35 = .ok (.i2c, 1) := by decide +kernel
theorem dX6_append_36 : decode cX6_append 36 = .ok (.castore, 1) := by decide +kernel
theorem dX6_append_37 : decode cX6_append 37 = .ok (.aload_n 0, 1) := by decide +kernel
theorem dX6_append_38 : decode cX6_append 38 = .ok (.dup, 1) := by decide +kernel
theorem dX6_append_39 : decode cX6_append 39 = .ok (.getfield 132, 3) := by decide +kernel
theorem dX6_append_42 : decode cX6_append 42 = .ok (.iconst 1, 1) := by decide +kernel
theorem dX6_append_43 : decode cX6_append 43 = .ok (.iadd, 1) := by decide +kernel
theorem dX6_append_44 : decode cX6_append 44 = .ok (.putfield 132, 3) := by decide +kernel
theorem dX6_append_47 : decode cX6_append 47 = .ok (.aload_n 0, 1) := by decide +kernel
theorem dX6_append_48 : decode cX6_append 48 = .ok (.getfield 132, 3) := by decide +kernel
theorem dX6_append_51 : decode cX6_append 51 = .ok (.ireturn, 1) := by decide +kernel
theorem dX6_clearText_0 : decode cX6_clearText 0 = .ok (.aload_n 0, 1) := by decide +kernel
theorem dX6_clearText_1 : decode cX6_clearText 1 = .ok (.getfield 132, 3) := by decide +kernel
theorem dX6_clearText_4 : decode cX6_clearText 4 = .ok (.istore_n 1, 1) := by decide +kernel
theorem dX6_clearText_5 : decode cX6_clearText 5 = .ok (.aload_n 0, 1) := by decide +kernel
theorem dX6_clearText_6 : decode cX6_clearText 6 = .ok (.iconst 0, 1) := by decide +kernel
theorem dX6_clearText_7 : decode cX6_clearText 7 = .ok (.putfield 132, 3) := by decide +kernel
theorem dX6_clearText_10 : decode cX6_clearText 10 = .ok (.iload_n 1, 1) := by decide +kernel
theorem dX6_clearText_11 : decode cX6_clearText 11 = .ok (.ireturn, 1) := by decide +kernel
theorem dX6_letter_0 : decode cX6_letter 0 = .ok (.aload_n 0, 1) := by decide +kernel
theorem dX6_letter_1 : decode cX6_letter 1 = .ok (.getfield 135, 3) := by decide +kernel
theorem dX6_letter_4 : decode cX6_letter 4 = .ok (.aload_n 0, 1) := by decide +kernel
theorem dX6_letter_5 : decode cX6_letter 5 = .ok (.getfield 132, 3) := by decide +kernel
theorem dX6_letter_8 : decode cX6_letter 8 = .ok (.if_icmp .ge 15, 3) := by decide +kernel
theorem dX6_letter_11 : decode cX6_letter 11 = .ok (.aload_n 0, 1) := by decide +kernel
theorem dX6_letter_12 : decode cX6_letter 12 = .ok (.getfield 19, 3) := by decide +kernel
theorem dX6_letter_15 : decode cX6_letter 15 = .ok (.aload_n 0, 1) := by decide +kernel
theorem dX6_letter_16 : decode cX6_letter 16 = .ok (.getfield 135, 3) := by decide +kernel
theorem dX6_letter_19 : decode cX6_letter 19 = .ok (.caload, 1) := by decide +kernel
theorem dX6_letter_20 : decode cX6_letter 20 = .ok (.goto 5, 3) := by decide +kernel
theorem dX6_letter_23 : decode cX6_letter 23 = .ok (.bipush (-6), 2) := by decide +kernel
theorem dX6_letter_25 : decode cX6_letter 25 = .ok (.ireturn, 1) := by decide +kernel
theorem dX6_wants_0 : decode cX6_wants 0 = .ok (.aload_n 0, 1) := by decide +kernel
theorem dX6_wants_1 : decode cX6_wants 1 = .ok (.getfield 138, 3) := by decide +kernel
theorem dX6_wants_4 : decode cX6_wants 4 = .ok (.bipush (-6), 2) := by decide +kernel
theorem dX6_wants_6 : decode cX6_wants 6 = .ok (.if_icmp .ne 30, 3) := by decide +kernel
theorem dX6_wants_9 : decode cX6_wants 9 = .ok (.aload_n 0, 1) := by decide +kernel
theorem dX6_wants_10 : decode cX6_wants 10 = .ok (.iload_n 1, 1) := by decide +kernel
theorem dX6_wants_11 : decode cX6_wants 11 = .ok (.ifCond .eq 8, 3) := by decide +kernel
theorem dX6_wants_14 : decode cX6_wants 14 = .ok (.bipush (-6), 2) := by decide +kernel
theorem dX6_wants_16 : decode cX6_wants 16 = .ok (.goto 7, 3) := by decide +kernel
theorem dX6_wants_19 : decode cX6_wants 19 = .ok (.aload_n 0, 1) := by decide +kernel
theorem dX6_wants_20 : decode cX6_wants 20 = .ok (.getfield 135, 3) := by decide +kernel
theorem dX6_wants_23 : decode cX6_wants 23 = .ok (.putfield 138, 3) := by decide +kernel
theorem dX6_wants_26 : decode cX6_wants 26 = .ok (.aload_n 0, 1) := by decide +kernel
theorem dX6_wants_27 : decode cX6_wants 27 = .ok (.dup, 1) := by decide +kernel
theorem dX6_wants_28 : decode cX6_wants 28 = .ok (.getfield 135, 3) := by decide +kernel
theorem dX6_wants_31 : decode cX6_wants 31 = .ok (.iconst 1, 1) := by decide +kernel
theorem dX6_wants_32 : decode cX6_wants 32 = .ok (.iadd, 1) := by decide +kernel
theorem dX6_wants_33 : decode cX6_wants 33 = .ok (.putfield 135, 3) := by decide +kernel
theorem dX6_wants_36 : decode cX6_wants 36 = .ok (.return_, 1) := by decide +kernel
set_option maxRecDepth 20000 in
theorem ggX6_figure_X6_letter : GoodIn wsX6_figure wsX6_letter := goodIn_r _ [5, 6, 7, 8, 17, 18, 19, 20, 21, 22, 23, 24, 25, 26, 27, 28] (by decide +kernel) (by decide +kernel)
set_option maxRecDepth 20000 in
theorem gX6_figure_X6_letter : GoodIn wsX6_figure (wsV RX6 141 RX6 yX6_letter wsX6_letter) := goodIn_app (goodIn_of _ (by decide +kernel)) ggX6_figure_X6_letter
set_option maxRecDepth 20000 in
theorem ggX6_figure_X6_in : GoodIn wsX6_figure wsX6_in := goodIn_r _ [11] (by decide +kernel) (by decide +kernel)
set_option maxRecDepth 20000 in
theorem gX6_figure_X6_in : GoodIn wsX6_figure (va_wsS RX6 29 yX6_in wsX6_in) := goodIn_app (goodIn_of _ (by decide +kernel)) ggX6_figure_X6_in
set_option maxRecDepth 20000 in
theorem ggX6_figure_X6_wants : GoodIn wsX6_figure wsX6_wants := goodIn_r _ [15, 16, 6, 17, 18, 19, 20, 21, 22, 23, 24, 25, 26, 27, 28] (by decide +kernel) (by decide +kernel)
set_option maxRecDepth 20000 in
theorem gX6_figure_X6_wants : GoodIn wsX6_figure (wsV RX6 144 RX6 yX6_wants wsX6_wants) := goodIn_app (goodIn_of _ (by decide +kernel)) ggX6_figure_X6_wants
theorem dX6_figure_0 : decode cX6_figure 0 = .ok (.aload_n 0, 1) := by decide +kernel
theorem dX6_figure_1 : decode cX6_figure 1 = .ok (.invokevirtual 141, 3) := by decide +kernel
theorem dX6_figure_4 : decode cX6_figure 4 = .ok (.bipush 48, 2) := by decide +kernel
theorem dX6_figure_6 : decode cX6_figure 6 = .ok (.isub, 1) := by decide +kernel
theorem dX6_figure_7 : decode cX6_figure 7 = .ok (.istore_n 2, 1) := by decide +kernel
theorem dX6_figure_8 : decode cX6_figure 8 = .ok (.aload_n 0, 1) := by decide +kernel
theorem dX6_figure_9 : decode cX6_figure 9 = .ok (.iload_n 2, 1) := by decide +kernel
theorem dX6_figure_10 : decode cX6_figure 10 = .ok (.iconst 0, 1) := by decide +kernel
theorem dX6_figure_11 : decode cX6_figure 11 = .ok (.iload_n 1, 1) := by decide +kernel
theorem dX6_figure_12 : decode cX6_figure 12 = .ok (.invokestatic 29, 3) := by decide +kernel
theorem dX6_figure_15 : decode cX6_figure 15 = .ok (.invokevirtual 144, 3) := by decide +kernel
theorem dX6_figure_18 : decode cX6_figure 18 = .ok (.iload_n 2, 1) := by decide +kernel
theorem dX6_figure_19 : decode cX6_figure 19 = .ok (.ireturn, 1) := by decide +kernel
set_option maxRecDepth 20000 in
theorem ggX6_mile_X6_letter : GoodIn wsX6_mile wsX6_letter := goodIn_r _ [5, 6, 7, 8, 17, 18, 19, 20, 21, 22, 23, 24, 25, 26, 27, 28] (by decide +kernel) (by decide +kernel)
set_option maxRecDepth 20000 in
theorem gX6_mile_X6_letter : GoodIn wsX6_mile (wsV RX6 141 RX6 yX6_letter wsX6_letter) := goodIn_app (goodIn_of _ (by decide +kernel)) ggX6_mile_X6_letter
set_option maxRecDepth 20000 in
theorem ggX6_mile_X6_in : GoodIn wsX6_mile wsX6_in := goodIn_r _ [11] (by decide +kernel) (by decide +kernel)
set_option maxRecDepth 20000 in
theorem gX6_mile_X6_in : GoodIn wsX6_mile (va_wsS RX6 29 yX6_in wsX6_in) := goodIn_app (goodIn_of _ (by decide +kernel)) ggX6_mile_X6_in
set_option maxRecDepth 20000 in
theorem ggX6_mile_X6_wants : GoodIn wsX6_mile wsX6_wants := goodIn_r _ [15, 16, 6, 17, 18, 19, 20, 21, 22, 23, 24, 25, 26, 27, 28] (by decide +kernel) (by decide +kernel)
set_option maxRecDepth 20000 in
theorem gX6_mile_X6_wants : GoodIn wsX6_mile (wsV RX6 144 RX6 yX6_wants wsX6_wants) := goodIn_app (goodIn_of _ (by decide +kernel)) ggX6_mile_X6_wants
theorem dX6_mile_0 : decode cX6_mile 0 = .ok (.aload_n 0, 1) := by decide +kernel
theorem dX6_mile_1 : decode cX6_mile 1 = .ok (.invokevirtual 141, 3) := by decide +kernel
theorem dX6_mile_4 : decode cX6_mile 4 = .ok (.bipush 97, 2) := by decide +kernel
theorem dX6_mile_6 : decode cX6_mile 6 = .ok (.isub, 1) := by decide +kernel
theorem dX6_mile_7 : decode cX6_mile 7 = .ok (.istore_n 1, 1) := by decide +kernel
theorem dX6_mile_8 : decode cX6_mile 8 = .ok (.aload_n 0, 1) := by decide +kernel
theorem dX6_mile_9 : decode cX6_mile 9 = .ok (.iload_n 1, 1) := by decide +kernel
theorem dX6_mile_10 : decode cX6_mile 10 = .ok (.iconst 0, 1) := by decide +kernel
theorem dX6_mile_11 : decode cX6_mile 11 = .ok (.bipush 15, 2) := by decide +kernel
theorem dX6_mile_13 : decode cX6_mile 13 = .ok (.invokestatic 29, 3) := by decide +kernel
theorem dX6_mile_16 : decode cX6_mile 16 = .ok (.invokevirtual 144, 3) := by decide +kernel
theorem dX6_mile_19 : decode cX6_mile 19 = .ok (.iload_n 1, 1) := by decide +kernel
theorem dX6_mile_20 : decode cX6_mile 20 = .ok (.ireturn, 1) := by decide +kernel
set_option maxRecDepth 20000 in
theorem ggX6_way_X6_letter : GoodIn wsX6_way wsX6_letter := goodIn_r _ [5, 6, 7, 8, 14, 15, 16, 17, 18, 19, 20, 21, 22, 23, 24, 25] (by decide +kernel) (by decide +kernel)
set_option maxRecDepth 20000 in
theorem gX6_way_X6_letter : GoodIn wsX6_way (wsV RX6 141 RX6 yX6_letter wsX6_letter) := goodIn_app (goodIn_of _ (by decide +kernel)) ggX6_way_X6_letter
set_option maxRecDepth 20000 in
theorem ggX6_way_X6_wants : GoodIn wsX6_way wsX6_wants := goodIn_r _ [12, 13, 6, 14, 15, 16, 17, 18, 19, 20, 21, 22, 23, 24, 25] (by decide +kernel) (by decide +kernel)
set_option maxRecDepth 20000 in
theorem gX6_way_X6_wants : GoodIn wsX6_way (wsV RX6 144 RX6 yX6_wants wsX6_wants) := goodIn_app (goodIn_of _ (by decide +kernel)) ggX6_way_X6_wants
theorem dX6_way_0 : decode cX6_way 0 = .ok (.aload_n 0, 1) := by decide +kernel
theorem dX6_way_1 : decode cX6_way 1 = .ok (.invokevirtual 141, 3) := by decide +kernel
theorem dX6_way_4 : decode cX6_way 4 = .ok (.istore_n 1, 1) := by decide +kernel
theorem dX6_way_5 : decode cX6_way 5 = .ok (.aload_n 0, 1) := by decide +kernel
theorem dX6_way_6 : decode cX6_way 6 = .ok (.iload_n 1, 1) := by decide +kernel
theorem dX6_way_7 : decode cX6_way 7 = .ok (.bipush 117, 2) := by decide +kernel
theorem dX6_way_9 : decode cX6_way 9 = .ok (.if_icmp .eq 15, 3) := by decide +kernel
theorem dX6_way_12 : decode cX6_way 12 = .ok (.iload_n 1, 1) := by decide +kernel
theorem dX6_way_13 : decode cX6_way 13 = .ok (.bipush 100, 2) := by decide +kernel
theorem dX6_way_15 : decode cX6_way 15 = .ok (.if_icmp .eq 9, 3) := by decide +kernel
theorem dX6_way_18 : decode cX6_way 18 = .ok (.iload_n 1, 1) := by decide +kernel
theorem dX6_way_19 : decode cX6_way 19 = .ok (.bipush 98, 2) := by decide +kernel
theorem dX6_way_21 : decode cX6_way 21 = .ok (.if_icmp .ne 7, 3) := by decide +kernel
theorem dX6_way_24 : decode cX6_way 24 = .ok (.iconst 1, 1) := by decide +kernel
theorem dX6_way_25 : decode cX6_way 25 = .ok (.goto 4, 3) := by decide +kernel
theorem dX6_way_28 : decode cX6_way 28 = .ok (.iconst 0, 1) := by decide +kernel
theorem dX6_way_29 : decode cX6_way 29 = .ok (.invokevirtual 144, 3) := by decide +kernel
theorem dX6_way_32 : decode cX6_way 32 = .ok (.iload_n 1, 1) := by decide +kernel
theorem dX6_way_33 : decode cX6_way 33 = .ok (.bipush 117, 2) := by decide +kernel
theorem dX6_way_35 : decode cX6_way 35 = .ok (.if_icmp .ne 7, 3) := by decide +kernel
theorem dX6_way_38 : decode cX6_way 38 = .ok (.iconst 0, 1) := by decide +kernel
theorem dX6_way_39 : decode cX6_way 39 = .ok (.goto 14, 3) := by decide +kernel
theorem dX6_way_42 : decode cX6_way 42 = .ok (.iload_n 1, 1) := by decide +kernel
theorem dX6_way_43 : decode cX6_way 43 = .ok (.bipush 100, 2) := by decide +kernel
theorem dX6_way_45 : decode cX6_way 45 = .ok (.if_icmp .ne 7, 3) := by decide +kernel
theorem dX6_way_48 : decode cX6_way 48 = .ok (.iconst 1, 1) := by decide +kernel
theorem dX6_way_49 : decode cX6_way 49 = .ok (.goto 4, 3) := by decide +kernel
theorem dX6_way_52 : decode cX6_way 52 = .ok (.iconst 2, 1) := by decide +kernel
theorem dX6_way_53 : decode cX6_way 53 = .ok (.ireturn, 1) := by decide +kernel
set_option maxRecDepth 20000 in
theorem ggX6_readOrder_X6_letter : GoodIn wsX6_readOrder wsX6_letter := goodIn_r _ [7, 8, 9, 10, 31, 32, 33, 34, 35, 36, 37, 38, 39, 40, 41, 42] (by decide +kernel) (by decide +kernel)
set_option maxRecDepth 20000 in
theorem gX6_readOrder_X6_letter : GoodIn wsX6_readOrder (wsV RX6 141 RX6 yX6_letter wsX6_letter) := goodIn_app (goodIn_of _ (by decide +kernel)) ggX6_readOrder_X6_letter
set_option maxRecDepth 20000 in
theorem ggX6_readOrder_X6_wants : GoodIn wsX6_readOrder wsX6_wants := goodIn_r _ [14, 15, 8, 31, 32, 33, 34, 35, 36, 37, 38, 39, 40, 41, 42] (by decide +kernel) (by decide +kernel)
set_option maxRecDepth 20000 in
theorem gX6_readOrder_X6_wants : GoodIn wsX6_readOrder (wsV RX6 144 RX6 yX6_wants wsX6_wants) := goodIn_app (goodIn_of _ (by decide +kernel)) ggX6_readOrder_X6_wants
set_option maxRecDepth 20000 in
theorem ggX6_readOrder_X6_mile : GoodIn wsX6_readOrder wsX6_mile := goodIn_r _ [19, 3, 4, 5, 6, 7, 8, 9, 10, 20, 21, 22, 11, 12, 13, 14, 15, 31, 32, 33, 34, 35, 36, 37, 38, 39, 40, 41, 42] (by decide +kernel) (by decide +kernel)
set_option maxRecDepth 20000 in
theorem gX6_readOrder_X6_mile : GoodIn wsX6_readOrder (wsV RX6 151 RX6 yX6_mile wsX6_mile) := goodIn_app (goodIn_of _ (by decide +kernel)) ggX6_readOrder_X6_mile
set_option maxRecDepth 20000 in
theorem ggX6_readOrder_X6_figure : GoodIn wsX6_readOrder wsX6_figure := goodIn_r _ [26, 3, 4, 5, 6, 7, 8, 9, 10, 20, 21, 22, 11, 12, 13, 14, 15, 31, 32, 33, 34, 35, 36, 37, 38, 39, 40, 41, 42] (by decide +kernel) (by decide +kernel)
set_option maxRecDepth 20000 in
theorem gX6_readOrder_X6_figure : GoodIn wsX6_readOrder (wsV RX6 154 RX6 yX6_figure wsX6_figure) := goodIn_app (goodIn_of _ (by decide +kernel)) ggX6_readOrder_X6_figure
set_option maxRecDepth 20000 in
theorem ggX6_readOrder_X6_way : GoodIn wsX6_readOrder wsX6_way := goodIn_r _ [30, 3, 4, 5, 6, 7, 8, 9, 10, 11, 12, 13, 14, 15, 31, 32, 33, 34, 35, 36, 37, 38, 39, 40, 41, 42] (by decide +kernel) (by decide +kernel)
set_option maxRecDepth 20000 in
theorem gX6_readOrder_X6_way : GoodIn wsX6_readOrder (wsV RX6 157 RX6 yX6_way wsX6_way) := goodIn_app (goodIn_of _ (by decide +kernel)) ggX6_readOrder_X6_way
theorem dX6_readOrder_0 : decode cX6_readOrder 0 = .ok (.aload_n 0, 1) := by decide +kernel
theorem dX6_readOrder_1 : decode cX6_readOrder 1 = .ok (.invokevirtual 141, 3) := by decide +kernel
theorem dX6_readOrder_4 : decode cX6_readOrder 4 = .ok (.istore_n 1, 1) := by decide +kernel
theorem dX6_readOrder_5 : decode cX6_readOrder 5 = .ok (.aload_n 0, 1) := by decide +kernel
theorem dX6_readOrder_6 : decode cX6_readOrder 6 = .ok (.iload_n 1, 1) := by decide +kernel
theorem dX6_readOrder_7 : decode cX6_readOrder 7 = .ok (.bipush 97, 2) := by decide +kernel
theorem dX6_readOrder_9 : decode cX6_readOrder 9 = .ok (.if_icmp .eq 27, 3) := by decide +kernel
theorem dX6_readOrder_12 : decode cX6_readOrder 12 = .ok (.iload_n 1, 1) := by decide +kernel
theorem dX6_readOrder_13 : decode cX6_readOrder 13 = .ok (.bipush 119, 2) := by decide +kernel
theorem dX6_readOrder_15 : decode cX6_readOrder 15 = .ok (.if_icmp .eq 21, 3) := by decide +kernel
theorem dX6_readOrder_18 : decode cX6_readOrder 18 = .ok (.iload_n 1, 1) := by decide +kernel
theorem dX6_readOrder_19 : decode cX6_readOrder 19 = .ok (.bipush 108, 2) := by decide +kernel
theorem dX6_readOrder_21 : decode cX6_readOrder 21 = .ok (.if_icmp .eq 15, 3) := by decide +kernel
theorem dX6_readOrder_24 : decode cX6_readOrder 24 = .ok (.iload_n 1, 1) := by decide +kernel
theorem dX6_readOrder_25 : decode cX6_readOrder 25 = .ok (.bipush 110, 2) := by decide +kernel
theorem dX6_readOrder_27 : decode cX6_readOrder 27 = .ok (.if_icmp .eq 9, 3) := by decide +kernel
theorem dX6_readOrder_30 : decode cX6_readOrder 30 = .ok (.iload_n 1, 1) := by decide +kernel
theorem dX6_readOrder_31 : decode cX6_readOrder 31 = .ok (.bipush 100, 2) := by decide +kernel
theorem dX6_readOrder_33 : decode cX6_readOrder 33 = .ok (.if_icmp .ne 7, 3) := by decide +kernel
theorem dX6_readOrder_36 : decode cX6_readOrder 36 = .ok (.iconst 1, 1) := by decide +kernel
theorem dX6_readOrder_37 : decode cX6_readOrder 37 = .ok (.goto 4, 3) := by decide +kernel
theorem dX6_readOrder_40 : decode cX6_readOrder 40 = .ok (.iconst 0, 1) := by decide +kernel
theorem dX6_readOrder_41 : decode cX6_readOrder 41 = .ok (.invokevirtual 144, 3) := by decide +kernel
theorem dX6_readOrder_44 : decode cX6_readOrder 44 = .ok (.iconst 4, 1) := by decide +kernel
theorem dX6_readOrder_45 : decode cX6_readOrder 45 = .ok (.aload_n 0, 1) := by decide +kernel
theorem dX6_readOrder_46 : decode cX6_readOrder 46 = .ok (.getfield 148, 3) := by decide +kernel
theorem dX6_readOrder_49 : decode cX6_readOrder 49 = .ok (.imul, 1) := by decide +kernel
theorem dX6_readOrder_50 : decode cX6_readOrder 50 = .ok (.istore_n 2, 1) := by decide +kernel
theorem dX6_readOrder_51 : decode cX6_readOrder 51 = .ok (.aload_n 0, 1) := by decide +kernel
theorem dX6_readOrder_52 : decode cX6_readOrder 52 = .ok (.getfield 26, 3) := by decide +kernel
theorem dX6_readOrder_55 : decode cX6_readOrder 55 = .ok (.iload_n 2, 1) := by decide +kernel
theorem dX6_readOrder_56 : decode cX6_readOrder 56 = .ok (.iload_n 1, 1) := by decide +kernel
theorem dX6_readOrder_57 : decode cX6_readOrder 57 = .ok (.iastore, 1) := by decide +kernel
theorem dX6_readOrder_58 : decode cX6_readOrder 58 = .ok (.iload_n 1, 1) := by decide +kernel
theorem dX6_readOrder_59 : decode cX6_readOrder 59 = .ok (.bipush 110, 2) := by decide +kernel
theorem dX6_readOrder_61 : decode cX6_readOrder 61 = .ok (.if_icmp .ne 30, 3) := by decide +kernel
theorem dX6_readOrder_64 : decode cX6_readOrder 64 = .ok (.aload_n 0, 1) := by decide +kernel
theorem dX6_readOrder_65 : decode cX6_readOrder 65 = .ok (.getfield 26, 3) := by decide +kernel
theorem dX6_readOrder_68 : decode cX6_readOrder 68 = .ok (.iload_n 2, 1) := by decide +kernel
theorem dX6_readOrder_69 : decode cX6_readOrder 69 = .ok (.iconst 1, 1) := by decide +kernel
theorem dX6_readOrder_70 : decode cX6_readOrder 70 = .ok (.iadd, 1) := by decide +kernel
theorem dX6_readOrder_71 : decode cX6_readOrder 71 = .ok (.aload_n 0, 1) := by decide +kernel
theorem dX6_readOrder_72 : decode cX6_readOrder 72 = .ok (.invokevirtual 151, 3) := by decide +kernel
theorem dX6_readOrder_75 : decode cX6_readOrder 75 = .ok (.iastore, 1) := by decide +kernel
theorem dX6_readOrder_76 : decode cX6_readOrder 76 = .ok (.aload_n 0, 1) := by decide +kernel
theorem dX6_readOrder_77 : decode cX6_readOrder 77 = .ok (.getfield 26, 3) := by decide +kernel
theorem dX6_readOrder_80 : decode cX6_readOrder 80 = .ok (.iload_n 2, 1) := by decide +kernel
theorem dX6_readOrder_81 : decode cX6_readOrder 81 = .ok (.iconst 2, 1) := by decide +kernel
theorem dX6_readOrder_82 : decode cX6_readOrder 82 = .ok (.iadd, 1) := by decide +kernel
theorem dX6_readOrder_83 : decode cX6_readOrder 83 = .ok (.aload_n 0, 1) := by decide +kernel
theorem dX6_readOrder_84 : decode cX6_readOrder 84 = .ok (.invokevirtual 151, 3) := by decide +kernel
theorem dX6_readOrder_87 : decode cX6_readOrder 87 = .ok (.iastore, 1) := by decide +kernel
theorem dX6_readOrder_88 : decode cX6_readOrder 88 = .ok (.goto 70, 3) := by decide +kernel
theorem dX6_readOrder_91 : decode cX6_readOrder 91 = .ok (.iload_n 1, 1) := by decide +kernel
theorem dX6_readOrder_92 : decode cX6_readOrder 92 = .ok (.bipush 100, 2) := by decide +kernel
theorem dX6_readOrder_94 : decode cX6_readOrder 94 = .ok (.if_icmp .eq 64, 3) := by decide +kernel
theorem dX6_readOrder_97 : decode cX6_readOrder 97 = .ok (.aload_n 0, 1) := by decide +kernel
theorem dX6_readOrder_98 : decode cX6_readOrder 98 = .ok (.getfield 26, 3) := by decide +kernel
theorem dX6_readOrder_101 : decode cX6_readOrder 101 = .ok (.iload_n 2, 1) := by decide +kernel
theorem dX6_readOrder_102 : decode cX6_readOrder 102 = .ok (.iconst 1, 1) := by decide +kernel
theorem dX6_readOrder_103 : decode cX6_readOrder 103 = .ok (.iadd, 1) := by decide +kernel
theorem dX6_readOrder_104 : decode cX6_readOrder 104 = .ok (.aload_n 0, 1) := by decide +kernel
theorem dX6_readOrder_105 : decode cX6_readOrder 105 = .ok (.iload_n 1, 1) := by decide +kernel
theorem dX6_readOrder_106 : decode cX6_readOrder 106 = .ok (.bipush 108, 2) := by decide +kernel
theorem dX6_readOrder_108 : decode cX6_readOrder 108 = .ok (.if_icmp .ne 7, 3) := by decide +kernel
theorem dX6_readOrder_111 : decode cX6_readOrder 111 = .ok (.iconst 1, 1) := by decide +kernel
theorem dX6_readOrder_112 : decode cX6_readOrder 112 = .ok (.goto 4, 3) := by decide +kernel
theorem dX6_readOrder_115 : decode cX6_readOrder 115 = .ok (.iconst 2, 1) := by decide +kernel
theorem dX6_readOrder_116 : decode cX6_readOrder 116 = .ok (.invokevirtual 154, 3) := by decide +kernel
theorem dX6_readOrder_119 : decode cX6_readOrder 119 = .ok (.iastore, 1) := by decide +kernel
theorem dX6_readOrder_120 : decode cX6_readOrder 120 = .ok (.aload_n 0, 1) := by decide +kernel
theorem dX6_readOrder_121 : decode cX6_readOrder 121 = .ok (.getfield 26, 3) := by decide +kernel
theorem dX6_readOrder_124 : decode cX6_readOrder 124 = .ok (.iload_n 2, 1) := by decide +kernel
theorem dX6_readOrder_125 : decode cX6_readOrder 125 = .ok (.iconst 2, 1) := by decide +kernel
theorem dX6_readOrder_126 : decode cX6_readOrder 126 = .ok (.iadd, 1) := by decide +kernel
theorem dX6_readOrder_127 : decode cX6_readOrder 127 = .ok (.aload_n 0, 1) := by decide +kernel
theorem dX6_readOrder_128 : decode cX6_readOrder 128 = .ok (.invokevirtual 151, 3) := by decide +kernel
theorem dX6_readOrder_131 : decode cX6_readOrder 131 = .ok (.iastore, 1) := by decide +kernel
theorem dX6_readOrder_132 : decode cX6_readOrder 132 = .ok (.aload_n 0, 1) := by decide +kernel
theorem dX6_readOrder_133 : decode cX6_readOrder 133 = .ok (.getfield 26, 3) := by decide +kernel
theorem dX6_readOrder_136 : decode cX6_readOrder 136 = .ok (.iload_n 2, 1) := by decide +kernel
theorem dX6_readOrder_137 : decode cX6_readOrder 137 = .ok (.iconst 3, 1) := by decide +kernel
theorem dX6_readOrder_138 : decode cX6_readOrder 138 = .ok (.iadd, 1) := by decide +kernel
theorem dX6_readOrder_139 : decode cX6_readOrder 139 = .ok (.iload_n 1, 1) := by decide +kernel
theorem dX6_readOrder_140 : decode cX6_readOrder 140 = .ok (.bipush 97, 2) := by decide +kernel
theorem dX6_readOrder_142 : decode cX6_readOrder 142 = .ok (.if_icmp .ne 10, 3) := by decide +kernel
theorem dX6_readOrder_145 : decode cX6_readOrder 145 = .ok (.aload_n 0, 1) := by decide +kernel
theorem dX6_readOrder_146 : decode cX6_readOrder 146 = .ok (.invokevirtual 157, 3) := by decide +kernel
theorem dX6_readOrder_149 : decode cX6_readOrder 149 = .ok (.goto 8, 3) := by decide +kernel
theorem dX6_readOrder_152 : decode cX6_readOrder 152 = .ok (.aload_n 0, 1) := by decide +kernel
theorem dX6_readOrder_153 : decode cX6_readOrder 153 = .ok (.iconst 3, 1) := by decide +kernel
theorem dX6_readOrder_154 : decode cX6_readOrder 154 = .ok (.invokevirtual 154, 3) := by decide +kernel
theorem dX6_readOrder_157 : decode cX6_readOrder 157 = .ok (.iastore, 1) := by decide +kernel
theorem dX6_readOrder_158 : decode cX6_readOrder 158 = .ok (.aload_n 0, 1) := by decide +kernel
theorem dX6_readOrder_159 : decode cX6_readOrder 159 = .ok (.dup, 1) := by decide +kernel
theorem dX6_readOrder_160 : decode cX6_readOrder 160 = .ok (.getfield 148, 3) := by decide +kernel
theorem dX6_readOrder_163 : decode cX6_readOrder 163 = .ok (.iconst 1, 1) := by decide +kernel
theorem dX6_readOrder_164 : decode cX6_readOrder 164 = .ok (.iadd, 1) := by decide +kernel
theorem dX6_readOrder_165 : decode cX6_readOrder 165 = .ok (.putfield 148, 3) := by decide +kernel
theorem dX6_readOrder_168 : decode cX6_readOrder 168 = .ok (.return_, 1) := by decide +kernel
set_option maxRecDepth 20000 in
theorem ggX6_errorPosition_X6_readOrder : GoodIn wsX6_errorPosition wsX6_readOrder := goodIn_r _ [9, 1, 10, 11, 12, 13, 8, 14, 2, 4, 15, 16, 17, 18, 19, 3, 20, 21, 22, 23, 24, 25, 26, 27, 28, 29, 30, 31, 32, 33, 34, 35, 36, 37, 38, 39, 40, 41, 42, 43, 44, 45, 46] (by decide +kernel) (by decide +kernel)
set_option maxRecDepth 20000 in
theorem gX6_errorPosition_X6_readOrder : GoodIn wsX6_errorPosition (wsV RX6 160 RX6 yX6_readOrder wsX6_readOrder) := goodIn_app (goodIn_of _ (by decide +kernel)) ggX6_errorPosition_X6_readOrder
set_option maxRecDepth 20000 in
theorem ggX6_errorPosition_X6_letter : GoodIn wsX6_errorPosition wsX6_letter := goodIn_r _ [14, 2, 4, 15, 35, 36, 37, 38, 39, 40, 41, 42, 43, 44, 45, 46] (by decide +kernel) (by decide +kernel)
set_option maxRecDepth 20000 in
theorem gX6_errorPosition_X6_letter : GoodIn wsX6_errorPosition (wsV RX6 141 RX6 yX6_letter wsX6_letter) := goodIn_app (goodIn_of _ (by decide +kernel)) ggX6_errorPosition_X6_letter
set_option maxRecDepth 20000 in
theorem ggX6_errorPosition_X6_wants : GoodIn wsX6_errorPosition wsX6_wants := goodIn_r _ [19, 3, 2, 35, 36, 37, 38, 39, 40, 41, 42, 43, 44, 45, 46] (by decide +kernel) (by decide +kernel)
set_option maxRecDepth 20000 in
theorem gX6_errorPosition_X6_wants : GoodIn wsX6_errorPosition (wsV RX6 144 RX6 yX6_wants wsX6_wants) := goodIn_app (goodIn_of _ (by decide +kernel)) ggX6_errorPosition_X6_wants
theorem dX6_errorPosition_0 : decode cX6_errorPosition 0 = .ok (.aload_n 0, 1) := by decide +kernel
theorem dX6_errorPosition_1 : decode cX6_errorPosition 1 = .ok (.iconst 0, 1) := by decide +kernel
theorem dX6_errorPosition_2 : decode cX6_errorPosition 2 = .ok (.putfield 148, 3) := by decide +kernel
theorem dX6_errorPosition_5 : decode cX6_errorPosition 5 = .ok (.aload_n 0, 1) := by decide +kernel
theorem dX6_errorPosition_6 : decode cX6_errorPosition 6 = .ok (.iconst 0, 1) := by decide +kernel
theorem dX6_errorPosition_7 : decode cX6_errorPosition 7 = .ok (.putfield 135, 3) := by decide +kernel
theorem dX6_errorPosition_10 : decode cX6_errorPosition 10 = .ok (.aload_n 0, 1) := by decide +kernel
theorem dX6_errorPosition_11 : decode cX6_errorPosition 11 = .ok (.bipush (-6), 2) := by decide +kernel
theorem dX6_errorPosition_13 : decode cX6_errorPosition 13 = .ok (.putfield 138, 3) := by decide +kernel
theorem dX6_errorPosition_16 : decode cX6_errorPosition 16 = .ok (.iconst 1, 1) := by decide +kernel
theorem dX6_errorPosition_17 : decode cX6_errorPosition 17 = .ok (.istore_n 1, 1) := by decide +kernel
theorem dX6_errorPosition_18 : decode cX6_errorPosition 18 = .ok (.iload_n 1, 1) := by decide +kernel
theorem dX6_errorPosition_19 : decode cX6_errorPosition 19 = .ok (.ifCond .eq 73, 3) := by decide +kernel
theorem dX6_errorPosition_22 : decode cX6_errorPosition 22 = .ok (.aload_n 0, 1) := by decide +kernel
theorem dX6_errorPosition_23 : decode cX6_errorPosition 23 = .ok (.invokevirtual 160, 3) := by decide +kernel
theorem dX6_errorPosition_26 : decode cX6_errorPosition 26 = .ok (.aload_n 0, 1) := by decide +kernel
theorem dX6_errorPosition_27 : decode cX6_errorPosition 27 = .ok (.getfield 138, 3) := by decide +kernel
theorem dX6_errorPosition_30 : decode cX6_errorPosition 30 = .ok (.bipush (-6), 2) := by decide +kernel
theorem dX6_errorPosition_32 : decode cX6_errorPosition 32 = .ok (.if_icmp .ne 18, 3) := by decide +kernel
theorem dX6_errorPosition_35 : decode cX6_errorPosition 35 = .ok (.aload_n 0, 1) := by decide +kernel
theorem dX6_errorPosition_36 : decode cX6_errorPosition 36 = .ok (.getfield 135, 3) := by decide +kernel
theorem dX6_errorPosition_39 : decode cX6_errorPosition 39 = .ok (.aload_n 0, 1) := by decide +kernel
theorem dX6_errorPosition_40 : decode cX6_errorPosition 40 = .ok (.getfield 132, 3) := by decide +kernel
theorem dX6_errorPosition_43 : decode cX6_errorPosition 43 = .ok (.if_icmp .ge 7, 3) := by decide +kernel
theorem dX6_errorPosition_46 : decode cX6_errorPosition 46 = .ok (.iconst 1, 1) := by decide +kernel
theorem dX6_errorPosition_47 : decode cX6_errorPosition 47 = .ok (.goto 4, 3) := by decide +kernel
theorem dX6_errorPosition_50 : decode cX6_errorPosition 50 = .ok (.iconst 0, 1) := by decide +kernel
theorem dX6_errorPosition_51 : decode cX6_errorPosition 51 = .ok (.istore_n 1, 1) := by decide +kernel
theorem dX6_errorPosition_52 : decode cX6_errorPosition 52 = .ok (.iload_n 1, 1) := by decide +kernel
theorem dX6_errorPosition_53 : decode cX6_errorPosition 53 = .ok (.ifCond .eq (-35), 3) := by decide +kernel
theorem dX6_errorPosition_56 : decode cX6_errorPosition 56 = .ok (.aload_n 0, 1) := by decide +kernel
theorem dX6_errorPosition_57 : decode cX6_errorPosition 57 = .ok (.aload_n 0, 1) := by decide +kernel
theorem dX6_errorPosition_58 : decode cX6_errorPosition 58 = .ok (.invokevirtual 141, 3) := by decide +kernel
theorem dX6_errorPosition_61 : decode cX6_errorPosition 61 = .ok (.bipush 59, 2) := by decide +kernel
theorem dX6_errorPosition_63 : decode cX6_errorPosition 63 = .ok (.if_icmp .ne 7, 3) := by decide +kernel
theorem dX6_errorPosition_66 : decode cX6_errorPosition 66 = .ok (.iconst 1, 1) := by decide +kernel
theorem dX6_errorPosition_67 : decode cX6_errorPosition 67 = .ok (.goto 4, 3) := by decide +kernel
theorem dX6_errorPosition_70 : decode cX6_errorPosition 70 = .ok (.iconst 0, 1) := by decide +kernel
theorem dX6_errorPosition_71 : decode cX6_errorPosition 71 = .ok (.invokevirtual 144, 3) := by decide +kernel
theorem dX6_errorPosition_74 : decode cX6_errorPosition 74 = .ok (.aload_n 0, 1) := by decide +kernel
theorem dX6_errorPosition_75 : decode cX6_errorPosition 75 = .ok (.getfield 138, 3) := by decide +kernel
theorem dX6_errorPosition_78 : decode cX6_errorPosition 78 = .ok (.bipush (-6), 2) := by decide +kernel
theorem dX6_errorPosition_80 : decode cX6_errorPosition 80 = .ok (.if_icmp .ne 7, 3) := by decide +kernel
theorem dX6_errorPosition_83 : decode cX6_errorPosition 83 = .ok (.iconst 1, 1) := by decide +kernel
theorem dX6_errorPosition_84 : decode cX6_errorPosition 84 = .ok (.goto 4, 3) := by decide +kernel
theorem dX6_errorPosition_87 : decode cX6_errorPosition 87 = .ok (.iconst 0, 1) := by decide +kernel
theorem dX6_errorPosition_88 : decode cX6_errorPosition 88 = .ok (.istore_n 1, 1) := by decide +kernel
theorem dX6_errorPosition_89 : decode cX6_errorPosition 89 = .ok (.goto (-71), 3) := by decide +kernel
theorem dX6_errorPosition_92 : decode cX6_errorPosition 92 = .ok (.aload_n 0, 1) := by decide +kernel
theorem dX6_errorPosition_93 : decode cX6_errorPosition 93 = .ok (.getfield 138, 3) := by decide +kernel
theorem dX6_errorPosition_96 : decode cX6_errorPosition 96 = .ok (.ireturn, 1) := by decide +kernel
set_option maxRecDepth 20000 in
theorem ggX6_carryOutOne_X6_whyNotArrow : GoodIn wsX6_carryOutOne wsX6_whyNotArrow := goodIn_r _ [6, 7, 8, 5, 9, 10, 11, 12, 13, 14, 15, 16, 17, 18, 19, 20, 21, 22, 23, 24, 25, 26, 27, 28, 29, 30, 31, 32, 33, 34, 70, 71, 72, 73, 74, 75, 76, 77, 78, 79, 80, 81] (by decide +kernel) (by decide +kernel)
set_option maxRecDepth 20000 in
theorem gX6_carryOutOne_X6_whyNotArrow : GoodIn wsX6_carryOutOne (wsV RX6 68 RX6 yX6_whyNotArrow wsX6_whyNotArrow) := goodIn_app (goodIn_of _ (by decide +kernel)) ggX6_carryOutOne_X6_whyNotArrow
set_option maxRecDepth 20000 in
theorem ggX6_carryOutOne_X6_cellAt : GoodIn wsX6_carryOutOne wsX6_cellAt := goodIn_r _ [28] (by decide +kernel) (by decide +kernel)
set_option maxRecDepth 20000 in
theorem gX6_carryOutOne_X6_cellAt : GoodIn wsX6_carryOutOne (va_wsS RX6 33 yX6_cellAt wsX6_cellAt) := goodIn_app (goodIn_of _ (by decide +kernel)) ggX6_carryOutOne_X6_cellAt
set_option maxRecDepth 20000 in
theorem ggX6_carryOutOne_X6_signs : GoodIn wsX6_carryOutOne wsX6_signs := goodIn_r _ [38, 17, 70, 71, 72, 73, 74, 75, 76, 77, 78, 79, 80, 81] (by decide +kernel) (by decide +kernel)
set_option maxRecDepth 20000 in
theorem gX6_carryOutOne_X6_signs : GoodIn wsX6_carryOutOne (wsV RX6 71 RX6 yX6_signs wsX6_signs) := goodIn_app (goodIn_of _ (by decide +kernel)) ggX6_carryOutOne_X6_signs
set_option maxRecDepth 20000 in
theorem ggX6_carryOutOne_X6_lineAt : GoodIn wsX6_carryOutOne wsX6_lineAt := goodIn_r _ [34] (by decide +kernel) (by decide +kernel)
set_option maxRecDepth 20000 in
theorem gX6_carryOutOne_X6_lineAt : GoodIn wsX6_carryOutOne (va_wsS RX6 59 yX6_lineAt wsX6_lineAt) := goodIn_app (goodIn_of _ (by decide +kernel)) ggX6_carryOutOne_X6_lineAt
set_option maxRecDepth 20000 in
theorem ggX6_carryOutOne_X6_whyNotNight : GoodIn wsX6_carryOutOne wsX6_whyNotNight := goodIn_r _ [42, 17, 10, 11, 5, 12, 70, 71, 72, 73, 74, 75, 76, 77, 78, 79, 80, 81] (by decide +kernel) (by decide +kernel)
set_option maxRecDepth 20000 in
theorem gX6_carryOutOne_X6_whyNotNight : GoodIn wsX6_carryOutOne (wsV RX6 107 RX6 yX6_whyNotNight wsX6_whyNotNight) := goodIn_app (goodIn_of _ (by decide +kernel)) ggX6_carryOutOne_X6_whyNotNight
set_option maxRecDepth 20000 in
theorem ggX6_carryOutOne_X6_works : GoodIn wsX6_carryOutOne wsX6_works := goodIn_r _ [46, 17, 47, 48, 5, 49, 26, 27, 28, 32, 33, 34, 50, 51, 52, 53, 70, 71, 72, 73, 74, 75, 76, 77, 78, 79, 80, 81] (by decide +kernel) (by decide +kernel)
set_option maxRecDepth 20000 in
theorem gX6_carryOutOne_X6_works : GoodIn wsX6_carryOutOne (wsV RX6 110 RX6 yX6_works wsX6_works) := goodIn_app (goodIn_of _ (by decide +kernel)) ggX6_carryOutOne_X6_works
set_option maxRecDepth 20000 in
theorem ggX6_carryOutOne_X6_day : GoodIn wsX6_carryOutOne wsX6_day := goodIn_r _ [57, 17, 58, 59, 60, 5, 61, 26, 27, 28, 62, 63, 64, 65, 66, 67, 68, 69, 32, 33, 34, 70, 71, 72, 73, 74, 75, 76, 77, 78, 79, 80, 81] (by decide +kernel) (by decide +kernel)
set_option maxRecDepth 20000 in
theorem gX6_carryOutOne_X6_day : GoodIn wsX6_carryOutOne (wsV RX6 96 RX6 yX6_day wsX6_day) := goodIn_app (goodIn_of _ (by decide +kernel)) ggX6_carryOutOne_X6_day
theorem dX6_carryOutOne_0 : decode cX6_carryOutOne 0 = .ok (.aload_n 0, 1) := by decide +kernel
theorem dX6_carryOutOne_1 : decode cX6_carryOutOne 1 = .ok (.getfield 26, 3) := by decide +kernel
theorem dX6_carryOutOne_4 : decode cX6_carryOutOne 4 = .ok (.iload_n 1, 1) := by decide +kernel
theorem dX6_carryOutOne_5 : decode cX6_carryOutOne 5 = .ok (.iconst 1, 1) := by decide +kernel
theorem dX6_carryOutOne_6 : decode cX6_carryOutOne 6 = .ok (.iadd, 1) := by decide +kernel
theorem dX6_carryOutOne_7 : decode cX6_carryOutOne 7 = .ok (.iaload, 1) := by decide +kernel
theorem dX6_carryOutOne_8 : decode cX6_carryOutOne 8 = .ok (.istore_n 2, 1) := by decide +kernel
theorem dX6_carryOutOne_9 : decode cX6_carryOutOne 9 = .ok (.aload_n 0, 1) := by decide +kernel
theorem dX6_carryOutOne_10 : decode cX6_carryOutOne 10 = .ok (.getfield 26, 3) := by decide +kernel
theorem dX6_carryOutOne_13 : decode cX6_carryOutOne 13 = .ok (.iload_n 1, 1) := by decide +kernel
theorem dX6_carryOutOne_14 : decode cX6_carryOutOne 14 = .ok (.iconst 2, 1) := by decide +kernel
theorem dX6_carryOutOne_15 : decode cX6_carryOutOne 15 = .ok (.iadd, 1) := by decide +kernel
theorem dX6_carryOutOne_16 : decode cX6_carryOutOne 16 = .ok (.iaload, 1) := by decide +kernel
theorem dX6_carryOutOne_17 : decode cX6_carryOutOne 17 = .ok (.istore_n 3, 1) := by decide +kernel
theorem dX6_carryOutOne_18 : decode cX6_carryOutOne 18 = .ok (.aload_n 0, 1) := by decide +kernel
theorem dX6_carryOutOne_19 : decode cX6_carryOutOne 19 = .ok (.getfield 26, 3) := by decide +kernel
theorem dX6_carryOutOne_22 : decode cX6_carryOutOne 22 = .ok (.iload_n 1, 1) := by decide +kernel
theorem dX6_carryOutOne_23 : decode cX6_carryOutOne 23 = .ok (.iconst 3, 1) := by decide +kernel
theorem dX6_carryOutOne_24 : decode cX6_carryOutOne 24 = .ok (.iadd, 1) := by decide +kernel
theorem dX6_carryOutOne_25 : decode cX6_carryOutOne 25 = .ok (.iaload, 1) := by decide +kernel
theorem dX6_carryOutOne_26 : decode cX6_carryOutOne 26 = .ok (.istore 4, 2) := by decide +kernel
theorem dX6_carryOutOne_28 : decode cX6_carryOutOne 28 = .ok (.iconst 0, 1) := by decide +kernel
theorem dX6_carryOutOne_29 : decode cX6_carryOutOne 29 = .ok (.istore 5, 2) := by decide +kernel
theorem dX6_carryOutOne_31 : decode cX6_carryOutOne 31 = .ok (.aload_n 0, 1) := by decide +kernel
theorem dX6_carryOutOne_32 : decode cX6_carryOutOne 32 = .ok (.getfield 26, 3) := by decide +kernel
theorem dX6_carryOutOne_35 : decode cX6_carryOutOne 35 = .ok (.iload_n 1, 1) := by decide +kernel
theorem dX6_carryOutOne_36 : decode cX6_carryOutOne 36 = .ok (.iaload, 1) := by decide +kernel
theorem dX6_carryOutOne_37 : decode cX6_carryOutOne 37 = .ok (.lookupswitch 132 #[(97, 43), (108, 94), (110, 109), (119, 75)], 43) := by decide +kernel
theorem dX6_carryOutOne_80 : decode cX6_carryOutOne 80 = .ok (.aload_n 0, 1) := by decide +kernel
theorem dX6_carryOutOne_81 : decode cX6_carryOutOne 81 = .ok (.iload_n 2, 1) := by decide +kernel
theorem dX6_carryOutOne_82 : decode cX6_carryOutOne 82 = .ok (.iload_n 3, 1) := by decide +kernel
theorem dX6_carryOutOne_83 : decode cX6_carryOutOne 83 = .ok (.iload 4, 2) := by decide +kernel
theorem dX6_carryOutOne_85 : decode cX6_carryOutOne 85 = .ok (.invokevirtual 68, 3) := by decide +kernel
theorem dX6_carryOutOne_88 : decode cX6_carryOutOne 88 = .ok (.istore 5, 2) := by decide +kernel
theorem dX6_carryOutOne_90 : decode cX6_carryOutOne 90 = .ok (.iload 5, 2) := by decide +kernel
theorem dX6_carryOutOne_92 : decode cX6_carryOutOne 92 = .ok (.ifCond .ne 82, 3) := by decide +kernel
theorem dX6_carryOutOne_95 : decode cX6_carryOutOne 95 = .ok (.aload_n 0, 1) := by decide +kernel
theorem dX6_carryOutOne_96 : decode cX6_carryOutOne 96 = .ok (.iload_n 2, 1) := by decide +kernel
theorem dX6_carryOutOne_97 : decode cX6_carryOutOne 97 = .ok (.iload_n 3, 1) := by decide +kernel
theorem dX6_carryOutOne_98 : decode cX6_carryOutOne 98 = .ok (.invokestatic 33, 3) := by decide +kernel
theorem dX6_carryOutOne_101 : decode cX6_carryOutOne 101 = .ok (.iload 4, 2) := by decide +kernel
theorem dX6_carryOutOne_103 : decode cX6_carryOutOne 103 = .ok (.iconst 1, 1) := by decide +kernel
theorem dX6_carryOutOne_104 : decode cX6_carryOutOne 104 = .ok (.iadd, 1) := by decide +kernel
theorem dX6_carryOutOne_105 : decode cX6_carryOutOne 105 = .ok (.invokevirtual 71, 3) := by decide +kernel
theorem dX6_carryOutOne_108 : decode cX6_carryOutOne 108 = .ok (.pop, 1) := by decide +kernel
theorem dX6_carryOutOne_109 : decode cX6_carryOutOne 109 = .ok (.goto 65, 3) := by decide +kernel
theorem dX6_carryOutOne_112 : decode cX6_carryOutOne 112 = .ok (.aload_n 0, 1) := by decide +kernel
theorem dX6_carryOutOne_113 : decode cX6_carryOutOne 113 = .ok (.iload_n 2, 1) := by decide +kernel
theorem dX6_carryOutOne_114 : decode cX6_carryOutOne 114 = .ok (.iload_n 3, 1) := by decide +kernel
theorem dX6_carryOutOne_115 : decode cX6_carryOutOne 115 = .ok (.invokestatic 33, 3) := by decide +kernel
theorem dX6_carryOutOne_118 : decode cX6_carryOutOne 118 = .ok (.iconst 2, 1) := by decide +kernel
theorem dX6_carryOutOne_119 : decode cX6_carryOutOne 119 = .ok (.iadd, 1) := by decide +kernel
theorem dX6_carryOutOne_120 : decode cX6_carryOutOne 120 = .ok (.iload 4, 2) := by decide +kernel
theorem dX6_carryOutOne_122 : decode cX6_carryOutOne 122 = .ok (.iconst 1, 1) := by decide +kernel
theorem dX6_carryOutOne_123 : decode cX6_carryOutOne 123 = .ok (.iadd, 1) := by decide +kernel
theorem dX6_carryOutOne_124 : decode cX6_carryOutOne 124 = .ok (.invokevirtual 71, 3) := by decide +kernel
theorem dX6_carryOutOne_127 : decode cX6_carryOutOne 127 = .ok (.pop, 1) := by decide +kernel
theorem dX6_carryOutOne_128 : decode cX6_carryOutOne 128 = .ok (.goto 46, 3) := by decide +kernel
theorem dX6_carryOutOne_131 : decode cX6_carryOutOne 131 = .ok (.aload_n 0, 1) := by decide +kernel
theorem dX6_carryOutOne_132 : decode cX6_carryOutOne 132 = .ok (.iload_n 2, 1) := by decide +kernel
theorem dX6_carryOutOne_133 : decode cX6_carryOutOne 133 = .ok (.iload_n 3, 1) := by decide +kernel
theorem dX6_carryOutOne_134 : decode cX6_carryOutOne 134 = .ok (.invokestatic 59, 3) := by decide +kernel
theorem dX6_carryOutOne_137 : decode cX6_carryOutOne 137 = .ok (.iload 4, 2) := by decide +kernel
theorem dX6_carryOutOne_139 : decode cX6_carryOutOne 139 = .ok (.invokevirtual 71, 3) := by decide +kernel
theorem dX6_carryOutOne_142 : decode cX6_carryOutOne 142 = .ok (.pop, 1) := by decide +kernel
theorem dX6_carryOutOne_143 : decode cX6_carryOutOne 143 = .ok (.goto 31, 3) := by decide +kernel
theorem dX6_carryOutOne_146 : decode cX6_carryOutOne 146 = .ok (.aload_n 0, 1) := by decide +kernel
theorem dX6_carryOutOne_147 : decode cX6_carryOutOne 147 = .ok (.iload_n 2, 1) := by decide +kernel
theorem dX6_carryOutOne_148 : decode cX6_carryOutOne 148 = .ok (.iload_n 3, 1) := by decide +kernel
theorem dX6_carryOutOne_149 : decode cX6_carryOutOne 149 = .ok (.invokevirtual 107, 3) := by decide +kernel
theorem dX6_carryOutOne_152 : decode cX6_carryOutOne 152 = .ok (.istore 5, 2) := by decide +kernel
theorem dX6_carryOutOne_154 : decode cX6_carryOutOne 154 = .ok (.iload 5, 2) := by decide +kernel
theorem dX6_carryOutOne_156 : decode cX6_carryOutOne 156 = .ok (.ifCond .ne 18, 3) := by decide +kernel
theorem dX6_carryOutOne_159 : decode cX6_carryOutOne 159 = .ok (.aload_n 0, 1) := by decide +kernel
theorem dX6_carryOutOne_160 : decode cX6_carryOutOne 160 = .ok (.iload_n 2, 1) := by decide +kernel
theorem dX6_carryOutOne_161 : decode cX6_carryOutOne 161 = .ok (.iload_n 3, 1) := by decide +kernel
theorem dX6_carryOutOne_162 : decode cX6_carryOutOne 162 = .ok (.invokevirtual 110, 3) := by decide +kernel
theorem dX6_carryOutOne_165 : decode cX6_carryOutOne 165 = .ok (.pop, 1) := by decide +kernel
theorem dX6_carryOutOne_166 : decode cX6_carryOutOne 166 = .ok (.goto 8, 3) := by decide +kernel
theorem dX6_carryOutOne_169 : decode cX6_carryOutOne 169 = .ok (.aload_n 0, 1) := by decide +kernel
theorem dX6_carryOutOne_170 : decode cX6_carryOutOne 170 = .ok (.invokevirtual 96, 3) := by decide +kernel
theorem dX6_carryOutOne_173 : decode cX6_carryOutOne 173 = .ok (.pop, 1) := by decide +kernel
theorem dX6_carryOutOne_174 : decode cX6_carryOutOne 174 = .ok (.iload 5, 2) := by decide +kernel
theorem dX6_carryOutOne_176 : decode cX6_carryOutOne 176 = .ok (.ireturn, 1) := by decide +kernel
set_option maxRecDepth 20000 in
theorem ggX6_carryOut_X6_errorPosition : GoodIn wsX6_carryOut wsX6_errorPosition := goodIn_r _ [7, 1, 8, 9, 2, 10, 11, 12, 6, 13, 14, 15, 16, 17, 18, 19, 20, 21, 22, 23, 24, 25, 26, 27, 28, 29, 30, 31, 32, 33, 34, 35, 36, 37, 38, 113, 114, 115, 116, 117, 118, 119, 120, 121, 122, 123, 124] (by decide +kernel) (by decide +kernel)
set_option maxRecDepth 20000 in
theorem gX6_carryOut_X6_errorPosition : GoodIn wsX6_carryOut (wsV RX6 163 RX6 yX6_errorPosition wsX6_errorPosition) := goodIn_app (goodIn_of _ (by decide +kernel)) ggX6_carryOut_X6_errorPosition
set_option maxRecDepth 20000 in
theorem ggX6_carryOut_X6_record : GoodIn wsX6_carryOut wsX6_record := goodIn_r _ [42, 43, 44, 45, 113, 114, 115, 116, 117, 118, 119, 120, 121, 122, 123, 124] (by decide +kernel) (by decide +kernel)
set_option maxRecDepth 20000 in
theorem gX6_carryOut_X6_record : GoodIn wsX6_carryOut (wsV RX6 45 RX6 yX6_record wsX6_record) := goodIn_app (goodIn_of _ (by decide +kernel)) ggX6_carryOut_X6_record
set_option maxRecDepth 20000 in
theorem ggX6_carryOut_X6_carryOutOne : GoodIn wsX6_carryOut wsX6_carryOutOne := goodIn_r _ [49, 14, 50, 51, 52, 6, 53, 54, 55, 56, 28, 29, 30, 57, 58, 59, 60, 45, 61, 62, 63, 64, 65, 66, 67, 68, 69, 70, 71, 72, 73, 74, 75, 76, 77, 78, 79, 80, 81, 82, 83, 84, 85, 86, 87, 88, 89, 90, 91, 92, 93, 94, 95, 96, 97, 98, 99, 100, 101, 102, 103, 104, 105, 106, 107, 108, 109, 110, 111, 112, 113, 114, 115, 116, 117, 118, 119, 120, 121, 122, 123, 124] (by decide +kernel) (by decide +kernel)
set_option maxRecDepth 20000 in
theorem gX6_carryOut_X6_carryOutOne : GoodIn wsX6_carryOut (wsV RX6 166 RX6 yX6_carryOutOne wsX6_carryOutOne) := goodIn_app (goodIn_of _ (by decide +kernel)) ggX6_carryOut_X6_carryOutOne
theorem dX6_carryOut_0 : decode cX6_carryOut 0 = .ok (.aload_n 0, 1) := by decide +kernel
theorem dX6_carryOut_1 : decode cX6_carryOut 1 = .ok (.invokevirtual 163, 3) := by decide +kernel
theorem dX6_carryOut_4 : decode cX6_carryOut 4 = .ok (.bipush (-6), 2) := by decide +kernel
theorem dX6_carryOut_6 : decode cX6_carryOut 6 = .ok (.if_icmp .eq 6, 3) := by decide +kernel
theorem dX6_carryOut_9 : decode cX6_carryOut 9 = .ok (.bipush (-5), 2) := by decide +kernel
theorem dX6_carryOut_11 : decode cX6_carryOut 11 = .ok (.ireturn, 1) := by decide +kernel
theorem dX6_carryOut_12 : decode cX6_carryOut 12 = .ok (.aload_n 0, 1) := by decide +kernel
theorem dX6_carryOut_13 : decode cX6_carryOut 13 = .ok (.invokevirtual 45, 3) := by decide +kernel
theorem dX6_carryOut_16 : decode cX6_carryOut 16 = .ok (.iconst 0, 1) := by decide +kernel
theorem dX6_carryOut_17 : decode cX6_carryOut 17 = .ok (.istore_n 1, 1) := by decide +kernel
theorem dX6_carryOut_18 : decode cX6_carryOut 18 = .ok (.iload_n 1, 1) := by decide +kernel
theorem dX6_carryOut_19 : decode cX6_carryOut 19 = .ok (.aload_n 0, 1) := by decide +kernel
theorem dX6_carryOut_20 : decode cX6_carryOut 20 = .ok (.getfield 148, 3) := by decide +kernel
theorem dX6_carryOut_23 : decode cX6_carryOut 23 = .ok (.if_icmp .ge 19, 3) := by decide +kernel
theorem dX6_carryOut_26 : decode cX6_carryOut 26 = .ok (.aload_n 0, 1) := by decide +kernel
theorem dX6_carryOut_27 : decode cX6_carryOut 27 = .ok (.iconst 4, 1) := by decide +kernel
theorem dX6_carryOut_28 : decode cX6_carryOut 28 = .ok (.iload_n 1, 1) := by decide +kernel
theorem dX6_carryOut_29 : decode cX6_carryOut 29 = .ok (.imul, 1) := by decide +kernel
theorem dX6_carryOut_30 : decode cX6_carryOut 30 = .ok (.invokevirtual 166, 3) := by decide +kernel
theorem dX6_carryOut_33 : decode cX6_carryOut 33 = .ok (.ifCond .ne 9, 3) := by decide +kernel
theorem dX6_carryOut_36 : decode cX6_carryOut 36 = .ok (.iinc 1 1, 3) := by decide +kernel
theorem dX6_carryOut_39 : decode cX6_carryOut 39 = .ok (.goto (-21), 3) := by decide +kernel
theorem dX6_carryOut_42 : decode cX6_carryOut 42 = .ok (.aload_n 0, 1) := by decide +kernel
theorem dX6_carryOut_43 : decode cX6_carryOut 43 = .ok (.iconst 0, 1) := by decide +kernel
theorem dX6_carryOut_44 : decode cX6_carryOut 44 = .ok (.putfield 132, 3) := by decide +kernel
theorem dX6_carryOut_47 : decode cX6_carryOut 47 = .ok (.iload_n 1, 1) := by decide +kernel
theorem dX6_carryOut_48 : decode cX6_carryOut 48 = .ok (.ireturn, 1) := by decide +kernel
theorem dJ11_isValidCodePoint_9a6ad_0 : decode cJ11_isValidCodePoint_9a6ad 0 = .ok (.iload_n 0, 1) := by decide +kernel
theorem dJ11_isValidCodePoint_9a6ad_1 : decode cJ11_isValidCodePoint_9a6ad 1 = .ok (.bipush 16, 2) := by decide +kernel
theorem dJ11_isValidCodePoint_9a6ad_3 : decode cJ11_isValidCodePoint_9a6ad 3 = .ok (.iushr, 1) := by decide +kernel
theorem dJ11_isValidCodePoint_9a6ad_4 : decode cJ11_isValidCodePoint_9a6ad 4 = .ok (.istore_n 1, 1) := by decide +kernel
theorem dJ11_isValidCodePoint_9a6ad_5 : decode cJ11_isValidCodePoint_9a6ad 5 = .ok (.iload_n 1, 1) := by decide +kernel
theorem dJ11_isValidCodePoint_9a6ad_6 : decode cJ11_isValidCodePoint_9a6ad 6 = .ok (.bipush 17, 2) := by decide +kernel
theorem dJ11_isValidCodePoint_9a6ad_8 : decode cJ11_isValidCodePoint_9a6ad 8 = .ok (.if_icmp .ge 7, 3) := by decide +kernel
theorem dJ11_isValidCodePoint_9a6ad_11 : decode cJ11_isValidCodePoint_9a6ad 11 = .ok (.iconst 1, 1) := by decide +kernel
theorem dJ11_isValidCodePoint_9a6ad_12 : decode cJ11_isValidCodePoint_9a6ad 12 = .ok (.goto 4, 3) := by decide +kernel
theorem dJ11_isValidCodePoint_9a6ad_15 : decode cJ11_isValidCodePoint_9a6ad 15 = .ok (.iconst 0, 1) := by decide +kernel
theorem dJ11_isValidCodePoint_9a6ad_16 : decode cJ11_isValidCodePoint_9a6ad 16 = .ok (.ireturn, 1) := by decide +kernel
theorem dJ11_highSurrogate_5068e_0 : decode cJ11_highSurrogate_5068e 0 = .ok (.iload_n 0, 1) := by decide +kernel
theorem dJ11_highSurrogate_5068e_1 : decode cJ11_highSurrogate_5068e 1 = .ok (.bipush 10, 2) := by decide +kernel
theorem dJ11_highSurrogate_5068e_3 : decode cJ11_highSurrogate_5068e 3 = .ok (.iushr, 1) := by decide +kernel
theorem dJ11_highSurrogate_5068e_4 : decode cJ11_highSurrogate_5068e 4 = .ok (.ldc 110, 2) := by decide +kernel
theorem dJ11_highSurrogate_5068e_6 : decode cJ11_highSurrogate_5068e 6 = .ok (.iadd, 1) := by decide +kernel
theorem dJ11_highSurrogate_5068e_7 : decode cJ11_highSurrogate_5068e 7 = .ok (.i2c, 1) := by decide +kernel
theorem dJ11_highSurrogate_5068e_8 : decode cJ11_highSurrogate_5068e 8 = .ok (.ireturn, 1) := by decide +kernel
theorem dJ11_lowSurrogate_5068e_0 : decode cJ11_lowSurrogate_5068e 0 = .ok (.iload_n 0, 1) := by decide +kernel
theorem dJ11_lowSurrogate_5068e_1 : decode cJ11_lowSurrogate_5068e 1 = .ok (.sipush 1023, 3) := by decide +kernel
theorem dJ11_lowSurrogate_5068e_4 : decode cJ11_lowSurrogate_5068e 4 = .ok (.iand, 1) := by decide +kernel
theorem dJ11_lowSurrogate_5068e_5 : decode cJ11_lowSurrogate_5068e 5 = .ok (.ldc 76, 2) := by decide +kernel
theorem dJ11_lowSurrogate_5068e_7 : decode cJ11_lowSurrogate_5068e 7 = .ok (.iadd, 1) := by decide +kernel
theorem dJ11_lowSurrogate_5068e_8 : decode cJ11_lowSurrogate_5068e 8 = .ok (.i2c, 1) := by decide +kernel
theorem dJ11_lowSurrogate_5068e_9 : decode cJ11_lowSurrogate_5068e 9 = .ok (.ireturn, 1) := by decide +kernel
theorem dJ9_abs_0f7a4_0 : decode cJ9_abs_0f7a4 0 = .ok (.iload_n 0, 1) := by decide +kernel
theorem dJ9_abs_0f7a4_1 : decode cJ9_abs_0f7a4 1 = .ok (.ifCond .ge 8, 3) := by decide +kernel
theorem dJ9_abs_0f7a4_4 : decode cJ9_abs_0f7a4 4 = .ok (.iload_n 0, 1) := by decide +kernel
theorem dJ9_abs_0f7a4_5 : decode cJ9_abs_0f7a4 5 = .ok (.ineg, 1) := by decide +kernel
theorem dJ9_abs_0f7a4_6 : decode cJ9_abs_0f7a4 6 = .ok (.goto 4, 3) := by decide +kernel
theorem dJ9_abs_0f7a4_9 : decode cJ9_abs_0f7a4 9 = .ok (.iload_n 0, 1) := by decide +kernel
theorem dJ9_abs_0f7a4_10 : decode cJ9_abs_0f7a4 10 = .ok (.ireturn, 1) := by decide +kernel
theorem dJ9_max_7cf53_0 : decode cJ9_max_7cf53 0 = .ok (.iload_n 0, 1) := by decide +kernel
theorem dJ9_max_7cf53_1 : decode cJ9_max_7cf53 1 = .ok (.iload_n 1, 1) := by decide +kernel
theorem dJ9_max_7cf53_2 : decode cJ9_max_7cf53 2 = .ok (.if_icmp .lt 7, 3) := by decide +kernel
theorem dJ9_max_7cf53_5 : decode cJ9_max_7cf53 5 = .ok (.iload_n 0, 1) := by decide +kernel
theorem dJ9_max_7cf53_6 : decode cJ9_max_7cf53 6 = .ok (.goto 4, 3) := by decide +kernel
theorem dJ9_max_7cf53_9 : decode cJ9_max_7cf53 9 = .ok (.iload_n 1, 1) := by decide +kernel
theorem dJ9_max_7cf53_10 : decode cJ9_max_7cf53 10 = .ok (.ireturn, 1) := by decide +kernel
theorem dJ9_min_7cf53_0 : decode cJ9_min_7cf53 0 = .ok (.iload_n 0, 1) := by decide +kernel
theorem dJ9_min_7cf53_1 : decode cJ9_min_7cf53 1 = .ok (.iload_n 1, 1) := by decide +kernel
theorem dJ9_min_7cf53_2 : decode cJ9_min_7cf53 2 = .ok (.if_icmp .gt 7, 3) := by decide +kernel
theorem dJ9_min_7cf53_5 : decode cJ9_min_7cf53 5 = .ok (.iload_n 0, 1) := by decide +kernel
theorem dJ9_min_7cf53_6 : decode cJ9_min_7cf53 6 = .ok (.goto 4, 3) := by decide +kernel
theorem dJ9_min_7cf53_9 : decode cJ9_min_7cf53 9 = .ok (.iload_n 1, 1) := by decide +kernel
theorem dJ9_min_7cf53_10 : decode cJ9_min_7cf53 10 = .ok (.ireturn, 1) := by decide +kernel
set_option maxRecDepth 20000 in
theorem ggJ0_length_8abf5_J0_coder_7d493 : GoodIn wsJ0_length_8abf5 wsJ0_coder_7d493 := goodIn_r _ [6, 7, 8] (by decide +kernel) (by decide +kernel)
set_option maxRecDepth 20000 in
theorem gJ0_length_8abf5_J0_coder_7d493 : GoodIn wsJ0_length_8abf5 (wsV RJ0 335 RJ0 yJ0_coder_7d493 wsJ0_coder_7d493) := goodIn_app (goodIn_of _ (by decide +kernel)) ggJ0_length_8abf5_J0_coder_7d493
theorem dJ0_length_8abf5_0 : decode cJ0_length_8abf5 0 = .ok (.aload_n 0, 1) := by decide +kernel
theorem dJ0_length_8abf5_1 : decode cJ0_length_8abf5 1 = .ok (.getfield 9, 3) := by decide +kernel
theorem dJ0_length_8abf5_4 : decode cJ0_length_8abf5 4 = .ok (.arraylength, 1) := by decide +kernel
theorem dJ0_length_8abf5_5 : decode cJ0_length_8abf5 5 = .ok (.aload_n 0, 1) := by decide +kernel
theorem dJ0_length_8abf5_6 : decode cJ0_length_8abf5 6 = .ok (.invokevirtual 335, 3) := by decide +kernel
theorem dJ0_length_8abf5_9 : decode cJ0_length_8abf5 9 = .ok (.ishr, 1) := by decide +kernel
theorem dJ0_length_8abf5_10 : decode cJ0_length_8abf5 10 = .ok (.ireturn, 1) := by decide +kernel
theorem dJ0_isEmpty_aae02_0 : decode cJ0_isEmpty_aae02 0 = .ok (.aload_n 0, 1) := by decide +kernel
theorem dJ0_isEmpty_aae02_1 : decode cJ0_isEmpty_aae02 1 = .ok (.getfield 9, 3) := by decide +kernel
theorem dJ0_isEmpty_aae02_4 : decode cJ0_isEmpty_aae02 4 = .ok (.arraylength, 1) := by decide +kernel
theorem dJ0_isEmpty_aae02_5 : decode cJ0_isEmpty_aae02 5 = .ok (.ifCond .ne 7, 3) := by decide +kernel
theorem dJ0_isEmpty_aae02_8 : decode cJ0_isEmpty_aae02 8 = .ok (.iconst 1, 1) := by decide +kernel
theorem dJ0_isEmpty_aae02_9 : decode cJ0_isEmpty_aae02 9 = .ok (.goto 4, 3) := by decide +kernel
theorem dJ0_isEmpty_aae02_12 : decode cJ0_isEmpty_aae02 12 = .ok (.iconst 0, 1) := by decide +kernel
theorem dJ0_isEmpty_aae02_13 : decode cJ0_isEmpty_aae02 13 = .ok (.ireturn, 1) := by decide +kernel
set_option maxRecDepth 20000 in
theorem ggJ0_charAt_5068e_J0_isLatin1_aae02 : GoodIn wsJ0_charAt_5068e wsJ0_isLatin1_aae02 := goodIn_r _ [6, 7, 8] (by decide +kernel) (by decide +kernel)
set_option maxRecDepth 20000 in
theorem gJ0_charAt_5068e_J0_isLatin1_aae02 : GoodIn wsJ0_charAt_5068e (wsV RJ0 492 RJ0 yJ0_isLatin1_aae02 wsJ0_isLatin1_aae02) := goodIn_app (goodIn_of _ (by decide +kernel)) ggJ0_charAt_5068e_J0_isLatin1_aae02
set_option maxRecDepth 20000 in
theorem ggJ0_charAt_5068e_J1_charAt_3b067 : GoodIn wsJ0_charAt_5068e wsJ1_charAt_3b067 := goodIn_r _ [12, 13, 14, 5, 15, 16, 17, 18, 19, 20] (by decide +kernel) (by decide +kernel)
set_option maxRecDepth 20000 in
theorem gJ0_charAt_5068e_J1_charAt_3b067 : GoodIn wsJ0_charAt_5068e (va_wsS RJ0 495 yJ1_charAt_3b067 wsJ1_charAt_3b067) := goodIn_app (goodIn_of _ (by decide +kernel)) ggJ0_charAt_5068e_J1_charAt_3b067
set_option maxRecDepth 20000 in
theorem ggJ0_charAt_5068e_J2_charAt_3b067 : GoodIn wsJ0_charAt_5068e wsJ2_charAt_3b067 := goodIn_r _ [24, 25, 26, 23, 27, 28, 29, 30, 31, 14, 5, 15, 16, 17, 18, 19, 20, 32, 33, 34, 35, 36, 37] (by decide +kernel) (by decide +kernel)
set_option maxRecDepth 20000 in
theorem gJ0_charAt_5068e_J2_charAt_3b067 : GoodIn wsJ0_charAt_5068e (va_wsS RJ0 498 yJ2_charAt_3b067 wsJ2_charAt_3b067) := goodIn_app (goodIn_of _ (by decide +kernel)) ggJ0_charAt_5068e_J2_charAt_3b067
theorem dJ0_charAt_5068e_0 : decode cJ0_charAt_5068e 0 = .ok (.aload_n 0, 1) := by decide +kernel
theorem dJ0_charAt_5068e_1 : decode cJ0_charAt_5068e 1 = .ok (.invokevirtual 492, 3) := by decide +kernel
theorem dJ0_charAt_5068e_4 : decode cJ0_charAt_5068e 4 = .ok (.ifCond .eq 12, 3) := by decide +kernel
theorem dJ0_charAt_5068e_7 : decode cJ0_charAt_5068e 7 = .ok (.aload_n 0, 1) := by decide +kernel
theorem dJ0_charAt_5068e_8 : decode cJ0_charAt_5068e 8 = .ok (.getfield 9, 3) := by decide +kernel
theorem dJ0_charAt_5068e_11 : decode cJ0_charAt_5068e 11 = .ok (.iload_n 1, 1) := by decide +kernel
theorem dJ0_charAt_5068e_12 : decode cJ0_charAt_5068e 12 = .ok (.invokestatic 495, 3) := by decide +kernel
theorem dJ0_charAt_5068e_15 : decode cJ0_charAt_5068e 15 = .ok (.ireturn, 1) := by decide +kernel
theorem dJ0_charAt_5068e_16 : decode cJ0_charAt_5068e 16 = .ok (.aload_n 0, 1) := by decide +kernel
theorem dJ0_charAt_5068e_17 : decode cJ0_charAt_5068e 17 = .ok (.getfield 9, 3) := by decide +kernel
theorem dJ0_charAt_5068e_20 : decode cJ0_charAt_5068e 20 = .ok (.iload_n 1, 1) := by decide +kernel
theorem dJ0_charAt_5068e_21 : decode cJ0_charAt_5068e 21 = .ok (.invokestatic 498, 3) := by decide +kernel
theorem dJ0_charAt_5068e_24 : decode cJ0_charAt_5068e 24 = .ok (.ireturn, 1) := by decide +kernel
set_option maxRecDepth 20000 in
theorem ggJ0_indexOf_0f7a4_J0_indexOf_7cf53 : GoodIn wsJ0_indexOf_0f7a4 wsJ0_indexOf_7cf53 := goodIn_r _ [5, 6, 7, 8, 9, 4, 10, 11, 12, 13, 14, 15, 16, 17, 18, 19, 20, 21, 22, 23, 24, 25, 26, 27, 28, 29, 30, 31, 32, 33, 34, 35, 36, 37, 38, 39, 40, 41, 42, 43, 44, 45, 46, 47, 48, 49, 50, 51, 52, 53, 54, 55, 56, 57, 58, 59, 60, 61, 62, 63, 64, 65, 66, 67, 68, 69, 70, 71, 72, 73, 74, 75, 76, 77, 78, 79, 80, 81, 82, 83, 84, 85] (by decide +kernel) (by decide +kernel)
set_option maxRecDepth 20000 in
theorem gJ0_indexOf_0f7a4_J0_indexOf_7cf53 : GoodIn wsJ0_indexOf_0f7a4 (wsV RJ0 633 RJ0 yJ0_indexOf_7cf53 wsJ0_indexOf_7cf53) := goodIn_app (goodIn_of _ (by decide +kernel)) ggJ0_indexOf_0f7a4_J0_indexOf_7cf53
theorem dJ0_indexOf_0f7a4_0 : decode cJ0_indexOf_0f7a4 0 = .ok (.aload_n 0, 1) := by decide +kernel
theorem dJ0_indexOf_0f7a4_1 : decode cJ0_indexOf_0f7a4 1 = .ok (.iload_n 1, 1) := by decide +kernel
theorem dJ0_indexOf_0f7a4_2 : decode cJ0_indexOf_0f7a4 2 = .ok (.iconst 0, 1) := by decide +kernel
theorem dJ0_indexOf_0f7a4_3 : decode cJ0_indexOf_0f7a4 3 = .ok (.invokevirtual 633, 3) := by decide +kernel
theorem dJ0_indexOf_0f7a4_6 : decode cJ0_indexOf_0f7a4 6 = .ok (.ireturn, 1) := by decide +kernel
set_option maxRecDepth 20000 in
theorem ggJ0_indexOf_7cf53_J0_isLatin1_aae02 : GoodIn wsJ0_indexOf_7cf53 wsJ0_isLatin1_aae02 := goodIn_r _ [6, 7, 8] (by decide +kernel) (by decide +kernel)
set_option maxRecDepth 20000 in
theorem gJ0_indexOf_7cf53_J0_isLatin1_aae02 : GoodIn wsJ0_indexOf_7cf53 (wsV RJ0 492 RJ0 yJ0_isLatin1_aae02 wsJ0_isLatin1_aae02) := goodIn_app (goodIn_of _ (by decide +kernel)) ggJ0_indexOf_7cf53_J0_isLatin1_aae02
set_option maxRecDepth 20000 in
theorem ggJ0_indexOf_7cf53_J0_length_8abf5 : GoodIn wsJ0_indexOf_7cf53 wsJ0_length_8abf5 := goodIn_r _ [12, 1, 13, 14, 15, 5, 16, 7, 8] (by decide +kernel) (by decide +kernel)
set_option maxRecDepth 20000 in
theorem gJ0_indexOf_7cf53_J0_length_8abf5 : GoodIn wsJ0_indexOf_7cf53 (wsV RJ0 505 RJ0 yJ0_length_8abf5 wsJ0_length_8abf5) := goodIn_app (goodIn_of _ (by decide +kernel)) ggJ0_indexOf_7cf53_J0_length_8abf5
set_option maxRecDepth 20000 in
theorem ggJ0_indexOf_7cf53_J1_indexOf_4cfef : GoodIn wsJ0_indexOf_7cf53 wsJ1_indexOf_4cfef := goodIn_r _ [20, 21, 22, 23, 24, 25, 26, 27, 28, 29, 19, 30, 31, 32, 33] (by decide +kernel) (by decide +kernel)
set_option maxRecDepth 20000 in
theorem gJ0_indexOf_7cf53_J1_indexOf_4cfef : GoodIn wsJ0_indexOf_7cf53 (va_wsS RJ0 637 yJ1_indexOf_4cfef wsJ1_indexOf_4cfef) := goodIn_app (goodIn_of _ (by decide +kernel)) ggJ0_indexOf_7cf53_J1_indexOf_4cfef
set_option maxRecDepth 20000 in
theorem ggJ0_indexOf_7cf53_J2_indexOf_4cfef : GoodIn wsJ0_indexOf_7cf53 wsJ2_indexOf_4cfef := goodIn_r _ [37, 38, 22, 23, 24, 39, 26, 27, 40, 41, 42, 36, 43, 44, 45, 46, 47, 48, 49, 50, 51, 5, 52, 53, 54, 55, 56, 57, 58, 59, 60, 61, 62, 63, 64, 65, 66, 67, 68, 69, 70, 71, 72, 73, 74, 75, 76, 77, 78, 79, 80, 81] (by decide +kernel) (by decide +kernel)
set_option maxRecDepth 20000 in
theorem gJ0_indexOf_7cf53_J2_indexOf_4cfef : GoodIn wsJ0_indexOf_7cf53 (va_wsS RJ0 640 yJ2_indexOf_4cfef wsJ2_indexOf_4cfef) := goodIn_app (goodIn_of _ (by decide +kernel)) ggJ0_indexOf_7cf53_J2_indexOf_4cfef
theorem dJ0_indexOf_7cf53_0 : decode cJ0_indexOf_7cf53 0 = .ok (.aload_n 0, 1) := by decide +kernel
theorem dJ0_indexOf_7cf53_1 : decode cJ0_indexOf_7cf53 1 = .ok (.invokevirtual 492, 3) := by decide +kernel
theorem dJ0_indexOf_7cf53_4 : decode cJ0_indexOf_7cf53 4 = .ok (.ifCond .eq 19, 3) := by decide +kernel
theorem dJ0_indexOf_7cf53_7 : decode cJ0_indexOf_7cf53 7 = .ok (.aload_n 0, 1) := by decide +kernel
theorem dJ0_indexOf_7cf53_8 : decode cJ0_indexOf_7cf53 8 = .ok (.getfield 9, 3) := by decide +kernel
theorem dJ0_indexOf_7cf53_11 : decode cJ0_indexOf_7cf53 11 = .ok (.iload_n 1, 1) := by decide +kernel
theorem dJ0_indexOf_7cf53_12 : decode cJ0_indexOf_7cf53 12 = .ok (.iload_n 2, 1) := by decide +kernel
theorem dJ0_indexOf_7cf53_13 : decode cJ0_indexOf_7cf53 13 = .ok (.aload_n 0, 1) := by decide +kernel
theorem dJ0_indexOf_7cf53_14 : decode cJ0_indexOf_7cf53 14 = .ok (.invokevirtual 505, 3) := by decide +kernel
theorem dJ0_indexOf_7cf53_17 : decode cJ0_indexOf_7cf53 17 = .ok (.invokestatic 637, 3) := by decide +kernel
theorem dJ0_indexOf_7cf53_20 : decode cJ0_indexOf_7cf53 20 = .ok (.goto 16, 3) := by decide +kernel
theorem dJ0_indexOf_7cf53_23 : decode cJ0_indexOf_7cf53 23 = .ok (.aload_n 0, 1) := by decide +kernel
theorem dJ0_indexOf_7cf53_24 : decode cJ0_indexOf_7cf53 24 = .ok (.getfield 9, 3) := by decide +kernel
theorem dJ0_indexOf_7cf53_27 : decode cJ0_indexOf_7cf53 27 = .ok (.iload_n 1, 1) := by decide +kernel
theorem dJ0_indexOf_7cf53_28 : decode cJ0_indexOf_7cf53 28 = .ok (.iload_n 2, 1) := by decide +kernel
theorem dJ0_indexOf_7cf53_29 : decode cJ0_indexOf_7cf53 29 = .ok (.aload_n 0, 1) := by decide +kernel
theorem dJ0_indexOf_7cf53_30 : decode cJ0_indexOf_7cf53 30 = .ok (.invokevirtual 505, 3) := by decide +kernel
theorem dJ0_indexOf_7cf53_33 : decode cJ0_indexOf_7cf53 33 = .ok (.invokestatic 640, 3) := by decide +kernel
theorem dJ0_indexOf_7cf53_36 : decode cJ0_indexOf_7cf53 36 = .ok (.ireturn, 1) := by decide +kernel
theorem dJ0_coder_7d493_0 : decode cJ0_coder_7d493 0 = .ok (.getstatic 38, 3) := by decide +kernel
theorem dJ0_coder_7d493_3 : decode cJ0_coder_7d493 3 = .ok (.ifCond .eq 10, 3) := by decide +kernel
theorem dJ0_coder_7d493_6 : decode cJ0_coder_7d493 6 = .ok (.aload_n 0, 1) := by decide +kernel
theorem dJ0_coder_7d493_7 : decode cJ0_coder_7d493 7 = .ok (.getfield 15, 3) := by decide +kernel
theorem dJ0_coder_7d493_10 : decode cJ0_coder_7d493 10 = .ok (.goto 4, 3) := by decide +kernel
theorem dJ0_coder_7d493_13 : decode cJ0_coder_7d493 13 = .ok (.iconst 1, 1) := by decide +kernel
theorem dJ0_coder_7d493_14 : decode cJ0_coder_7d493 14 = .ok (.ireturn, 1) := by decide +kernel
theorem dJ0_isLatin1_aae02_0 : decode cJ0_isLatin1_aae02 0 = .ok (.getstatic 38, 3) := by decide +kernel
theorem dJ0_isLatin1_aae02_3 : decode cJ0_isLatin1_aae02 3 = .ok (.ifCond .eq 14, 3) := by decide +kernel
theorem dJ0_isLatin1_aae02_6 : decode cJ0_isLatin1_aae02 6 = .ok (.aload_n 0, 1) := by decide +kernel
theorem dJ0_isLatin1_aae02_7 : decode cJ0_isLatin1_aae02 7 = .ok (.getfield 15, 3) := by decide +kernel
theorem dJ0_isLatin1_aae02_10 : decode cJ0_isLatin1_aae02 10 = .ok (.ifCond .ne 7, 3) := by decide +kernel
theorem dJ0_isLatin1_aae02_13 : decode cJ0_isLatin1_aae02 13 = .ok (.iconst 1, 1) := by decide +kernel
theorem dJ0_isLatin1_aae02_14 : decode cJ0_isLatin1_aae02 14 = .ok (.goto 4, 3) := by decide +kernel
theorem dJ0_isLatin1_aae02_17 : decode cJ0_isLatin1_aae02 17 = .ok (.iconst 0, 1) := by decide +kernel
theorem dJ0_isLatin1_aae02_18 : decode cJ0_isLatin1_aae02 18 = .ok (.ireturn, 1) := by decide +kernel
set_option maxRecDepth 20000 in
theorem ggJ0_checkIndex_df160_J3_checkIndex_8e157 : GoodIn wsJ0_checkIndex_df160 wsJ3_checkIndex_8e157 := goodIn_r _ [5] (by decide +kernel) (by decide +kernel)
set_option maxRecDepth 20000 in
theorem gJ0_checkIndex_df160_J3_checkIndex_8e157 : GoodIn wsJ0_checkIndex_df160 (va_wsS RJ0 1059 yJ3_checkIndex_8e157 wsJ3_checkIndex_8e157) := goodIn_app (goodIn_of _ (by decide +kernel)) ggJ0_checkIndex_df160_J3_checkIndex_8e157
theorem dJ0_checkIndex_df160_0 : decode cJ0_checkIndex_df160 0 = .ok (.iload_n 0, 1) := by decide +kernel
theorem dJ0_checkIndex_df160_1 : decode cJ0_checkIndex_df160 1 = .ok (.iload_n 1, 1) := by decide +kernel
theorem dJ0_checkIndex_df160_2 : decode cJ0_checkIndex_df160 2 = .ok (.getstatic 1053, 3) := by decide +kernel
theorem dJ0_checkIndex_df160_5 : decode cJ0_checkIndex_df160 5 = .ok (.invokestatic 1059, 3) := by decide +kernel
theorem dJ0_checkIndex_df160_8 : decode cJ0_checkIndex_df160 8 = .ok (.pop, 1) := by decide +kernel
theorem dJ0_checkIndex_df160_9 : decode cJ0_checkIndex_df160 9 = .ok (.return_, 1) := by decide +kernel
set_option maxRecDepth 20000 in
theorem ggJ0_checkBoundsBeginEnd_23922_J3_checkFromToIndex_8c36e : GoodIn wsJ0_checkBoundsBeginEnd_23922 wsJ3_checkFromToIndex_8c36e := goodIn_r _ [5] (by decide +kernel) (by decide +kernel)
set_option maxRecDepth 20000 in
theorem gJ0_checkBoundsBeginEnd_23922_J3_checkFromToIndex_8c36e : GoodIn wsJ0_checkBoundsBeginEnd_23922 (va_wsS RJ0 1062 yJ3_checkFromToIndex_8c36e wsJ3_checkFromToIndex_8c36e) := goodIn_app (goodIn_of _ (by decide +kernel)) ggJ0_checkBoundsBeginEnd_23922_J3_checkFromToIndex_8c36e
theorem dJ0_checkBoundsBeginEnd_23922_0 : decode cJ0_checkBoundsBeginEnd_23922 0 = .ok (.iload_n 0, 1) := by decide +kernel
theorem dJ0_checkBoundsBeginEnd_23922_1 : decode cJ0_checkBoundsBeginEnd_23922 1 = .ok (.iload_n 1, 1) := by decide +kernel
theorem dJ0_checkBoundsBeginEnd_23922_2 : decode cJ0_checkBoundsBeginEnd_23922 2 = .ok (.iload_n 2, 1) := by decide +kernel
theorem dJ0_checkBoundsBeginEnd_23922_3 : decode cJ0_checkBoundsBeginEnd_23922 3 = .ok (.getstatic 1053, 3) := by decide +kernel
theorem dJ0_checkBoundsBeginEnd_23922_6 : decode cJ0_checkBoundsBeginEnd_23922 6 = .ok (.invokestatic 1062, 3) := by decide +kernel
theorem dJ0_checkBoundsBeginEnd_23922_9 : decode cJ0_checkBoundsBeginEnd_23922 9 = .ok (.pop, 1) := by decide +kernel
theorem dJ0_checkBoundsBeginEnd_23922_10 : decode cJ0_checkBoundsBeginEnd_23922 10 = .ok (.return_, 1) := by decide +kernel
set_option maxRecDepth 20000 in
theorem ggJ1_charAt_3b067_J0_checkIndex_df160 : GoodIn wsJ1_charAt_3b067 wsJ0_checkIndex_df160 := goodIn_r _ [4, 5, 6, 7, 8, 9] (by decide +kernel) (by decide +kernel)
set_option maxRecDepth 20000 in
theorem gJ1_charAt_3b067_J0_checkIndex_df160 : GoodIn wsJ1_charAt_3b067 (va_wsS RJ1 9 yJ0_checkIndex_df160 wsJ0_checkIndex_df160) := goodIn_app (goodIn_of _ (by decide +kernel)) ggJ1_charAt_3b067_J0_checkIndex_df160
theorem dJ1_charAt_3b067_0 : decode cJ1_charAt_3b067 0 = .ok (.iload_n 1, 1) := by decide +kernel
theorem dJ1_charAt_3b067_1 : decode cJ1_charAt_3b067 1 = .ok (.aload_n 0, 1) := by decide +kernel
theorem dJ1_charAt_3b067_2 : decode cJ1_charAt_3b067 2 = .ok (.arraylength, 1) := by decide +kernel
theorem dJ1_charAt_3b067_3 : decode cJ1_charAt_3b067 3 = .ok (.invokestatic 9, 3) := by decide +kernel
theorem dJ1_charAt_3b067_6 : decode cJ1_charAt_3b067 6 = .ok (.aload_n 0, 1) := by decide +kernel
theorem dJ1_charAt_3b067_7 : decode cJ1_charAt_3b067 7 = .ok (.iload_n 1, 1) := by decide +kernel
theorem dJ1_charAt_3b067_8 : decode cJ1_charAt_3b067 8 = .ok (.baload, 1) := by decide +kernel
theorem dJ1_charAt_3b067_9 : decode cJ1_charAt_3b067 9 = .ok (.sipush 255, 3) := by decide +kernel
theorem dJ1_charAt_3b067_12 : decode cJ1_charAt_3b067 12 = .ok (.iand, 1) := by decide +kernel
theorem dJ1_charAt_3b067_13 : decode cJ1_charAt_3b067 13 = .ok (.i2c, 1) := by decide +kernel
theorem dJ1_charAt_3b067_14 : decode cJ1_charAt_3b067 14 = .ok (.ireturn, 1) := by decide +kernel
theorem dJ1_canEncode_9a6ad_0 : decode cJ1_canEncode_9a6ad 0 = .ok (.iload_n 0, 1) := by decide +kernel
theorem dJ1_canEncode_9a6ad_1 : decode cJ1_canEncode_9a6ad 1 = .ok (.ifCond .lt 14, 3) := by decide +kernel
theorem dJ1_canEncode_9a6ad_4 : decode cJ1_canEncode_9a6ad 4 = .ok (.iload_n 0, 1) := by decide +kernel
theorem dJ1_canEncode_9a6ad_5 : decode cJ1_canEncode_9a6ad 5 = .ok (.sipush 255, 3) := by decide +kernel
theorem dJ1_canEncode_9a6ad_8 : decode cJ1_canEncode_9a6ad 8 = .ok (.if_icmp .gt 7, 3) := by decide +kernel
theorem dJ1_canEncode_9a6ad_11 : decode cJ1_canEncode_9a6ad 11 = .ok (.iconst 1, 1) := by decide +kernel
theorem dJ1_canEncode_9a6ad_12 : decode cJ1_canEncode_9a6ad 12 = .ok (.goto 4, 3) := by decide +kernel
theorem dJ1_canEncode_9a6ad_15 : decode cJ1_canEncode_9a6ad 15 = .ok (.iconst 0, 1) := by decide +kernel
theorem dJ1_canEncode_9a6ad_16 : decode cJ1_canEncode_9a6ad 16 = .ok (.ireturn, 1) := by decide +kernel
set_option maxRecDepth 20000 in
theorem ggJ1_indexOf_4cfef_J1_canEncode_9a6ad : GoodIn wsJ1_indexOf_4cfef wsJ1_canEncode_9a6ad := goodIn_r _ [11] (by decide +kernel) (by decide +kernel)
set_option maxRecDepth 20000 in
theorem gJ1_indexOf_4cfef_J1_canEncode_9a6ad : GoodIn wsJ1_indexOf_4cfef (va_wsS RJ1 88 yJ1_canEncode_9a6ad wsJ1_canEncode_9a6ad) := goodIn_app (goodIn_of _ (by decide +kernel)) ggJ1_indexOf_4cfef_J1_canEncode_9a6ad
set_option maxRecDepth 20000 in
theorem ggJ1_indexOf_4cfef_J1_indexOfChar_4cfef : GoodIn wsJ1_indexOf_4cfef wsJ1_indexOfChar_4cfef := goodIn_r _ [14] (by decide +kernel) (by decide +kernel)
set_option maxRecDepth 20000 in
theorem gJ1_indexOf_4cfef_J1_indexOfChar_4cfef : GoodIn wsJ1_indexOf_4cfef (va_wsS RJ1 95 yJ1_indexOfChar_4cfef wsJ1_indexOfChar_4cfef) := goodIn_app (goodIn_of _ (by decide +kernel)) ggJ1_indexOf_4cfef_J1_indexOfChar_4cfef
theorem dJ1_indexOf_4cfef_0 : decode cJ1_indexOf_4cfef 0 = .ok (.iload_n 1, 1) := by decide +kernel
theorem dJ1_indexOf_4cfef_1 : decode cJ1_indexOf_4cfef 1 = .ok (.invokestatic 88, 3) := by decide +kernel
theorem dJ1_indexOf_4cfef_4 : decode cJ1_indexOf_4cfef 4 = .ok (.ifCond .ne 5, 3) := by decide +kernel
theorem dJ1_indexOf_4cfef_7 : decode cJ1_indexOf_4cfef 7 = .ok (.iconst (-1), 1) := by decide +kernel
theorem dJ1_indexOf_4cfef_8 : decode cJ1_indexOf_4cfef 8 = .ok (.ireturn, 1) := by decide +kernel
theorem dJ1_indexOf_4cfef_9 : decode cJ1_indexOf_4cfef 9 = .ok (.iload_n 2, 1) := by decide +kernel
theorem dJ1_indexOf_4cfef_10 : decode cJ1_indexOf_4cfef 10 = .ok (.iconst 0, 1) := by decide +kernel
theorem dJ1_indexOf_4cfef_11 : decode cJ1_indexOf_4cfef 11 = .ok (.invokestatic 92, 3) := by decide +kernel
theorem dJ1_indexOf_4cfef_14 : decode cJ1_indexOf_4cfef 14 = .ok (.istore_n 2, 1) := by decide +kernel
theorem dJ1_indexOf_4cfef_15 : decode cJ1_indexOf_4cfef 15 = .ok (.iload_n 3, 1) := by decide +kernel
theorem dJ1_indexOf_4cfef_16 : decode cJ1_indexOf_4cfef 16 = .ok (.aload_n 0, 1) := by decide +kernel
theorem dJ1_indexOf_4cfef_17 : decode cJ1_indexOf_4cfef 17 = .ok (.arraylength, 1) := by decide +kernel
theorem dJ1_indexOf_4cfef_18 : decode cJ1_indexOf_4cfef 18 = .ok (.invokestatic 38, 3) := by decide +kernel
theorem dJ1_indexOf_4cfef_21 : decode cJ1_indexOf_4cfef 21 = .ok (.istore_n 3, 1) := by decide +kernel
theorem dJ1_indexOf_4cfef_22 : decode cJ1_indexOf_4cfef 22 = .ok (.iload_n 2, 1) := by decide +kernel
theorem dJ1_indexOf_4cfef_23 : decode cJ1_indexOf_4cfef 23 = .ok (.iload_n 3, 1) := by decide +kernel
theorem dJ1_indexOf_4cfef_24 : decode cJ1_indexOf_4cfef 24 = .ok (.if_icmp .lt 5, 3) := by decide +kernel
theorem dJ1_indexOf_4cfef_27 : decode cJ1_indexOf_4cfef 27 = .ok (.iconst (-1), 1) := by decide +kernel
theorem dJ1_indexOf_4cfef_28 : decode cJ1_indexOf_4cfef 28 = .ok (.ireturn, 1) := by decide +kernel
theorem dJ1_indexOf_4cfef_29 : decode cJ1_indexOf_4cfef 29 = .ok (.aload_n 0, 1) := by decide +kernel
theorem dJ1_indexOf_4cfef_30 : decode cJ1_indexOf_4cfef 30 = .ok (.iload_n 1, 1) := by decide +kernel
theorem dJ1_indexOf_4cfef_31 : decode cJ1_indexOf_4cfef 31 = .ok (.iload_n 2, 1) := by decide +kernel
theorem dJ1_indexOf_4cfef_32 : decode cJ1_indexOf_4cfef 32 = .ok (.iload_n 3, 1) := by decide +kernel
theorem dJ1_indexOf_4cfef_33 : decode cJ1_indexOf_4cfef 33 = .ok (.invokestatic 95, 3) := by decide +kernel
theorem dJ1_indexOf_4cfef_36 : decode cJ1_indexOf_4cfef 36 = .ok (.ireturn, 1) := by decide +kernel
theorem dJ1_indexOfChar_4cfef_0 : decode cJ1_indexOfChar_4cfef 0 = .ok (.iload_n 1, 1) := by decide +kernel
theorem dJ1_indexOfChar_4cfef_1 : decode cJ1_indexOfChar_4cfef 1 = .ok (.i2b, 1) := by decide +kernel
theorem dJ1_indexOfChar_4cfef_2 : decode cJ1_indexOfChar_4cfef 2 = .ok (.istore 4, 2) := by decide +kernel
theorem dJ1_indexOfChar_4cfef_4 : decode cJ1_indexOfChar_4cfef 4 = .ok (.iload_n 2, 1) := by decide +kernel
theorem dJ1_indexOfChar_4cfef_5 : decode cJ1_indexOfChar_4cfef 5 = .ok (.istore 5, 2) := by decide +kernel
theorem dJ1_indexOfChar_4cfef_7 : decode cJ1_indexOfChar_4cfef 7 = .ok (.iload 5, 2) := by decide +kernel
theorem dJ1_indexOfChar_4cfef_9 : decode cJ1_indexOfChar_4cfef 9 = .ok (.iload_n 3, 1) := by decide +kernel
theorem dJ1_indexOfChar_4cfef_10 : decode cJ1_indexOfChar_4cfef 10 = .ok (.if_icmp .ge 21, 3) := by decide +kernel
theorem dJ1_indexOfChar_4cfef_13 : decode cJ1_indexOfChar_4cfef 13 = .ok (.aload_n 0, 1) := by decide +kernel
theorem dJ1_indexOfChar_4cfef_14 : decode cJ1_indexOfChar_4cfef 14 = .ok (.iload 5, 2) := by decide +kernel
theorem dJ1_indexOfChar_4cfef_16 : decode cJ1_indexOfChar_4cfef 16 = .ok (.baload, 1) := by decide +kernel
theorem dJ1_indexOfChar_4cfef_17 : decode cJ1_indexOfChar_4cfef 17 = .ok (.iload 4, 2) := by decide +kernel
theorem dJ1_indexOfChar_4cfef_19 : decode cJ1_indexOfChar_4cfef 19 = .ok (.if_icmp .ne 6, 3) := by decide +kernel
theorem dJ1_indexOfChar_4cfef_22 : decode cJ1_indexOfChar_4cfef 22 = .ok (.iload 5, 2) := by decide +kernel
theorem dJ1_indexOfChar_4cfef_24 : decode cJ1_indexOfChar_4cfef 24 = .ok (.ireturn, 1) := by decide +kernel
theorem dJ1_indexOfChar_4cfef_25 : decode cJ1_indexOfChar_4cfef 25 = .ok (.iinc 5 1, 3) := by decide +kernel
theorem dJ1_indexOfChar_4cfef_28 : decode cJ1_indexOfChar_4cfef 28 = .ok (.goto (-21), 3) := by decide +kernel
theorem dJ1_indexOfChar_4cfef_31 : decode cJ1_indexOfChar_4cfef 31 = .ok (.iconst (-1), 1) := by decide +kernel
theorem dJ1_indexOfChar_4cfef_32 : decode cJ1_indexOfChar_4cfef 32 = .ok (.ireturn, 1) := by decide +kernel
set_option maxRecDepth 20000 in
theorem ggJ2_getChar_3b067_J2_length_9d52b : GoodIn wsJ2_getChar_3b067 wsJ2_length_9d52b := goodIn_r _ [7] (by decide +kernel) (by decide +kernel)
set_option maxRecDepth 20000 in
theorem gJ2_getChar_3b067_J2_length_9d52b : GoodIn wsJ2_getChar_3b067 (va_wsS RJ2 48 yJ2_length_9d52b wsJ2_length_9d52b) := goodIn_app (goodIn_of _ (by decide +kernel)) ggJ2_getChar_3b067_J2_length_9d52b
theorem dJ2_getChar_3b067_0 : decode cJ2_getChar_3b067 0 = .ok (.getstatic 44, 3) := by decide +kernel
theorem dJ2_getChar_3b067_3 : decode cJ2_getChar_3b067 3 = .ok (.ifCond .ne 25, 3) := by decide +kernel
theorem dJ2_getChar_3b067_6 : decode cJ2_getChar_3b067 6 = .ok (.iload_n 1, 1) := by decide +kernel
theorem dJ2_getChar_3b067_7 : decode cJ2_getChar_3b067 7 = .ok (.ifCond .lt 11, 3) := by decide +kernel
theorem dJ2_getChar_3b067_10 : decode cJ2_getChar_3b067 10 = .ok (.iload_n 1, 1) := by decide +kernel
theorem dJ2_getChar_3b067_11 : decode cJ2_getChar_3b067 11 = .ok (.aload_n 0, 1) := by decide +kernel
theorem dJ2_getChar_3b067_12 : decode cJ2_getChar_3b067 12 = .ok (.invokestatic 48, 3) := by decide +kernel
theorem dJ2_getChar_3b067_15 : decode cJ2_getChar_3b067 15 = .ok (.if_icmp .lt 13, 3) := by decide +kernel
theorem dJ2_getChar_3b067_18 : decode cJ2_getChar_3b067 18 = .ok (.new 52, 3) := by decide +kernel
theorem dJ2_getChar_3b067_21 : decode cJ2_getChar_3b067 21 = .ok (.dup, 1) := by decide +kernel
theorem dJ2_getChar_3b067_22 : decode cJ2_getChar_3b067 22 = .ok (.ldc 54, 2) := by decide +kernel
theorem dJ2_getChar_3b067_24 : decode cJ2_getChar_3b067 24 = .ok (.invokespecial 56, 3) := by decide +kernel
theorem dJ2_getChar_3b067_27 : decode cJ2_getChar_3b067 27 = .ok (.athrow, 1) := by decide +kernel
theorem dJ2_getChar_3b067_28 : decode cJ2_getChar_3b067 28 = .ok (.iload_n 1, 1) := by decide +kernel
theorem dJ2_getChar_3b067_29 : decode cJ2_getChar_3b067 29 = .ok (.iconst 1, 1) := by decide +kernel
theorem dJ2_getChar_3b067_30 : decode cJ2_getChar_3b067 30 = .ok (.ishl, 1) := by decide +kernel
theorem dJ2_getChar_3b067_31 : decode cJ2_getChar_3b067 31 = .ok (.istore_n 1, 1) := by decide +kernel
theorem dJ2_getChar_3b067_32 : decode cJ2_getChar_3b067 32 = .ok (.aload_n 0, 1) := by decide +kernel
theorem dJ2_getChar_3b067_33 : decode cJ2_getChar_3b067 33 = .ok (.iload_n 1, 1) := by decide +kernel
theorem dJ2_getChar_3b067_34 : decode cJ2_getChar_3b067 34 = .ok (.iinc 1 1, 3) := by decide +kernel
theorem dJ2_getChar_3b067_37 : decode cJ2_getChar_3b067 37 = .ok (.baload, 1) := by decide +kernel
theorem dJ2_getChar_3b067_38 : decode cJ2_getChar_3b067 38 = .ok (.sipush 255, 3) := by decide +kernel
theorem dJ2_getChar_3b067_41 : decode cJ2_getChar_3b067 41 = .ok (.iand, 1) := by decide +kernel
theorem dJ2_getChar_3b067_42 : decode cJ2_getChar_3b067 42 = .ok (.getstatic 59, 3) := by decide +kernel
theorem dJ2_getChar_3b067_45 : decode cJ2_getChar_3b067 45 = .ok (.ishl, 1) := by decide +kernel
theorem dJ2_getChar_3b067_46 : decode cJ2_getChar_3b067 46 = .ok (.aload_n 0, 1) := by decide +kernel
theorem dJ2_getChar_3b067_47 : decode cJ2_getChar_3b067 47 = .ok (.iload_n 1, 1) := by decide +kernel
theorem dJ2_getChar_3b067_48 : decode cJ2_getChar_3b067 48 = .ok (.baload, 1) := by decide +kernel
theorem dJ2_getChar_3b067_49 : decode cJ2_getChar_3b067 49 = .ok (.sipush 255, 3) := by decide +kernel
theorem dJ2_getChar_3b067_52 : decode cJ2_getChar_3b067 52 = .ok (.iand, 1) := by decide +kernel
theorem dJ2_getChar_3b067_53 : decode cJ2_getChar_3b067 53 = .ok (.getstatic 63, 3) := by decide +kernel
theorem dJ2_getChar_3b067_56 : decode cJ2_getChar_3b067 56 = .ok (.ishl, 1) := by decide +kernel
theorem dJ2_getChar_3b067_57 : decode cJ2_getChar_3b067 57 = .ok (.ior, 1) := by decide +kernel
theorem dJ2_getChar_3b067_58 : decode cJ2_getChar_3b067 58 = .ok (.i2c, 1) := by decide +kernel
theorem dJ2_getChar_3b067_59 : decode cJ2_getChar_3b067 59 = .ok (.ireturn, 1) := by decide +kernel
theorem dJ2_length_9d52b_0 : decode cJ2_length_9d52b 0 = .ok (.aload_n 0, 1) := by decide +kernel
theorem dJ2_length_9d52b_1 : decode cJ2_length_9d52b 1 = .ok (.arraylength, 1) := by decide +kernel
theorem dJ2_length_9d52b_2 : decode cJ2_length_9d52b 2 = .ok (.iconst 1, 1) := by decide +kernel
theorem dJ2_length_9d52b_3 : decode cJ2_length_9d52b 3 = .ok (.ishr, 1) := by decide +kernel
theorem dJ2_length_9d52b_4 : decode cJ2_length_9d52b 4 = .ok (.ireturn, 1) := by decide +kernel
set_option maxRecDepth 20000 in
theorem ggJ2_indexOf_4cfef_J2_indexOfChar_4cfef : GoodIn wsJ2_indexOf_4cfef wsJ2_indexOfChar_4cfef := goodIn_r _ [12, 13, 14, 11, 15, 16, 17, 18, 19, 20, 21, 22, 23, 24, 25, 26, 27, 28, 29, 30, 31, 32, 33, 34, 35, 36] (by decide +kernel) (by decide +kernel)
set_option maxRecDepth 20000 in
theorem gJ2_indexOf_4cfef_J2_indexOfChar_4cfef : GoodIn wsJ2_indexOf_4cfef (va_wsS RJ2 228 yJ2_indexOfChar_4cfef wsJ2_indexOfChar_4cfef) := goodIn_app (goodIn_of _ (by decide +kernel)) ggJ2_indexOf_4cfef_J2_indexOfChar_4cfef
set_option maxRecDepth 20000 in
theorem ggJ2_indexOf_4cfef_J2_indexOfSupplementary_4cfef : GoodIn wsJ2_indexOf_4cfef wsJ2_indexOfSupplementary_4cfef := goodIn_r _ [39, 40, 41, 42, 43, 44, 45, 46, 47, 48, 49, 50, 51, 13, 14, 11, 15, 16, 17, 18, 19, 20, 21, 22, 23, 24, 25, 26, 27, 31, 32, 33, 34, 35, 36] (by decide +kernel) (by decide +kernel)
set_option maxRecDepth 20000 in
theorem gJ2_indexOf_4cfef_J2_indexOfSupplementary_4cfef : GoodIn wsJ2_indexOf_4cfef (va_wsS RJ2 232 yJ2_indexOfSupplementary_4cfef wsJ2_indexOfSupplementary_4cfef) := goodIn_app (goodIn_of _ (by decide +kernel)) ggJ2_indexOf_4cfef_J2_indexOfSupplementary_4cfef
theorem dJ2_indexOf_4cfef_0 : decode cJ2_indexOf_4cfef 0 = .ok (.iload_n 2, 1) := by decide +kernel
theorem dJ2_indexOf_4cfef_1 : decode cJ2_indexOf_4cfef 1 = .ok (.iconst 0, 1) := by decide +kernel
theorem dJ2_indexOf_4cfef_2 : decode cJ2_indexOf_4cfef 2 = .ok (.invokestatic 224, 3) := by decide +kernel
theorem dJ2_indexOf_4cfef_5 : decode cJ2_indexOf_4cfef 5 = .ok (.istore_n 2, 1) := by decide +kernel
theorem dJ2_indexOf_4cfef_6 : decode cJ2_indexOf_4cfef 6 = .ok (.iload_n 3, 1) := by decide +kernel
theorem dJ2_indexOf_4cfef_7 : decode cJ2_indexOf_4cfef 7 = .ok (.aload_n 0, 1) := by decide +kernel
theorem dJ2_indexOf_4cfef_8 : decode cJ2_indexOf_4cfef 8 = .ok (.arraylength, 1) := by decide +kernel
theorem dJ2_indexOf_4cfef_9 : decode cJ2_indexOf_4cfef 9 = .ok (.iconst 1, 1) := by decide +kernel
theorem dJ2_indexOf_4cfef_10 : decode cJ2_indexOf_4cfef 10 = .ok (.ishr, 1) := by decide +kernel
theorem dJ2_indexOf_4cfef_11 : decode cJ2_indexOf_4cfef 11 = .ok (.invokestatic 183, 3) := by decide +kernel
theorem dJ2_indexOf_4cfef_14 : decode cJ2_indexOf_4cfef 14 = .ok (.istore_n 3, 1) := by decide +kernel
theorem dJ2_indexOf_4cfef_15 : decode cJ2_indexOf_4cfef 15 = .ok (.iload_n 2, 1) := by decide +kernel
theorem dJ2_indexOf_4cfef_16 : decode cJ2_indexOf_4cfef 16 = .ok (.iload_n 3, 1) := by decide +kernel
theorem dJ2_indexOf_4cfef_17 : decode cJ2_indexOf_4cfef 17 = .ok (.if_icmp .lt 5, 3) := by decide +kernel
theorem dJ2_indexOf_4cfef_20 : decode cJ2_indexOf_4cfef 20 = .ok (.iconst (-1), 1) := by decide +kernel
theorem dJ2_indexOf_4cfef_21 : decode cJ2_indexOf_4cfef 21 = .ok (.ireturn, 1) := by decide +kernel
theorem dJ2_indexOf_4cfef_22 : decode cJ2_indexOf_4cfef 22 = .ok (.iload_n 1, 1) := by decide +kernel
theorem dJ2_indexOf_4cfef_23 : decode cJ2_indexOf_4cfef 23 = .ok (.ldc 227, 2) := by decide +kernel
theorem dJ2_indexOf_4cfef_25 : decode cJ2_indexOf_4cfef 25 = .ok (.if_icmp .ge 11, 3) := by decide +kernel
theorem dJ2_indexOf_4cfef_28 : decode cJ2_indexOf_4cfef 28 = .ok (.aload_n 0, 1) := by decide +kernel
theorem dJ2_indexOf_4cfef_29 : decode cJ2_indexOf_4cfef 29 = .ok (.iload_n 1, 1) := by decide +kernel
theorem dJ2_indexOf_4cfef_30 : decode cJ2_indexOf_4cfef 30 = .ok (.iload_n 2, 1) := by decide +kernel
theorem dJ2_indexOf_4cfef_31 : decode cJ2_indexOf_4cfef 31 = .ok (.iload_n 3, 1) := by decide +kernel
theorem dJ2_indexOf_4cfef_32 : decode cJ2_indexOf_4cfef 32 = .ok (.invokestatic 228, 3) := by decide +kernel
theorem dJ2_indexOf_4cfef_35 : decode cJ2_indexOf_4cfef 35 = .ok (.ireturn, 1) := by decide +kernel
theorem dJ2_indexOf_4cfef_36 : decode cJ2_indexOf_4cfef 36 = .ok (.aload_n 0, 1) := by decide +kernel
theorem dJ2_indexOf_4cfef_37 : decode cJ2_indexOf_4cfef 37 = .ok (.iload_n 1, 1) := by decide +kernel
theorem dJ2_indexOf_4cfef_38 : decode cJ2_indexOf_4cfef 38 = .ok (.iload_n 2, 1) := by decide +kernel
theorem dJ2_indexOf_4cfef_39 : decode cJ2_indexOf_4cfef 39 = .ok (.iload_n 3, 1) := by decide +kernel
theorem dJ2_indexOf_4cfef_40 : decode cJ2_indexOf_4cfef 40 = .ok (.invokestatic 232, 3) := by decide +kernel
theorem dJ2_indexOf_4cfef_43 : decode cJ2_indexOf_4cfef 43 = .ok (.ireturn, 1) := by decide +kernel
set_option maxRecDepth 20000 in
theorem ggJ2_indexOfChar_4cfef_J2_checkBoundsBeginEnd_d044e : GoodIn wsJ2_indexOfChar_4cfef wsJ2_checkBoundsBeginEnd_d044e := goodIn_r _ [4, 5, 6, 3, 7, 8, 9, 10, 11, 12, 13, 14, 15, 16] (by decide +kernel) (by decide +kernel)
set_option maxRecDepth 20000 in
theorem gJ2_indexOfChar_4cfef_J2_checkBoundsBeginEnd_d044e : GoodIn wsJ2_indexOfChar_4cfef (va_wsS RJ2 96 yJ2_checkBoundsBeginEnd_d044e wsJ2_checkBoundsBeginEnd_d044e) := goodIn_app (goodIn_of _ (by decide +kernel)) ggJ2_indexOfChar_4cfef_J2_checkBoundsBeginEnd_d044e
set_option maxRecDepth 20000 in
theorem ggJ2_indexOfChar_4cfef_J2_indexOfCharUnsafe_4cfef : GoodIn wsJ2_indexOfChar_4cfef wsJ2_indexOfCharUnsafe_4cfef := goodIn_r _ [19, 20, 21, 3, 22, 23, 24, 25, 5, 6, 7] (by decide +kernel) (by decide +kernel)
set_option maxRecDepth 20000 in
theorem gJ2_indexOfChar_4cfef_J2_indexOfCharUnsafe_4cfef : GoodIn wsJ2_indexOfChar_4cfef (va_wsS RJ2 244 yJ2_indexOfCharUnsafe_4cfef wsJ2_indexOfCharUnsafe_4cfef) := goodIn_app (goodIn_of _ (by decide +kernel)) ggJ2_indexOfChar_4cfef_J2_indexOfCharUnsafe_4cfef
theorem dJ2_indexOfChar_4cfef_0 : decode cJ2_indexOfChar_4cfef 0 = .ok (.iload_n 2, 1) := by decide +kernel
theorem dJ2_indexOfChar_4cfef_1 : decode cJ2_indexOfChar_4cfef 1 = .ok (.iload_n 3, 1) := by decide +kernel
theorem dJ2_indexOfChar_4cfef_2 : decode cJ2_indexOfChar_4cfef 2 = .ok (.aload_n 0, 1) := by decide +kernel
theorem dJ2_indexOfChar_4cfef_3 : decode cJ2_indexOfChar_4cfef 3 = .ok (.invokestatic 96, 3) := by decide +kernel
theorem dJ2_indexOfChar_4cfef_6 : decode cJ2_indexOfChar_4cfef 6 = .ok (.aload_n 0, 1) := by decide +kernel
theorem dJ2_indexOfChar_4cfef_7 : decode cJ2_indexOfChar_4cfef 7 = .ok (.iload_n 1, 1) := by decide +kernel
theorem dJ2_indexOfChar_4cfef_8 : decode cJ2_indexOfChar_4cfef 8 = .ok (.iload_n 2, 1) := by decide +kernel
theorem dJ2_indexOfChar_4cfef_9 : decode cJ2_indexOfChar_4cfef 9 = .ok (.iload_n 3, 1) := by decide +kernel
theorem dJ2_indexOfChar_4cfef_10 : decode cJ2_indexOfChar_4cfef 10 = .ok (.invokestatic 244, 3) := by decide +kernel
theorem dJ2_indexOfChar_4cfef_13 : decode cJ2_indexOfChar_4cfef 13 = .ok (.ireturn, 1) := by decide +kernel
set_option maxRecDepth 20000 in
theorem ggJ2_indexOfCharUnsafe_4cfef_J2_getChar_3b067 : GoodIn wsJ2_indexOfCharUnsafe_4cfef wsJ2_getChar_3b067 := goodIn_r _ [4, 5, 6, 7, 8, 9, 3, 10] (by decide +kernel) (by decide +kernel)
set_option maxRecDepth 20000 in
theorem gJ2_indexOfCharUnsafe_4cfef_J2_getChar_3b067 : GoodIn wsJ2_indexOfCharUnsafe_4cfef (va_wsS RJ2 71 yJ2_getChar_3b067 wsJ2_getChar_3b067) := goodIn_app (goodIn_of _ (by decide +kernel)) ggJ2_indexOfCharUnsafe_4cfef_J2_getChar_3b067
theorem dJ2_indexOfCharUnsafe_4cfef_0 : decode cJ2_indexOfCharUnsafe_4cfef 0 = .ok (.iload_n 2, 1) := by decide +kernel
theorem dJ2_indexOfCharUnsafe_4cfef_1 : decode cJ2_indexOfCharUnsafe_4cfef 1 = .ok (.istore 4, 2) := by decide +kernel
theorem dJ2_indexOfCharUnsafe_4cfef_3 : decode cJ2_indexOfCharUnsafe_4cfef 3 = .ok (.iload 4, 2) := by decide +kernel
theorem dJ2_indexOfCharUnsafe_4cfef_5 : decode cJ2_indexOfCharUnsafe_4cfef 5 = .ok (.iload_n 3, 1) := by decide +kernel
theorem dJ2_indexOfCharUnsafe_4cfef_6 : decode cJ2_indexOfCharUnsafe_4cfef 6 = .ok (.if_icmp .ge 22, 3) := by decide +kernel
theorem dJ2_indexOfCharUnsafe_4cfef_9 : decode cJ2_indexOfCharUnsafe_4cfef 9 = .ok (.aload_n 0, 1) := by decide +kernel
theorem dJ2_indexOfCharUnsafe_4cfef_10 : decode cJ2_indexOfCharUnsafe_4cfef 10 = .ok (.iload 4, 2) := by decide +kernel
theorem dJ2_indexOfCharUnsafe_4cfef_12 : decode cJ2_indexOfCharUnsafe_4cfef 12 = .ok (.invokestatic 71, 3) := by decide +kernel
theorem dJ2_indexOfCharUnsafe_4cfef_15 : decode cJ2_indexOfCharUnsafe_4cfef 15 = .ok (.iload_n 1, 1) := by decide +kernel
theorem dJ2_indexOfCharUnsafe_4cfef_16 : decode cJ2_indexOfCharUnsafe_4cfef 16 = .ok (.if_icmp .ne 6, 3) := by decide +kernel
theorem dJ2_indexOfCharUnsafe_4cfef_19 : decode cJ2_indexOfCharUnsafe_4cfef 19 = .ok (.iload 4, 2) := by decide +kernel
theorem dJ2_indexOfCharUnsafe_4cfef_21 : decode cJ2_indexOfCharUnsafe_4cfef 21 = .ok (.ireturn, 1) := by decide +kernel
theorem dJ2_indexOfCharUnsafe_4cfef_22 : decode cJ2_indexOfCharUnsafe_4cfef 22 = .ok (.iinc 4 1, 3) := by decide +kernel
theorem dJ2_indexOfCharUnsafe_4cfef_25 : decode cJ2_indexOfCharUnsafe_4cfef 25 = .ok (.goto (-22), 3) := by decide +kernel
theorem dJ2_indexOfCharUnsafe_4cfef_28 : decode cJ2_indexOfCharUnsafe_4cfef 28 = .ok (.iconst (-1), 1) := by decide +kernel
theorem dJ2_indexOfCharUnsafe_4cfef_29 : decode cJ2_indexOfCharUnsafe_4cfef 29 = .ok (.ireturn, 1) := by decide +kernel
set_option maxRecDepth 20000 in
theorem ggJ2_indexOfSupplementary_4cfef_J11_isValidCodePoint_9a6ad : GoodIn wsJ2_indexOfSupplementary_4cfef wsJ11_isValidCodePoint_9a6ad := goodIn_r _ [4] (by decide +kernel) (by decide +kernel)
set_option maxRecDepth 20000 in
theorem gJ2_indexOfSupplementary_4cfef_J11_isValidCodePoint_9a6ad : GoodIn wsJ2_indexOfSupplementary_4cfef (va_wsS RJ2 164 yJ11_isValidCodePoint_9a6ad wsJ11_isValidCodePoint_9a6ad) := goodIn_app (goodIn_of _ (by decide +kernel)) ggJ2_indexOfSupplementary_4cfef_J11_isValidCodePoint_9a6ad
set_option maxRecDepth 20000 in
theorem ggJ2_indexOfSupplementary_4cfef_J11_highSurrogate_5068e : GoodIn wsJ2_indexOfSupplementary_4cfef wsJ11_highSurrogate_5068e := goodIn_r _ [7, 8] (by decide +kernel) (by decide +kernel)
set_option maxRecDepth 20000 in
theorem gJ2_indexOfSupplementary_4cfef_J11_highSurrogate_5068e : GoodIn wsJ2_indexOfSupplementary_4cfef (va_wsS RJ2 157 yJ11_highSurrogate_5068e wsJ11_highSurrogate_5068e) := goodIn_app (goodIn_of _ (by decide +kernel)) ggJ2_indexOfSupplementary_4cfef_J11_highSurrogate_5068e
set_option maxRecDepth 20000 in
theorem ggJ2_indexOfSupplementary_4cfef_J11_lowSurrogate_5068e : GoodIn wsJ2_indexOfSupplementary_4cfef wsJ11_lowSurrogate_5068e := goodIn_r _ [11, 12] (by decide +kernel) (by decide +kernel)
set_option maxRecDepth 20000 in
theorem gJ2_indexOfSupplementary_4cfef_J11_lowSurrogate_5068e : GoodIn wsJ2_indexOfSupplementary_4cfef (va_wsS RJ2 161 yJ11_lowSurrogate_5068e wsJ11_lowSurrogate_5068e) := goodIn_app (goodIn_of _ (by decide +kernel)) ggJ2_indexOfSupplementary_4cfef_J11_lowSurrogate_5068e
set_option maxRecDepth 20000 in
theorem ggJ2_indexOfSupplementary_4cfef_J2_checkBoundsBeginEnd_d044e : GoodIn wsJ2_indexOfSupplementary_4cfef wsJ2_checkBoundsBeginEnd_d044e := goodIn_r _ [16, 17, 18, 15, 19, 20, 21, 22, 23, 24, 25, 26, 27, 28] (by decide +kernel) (by decide +kernel)
set_option maxRecDepth 20000 in
theorem gJ2_indexOfSupplementary_4cfef_J2_checkBoundsBeginEnd_d044e : GoodIn wsJ2_indexOfSupplementary_4cfef (va_wsS RJ2 96 yJ2_checkBoundsBeginEnd_d044e wsJ2_checkBoundsBeginEnd_d044e) := goodIn_app (goodIn_of _ (by decide +kernel)) ggJ2_indexOfSupplementary_4cfef_J2_checkBoundsBeginEnd_d044e
set_option maxRecDepth 20000 in
theorem ggJ2_indexOfSupplementary_4cfef_J2_getChar_3b067 : GoodIn wsJ2_indexOfSupplementary_4cfef wsJ2_getChar_3b067 := goodIn_r _ [31, 32, 33, 34, 17, 18, 15, 19] (by decide +kernel) (by decide +kernel)
set_option maxRecDepth 20000 in
theorem gJ2_indexOfSupplementary_4cfef_J2_getChar_3b067 : GoodIn wsJ2_indexOfSupplementary_4cfef (va_wsS RJ2 71 yJ2_getChar_3b067 wsJ2_getChar_3b067) := goodIn_app (goodIn_of _ (by decide +kernel)) ggJ2_indexOfSupplementary_4cfef_J2_getChar_3b067
theorem dJ2_indexOfSupplementary_4cfef_0 : decode cJ2_indexOfSupplementary_4cfef 0 = .ok (.iload_n 1, 1) := by decide +kernel
theorem dJ2_indexOfSupplementary_4cfef_1 : decode cJ2_indexOfSupplementary_4cfef 1 = .ok (.invokestatic 164, 3) := by decide +kernel
theorem dJ2_indexOfSupplementary_4cfef_4 : decode cJ2_indexOfSupplementary_4cfef 4 = .ok (.ifCond .eq 65, 3) := by decide +kernel
theorem dJ2_indexOfSupplementary_4cfef_7 : decode cJ2_indexOfSupplementary_4cfef 7 = .ok (.iload_n 1, 1) := by decide +kernel
theorem dJ2_indexOfSupplementary_4cfef_8 : decode cJ2_indexOfSupplementary_4cfef 8 = .ok (.invokestatic 157, 3) := by decide +kernel
theorem dJ2_indexOfSupplementary_4cfef_11 : decode cJ2_indexOfSupplementary_4cfef 11 = .ok (.istore 4, 2) := by decide +kernel
theorem dJ2_indexOfSupplementary_4cfef_13 : decode cJ2_indexOfSupplementary_4cfef 13 = .ok (.iload_n 1, 1) := by decide +kernel
theorem dJ2_indexOfSupplementary_4cfef_14 : decode cJ2_indexOfSupplementary_4cfef 14 = .ok (.invokestatic 161, 3) := by decide +kernel
theorem dJ2_indexOfSupplementary_4cfef_17 : decode cJ2_indexOfSupplementary_4cfef 17 = .ok (.istore 5, 2) := by decide +kernel
theorem dJ2_indexOfSupplementary_4cfef_19 : decode cJ2_indexOfSupplementary_4cfef 19 = .ok (.iload_n 2, 1) := by decide +kernel
theorem dJ2_indexOfSupplementary_4cfef_20 : decode cJ2_indexOfSupplementary_4cfef 20 = .ok (.iload_n 3, 1) := by decide +kernel
theorem dJ2_indexOfSupplementary_4cfef_21 : decode cJ2_indexOfSupplementary_4cfef 21 = .ok (.aload_n 0, 1) := by decide +kernel
theorem dJ2_indexOfSupplementary_4cfef_22 : decode cJ2_indexOfSupplementary_4cfef 22 = .ok (.invokestatic 96, 3) := by decide +kernel
theorem dJ2_indexOfSupplementary_4cfef_25 : decode cJ2_indexOfSupplementary_4cfef 25 = .ok (.iload_n 2, 1) := by decide +kernel
theorem dJ2_indexOfSupplementary_4cfef_26 : decode cJ2_indexOfSupplementary_4cfef 26 = .ok (.istore 6, 2) := by decide +kernel
theorem dJ2_indexOfSupplementary_4cfef_28 : decode cJ2_indexOfSupplementary_4cfef 28 = .ok (.iload 6, 2) := by decide +kernel
theorem dJ2_indexOfSupplementary_4cfef_30 : decode cJ2_indexOfSupplementary_4cfef 30 = .ok (.iload_n 3, 1) := by decide +kernel
theorem dJ2_indexOfSupplementary_4cfef_31 : decode cJ2_indexOfSupplementary_4cfef 31 = .ok (.iconst 1, 1) := by decide +kernel
theorem dJ2_indexOfSupplementary_4cfef_32 : decode cJ2_indexOfSupplementary_4cfef 32 = .ok (.isub, 1) := by decide +kernel
theorem dJ2_indexOfSupplementary_4cfef_33 : decode cJ2_indexOfSupplementary_4cfef 33 = .ok (.if_icmp .ge 36, 3) := by decide +kernel
theorem dJ2_indexOfSupplementary_4cfef_36 : decode cJ2_indexOfSupplementary_4cfef 36 = .ok (.aload_n 0, 1) := by decide +kernel
theorem dJ2_indexOfSupplementary_4cfef_37 : decode cJ2_indexOfSupplementary_4cfef 37 = .ok (.iload 6, 2) := by decide +kernel
theorem dJ2_indexOfSupplementary_4cfef_39 : decode cJ2_indexOfSupplementary_4cfef 39 = .ok (.invokestatic 71, 3) := by decide +kernel
theorem dJ2_indexOfSupplementary_4cfef_42 : decode cJ2_indexOfSupplementary_4cfef 42 = .ok (.iload 4, 2) := by decide +kernel
theorem dJ2_indexOfSupplementary_4cfef_44 : decode cJ2_indexOfSupplementary_4cfef 44 = .ok (.if_icmp .ne 19, 3) := by decide +kernel
theorem dJ2_indexOfSupplementary_4cfef_47 : decode cJ2_indexOfSupplementary_4cfef 47 = .ok (.aload_n 0, 1) := by decide +kernel
theorem dJ2_indexOfSupplementary_4cfef_48 : decode cJ2_indexOfSupplementary_4cfef 48 = .ok (.iload 6, 2) := by decide +kernel
theorem dJ2_indexOfSupplementary_4cfef_50 : decode cJ2_indexOfSupplementary_4cfef 50 = .ok (.iconst 1, 1) := by decide +kernel
theorem dJ2_indexOfSupplementary_4cfef_51 : decode cJ2_indexOfSupplementary_4cfef 51 = .ok (.iadd, 1) := by decide +kernel
theorem dJ2_indexOfSupplementary_4cfef_52 : decode cJ2_indexOfSupplementary_4cfef 52 = .ok (.invokestatic 71, 3) := by decide +kernel
theorem dJ2_indexOfSupplementary_4cfef_55 : decode cJ2_indexOfSupplementary_4cfef 55 = .ok (.iload 5, 2) := by decide +kernel
theorem dJ2_indexOfSupplementary_4cfef_57 : decode cJ2_indexOfSupplementary_4cfef 57 = .ok (.if_icmp .ne 6, 3) := by decide +kernel
theorem dJ2_indexOfSupplementary_4cfef_60 : decode cJ2_indexOfSupplementary_4cfef 60 = .ok (.iload 6, 2) := by decide +kernel
theorem dJ2_indexOfSupplementary_4cfef_62 : decode cJ2_indexOfSupplementary_4cfef 62 = .ok (.ireturn, 1) := by decide +kernel
theorem dJ2_indexOfSupplementary_4cfef_63 : decode cJ2_indexOfSupplementary_4cfef 63 = .ok (.iinc 6 1, 3) := by decide +kernel
theorem dJ2_indexOfSupplementary_4cfef_66 : decode cJ2_indexOfSupplementary_4cfef 66 = .ok (.goto (-38), 3) := by decide +kernel
theorem dJ2_indexOfSupplementary_4cfef_69 : decode cJ2_indexOfSupplementary_4cfef 69 = .ok (.iconst (-1), 1) := by decide +kernel
theorem dJ2_indexOfSupplementary_4cfef_70 : decode cJ2_indexOfSupplementary_4cfef 70 = .ok (.ireturn, 1) := by decide +kernel
set_option maxRecDepth 20000 in
theorem ggJ2_charAt_3b067_J2_checkIndex_2214a : GoodIn wsJ2_charAt_3b067 wsJ2_checkIndex_2214a := goodIn_r _ [4, 5, 6, 3, 7, 8, 9, 10, 11, 12, 13, 14, 15, 16] (by decide +kernel) (by decide +kernel)
set_option maxRecDepth 20000 in
theorem gJ2_charAt_3b067_J2_checkIndex_2214a : GoodIn wsJ2_charAt_3b067 (va_wsS RJ2 67 yJ2_checkIndex_2214a wsJ2_checkIndex_2214a) := goodIn_app (goodIn_of _ (by decide +kernel)) ggJ2_charAt_3b067_J2_checkIndex_2214a
set_option maxRecDepth 20000 in
theorem ggJ2_charAt_3b067_J2_getChar_3b067 : GoodIn wsJ2_charAt_3b067 wsJ2_getChar_3b067 := goodIn_r _ [19, 20, 21, 22, 5, 6, 3, 7] (by decide +kernel) (by decide +kernel)
set_option maxRecDepth 20000 in
theorem gJ2_charAt_3b067_J2_getChar_3b067 : GoodIn wsJ2_charAt_3b067 (va_wsS RJ2 71 yJ2_getChar_3b067 wsJ2_getChar_3b067) := goodIn_app (goodIn_of _ (by decide +kernel)) ggJ2_charAt_3b067_J2_getChar_3b067
theorem dJ2_charAt_3b067_0 : decode cJ2_charAt_3b067 0 = .ok (.iload_n 1, 1) := by decide +kernel
theorem dJ2_charAt_3b067_1 : decode cJ2_charAt_3b067 1 = .ok (.aload_n 0, 1) := by decide +kernel
theorem dJ2_charAt_3b067_2 : decode cJ2_charAt_3b067 2 = .ok (.invokestatic 67, 3) := by decide +kernel
theorem dJ2_charAt_3b067_5 : decode cJ2_charAt_3b067 5 = .ok (.aload_n 0, 1) := by decide +kernel
theorem dJ2_charAt_3b067_6 : decode cJ2_charAt_3b067 6 = .ok (.iload_n 1, 1) := by decide +kernel
theorem dJ2_charAt_3b067_7 : decode cJ2_charAt_3b067 7 = .ok (.invokestatic 71, 3) := by decide +kernel
theorem dJ2_charAt_3b067_10 : decode cJ2_charAt_3b067 10 = .ok (.ireturn, 1) := by decide +kernel
set_option maxRecDepth 20000 in
theorem ggJ2_checkIndex_2214a_J2_length_9d52b : GoodIn wsJ2_checkIndex_2214a wsJ2_length_9d52b := goodIn_r _ [4] (by decide +kernel) (by decide +kernel)
set_option maxRecDepth 20000 in
theorem gJ2_checkIndex_2214a_J2_length_9d52b : GoodIn wsJ2_checkIndex_2214a (va_wsS RJ2 48 yJ2_length_9d52b wsJ2_length_9d52b) := goodIn_app (goodIn_of _ (by decide +kernel)) ggJ2_checkIndex_2214a_J2_length_9d52b
set_option maxRecDepth 20000 in
theorem ggJ2_checkIndex_2214a_J0_checkIndex_df160 : GoodIn wsJ2_checkIndex_2214a wsJ0_checkIndex_df160 := goodIn_r _ [8, 9, 10, 11, 12, 13] (by decide +kernel) (by decide +kernel)
set_option maxRecDepth 20000 in
theorem gJ2_checkIndex_2214a_J0_checkIndex_df160 : GoodIn wsJ2_checkIndex_2214a (va_wsS RJ2 414 yJ0_checkIndex_df160 wsJ0_checkIndex_df160) := goodIn_app (goodIn_of _ (by decide +kernel)) ggJ2_checkIndex_2214a_J0_checkIndex_df160
theorem dJ2_checkIndex_2214a_0 : decode cJ2_checkIndex_2214a 0 = .ok (.iload_n 0, 1) := by decide +kernel
theorem dJ2_checkIndex_2214a_1 : decode cJ2_checkIndex_2214a 1 = .ok (.aload_n 1, 1) := by decide +kernel
theorem dJ2_checkIndex_2214a_2 : decode cJ2_checkIndex_2214a 2 = .ok (.invokestatic 48, 3) := by decide +kernel
theorem dJ2_checkIndex_2214a_5 : decode cJ2_checkIndex_2214a 5 = .ok (.invokestatic 414, 3) := by decide +kernel
theorem dJ2_checkIndex_2214a_8 : decode cJ2_checkIndex_2214a 8 = .ok (.return_, 1) := by decide +kernel
set_option maxRecDepth 20000 in
theorem ggJ2_checkBoundsBeginEnd_d044e_J2_length_9d52b : GoodIn wsJ2_checkBoundsBeginEnd_d044e wsJ2_length_9d52b := goodIn_r _ [4] (by decide +kernel) (by decide +kernel)
set_option maxRecDepth 20000 in
theorem gJ2_checkBoundsBeginEnd_d044e_J2_length_9d52b : GoodIn wsJ2_checkBoundsBeginEnd_d044e (va_wsS RJ2 48 yJ2_length_9d52b wsJ2_length_9d52b) := goodIn_app (goodIn_of _ (by decide +kernel)) ggJ2_checkBoundsBeginEnd_d044e_J2_length_9d52b
set_option maxRecDepth 20000 in
theorem ggJ2_checkBoundsBeginEnd_d044e_J0_checkBoundsBeginEnd_23922 : GoodIn wsJ2_checkBoundsBeginEnd_d044e wsJ0_checkBoundsBeginEnd_23922 := goodIn_r _ [8, 9, 10, 11, 12, 13] (by decide +kernel) (by decide +kernel)
set_option maxRecDepth 20000 in
theorem gJ2_checkBoundsBeginEnd_d044e_J0_checkBoundsBeginEnd_23922 : GoodIn wsJ2_checkBoundsBeginEnd_d044e (va_wsS RJ2 241 yJ0_checkBoundsBeginEnd_23922 wsJ0_checkBoundsBeginEnd_23922) := goodIn_app (goodIn_of _ (by decide +kernel)) ggJ2_checkBoundsBeginEnd_d044e_J0_checkBoundsBeginEnd_23922
theorem dJ2_checkBoundsBeginEnd_d044e_0 : decode cJ2_checkBoundsBeginEnd_d044e 0 = .ok (.iload_n 0, 1) := by decide +kernel
theorem dJ2_checkBoundsBeginEnd_d044e_1 : decode cJ2_checkBoundsBeginEnd_d044e 1 = .ok (.iload_n 1, 1) := by decide +kernel
theorem dJ2_checkBoundsBeginEnd_d044e_2 : decode cJ2_checkBoundsBeginEnd_d044e 2 = .ok (.aload_n 2, 1) := by decide +kernel
theorem dJ2_checkBoundsBeginEnd_d044e_3 : decode cJ2_checkBoundsBeginEnd_d044e 3 = .ok (.invokestatic 48, 3) := by decide +kernel
theorem dJ2_checkBoundsBeginEnd_d044e_6 : decode cJ2_checkBoundsBeginEnd_d044e 6 = .ok (.invokestatic 241, 3) := by decide +kernel
theorem dJ2_checkBoundsBeginEnd_d044e_9 : decode cJ2_checkBoundsBeginEnd_d044e 9 = .ok (.return_, 1) := by decide +kernel
theorem dJ3_checkIndex_8e157_0 : decode cJ3_checkIndex_8e157 0 = .ok (.iload_n 0, 1) := by decide +kernel
theorem dJ3_checkIndex_8e157_1 : decode cJ3_checkIndex_8e157 1 = .ok (.ifCond .lt 8, 3) := by decide +kernel
theorem dJ3_checkIndex_8e157_4 : decode cJ3_checkIndex_8e157 4 = .ok (.iload_n 0, 1) := by decide +kernel
theorem dJ3_checkIndex_8e157_5 : decode cJ3_checkIndex_8e157 5 = .ok (.iload_n 1, 1) := by decide +kernel
theorem dJ3_checkIndex_8e157_6 : decode cJ3_checkIndex_8e157 6 = .ok (.if_icmp .lt 10, 3) := by decide +kernel
theorem dJ3_checkIndex_8e157_9 : decode cJ3_checkIndex_8e157 9 = .ok (.aload_n 2, 1) := by decide +kernel
theorem dJ3_checkIndex_8e157_10 : decode cJ3_checkIndex_8e157 10 = .ok (.iload_n 0, 1) := by decide +kernel
theorem dJ3_checkIndex_8e157_11 : decode cJ3_checkIndex_8e157 11 = .ok (.iload_n 1, 1) := by decide +kernel
theorem dJ3_checkIndex_8e157_12 : decode cJ3_checkIndex_8e157 12 = .ok (.invokestatic 95, 3) := by decide +kernel
theorem dJ3_checkIndex_8e157_15 : decode cJ3_checkIndex_8e157 15 = .ok (.athrow, 1) := by decide +kernel
theorem dJ3_checkIndex_8e157_16 : decode cJ3_checkIndex_8e157 16 = .ok (.iload_n 0, 1) := by decide +kernel
theorem dJ3_checkIndex_8e157_17 : decode cJ3_checkIndex_8e157 17 = .ok (.ireturn, 1) := by decide +kernel
theorem dJ3_checkFromToIndex_8c36e_0 : decode cJ3_checkFromToIndex_8c36e 0 = .ok (.iload_n 0, 1) := by decide +kernel
theorem dJ3_checkFromToIndex_8c36e_1 : decode cJ3_checkFromToIndex_8c36e 1 = .ok (.ifCond .lt 13, 3) := by decide +kernel
theorem dJ3_checkFromToIndex_8c36e_4 : decode cJ3_checkFromToIndex_8c36e 4 = .ok (.iload_n 0, 1) := by decide +kernel
theorem dJ3_checkFromToIndex_8c36e_5 : decode cJ3_checkFromToIndex_8c36e 5 = .ok (.iload_n 1, 1) := by decide +kernel
theorem dJ3_checkFromToIndex_8c36e_6 : decode cJ3_checkFromToIndex_8c36e 6 = .ok (.if_icmp .gt 8, 3) := by decide +kernel
theorem dJ3_checkFromToIndex_8c36e_9 : decode cJ3_checkFromToIndex_8c36e 9 = .ok (.iload_n 1, 1) := by decide +kernel
theorem dJ3_checkFromToIndex_8c36e_10 : decode cJ3_checkFromToIndex_8c36e 10 = .ok (.iload_n 2, 1) := by decide +kernel
theorem dJ3_checkFromToIndex_8c36e_11 : decode cJ3_checkFromToIndex_8c36e 11 = .ok (.if_icmp .le 11, 3) := by decide +kernel
theorem dJ3_checkFromToIndex_8c36e_14 : decode cJ3_checkFromToIndex_8c36e 14 = .ok (.aload_n 3, 1) := by decide +kernel
theorem dJ3_checkFromToIndex_8c36e_15 : decode cJ3_checkFromToIndex_8c36e 15 = .ok (.iload_n 0, 1) := by decide +kernel
theorem dJ3_checkFromToIndex_8c36e_16 : decode cJ3_checkFromToIndex_8c36e 16 = .ok (.iload_n 1, 1) := by decide +kernel
theorem dJ3_checkFromToIndex_8c36e_17 : decode cJ3_checkFromToIndex_8c36e 17 = .ok (.iload_n 2, 1) := by decide +kernel
theorem dJ3_checkFromToIndex_8c36e_18 : decode cJ3_checkFromToIndex_8c36e 18 = .ok (.invokestatic 99, 3) := by decide +kernel
theorem dJ3_checkFromToIndex_8c36e_21 : decode cJ3_checkFromToIndex_8c36e 21 = .ok (.athrow, 1) := by decide +kernel
theorem dJ3_checkFromToIndex_8c36e_22 : decode cJ3_checkFromToIndex_8c36e 22 = .ok (.iload_n 0, 1) := by decide +kernel
theorem dJ3_checkFromToIndex_8c36e_23 : decode cJ3_checkFromToIndex_8c36e 23 = .ok (.ireturn, 1) := by decide +kernel
set_option maxRecDepth 20000 in
theorem ggL_law_X5_init : GoodIn wsL_law wsX5_init := goodIn_r _ [8, 9, 10, 11, 12, 13, 14, 15, 16, 17, 18, 19, 20, 21, 22, 23, 24, 25, 26, 27, 28, 29, 30, 31, 32, 33, 34, 35, 36, 37, 38, 39, 40, 41, 42, 43, 44, 45, 46, 47, 48, 49, 50, 51, 52, 53, 54, 55, 56, 57, 58, 59, 60, 61, 62, 63, 64, 65, 66, 67, 68, 825, 826, 827, 828, 829, 830, 831, 832, 833, 834, 807, 808, 809, 810, 811, 812, 835, 836, 837, 838, 839, 840, 841, 842, 843] (by decide +kernel) (by decide +kernel)
set_option maxRecDepth 20000 in
theorem gL_law_X5_init : GoodIn wsL_law (wsX5_init) := ggL_law_X5_init
set_option maxRecDepth 20000 in
theorem ggL_law_X6_init : GoodIn wsL_law wsX6_init := goodIn_r _ [71, 72, 10, 11, 40, 73, 74, 75, 62, 76, 77, 78, 813, 814, 815, 816, 817, 818, 819, 820, 821, 822, 823, 824] (by decide +kernel) (by decide +kernel)
set_option maxRecDepth 20000 in
theorem gL_law_X6_init : GoodIn wsL_law (wsX6_init) := ggL_law_X6_init
set_option maxRecDepth 20000 in
theorem ggL_law_X5_arrow : GoodIn wsL_law wsX5_arrow := goodIn_r _ [82, 83, 84, 85, 2, 86, 15, 87, 88, 89, 90, 91, 92, 93, 94, 95, 96, 97, 98, 14, 99, 100, 101, 102, 103, 37, 104, 105, 106, 36, 107, 50, 108, 109, 110, 111, 49, 112, 113, 114, 115, 116, 117, 118, 39, 119, 120, 121, 122, 123, 124, 125, 21, 126, 127, 128, 20, 129, 56, 130, 131, 132, 133, 134, 135, 38, 41, 136, 137, 138, 139, 42, 43, 140, 141, 142, 143, 144, 145, 146, 147, 148, 149, 150, 151, 152, 153, 154, 155, 156, 157, 158, 159, 160, 161, 162, 163, 164, 165, 807, 808, 809, 810, 811, 812, 825, 826, 827, 828, 829, 830, 831, 832, 833, 834, 841, 842, 843, 835, 836, 837] (by decide +kernel) (by decide +kernel)
set_option maxRecDepth 20000 in
theorem gL_law_X5_arrow : GoodIn wsL_law (wsV RL 13 RX5 yX5_arrow wsX5_arrow) := goodIn_app (goodIn_of _ (by decide +kernel)) ggL_law_X5_arrow
set_option maxRecDepth 20000 in
theorem ggL_law_X6_arrow : GoodIn wsL_law wsX6_arrow := goodIn_r _ [169, 170, 171, 172, 5, 173, 174, 175, 176, 177, 178, 179, 180, 181, 182, 183, 73, 184, 185, 186, 187, 188, 189, 190, 191, 192, 193, 194, 195, 196, 197, 198, 199, 200, 201, 202, 203, 204, 205, 74, 206, 207, 208, 209, 210, 211, 212, 213, 813, 814, 815, 816, 817, 818, 819, 820, 821, 822, 823, 824] (by decide +kernel) (by decide +kernel)
set_option maxRecDepth 20000 in
theorem gL_law_X6_arrow : GoodIn wsL_law (wsV RL 17 RX6 yX6_arrow wsX6_arrow) := goodIn_app (goodIn_of _ (by decide +kernel)) ggL_law_X6_arrow
set_option maxRecDepth 20000 in
theorem ggL_law_X5_word : GoodIn wsL_law wsX5_word := goodIn_r _ [217, 87, 88, 2, 89, 90, 91, 92, 93, 94, 95, 122, 123, 124, 125, 21, 15, 126, 127, 128, 20, 129, 56, 130, 131, 132, 133, 134, 14, 135, 37, 38, 39, 41, 136, 137, 138, 139, 42, 43, 140, 141, 142, 143, 144, 145, 146, 36, 147, 50, 49, 218, 219, 220, 221, 152, 153, 154, 155, 156, 157, 158, 159, 160, 161, 162, 163, 164, 165, 807, 808, 809, 810, 811, 812, 835, 836, 837, 825, 826, 827, 828, 829, 830, 831, 832, 833, 834, 841, 842, 843] (by decide +kernel) (by decide +kernel)
set_option maxRecDepth 20000 in
theorem gL_law_X5_word : GoodIn wsL_law (wsV RL 18 RX5 yX5_word wsX5_word) := goodIn_app (goodIn_of _ (by decide +kernel)) ggL_law_X5_word
set_option maxRecDepth 20000 in
theorem ggL_law_X6_word : GoodIn wsL_law wsX6_word := goodIn_r _ [225, 226, 227, 5, 228, 174, 175, 176, 177, 178, 179, 201, 202, 203, 204, 205, 74, 73, 192, 193, 194, 206, 207, 208, 209, 210, 211, 212, 213, 813, 814, 815, 816, 817, 818, 819, 820, 821, 822, 823, 824] (by decide +kernel) (by decide +kernel)
set_option maxRecDepth 20000 in
theorem gL_law_X6_word : GoodIn wsL_law (wsV RL 21 RX6 yX6_word wsX6_word) := goodIn_app (goodIn_of _ (by decide +kernel)) ggL_law_X6_word
set_option maxRecDepth 20000 in
theorem ggL_law_X5_dash : GoodIn wsL_law wsX5_dash := goodIn_r _ [232, 87, 88, 2, 89, 90, 91, 92, 93, 94, 95, 122, 123, 124, 125, 21, 15, 126, 127, 128, 20, 129, 56, 130, 131, 132, 133, 134, 14, 135, 37, 38, 39, 41, 136, 137, 138, 139, 42, 43, 140, 141, 142, 143, 144, 145, 146, 36, 147, 50, 49, 233, 234, 235, 236, 237, 238, 239, 240, 108, 109, 110, 111, 241, 242, 243, 244, 245, 246, 247, 248, 249, 250, 251, 252, 164, 165, 152, 153, 154, 155, 807, 808, 809, 810, 811, 812, 835, 836, 837, 825, 826, 827, 828, 829, 830, 831, 832, 833, 834, 841, 842, 843] (by decide +kernel) (by decide +kernel)
set_option maxRecDepth 20000 in
theorem gL_law_X5_dash : GoodIn wsL_law (wsV RL 22 RX5 yX5_dash wsX5_dash) := goodIn_app (goodIn_of _ (by decide +kernel)) ggL_law_X5_dash
set_option maxRecDepth 20000 in
theorem ggL_law_X6_dash : GoodIn wsL_law wsX6_dash := goodIn_r _ [256, 73, 257, 258, 5, 259, 260, 261, 262, 177, 178, 179, 201, 202, 203, 204, 205, 74, 198, 199, 200, 206, 207, 208, 209, 813, 814, 815, 816, 817, 818, 819, 820, 821, 822, 823, 824] (by decide +kernel) (by decide +kernel)
set_option maxRecDepth 20000 in
theorem gL_law_X6_dash : GoodIn wsL_law (wsV RL 25 RX6 yX6_dash wsX6_dash) := goodIn_app (goodIn_of _ (by decide +kernel)) ggL_law_X6_dash
set_option maxRecDepth 20000 in
theorem ggL_law_X5_erase : GoodIn wsL_law wsX5_erase := goodIn_r _ [266, 90, 91, 2, 92, 93, 94, 95, 122, 123, 124, 125, 21, 15, 126, 127, 128, 20, 129, 56, 130, 131, 132, 133, 134, 14, 135, 37, 38, 39, 41, 136, 137, 138, 139, 42, 43, 140, 141, 142, 143, 144, 145, 146, 36, 147, 50, 49, 267, 268, 269, 270, 241, 242, 243, 244, 245, 246, 247, 248, 249, 250, 251, 252, 164, 165, 807, 808, 809, 810, 811, 812, 835, 836, 837, 825, 826, 827, 828, 829, 830, 831, 832, 833, 834, 841, 842, 843] (by decide +kernel) (by decide +kernel)
set_option maxRecDepth 20000 in
theorem gL_law_X5_erase : GoodIn wsL_law (wsV RL 26 RX5 yX5_erase wsX5_erase) := goodIn_app (goodIn_of _ (by decide +kernel)) ggL_law_X5_erase
set_option maxRecDepth 20000 in
theorem ggL_law_X6_erase : GoodIn wsL_law wsX6_erase := goodIn_r _ [274, 73, 174, 175, 5, 176, 177, 178, 179, 201, 202, 203, 204, 205, 74, 192, 193, 194, 206, 207, 208, 209, 813, 814, 815, 816, 817, 818, 819, 820, 821, 822, 823, 824] (by decide +kernel) (by decide +kernel)
set_option maxRecDepth 20000 in
theorem gL_law_X6_erase : GoodIn wsL_law (wsV RL 30 RX6 yX6_erase wsX6_erase) := goodIn_app (goodIn_of _ (by decide +kernel)) ggL_law_X6_erase
set_option maxRecDepth 20000 in
theorem ggL_law_X5_set : GoodIn wsL_law wsX5_set := goodIn_r _ [278, 93, 94, 2, 95, 122, 123, 124, 125, 21, 15, 126, 127, 128, 20, 129, 56, 130, 131, 132, 133, 134, 14, 135, 37, 38, 39, 41, 136, 137, 138, 139, 42, 43, 140, 141, 142, 143, 144, 145, 146, 36, 147, 50, 49, 279, 280, 281, 282, 807, 808, 809, 810, 811, 812, 835, 836, 837, 825, 826, 827, 828, 829, 830, 831, 832, 833, 834, 841, 842, 843] (by decide +kernel) (by decide +kernel)
set_option maxRecDepth 20000 in
theorem gL_law_X5_set : GoodIn wsL_law (wsV RL 31 RX5 yX5_set wsX5_set) := goodIn_app (goodIn_of _ (by decide +kernel)) ggL_law_X5_set
set_option maxRecDepth 20000 in
theorem ggL_law_X6_set : GoodIn wsL_law wsX6_set := goodIn_r _ [286, 73, 177, 178, 5, 179, 201, 202, 203, 204, 205, 74, 813, 814, 815, 816, 817, 818, 819, 820, 821, 822, 823, 824] (by decide +kernel) (by decide +kernel)
set_option maxRecDepth 20000 in
theorem gL_law_X6_set : GoodIn wsL_law (wsV RL 34 RX6 yX6_set wsX6_set) := goodIn_app (goodIn_of _ (by decide +kernel)) ggL_law_X6_set
set_option maxRecDepth 20000 in
theorem ggL_law_X5_traffic : GoodIn wsL_law wsX5_traffic := goodIn_r _ [290, 93, 94, 2, 95, 122, 123, 124, 125, 21, 15, 126, 127, 128, 20, 129, 56, 130, 131, 132, 133, 134, 14, 135, 37, 38, 39, 41, 136, 137, 138, 139, 42, 43, 140, 141, 142, 143, 144, 145, 146, 36, 147, 50, 49, 291, 292, 293, 294, 807, 808, 809, 810, 811, 812, 835, 836, 837, 825, 826, 827, 828, 829, 830, 831, 832, 833, 834, 841, 842, 843] (by decide +kernel) (by decide +kernel)
set_option maxRecDepth 20000 in
theorem gL_law_X5_traffic : GoodIn wsL_law (wsV RL 35 RX5 yX5_traffic wsX5_traffic) := goodIn_app (goodIn_of _ (by decide +kernel)) ggL_law_X5_traffic
set_option maxRecDepth 20000 in
theorem ggL_law_X6_traffic : GoodIn wsL_law wsX6_traffic := goodIn_r _ [298, 73, 177, 178, 5, 179, 201, 202, 203, 204, 205, 74, 813, 814, 815, 816, 817, 818, 819, 820, 821, 822, 823, 824] (by decide +kernel) (by decide +kernel)
set_option maxRecDepth 20000 in
theorem gL_law_X6_traffic : GoodIn wsL_law (wsV RL 38 RX6 yX6_traffic wsX6_traffic) := goodIn_app (goodIn_of _ (by decide +kernel)) ggL_law_X6_traffic
set_option maxRecDepth 20000 in
theorem ggL_law_X5_bring : GoodIn wsL_law wsX5_bring := goodIn_r _ [302, 15, 93, 94, 2, 95, 122, 123, 124, 125, 21, 126, 127, 128, 20, 129, 56, 130, 131, 132, 133, 134, 14, 135, 37, 38, 39, 41, 136, 137, 138, 139, 42, 43, 140, 141, 142, 143, 144, 145, 146, 36, 147, 50, 49, 303, 304, 305, 306, 807, 808, 809, 810, 811, 812, 825, 826, 827, 828, 829, 830, 831, 832, 833, 834, 835, 836, 837, 841, 842, 843] (by decide +kernel) (by decide +kernel)
set_option maxRecDepth 20000 in
theorem gL_law_X5_bring : GoodIn wsL_law (wsV RL 39 RX5 yX5_bring wsX5_bring) := goodIn_app (goodIn_of _ (by decide +kernel)) ggL_law_X5_bring
set_option maxRecDepth 20000 in
theorem ggL_law_X6_bring : GoodIn wsL_law wsX6_bring := goodIn_r _ [310, 73, 177, 178, 5, 179, 201, 202, 203, 204, 205, 74, 813, 814, 815, 816, 817, 818, 819, 820, 821, 822, 823, 824] (by decide +kernel) (by decide +kernel)
set_option maxRecDepth 20000 in
theorem gL_law_X6_bring : GoodIn wsL_law (wsV RL 43 RX6 yX6_bring wsX6_bring) := goodIn_app (goodIn_of _ (by decide +kernel)) ggL_law_X6_bring
set_option maxRecDepth 20000 in
theorem ggL_law_X5_pass : GoodIn wsL_law wsX5_pass := goodIn_r _ [314, 93, 94, 2, 95, 122, 123, 124, 125, 21, 15, 126, 127, 128, 20, 129, 56, 130, 131, 132, 133, 134, 14, 135, 37, 38, 39, 41, 136, 137, 138, 139, 42, 43, 140, 141, 142, 143, 144, 145, 146, 36, 147, 50, 49, 315, 316, 317, 318, 319, 320, 321, 322, 323, 324, 325, 326, 327, 328, 329, 330, 331, 332, 333, 334, 108, 109, 110, 111, 335, 246, 247, 248, 249, 250, 251, 252, 164, 165, 807, 808, 809, 810, 811, 812, 835, 836, 837, 825, 826, 827, 828, 829, 830, 831, 832, 833, 834, 841, 842, 843] (by decide +kernel) (by decide +kernel)
set_option maxRecDepth 20000 in
theorem gL_law_X5_pass : GoodIn wsL_law (wsV RL 44 RX5 yX5_pass wsX5_pass) := goodIn_app (goodIn_of _ (by decide +kernel)) ggL_law_X5_pass
set_option maxRecDepth 20000 in
theorem ggL_law_X6_pass : GoodIn wsL_law wsX6_pass := goodIn_r _ [339, 177, 178, 5, 179, 201, 202, 203, 204, 205, 74, 73, 340, 341, 342, 343, 344, 345, 346, 347, 192, 193, 194, 348, 349, 350, 351, 352, 353, 354, 355, 198, 199, 200, 813, 814, 815, 816, 817, 818, 819, 820, 821, 822, 823, 824] (by decide +kernel) (by decide +kernel)
set_option maxRecDepth 20000 in
theorem gL_law_X6_pass : GoodIn wsL_law (wsV RL 47 RX6 yX6_pass wsX6_pass) := goodIn_app (goodIn_of _ (by decide +kernel)) ggL_law_X6_pass
set_option maxRecDepth 20000 in
theorem ggL_law_X5_night : GoodIn wsL_law wsX5_night := goodIn_r _ [359, 360, 361, 362, 2, 363, 15, 93, 94, 95, 122, 123, 124, 125, 21, 126, 127, 128, 20, 129, 56, 130, 131, 132, 133, 134, 14, 135, 37, 38, 39, 41, 136, 137, 138, 139, 42, 43, 140, 141, 142, 143, 144, 145, 146, 36, 147, 50, 49, 364, 365, 366, 367, 368, 369, 251, 370, 371, 372, 373, 374, 375, 376, 377, 378, 379, 380, 381, 382, 383, 384, 385, 48, 386, 387, 388, 389, 807, 808, 809, 810, 811, 812, 825, 826, 827, 828, 829, 830, 831, 832, 833, 834, 835, 836, 837, 841, 842, 843] (by decide +kernel) (by decide +kernel)
set_option maxRecDepth 20000 in
theorem gL_law_X5_night : GoodIn wsL_law (wsV RL 48 RX5 yX5_night wsX5_night) := goodIn_app (goodIn_of _ (by decide +kernel)) ggL_law_X5_night
set_option maxRecDepth 20000 in
theorem ggL_law_X6_night : GoodIn wsL_law wsX6_night := goodIn_r _ [393, 394, 395, 396, 5, 397, 73, 177, 178, 179, 201, 202, 203, 204, 205, 74, 398, 399, 400, 401, 402, 403, 404, 192, 193, 194, 198, 199, 200, 405, 406, 407, 408, 813, 814, 815, 816, 817, 818, 819, 820, 821, 822, 823, 824] (by decide +kernel) (by decide +kernel)
set_option maxRecDepth 20000 in
theorem gL_law_X6_night : GoodIn wsL_law (wsV RL 51 RX6 yX6_night wsX6_night) := goodIn_app (goodIn_of _ (by decide +kernel)) ggL_law_X6_night
set_option maxRecDepth 20000 in
theorem ggL_law_X5_cell : GoodIn wsL_law wsX5_cell := goodIn_r _ [412, 15, 87, 88, 2, 89, 90, 91, 92, 93, 94, 95, 413, 414, 415, 14, 416, 37, 38, 108, 109, 110, 36, 111, 50, 49, 331, 332, 333, 334, 327, 328, 329, 330, 42, 164, 165, 417, 418, 419, 420, 119, 120, 121, 807, 808, 809, 810, 811, 812, 825, 826, 827, 828, 829, 830, 831, 832, 833, 834, 841, 842, 843] (by decide +kernel) (by decide +kernel)
set_option maxRecDepth 20000 in
theorem gL_law_X5_cell : GoodIn wsL_law (wsV RL 52 RX5 yX5_cell wsX5_cell) := goodIn_app (goodIn_of _ (by decide +kernel)) ggL_law_X5_cell
set_option maxRecDepth 20000 in
theorem ggL_law_X6_cell : GoodIn wsL_law wsX6_cell := goodIn_r _ [424, 73, 174, 175, 5, 176, 177, 178, 179, 192, 193, 194, 188, 189, 190, 191, 348, 349, 350, 351, 425, 426, 427, 428, 813, 814, 815, 816, 817, 818, 819, 820, 821, 822, 823, 824] (by decide +kernel) (by decide +kernel)
set_option maxRecDepth 20000 in
theorem gL_law_X6_cell : GoodIn wsL_law (wsV RL 55 RX6 yX6_cell wsX6_cell) := goodIn_app (goodIn_of _ (by decide +kernel)) ggL_law_X6_cell
set_option maxRecDepth 20000 in
theorem ggL_law_X5_line : GoodIn wsL_law wsX5_line := goodIn_r _ [432, 15, 87, 88, 2, 89, 90, 91, 92, 93, 94, 95, 433, 434, 435, 14, 436, 39, 237, 238, 239, 240, 108, 109, 110, 36, 111, 50, 49, 331, 332, 333, 334, 807, 808, 809, 810, 811, 812, 825, 826, 827, 828, 829, 830, 831, 832, 833, 834, 841, 842, 843] (by decide +kernel) (by decide +kernel)
set_option maxRecDepth 20000 in
theorem gL_law_X5_line : GoodIn wsL_law (wsV RL 56 RX5 yX5_line wsX5_line) := goodIn_app (goodIn_of _ (by decide +kernel)) ggL_law_X5_line
set_option maxRecDepth 20000 in
theorem ggL_law_X6_line : GoodIn wsL_law wsX6_line := goodIn_r _ [440, 73, 260, 261, 5, 262, 177, 178, 179, 198, 199, 200, 813, 814, 815, 816, 817, 818, 819, 820, 821, 822, 823, 824] (by decide +kernel) (by decide +kernel)
set_option maxRecDepth 20000 in
theorem gL_law_X6_line : GoodIn wsL_law (wsV RL 59 RX6 yX6_line wsX6_line) := goodIn_app (goodIn_of _ (by decide +kernel)) ggL_law_X6_line
set_option maxRecDepth 20000 in
theorem ggL_law_X5_mayChange : GoodIn wsL_law wsX5_mayChange := goodIn_r _ [444, 445, 369, 251, 370, 15, 90, 91, 2, 92, 93, 94, 95, 446, 447, 448, 14, 449, 375, 376, 377, 237, 238, 239, 240, 39, 108, 109, 110, 36, 111, 50, 49, 417, 418, 419, 420, 37, 119, 120, 121, 450, 164, 165, 807, 808, 809, 810, 811, 812, 825, 826, 827, 828, 829, 830, 831, 832, 833, 834, 841, 842, 843] (by decide +kernel) (by decide +kernel)
set_option maxRecDepth 20000 in
theorem gL_law_X5_mayChange : GoodIn wsL_law (wsV RL 60 RX5 yX5_mayChange wsX5_mayChange) := goodIn_app (goodIn_of _ (by decide +kernel)) ggL_law_X5_mayChange
set_option maxRecDepth 20000 in
theorem ggL_law_X6_mayChange : GoodIn wsL_law wsX6_mayChange := goodIn_r _ [454, 174, 175, 5, 176, 177, 178, 179, 455, 456, 457, 458, 73, 198, 199, 200, 425, 426, 427, 428, 188, 189, 190, 191, 192, 193, 194, 813, 814, 815, 816, 817, 818, 819, 820, 821, 822, 823, 824] (by decide +kernel) (by decide +kernel)
set_option maxRecDepth 20000 in
theorem gL_law_X6_mayChange : GoodIn wsL_law (wsV RL 64 RX6 yX6_mayChange wsX6_mayChange) := goodIn_app (goodIn_of _ (by decide +kernel)) ggL_law_X6_mayChange
set_option maxRecDepth 20000 in
theorem ggL_law_X5_total : GoodIn wsL_law wsX5_total := goodIn_r _ [462, 15, 463, 157, 158, 36, 159, 160, 161, 162, 163, 50, 164, 2, 165, 464, 465, 466, 467, 14, 468, 37, 38, 39, 469, 470, 471, 472, 807, 808, 809, 810, 811, 812, 825, 826, 827, 828, 829, 830, 831, 832, 833, 834, 841, 842, 843] (by decide +kernel) (by decide +kernel)
set_option maxRecDepth 20000 in
theorem gL_law_X5_total : GoodIn wsL_law (wsV RL 65 RX5 yX5_total wsX5_total) := goodIn_app (goodIn_of _ (by decide +kernel)) ggL_law_X5_total
set_option maxRecDepth 20000 in
theorem ggL_law_X6_total : GoodIn wsL_law wsX6_total := goodIn_r _ [476, 73, 210, 211, 212, 5, 213, 477, 478, 479, 480, 481, 482, 483, 484, 348, 349, 350, 351, 192, 193, 194, 485, 486, 487, 488, 813, 814, 815, 816, 817, 818, 819, 820, 821, 822, 823, 824] (by decide +kernel) (by decide +kernel)
set_option maxRecDepth 20000 in
theorem gL_law_X6_total : GoodIn wsL_law (wsV RL 68 RX6 yX6_total wsX6_total) := goodIn_app (goodIn_of _ (by decide +kernel)) ggL_law_X6_total
set_option maxRecDepth 20000 in
theorem ggL_law_X5_whyNot : GoodIn wsL_law wsX5_whyNot := goodIn_r _ [492, 15, 87, 88, 2, 89, 90, 91, 92, 93, 94, 95, 96, 97, 98, 14, 99, 100, 101, 102, 103, 37, 104, 105, 106, 36, 107, 50, 108, 109, 110, 111, 49, 112, 113, 114, 115, 116, 117, 118, 39, 119, 120, 121, 807, 808, 809, 810, 811, 812, 825, 826, 827, 828, 829, 830, 831, 832, 833, 834, 841, 842, 843] (by decide +kernel) (by decide +kernel)
set_option maxRecDepth 20000 in
theorem gL_law_X5_whyNot : GoodIn wsL_law (wsV RL 69 RX5 yX5_whyNot wsX5_whyNot) := goodIn_app (goodIn_of _ (by decide +kernel)) ggL_law_X5_whyNot
set_option maxRecDepth 20000 in
theorem ggL_law_X6_whyNot : GoodIn wsL_law wsX6_whyNot := goodIn_r _ [496, 174, 175, 5, 176, 177, 178, 179, 180, 181, 182, 183, 73, 184, 185, 186, 187, 188, 189, 190, 191, 192, 193, 194, 195, 196, 197, 198, 199, 200, 813, 814, 815, 816, 817, 818, 819, 820, 821, 822, 823, 824] (by decide +kernel) (by decide +kernel)
set_option maxRecDepth 20000 in
theorem gL_law_X6_whyNot : GoodIn wsL_law (wsV RL 72 RX6 yX6_whyNot wsX6_whyNot) := goodIn_app (goodIn_of _ (by decide +kernel)) ggL_law_X6_whyNot
set_option maxRecDepth 20000 in
theorem ggL_law_X5_readableFor : GoodIn wsL_law wsX5_readableFor := goodIn_r _ [500, 15, 90, 91, 2, 92, 93, 94, 95, 501, 502, 503, 14, 504, 38, 42, 104, 105, 106, 36, 107, 50, 327, 328, 329, 330, 331, 332, 333, 334, 323, 324, 325, 326, 41, 108, 109, 110, 111, 49, 807, 808, 809, 810, 811, 812, 825, 826, 827, 828, 829, 830, 831, 832, 833, 834, 841, 842, 843] (by decide +kernel) (by decide +kernel)
set_option maxRecDepth 20000 in
theorem gL_law_X5_readableFor : GoodIn wsL_law (wsV RL 73 RX5 yX5_readableFor wsX5_readableFor) := goodIn_app (goodIn_of _ (by decide +kernel)) ggL_law_X5_readableFor
set_option maxRecDepth 20000 in
theorem ggL_law_X6_readableFor : GoodIn wsL_law wsX6_readableFor := goodIn_r _ [508, 73, 174, 175, 5, 176, 177, 178, 179, 192, 193, 194, 344, 345, 346, 347, 348, 349, 350, 351, 813, 814, 815, 816, 817, 818, 819, 820, 821, 822, 823, 824] (by decide +kernel) (by decide +kernel)
set_option maxRecDepth 20000 in
theorem gL_law_X6_readableFor : GoodIn wsL_law (wsV RL 76 RX6 yX6_readableFor wsX6_readableFor) := goodIn_app (goodIn_of _ (by decide +kernel)) ggL_law_X6_readableFor
set_option maxRecDepth 20000 in
theorem ggL_law_X5_bestNight : GoodIn wsL_law wsX5_bestNight := goodIn_r _ [512, 15, 513, 514, 515, 14, 516, 375, 376, 251, 377, 517, 518, 519, 520, 38, 37, 39, 521, 522, 523, 36, 524, 48, 386, 387, 388, 389, 50, 164, 2, 165, 371, 372, 373, 374, 43, 42, 807, 808, 809, 810, 811, 812, 825, 826, 827, 828, 829, 830, 831, 832, 833, 834, 841, 842, 843] (by decide +kernel) (by decide +kernel)
set_option maxRecDepth 20000 in
theorem gL_law_X5_bestNight : GoodIn wsL_law (wsV RL 77 RX5 yX5_bestNight wsX5_bestNight) := goodIn_app (goodIn_of _ (by decide +kernel)) ggL_law_X5_bestNight
set_option maxRecDepth 20000 in
theorem ggL_law_X6_bestNight : GoodIn wsL_law wsX6_bestNight := goodIn_r _ [528, 73, 177, 178, 5, 179, 529, 530, 531, 532, 402, 403, 404, 192, 193, 194, 198, 199, 200, 405, 406, 407, 408, 813, 814, 815, 816, 817, 818, 819, 820, 821, 822, 823, 824] (by decide +kernel) (by decide +kernel)
set_option maxRecDepth 20000 in
theorem gL_law_X6_bestNight : GoodIn wsL_law (wsV RL 81 RX6 yX6_bestNight wsX6_bestNight) := goodIn_app (goodIn_of _ (by decide +kernel)) ggL_law_X6_bestNight
set_option maxRecDepth 20000 in
theorem ggL_law_X5_fewestChanges : GoodIn wsL_law wsX5_fewestChanges := goodIn_r _ [536, 29, 15, 93, 94, 2, 95, 537, 538, 539, 28, 540, 68, 541, 376, 251, 377, 542, 543, 544, 545, 546, 418, 419, 14, 420, 37, 108, 109, 110, 36, 111, 50, 49, 119, 120, 121, 547, 548, 549, 550, 551, 552, 553, 554, 555, 447, 448, 449, 375, 237, 238, 239, 240, 39, 417, 807, 808, 809, 810, 811, 812, 840, 825, 826, 827, 828, 829, 830, 831, 832, 833, 834, 841, 842, 843] (by decide +kernel) (by decide +kernel)
set_option maxRecDepth 20000 in
theorem gL_law_X5_fewestChanges : GoodIn wsL_law (wsV RL 82 RX5 yX5_fewestChanges wsX5_fewestChanges) := goodIn_app (goodIn_of _ (by decide +kernel)) ggL_law_X5_fewestChanges
set_option maxRecDepth 20000 in
theorem ggL_law_X6_fewestChanges : GoodIn wsL_law wsX6_fewestChanges := goodIn_r _ [559, 77, 177, 178, 5, 179, 425, 426, 427, 428, 188, 189, 190, 191, 73, 192, 193, 194, 455, 456, 457, 458, 198, 199, 200, 813, 814, 815, 816, 817, 818, 819, 820, 821, 822, 823, 824] (by decide +kernel) (by decide +kernel)
set_option maxRecDepth 20000 in
theorem gL_law_X6_fewestChanges : GoodIn wsL_law (wsV RL 85 RX6 yX6_fewestChanges wsX6_fewestChanges) := goodIn_app (goodIn_of _ (by decide +kernel)) ggL_law_X6_fewestChanges
set_option maxRecDepth 20000 in
theorem ggL_law_X5_append : GoodIn wsL_law wsX5_append := goodIn_r _ [563, 25, 93, 94, 2, 95, 564, 565, 566, 24, 567, 568, 63, 807, 808, 809, 810, 811, 812, 838, 839] (by decide +kernel) (by decide +kernel)
set_option maxRecDepth 20000 in
theorem gL_law_X5_append : GoodIn wsL_law (wsV RL 86 RX5 yX5_append wsX5_append) := goodIn_app (goodIn_of _ (by decide +kernel)) ggL_law_X5_append
set_option maxRecDepth 20000 in
theorem ggL_law_X6_append : GoodIn wsL_law wsX6_append := goodIn_r _ [572, 573, 76, 177, 178, 5, 179, 813, 814, 815, 816, 817, 818, 819, 820, 821, 822, 823, 824] (by decide +kernel) (by decide +kernel)
set_option maxRecDepth 20000 in
theorem gL_law_X6_append : GoodIn wsL_law (wsV RL 89 RX6 yX6_append wsX6_append) := goodIn_app (goodIn_of _ (by decide +kernel)) ggL_law_X6_append
set_option maxRecDepth 20000 in
theorem ggL_law_X5_clearText : GoodIn wsL_law wsX5_clearText := goodIn_r _ [577, 25, 578, 579, 580, 24, 581, 568, 807, 808, 809, 810, 811, 812, 838, 839] (by decide +kernel) (by decide +kernel)
set_option maxRecDepth 20000 in
theorem gL_law_X5_clearText : GoodIn wsL_law (wsV RL 90 RX5 yX5_clearText wsX5_clearText) := goodIn_app (goodIn_of _ (by decide +kernel)) ggL_law_X5_clearText
set_option maxRecDepth 20000 in
theorem ggL_law_X6_clearText : GoodIn wsL_law wsX6_clearText := goodIn_r _ [585, 573, 813, 814, 815, 816, 817, 818, 819, 820, 821, 822, 823, 824] (by decide +kernel) (by decide +kernel)
set_option maxRecDepth 20000 in
theorem gL_law_X6_clearText : GoodIn wsL_law (wsV RL 93 RX6 yX6_clearText wsX6_clearText) := goodIn_app (goodIn_of _ (by decide +kernel)) ggL_law_X6_clearText
set_option maxRecDepth 20000 in
theorem ggL_law_X5_errorPosition : GoodIn wsL_law wsX5_errorPosition := goodIn_r _ [589, 25, 590, 591, 592, 24, 593, 568, 594, 595, 596, 597, 63, 94, 2, 95, 598, 599, 600, 601, 602, 603, 604, 605, 606, 607, 608, 609, 610, 611, 612, 613, 614, 615, 616, 617, 618, 619, 620, 621, 622, 623, 624, 625, 626, 627, 628, 629, 630, 631, 632, 633, 634, 635, 636, 637, 638, 639, 640, 641, 642, 643, 644, 645, 646, 647, 648, 649, 650, 651, 652, 653, 654, 655, 656, 657, 658, 659, 660, 661, 662, 663, 664, 665, 666, 667, 668, 669, 670, 671, 672, 250, 251, 252, 673, 376, 377, 674, 675, 676, 677, 678, 679, 680, 681, 682, 683, 684, 685, 686, 687, 688, 689, 690, 691, 692, 693, 694, 695, 696, 697, 698, 699, 700, 701, 702, 703, 704, 705, 706, 707, 708, 709, 710, 711, 712, 713, 714, 715, 807, 808, 809, 810, 811, 812, 838, 839] (by decide +kernel) (by decide +kernel)
set_option maxRecDepth 20000 in
theorem gL_law_X5_errorPosition : GoodIn wsL_law (wsV RL 94 RX5 yX5_errorPosition wsX5_errorPosition) := goodIn_app (goodIn_of _ (by decide +kernel)) ggL_law_X5_errorPosition
set_option maxRecDepth 20000 in
theorem ggL_law_X6_errorPosition : GoodIn wsL_law wsX6_errorPosition := goodIn_r _ [719, 720, 721, 722, 573, 723, 724, 725, 5, 726, 78, 727, 728, 729, 730, 76, 731, 732, 733, 734, 735, 736, 737, 738, 177, 178, 179, 739, 740, 741, 742, 743, 744, 745, 746, 813, 814, 815, 816, 817, 818, 819, 820, 821, 822, 823, 824] (by decide +kernel) (by decide +kernel)
set_option maxRecDepth 20000 in
theorem gL_law_X6_errorPosition : GoodIn wsL_law (wsV RL 97 RX6 yX6_errorPosition wsX6_errorPosition) := goodIn_app (goodIn_of _ (by decide +kernel)) ggL_law_X6_errorPosition
set_option maxRecDepth 20000 in
theorem ggL_law_X5_carryOut : GoodIn wsL_law wsX5_carryOut := goodIn_r _ [750, 25, 21, 15, 590, 591, 592, 24, 593, 568, 594, 595, 596, 597, 63, 94, 2, 95, 598, 599, 600, 601, 602, 603, 604, 605, 606, 607, 608, 609, 610, 611, 612, 613, 614, 615, 616, 617, 618, 619, 620, 621, 622, 623, 624, 625, 626, 627, 628, 629, 630, 631, 632, 633, 634, 635, 636, 637, 638, 639, 640, 641, 642, 643, 644, 645, 646, 647, 648, 649, 650, 651, 652, 653, 654, 655, 656, 657, 658, 659, 660, 661, 662, 663, 664, 665, 666, 667, 668, 669, 670, 671, 672, 250, 251, 252, 673, 376, 377, 674, 675, 676, 677, 678, 679, 680, 681, 682, 683, 684, 685, 686, 687, 688, 689, 690, 691, 692, 693, 694, 695, 696, 697, 698, 699, 700, 701, 702, 703, 704, 705, 706, 707, 708, 709, 710, 711, 712, 713, 714, 715, 126, 127, 128, 20, 129, 56, 130, 131, 132, 133, 134, 14, 135, 37, 38, 39, 41, 136, 137, 138, 139, 42, 43, 140, 141, 142, 143, 144, 145, 146, 36, 147, 50, 49, 751, 752, 753, 754, 755, 756, 757, 758, 759, 760, 761, 762, 763, 83, 84, 85, 86, 87, 88, 89, 90, 91, 92, 93, 96, 97, 98, 99, 100, 101, 102, 103, 104, 105, 106, 107, 108, 109, 110, 111, 112, 113, 114, 115, 116, 117, 118, 119, 120, 121, 360, 361, 362, 363, 148, 149, 150, 151, 152, 153, 154, 155, 156, 157, 158, 159, 160, 161, 162, 163, 164, 165, 218, 219, 220, 221, 233, 234, 235, 236, 237, 238, 239, 240, 241, 242, 243, 244, 245, 246, 247, 248, 249, 364, 365, 366, 367, 368, 369, 370, 371, 372, 373, 374, 375, 378, 379, 380, 381, 382, 383, 384, 385, 48, 386, 387, 388, 389, 315, 316, 317, 318, 319, 320, 321, 322, 323, 324, 325, 326, 327, 328, 329, 330, 331, 332, 333, 334, 335, 764, 765, 766, 767, 578, 579, 580, 581, 807, 808, 809, 810, 811, 812, 838, 839, 835, 836, 837, 825, 826, 827, 828, 829, 830, 831, 832, 833, 834, 841, 842, 843] (by decide +kernel) (by decide +kernel)
set_option maxRecDepth 20000 in
theorem gL_law_X5_carryOut : GoodIn wsL_law (wsV RL 98 RX5 yX5_carryOut wsX5_carryOut) := goodIn_app (goodIn_of _ (by decide +kernel)) ggL_law_X5_carryOut
set_option maxRecDepth 20000 in
theorem ggL_law_X6_carryOut : GoodIn wsL_law wsX6_carryOut := goodIn_r _ [771, 720, 573, 772, 717, 718, 5, 719, 721, 722, 723, 724, 725, 726, 78, 727, 728, 729, 730, 76, 731, 732, 733, 734, 735, 736, 737, 738, 177, 178, 179, 739, 740, 741, 742, 743, 744, 745, 746, 201, 202, 203, 204, 205, 74, 73, 773, 774, 775, 776, 170, 171, 172, 173, 174, 175, 176, 180, 181, 182, 183, 184, 185, 186, 187, 188, 189, 190, 191, 192, 193, 194, 195, 196, 197, 198, 199, 200, 206, 207, 208, 209, 394, 395, 396, 397, 398, 399, 400, 401, 402, 403, 404, 405, 406, 407, 408, 340, 341, 342, 343, 344, 345, 346, 347, 348, 349, 350, 351, 352, 353, 354, 355, 813, 814, 815, 816, 817, 818, 819, 820, 821, 822, 823, 824] (by decide +kernel) (by decide +kernel)
set_option maxRecDepth 20000 in
theorem gL_law_X6_carryOut : GoodIn wsL_law (wsV RL 101 RX6 yX6_carryOut wsX6_carryOut) := goodIn_app (goodIn_of _ (by decide +kernel)) ggL_law_X6_carryOut
set_option maxRecDepth 20000 in
theorem ggL_law_X5_undo : GoodIn wsL_law wsX5_undo := goodIn_r _ [780, 21, 15, 781, 782, 783, 20, 784, 131, 56, 130, 132, 133, 134, 14, 135, 37, 38, 39, 41, 136, 137, 138, 139, 42, 43, 140, 141, 142, 143, 144, 145, 146, 36, 147, 50, 49, 807, 808, 809, 810, 811, 812, 835, 836, 837, 825, 826, 827, 828, 829, 830, 831, 832, 833, 834, 841, 842, 843] (by decide +kernel) (by decide +kernel)
set_option maxRecDepth 20000 in
theorem gL_law_X5_undo : GoodIn wsL_law (wsV RL 102 RX5 yX5_undo wsX5_undo) := goodIn_app (goodIn_of _ (by decide +kernel)) ggL_law_X5_undo
set_option maxRecDepth 20000 in
theorem ggL_law_X6_undo : GoodIn wsL_law wsX6_undo := goodIn_r _ [788, 205, 73, 74, 813, 814, 815, 816, 817, 818, 819, 820, 821, 822, 823, 824] (by decide +kernel) (by decide +kernel)
set_option maxRecDepth 20000 in
theorem gL_law_X6_undo : GoodIn wsL_law (wsV RL 105 RX6 yX6_undo wsX6_undo) := goodIn_app (goodIn_of _ (by decide +kernel)) ggL_law_X6_undo
set_option maxRecDepth 20000 in
theorem ggL_law_X5_save : GoodIn wsL_law wsX5_save := goodIn_r _ [792, 16, 15, 17, 793, 133, 134, 14, 135, 37, 38, 39, 41, 136, 137, 138, 139, 42, 43, 140, 141, 142, 143, 144, 145, 146, 36, 147, 50, 49, 807, 808, 809, 810, 811, 812, 825, 826, 827, 828, 829, 830, 831, 832, 833, 834, 841, 842, 843] (by decide +kernel) (by decide +kernel)
set_option maxRecDepth 20000 in
theorem gL_law_X5_save : GoodIn wsL_law (wsV RL 106 RX5 yX5_save wsX5_save) := goodIn_app (goodIn_of _ (by decide +kernel)) ggL_law_X5_save
set_option maxRecDepth 20000 in
theorem ggL_law_X6_save : GoodIn wsL_law wsX6_save := goodIn_r _ [797, 798, 75, 73, 813, 814, 815, 816, 817, 818, 819, 820, 821, 822, 823, 824] (by decide +kernel) (by decide +kernel)
set_option maxRecDepth 20000 in
theorem gL_law_X6_save : GoodIn wsL_law (wsV RL 109 RX6 yX6_save wsX6_save) := goodIn_app (goodIn_of _ (by decide +kernel)) ggL_law_X6_save
set_option maxRecDepth 20000 in
theorem ggL_law_X5_restore : GoodIn wsL_law wsX5_restore := goodIn_r _ [802, 17, 16, 15, 122, 123, 124, 2, 125, 21, 126, 127, 128, 20, 129, 56, 130, 131, 132, 133, 134, 14, 135, 37, 38, 39, 41, 136, 137, 138, 139, 42, 43, 140, 141, 142, 143, 144, 145, 146, 36, 147, 50, 49, 793, 807, 808, 809, 810, 811, 812, 825, 826, 827, 828, 829, 830, 831, 832, 833, 834, 835, 836, 837, 841, 842, 843] (by decide +kernel) (by decide +kernel)
set_option maxRecDepth 20000 in
theorem gL_law_X5_restore : GoodIn wsL_law (wsV RL 110 RX5 yX5_restore wsX5_restore) := goodIn_app (goodIn_of _ (by decide +kernel)) ggL_law_X5_restore
set_option maxRecDepth 20000 in
theorem ggL_law_X6_restore : GoodIn wsL_law wsX6_restore := goodIn_r _ [806, 798, 73, 75, 201, 202, 203, 5, 204, 205, 74, 813, 814, 815, 816, 817, 818, 819, 820, 821, 822, 823, 824] (by decide +kernel) (by decide +kernel)
set_option maxRecDepth 20000 in
theorem gL_law_X6_restore : GoodIn wsL_law (wsV RL 113 RX6 yX6_restore wsX6_restore) := goodIn_app (goodIn_of _ (by decide +kernel)) ggL_law_X6_restore
theorem dL_law_0 : decode cL_law 0 = .ok (.new 7, 3) := by decide +kernel
theorem dL_law_3 : decode cL_law 3 = .ok (.dup, 1) := by decide +kernel
theorem dL_law_4 : decode cL_law 4 = .ok (.invokespecial 9, 3) := by decide +kernel
theorem dL_law_7 : decode cL_law 7 = .ok (.astore_n 1, 1) := by decide +kernel
theorem dL_law_8 : decode cL_law 8 = .ok (.new 10, 3) := by decide +kernel
theorem dL_law_11 : decode cL_law 11 = .ok (.dup, 1) := by decide +kernel
theorem dL_law_12 : decode cL_law 12 = .ok (.invokespecial 12, 3) := by decide +kernel
theorem dL_law_15 : decode cL_law 15 = .ok (.astore_n 2, 1) := by decide +kernel
theorem dL_law_16 : decode cL_law 16 = .ok (.iconst 0, 1) := by decide +kernel
theorem dL_law_17 : decode cL_law 17 = .ok (.istore_n 3, 1) := by decide +kernel
theorem dL_law_18 : decode cL_law 18 = .ok (.iload_n 3, 1) := by decide +kernel
theorem dL_law_19 : decode cL_law 19 = .ok (.aload_n 0, 1) := by decide +kernel
theorem dL_law_20 : decode cL_law 20 = .ok (.arraylength, 1) := by decide +kernel
theorem dL_law_21 : decode cL_law 21 = .ok (.iconst 5, 1) := by decide +kernel
theorem dL_law_22 : decode cL_law 22 = .ok (.isub, 1) := by decide +kernel
theorem dL_law_23 : decode cL_law 23 = .ok (.if_icmp .gt 819, 3) := by decide +kernel
theorem dL_law_26 : decode cL_law 26 = .ok (.aload_n 0, 1) := by decide +kernel
theorem dL_law_27 : decode cL_law 27 = .ok (.iload_n 3, 1) := by decide +kernel
theorem dL_law_28 : decode cL_law 28 = .ok (.iaload, 1) := by decide +kernel
theorem dL_law_29 : decode cL_law 29 = .ok (.bipush 31, 2) := by decide +kernel
theorem dL_law_31 : decode cL_law 31 = .ok (.iand, 1) := by decide +kernel
theorem dL_law_32 : decode cL_law 32 = .ok (.tableswitch 804 0 23 #[112, 155, 198, 241, 274, 307, 340, 363, 386, 419, 462, 505, 558, 581, 624, 657, 670, 703, 726, 739, 752, 765, 778, 791], 112) := by decide +kernel
theorem dL_law_144 : decode cL_law 144 = .ok (.aload_n 1, 1) := by decide +kernel
theorem dL_law_145 : decode cL_law 145 = .ok (.aload_n 0, 1) := by decide +kernel
theorem dL_law_146 : decode cL_law 146 = .ok (.iload_n 3, 1) := by decide +kernel
theorem dL_law_147 : decode cL_law 147 = .ok (.iconst 1, 1) := by decide +kernel
theorem dL_law_148 : decode cL_law 148 = .ok (.iadd, 1) := by decide +kernel
theorem dL_law_149 : decode cL_law 149 = .ok (.iaload, 1) := by decide +kernel
theorem dL_law_150 : decode cL_law 150 = .ok (.aload_n 0, 1) := by decide +kernel
theorem dL_law_151 : decode cL_law 151 = .ok (.iload_n 3, 1) := by decide +kernel
theorem dL_law_152 : decode cL_law 152 = .ok (.iconst 2, 1) := by decide +kernel
theorem dL_law_153 : decode cL_law 153 = .ok (.iadd, 1) := by decide +kernel
theorem dL_law_154 : decode cL_law 154 = .ok (.iaload, 1) := by decide +kernel
theorem dL_law_155 : decode cL_law 155 = .ok (.aload_n 0, 1) := by decide +kernel
theorem dL_law_156 : decode cL_law 156 = .ok (.iload_n 3, 1) := by decide +kernel
theorem dL_law_157 : decode cL_law 157 = .ok (.iconst 3, 1) := by decide +kernel
theorem dL_law_158 : decode cL_law 158 = .ok (.iadd, 1) := by decide +kernel
theorem dL_law_159 : decode cL_law 159 = .ok (.iaload, 1) := by decide +kernel
theorem dL_law_160 : decode cL_law 160 = .ok (.invokevirtual 13, 3) := by decide +kernel
theorem dL_law_163 : decode cL_law 163 = .ok (.aload_n 2, 1) := by decide +kernel
theorem dL_law_164 : decode cL_law 164 = .ok (.aload_n 0, 1) := by decide +kernel
theorem dL_law_165 : decode cL_law 165 = .ok (.iload_n 3, 1) := by decide +kernel
theorem dL_law_166 : decode cL_law 166 = .ok (.iconst 1, 1) := by decide +kernel
theorem dL_law_167 : decode cL_law 167 = .ok (.iadd, 1) := by decide +kernel
theorem dL_law_168 : decode cL_law 168 = .ok (.iaload, 1) := by decide +kernel
theorem dL_law_169 : decode cL_law 169 = .ok (.aload_n 0, 1) := by decide +kernel
theorem dL_law_170 : decode cL_law 170 = .ok (.iload_n 3, 1) := by decide +kernel
theorem dL_law_171 : decode cL_law 171 = .ok (.iconst 2, 1) := by decide +kernel
theorem dL_law_172 : decode cL_law 172 = .ok (.iadd, 1) := by decide +kernel
theorem dL_law_173 : decode cL_law 173 = .ok (.iaload, 1) := by decide +kernel
theorem dL_law_174 : decode cL_law 174 = .ok (.aload_n 0, 1) := by decide +kernel
theorem dL_law_175 : decode cL_law 175 = .ok (.iload_n 3, 1) := by decide +kernel
theorem dL_law_176 : decode cL_law 176 = .ok (.iconst 3, 1) := by decide +kernel
theorem dL_law_177 : decode cL_law 177 = .ok (.iadd, 1) := by decide +kernel
theorem dL_law_178 : decode cL_law 178 = .ok (.iaload, 1) := by decide +kernel
theorem dL_law_179 : decode cL_law 179 = .ok (.invokevirtual 17, 3) := by decide +kernel
theorem dL_law_182 : decode cL_law 182 = .ok (.if_icmp .eq 654, 3) := by decide +kernel
theorem dL_law_185 : decode cL_law 185 = .ok (.iconst 0, 1) := by decide +kernel
theorem dL_law_186 : decode cL_law 186 = .ok (.ireturn, 1) := by decide +kernel
theorem dL_law_187 : decode cL_law 187 = .ok (.aload_n 1, 1) := by decide +kernel
theorem dL_law_188 : decode cL_law 188 = .ok (.aload_n 0, 1) := by decide +kernel
theorem dL_law_189 : decode cL_law 189 = .ok (.iload_n 3, 1) := by decide +kernel
theorem dL_law_190 : decode cL_law 190 = .ok (.iconst 1, 1) := by decide +kernel
theorem dL_law_191 : decode cL_law 191 = .ok (.iadd, 1) := by decide +kernel
theorem dL_law_192 : decode cL_law 192 = .ok (.iaload, 1) := by decide +kernel
theorem dL_law_193 : decode cL_law 193 = .ok (.aload_n 0, 1) := by decide +kernel
theorem dL_law_194 : decode cL_law 194 = .ok (.iload_n 3, 1) := by decide +kernel
theorem dL_law_195 : decode cL_law 195 = .ok (.iconst 2, 1) := by decide +kernel
theorem dL_law_196 : decode cL_law 196 = .ok (.iadd, 1) := by decide +kernel
theorem dL_law_197 : decode cL_law 197 = .ok (.iaload, 1) := by decide +kernel
theorem dL_law_198 : decode cL_law 198 = .ok (.aload_n 0, 1) := by decide +kernel
theorem dL_law_199 : decode cL_law 199 = .ok (.iload_n 3, 1) := by decide +kernel
theorem dL_law_200 : decode cL_law 200 = .ok (.iconst 3, 1) := by decide +kernel
theorem dL_law_201 : decode cL_law 201 = .ok (.iadd, 1) := by decide +kernel
theorem dL_law_202 : decode cL_law 202 = .ok (.iaload, 1) := by decide +kernel
theorem dL_law_203 : decode cL_law 203 = .ok (.invokevirtual 18, 3) := by decide +kernel
theorem dL_law_206 : decode cL_law 206 = .ok (.aload_n 2, 1) := by decide +kernel
theorem dL_law_207 : decode cL_law 207 = .ok (.aload_n 0, 1) := by decide +kernel
theorem dL_law_208 : decode cL_law 208 = .ok (.iload_n 3, 1) := by decide +kernel
theorem dL_law_209 : decode cL_law 209 = .ok (.iconst 1, 1) := by decide +kernel
theorem dL_law_210 : decode cL_law 210 = .ok (.iadd, 1) := by decide +kernel
theorem dL_law_211 : decode cL_law 211 = .ok (.iaload, 1) := by decide +kernel
theorem dL_law_212 : decode cL_law 212 = .ok (.aload_n 0, 1) := by decide +kernel
theorem dL_law_213 : decode cL_law 213 = .ok (.iload_n 3, 1) := by decide +kernel
theorem dL_law_214 : decode cL_law 214 = .ok (.iconst 2, 1) := by decide +kernel
theorem dL_law_215 : decode cL_law 215 = .ok (.iadd, 1) := by decide +kernel
theorem dL_law_216 : decode cL_law 216 = .ok (.iaload, 1) := by decide +kernel
theorem dL_law_217 : decode cL_law 217 = .ok (.aload_n 0, 1) := by decide +kernel
theorem dL_law_218 : decode cL_law 218 = .ok (.iload_n 3, 1) := by decide +kernel
theorem dL_law_219 : decode cL_law 219 = .ok (.iconst 3, 1) := by decide +kernel
theorem dL_law_220 : decode cL_law 220 = .ok (.iadd, 1) := by decide +kernel
theorem dL_law_221 : decode cL_law 221 = .ok (.iaload, 1) := by decide +kernel
theorem dL_law_222 : decode cL_law 222 = .ok (.invokevirtual 21, 3) := by decide +kernel
theorem dL_law_225 : decode cL_law 225 = .ok (.if_icmp .eq 611, 3) := by decide +kernel
theorem dL_law_228 : decode cL_law 228 = .ok (.iconst 0, 1) := by decide +kernel
theorem dL_law_229 : decode cL_law 229 = .ok (.ireturn, 1) := by decide +kernel
theorem dL_law_230 : decode cL_law 230 = .ok (.aload_n 1, 1) := by decide +kernel
theorem dL_law_231 : decode cL_law 231 = .ok (.aload_n 0, 1) := by decide +kernel
theorem dL_law_232 : decode cL_law 232 = .ok (.iload_n 3, 1) := by decide +kernel
theorem dL_law_233 : decode cL_law 233 = .ok (.iconst 1, 1) := by decide +kernel
theorem dL_law_234 : decode cL_law 234 = .ok (.iadd, 1) := by decide +kernel
theorem dL_law_235 : decode cL_law 235 = .ok (.iaload, 1) := by decide +kernel
theorem dL_law_236 : decode cL_law 236 = .ok (.aload_n 0, 1) := by decide +kernel
theorem dL_law_237 : decode cL_law 237 = .ok (.iload_n 3, 1) := by decide +kernel
theorem dL_law_238 : decode cL_law 238 = .ok (.iconst 2, 1) := by decide +kernel
theorem dL_law_239 : decode cL_law 239 = .ok (.iadd, 1) := by decide +kernel
theorem dL_law_240 : decode cL_law 240 = .ok (.iaload, 1) := by decide +kernel
theorem dL_law_241 : decode cL_law 241 = .ok (.aload_n 0, 1) := by decide +kernel
theorem dL_law_242 : decode cL_law 242 = .ok (.iload_n 3, 1) := by decide +kernel
theorem dL_law_243 : decode cL_law 243 = .ok (.iconst 3, 1) := by decide +kernel
theorem dL_law_244 : decode cL_law 244 = .ok (.iadd, 1) := by decide +kernel
theorem dL_law_245 : decode cL_law 245 = .ok (.iaload, 1) := by decide +kernel
theorem dL_law_246 : decode cL_law 246 = .ok (.invokevirtual 22, 3) := by decide +kernel
theorem dL_law_249 : decode cL_law 249 = .ok (.aload_n 2, 1) := by decide +kernel
theorem dL_law_250 : decode cL_law 250 = .ok (.aload_n 0, 1) := by decide +kernel
theorem dL_law_251 : decode cL_law 251 = .ok (.iload_n 3, 1) := by decide +kernel
theorem dL_law_252 : decode cL_law 252 = .ok (.iconst 1, 1) := by decide +kernel
theorem dL_law_253 : decode cL_law 253 = .ok (.iadd, 1) := by decide +kernel
theorem dL_law_254 : decode cL_law 254 = .ok (.iaload, 1) := by decide +kernel
theorem dL_law_255 : decode cL_law 255 = .ok (.aload_n 0, 1) := by decide +kernel
theorem dL_law_256 : decode cL_law 256 = .ok (.iload_n 3, 1) := by decide +kernel
theorem dL_law_257 : decode cL_law 257 = .ok (.iconst 2, 1) := by decide +kernel
theorem dL_law_258 : decode cL_law 258 = .ok (.iadd, 1) := by decide +kernel
theorem dL_law_259 : decode cL_law 259 = .ok (.iaload, 1) := by decide +kernel
theorem dL_law_260 : decode cL_law 260 = .ok (.aload_n 0, 1) := by decide +kernel
theorem dL_law_261 : decode cL_law 261 = .ok (.iload_n 3, 1) := by decide +kernel
theorem dL_law_262 : decode cL_law 262 = .ok (.iconst 3, 1) := by decide +kernel
theorem dL_law_263 : decode cL_law 263 = .ok (.iadd, 1) := by decide +kernel
theorem dL_law_264 : decode cL_law 264 = .ok (.iaload, 1) := by decide +kernel
theorem dL_law_265 : decode cL_law 265 = .ok (.invokevirtual 25, 3) := by decide +kernel
theorem dL_law_268 : decode cL_law 268 = .ok (.if_icmp .eq 568, 3) := by decide +kernel
theorem dL_law_271 : decode cL_law 271 = .ok (.iconst 0, 1) := by decide +kernel
theorem dL_law_272 : decode cL_law 272 = .ok (.ireturn, 1) := by decide +kernel
theorem dL_law_273 : decode cL_law 273 = .ok (.aload_n 1, 1) := by decide +kernel
theorem dL_law_274 : decode cL_law 274 = .ok (.aload_n 0, 1) := by decide +kernel
theorem dL_law_275 : decode cL_law 275 = .ok (.iload_n 3, 1) := by decide +kernel
theorem dL_law_276 : decode cL_law 276 = .ok (.iconst 1, 1) := by decide +kernel
theorem dL_law_277 : decode cL_law 277 = .ok (.iadd, 1) := by decide +kernel
theorem dL_law_278 : decode cL_law 278 = .ok (.iaload, 1) := by decide +kernel
theorem dL_law_279 : decode cL_law 279 = .ok (.aload_n 0, 1) := by decide +kernel
theorem dL_law_280 : decode cL_law 280 = .ok (.iload_n 3, 1) := by decide +kernel
theorem dL_law_281 : decode cL_law 281 = .ok (.iconst 2, 1) := by decide +kernel
theorem dL_law_282 : decode cL_law 282 = .ok (.iadd, 1) := by decide +kernel
theorem dL_law_283 : decode cL_law 283 = .ok (.iaload, 1) := by decide +kernel
theorem dL_law_284 : decode cL_law 284 = .ok (.invokevirtual 26, 3) := by decide +kernel
theorem dL_law_287 : decode cL_law 287 = .ok (.aload_n 2, 1) := by decide +kernel
theorem dL_law_288 : decode cL_law 288 = .ok (.aload_n 0, 1) := by decide +kernel
theorem dL_law_289 : decode cL_law 289 = .ok (.iload_n 3, 1) := by decide +kernel
theorem dL_law_290 : decode cL_law 290 = .ok (.iconst 1, 1) := by decide +kernel
theorem dL_law_291 : decode cL_law 291 = .ok (.iadd, 1) := by decide +kernel
theorem dL_law_292 : decode cL_law 292 = .ok (.iaload, 1) := by decide +kernel
theorem dL_law_293 : decode cL_law 293 = .ok (.aload_n 0, 1) := by decide +kernel
theorem dL_law_294 : decode cL_law 294 = .ok (.iload_n 3, 1) := by decide +kernel
theorem dL_law_295 : decode cL_law 295 = .ok (.iconst 2, 1) := by decide +kernel
theorem dL_law_296 : decode cL_law 296 = .ok (.iadd, 1) := by decide +kernel
theorem dL_law_297 : decode cL_law 297 = .ok (.iaload, 1) := by decide +kernel
theorem dL_law_298 : decode cL_law 298 = .ok (.invokevirtual 30, 3) := by decide +kernel
theorem dL_law_301 : decode cL_law 301 = .ok (.if_icmp .eq 535, 3) := by decide +kernel
theorem dL_law_304 : decode cL_law 304 = .ok (.iconst 0, 1) := by decide +kernel
theorem dL_law_305 : decode cL_law 305 = .ok (.ireturn, 1) := by decide +kernel
theorem dL_law_306 : decode cL_law 306 = .ok (.aload_n 1, 1) := by decide +kernel
theorem dL_law_307 : decode cL_law 307 = .ok (.aload_n 0, 1) := by decide +kernel
theorem dL_law_308 : decode cL_law 308 = .ok (.iload_n 3, 1) := by decide +kernel
theorem dL_law_309 : decode cL_law 309 = .ok (.iconst 1, 1) := by decide +kernel
theorem dL_law_310 : decode cL_law 310 = .ok (.iadd, 1) := by decide +kernel
theorem dL_law_311 : decode cL_law 311 = .ok (.iaload, 1) := by decide +kernel
theorem dL_law_312 : decode cL_law 312 = .ok (.aload_n 0, 1) := by decide +kernel
theorem dL_law_313 : decode cL_law 313 = .ok (.iload_n 3, 1) := by decide +kernel
theorem dL_law_314 : decode cL_law 314 = .ok (.iconst 2, 1) := by decide +kernel
theorem dL_law_315 : decode cL_law 315 = .ok (.iadd, 1) := by decide +kernel
theorem dL_law_316 : decode cL_law 316 = .ok (.iaload, 1) := by decide +kernel
theorem dL_law_317 : decode cL_law 317 = .ok (.invokevirtual 31, 3) := by decide +kernel
theorem dL_law_320 : decode cL_law 320 = .ok (.aload_n 2, 1) := by decide +kernel
theorem dL_law_321 : decode cL_law 321 = .ok (.aload_n 0, 1) := by decide +kernel
theorem dL_law_322 : decode cL_law 322 = .ok (.iload_n 3, 1) := by decide +kernel
theorem dL_law_323 : decode cL_law 323 = .ok (.iconst 1, 1) := by decide +kernel
theorem dL_law_324 : decode cL_law 324 = .ok (.iadd, 1) := by decide +kernel
theorem dL_law_325 : decode cL_law 325 = .ok (.iaload, 1) := by decide +kernel
theorem dL_law_326 : decode cL_law 326 = .ok (.aload_n 0, 1) := by decide +kernel
theorem dL_law_327 : decode cL_law 327 = .ok (.iload_n 3, 1) := by decide +kernel
theorem dL_law_328 : decode cL_law 328 = .ok (.iconst 2, 1) := by decide +kernel
theorem dL_law_329 : decode cL_law 329 = .ok (.iadd, 1) := by decide +kernel
theorem dL_law_330 : decode cL_law 330 = .ok (.iaload, 1) := by decide +kernel
theorem dL_law_331 : decode cL_law 331 = .ok (.invokevirtual 34, 3) := by decide +kernel
theorem dL_law_334 : decode cL_law 334 = .ok (.if_icmp .eq 502, 3) := by decide +kernel
theorem dL_law_337 : decode cL_law 337 = .ok (.iconst 0, 1) := by decide +kernel
theorem dL_law_338 : decode cL_law 338 = .ok (.ireturn, 1) := by decide +kernel
theorem dL_law_339 : decode cL_law 339 = .ok (.aload_n 1, 1) := by decide +kernel
theorem dL_law_340 : decode cL_law 340 = .ok (.aload_n 0, 1) := by decide +kernel
theorem dL_law_341 : decode cL_law 341 = .ok (.iload_n 3, 1) := by decide +kernel
theorem dL_law_342 : decode cL_law 342 = .ok (.iconst 1, 1) := by decide +kernel
theorem dL_law_343 : decode cL_law 343 = .ok (.iadd, 1) := by decide +kernel
theorem dL_law_344 : decode cL_law 344 = .ok (.iaload, 1) := by decide +kernel
theorem dL_law_345 : decode cL_law 345 = .ok (.aload_n 0, 1) := by decide +kernel
theorem dL_law_346 : decode cL_law 346 = .ok (.iload_n 3, 1) := by decide +kernel
theorem dL_law_347 : decode cL_law 347 = .ok (.iconst 2, 1) := by decide +kernel
theorem dL_law_348 : decode cL_law 348 = .ok (.iadd, 1) := by decide +kernel
theorem dL_law_349 : decode cL_law 349 = .ok (.iaload, 1) := by decide +kernel
theorem dL_law_350 : decode cL_law 350 = .ok (.invokevirtual 35, 3) := by decide +kernel
theorem dL_law_353 : decode cL_law 353 = .ok (.aload_n 2, 1) := by decide +kernel
theorem dL_law_354 : decode cL_law 354 = .ok (.aload_n 0, 1) := by decide +kernel
theorem dL_law_355 : decode cL_law 355 = .ok (.iload_n 3, 1) := by decide +kernel
theorem dL_law_356 : decode cL_law 356 = .ok (.iconst 1, 1) := by decide +kernel
theorem dL_law_357 : decode cL_law 357 = .ok (.iadd, 1) := by decide +kernel
theorem dL_law_358 : decode cL_law 358 = .ok (.iaload, 1) := by decide +kernel
theorem dL_law_359 : decode cL_law 359 = .ok (.aload_n 0, 1) := by decide +kernel
theorem dL_law_360 : decode cL_law 360 = .ok (.iload_n 3, 1) := by decide +kernel
theorem dL_law_361 : decode cL_law 361 = .ok (.iconst 2, 1) := by decide +kernel
theorem dL_law_362 : decode cL_law 362 = .ok (.iadd, 1) := by decide +kernel
theorem dL_law_363 : decode cL_law 363 = .ok (.iaload, 1) := by decide +kernel
theorem dL_law_364 : decode cL_law 364 = .ok (.invokevirtual 38, 3) := by decide +kernel
theorem dL_law_367 : decode cL_law 367 = .ok (.if_icmp .eq 469, 3) := by decide +kernel
theorem dL_law_370 : decode cL_law 370 = .ok (.iconst 0, 1) := by decide +kernel
theorem dL_law_371 : decode cL_law 371 = .ok (.ireturn, 1) := by decide +kernel
theorem dL_law_372 : decode cL_law 372 = .ok (.aload_n 1, 1) := by decide +kernel
theorem dL_law_373 : decode cL_law 373 = .ok (.aload_n 0, 1) := by decide +kernel
theorem dL_law_374 : decode cL_law 374 = .ok (.iload_n 3, 1) := by decide +kernel
theorem dL_law_375 : decode cL_law 375 = .ok (.iconst 1, 1) := by decide +kernel
theorem dL_law_376 : decode cL_law 376 = .ok (.iadd, 1) := by decide +kernel
theorem dL_law_377 : decode cL_law 377 = .ok (.iaload, 1) := by decide +kernel
theorem dL_law_378 : decode cL_law 378 = .ok (.invokevirtual 39, 3) := by decide +kernel
theorem dL_law_381 : decode cL_law 381 = .ok (.aload_n 2, 1) := by decide +kernel
theorem dL_law_382 : decode cL_law 382 = .ok (.aload_n 0, 1) := by decide +kernel
theorem dL_law_383 : decode cL_law 383 = .ok (.iload_n 3, 1) := by decide +kernel
theorem dL_law_384 : decode cL_law 384 = .ok (.iconst 1, 1) := by decide +kernel
theorem dL_law_385 : decode cL_law 385 = .ok (.iadd, 1) := by decide +kernel
theorem dL_law_386 : decode cL_law 386 = .ok (.iaload, 1) := by decide +kernel
theorem dL_law_387 : decode cL_law 387 = .ok (.invokevirtual 43, 3) := by decide +kernel
theorem dL_law_390 : decode cL_law 390 = .ok (.if_icmp .eq 446, 3) := by decide +kernel
theorem dL_law_393 : decode cL_law 393 = .ok (.iconst 0, 1) := by decide +kernel
theorem dL_law_394 : decode cL_law 394 = .ok (.ireturn, 1) := by decide +kernel
theorem dL_law_395 : decode cL_law 395 = .ok (.aload_n 1, 1) := by decide +kernel
theorem dL_law_396 : decode cL_law 396 = .ok (.aload_n 0, 1) := by decide +kernel
theorem dL_law_397 : decode cL_law 397 = .ok (.iload_n 3, 1) := by decide +kernel
theorem dL_law_398 : decode cL_law 398 = .ok (.iconst 1, 1) := by decide +kernel
theorem dL_law_399 : decode cL_law 399 = .ok (.iadd, 1) := by decide +kernel
theorem dL_law_400 : decode cL_law 400 = .ok (.iaload, 1) := by decide +kernel
theorem dL_law_401 : decode cL_law 401 = .ok (.invokevirtual 44, 3) := by decide +kernel
theorem dL_law_404 : decode cL_law 404 = .ok (.aload_n 2, 1) := by decide +kernel
theorem dL_law_405 : decode cL_law 405 = .ok (.aload_n 0, 1) := by decide +kernel
theorem dL_law_406 : decode cL_law 406 = .ok (.iload_n 3, 1) := by decide +kernel
theorem dL_law_407 : decode cL_law 407 = .ok (.iconst 1, 1) := by decide +kernel
theorem dL_law_408 : decode cL_law 408 = .ok (.iadd, 1) := by decide +kernel
theorem dL_law_409 : decode cL_law 409 = .ok (.iaload, 1) := by decide +kernel
theorem dL_law_410 : decode cL_law 410 = .ok (.invokevirtual 47, 3) := by decide +kernel
theorem dL_law_413 : decode cL_law 413 = .ok (.if_icmp .eq 423, 3) := by decide +kernel
theorem dL_law_416 : decode cL_law 416 = .ok (.iconst 0, 1) := by decide +kernel
theorem dL_law_417 : decode cL_law 417 = .ok (.ireturn, 1) := by decide +kernel
theorem dL_law_418 : decode cL_law 418 = .ok (.aload_n 1, 1) := by decide +kernel
theorem dL_law_419 : decode cL_law 419 = .ok (.aload_n 0, 1) := by decide +kernel
theorem dL_law_420 : decode cL_law 420 = .ok (.iload_n 3, 1) := by decide +kernel
theorem dL_law_421 : decode cL_law 421 = .ok (.iconst 1, 1) := by decide +kernel
theorem dL_law_422 : decode cL_law 422 = .ok (.iadd, 1) := by decide +kernel
theorem dL_law_423 : decode cL_law 423 = .ok (.iaload, 1) := by decide +kernel
theorem dL_law_424 : decode cL_law 424 = .ok (.aload_n 0, 1) := by decide +kernel
theorem dL_law_425 : decode cL_law 425 = .ok (.iload_n 3, 1) := by decide +kernel
theorem dL_law_426 : decode cL_law 426 = .ok (.iconst 2, 1) := by decide +kernel
theorem dL_law_427 : decode cL_law 427 = .ok (.iadd, 1) := by decide +kernel
theorem dL_law_428 : decode cL_law 428 = .ok (.iaload, 1) := by decide +kernel
theorem dL_law_429 : decode cL_law 429 = .ok (.invokevirtual 48, 3) := by decide +kernel
theorem dL_law_432 : decode cL_law 432 = .ok (.aload_n 2, 1) := by decide +kernel
theorem dL_law_433 : decode cL_law 433 = .ok (.aload_n 0, 1) := by decide +kernel
theorem dL_law_434 : decode cL_law 434 = .ok (.iload_n 3, 1) := by decide +kernel
theorem dL_law_435 : decode cL_law 435 = .ok (.iconst 1, 1) := by decide +kernel
theorem dL_law_436 : decode cL_law 436 = .ok (.iadd, 1) := by decide +kernel
theorem dL_law_437 : decode cL_law 437 = .ok (.iaload, 1) := by decide +kernel
theorem dL_law_438 : decode cL_law 438 = .ok (.aload_n 0, 1) := by decide +kernel
theorem dL_law_439 : decode cL_law 439 = .ok (.iload_n 3, 1) := by decide +kernel
theorem dL_law_440 : decode cL_law 440 = .ok (.iconst 2, 1) := by decide +kernel
theorem dL_law_441 : decode cL_law 441 = .ok (.iadd, 1) := by decide +kernel
theorem dL_law_442 : decode cL_law 442 = .ok (.iaload, 1) := by decide +kernel
theorem dL_law_443 : decode cL_law 443 = .ok (.invokevirtual 51, 3) := by decide +kernel
theorem dL_law_446 : decode cL_law 446 = .ok (.if_icmp .eq 390, 3) := by decide +kernel
theorem dL_law_449 : decode cL_law 449 = .ok (.iconst 0, 1) := by decide +kernel
theorem dL_law_450 : decode cL_law 450 = .ok (.ireturn, 1) := by decide +kernel
theorem dL_law_451 : decode cL_law 451 = .ok (.aload_n 1, 1) := by decide +kernel
theorem dL_law_452 : decode cL_law 452 = .ok (.aload_n 0, 1) := by decide +kernel
theorem dL_law_453 : decode cL_law 453 = .ok (.iload_n 3, 1) := by decide +kernel
theorem dL_law_454 : decode cL_law 454 = .ok (.iconst 1, 1) := by decide +kernel
theorem dL_law_455 : decode cL_law 455 = .ok (.iadd, 1) := by decide +kernel
theorem dL_law_456 : decode cL_law 456 = .ok (.iaload, 1) := by decide +kernel
theorem dL_law_457 : decode cL_law 457 = .ok (.aload_n 0, 1) := by decide +kernel
theorem dL_law_458 : decode cL_law 458 = .ok (.iload_n 3, 1) := by decide +kernel
theorem dL_law_459 : decode cL_law 459 = .ok (.iconst 2, 1) := by decide +kernel
theorem dL_law_460 : decode cL_law 460 = .ok (.iadd, 1) := by decide +kernel
theorem dL_law_461 : decode cL_law 461 = .ok (.iaload, 1) := by decide +kernel
theorem dL_law_462 : decode cL_law 462 = .ok (.aload_n 0, 1) := by decide +kernel
theorem dL_law_463 : decode cL_law 463 = .ok (.iload_n 3, 1) := by decide +kernel
theorem dL_law_464 : decode cL_law 464 = .ok (.iconst 3, 1) := by decide +kernel
theorem dL_law_465 : decode cL_law 465 = .ok (.iadd, 1) := by decide +kernel
theorem dL_law_466 : decode cL_law 466 = .ok (.iaload, 1) := by decide +kernel
theorem dL_law_467 : decode cL_law 467 = .ok (.invokevirtual 52, 3) := by decide +kernel
theorem dL_law_470 : decode cL_law 470 = .ok (.aload_n 2, 1) := by decide +kernel
theorem dL_law_471 : decode cL_law 471 = .ok (.aload_n 0, 1) := by decide +kernel
theorem dL_law_472 : decode cL_law 472 = .ok (.iload_n 3, 1) := by decide +kernel
theorem dL_law_473 : decode cL_law 473 = .ok (.iconst 1, 1) := by decide +kernel
theorem dL_law_474 : decode cL_law 474 = .ok (.iadd, 1) := by decide +kernel
theorem dL_law_475 : decode cL_law 475 = .ok (.iaload, 1) := by decide +kernel
theorem dL_law_476 : decode cL_law 476 = .ok (.aload_n 0, 1) := by decide +kernel
theorem dL_law_477 : decode cL_law 477 = .ok (.iload_n 3, 1) := by decide +kernel
theorem dL_law_478 : decode cL_law 478 = .ok (.iconst 2, 1) := by decide +kernel
theorem dL_law_479 : decode cL_law 479 = .ok (.iadd, 1) := by decide +kernel
theorem dL_law_480 : decode cL_law 480 = .ok (.iaload, 1) := by decide +kernel
theorem dL_law_481 : decode cL_law 481 = .ok (.aload_n 0, 1) := by decide +kernel
theorem dL_law_482 : decode cL_law 482 = .ok (.iload_n 3, 1) := by decide +kernel
theorem dL_law_483 : decode cL_law 483 = .ok (.iconst 3, 1) := by decide +kernel
theorem dL_law_484 : decode cL_law 484 = .ok (.iadd, 1) := by decide +kernel
theorem dL_law_485 : decode cL_law 485 = .ok (.iaload, 1) := by decide +kernel
theorem dL_law_486 : decode cL_law 486 = .ok (.invokevirtual 55, 3) := by decide +kernel
theorem dL_law_489 : decode cL_law 489 = .ok (.if_icmp .eq 347, 3) := by decide +kernel
theorem dL_law_492 : decode cL_law 492 = .ok (.iconst 0, 1) := by decide +kernel
theorem dL_law_493 : decode cL_law 493 = .ok (.ireturn, 1) := by decide +kernel
theorem dL_law_494 : decode cL_law 494 = .ok (.aload_n 1, 1) := by decide +kernel
theorem dL_law_495 : decode cL_law 495 = .ok (.aload_n 0, 1) := by decide +kernel
theorem dL_law_496 : decode cL_law 496 = .ok (.iload_n 3, 1) := by decide +kernel
theorem dL_law_497 : decode cL_law 497 = .ok (.iconst 1, 1) := by decide +kernel
theorem dL_law_498 : decode cL_law 498 = .ok (.iadd, 1) := by decide +kernel
theorem dL_law_499 : decode cL_law 499 = .ok (.iaload, 1) := by decide +kernel
theorem dL_law_500 : decode cL_law 500 = .ok (.aload_n 0, 1) := by decide +kernel
theorem dL_law_501 : decode cL_law 501 = .ok (.iload_n 3, 1) := by decide +kernel
theorem dL_law_502 : decode cL_law 502 = .ok (.iconst 2, 1) := by decide +kernel
theorem dL_law_503 : decode cL_law 503 = .ok (.iadd, 1) := by decide +kernel
theorem dL_law_504 : decode cL_law 504 = .ok (.iaload, 1) := by decide +kernel
theorem dL_law_505 : decode cL_law 505 = .ok (.aload_n 0, 1) := by decide +kernel
theorem dL_law_506 : decode cL_law 506 = .ok (.iload_n 3, 1) := by decide +kernel
theorem dL_law_507 : decode cL_law 507 = .ok (.iconst 3, 1) := by decide +kernel
theorem dL_law_508 : decode cL_law 508 = .ok (.iadd, 1) := by decide +kernel
theorem dL_law_509 : decode cL_law 509 = .ok (.iaload, 1) := by decide +kernel
theorem dL_law_510 : decode cL_law 510 = .ok (.invokevirtual 56, 3) := by decide +kernel
theorem dL_law_513 : decode cL_law 513 = .ok (.aload_n 2, 1) := by decide +kernel
theorem dL_law_514 : decode cL_law 514 = .ok (.aload_n 0, 1) := by decide +kernel
theorem dL_law_515 : decode cL_law 515 = .ok (.iload_n 3, 1) := by decide +kernel
theorem dL_law_516 : decode cL_law 516 = .ok (.iconst 1, 1) := by decide +kernel
theorem dL_law_517 : decode cL_law 517 = .ok (.iadd, 1) := by decide +kernel
theorem dL_law_518 : decode cL_law 518 = .ok (.iaload, 1) := by decide +kernel
theorem dL_law_519 : decode cL_law 519 = .ok (.aload_n 0, 1) := by decide +kernel
theorem dL_law_520 : decode cL_law 520 = .ok (.iload_n 3, 1) := by decide +kernel
theorem dL_law_521 : decode cL_law 521 = .ok (.iconst 2, 1) := by decide +kernel
theorem dL_law_522 : decode cL_law 522 = .ok (.iadd, 1) := by decide +kernel
theorem dL_law_523 : decode cL_law 523 = .ok (.iaload, 1) := by decide +kernel
theorem dL_law_524 : decode cL_law 524 = .ok (.aload_n 0, 1) := by decide +kernel
theorem dL_law_525 : decode cL_law 525 = .ok (.iload_n 3, 1) := by decide +kernel
theorem dL_law_526 : decode cL_law 526 = .ok (.iconst 3, 1) := by decide +kernel
theorem dL_law_527 : decode cL_law 527 = .ok (.iadd, 1) := by decide +kernel
theorem dL_law_528 : decode cL_law 528 = .ok (.iaload, 1) := by decide +kernel
theorem dL_law_529 : decode cL_law 529 = .ok (.invokevirtual 59, 3) := by decide +kernel
theorem dL_law_532 : decode cL_law 532 = .ok (.if_icmp .eq 304, 3) := by decide +kernel
theorem dL_law_535 : decode cL_law 535 = .ok (.iconst 0, 1) := by decide +kernel
theorem dL_law_536 : decode cL_law 536 = .ok (.ireturn, 1) := by decide +kernel
theorem dL_law_537 : decode cL_law 537 = .ok (.aload_n 1, 1) := by decide +kernel
theorem dL_law_538 : decode cL_law 538 = .ok (.aload_n 0, 1) := by decide +kernel
theorem dL_law_539 : decode cL_law 539 = .ok (.iload_n 3, 1) := by decide +kernel
theorem dL_law_540 : decode cL_law 540 = .ok (.iconst 1, 1) := by decide +kernel
theorem dL_law_541 : decode cL_law 541 = .ok (.iadd, 1) := by decide +kernel
theorem dL_law_542 : decode cL_law 542 = .ok (.iaload, 1) := by decide +kernel
theorem dL_law_543 : decode cL_law 543 = .ok (.aload_n 0, 1) := by decide +kernel
theorem dL_law_544 : decode cL_law 544 = .ok (.iload_n 3, 1) := by decide +kernel
theorem dL_law_545 : decode cL_law 545 = .ok (.iconst 2, 1) := by decide +kernel
theorem dL_law_546 : decode cL_law 546 = .ok (.iadd, 1) := by decide +kernel
theorem dL_law_547 : decode cL_law 547 = .ok (.iaload, 1) := by decide +kernel
theorem dL_law_548 : decode cL_law 548 = .ok (.aload_n 0, 1) := by decide +kernel
theorem dL_law_549 : decode cL_law 549 = .ok (.iload_n 3, 1) := by decide +kernel
theorem dL_law_550 : decode cL_law 550 = .ok (.iconst 3, 1) := by decide +kernel
theorem dL_law_551 : decode cL_law 551 = .ok (.iadd, 1) := by decide +kernel
theorem dL_law_552 : decode cL_law 552 = .ok (.iaload, 1) := by decide +kernel
theorem dL_law_553 : decode cL_law 553 = .ok (.aload_n 0, 1) := by decide +kernel
theorem dL_law_554 : decode cL_law 554 = .ok (.iload_n 3, 1) := by decide +kernel
theorem dL_law_555 : decode cL_law 555 = .ok (.iconst 4, 1) := by decide +kernel
theorem dL_law_556 : decode cL_law 556 = .ok (.iadd, 1) := by decide +kernel
theorem dL_law_557 : decode cL_law 557 = .ok (.iaload, 1) := by decide +kernel
theorem dL_law_558 : decode cL_law 558 = .ok (.invokevirtual 60, 3) := by decide +kernel
theorem dL_law_561 : decode cL_law 561 = .ok (.aload_n 2, 1) := by decide +kernel
theorem dL_law_562 : decode cL_law 562 = .ok (.aload_n 0, 1) := by decide +kernel
theorem dL_law_563 : decode cL_law 563 = .ok (.iload_n 3, 1) := by decide +kernel
theorem dL_law_564 : decode cL_law 564 = .ok (.iconst 1, 1) := by decide +kernel
theorem dL_law_565 : decode cL_law 565 = .ok (.iadd, 1) := by decide +kernel
theorem dL_law_566 : decode cL_law 566 = .ok (.iaload, 1) := by decide +kernel
theorem dL_law_567 : decode cL_law 567 = .ok (.aload_n 0, 1) := by decide +kernel
theorem dL_law_568 : decode cL_law 568 = .ok (.iload_n 3, 1) := by decide +kernel
theorem dL_law_569 : decode cL_law 569 = .ok (.iconst 2, 1) := by decide +kernel
theorem dL_law_570 : decode cL_law 570 = .ok (.iadd, 1) := by decide +kernel
theorem dL_law_571 : decode cL_law 571 = .ok (.iaload, 1) := by decide +kernel
theorem dL_law_572 : decode cL_law 572 = .ok (.aload_n 0, 1) := by decide +kernel
theorem dL_law_573 : decode cL_law 573 = .ok (.iload_n 3, 1) := by decide +kernel
theorem dL_law_574 : decode cL_law 574 = .ok (.iconst 3, 1) := by decide +kernel
theorem dL_law_575 : decode cL_law 575 = .ok (.iadd, 1) := by decide +kernel
theorem dL_law_576 : decode cL_law 576 = .ok (.iaload, 1) := by decide +kernel
theorem dL_law_577 : decode cL_law 577 = .ok (.aload_n 0, 1) := by decide +kernel
theorem dL_law_578 : decode cL_law 578 = .ok (.iload_n 3, 1) := by decide +kernel
theorem dL_law_579 : decode cL_law 579 = .ok (.iconst 4, 1) := by decide +kernel
theorem dL_law_580 : decode cL_law 580 = .ok (.iadd, 1) := by decide +kernel
theorem dL_law_581 : decode cL_law 581 = .ok (.iaload, 1) := by decide +kernel
theorem dL_law_582 : decode cL_law 582 = .ok (.invokevirtual 64, 3) := by decide +kernel
theorem dL_law_585 : decode cL_law 585 = .ok (.if_icmp .eq 251, 3) := by decide +kernel
theorem dL_law_588 : decode cL_law 588 = .ok (.iconst 0, 1) := by decide +kernel
theorem dL_law_589 : decode cL_law 589 = .ok (.ireturn, 1) := by decide +kernel
theorem dL_law_590 : decode cL_law 590 = .ok (.aload_n 1, 1) := by decide +kernel
theorem dL_law_591 : decode cL_law 591 = .ok (.aload_n 0, 1) := by decide +kernel
theorem dL_law_592 : decode cL_law 592 = .ok (.iload_n 3, 1) := by decide +kernel
theorem dL_law_593 : decode cL_law 593 = .ok (.iconst 1, 1) := by decide +kernel
theorem dL_law_594 : decode cL_law 594 = .ok (.iadd, 1) := by decide +kernel
theorem dL_law_595 : decode cL_law 595 = .ok (.iaload, 1) := by decide +kernel
theorem dL_law_596 : decode cL_law 596 = .ok (.invokevirtual 65, 3) := by decide +kernel
theorem dL_law_599 : decode cL_law 599 = .ok (.aload_n 2, 1) := by decide +kernel
theorem dL_law_600 : decode cL_law 600 = .ok (.aload_n 0, 1) := by decide +kernel
theorem dL_law_601 : decode cL_law 601 = .ok (.iload_n 3, 1) := by decide +kernel
theorem dL_law_602 : decode cL_law 602 = .ok (.iconst 1, 1) := by decide +kernel
theorem dL_law_603 : decode cL_law 603 = .ok (.iadd, 1) := by decide +kernel
theorem dL_law_604 : decode cL_law 604 = .ok (.iaload, 1) := by decide +kernel
theorem dL_law_605 : decode cL_law 605 = .ok (.invokevirtual 68, 3) := by decide +kernel
theorem dL_law_608 : decode cL_law 608 = .ok (.if_icmp .eq 228, 3) := by decide +kernel
theorem dL_law_611 : decode cL_law 611 = .ok (.iconst 0, 1) := by decide +kernel
theorem dL_law_612 : decode cL_law 612 = .ok (.ireturn, 1) := by decide +kernel
theorem dL_law_613 : decode cL_law 613 = .ok (.aload_n 1, 1) := by decide +kernel
theorem dL_law_614 : decode cL_law 614 = .ok (.aload_n 0, 1) := by decide +kernel
theorem dL_law_615 : decode cL_law 615 = .ok (.iload_n 3, 1) := by decide +kernel
theorem dL_law_616 : decode cL_law 616 = .ok (.iconst 1, 1) := by decide +kernel
theorem dL_law_617 : decode cL_law 617 = .ok (.iadd, 1) := by decide +kernel
theorem dL_law_618 : decode cL_law 618 = .ok (.iaload, 1) := by decide +kernel
theorem dL_law_619 : decode cL_law 619 = .ok (.aload_n 0, 1) := by decide +kernel
theorem dL_law_620 : decode cL_law 620 = .ok (.iload_n 3, 1) := by decide +kernel
theorem dL_law_621 : decode cL_law 621 = .ok (.iconst 2, 1) := by decide +kernel
theorem dL_law_622 : decode cL_law 622 = .ok (.iadd, 1) := by decide +kernel
theorem dL_law_623 : decode cL_law 623 = .ok (.iaload, 1) := by decide +kernel
theorem dL_law_624 : decode cL_law 624 = .ok (.aload_n 0, 1) := by decide +kernel
theorem dL_law_625 : decode cL_law 625 = .ok (.iload_n 3, 1) := by decide +kernel
theorem dL_law_626 : decode cL_law 626 = .ok (.iconst 3, 1) := by decide +kernel
theorem dL_law_627 : decode cL_law 627 = .ok (.iadd, 1) := by decide +kernel
theorem dL_law_628 : decode cL_law 628 = .ok (.iaload, 1) := by decide +kernel
theorem dL_law_629 : decode cL_law 629 = .ok (.invokevirtual 69, 3) := by decide +kernel
theorem dL_law_632 : decode cL_law 632 = .ok (.aload_n 2, 1) := by decide +kernel
theorem dL_law_633 : decode cL_law 633 = .ok (.aload_n 0, 1) := by decide +kernel
theorem dL_law_634 : decode cL_law 634 = .ok (.iload_n 3, 1) := by decide +kernel
theorem dL_law_635 : decode cL_law 635 = .ok (.iconst 1, 1) := by decide +kernel
theorem dL_law_636 : decode cL_law 636 = .ok (.iadd, 1) := by decide +kernel
theorem dL_law_637 : decode cL_law 637 = .ok (.iaload, 1) := by decide +kernel
theorem dL_law_638 : decode cL_law 638 = .ok (.aload_n 0, 1) := by decide +kernel
theorem dL_law_639 : decode cL_law 639 = .ok (.iload_n 3, 1) := by decide +kernel
theorem dL_law_640 : decode cL_law 640 = .ok (.iconst 2, 1) := by decide +kernel
theorem dL_law_641 : decode cL_law 641 = .ok (.iadd, 1) := by decide +kernel
theorem dL_law_642 : decode cL_law 642 = .ok (.iaload, 1) := by decide +kernel
theorem dL_law_643 : decode cL_law 643 = .ok (.aload_n 0, 1) := by decide +kernel
theorem dL_law_644 : decode cL_law 644 = .ok (.iload_n 3, 1) := by decide +kernel
theorem dL_law_645 : decode cL_law 645 = .ok (.iconst 3, 1) := by decide +kernel
theorem dL_law_646 : decode cL_law 646 = .ok (.iadd, 1) := by decide +kernel
theorem dL_law_647 : decode cL_law 647 = .ok (.iaload, 1) := by decide +kernel
theorem dL_law_648 : decode cL_law 648 = .ok (.invokevirtual 72, 3) := by decide +kernel
theorem dL_law_651 : decode cL_law 651 = .ok (.if_icmp .eq 185, 3) := by decide +kernel
theorem dL_law_654 : decode cL_law 654 = .ok (.iconst 0, 1) := by decide +kernel
theorem dL_law_655 : decode cL_law 655 = .ok (.ireturn, 1) := by decide +kernel
theorem dL_law_656 : decode cL_law 656 = .ok (.aload_n 1, 1) := by decide +kernel
theorem dL_law_657 : decode cL_law 657 = .ok (.aload_n 0, 1) := by decide +kernel
theorem dL_law_658 : decode cL_law 658 = .ok (.iload_n 3, 1) := by decide +kernel
theorem dL_law_659 : decode cL_law 659 = .ok (.iconst 1, 1) := by decide +kernel
theorem dL_law_660 : decode cL_law 660 = .ok (.iadd, 1) := by decide +kernel
theorem dL_law_661 : decode cL_law 661 = .ok (.iaload, 1) := by decide +kernel
theorem dL_law_662 : decode cL_law 662 = .ok (.aload_n 0, 1) := by decide +kernel
theorem dL_law_663 : decode cL_law 663 = .ok (.iload_n 3, 1) := by decide +kernel
theorem dL_law_664 : decode cL_law 664 = .ok (.iconst 2, 1) := by decide +kernel
theorem dL_law_665 : decode cL_law 665 = .ok (.iadd, 1) := by decide +kernel
theorem dL_law_666 : decode cL_law 666 = .ok (.iaload, 1) := by decide +kernel
theorem dL_law_667 : decode cL_law 667 = .ok (.invokevirtual 73, 3) := by decide +kernel
theorem dL_law_670 : decode cL_law 670 = .ok (.aload_n 2, 1) := by decide +kernel
theorem dL_law_671 : decode cL_law 671 = .ok (.aload_n 0, 1) := by decide +kernel
theorem dL_law_672 : decode cL_law 672 = .ok (.iload_n 3, 1) := by decide +kernel
theorem dL_law_673 : decode cL_law 673 = .ok (.iconst 1, 1) := by decide +kernel
theorem dL_law_674 : decode cL_law 674 = .ok (.iadd, 1) := by decide +kernel
theorem dL_law_675 : decode cL_law 675 = .ok (.iaload, 1) := by decide +kernel
theorem dL_law_676 : decode cL_law 676 = .ok (.aload_n 0, 1) := by decide +kernel
theorem dL_law_677 : decode cL_law 677 = .ok (.iload_n 3, 1) := by decide +kernel
theorem dL_law_678 : decode cL_law 678 = .ok (.iconst 2, 1) := by decide +kernel
theorem dL_law_679 : decode cL_law 679 = .ok (.iadd, 1) := by decide +kernel
theorem dL_law_680 : decode cL_law 680 = .ok (.iaload, 1) := by decide +kernel
theorem dL_law_681 : decode cL_law 681 = .ok (.invokevirtual 76, 3) := by decide +kernel
theorem dL_law_684 : decode cL_law 684 = .ok (.if_icmp .eq 152, 3) := by decide +kernel
theorem dL_law_687 : decode cL_law 687 = .ok (.iconst 0, 1) := by decide +kernel
theorem dL_law_688 : decode cL_law 688 = .ok (.ireturn, 1) := by decide +kernel
theorem dL_law_689 : decode cL_law 689 = .ok (.aload_n 1, 1) := by decide +kernel
theorem dL_law_690 : decode cL_law 690 = .ok (.invokevirtual 77, 3) := by decide +kernel
theorem dL_law_693 : decode cL_law 693 = .ok (.aload_n 2, 1) := by decide +kernel
theorem dL_law_694 : decode cL_law 694 = .ok (.invokevirtual 81, 3) := by decide +kernel
theorem dL_law_697 : decode cL_law 697 = .ok (.if_icmp .eq 139, 3) := by decide +kernel
theorem dL_law_700 : decode cL_law 700 = .ok (.iconst 0, 1) := by decide +kernel
theorem dL_law_701 : decode cL_law 701 = .ok (.ireturn, 1) := by decide +kernel
theorem dL_law_702 : decode cL_law 702 = .ok (.aload_n 1, 1) := by decide +kernel
theorem dL_law_703 : decode cL_law 703 = .ok (.aload_n 0, 1) := by decide +kernel
theorem dL_law_704 : decode cL_law 704 = .ok (.iload_n 3, 1) := by decide +kernel
theorem dL_law_705 : decode cL_law 705 = .ok (.iconst 1, 1) := by decide +kernel
theorem dL_law_706 : decode cL_law 706 = .ok (.iadd, 1) := by decide +kernel
theorem dL_law_707 : decode cL_law 707 = .ok (.iaload, 1) := by decide +kernel
theorem dL_law_708 : decode cL_law 708 = .ok (.aload_n 0, 1) := by decide +kernel
theorem dL_law_709 : decode cL_law 709 = .ok (.iload_n 3, 1) := by decide +kernel
theorem dL_law_710 : decode cL_law 710 = .ok (.iconst 2, 1) := by decide +kernel
theorem dL_law_711 : decode cL_law 711 = .ok (.iadd, 1) := by decide +kernel
theorem dL_law_712 : decode cL_law 712 = .ok (.iaload, 1) := by decide +kernel
theorem dL_law_713 : decode cL_law 713 = .ok (.invokevirtual 82, 3) := by decide +kernel
theorem dL_law_716 : decode cL_law 716 = .ok (.aload_n 2, 1) := by decide +kernel
theorem dL_law_717 : decode cL_law 717 = .ok (.aload_n 0, 1) := by decide +kernel
theorem dL_law_718 : decode cL_law 718 = .ok (.iload_n 3, 1) := by decide +kernel
theorem dL_law_719 : decode cL_law 719 = .ok (.iconst 1, 1) := by decide +kernel
theorem dL_law_720 : decode cL_law 720 = .ok (.iadd, 1) := by decide +kernel
theorem dL_law_721 : decode cL_law 721 = .ok (.iaload, 1) := by decide +kernel
theorem dL_law_722 : decode cL_law 722 = .ok (.aload_n 0, 1) := by decide +kernel
theorem dL_law_723 : decode cL_law 723 = .ok (.iload_n 3, 1) := by decide +kernel
theorem dL_law_724 : decode cL_law 724 = .ok (.iconst 2, 1) := by decide +kernel
theorem dL_law_725 : decode cL_law 725 = .ok (.iadd, 1) := by decide +kernel
theorem dL_law_726 : decode cL_law 726 = .ok (.iaload, 1) := by decide +kernel
theorem dL_law_727 : decode cL_law 727 = .ok (.invokevirtual 85, 3) := by decide +kernel
theorem dL_law_730 : decode cL_law 730 = .ok (.if_icmp .eq 106, 3) := by decide +kernel
theorem dL_law_733 : decode cL_law 733 = .ok (.iconst 0, 1) := by decide +kernel
theorem dL_law_734 : decode cL_law 734 = .ok (.ireturn, 1) := by decide +kernel
theorem dL_law_735 : decode cL_law 735 = .ok (.aload_n 1, 1) := by decide +kernel
theorem dL_law_736 : decode cL_law 736 = .ok (.aload_n 0, 1) := by decide +kernel
theorem dL_law_737 : decode cL_law 737 = .ok (.iload_n 3, 1) := by decide +kernel
theorem dL_law_738 : decode cL_law 738 = .ok (.iconst 1, 1) := by decide +kernel
theorem dL_law_739 : decode cL_law 739 = .ok (.iadd, 1) := by decide +kernel
theorem dL_law_740 : decode cL_law 740 = .ok (.iaload, 1) := by decide +kernel
theorem dL_law_741 : decode cL_law 741 = .ok (.invokevirtual 86, 3) := by decide +kernel
theorem dL_law_744 : decode cL_law 744 = .ok (.aload_n 2, 1) := by decide +kernel
theorem dL_law_745 : decode cL_law 745 = .ok (.aload_n 0, 1) := by decide +kernel
theorem dL_law_746 : decode cL_law 746 = .ok (.iload_n 3, 1) := by decide +kernel
theorem dL_law_747 : decode cL_law 747 = .ok (.iconst 1, 1) := by decide +kernel
theorem dL_law_748 : decode cL_law 748 = .ok (.iadd, 1) := by decide +kernel
theorem dL_law_749 : decode cL_law 749 = .ok (.iaload, 1) := by decide +kernel
theorem dL_law_750 : decode cL_law 750 = .ok (.invokevirtual 89, 3) := by decide +kernel
theorem dL_law_753 : decode cL_law 753 = .ok (.if_icmp .eq 83, 3) := by decide +kernel
theorem dL_law_756 : decode cL_law 756 = .ok (.iconst 0, 1) := by decide +kernel
theorem dL_law_757 : decode cL_law 757 = .ok (.ireturn, 1) := by decide +kernel
theorem dL_law_758 : decode cL_law 758 = .ok (.aload_n 1, 1) := by decide +kernel
theorem dL_law_759 : decode cL_law 759 = .ok (.invokevirtual 90, 3) := by decide +kernel
theorem dL_law_762 : decode cL_law 762 = .ok (.aload_n 2, 1) := by decide +kernel
theorem dL_law_763 : decode cL_law 763 = .ok (.invokevirtual 93, 3) := by decide +kernel
theorem dL_law_766 : decode cL_law 766 = .ok (.if_icmp .eq 70, 3) := by decide +kernel
theorem dL_law_769 : decode cL_law 769 = .ok (.iconst 0, 1) := by decide +kernel
theorem dL_law_770 : decode cL_law 770 = .ok (.ireturn, 1) := by decide +kernel
theorem dL_law_771 : decode cL_law 771 = .ok (.aload_n 1, 1) := by decide +kernel
theorem dL_law_772 : decode cL_law 772 = .ok (.invokevirtual 94, 3) := by decide +kernel
theorem dL_law_775 : decode cL_law 775 = .ok (.aload_n 2, 1) := by decide +kernel
theorem dL_law_776 : decode cL_law 776 = .ok (.invokevirtual 97, 3) := by decide +kernel
theorem dL_law_779 : decode cL_law 779 = .ok (.if_icmp .eq 57, 3) := by decide +kernel
theorem dL_law_782 : decode cL_law 782 = .ok (.iconst 0, 1) := by decide +kernel
theorem dL_law_783 : decode cL_law 783 = .ok (.ireturn, 1) := by decide +kernel
theorem dL_law_784 : decode cL_law 784 = .ok (.aload_n 1, 1) := by decide +kernel
theorem dL_law_785 : decode cL_law 785 = .ok (.invokevirtual 98, 3) := by decide +kernel
theorem dL_law_788 : decode cL_law 788 = .ok (.aload_n 2, 1) := by decide +kernel
theorem dL_law_789 : decode cL_law 789 = .ok (.invokevirtual 101, 3) := by decide +kernel
theorem dL_law_792 : decode cL_law 792 = .ok (.if_icmp .eq 44, 3) := by decide +kernel
theorem dL_law_795 : decode cL_law 795 = .ok (.iconst 0, 1) := by decide +kernel
theorem dL_law_796 : decode cL_law 796 = .ok (.ireturn, 1) := by decide +kernel
theorem dL_law_797 : decode cL_law 797 = .ok (.aload_n 1, 1) := by decide +kernel
theorem dL_law_798 : decode cL_law 798 = .ok (.invokevirtual 102, 3) := by decide +kernel
theorem dL_law_801 : decode cL_law 801 = .ok (.aload_n 2, 1) := by decide +kernel
theorem dL_law_802 : decode cL_law 802 = .ok (.invokevirtual 105, 3) := by decide +kernel
theorem dL_law_805 : decode cL_law 805 = .ok (.if_icmp .eq 31, 3) := by decide +kernel
theorem dL_law_808 : decode cL_law 808 = .ok (.iconst 0, 1) := by decide +kernel
theorem dL_law_809 : decode cL_law 809 = .ok (.ireturn, 1) := by decide +kernel
theorem dL_law_810 : decode cL_law 810 = .ok (.aload_n 1, 1) := by decide +kernel
theorem dL_law_811 : decode cL_law 811 = .ok (.invokevirtual 106, 3) := by decide +kernel
theorem dL_law_814 : decode cL_law 814 = .ok (.aload_n 2, 1) := by decide +kernel
theorem dL_law_815 : decode cL_law 815 = .ok (.invokevirtual 109, 3) := by decide +kernel
theorem dL_law_818 : decode cL_law 818 = .ok (.if_icmp .eq 18, 3) := by decide +kernel
theorem dL_law_821 : decode cL_law 821 = .ok (.iconst 0, 1) := by decide +kernel
theorem dL_law_822 : decode cL_law 822 = .ok (.ireturn, 1) := by decide +kernel
theorem dL_law_823 : decode cL_law 823 = .ok (.aload_n 1, 1) := by decide +kernel
theorem dL_law_824 : decode cL_law 824 = .ok (.invokevirtual 110, 3) := by decide +kernel
theorem dL_law_827 : decode cL_law 827 = .ok (.aload_n 2, 1) := by decide +kernel
theorem dL_law_828 : decode cL_law 828 = .ok (.invokevirtual 113, 3) := by decide +kernel
theorem dL_law_831 : decode cL_law 831 = .ok (.if_icmp .eq 5, 3) := by decide +kernel
theorem dL_law_834 : decode cL_law 834 = .ok (.iconst 0, 1) := by decide +kernel
theorem dL_law_835 : decode cL_law 835 = .ok (.ireturn, 1) := by decide +kernel
theorem dL_law_836 : decode cL_law 836 = .ok (.iinc 3 5, 3) := by decide +kernel
theorem dL_law_839 : decode cL_law 839 = .ok (.goto (-821), 3) := by decide +kernel
theorem dL_law_842 : decode cL_law 842 = .ok (.iconst 1, 1) := by decide +kernel
theorem dL_law_843 : decode cL_law 843 = .ok (.ireturn, 1) := by decide +kernel
abbrev vwCl : List vw_C := [(RX0, TX0, 1), (RX1, TX1, 3), (RX2, TX2, 2), (RX3, TX3, 10), (RX4, TX4, 3), (RX5, TX5, 6), (RX6, TX6, 12)]
/-- the objects of RoadPaint$Driver, kind 0: what each holds, by its address -/
structure wK_O_Driver where
  f_changes : Nat → Option Nat
/-- the objects of RoadPaint$History, kind 1: what each holds, by its address -/
structure wK_O_History where
  f_states : Nat → Option Nat
  f_oldest : Nat → Int32
  f_count : Nat → Int32
/-- the objects of RoadPaint$Orders, kind 2: what each holds, by its address -/
structure wK_O_Orders where
  f_codes : Nat → Option Nat
  f_length : Nat → Int32
/-- the objects of RoadPaint$Road, kind 3: what each holds, by its address -/
structure wK_O_Road where
  f_arrows : Nat → Option Nat
  f_words : Nat → Option Nat
  f_dashes : Nat → Option Nat
  f_traffics : Nat → Option Nat
  f_settings : Nat → Option Nat
  f_cans : Nat → Int32
  f_days : Nat → Int32
  f_nights : Nat → Int32
  f_repainted : Nat → Int32
  f_gone : Nat → Int32
/-- the objects of RoadPaint$Signs, kind 4: what each holds, by its address -/
structure wK_O_Signs where
  f_rows : Nat → Int32
  f_kinds : Nat → Option Nat
  f_strengths : Nat → Option Nat
/-- the objects of RoadPaint, kind 5: what each holds, by its address -/
structure wK_O_RoadPaint where
  f_road : Nat → Option Nat
  f_saved : Nat → Option Nat
  f_hasSaved : Nat → Int32
  f_history : Nat → Option Nat
  f_orders : Nat → Option Nat
  f_driver : Nat → Option Nat
/-- the objects of RoadPaintModel, kind 6: what each holds, by its address -/
structure wK_O_RoadPaintModel where
  f_z : Nat → Option Nat
  f_past : Nat → Option Nat
  f_pastMany : Nat → Int32
  f_kept : Nat → Option Nat
  f_isKept : Nat → Int32
  f_buffer : Nat → Option Nat
  f_typed : Nat → Int32
  f_costs : Nat → Option Nat
  f_told : Nat → Option Nat
  f_toldMany : Nat → Int32
  f_spot : Nat → Int32
  f_wrong : Nat → Int32
/-- the arrays of kind 7: what each holds, by its address -/
structure wK_R_C where
  len : Nat → Nat
  row : Nat → Nat → Int32
/-- the arrays of kind 8: what each holds, by its address -/
structure wK_R_I where
  len : Nat → Nat
  row : Nat → Nat → Int32
/-- the arrays of kind 9: what each holds, by its address -/
structure wK_R_Road where
  len : Nat → Nat
  row : Nat → Nat → Option Nat
/-- the pool: the addresses, the kind of each, and the kinds -/
structure wPS where
  L : List Nat
  K : Nat → Nat
  O_Driver : wK_O_Driver
  O_History : wK_O_History
  O_Orders : wK_O_Orders
  O_Road : wK_O_Road
  O_Signs : wK_O_Signs
  O_RoadPaint : wK_O_RoadPaint
  O_RoadPaintModel : wK_O_RoadPaintModel
  R_C : wK_R_C
  R_I : wK_R_I
  R_Road : wK_R_Road
/-- the empty pool -/
abbrev wP0 : wPS := { L := [], K := (fun _ => 0), O_Driver := { f_changes := (fun _ => none) }, O_History := { f_states := (fun _ => none), f_oldest := (fun _ => 0), f_count := (fun _ => 0) }, O_Orders := { f_codes := (fun _ => none), f_length := (fun _ => 0) }, O_Road := { f_arrows := (fun _ => none), f_words := (fun _ => none), f_dashes := (fun _ => none), f_traffics := (fun _ => none), f_settings := (fun _ => none), f_cans := (fun _ => 0), f_days := (fun _ => 0), f_nights := (fun _ => 0), f_repainted := (fun _ => 0), f_gone := (fun _ => 0) }, O_Signs := { f_rows := (fun _ => 0), f_kinds := (fun _ => none), f_strengths := (fun _ => none) }, O_RoadPaint := { f_road := (fun _ => none), f_saved := (fun _ => none), f_hasSaved := (fun _ => 0), f_history := (fun _ => none), f_orders := (fun _ => none), f_driver := (fun _ => none) }, O_RoadPaintModel := { f_z := (fun _ => none), f_past := (fun _ => none), f_pastMany := (fun _ => 0), f_kept := (fun _ => none), f_isKept := (fun _ => 0), f_buffer := (fun _ => none), f_typed := (fun _ => 0), f_costs := (fun _ => none), f_told := (fun _ => none), f_toldMany := (fun _ => 0), f_spot := (fun _ => 0), f_wrong := (fun _ => 0) }, R_C := { len := (fun _ => 0), row := (fun _ _ => 0) }, R_I := { len := (fun _ => 0), row := (fun _ _ => 0) }, R_Road := { len := (fun _ => 0), row := (fun _ _ => none) } }
/-- the pool's rows by their kinds -/
abbrev wPF (cyC : ClassId) (cyI : ClassId) (cyO6ae09 : ClassId) (S : wPS) : Nat → va_E := fun a => if S.K a = 0 then .inr (0, [va_rf (S.O_Driver.f_changes a)]) else if S.K a = 1 then .inr (1, [va_rf (S.O_History.f_states a), .int (S.O_History.f_oldest a), .int (S.O_History.f_count a)]) else if S.K a = 2 then .inr (2, [va_rf (S.O_Orders.f_codes a), .int (S.O_Orders.f_length a)]) else if S.K a = 3 then .inr (3, [va_rf (S.O_Road.f_arrows a), va_rf (S.O_Road.f_words a), va_rf (S.O_Road.f_dashes a), va_rf (S.O_Road.f_traffics a), va_rf (S.O_Road.f_settings a), .int (S.O_Road.f_cans a), .int (S.O_Road.f_days a), .int (S.O_Road.f_nights a), .int (S.O_Road.f_repainted a), .int (S.O_Road.f_gone a)]) else if S.K a = 4 then .inr (4, [.int (S.O_Signs.f_rows a), va_rf (S.O_Signs.f_kinds a), va_rf (S.O_Signs.f_strengths a)]) else if S.K a = 5 then .inr (5, [va_rf (S.O_RoadPaint.f_road a), va_rf (S.O_RoadPaint.f_saved a), .int (S.O_RoadPaint.f_hasSaved a), va_rf (S.O_RoadPaint.f_history a), va_rf (S.O_RoadPaint.f_orders a), va_rf (S.O_RoadPaint.f_driver a)]) else if S.K a = 6 then .inr (6, [va_rf (S.O_RoadPaintModel.f_z a), va_rf (S.O_RoadPaintModel.f_past a), .int (S.O_RoadPaintModel.f_pastMany a), va_rf (S.O_RoadPaintModel.f_kept a), .int (S.O_RoadPaintModel.f_isKept a), va_rf (S.O_RoadPaintModel.f_buffer a), .int (S.O_RoadPaintModel.f_typed a), va_rf (S.O_RoadPaintModel.f_costs a), va_rf (S.O_RoadPaintModel.f_told a), .int (S.O_RoadPaintModel.f_toldMany a), .int (S.O_RoadPaintModel.f_spot a), .int (S.O_RoadPaintModel.f_wrong a)]) else if S.K a = 7 then .inl (cyC, S.R_C.len a, .inl (S.R_C.row a)) else if S.K a = 8 then .inl (cyI, S.R_I.len a, .inl (S.R_I.row a)) else .inl (cyO6ae09, S.R_Road.len a, .inr (.inr (.inr (.inr (S.R_Road.row a)))))
theorem wAt_O_Driver (cyC : ClassId) (cyI : ClassId) (cyO6ae09 : ClassId) (S : wPS) {a : Nat} (h : S.K a = 0) : wPF cyC cyI cyO6ae09 S a = .inr (0, [va_rf (S.O_Driver.f_changes a)]) := by simp [wPF, h]
theorem wGt_O_Driver (cyC : ClassId) (cyI : ClassId) (cyO6ae09 : ClassId) (X : va_W) (S : wPS) {a : Nat} (hL : a ∈ S.L) (h : S.K a = 0) : ∃ k : Nat, (X ++ va_pl S.L (wPF cyC cyI cyO6ae09 S))[k]? = some (a, wPF cyC cyI cyO6ae09 S a) ∧ (X ++ va_pl S.L (wPF cyC cyI cyO6ae09 S))[k]? = some (a, .inr (0, [va_rf (S.O_Driver.f_changes a)])) := by
  obtain ⟨k, hk⟩ := va_pl_get (X := X) (f := wPF cyC cyI cyO6ae09 S) hL
  exact ⟨k, hk, hk.trans (congrArg (fun e => some (a, e)) (wAt_O_Driver cyC cyI cyO6ae09 S h))⟩
theorem wSt_O_Driver_f_changes (cyC : ClassId) (cyI : ClassId) (cyO6ae09 : ClassId) (S : wPS) {a : Nat} (h : S.K a = 0) (v : Option Nat) (b : Nat) : va_up (wPF cyC cyI cyO6ae09 S) a (.inr (0, [va_rf v])) b = wPF cyC cyI cyO6ae09 { S with O_Driver := { f_changes := va_up S.O_Driver.f_changes a v } } b := by by_cases hb : b = a <;> first | (simp only [wPF, va_up_ne _ _ hb]; done) | (simp only [wPF, va_up, if_neg hb]; done) | simp [wPF, va_re, va_up, va_rf, hb, h]
theorem wPu_O_Driver_f_changes (cyC : ClassId) (cyI : ClassId) (cyO6ae09 : ClassId) (X : va_W) (S : wPS) {A : Nat → Prop} {a k : Nat} (hD : va_D A (X ++ va_pl S.L (wPF cyC cyI cyO6ae09 S))) (hL : a ∈ S.L) (h : S.K a = 0) (hk : (X ++ va_pl S.L (wPF cyC cyI cyO6ae09 S))[k]? = some (a, wPF cyC cyI cyO6ae09 S a)) (v : Option Nat) : (X ++ va_pl S.L (wPF cyC cyI cyO6ae09 S)).set k (a, .inr (0, [va_rf v])) = X ++ va_pl S.L (wPF cyC cyI cyO6ae09 { S with O_Driver := { f_changes := va_up S.O_Driver.f_changes a v } }) := by
  rw [va_pl_set hD hL hk]
  exact congrArg (fun l => X ++ l) (va_pl_congr (wSt_O_Driver_f_changes cyC cyI cyO6ae09 S h v))
theorem wNw_O_Driver (cyC : ClassId) (cyI : ClassId) (cyO6ae09 : ClassId) (S : wPS) (a b : Nat) : va_up (wPF cyC cyI cyO6ae09 S) a (.inr (0, [.null])) b = wPF cyC cyI cyO6ae09 { S with L := S.L ++ [a], K := va_up S.K a 0, O_Driver := { f_changes := va_up S.O_Driver.f_changes a none } } b := by by_cases hb : b = a <;> first | (simp only [wPF, va_up_ne _ _ hb]; done) | (simp only [wPF, va_up, if_neg hb]; done) | simp [wPF, va_re, va_up, va_rf, hb]
theorem wPn_O_Driver (cyC : ClassId) (cyI : ClassId) (cyO6ae09 : ClassId) (X : va_W) (S : wPS) {a : Nat} (ha : a ∉ S.L) : (X ++ va_pl S.L (wPF cyC cyI cyO6ae09 S)) ++ [(a, .inr (0, [.null]))] = X ++ va_pl (S.L ++ [a]) (wPF cyC cyI cyO6ae09 { S with L := S.L ++ [a], K := va_up S.K a 0, O_Driver := { f_changes := va_up S.O_Driver.f_changes a none } }) := by
  rw [List.append_assoc, va_pl_push ha]
  exact congrArg (fun l => X ++ l) (va_pl_congr (wNw_O_Driver cyC cyI cyO6ae09 S a))
theorem wAt_O_History (cyC : ClassId) (cyI : ClassId) (cyO6ae09 : ClassId) (S : wPS) {a : Nat} (h : S.K a = 1) : wPF cyC cyI cyO6ae09 S a = .inr (1, [va_rf (S.O_History.f_states a), .int (S.O_History.f_oldest a), .int (S.O_History.f_count a)]) := by simp [wPF, h]
theorem wGt_O_History (cyC : ClassId) (cyI : ClassId) (cyO6ae09 : ClassId) (X : va_W) (S : wPS) {a : Nat} (hL : a ∈ S.L) (h : S.K a = 1) : ∃ k : Nat, (X ++ va_pl S.L (wPF cyC cyI cyO6ae09 S))[k]? = some (a, wPF cyC cyI cyO6ae09 S a) ∧ (X ++ va_pl S.L (wPF cyC cyI cyO6ae09 S))[k]? = some (a, .inr (1, [va_rf (S.O_History.f_states a), .int (S.O_History.f_oldest a), .int (S.O_History.f_count a)])) := by
  obtain ⟨k, hk⟩ := va_pl_get (X := X) (f := wPF cyC cyI cyO6ae09 S) hL
  exact ⟨k, hk, hk.trans (congrArg (fun e => some (a, e)) (wAt_O_History cyC cyI cyO6ae09 S h))⟩
theorem wSt_O_History_f_states (cyC : ClassId) (cyI : ClassId) (cyO6ae09 : ClassId) (S : wPS) {a : Nat} (h : S.K a = 1) (v : Option Nat) (b : Nat) : va_up (wPF cyC cyI cyO6ae09 S) a (.inr (1, [va_rf v, .int (S.O_History.f_oldest a), .int (S.O_History.f_count a)])) b = wPF cyC cyI cyO6ae09 { S with O_History := { S.O_History with f_states := va_up S.O_History.f_states a v } } b := by by_cases hb : b = a <;> first | (simp only [wPF, va_up_ne _ _ hb]; done) | (simp only [wPF, va_up, if_neg hb]; done) | simp [wPF, va_re, va_up, va_rf, hb, h]
theorem wPu_O_History_f_states (cyC : ClassId) (cyI : ClassId) (cyO6ae09 : ClassId) (X : va_W) (S : wPS) {A : Nat → Prop} {a k : Nat} (hD : va_D A (X ++ va_pl S.L (wPF cyC cyI cyO6ae09 S))) (hL : a ∈ S.L) (h : S.K a = 1) (hk : (X ++ va_pl S.L (wPF cyC cyI cyO6ae09 S))[k]? = some (a, wPF cyC cyI cyO6ae09 S a)) (v : Option Nat) : (X ++ va_pl S.L (wPF cyC cyI cyO6ae09 S)).set k (a, .inr (1, [va_rf v, .int (S.O_History.f_oldest a), .int (S.O_History.f_count a)])) = X ++ va_pl S.L (wPF cyC cyI cyO6ae09 { S with O_History := { S.O_History with f_states := va_up S.O_History.f_states a v } }) := by
  rw [va_pl_set hD hL hk]
  exact congrArg (fun l => X ++ l) (va_pl_congr (wSt_O_History_f_states cyC cyI cyO6ae09 S h v))
theorem wSt_O_History_f_oldest (cyC : ClassId) (cyI : ClassId) (cyO6ae09 : ClassId) (S : wPS) {a : Nat} (h : S.K a = 1) (v : Int32) (b : Nat) : va_up (wPF cyC cyI cyO6ae09 S) a (.inr (1, [va_rf (S.O_History.f_states a), .int v, .int (S.O_History.f_count a)])) b = wPF cyC cyI cyO6ae09 { S with O_History := { S.O_History with f_oldest := va_up S.O_History.f_oldest a v } } b := by by_cases hb : b = a <;> first | (simp only [wPF, va_up_ne _ _ hb]; done) | (simp only [wPF, va_up, if_neg hb]; done) | simp [wPF, va_re, va_up, va_rf, hb, h]
theorem wPu_O_History_f_oldest (cyC : ClassId) (cyI : ClassId) (cyO6ae09 : ClassId) (X : va_W) (S : wPS) {A : Nat → Prop} {a k : Nat} (hD : va_D A (X ++ va_pl S.L (wPF cyC cyI cyO6ae09 S))) (hL : a ∈ S.L) (h : S.K a = 1) (hk : (X ++ va_pl S.L (wPF cyC cyI cyO6ae09 S))[k]? = some (a, wPF cyC cyI cyO6ae09 S a)) (v : Int32) : (X ++ va_pl S.L (wPF cyC cyI cyO6ae09 S)).set k (a, .inr (1, [va_rf (S.O_History.f_states a), .int v, .int (S.O_History.f_count a)])) = X ++ va_pl S.L (wPF cyC cyI cyO6ae09 { S with O_History := { S.O_History with f_oldest := va_up S.O_History.f_oldest a v } }) := by
  rw [va_pl_set hD hL hk]
  exact congrArg (fun l => X ++ l) (va_pl_congr (wSt_O_History_f_oldest cyC cyI cyO6ae09 S h v))
theorem wSt_O_History_f_count (cyC : ClassId) (cyI : ClassId) (cyO6ae09 : ClassId) (S : wPS) {a : Nat} (h : S.K a = 1) (v : Int32) (b : Nat) : va_up (wPF cyC cyI cyO6ae09 S) a (.inr (1, [va_rf (S.O_History.f_states a), .int (S.O_History.f_oldest a), .int v])) b = wPF cyC cyI cyO6ae09 { S with O_History := { S.O_History with f_count := va_up S.O_History.f_count a v } } b := by by_cases hb : b = a <;> first | (simp only [wPF, va_up_ne _ _ hb]; done) | (simp only [wPF, va_up, if_neg hb]; done) | simp [wPF, va_re, va_up, va_rf, hb, h]
theorem wPu_O_History_f_count (cyC : ClassId) (cyI : ClassId) (cyO6ae09 : ClassId) (X : va_W) (S : wPS) {A : Nat → Prop} {a k : Nat} (hD : va_D A (X ++ va_pl S.L (wPF cyC cyI cyO6ae09 S))) (hL : a ∈ S.L) (h : S.K a = 1) (hk : (X ++ va_pl S.L (wPF cyC cyI cyO6ae09 S))[k]? = some (a, wPF cyC cyI cyO6ae09 S a)) (v : Int32) : (X ++ va_pl S.L (wPF cyC cyI cyO6ae09 S)).set k (a, .inr (1, [va_rf (S.O_History.f_states a), .int (S.O_History.f_oldest a), .int v])) = X ++ va_pl S.L (wPF cyC cyI cyO6ae09 { S with O_History := { S.O_History with f_count := va_up S.O_History.f_count a v } }) := by
  rw [va_pl_set hD hL hk]
  exact congrArg (fun l => X ++ l) (va_pl_congr (wSt_O_History_f_count cyC cyI cyO6ae09 S h v))
theorem wNw_O_History (cyC : ClassId) (cyI : ClassId) (cyO6ae09 : ClassId) (S : wPS) (a b : Nat) : va_up (wPF cyC cyI cyO6ae09 S) a (.inr (1, [.null, .int 0, .int 0])) b = wPF cyC cyI cyO6ae09 { S with L := S.L ++ [a], K := va_up S.K a 1, O_History := { f_states := va_up S.O_History.f_states a none, f_oldest := va_up S.O_History.f_oldest a 0, f_count := va_up S.O_History.f_count a 0 } } b := by by_cases hb : b = a <;> first | (simp only [wPF, va_up_ne _ _ hb]; done) | (simp only [wPF, va_up, if_neg hb]; done) | simp [wPF, va_re, va_up, va_rf, hb]
theorem wPn_O_History (cyC : ClassId) (cyI : ClassId) (cyO6ae09 : ClassId) (X : va_W) (S : wPS) {a : Nat} (ha : a ∉ S.L) : (X ++ va_pl S.L (wPF cyC cyI cyO6ae09 S)) ++ [(a, .inr (1, [.null, .int 0, .int 0]))] = X ++ va_pl (S.L ++ [a]) (wPF cyC cyI cyO6ae09 { S with L := S.L ++ [a], K := va_up S.K a 1, O_History := { f_states := va_up S.O_History.f_states a none, f_oldest := va_up S.O_History.f_oldest a 0, f_count := va_up S.O_History.f_count a 0 } }) := by
  rw [List.append_assoc, va_pl_push ha]
  exact congrArg (fun l => X ++ l) (va_pl_congr (wNw_O_History cyC cyI cyO6ae09 S a))
theorem wAt_O_Orders (cyC : ClassId) (cyI : ClassId) (cyO6ae09 : ClassId) (S : wPS) {a : Nat} (h : S.K a = 2) : wPF cyC cyI cyO6ae09 S a = .inr (2, [va_rf (S.O_Orders.f_codes a), .int (S.O_Orders.f_length a)]) := by simp [wPF, h]
theorem wGt_O_Orders (cyC : ClassId) (cyI : ClassId) (cyO6ae09 : ClassId) (X : va_W) (S : wPS) {a : Nat} (hL : a ∈ S.L) (h : S.K a = 2) : ∃ k : Nat, (X ++ va_pl S.L (wPF cyC cyI cyO6ae09 S))[k]? = some (a, wPF cyC cyI cyO6ae09 S a) ∧ (X ++ va_pl S.L (wPF cyC cyI cyO6ae09 S))[k]? = some (a, .inr (2, [va_rf (S.O_Orders.f_codes a), .int (S.O_Orders.f_length a)])) := by
  obtain ⟨k, hk⟩ := va_pl_get (X := X) (f := wPF cyC cyI cyO6ae09 S) hL
  exact ⟨k, hk, hk.trans (congrArg (fun e => some (a, e)) (wAt_O_Orders cyC cyI cyO6ae09 S h))⟩
theorem wSt_O_Orders_f_codes (cyC : ClassId) (cyI : ClassId) (cyO6ae09 : ClassId) (S : wPS) {a : Nat} (h : S.K a = 2) (v : Option Nat) (b : Nat) : va_up (wPF cyC cyI cyO6ae09 S) a (.inr (2, [va_rf v, .int (S.O_Orders.f_length a)])) b = wPF cyC cyI cyO6ae09 { S with O_Orders := { S.O_Orders with f_codes := va_up S.O_Orders.f_codes a v } } b := by by_cases hb : b = a <;> first | (simp only [wPF, va_up_ne _ _ hb]; done) | (simp only [wPF, va_up, if_neg hb]; done) | simp [wPF, va_re, va_up, va_rf, hb, h]
theorem wPu_O_Orders_f_codes (cyC : ClassId) (cyI : ClassId) (cyO6ae09 : ClassId) (X : va_W) (S : wPS) {A : Nat → Prop} {a k : Nat} (hD : va_D A (X ++ va_pl S.L (wPF cyC cyI cyO6ae09 S))) (hL : a ∈ S.L) (h : S.K a = 2) (hk : (X ++ va_pl S.L (wPF cyC cyI cyO6ae09 S))[k]? = some (a, wPF cyC cyI cyO6ae09 S a)) (v : Option Nat) : (X ++ va_pl S.L (wPF cyC cyI cyO6ae09 S)).set k (a, .inr (2, [va_rf v, .int (S.O_Orders.f_length a)])) = X ++ va_pl S.L (wPF cyC cyI cyO6ae09 { S with O_Orders := { S.O_Orders with f_codes := va_up S.O_Orders.f_codes a v } }) := by
  rw [va_pl_set hD hL hk]
  exact congrArg (fun l => X ++ l) (va_pl_congr (wSt_O_Orders_f_codes cyC cyI cyO6ae09 S h v))
theorem wSt_O_Orders_f_length (cyC : ClassId) (cyI : ClassId) (cyO6ae09 : ClassId) (S : wPS) {a : Nat} (h : S.K a = 2) (v : Int32) (b : Nat) : va_up (wPF cyC cyI cyO6ae09 S) a (.inr (2, [va_rf (S.O_Orders.f_codes a), .int v])) b = wPF cyC cyI cyO6ae09 { S with O_Orders := { S.O_Orders with f_length := va_up S.O_Orders.f_length a v } } b := by by_cases hb : b = a <;> first | (simp only [wPF, va_up_ne _ _ hb]; done) | (simp only [wPF, va_up, if_neg hb]; done) | simp [wPF, va_re, va_up, va_rf, hb, h]
theorem wPu_O_Orders_f_length (cyC : ClassId) (cyI : ClassId) (cyO6ae09 : ClassId) (X : va_W) (S : wPS) {A : Nat → Prop} {a k : Nat} (hD : va_D A (X ++ va_pl S.L (wPF cyC cyI cyO6ae09 S))) (hL : a ∈ S.L) (h : S.K a = 2) (hk : (X ++ va_pl S.L (wPF cyC cyI cyO6ae09 S))[k]? = some (a, wPF cyC cyI cyO6ae09 S a)) (v : Int32) : (X ++ va_pl S.L (wPF cyC cyI cyO6ae09 S)).set k (a, .inr (2, [va_rf (S.O_Orders.f_codes a), .int v])) = X ++ va_pl S.L (wPF cyC cyI cyO6ae09 { S with O_Orders := { S.O_Orders with f_length := va_up S.O_Orders.f_length a v } }) := by
  rw [va_pl_set hD hL hk]
  exact congrArg (fun l => X ++ l) (va_pl_congr (wSt_O_Orders_f_length cyC cyI cyO6ae09 S h v))
theorem wNw_O_Orders (cyC : ClassId) (cyI : ClassId) (cyO6ae09 : ClassId) (S : wPS) (a b : Nat) : va_up (wPF cyC cyI cyO6ae09 S) a (.inr (2, [.null, .int 0])) b = wPF cyC cyI cyO6ae09 { S with L := S.L ++ [a], K := va_up S.K a 2, O_Orders := { f_codes := va_up S.O_Orders.f_codes a none, f_length := va_up S.O_Orders.f_length a 0 } } b := by by_cases hb : b = a <;> first | (simp only [wPF, va_up_ne _ _ hb]; done) | (simp only [wPF, va_up, if_neg hb]; done) | simp [wPF, va_re, va_up, va_rf, hb]
theorem wPn_O_Orders (cyC : ClassId) (cyI : ClassId) (cyO6ae09 : ClassId) (X : va_W) (S : wPS) {a : Nat} (ha : a ∉ S.L) : (X ++ va_pl S.L (wPF cyC cyI cyO6ae09 S)) ++ [(a, .inr (2, [.null, .int 0]))] = X ++ va_pl (S.L ++ [a]) (wPF cyC cyI cyO6ae09 { S with L := S.L ++ [a], K := va_up S.K a 2, O_Orders := { f_codes := va_up S.O_Orders.f_codes a none, f_length := va_up S.O_Orders.f_length a 0 } }) := by
  rw [List.append_assoc, va_pl_push ha]
  exact congrArg (fun l => X ++ l) (va_pl_congr (wNw_O_Orders cyC cyI cyO6ae09 S a))
theorem wAt_O_Road (cyC : ClassId) (cyI : ClassId) (cyO6ae09 : ClassId) (S : wPS) {a : Nat} (h : S.K a = 3) : wPF cyC cyI cyO6ae09 S a = .inr (3, [va_rf (S.O_Road.f_arrows a), va_rf (S.O_Road.f_words a), va_rf (S.O_Road.f_dashes a), va_rf (S.O_Road.f_traffics a), va_rf (S.O_Road.f_settings a), .int (S.O_Road.f_cans a), .int (S.O_Road.f_days a), .int (S.O_Road.f_nights a), .int (S.O_Road.f_repainted a), .int (S.O_Road.f_gone a)]) := by simp [wPF, h]
theorem wGt_O_Road (cyC : ClassId) (cyI : ClassId) (cyO6ae09 : ClassId) (X : va_W) (S : wPS) {a : Nat} (hL : a ∈ S.L) (h : S.K a = 3) : ∃ k : Nat, (X ++ va_pl S.L (wPF cyC cyI cyO6ae09 S))[k]? = some (a, wPF cyC cyI cyO6ae09 S a) ∧ (X ++ va_pl S.L (wPF cyC cyI cyO6ae09 S))[k]? = some (a, .inr (3, [va_rf (S.O_Road.f_arrows a), va_rf (S.O_Road.f_words a), va_rf (S.O_Road.f_dashes a), va_rf (S.O_Road.f_traffics a), va_rf (S.O_Road.f_settings a), .int (S.O_Road.f_cans a), .int (S.O_Road.f_days a), .int (S.O_Road.f_nights a), .int (S.O_Road.f_repainted a), .int (S.O_Road.f_gone a)])) := by
  obtain ⟨k, hk⟩ := va_pl_get (X := X) (f := wPF cyC cyI cyO6ae09 S) hL
  exact ⟨k, hk, hk.trans (congrArg (fun e => some (a, e)) (wAt_O_Road cyC cyI cyO6ae09 S h))⟩
theorem wSt_O_Road_f_arrows (cyC : ClassId) (cyI : ClassId) (cyO6ae09 : ClassId) (S : wPS) {a : Nat} (h : S.K a = 3) (v : Option Nat) (b : Nat) : va_up (wPF cyC cyI cyO6ae09 S) a (.inr (3, [va_rf v, va_rf (S.O_Road.f_words a), va_rf (S.O_Road.f_dashes a), va_rf (S.O_Road.f_traffics a), va_rf (S.O_Road.f_settings a), .int (S.O_Road.f_cans a), .int (S.O_Road.f_days a), .int (S.O_Road.f_nights a), .int (S.O_Road.f_repainted a), .int (S.O_Road.f_gone a)])) b = wPF cyC cyI cyO6ae09 { S with O_Road := { S.O_Road with f_arrows := va_up S.O_Road.f_arrows a v } } b := by by_cases hb : b = a <;> first | (simp only [wPF, va_up_ne _ _ hb]; done) | (simp only [wPF, va_up, if_neg hb]; done) | simp [wPF, va_re, va_up, va_rf, hb, h]
theorem wPu_O_Road_f_arrows (cyC : ClassId) (cyI : ClassId) (cyO6ae09 : ClassId) (X : va_W) (S : wPS) {A : Nat → Prop} {a k : Nat} (hD : va_D A (X ++ va_pl S.L (wPF cyC cyI cyO6ae09 S))) (hL : a ∈ S.L) (h : S.K a = 3) (hk : (X ++ va_pl S.L (wPF cyC cyI cyO6ae09 S))[k]? = some (a, wPF cyC cyI cyO6ae09 S a)) (v : Option Nat) : (X ++ va_pl S.L (wPF cyC cyI cyO6ae09 S)).set k (a, .inr (3, [va_rf v, va_rf (S.O_Road.f_words a), va_rf (S.O_Road.f_dashes a), va_rf (S.O_Road.f_traffics a), va_rf (S.O_Road.f_settings a), .int (S.O_Road.f_cans a), .int (S.O_Road.f_days a), .int (S.O_Road.f_nights a), .int (S.O_Road.f_repainted a), .int (S.O_Road.f_gone a)])) = X ++ va_pl S.L (wPF cyC cyI cyO6ae09 { S with O_Road := { S.O_Road with f_arrows := va_up S.O_Road.f_arrows a v } }) := by
  rw [va_pl_set hD hL hk]
  exact congrArg (fun l => X ++ l) (va_pl_congr (wSt_O_Road_f_arrows cyC cyI cyO6ae09 S h v))
theorem wSt_O_Road_f_words (cyC : ClassId) (cyI : ClassId) (cyO6ae09 : ClassId) (S : wPS) {a : Nat} (h : S.K a = 3) (v : Option Nat) (b : Nat) : va_up (wPF cyC cyI cyO6ae09 S) a (.inr (3, [va_rf (S.O_Road.f_arrows a), va_rf v, va_rf (S.O_Road.f_dashes a), va_rf (S.O_Road.f_traffics a), va_rf (S.O_Road.f_settings a), .int (S.O_Road.f_cans a), .int (S.O_Road.f_days a), .int (S.O_Road.f_nights a), .int (S.O_Road.f_repainted a), .int (S.O_Road.f_gone a)])) b = wPF cyC cyI cyO6ae09 { S with O_Road := { S.O_Road with f_words := va_up S.O_Road.f_words a v } } b := by by_cases hb : b = a <;> first | (simp only [wPF, va_up_ne _ _ hb]; done) | (simp only [wPF, va_up, if_neg hb]; done) | simp [wPF, va_re, va_up, va_rf, hb, h]
theorem wPu_O_Road_f_words (cyC : ClassId) (cyI : ClassId) (cyO6ae09 : ClassId) (X : va_W) (S : wPS) {A : Nat → Prop} {a k : Nat} (hD : va_D A (X ++ va_pl S.L (wPF cyC cyI cyO6ae09 S))) (hL : a ∈ S.L) (h : S.K a = 3) (hk : (X ++ va_pl S.L (wPF cyC cyI cyO6ae09 S))[k]? = some (a, wPF cyC cyI cyO6ae09 S a)) (v : Option Nat) : (X ++ va_pl S.L (wPF cyC cyI cyO6ae09 S)).set k (a, .inr (3, [va_rf (S.O_Road.f_arrows a), va_rf v, va_rf (S.O_Road.f_dashes a), va_rf (S.O_Road.f_traffics a), va_rf (S.O_Road.f_settings a), .int (S.O_Road.f_cans a), .int (S.O_Road.f_days a), .int (S.O_Road.f_nights a), .int (S.O_Road.f_repainted a), .int (S.O_Road.f_gone a)])) = X ++ va_pl S.L (wPF cyC cyI cyO6ae09 { S with O_Road := { S.O_Road with f_words := va_up S.O_Road.f_words a v } }) := by
  rw [va_pl_set hD hL hk]
  exact congrArg (fun l => X ++ l) (va_pl_congr (wSt_O_Road_f_words cyC cyI cyO6ae09 S h v))
theorem wSt_O_Road_f_dashes (cyC : ClassId) (cyI : ClassId) (cyO6ae09 : ClassId) (S : wPS) {a : Nat} (h : S.K a = 3) (v : Option Nat) (b : Nat) : va_up (wPF cyC cyI cyO6ae09 S) a (.inr (3, [va_rf (S.O_Road.f_arrows a), va_rf (S.O_Road.f_words a), va_rf v, va_rf (S.O_Road.f_traffics a), va_rf (S.O_Road.f_settings a), .int (S.O_Road.f_cans a), .int (S.O_Road.f_days a), .int (S.O_Road.f_nights a), .int (S.O_Road.f_repainted a), .int (S.O_Road.f_gone a)])) b = wPF cyC cyI cyO6ae09 { S with O_Road := { S.O_Road with f_dashes := va_up S.O_Road.f_dashes a v } } b := by by_cases hb : b = a <;> first | (simp only [wPF, va_up_ne _ _ hb]; done) | (simp only [wPF, va_up, if_neg hb]; done) | simp [wPF, va_re, va_up, va_rf, hb, h]
theorem wPu_O_Road_f_dashes (cyC : ClassId) (cyI : ClassId) (cyO6ae09 : ClassId) (X : va_W) (S : wPS) {A : Nat → Prop} {a k : Nat} (hD : va_D A (X ++ va_pl S.L (wPF cyC cyI cyO6ae09 S))) (hL : a ∈ S.L) (h : S.K a = 3) (hk : (X ++ va_pl S.L (wPF cyC cyI cyO6ae09 S))[k]? = some (a, wPF cyC cyI cyO6ae09 S a)) (v : Option Nat) : (X ++ va_pl S.L (wPF cyC cyI cyO6ae09 S)).set k (a, .inr (3, [va_rf (S.O_Road.f_arrows a), va_rf (S.O_Road.f_words a), va_rf v, va_rf (S.O_Road.f_traffics a), va_rf (S.O_Road.f_settings a), .int (S.O_Road.f_cans a), .int (S.O_Road.f_days a), .int (S.O_Road.f_nights a), .int (S.O_Road.f_repainted a), .int (S.O_Road.f_gone a)])) = X ++ va_pl S.L (wPF cyC cyI cyO6ae09 { S with O_Road := { S.O_Road with f_dashes := va_up S.O_Road.f_dashes a v } }) := by
  rw [va_pl_set hD hL hk]
  exact congrArg (fun l => X ++ l) (va_pl_congr (wSt_O_Road_f_dashes cyC cyI cyO6ae09 S h v))
theorem wSt_O_Road_f_traffics (cyC : ClassId) (cyI : ClassId) (cyO6ae09 : ClassId) (S : wPS) {a : Nat} (h : S.K a = 3) (v : Option Nat) (b : Nat) : va_up (wPF cyC cyI cyO6ae09 S) a (.inr (3, [va_rf (S.O_Road.f_arrows a), va_rf (S.O_Road.f_words a), va_rf (S.O_Road.f_dashes a), va_rf v, va_rf (S.O_Road.f_settings a), .int (S.O_Road.f_cans a), .int (S.O_Road.f_days a), .int (S.O_Road.f_nights a), .int (S.O_Road.f_repainted a), .int (S.O_Road.f_gone a)])) b = wPF cyC cyI cyO6ae09 { S with O_Road := { S.O_Road with f_traffics := va_up S.O_Road.f_traffics a v } } b := by by_cases hb : b = a <;> first | (simp only [wPF, va_up_ne _ _ hb]; done) | (simp only [wPF, va_up, if_neg hb]; done) | simp [wPF, va_re, va_up, va_rf, hb, h]
theorem wPu_O_Road_f_traffics (cyC : ClassId) (cyI : ClassId) (cyO6ae09 : ClassId) (X : va_W) (S : wPS) {A : Nat → Prop} {a k : Nat} (hD : va_D A (X ++ va_pl S.L (wPF cyC cyI cyO6ae09 S))) (hL : a ∈ S.L) (h : S.K a = 3) (hk : (X ++ va_pl S.L (wPF cyC cyI cyO6ae09 S))[k]? = some (a, wPF cyC cyI cyO6ae09 S a)) (v : Option Nat) : (X ++ va_pl S.L (wPF cyC cyI cyO6ae09 S)).set k (a, .inr (3, [va_rf (S.O_Road.f_arrows a), va_rf (S.O_Road.f_words a), va_rf (S.O_Road.f_dashes a), va_rf v, va_rf (S.O_Road.f_settings a), .int (S.O_Road.f_cans a), .int (S.O_Road.f_days a), .int (S.O_Road.f_nights a), .int (S.O_Road.f_repainted a), .int (S.O_Road.f_gone a)])) = X ++ va_pl S.L (wPF cyC cyI cyO6ae09 { S with O_Road := { S.O_Road with f_traffics := va_up S.O_Road.f_traffics a v } }) := by
  rw [va_pl_set hD hL hk]
  exact congrArg (fun l => X ++ l) (va_pl_congr (wSt_O_Road_f_traffics cyC cyI cyO6ae09 S h v))
theorem wSt_O_Road_f_settings (cyC : ClassId) (cyI : ClassId) (cyO6ae09 : ClassId) (S : wPS) {a : Nat} (h : S.K a = 3) (v : Option Nat) (b : Nat) : va_up (wPF cyC cyI cyO6ae09 S) a (.inr (3, [va_rf (S.O_Road.f_arrows a), va_rf (S.O_Road.f_words a), va_rf (S.O_Road.f_dashes a), va_rf (S.O_Road.f_traffics a), va_rf v, .int (S.O_Road.f_cans a), .int (S.O_Road.f_days a), .int (S.O_Road.f_nights a), .int (S.O_Road.f_repainted a), .int (S.O_Road.f_gone a)])) b = wPF cyC cyI cyO6ae09 { S with O_Road := { S.O_Road with f_settings := va_up S.O_Road.f_settings a v } } b := by by_cases hb : b = a <;> first | (simp only [wPF, va_up_ne _ _ hb]; done) | (simp only [wPF, va_up, if_neg hb]; done) | simp [wPF, va_re, va_up, va_rf, hb, h]
theorem wPu_O_Road_f_settings (cyC : ClassId) (cyI : ClassId) (cyO6ae09 : ClassId) (X : va_W) (S : wPS) {A : Nat → Prop} {a k : Nat} (hD : va_D A (X ++ va_pl S.L (wPF cyC cyI cyO6ae09 S))) (hL : a ∈ S.L) (h : S.K a = 3) (hk : (X ++ va_pl S.L (wPF cyC cyI cyO6ae09 S))[k]? = some (a, wPF cyC cyI cyO6ae09 S a)) (v : Option Nat) : (X ++ va_pl S.L (wPF cyC cyI cyO6ae09 S)).set k (a, .inr (3, [va_rf (S.O_Road.f_arrows a), va_rf (S.O_Road.f_words a), va_rf (S.O_Road.f_dashes a), va_rf (S.O_Road.f_traffics a), va_rf v, .int (S.O_Road.f_cans a), .int (S.O_Road.f_days a), .int (S.O_Road.f_nights a), .int (S.O_Road.f_repainted a), .int (S.O_Road.f_gone a)])) = X ++ va_pl S.L (wPF cyC cyI cyO6ae09 { S with O_Road := { S.O_Road with f_settings := va_up S.O_Road.f_settings a v } }) := by
  rw [va_pl_set hD hL hk]
  exact congrArg (fun l => X ++ l) (va_pl_congr (wSt_O_Road_f_settings cyC cyI cyO6ae09 S h v))
theorem wSt_O_Road_f_cans (cyC : ClassId) (cyI : ClassId) (cyO6ae09 : ClassId) (S : wPS) {a : Nat} (h : S.K a = 3) (v : Int32) (b : Nat) : va_up (wPF cyC cyI cyO6ae09 S) a (.inr (3, [va_rf (S.O_Road.f_arrows a), va_rf (S.O_Road.f_words a), va_rf (S.O_Road.f_dashes a), va_rf (S.O_Road.f_traffics a), va_rf (S.O_Road.f_settings a), .int v, .int (S.O_Road.f_days a), .int (S.O_Road.f_nights a), .int (S.O_Road.f_repainted a), .int (S.O_Road.f_gone a)])) b = wPF cyC cyI cyO6ae09 { S with O_Road := { S.O_Road with f_cans := va_up S.O_Road.f_cans a v } } b := by by_cases hb : b = a <;> first | (simp only [wPF, va_up_ne _ _ hb]; done) | (simp only [wPF, va_up, if_neg hb]; done) | simp [wPF, va_re, va_up, va_rf, hb, h]
theorem wPu_O_Road_f_cans (cyC : ClassId) (cyI : ClassId) (cyO6ae09 : ClassId) (X : va_W) (S : wPS) {A : Nat → Prop} {a k : Nat} (hD : va_D A (X ++ va_pl S.L (wPF cyC cyI cyO6ae09 S))) (hL : a ∈ S.L) (h : S.K a = 3) (hk : (X ++ va_pl S.L (wPF cyC cyI cyO6ae09 S))[k]? = some (a, wPF cyC cyI cyO6ae09 S a)) (v : Int32) : (X ++ va_pl S.L (wPF cyC cyI cyO6ae09 S)).set k (a, .inr (3, [va_rf (S.O_Road.f_arrows a), va_rf (S.O_Road.f_words a), va_rf (S.O_Road.f_dashes a), va_rf (S.O_Road.f_traffics a), va_rf (S.O_Road.f_settings a), .int v, .int (S.O_Road.f_days a), .int (S.O_Road.f_nights a), .int (S.O_Road.f_repainted a), .int (S.O_Road.f_gone a)])) = X ++ va_pl S.L (wPF cyC cyI cyO6ae09 { S with O_Road := { S.O_Road with f_cans := va_up S.O_Road.f_cans a v } }) := by
  rw [va_pl_set hD hL hk]
  exact congrArg (fun l => X ++ l) (va_pl_congr (wSt_O_Road_f_cans cyC cyI cyO6ae09 S h v))
theorem wSt_O_Road_f_days (cyC : ClassId) (cyI : ClassId) (cyO6ae09 : ClassId) (S : wPS) {a : Nat} (h : S.K a = 3) (v : Int32) (b : Nat) : va_up (wPF cyC cyI cyO6ae09 S) a (.inr (3, [va_rf (S.O_Road.f_arrows a), va_rf (S.O_Road.f_words a), va_rf (S.O_Road.f_dashes a), va_rf (S.O_Road.f_traffics a), va_rf (S.O_Road.f_settings a), .int (S.O_Road.f_cans a), .int v, .int (S.O_Road.f_nights a), .int (S.O_Road.f_repainted a), .int (S.O_Road.f_gone a)])) b = wPF cyC cyI cyO6ae09 { S with O_Road := { S.O_Road with f_days := va_up S.O_Road.f_days a v } } b := by by_cases hb : b = a <;> first | (simp only [wPF, va_up_ne _ _ hb]; done) | (simp only [wPF, va_up, if_neg hb]; done) | simp [wPF, va_re, va_up, va_rf, hb, h]
theorem wPu_O_Road_f_days (cyC : ClassId) (cyI : ClassId) (cyO6ae09 : ClassId) (X : va_W) (S : wPS) {A : Nat → Prop} {a k : Nat} (hD : va_D A (X ++ va_pl S.L (wPF cyC cyI cyO6ae09 S))) (hL : a ∈ S.L) (h : S.K a = 3) (hk : (X ++ va_pl S.L (wPF cyC cyI cyO6ae09 S))[k]? = some (a, wPF cyC cyI cyO6ae09 S a)) (v : Int32) : (X ++ va_pl S.L (wPF cyC cyI cyO6ae09 S)).set k (a, .inr (3, [va_rf (S.O_Road.f_arrows a), va_rf (S.O_Road.f_words a), va_rf (S.O_Road.f_dashes a), va_rf (S.O_Road.f_traffics a), va_rf (S.O_Road.f_settings a), .int (S.O_Road.f_cans a), .int v, .int (S.O_Road.f_nights a), .int (S.O_Road.f_repainted a), .int (S.O_Road.f_gone a)])) = X ++ va_pl S.L (wPF cyC cyI cyO6ae09 { S with O_Road := { S.O_Road with f_days := va_up S.O_Road.f_days a v } }) := by
  rw [va_pl_set hD hL hk]
  exact congrArg (fun l => X ++ l) (va_pl_congr (wSt_O_Road_f_days cyC cyI cyO6ae09 S h v))
theorem wSt_O_Road_f_nights (cyC : ClassId) (cyI : ClassId) (cyO6ae09 : ClassId) (S : wPS) {a : Nat} (h : S.K a = 3) (v : Int32) (b : Nat) : va_up (wPF cyC cyI cyO6ae09 S) a (.inr (3, [va_rf (S.O_Road.f_arrows a), va_rf (S.O_Road.f_words a), va_rf (S.O_Road.f_dashes a), va_rf (S.O_Road.f_traffics a), va_rf (S.O_Road.f_settings a), .int (S.O_Road.f_cans a), .int (S.O_Road.f_days a), .int v, .int (S.O_Road.f_repainted a), .int (S.O_Road.f_gone a)])) b = wPF cyC cyI cyO6ae09 { S with O_Road := { S.O_Road with f_nights := va_up S.O_Road.f_nights a v } } b := by by_cases hb : b = a <;> first | (simp only [wPF, va_up_ne _ _ hb]; done) | (simp only [wPF, va_up, if_neg hb]; done) | simp [wPF, va_re, va_up, va_rf, hb, h]
theorem wPu_O_Road_f_nights (cyC : ClassId) (cyI : ClassId) (cyO6ae09 : ClassId) (X : va_W) (S : wPS) {A : Nat → Prop} {a k : Nat} (hD : va_D A (X ++ va_pl S.L (wPF cyC cyI cyO6ae09 S))) (hL : a ∈ S.L) (h : S.K a = 3) (hk : (X ++ va_pl S.L (wPF cyC cyI cyO6ae09 S))[k]? = some (a, wPF cyC cyI cyO6ae09 S a)) (v : Int32) : (X ++ va_pl S.L (wPF cyC cyI cyO6ae09 S)).set k (a, .inr (3, [va_rf (S.O_Road.f_arrows a), va_rf (S.O_Road.f_words a), va_rf (S.O_Road.f_dashes a), va_rf (S.O_Road.f_traffics a), va_rf (S.O_Road.f_settings a), .int (S.O_Road.f_cans a), .int (S.O_Road.f_days a), .int v, .int (S.O_Road.f_repainted a), .int (S.O_Road.f_gone a)])) = X ++ va_pl S.L (wPF cyC cyI cyO6ae09 { S with O_Road := { S.O_Road with f_nights := va_up S.O_Road.f_nights a v } }) := by
  rw [va_pl_set hD hL hk]
  exact congrArg (fun l => X ++ l) (va_pl_congr (wSt_O_Road_f_nights cyC cyI cyO6ae09 S h v))
theorem wSt_O_Road_f_repainted (cyC : ClassId) (cyI : ClassId) (cyO6ae09 : ClassId) (S : wPS) {a : Nat} (h : S.K a = 3) (v : Int32) (b : Nat) : va_up (wPF cyC cyI cyO6ae09 S) a (.inr (3, [va_rf (S.O_Road.f_arrows a), va_rf (S.O_Road.f_words a), va_rf (S.O_Road.f_dashes a), va_rf (S.O_Road.f_traffics a), va_rf (S.O_Road.f_settings a), .int (S.O_Road.f_cans a), .int (S.O_Road.f_days a), .int (S.O_Road.f_nights a), .int v, .int (S.O_Road.f_gone a)])) b = wPF cyC cyI cyO6ae09 { S with O_Road := { S.O_Road with f_repainted := va_up S.O_Road.f_repainted a v } } b := by by_cases hb : b = a <;> first | (simp only [wPF, va_up_ne _ _ hb]; done) | (simp only [wPF, va_up, if_neg hb]; done) | simp [wPF, va_re, va_up, va_rf, hb, h]
theorem wPu_O_Road_f_repainted (cyC : ClassId) (cyI : ClassId) (cyO6ae09 : ClassId) (X : va_W) (S : wPS) {A : Nat → Prop} {a k : Nat} (hD : va_D A (X ++ va_pl S.L (wPF cyC cyI cyO6ae09 S))) (hL : a ∈ S.L) (h : S.K a = 3) (hk : (X ++ va_pl S.L (wPF cyC cyI cyO6ae09 S))[k]? = some (a, wPF cyC cyI cyO6ae09 S a)) (v : Int32) : (X ++ va_pl S.L (wPF cyC cyI cyO6ae09 S)).set k (a, .inr (3, [va_rf (S.O_Road.f_arrows a), va_rf (S.O_Road.f_words a), va_rf (S.O_Road.f_dashes a), va_rf (S.O_Road.f_traffics a), va_rf (S.O_Road.f_settings a), .int (S.O_Road.f_cans a), .int (S.O_Road.f_days a), .int (S.O_Road.f_nights a), .int v, .int (S.O_Road.f_gone a)])) = X ++ va_pl S.L (wPF cyC cyI cyO6ae09 { S with O_Road := { S.O_Road with f_repainted := va_up S.O_Road.f_repainted a v } }) := by
  rw [va_pl_set hD hL hk]
  exact congrArg (fun l => X ++ l) (va_pl_congr (wSt_O_Road_f_repainted cyC cyI cyO6ae09 S h v))
theorem wSt_O_Road_f_gone (cyC : ClassId) (cyI : ClassId) (cyO6ae09 : ClassId) (S : wPS) {a : Nat} (h : S.K a = 3) (v : Int32) (b : Nat) : va_up (wPF cyC cyI cyO6ae09 S) a (.inr (3, [va_rf (S.O_Road.f_arrows a), va_rf (S.O_Road.f_words a), va_rf (S.O_Road.f_dashes a), va_rf (S.O_Road.f_traffics a), va_rf (S.O_Road.f_settings a), .int (S.O_Road.f_cans a), .int (S.O_Road.f_days a), .int (S.O_Road.f_nights a), .int (S.O_Road.f_repainted a), .int v])) b = wPF cyC cyI cyO6ae09 { S with O_Road := { S.O_Road with f_gone := va_up S.O_Road.f_gone a v } } b := by by_cases hb : b = a <;> first | (simp only [wPF, va_up_ne _ _ hb]; done) | (simp only [wPF, va_up, if_neg hb]; done) | simp [wPF, va_re, va_up, va_rf, hb, h]
theorem wPu_O_Road_f_gone (cyC : ClassId) (cyI : ClassId) (cyO6ae09 : ClassId) (X : va_W) (S : wPS) {A : Nat → Prop} {a k : Nat} (hD : va_D A (X ++ va_pl S.L (wPF cyC cyI cyO6ae09 S))) (hL : a ∈ S.L) (h : S.K a = 3) (hk : (X ++ va_pl S.L (wPF cyC cyI cyO6ae09 S))[k]? = some (a, wPF cyC cyI cyO6ae09 S a)) (v : Int32) : (X ++ va_pl S.L (wPF cyC cyI cyO6ae09 S)).set k (a, .inr (3, [va_rf (S.O_Road.f_arrows a), va_rf (S.O_Road.f_words a), va_rf (S.O_Road.f_dashes a), va_rf (S.O_Road.f_traffics a), va_rf (S.O_Road.f_settings a), .int (S.O_Road.f_cans a), .int (S.O_Road.f_days a), .int (S.O_Road.f_nights a), .int (S.O_Road.f_repainted a), .int v])) = X ++ va_pl S.L (wPF cyC cyI cyO6ae09 { S with O_Road := { S.O_Road with f_gone := va_up S.O_Road.f_gone a v } }) := by
  rw [va_pl_set hD hL hk]
  exact congrArg (fun l => X ++ l) (va_pl_congr (wSt_O_Road_f_gone cyC cyI cyO6ae09 S h v))
theorem wNw_O_Road (cyC : ClassId) (cyI : ClassId) (cyO6ae09 : ClassId) (S : wPS) (a b : Nat) : va_up (wPF cyC cyI cyO6ae09 S) a (.inr (3, [.null, .null, .null, .null, .null, .int 0, .int 0, .int 0, .int 0, .int 0])) b = wPF cyC cyI cyO6ae09 { S with L := S.L ++ [a], K := va_up S.K a 3, O_Road := { f_arrows := va_up S.O_Road.f_arrows a none, f_words := va_up S.O_Road.f_words a none, f_dashes := va_up S.O_Road.f_dashes a none, f_traffics := va_up S.O_Road.f_traffics a none, f_settings := va_up S.O_Road.f_settings a none, f_cans := va_up S.O_Road.f_cans a 0, f_days := va_up S.O_Road.f_days a 0, f_nights := va_up S.O_Road.f_nights a 0, f_repainted := va_up S.O_Road.f_repainted a 0, f_gone := va_up S.O_Road.f_gone a 0 } } b := by by_cases hb : b = a <;> first | (simp only [wPF, va_up_ne _ _ hb]; done) | (simp only [wPF, va_up, if_neg hb]; done) | simp [wPF, va_re, va_up, va_rf, hb]
theorem wPn_O_Road (cyC : ClassId) (cyI : ClassId) (cyO6ae09 : ClassId) (X : va_W) (S : wPS) {a : Nat} (ha : a ∉ S.L) : (X ++ va_pl S.L (wPF cyC cyI cyO6ae09 S)) ++ [(a, .inr (3, [.null, .null, .null, .null, .null, .int 0, .int 0, .int 0, .int 0, .int 0]))] = X ++ va_pl (S.L ++ [a]) (wPF cyC cyI cyO6ae09 { S with L := S.L ++ [a], K := va_up S.K a 3, O_Road := { f_arrows := va_up S.O_Road.f_arrows a none, f_words := va_up S.O_Road.f_words a none, f_dashes := va_up S.O_Road.f_dashes a none, f_traffics := va_up S.O_Road.f_traffics a none, f_settings := va_up S.O_Road.f_settings a none, f_cans := va_up S.O_Road.f_cans a 0, f_days := va_up S.O_Road.f_days a 0, f_nights := va_up S.O_Road.f_nights a 0, f_repainted := va_up S.O_Road.f_repainted a 0, f_gone := va_up S.O_Road.f_gone a 0 } }) := by
  rw [List.append_assoc, va_pl_push ha]
  exact congrArg (fun l => X ++ l) (va_pl_congr (wNw_O_Road cyC cyI cyO6ae09 S a))
theorem wAt_O_Signs (cyC : ClassId) (cyI : ClassId) (cyO6ae09 : ClassId) (S : wPS) {a : Nat} (h : S.K a = 4) : wPF cyC cyI cyO6ae09 S a = .inr (4, [.int (S.O_Signs.f_rows a), va_rf (S.O_Signs.f_kinds a), va_rf (S.O_Signs.f_strengths a)]) := by simp [wPF, h]
theorem wGt_O_Signs (cyC : ClassId) (cyI : ClassId) (cyO6ae09 : ClassId) (X : va_W) (S : wPS) {a : Nat} (hL : a ∈ S.L) (h : S.K a = 4) : ∃ k : Nat, (X ++ va_pl S.L (wPF cyC cyI cyO6ae09 S))[k]? = some (a, wPF cyC cyI cyO6ae09 S a) ∧ (X ++ va_pl S.L (wPF cyC cyI cyO6ae09 S))[k]? = some (a, .inr (4, [.int (S.O_Signs.f_rows a), va_rf (S.O_Signs.f_kinds a), va_rf (S.O_Signs.f_strengths a)])) := by
  obtain ⟨k, hk⟩ := va_pl_get (X := X) (f := wPF cyC cyI cyO6ae09 S) hL
  exact ⟨k, hk, hk.trans (congrArg (fun e => some (a, e)) (wAt_O_Signs cyC cyI cyO6ae09 S h))⟩
theorem wSt_O_Signs_f_rows (cyC : ClassId) (cyI : ClassId) (cyO6ae09 : ClassId) (S : wPS) {a : Nat} (h : S.K a = 4) (v : Int32) (b : Nat) : va_up (wPF cyC cyI cyO6ae09 S) a (.inr (4, [.int v, va_rf (S.O_Signs.f_kinds a), va_rf (S.O_Signs.f_strengths a)])) b = wPF cyC cyI cyO6ae09 { S with O_Signs := { S.O_Signs with f_rows := va_up S.O_Signs.f_rows a v } } b := by by_cases hb : b = a <;> first | (simp only [wPF, va_up_ne _ _ hb]; done) | (simp only [wPF, va_up, if_neg hb]; done) | simp [wPF, va_re, va_up, va_rf, hb, h]
theorem wPu_O_Signs_f_rows (cyC : ClassId) (cyI : ClassId) (cyO6ae09 : ClassId) (X : va_W) (S : wPS) {A : Nat → Prop} {a k : Nat} (hD : va_D A (X ++ va_pl S.L (wPF cyC cyI cyO6ae09 S))) (hL : a ∈ S.L) (h : S.K a = 4) (hk : (X ++ va_pl S.L (wPF cyC cyI cyO6ae09 S))[k]? = some (a, wPF cyC cyI cyO6ae09 S a)) (v : Int32) : (X ++ va_pl S.L (wPF cyC cyI cyO6ae09 S)).set k (a, .inr (4, [.int v, va_rf (S.O_Signs.f_kinds a), va_rf (S.O_Signs.f_strengths a)])) = X ++ va_pl S.L (wPF cyC cyI cyO6ae09 { S with O_Signs := { S.O_Signs with f_rows := va_up S.O_Signs.f_rows a v } }) := by
  rw [va_pl_set hD hL hk]
  exact congrArg (fun l => X ++ l) (va_pl_congr (wSt_O_Signs_f_rows cyC cyI cyO6ae09 S h v))
theorem wSt_O_Signs_f_kinds (cyC : ClassId) (cyI : ClassId) (cyO6ae09 : ClassId) (S : wPS) {a : Nat} (h : S.K a = 4) (v : Option Nat) (b : Nat) : va_up (wPF cyC cyI cyO6ae09 S) a (.inr (4, [.int (S.O_Signs.f_rows a), va_rf v, va_rf (S.O_Signs.f_strengths a)])) b = wPF cyC cyI cyO6ae09 { S with O_Signs := { S.O_Signs with f_kinds := va_up S.O_Signs.f_kinds a v } } b := by by_cases hb : b = a <;> first | (simp only [wPF, va_up_ne _ _ hb]; done) | (simp only [wPF, va_up, if_neg hb]; done) | simp [wPF, va_re, va_up, va_rf, hb, h]
theorem wPu_O_Signs_f_kinds (cyC : ClassId) (cyI : ClassId) (cyO6ae09 : ClassId) (X : va_W) (S : wPS) {A : Nat → Prop} {a k : Nat} (hD : va_D A (X ++ va_pl S.L (wPF cyC cyI cyO6ae09 S))) (hL : a ∈ S.L) (h : S.K a = 4) (hk : (X ++ va_pl S.L (wPF cyC cyI cyO6ae09 S))[k]? = some (a, wPF cyC cyI cyO6ae09 S a)) (v : Option Nat) : (X ++ va_pl S.L (wPF cyC cyI cyO6ae09 S)).set k (a, .inr (4, [.int (S.O_Signs.f_rows a), va_rf v, va_rf (S.O_Signs.f_strengths a)])) = X ++ va_pl S.L (wPF cyC cyI cyO6ae09 { S with O_Signs := { S.O_Signs with f_kinds := va_up S.O_Signs.f_kinds a v } }) := by
  rw [va_pl_set hD hL hk]
  exact congrArg (fun l => X ++ l) (va_pl_congr (wSt_O_Signs_f_kinds cyC cyI cyO6ae09 S h v))
theorem wSt_O_Signs_f_strengths (cyC : ClassId) (cyI : ClassId) (cyO6ae09 : ClassId) (S : wPS) {a : Nat} (h : S.K a = 4) (v : Option Nat) (b : Nat) : va_up (wPF cyC cyI cyO6ae09 S) a (.inr (4, [.int (S.O_Signs.f_rows a), va_rf (S.O_Signs.f_kinds a), va_rf v])) b = wPF cyC cyI cyO6ae09 { S with O_Signs := { S.O_Signs with f_strengths := va_up S.O_Signs.f_strengths a v } } b := by by_cases hb : b = a <;> first | (simp only [wPF, va_up_ne _ _ hb]; done) | (simp only [wPF, va_up, if_neg hb]; done) | simp [wPF, va_re, va_up, va_rf, hb, h]
theorem wPu_O_Signs_f_strengths (cyC : ClassId) (cyI : ClassId) (cyO6ae09 : ClassId) (X : va_W) (S : wPS) {A : Nat → Prop} {a k : Nat} (hD : va_D A (X ++ va_pl S.L (wPF cyC cyI cyO6ae09 S))) (hL : a ∈ S.L) (h : S.K a = 4) (hk : (X ++ va_pl S.L (wPF cyC cyI cyO6ae09 S))[k]? = some (a, wPF cyC cyI cyO6ae09 S a)) (v : Option Nat) : (X ++ va_pl S.L (wPF cyC cyI cyO6ae09 S)).set k (a, .inr (4, [.int (S.O_Signs.f_rows a), va_rf (S.O_Signs.f_kinds a), va_rf v])) = X ++ va_pl S.L (wPF cyC cyI cyO6ae09 { S with O_Signs := { S.O_Signs with f_strengths := va_up S.O_Signs.f_strengths a v } }) := by
  rw [va_pl_set hD hL hk]
  exact congrArg (fun l => X ++ l) (va_pl_congr (wSt_O_Signs_f_strengths cyC cyI cyO6ae09 S h v))
theorem wNw_O_Signs (cyC : ClassId) (cyI : ClassId) (cyO6ae09 : ClassId) (S : wPS) (a b : Nat) : va_up (wPF cyC cyI cyO6ae09 S) a (.inr (4, [.int 0, .null, .null])) b = wPF cyC cyI cyO6ae09 { S with L := S.L ++ [a], K := va_up S.K a 4, O_Signs := { f_rows := va_up S.O_Signs.f_rows a 0, f_kinds := va_up S.O_Signs.f_kinds a none, f_strengths := va_up S.O_Signs.f_strengths a none } } b := by by_cases hb : b = a <;> first | (simp only [wPF, va_up_ne _ _ hb]; done) | (simp only [wPF, va_up, if_neg hb]; done) | simp [wPF, va_re, va_up, va_rf, hb]
theorem wPn_O_Signs (cyC : ClassId) (cyI : ClassId) (cyO6ae09 : ClassId) (X : va_W) (S : wPS) {a : Nat} (ha : a ∉ S.L) : (X ++ va_pl S.L (wPF cyC cyI cyO6ae09 S)) ++ [(a, .inr (4, [.int 0, .null, .null]))] = X ++ va_pl (S.L ++ [a]) (wPF cyC cyI cyO6ae09 { S with L := S.L ++ [a], K := va_up S.K a 4, O_Signs := { f_rows := va_up S.O_Signs.f_rows a 0, f_kinds := va_up S.O_Signs.f_kinds a none, f_strengths := va_up S.O_Signs.f_strengths a none } }) := by
  rw [List.append_assoc, va_pl_push ha]
  exact congrArg (fun l => X ++ l) (va_pl_congr (wNw_O_Signs cyC cyI cyO6ae09 S a))
theorem wAt_O_RoadPaint (cyC : ClassId) (cyI : ClassId) (cyO6ae09 : ClassId) (S : wPS) {a : Nat} (h : S.K a = 5) : wPF cyC cyI cyO6ae09 S a = .inr (5, [va_rf (S.O_RoadPaint.f_road a), va_rf (S.O_RoadPaint.f_saved a), .int (S.O_RoadPaint.f_hasSaved a), va_rf (S.O_RoadPaint.f_history a), va_rf (S.O_RoadPaint.f_orders a), va_rf (S.O_RoadPaint.f_driver a)]) := by simp [wPF, h]
theorem wGt_O_RoadPaint (cyC : ClassId) (cyI : ClassId) (cyO6ae09 : ClassId) (X : va_W) (S : wPS) {a : Nat} (hL : a ∈ S.L) (h : S.K a = 5) : ∃ k : Nat, (X ++ va_pl S.L (wPF cyC cyI cyO6ae09 S))[k]? = some (a, wPF cyC cyI cyO6ae09 S a) ∧ (X ++ va_pl S.L (wPF cyC cyI cyO6ae09 S))[k]? = some (a, .inr (5, [va_rf (S.O_RoadPaint.f_road a), va_rf (S.O_RoadPaint.f_saved a), .int (S.O_RoadPaint.f_hasSaved a), va_rf (S.O_RoadPaint.f_history a), va_rf (S.O_RoadPaint.f_orders a), va_rf (S.O_RoadPaint.f_driver a)])) := by
  obtain ⟨k, hk⟩ := va_pl_get (X := X) (f := wPF cyC cyI cyO6ae09 S) hL
  exact ⟨k, hk, hk.trans (congrArg (fun e => some (a, e)) (wAt_O_RoadPaint cyC cyI cyO6ae09 S h))⟩
theorem wSt_O_RoadPaint_f_road (cyC : ClassId) (cyI : ClassId) (cyO6ae09 : ClassId) (S : wPS) {a : Nat} (h : S.K a = 5) (v : Option Nat) (b : Nat) : va_up (wPF cyC cyI cyO6ae09 S) a (.inr (5, [va_rf v, va_rf (S.O_RoadPaint.f_saved a), .int (S.O_RoadPaint.f_hasSaved a), va_rf (S.O_RoadPaint.f_history a), va_rf (S.O_RoadPaint.f_orders a), va_rf (S.O_RoadPaint.f_driver a)])) b = wPF cyC cyI cyO6ae09 { S with O_RoadPaint := { S.O_RoadPaint with f_road := va_up S.O_RoadPaint.f_road a v } } b := by by_cases hb : b = a <;> first | (simp only [wPF, va_up_ne _ _ hb]; done) | (simp only [wPF, va_up, if_neg hb]; done) | simp [wPF, va_re, va_up, va_rf, hb, h]
theorem wPu_O_RoadPaint_f_road (cyC : ClassId) (cyI : ClassId) (cyO6ae09 : ClassId) (X : va_W) (S : wPS) {A : Nat → Prop} {a k : Nat} (hD : va_D A (X ++ va_pl S.L (wPF cyC cyI cyO6ae09 S))) (hL : a ∈ S.L) (h : S.K a = 5) (hk : (X ++ va_pl S.L (wPF cyC cyI cyO6ae09 S))[k]? = some (a, wPF cyC cyI cyO6ae09 S a)) (v : Option Nat) : (X ++ va_pl S.L (wPF cyC cyI cyO6ae09 S)).set k (a, .inr (5, [va_rf v, va_rf (S.O_RoadPaint.f_saved a), .int (S.O_RoadPaint.f_hasSaved a), va_rf (S.O_RoadPaint.f_history a), va_rf (S.O_RoadPaint.f_orders a), va_rf (S.O_RoadPaint.f_driver a)])) = X ++ va_pl S.L (wPF cyC cyI cyO6ae09 { S with O_RoadPaint := { S.O_RoadPaint with f_road := va_up S.O_RoadPaint.f_road a v } }) := by
  rw [va_pl_set hD hL hk]
  exact congrArg (fun l => X ++ l) (va_pl_congr (wSt_O_RoadPaint_f_road cyC cyI cyO6ae09 S h v))
theorem wSt_O_RoadPaint_f_saved (cyC : ClassId) (cyI : ClassId) (cyO6ae09 : ClassId) (S : wPS) {a : Nat} (h : S.K a = 5) (v : Option Nat) (b : Nat) : va_up (wPF cyC cyI cyO6ae09 S) a (.inr (5, [va_rf (S.O_RoadPaint.f_road a), va_rf v, .int (S.O_RoadPaint.f_hasSaved a), va_rf (S.O_RoadPaint.f_history a), va_rf (S.O_RoadPaint.f_orders a), va_rf (S.O_RoadPaint.f_driver a)])) b = wPF cyC cyI cyO6ae09 { S with O_RoadPaint := { S.O_RoadPaint with f_saved := va_up S.O_RoadPaint.f_saved a v } } b := by by_cases hb : b = a <;> first | (simp only [wPF, va_up_ne _ _ hb]; done) | (simp only [wPF, va_up, if_neg hb]; done) | simp [wPF, va_re, va_up, va_rf, hb, h]
theorem wPu_O_RoadPaint_f_saved (cyC : ClassId) (cyI : ClassId) (cyO6ae09 : ClassId) (X : va_W) (S : wPS) {A : Nat → Prop} {a k : Nat} (hD : va_D A (X ++ va_pl S.L (wPF cyC cyI cyO6ae09 S))) (hL : a ∈ S.L) (h : S.K a = 5) (hk : (X ++ va_pl S.L (wPF cyC cyI cyO6ae09 S))[k]? = some (a, wPF cyC cyI cyO6ae09 S a)) (v : Option Nat) : (X ++ va_pl S.L (wPF cyC cyI cyO6ae09 S)).set k (a, .inr (5, [va_rf (S.O_RoadPaint.f_road a), va_rf v, .int (S.O_RoadPaint.f_hasSaved a), va_rf (S.O_RoadPaint.f_history a), va_rf (S.O_RoadPaint.f_orders a), va_rf (S.O_RoadPaint.f_driver a)])) = X ++ va_pl S.L (wPF cyC cyI cyO6ae09 { S with O_RoadPaint := { S.O_RoadPaint with f_saved := va_up S.O_RoadPaint.f_saved a v } }) := by
  rw [va_pl_set hD hL hk]
  exact congrArg (fun l => X ++ l) (va_pl_congr (wSt_O_RoadPaint_f_saved cyC cyI cyO6ae09 S h v))
theorem wSt_O_RoadPaint_f_hasSaved (cyC : ClassId) (cyI : ClassId) (cyO6ae09 : ClassId) (S : wPS) {a : Nat} (h : S.K a = 5) (v : Int32) (b : Nat) : va_up (wPF cyC cyI cyO6ae09 S) a (.inr (5, [va_rf (S.O_RoadPaint.f_road a), va_rf (S.O_RoadPaint.f_saved a), .int v, va_rf (S.O_RoadPaint.f_history a), va_rf (S.O_RoadPaint.f_orders a), va_rf (S.O_RoadPaint.f_driver a)])) b = wPF cyC cyI cyO6ae09 { S with O_RoadPaint := { S.O_RoadPaint with f_hasSaved := va_up S.O_RoadPaint.f_hasSaved a v } } b := by by_cases hb : b = a <;> first | (simp only [wPF, va_up_ne _ _ hb]; done) | (simp only [wPF, va_up, if_neg hb]; done) | simp [wPF, va_re, va_up, va_rf, hb, h]
theorem wPu_O_RoadPaint_f_hasSaved (cyC : ClassId) (cyI : ClassId) (cyO6ae09 : ClassId) (X : va_W) (S : wPS) {A : Nat → Prop} {a k : Nat} (hD : va_D A (X ++ va_pl S.L (wPF cyC cyI cyO6ae09 S))) (hL : a ∈ S.L) (h : S.K a = 5) (hk : (X ++ va_pl S.L (wPF cyC cyI cyO6ae09 S))[k]? = some (a, wPF cyC cyI cyO6ae09 S a)) (v : Int32) : (X ++ va_pl S.L (wPF cyC cyI cyO6ae09 S)).set k (a, .inr (5, [va_rf (S.O_RoadPaint.f_road a), va_rf (S.O_RoadPaint.f_saved a), .int v, va_rf (S.O_RoadPaint.f_history a), va_rf (S.O_RoadPaint.f_orders a), va_rf (S.O_RoadPaint.f_driver a)])) = X ++ va_pl S.L (wPF cyC cyI cyO6ae09 { S with O_RoadPaint := { S.O_RoadPaint with f_hasSaved := va_up S.O_RoadPaint.f_hasSaved a v } }) := by
  rw [va_pl_set hD hL hk]
  exact congrArg (fun l => X ++ l) (va_pl_congr (wSt_O_RoadPaint_f_hasSaved cyC cyI cyO6ae09 S h v))
theorem wSt_O_RoadPaint_f_history (cyC : ClassId) (cyI : ClassId) (cyO6ae09 : ClassId) (S : wPS) {a : Nat} (h : S.K a = 5) (v : Option Nat) (b : Nat) : va_up (wPF cyC cyI cyO6ae09 S) a (.inr (5, [va_rf (S.O_RoadPaint.f_road a), va_rf (S.O_RoadPaint.f_saved a), .int (S.O_RoadPaint.f_hasSaved a), va_rf v, va_rf (S.O_RoadPaint.f_orders a), va_rf (S.O_RoadPaint.f_driver a)])) b = wPF cyC cyI cyO6ae09 { S with O_RoadPaint := { S.O_RoadPaint with f_history := va_up S.O_RoadPaint.f_history a v } } b := by by_cases hb : b = a <;> first | (simp only [wPF, va_up_ne _ _ hb]; done) | (simp only [wPF, va_up, if_neg hb]; done) | simp [wPF, va_re, va_up, va_rf, hb, h]
theorem wPu_O_RoadPaint_f_history (cyC : ClassId) (cyI : ClassId) (cyO6ae09 : ClassId) (X : va_W) (S : wPS) {A : Nat → Prop} {a k : Nat} (hD : va_D A (X ++ va_pl S.L (wPF cyC cyI cyO6ae09 S))) (hL : a ∈ S.L) (h : S.K a = 5) (hk : (X ++ va_pl S.L (wPF cyC cyI cyO6ae09 S))[k]? = some (a, wPF cyC cyI cyO6ae09 S a)) (v : Option Nat) : (X ++ va_pl S.L (wPF cyC cyI cyO6ae09 S)).set k (a, .inr (5, [va_rf (S.O_RoadPaint.f_road a), va_rf (S.O_RoadPaint.f_saved a), .int (S.O_RoadPaint.f_hasSaved a), va_rf v, va_rf (S.O_RoadPaint.f_orders a), va_rf (S.O_RoadPaint.f_driver a)])) = X ++ va_pl S.L (wPF cyC cyI cyO6ae09 { S with O_RoadPaint := { S.O_RoadPaint with f_history := va_up S.O_RoadPaint.f_history a v } }) := by
  rw [va_pl_set hD hL hk]
  exact congrArg (fun l => X ++ l) (va_pl_congr (wSt_O_RoadPaint_f_history cyC cyI cyO6ae09 S h v))
theorem wSt_O_RoadPaint_f_orders (cyC : ClassId) (cyI : ClassId) (cyO6ae09 : ClassId) (S : wPS) {a : Nat} (h : S.K a = 5) (v : Option Nat) (b : Nat) : va_up (wPF cyC cyI cyO6ae09 S) a (.inr (5, [va_rf (S.O_RoadPaint.f_road a), va_rf (S.O_RoadPaint.f_saved a), .int (S.O_RoadPaint.f_hasSaved a), va_rf (S.O_RoadPaint.f_history a), va_rf v, va_rf (S.O_RoadPaint.f_driver a)])) b = wPF cyC cyI cyO6ae09 { S with O_RoadPaint := { S.O_RoadPaint with f_orders := va_up S.O_RoadPaint.f_orders a v } } b := by by_cases hb : b = a <;> first | (simp only [wPF, va_up_ne _ _ hb]; done) | (simp only [wPF, va_up, if_neg hb]; done) | simp [wPF, va_re, va_up, va_rf, hb, h]
theorem wPu_O_RoadPaint_f_orders (cyC : ClassId) (cyI : ClassId) (cyO6ae09 : ClassId) (X : va_W) (S : wPS) {A : Nat → Prop} {a k : Nat} (hD : va_D A (X ++ va_pl S.L (wPF cyC cyI cyO6ae09 S))) (hL : a ∈ S.L) (h : S.K a = 5) (hk : (X ++ va_pl S.L (wPF cyC cyI cyO6ae09 S))[k]? = some (a, wPF cyC cyI cyO6ae09 S a)) (v : Option Nat) : (X ++ va_pl S.L (wPF cyC cyI cyO6ae09 S)).set k (a, .inr (5, [va_rf (S.O_RoadPaint.f_road a), va_rf (S.O_RoadPaint.f_saved a), .int (S.O_RoadPaint.f_hasSaved a), va_rf (S.O_RoadPaint.f_history a), va_rf v, va_rf (S.O_RoadPaint.f_driver a)])) = X ++ va_pl S.L (wPF cyC cyI cyO6ae09 { S with O_RoadPaint := { S.O_RoadPaint with f_orders := va_up S.O_RoadPaint.f_orders a v } }) := by
  rw [va_pl_set hD hL hk]
  exact congrArg (fun l => X ++ l) (va_pl_congr (wSt_O_RoadPaint_f_orders cyC cyI cyO6ae09 S h v))
theorem wSt_O_RoadPaint_f_driver (cyC : ClassId) (cyI : ClassId) (cyO6ae09 : ClassId) (S : wPS) {a : Nat} (h : S.K a = 5) (v : Option Nat) (b : Nat) : va_up (wPF cyC cyI cyO6ae09 S) a (.inr (5, [va_rf (S.O_RoadPaint.f_road a), va_rf (S.O_RoadPaint.f_saved a), .int (S.O_RoadPaint.f_hasSaved a), va_rf (S.O_RoadPaint.f_history a), va_rf (S.O_RoadPaint.f_orders a), va_rf v])) b = wPF cyC cyI cyO6ae09 { S with O_RoadPaint := { S.O_RoadPaint with f_driver := va_up S.O_RoadPaint.f_driver a v } } b := by by_cases hb : b = a <;> first | (simp only [wPF, va_up_ne _ _ hb]; done) | (simp only [wPF, va_up, if_neg hb]; done) | simp [wPF, va_re, va_up, va_rf, hb, h]
theorem wPu_O_RoadPaint_f_driver (cyC : ClassId) (cyI : ClassId) (cyO6ae09 : ClassId) (X : va_W) (S : wPS) {A : Nat → Prop} {a k : Nat} (hD : va_D A (X ++ va_pl S.L (wPF cyC cyI cyO6ae09 S))) (hL : a ∈ S.L) (h : S.K a = 5) (hk : (X ++ va_pl S.L (wPF cyC cyI cyO6ae09 S))[k]? = some (a, wPF cyC cyI cyO6ae09 S a)) (v : Option Nat) : (X ++ va_pl S.L (wPF cyC cyI cyO6ae09 S)).set k (a, .inr (5, [va_rf (S.O_RoadPaint.f_road a), va_rf (S.O_RoadPaint.f_saved a), .int (S.O_RoadPaint.f_hasSaved a), va_rf (S.O_RoadPaint.f_history a), va_rf (S.O_RoadPaint.f_orders a), va_rf v])) = X ++ va_pl S.L (wPF cyC cyI cyO6ae09 { S with O_RoadPaint := { S.O_RoadPaint with f_driver := va_up S.O_RoadPaint.f_driver a v } }) := by
  rw [va_pl_set hD hL hk]
  exact congrArg (fun l => X ++ l) (va_pl_congr (wSt_O_RoadPaint_f_driver cyC cyI cyO6ae09 S h v))
theorem wNw_O_RoadPaint (cyC : ClassId) (cyI : ClassId) (cyO6ae09 : ClassId) (S : wPS) (a b : Nat) : va_up (wPF cyC cyI cyO6ae09 S) a (.inr (5, [.null, .null, .int 0, .null, .null, .null])) b = wPF cyC cyI cyO6ae09 { S with L := S.L ++ [a], K := va_up S.K a 5, O_RoadPaint := { f_road := va_up S.O_RoadPaint.f_road a none, f_saved := va_up S.O_RoadPaint.f_saved a none, f_hasSaved := va_up S.O_RoadPaint.f_hasSaved a 0, f_history := va_up S.O_RoadPaint.f_history a none, f_orders := va_up S.O_RoadPaint.f_orders a none, f_driver := va_up S.O_RoadPaint.f_driver a none } } b := by by_cases hb : b = a <;> first | (simp only [wPF, va_up_ne _ _ hb]; done) | (simp only [wPF, va_up, if_neg hb]; done) | simp [wPF, va_re, va_up, va_rf, hb]
theorem wPn_O_RoadPaint (cyC : ClassId) (cyI : ClassId) (cyO6ae09 : ClassId) (X : va_W) (S : wPS) {a : Nat} (ha : a ∉ S.L) : (X ++ va_pl S.L (wPF cyC cyI cyO6ae09 S)) ++ [(a, .inr (5, [.null, .null, .int 0, .null, .null, .null]))] = X ++ va_pl (S.L ++ [a]) (wPF cyC cyI cyO6ae09 { S with L := S.L ++ [a], K := va_up S.K a 5, O_RoadPaint := { f_road := va_up S.O_RoadPaint.f_road a none, f_saved := va_up S.O_RoadPaint.f_saved a none, f_hasSaved := va_up S.O_RoadPaint.f_hasSaved a 0, f_history := va_up S.O_RoadPaint.f_history a none, f_orders := va_up S.O_RoadPaint.f_orders a none, f_driver := va_up S.O_RoadPaint.f_driver a none } }) := by
  rw [List.append_assoc, va_pl_push ha]
  exact congrArg (fun l => X ++ l) (va_pl_congr (wNw_O_RoadPaint cyC cyI cyO6ae09 S a))
theorem wAt_O_RoadPaintModel (cyC : ClassId) (cyI : ClassId) (cyO6ae09 : ClassId) (S : wPS) {a : Nat} (h : S.K a = 6) : wPF cyC cyI cyO6ae09 S a = .inr (6, [va_rf (S.O_RoadPaintModel.f_z a), va_rf (S.O_RoadPaintModel.f_past a), .int (S.O_RoadPaintModel.f_pastMany a), va_rf (S.O_RoadPaintModel.f_kept a), .int (S.O_RoadPaintModel.f_isKept a), va_rf (S.O_RoadPaintModel.f_buffer a), .int (S.O_RoadPaintModel.f_typed a), va_rf (S.O_RoadPaintModel.f_costs a), va_rf (S.O_RoadPaintModel.f_told a), .int (S.O_RoadPaintModel.f_toldMany a), .int (S.O_RoadPaintModel.f_spot a), .int (S.O_RoadPaintModel.f_wrong a)]) := by simp [wPF, h]
theorem wGt_O_RoadPaintModel (cyC : ClassId) (cyI : ClassId) (cyO6ae09 : ClassId) (X : va_W) (S : wPS) {a : Nat} (hL : a ∈ S.L) (h : S.K a = 6) : ∃ k : Nat, (X ++ va_pl S.L (wPF cyC cyI cyO6ae09 S))[k]? = some (a, wPF cyC cyI cyO6ae09 S a) ∧ (X ++ va_pl S.L (wPF cyC cyI cyO6ae09 S))[k]? = some (a, .inr (6, [va_rf (S.O_RoadPaintModel.f_z a), va_rf (S.O_RoadPaintModel.f_past a), .int (S.O_RoadPaintModel.f_pastMany a), va_rf (S.O_RoadPaintModel.f_kept a), .int (S.O_RoadPaintModel.f_isKept a), va_rf (S.O_RoadPaintModel.f_buffer a), .int (S.O_RoadPaintModel.f_typed a), va_rf (S.O_RoadPaintModel.f_costs a), va_rf (S.O_RoadPaintModel.f_told a), .int (S.O_RoadPaintModel.f_toldMany a), .int (S.O_RoadPaintModel.f_spot a), .int (S.O_RoadPaintModel.f_wrong a)])) := by
  obtain ⟨k, hk⟩ := va_pl_get (X := X) (f := wPF cyC cyI cyO6ae09 S) hL
  exact ⟨k, hk, hk.trans (congrArg (fun e => some (a, e)) (wAt_O_RoadPaintModel cyC cyI cyO6ae09 S h))⟩
theorem wSt_O_RoadPaintModel_f_z (cyC : ClassId) (cyI : ClassId) (cyO6ae09 : ClassId) (S : wPS) {a : Nat} (h : S.K a = 6) (v : Option Nat) (b : Nat) : va_up (wPF cyC cyI cyO6ae09 S) a (.inr (6, [va_rf v, va_rf (S.O_RoadPaintModel.f_past a), .int (S.O_RoadPaintModel.f_pastMany a), va_rf (S.O_RoadPaintModel.f_kept a), .int (S.O_RoadPaintModel.f_isKept a), va_rf (S.O_RoadPaintModel.f_buffer a), .int (S.O_RoadPaintModel.f_typed a), va_rf (S.O_RoadPaintModel.f_costs a), va_rf (S.O_RoadPaintModel.f_told a), .int (S.O_RoadPaintModel.f_toldMany a), .int (S.O_RoadPaintModel.f_spot a), .int (S.O_RoadPaintModel.f_wrong a)])) b = wPF cyC cyI cyO6ae09 { S with O_RoadPaintModel := { S.O_RoadPaintModel with f_z := va_up S.O_RoadPaintModel.f_z a v } } b := by by_cases hb : b = a <;> first | (simp only [wPF, va_up_ne _ _ hb]; done) | (simp only [wPF, va_up, if_neg hb]; done) | simp [wPF, va_re, va_up, va_rf, hb, h]
theorem wPu_O_RoadPaintModel_f_z (cyC : ClassId) (cyI : ClassId) (cyO6ae09 : ClassId) (X : va_W) (S : wPS) {A : Nat → Prop} {a k : Nat} (hD : va_D A (X ++ va_pl S.L (wPF cyC cyI cyO6ae09 S))) (hL : a ∈ S.L) (h : S.K a = 6) (hk : (X ++ va_pl S.L (wPF cyC cyI cyO6ae09 S))[k]? = some (a, wPF cyC cyI cyO6ae09 S a)) (v : Option Nat) : (X ++ va_pl S.L (wPF cyC cyI cyO6ae09 S)).set k (a, .inr (6, [va_rf v, va_rf (S.O_RoadPaintModel.f_past a), .int (S.O_RoadPaintModel.f_pastMany a), va_rf (S.O_RoadPaintModel.f_kept a), .int (S.O_RoadPaintModel.f_isKept a), va_rf (S.O_RoadPaintModel.f_buffer a), .int (S.O_RoadPaintModel.f_typed a), va_rf (S.O_RoadPaintModel.f_costs a), va_rf (S.O_RoadPaintModel.f_told a), .int (S.O_RoadPaintModel.f_toldMany a), .int (S.O_RoadPaintModel.f_spot a), .int (S.O_RoadPaintModel.f_wrong a)])) = X ++ va_pl S.L (wPF cyC cyI cyO6ae09 { S with O_RoadPaintModel := { S.O_RoadPaintModel with f_z := va_up S.O_RoadPaintModel.f_z a v } }) := by
  rw [va_pl_set hD hL hk]
  exact congrArg (fun l => X ++ l) (va_pl_congr (wSt_O_RoadPaintModel_f_z cyC cyI cyO6ae09 S h v))
theorem wSt_O_RoadPaintModel_f_past (cyC : ClassId) (cyI : ClassId) (cyO6ae09 : ClassId) (S : wPS) {a : Nat} (h : S.K a = 6) (v : Option Nat) (b : Nat) : va_up (wPF cyC cyI cyO6ae09 S) a (.inr (6, [va_rf (S.O_RoadPaintModel.f_z a), va_rf v, .int (S.O_RoadPaintModel.f_pastMany a), va_rf (S.O_RoadPaintModel.f_kept a), .int (S.O_RoadPaintModel.f_isKept a), va_rf (S.O_RoadPaintModel.f_buffer a), .int (S.O_RoadPaintModel.f_typed a), va_rf (S.O_RoadPaintModel.f_costs a), va_rf (S.O_RoadPaintModel.f_told a), .int (S.O_RoadPaintModel.f_toldMany a), .int (S.O_RoadPaintModel.f_spot a), .int (S.O_RoadPaintModel.f_wrong a)])) b = wPF cyC cyI cyO6ae09 { S with O_RoadPaintModel := { S.O_RoadPaintModel with f_past := va_up S.O_RoadPaintModel.f_past a v } } b := by by_cases hb : b = a <;> first | (simp only [wPF, va_up_ne _ _ hb]; done) | (simp only [wPF, va_up, if_neg hb]; done) | simp [wPF, va_re, va_up, va_rf, hb, h]
theorem wPu_O_RoadPaintModel_f_past (cyC : ClassId) (cyI : ClassId) (cyO6ae09 : ClassId) (X : va_W) (S : wPS) {A : Nat → Prop} {a k : Nat} (hD : va_D A (X ++ va_pl S.L (wPF cyC cyI cyO6ae09 S))) (hL : a ∈ S.L) (h : S.K a = 6) (hk : (X ++ va_pl S.L (wPF cyC cyI cyO6ae09 S))[k]? = some (a, wPF cyC cyI cyO6ae09 S a)) (v : Option Nat) : (X ++ va_pl S.L (wPF cyC cyI cyO6ae09 S)).set k (a, .inr (6, [va_rf (S.O_RoadPaintModel.f_z a), va_rf v, .int (S.O_RoadPaintModel.f_pastMany a), va_rf (S.O_RoadPaintModel.f_kept a), .int (S.O_RoadPaintModel.f_isKept a), va_rf (S.O_RoadPaintModel.f_buffer a), .int (S.O_RoadPaintModel.f_typed a), va_rf (S.O_RoadPaintModel.f_costs a), va_rf (S.O_RoadPaintModel.f_told a), .int (S.O_RoadPaintModel.f_toldMany a), .int (S.O_RoadPaintModel.f_spot a), .int (S.O_RoadPaintModel.f_wrong a)])) = X ++ va_pl S.L (wPF cyC cyI cyO6ae09 { S with O_RoadPaintModel := { S.O_RoadPaintModel with f_past := va_up S.O_RoadPaintModel.f_past a v } }) := by
  rw [va_pl_set hD hL hk]
  exact congrArg (fun l => X ++ l) (va_pl_congr (wSt_O_RoadPaintModel_f_past cyC cyI cyO6ae09 S h v))
theorem wSt_O_RoadPaintModel_f_pastMany (cyC : ClassId) (cyI : ClassId) (cyO6ae09 : ClassId) (S : wPS) {a : Nat} (h : S.K a = 6) (v : Int32) (b : Nat) : va_up (wPF cyC cyI cyO6ae09 S) a (.inr (6, [va_rf (S.O_RoadPaintModel.f_z a), va_rf (S.O_RoadPaintModel.f_past a), .int v, va_rf (S.O_RoadPaintModel.f_kept a), .int (S.O_RoadPaintModel.f_isKept a), va_rf (S.O_RoadPaintModel.f_buffer a), .int (S.O_RoadPaintModel.f_typed a), va_rf (S.O_RoadPaintModel.f_costs a), va_rf (S.O_RoadPaintModel.f_told a), .int (S.O_RoadPaintModel.f_toldMany a), .int (S.O_RoadPaintModel.f_spot a), .int (S.O_RoadPaintModel.f_wrong a)])) b = wPF cyC cyI cyO6ae09 { S with O_RoadPaintModel := { S.O_RoadPaintModel with f_pastMany := va_up S.O_RoadPaintModel.f_pastMany a v } } b := by by_cases hb : b = a <;> first | (simp only [wPF, va_up_ne _ _ hb]; done) | (simp only [wPF, va_up, if_neg hb]; done) | simp [wPF, va_re, va_up, va_rf, hb, h]
theorem wPu_O_RoadPaintModel_f_pastMany (cyC : ClassId) (cyI : ClassId) (cyO6ae09 : ClassId) (X : va_W) (S : wPS) {A : Nat → Prop} {a k : Nat} (hD : va_D A (X ++ va_pl S.L (wPF cyC cyI cyO6ae09 S))) (hL : a ∈ S.L) (h : S.K a = 6) (hk : (X ++ va_pl S.L (wPF cyC cyI cyO6ae09 S))[k]? = some (a, wPF cyC cyI cyO6ae09 S a)) (v : Int32) : (X ++ va_pl S.L (wPF cyC cyI cyO6ae09 S)).set k (a, .inr (6, [va_rf (S.O_RoadPaintModel.f_z a), va_rf (S.O_RoadPaintModel.f_past a), .int v, va_rf (S.O_RoadPaintModel.f_kept a), .int (S.O_RoadPaintModel.f_isKept a), va_rf (S.O_RoadPaintModel.f_buffer a), .int (S.O_RoadPaintModel.f_typed a), va_rf (S.O_RoadPaintModel.f_costs a), va_rf (S.O_RoadPaintModel.f_told a), .int (S.O_RoadPaintModel.f_toldMany a), .int (S.O_RoadPaintModel.f_spot a), .int (S.O_RoadPaintModel.f_wrong a)])) = X ++ va_pl S.L (wPF cyC cyI cyO6ae09 { S with O_RoadPaintModel := { S.O_RoadPaintModel with f_pastMany := va_up S.O_RoadPaintModel.f_pastMany a v } }) := by
  rw [va_pl_set hD hL hk]
  exact congrArg (fun l => X ++ l) (va_pl_congr (wSt_O_RoadPaintModel_f_pastMany cyC cyI cyO6ae09 S h v))
theorem wSt_O_RoadPaintModel_f_kept (cyC : ClassId) (cyI : ClassId) (cyO6ae09 : ClassId) (S : wPS) {a : Nat} (h : S.K a = 6) (v : Option Nat) (b : Nat) : va_up (wPF cyC cyI cyO6ae09 S) a (.inr (6, [va_rf (S.O_RoadPaintModel.f_z a), va_rf (S.O_RoadPaintModel.f_past a), .int (S.O_RoadPaintModel.f_pastMany a), va_rf v, .int (S.O_RoadPaintModel.f_isKept a), va_rf (S.O_RoadPaintModel.f_buffer a), .int (S.O_RoadPaintModel.f_typed a), va_rf (S.O_RoadPaintModel.f_costs a), va_rf (S.O_RoadPaintModel.f_told a), .int (S.O_RoadPaintModel.f_toldMany a), .int (S.O_RoadPaintModel.f_spot a), .int (S.O_RoadPaintModel.f_wrong a)])) b = wPF cyC cyI cyO6ae09 { S with O_RoadPaintModel := { S.O_RoadPaintModel with f_kept := va_up S.O_RoadPaintModel.f_kept a v } } b := by by_cases hb : b = a <;> first | (simp only [wPF, va_up_ne _ _ hb]; done) | (simp only [wPF, va_up, if_neg hb]; done) | simp [wPF, va_re, va_up, va_rf, hb, h]
theorem wPu_O_RoadPaintModel_f_kept (cyC : ClassId) (cyI : ClassId) (cyO6ae09 : ClassId) (X : va_W) (S : wPS) {A : Nat → Prop} {a k : Nat} (hD : va_D A (X ++ va_pl S.L (wPF cyC cyI cyO6ae09 S))) (hL : a ∈ S.L) (h : S.K a = 6) (hk : (X ++ va_pl S.L (wPF cyC cyI cyO6ae09 S))[k]? = some (a, wPF cyC cyI cyO6ae09 S a)) (v : Option Nat) : (X ++ va_pl S.L (wPF cyC cyI cyO6ae09 S)).set k (a, .inr (6, [va_rf (S.O_RoadPaintModel.f_z a), va_rf (S.O_RoadPaintModel.f_past a), .int (S.O_RoadPaintModel.f_pastMany a), va_rf v, .int (S.O_RoadPaintModel.f_isKept a), va_rf (S.O_RoadPaintModel.f_buffer a), .int (S.O_RoadPaintModel.f_typed a), va_rf (S.O_RoadPaintModel.f_costs a), va_rf (S.O_RoadPaintModel.f_told a), .int (S.O_RoadPaintModel.f_toldMany a), .int (S.O_RoadPaintModel.f_spot a), .int (S.O_RoadPaintModel.f_wrong a)])) = X ++ va_pl S.L (wPF cyC cyI cyO6ae09 { S with O_RoadPaintModel := { S.O_RoadPaintModel with f_kept := va_up S.O_RoadPaintModel.f_kept a v } }) := by
  rw [va_pl_set hD hL hk]
  exact congrArg (fun l => X ++ l) (va_pl_congr (wSt_O_RoadPaintModel_f_kept cyC cyI cyO6ae09 S h v))
theorem wSt_O_RoadPaintModel_f_isKept (cyC : ClassId) (cyI : ClassId) (cyO6ae09 : ClassId) (S : wPS) {a : Nat} (h : S.K a = 6) (v : Int32) (b : Nat) : va_up (wPF cyC cyI cyO6ae09 S) a (.inr (6, [va_rf (S.O_RoadPaintModel.f_z a), va_rf (S.O_RoadPaintModel.f_past a), .int (S.O_RoadPaintModel.f_pastMany a), va_rf (S.O_RoadPaintModel.f_kept a), .int v, va_rf (S.O_RoadPaintModel.f_buffer a), .int (S.O_RoadPaintModel.f_typed a), va_rf (S.O_RoadPaintModel.f_costs a), va_rf (S.O_RoadPaintModel.f_told a), .int (S.O_RoadPaintModel.f_toldMany a), .int (S.O_RoadPaintModel.f_spot a), .int (S.O_RoadPaintModel.f_wrong a)])) b = wPF cyC cyI cyO6ae09 { S with O_RoadPaintModel := { S.O_RoadPaintModel with f_isKept := va_up S.O_RoadPaintModel.f_isKept a v } } b := by by_cases hb : b = a <;> first | (simp only [wPF, va_up_ne _ _ hb]; done) | (simp only [wPF, va_up, if_neg hb]; done) | simp [wPF, va_re, va_up, va_rf, hb, h]
theorem wPu_O_RoadPaintModel_f_isKept (cyC : ClassId) (cyI : ClassId) (cyO6ae09 : ClassId) (X : va_W) (S : wPS) {A : Nat → Prop} {a k : Nat} (hD : va_D A (X ++ va_pl S.L (wPF cyC cyI cyO6ae09 S))) (hL : a ∈ S.L) (h : S.K a = 6) (hk : (X ++ va_pl S.L (wPF cyC cyI cyO6ae09 S))[k]? = some (a, wPF cyC cyI cyO6ae09 S a)) (v : Int32) : (X ++ va_pl S.L (wPF cyC cyI cyO6ae09 S)).set k (a, .inr (6, [va_rf (S.O_RoadPaintModel.f_z a), va_rf (S.O_RoadPaintModel.f_past a), .int (S.O_RoadPaintModel.f_pastMany a), va_rf (S.O_RoadPaintModel.f_kept a), .int v, va_rf (S.O_RoadPaintModel.f_buffer a), .int (S.O_RoadPaintModel.f_typed a), va_rf (S.O_RoadPaintModel.f_costs a), va_rf (S.O_RoadPaintModel.f_told a), .int (S.O_RoadPaintModel.f_toldMany a), .int (S.O_RoadPaintModel.f_spot a), .int (S.O_RoadPaintModel.f_wrong a)])) = X ++ va_pl S.L (wPF cyC cyI cyO6ae09 { S with O_RoadPaintModel := { S.O_RoadPaintModel with f_isKept := va_up S.O_RoadPaintModel.f_isKept a v } }) := by
  rw [va_pl_set hD hL hk]
  exact congrArg (fun l => X ++ l) (va_pl_congr (wSt_O_RoadPaintModel_f_isKept cyC cyI cyO6ae09 S h v))
theorem wSt_O_RoadPaintModel_f_buffer (cyC : ClassId) (cyI : ClassId) (cyO6ae09 : ClassId) (S : wPS) {a : Nat} (h : S.K a = 6) (v : Option Nat) (b : Nat) : va_up (wPF cyC cyI cyO6ae09 S) a (.inr (6, [va_rf (S.O_RoadPaintModel.f_z a), va_rf (S.O_RoadPaintModel.f_past a), .int (S.O_RoadPaintModel.f_pastMany a), va_rf (S.O_RoadPaintModel.f_kept a), .int (S.O_RoadPaintModel.f_isKept a), va_rf v, .int (S.O_RoadPaintModel.f_typed a), va_rf (S.O_RoadPaintModel.f_costs a), va_rf (S.O_RoadPaintModel.f_told a), .int (S.O_RoadPaintModel.f_toldMany a), .int (S.O_RoadPaintModel.f_spot a), .int (S.O_RoadPaintModel.f_wrong a)])) b = wPF cyC cyI cyO6ae09 { S with O_RoadPaintModel := { S.O_RoadPaintModel with f_buffer := va_up S.O_RoadPaintModel.f_buffer a v } } b := by by_cases hb : b = a <;> first | (simp only [wPF, va_up_ne _ _ hb]; done) | (simp only [wPF, va_up, if_neg hb]; done) | simp [wPF, va_re, va_up, va_rf, hb, h]
theorem wPu_O_RoadPaintModel_f_buffer (cyC : ClassId) (cyI : ClassId) (cyO6ae09 : ClassId) (X : va_W) (S : wPS) {A : Nat → Prop} {a k : Nat} (hD : va_D A (X ++ va_pl S.L (wPF cyC cyI cyO6ae09 S))) (hL : a ∈ S.L) (h : S.K a = 6) (hk : (X ++ va_pl S.L (wPF cyC cyI cyO6ae09 S))[k]? = some (a, wPF cyC cyI cyO6ae09 S a)) (v : Option Nat) : (X ++ va_pl S.L (wPF cyC cyI cyO6ae09 S)).set k (a, .inr (6, [va_rf (S.O_RoadPaintModel.f_z a), va_rf (S.O_RoadPaintModel.f_past a), .int (S.O_RoadPaintModel.f_pastMany a), va_rf (S.O_RoadPaintModel.f_kept a), .int (S.O_RoadPaintModel.f_isKept a), va_rf v, .int (S.O_RoadPaintModel.f_typed a), va_rf (S.O_RoadPaintModel.f_costs a), va_rf (S.O_RoadPaintModel.f_told a), .int (S.O_RoadPaintModel.f_toldMany a), .int (S.O_RoadPaintModel.f_spot a), .int (S.O_RoadPaintModel.f_wrong a)])) = X ++ va_pl S.L (wPF cyC cyI cyO6ae09 { S with O_RoadPaintModel := { S.O_RoadPaintModel with f_buffer := va_up S.O_RoadPaintModel.f_buffer a v } }) := by
  rw [va_pl_set hD hL hk]
  exact congrArg (fun l => X ++ l) (va_pl_congr (wSt_O_RoadPaintModel_f_buffer cyC cyI cyO6ae09 S h v))
theorem wSt_O_RoadPaintModel_f_typed (cyC : ClassId) (cyI : ClassId) (cyO6ae09 : ClassId) (S : wPS) {a : Nat} (h : S.K a = 6) (v : Int32) (b : Nat) : va_up (wPF cyC cyI cyO6ae09 S) a (.inr (6, [va_rf (S.O_RoadPaintModel.f_z a), va_rf (S.O_RoadPaintModel.f_past a), .int (S.O_RoadPaintModel.f_pastMany a), va_rf (S.O_RoadPaintModel.f_kept a), .int (S.O_RoadPaintModel.f_isKept a), va_rf (S.O_RoadPaintModel.f_buffer a), .int v, va_rf (S.O_RoadPaintModel.f_costs a), va_rf (S.O_RoadPaintModel.f_told a), .int (S.O_RoadPaintModel.f_toldMany a), .int (S.O_RoadPaintModel.f_spot a), .int (S.O_RoadPaintModel.f_wrong a)])) b = wPF cyC cyI cyO6ae09 { S with O_RoadPaintModel := { S.O_RoadPaintModel with f_typed := va_up S.O_RoadPaintModel.f_typed a v } } b := by by_cases hb : b = a <;> first | (simp only [wPF, va_up_ne _ _ hb]; done) | (simp only [wPF, va_up, if_neg hb]; done) | simp [wPF, va_re, va_up, va_rf, hb, h]
theorem wPu_O_RoadPaintModel_f_typed (cyC : ClassId) (cyI : ClassId) (cyO6ae09 : ClassId) (X : va_W) (S : wPS) {A : Nat → Prop} {a k : Nat} (hD : va_D A (X ++ va_pl S.L (wPF cyC cyI cyO6ae09 S))) (hL : a ∈ S.L) (h : S.K a = 6) (hk : (X ++ va_pl S.L (wPF cyC cyI cyO6ae09 S))[k]? = some (a, wPF cyC cyI cyO6ae09 S a)) (v : Int32) : (X ++ va_pl S.L (wPF cyC cyI cyO6ae09 S)).set k (a, .inr (6, [va_rf (S.O_RoadPaintModel.f_z a), va_rf (S.O_RoadPaintModel.f_past a), .int (S.O_RoadPaintModel.f_pastMany a), va_rf (S.O_RoadPaintModel.f_kept a), .int (S.O_RoadPaintModel.f_isKept a), va_rf (S.O_RoadPaintModel.f_buffer a), .int v, va_rf (S.O_RoadPaintModel.f_costs a), va_rf (S.O_RoadPaintModel.f_told a), .int (S.O_RoadPaintModel.f_toldMany a), .int (S.O_RoadPaintModel.f_spot a), .int (S.O_RoadPaintModel.f_wrong a)])) = X ++ va_pl S.L (wPF cyC cyI cyO6ae09 { S with O_RoadPaintModel := { S.O_RoadPaintModel with f_typed := va_up S.O_RoadPaintModel.f_typed a v } }) := by
  rw [va_pl_set hD hL hk]
  exact congrArg (fun l => X ++ l) (va_pl_congr (wSt_O_RoadPaintModel_f_typed cyC cyI cyO6ae09 S h v))
theorem wSt_O_RoadPaintModel_f_costs (cyC : ClassId) (cyI : ClassId) (cyO6ae09 : ClassId) (S : wPS) {a : Nat} (h : S.K a = 6) (v : Option Nat) (b : Nat) : va_up (wPF cyC cyI cyO6ae09 S) a (.inr (6, [va_rf (S.O_RoadPaintModel.f_z a), va_rf (S.O_RoadPaintModel.f_past a), .int (S.O_RoadPaintModel.f_pastMany a), va_rf (S.O_RoadPaintModel.f_kept a), .int (S.O_RoadPaintModel.f_isKept a), va_rf (S.O_RoadPaintModel.f_buffer a), .int (S.O_RoadPaintModel.f_typed a), va_rf v, va_rf (S.O_RoadPaintModel.f_told a), .int (S.O_RoadPaintModel.f_toldMany a), .int (S.O_RoadPaintModel.f_spot a), .int (S.O_RoadPaintModel.f_wrong a)])) b = wPF cyC cyI cyO6ae09 { S with O_RoadPaintModel := { S.O_RoadPaintModel with f_costs := va_up S.O_RoadPaintModel.f_costs a v } } b := by by_cases hb : b = a <;> first | (simp only [wPF, va_up_ne _ _ hb]; done) | (simp only [wPF, va_up, if_neg hb]; done) | simp [wPF, va_re, va_up, va_rf, hb, h]
theorem wPu_O_RoadPaintModel_f_costs (cyC : ClassId) (cyI : ClassId) (cyO6ae09 : ClassId) (X : va_W) (S : wPS) {A : Nat → Prop} {a k : Nat} (hD : va_D A (X ++ va_pl S.L (wPF cyC cyI cyO6ae09 S))) (hL : a ∈ S.L) (h : S.K a = 6) (hk : (X ++ va_pl S.L (wPF cyC cyI cyO6ae09 S))[k]? = some (a, wPF cyC cyI cyO6ae09 S a)) (v : Option Nat) : (X ++ va_pl S.L (wPF cyC cyI cyO6ae09 S)).set k (a, .inr (6, [va_rf (S.O_RoadPaintModel.f_z a), va_rf (S.O_RoadPaintModel.f_past a), .int (S.O_RoadPaintModel.f_pastMany a), va_rf (S.O_RoadPaintModel.f_kept a), .int (S.O_RoadPaintModel.f_isKept a), va_rf (S.O_RoadPaintModel.f_buffer a), .int (S.O_RoadPaintModel.f_typed a), va_rf v, va_rf (S.O_RoadPaintModel.f_told a), .int (S.O_RoadPaintModel.f_toldMany a), .int (S.O_RoadPaintModel.f_spot a), .int (S.O_RoadPaintModel.f_wrong a)])) = X ++ va_pl S.L (wPF cyC cyI cyO6ae09 { S with O_RoadPaintModel := { S.O_RoadPaintModel with f_costs := va_up S.O_RoadPaintModel.f_costs a v } }) := by
  rw [va_pl_set hD hL hk]
  exact congrArg (fun l => X ++ l) (va_pl_congr (wSt_O_RoadPaintModel_f_costs cyC cyI cyO6ae09 S h v))
theorem wSt_O_RoadPaintModel_f_told (cyC : ClassId) (cyI : ClassId) (cyO6ae09 : ClassId) (S : wPS) {a : Nat} (h : S.K a = 6) (v : Option Nat) (b : Nat) : va_up (wPF cyC cyI cyO6ae09 S) a (.inr (6, [va_rf (S.O_RoadPaintModel.f_z a), va_rf (S.O_RoadPaintModel.f_past a), .int (S.O_RoadPaintModel.f_pastMany a), va_rf (S.O_RoadPaintModel.f_kept a), .int (S.O_RoadPaintModel.f_isKept a), va_rf (S.O_RoadPaintModel.f_buffer a), .int (S.O_RoadPaintModel.f_typed a), va_rf (S.O_RoadPaintModel.f_costs a), va_rf v, .int (S.O_RoadPaintModel.f_toldMany a), .int (S.O_RoadPaintModel.f_spot a), .int (S.O_RoadPaintModel.f_wrong a)])) b = wPF cyC cyI cyO6ae09 { S with O_RoadPaintModel := { S.O_RoadPaintModel with f_told := va_up S.O_RoadPaintModel.f_told a v } } b := by by_cases hb : b = a <;> first | (simp only [wPF, va_up_ne _ _ hb]; done) | (simp only [wPF, va_up, if_neg hb]; done) | simp [wPF, va_re, va_up, va_rf, hb, h]
theorem wPu_O_RoadPaintModel_f_told (cyC : ClassId) (cyI : ClassId) (cyO6ae09 : ClassId) (X : va_W) (S : wPS) {A : Nat → Prop} {a k : Nat} (hD : va_D A (X ++ va_pl S.L (wPF cyC cyI cyO6ae09 S))) (hL : a ∈ S.L) (h : S.K a = 6) (hk : (X ++ va_pl S.L (wPF cyC cyI cyO6ae09 S))[k]? = some (a, wPF cyC cyI cyO6ae09 S a)) (v : Option Nat) : (X ++ va_pl S.L (wPF cyC cyI cyO6ae09 S)).set k (a, .inr (6, [va_rf (S.O_RoadPaintModel.f_z a), va_rf (S.O_RoadPaintModel.f_past a), .int (S.O_RoadPaintModel.f_pastMany a), va_rf (S.O_RoadPaintModel.f_kept a), .int (S.O_RoadPaintModel.f_isKept a), va_rf (S.O_RoadPaintModel.f_buffer a), .int (S.O_RoadPaintModel.f_typed a), va_rf (S.O_RoadPaintModel.f_costs a), va_rf v, .int (S.O_RoadPaintModel.f_toldMany a), .int (S.O_RoadPaintModel.f_spot a), .int (S.O_RoadPaintModel.f_wrong a)])) = X ++ va_pl S.L (wPF cyC cyI cyO6ae09 { S with O_RoadPaintModel := { S.O_RoadPaintModel with f_told := va_up S.O_RoadPaintModel.f_told a v } }) := by
  rw [va_pl_set hD hL hk]
  exact congrArg (fun l => X ++ l) (va_pl_congr (wSt_O_RoadPaintModel_f_told cyC cyI cyO6ae09 S h v))
theorem wSt_O_RoadPaintModel_f_toldMany (cyC : ClassId) (cyI : ClassId) (cyO6ae09 : ClassId) (S : wPS) {a : Nat} (h : S.K a = 6) (v : Int32) (b : Nat) : va_up (wPF cyC cyI cyO6ae09 S) a (.inr (6, [va_rf (S.O_RoadPaintModel.f_z a), va_rf (S.O_RoadPaintModel.f_past a), .int (S.O_RoadPaintModel.f_pastMany a), va_rf (S.O_RoadPaintModel.f_kept a), .int (S.O_RoadPaintModel.f_isKept a), va_rf (S.O_RoadPaintModel.f_buffer a), .int (S.O_RoadPaintModel.f_typed a), va_rf (S.O_RoadPaintModel.f_costs a), va_rf (S.O_RoadPaintModel.f_told a), .int v, .int (S.O_RoadPaintModel.f_spot a), .int (S.O_RoadPaintModel.f_wrong a)])) b = wPF cyC cyI cyO6ae09 { S with O_RoadPaintModel := { S.O_RoadPaintModel with f_toldMany := va_up S.O_RoadPaintModel.f_toldMany a v } } b := by by_cases hb : b = a <;> first | (simp only [wPF, va_up_ne _ _ hb]; done) | (simp only [wPF, va_up, if_neg hb]; done) | simp [wPF, va_re, va_up, va_rf, hb, h]
theorem wPu_O_RoadPaintModel_f_toldMany (cyC : ClassId) (cyI : ClassId) (cyO6ae09 : ClassId) (X : va_W) (S : wPS) {A : Nat → Prop} {a k : Nat} (hD : va_D A (X ++ va_pl S.L (wPF cyC cyI cyO6ae09 S))) (hL : a ∈ S.L) (h : S.K a = 6) (hk : (X ++ va_pl S.L (wPF cyC cyI cyO6ae09 S))[k]? = some (a, wPF cyC cyI cyO6ae09 S a)) (v : Int32) : (X ++ va_pl S.L (wPF cyC cyI cyO6ae09 S)).set k (a, .inr (6, [va_rf (S.O_RoadPaintModel.f_z a), va_rf (S.O_RoadPaintModel.f_past a), .int (S.O_RoadPaintModel.f_pastMany a), va_rf (S.O_RoadPaintModel.f_kept a), .int (S.O_RoadPaintModel.f_isKept a), va_rf (S.O_RoadPaintModel.f_buffer a), .int (S.O_RoadPaintModel.f_typed a), va_rf (S.O_RoadPaintModel.f_costs a), va_rf (S.O_RoadPaintModel.f_told a), .int v, .int (S.O_RoadPaintModel.f_spot a), .int (S.O_RoadPaintModel.f_wrong a)])) = X ++ va_pl S.L (wPF cyC cyI cyO6ae09 { S with O_RoadPaintModel := { S.O_RoadPaintModel with f_toldMany := va_up S.O_RoadPaintModel.f_toldMany a v } }) := by
  rw [va_pl_set hD hL hk]
  exact congrArg (fun l => X ++ l) (va_pl_congr (wSt_O_RoadPaintModel_f_toldMany cyC cyI cyO6ae09 S h v))
theorem wSt_O_RoadPaintModel_f_spot (cyC : ClassId) (cyI : ClassId) (cyO6ae09 : ClassId) (S : wPS) {a : Nat} (h : S.K a = 6) (v : Int32) (b : Nat) : va_up (wPF cyC cyI cyO6ae09 S) a (.inr (6, [va_rf (S.O_RoadPaintModel.f_z a), va_rf (S.O_RoadPaintModel.f_past a), .int (S.O_RoadPaintModel.f_pastMany a), va_rf (S.O_RoadPaintModel.f_kept a), .int (S.O_RoadPaintModel.f_isKept a), va_rf (S.O_RoadPaintModel.f_buffer a), .int (S.O_RoadPaintModel.f_typed a), va_rf (S.O_RoadPaintModel.f_costs a), va_rf (S.O_RoadPaintModel.f_told a), .int (S.O_RoadPaintModel.f_toldMany a), .int v, .int (S.O_RoadPaintModel.f_wrong a)])) b = wPF cyC cyI cyO6ae09 { S with O_RoadPaintModel := { S.O_RoadPaintModel with f_spot := va_up S.O_RoadPaintModel.f_spot a v } } b := by by_cases hb : b = a <;> first | (simp only [wPF, va_up_ne _ _ hb]; done) | (simp only [wPF, va_up, if_neg hb]; done) | simp [wPF, va_re, va_up, va_rf, hb, h]
theorem wPu_O_RoadPaintModel_f_spot (cyC : ClassId) (cyI : ClassId) (cyO6ae09 : ClassId) (X : va_W) (S : wPS) {A : Nat → Prop} {a k : Nat} (hD : va_D A (X ++ va_pl S.L (wPF cyC cyI cyO6ae09 S))) (hL : a ∈ S.L) (h : S.K a = 6) (hk : (X ++ va_pl S.L (wPF cyC cyI cyO6ae09 S))[k]? = some (a, wPF cyC cyI cyO6ae09 S a)) (v : Int32) : (X ++ va_pl S.L (wPF cyC cyI cyO6ae09 S)).set k (a, .inr (6, [va_rf (S.O_RoadPaintModel.f_z a), va_rf (S.O_RoadPaintModel.f_past a), .int (S.O_RoadPaintModel.f_pastMany a), va_rf (S.O_RoadPaintModel.f_kept a), .int (S.O_RoadPaintModel.f_isKept a), va_rf (S.O_RoadPaintModel.f_buffer a), .int (S.O_RoadPaintModel.f_typed a), va_rf (S.O_RoadPaintModel.f_costs a), va_rf (S.O_RoadPaintModel.f_told a), .int (S.O_RoadPaintModel.f_toldMany a), .int v, .int (S.O_RoadPaintModel.f_wrong a)])) = X ++ va_pl S.L (wPF cyC cyI cyO6ae09 { S with O_RoadPaintModel := { S.O_RoadPaintModel with f_spot := va_up S.O_RoadPaintModel.f_spot a v } }) := by
  rw [va_pl_set hD hL hk]
  exact congrArg (fun l => X ++ l) (va_pl_congr (wSt_O_RoadPaintModel_f_spot cyC cyI cyO6ae09 S h v))
theorem wSt_O_RoadPaintModel_f_wrong (cyC : ClassId) (cyI : ClassId) (cyO6ae09 : ClassId) (S : wPS) {a : Nat} (h : S.K a = 6) (v : Int32) (b : Nat) : va_up (wPF cyC cyI cyO6ae09 S) a (.inr (6, [va_rf (S.O_RoadPaintModel.f_z a), va_rf (S.O_RoadPaintModel.f_past a), .int (S.O_RoadPaintModel.f_pastMany a), va_rf (S.O_RoadPaintModel.f_kept a), .int (S.O_RoadPaintModel.f_isKept a), va_rf (S.O_RoadPaintModel.f_buffer a), .int (S.O_RoadPaintModel.f_typed a), va_rf (S.O_RoadPaintModel.f_costs a), va_rf (S.O_RoadPaintModel.f_told a), .int (S.O_RoadPaintModel.f_toldMany a), .int (S.O_RoadPaintModel.f_spot a), .int v])) b = wPF cyC cyI cyO6ae09 { S with O_RoadPaintModel := { S.O_RoadPaintModel with f_wrong := va_up S.O_RoadPaintModel.f_wrong a v } } b := by by_cases hb : b = a <;> first | (simp only [wPF, va_up_ne _ _ hb]; done) | (simp only [wPF, va_up, if_neg hb]; done) | simp [wPF, va_re, va_up, va_rf, hb, h]
theorem wPu_O_RoadPaintModel_f_wrong (cyC : ClassId) (cyI : ClassId) (cyO6ae09 : ClassId) (X : va_W) (S : wPS) {A : Nat → Prop} {a k : Nat} (hD : va_D A (X ++ va_pl S.L (wPF cyC cyI cyO6ae09 S))) (hL : a ∈ S.L) (h : S.K a = 6) (hk : (X ++ va_pl S.L (wPF cyC cyI cyO6ae09 S))[k]? = some (a, wPF cyC cyI cyO6ae09 S a)) (v : Int32) : (X ++ va_pl S.L (wPF cyC cyI cyO6ae09 S)).set k (a, .inr (6, [va_rf (S.O_RoadPaintModel.f_z a), va_rf (S.O_RoadPaintModel.f_past a), .int (S.O_RoadPaintModel.f_pastMany a), va_rf (S.O_RoadPaintModel.f_kept a), .int (S.O_RoadPaintModel.f_isKept a), va_rf (S.O_RoadPaintModel.f_buffer a), .int (S.O_RoadPaintModel.f_typed a), va_rf (S.O_RoadPaintModel.f_costs a), va_rf (S.O_RoadPaintModel.f_told a), .int (S.O_RoadPaintModel.f_toldMany a), .int (S.O_RoadPaintModel.f_spot a), .int v])) = X ++ va_pl S.L (wPF cyC cyI cyO6ae09 { S with O_RoadPaintModel := { S.O_RoadPaintModel with f_wrong := va_up S.O_RoadPaintModel.f_wrong a v } }) := by
  rw [va_pl_set hD hL hk]
  exact congrArg (fun l => X ++ l) (va_pl_congr (wSt_O_RoadPaintModel_f_wrong cyC cyI cyO6ae09 S h v))
theorem wNw_O_RoadPaintModel (cyC : ClassId) (cyI : ClassId) (cyO6ae09 : ClassId) (S : wPS) (a b : Nat) : va_up (wPF cyC cyI cyO6ae09 S) a (.inr (6, [.null, .null, .int 0, .null, .int 0, .null, .int 0, .null, .null, .int 0, .int 0, .int 0])) b = wPF cyC cyI cyO6ae09 { S with L := S.L ++ [a], K := va_up S.K a 6, O_RoadPaintModel := { f_z := va_up S.O_RoadPaintModel.f_z a none, f_past := va_up S.O_RoadPaintModel.f_past a none, f_pastMany := va_up S.O_RoadPaintModel.f_pastMany a 0, f_kept := va_up S.O_RoadPaintModel.f_kept a none, f_isKept := va_up S.O_RoadPaintModel.f_isKept a 0, f_buffer := va_up S.O_RoadPaintModel.f_buffer a none, f_typed := va_up S.O_RoadPaintModel.f_typed a 0, f_costs := va_up S.O_RoadPaintModel.f_costs a none, f_told := va_up S.O_RoadPaintModel.f_told a none, f_toldMany := va_up S.O_RoadPaintModel.f_toldMany a 0, f_spot := va_up S.O_RoadPaintModel.f_spot a 0, f_wrong := va_up S.O_RoadPaintModel.f_wrong a 0 } } b := by by_cases hb : b = a <;> first | (simp only [wPF, va_up_ne _ _ hb]; done) | (simp only [wPF, va_up, if_neg hb]; done) | simp [wPF, va_re, va_up, va_rf, hb]
theorem wPn_O_RoadPaintModel (cyC : ClassId) (cyI : ClassId) (cyO6ae09 : ClassId) (X : va_W) (S : wPS) {a : Nat} (ha : a ∉ S.L) : (X ++ va_pl S.L (wPF cyC cyI cyO6ae09 S)) ++ [(a, .inr (6, [.null, .null, .int 0, .null, .int 0, .null, .int 0, .null, .null, .int 0, .int 0, .int 0]))] = X ++ va_pl (S.L ++ [a]) (wPF cyC cyI cyO6ae09 { S with L := S.L ++ [a], K := va_up S.K a 6, O_RoadPaintModel := { f_z := va_up S.O_RoadPaintModel.f_z a none, f_past := va_up S.O_RoadPaintModel.f_past a none, f_pastMany := va_up S.O_RoadPaintModel.f_pastMany a 0, f_kept := va_up S.O_RoadPaintModel.f_kept a none, f_isKept := va_up S.O_RoadPaintModel.f_isKept a 0, f_buffer := va_up S.O_RoadPaintModel.f_buffer a none, f_typed := va_up S.O_RoadPaintModel.f_typed a 0, f_costs := va_up S.O_RoadPaintModel.f_costs a none, f_told := va_up S.O_RoadPaintModel.f_told a none, f_toldMany := va_up S.O_RoadPaintModel.f_toldMany a 0, f_spot := va_up S.O_RoadPaintModel.f_spot a 0, f_wrong := va_up S.O_RoadPaintModel.f_wrong a 0 } }) := by
  rw [List.append_assoc, va_pl_push ha]
  exact congrArg (fun l => X ++ l) (va_pl_congr (wNw_O_RoadPaintModel cyC cyI cyO6ae09 S a))
theorem wAt_R_C (cyC : ClassId) (cyI : ClassId) (cyO6ae09 : ClassId) (S : wPS) {a : Nat} (h : S.K a = 7) : wPF cyC cyI cyO6ae09 S a = .inl (cyC, S.R_C.len a, .inl (S.R_C.row a)) := by simp [wPF, h]
theorem wGt_R_C (cyC : ClassId) (cyI : ClassId) (cyO6ae09 : ClassId) (X : va_W) (S : wPS) {a : Nat} (hL : a ∈ S.L) (h : S.K a = 7) : ∃ k : Nat, (X ++ va_pl S.L (wPF cyC cyI cyO6ae09 S))[k]? = some (a, wPF cyC cyI cyO6ae09 S a) ∧ (X ++ va_pl S.L (wPF cyC cyI cyO6ae09 S))[k]? = some (a, .inl (cyC, S.R_C.len a, .inl (S.R_C.row a))) := by
  obtain ⟨k, hk⟩ := va_pl_get (X := X) (f := wPF cyC cyI cyO6ae09 S) hL
  exact ⟨k, hk, hk.trans (congrArg (fun e => some (a, e)) (wAt_R_C cyC cyI cyO6ae09 S h))⟩
theorem wSt_R_C_row (cyC : ClassId) (cyI : ClassId) (cyO6ae09 : ClassId) (S : wPS) {a : Nat} (h : S.K a = 7) (v : Nat → Int32) (b : Nat) : va_up (wPF cyC cyI cyO6ae09 S) a (.inl (cyC, S.R_C.len a, .inl v)) b = wPF cyC cyI cyO6ae09 { S with R_C := { S.R_C with row := va_up S.R_C.row a v } } b := by by_cases hb : b = a <;> first | (simp only [wPF, va_up_ne _ _ hb]; done) | (simp only [wPF, va_up, if_neg hb]; done) | simp [wPF, va_re, va_up, va_rf, hb, h]
theorem wPu_R_C_row (cyC : ClassId) (cyI : ClassId) (cyO6ae09 : ClassId) (X : va_W) (S : wPS) {A : Nat → Prop} {a k : Nat} (hD : va_D A (X ++ va_pl S.L (wPF cyC cyI cyO6ae09 S))) (hL : a ∈ S.L) (h : S.K a = 7) (hk : (X ++ va_pl S.L (wPF cyC cyI cyO6ae09 S))[k]? = some (a, wPF cyC cyI cyO6ae09 S a)) (v : Nat → Int32) : (X ++ va_pl S.L (wPF cyC cyI cyO6ae09 S)).set k (a, .inl (cyC, S.R_C.len a, .inl v)) = X ++ va_pl S.L (wPF cyC cyI cyO6ae09 { S with R_C := { S.R_C with row := va_up S.R_C.row a v } }) := by
  rw [va_pl_set hD hL hk]
  exact congrArg (fun l => X ++ l) (va_pl_congr (wSt_R_C_row cyC cyI cyO6ae09 S h v))
theorem wNw_R_C (cyC : ClassId) (cyI : ClassId) (cyO6ae09 : ClassId) (S : wPS) (a : Nat) (z : Nat) (f : Nat → Int32) (b : Nat) : va_up (wPF cyC cyI cyO6ae09 S) a (.inl (cyC, z, .inl f)) b = wPF cyC cyI cyO6ae09 { S with L := S.L ++ [a], K := va_up S.K a 7, R_C := { len := va_up S.R_C.len a z, row := va_up S.R_C.row a f } } b := by by_cases hb : b = a <;> first | (simp only [wPF, va_up_ne _ _ hb]; done) | (simp only [wPF, va_up, if_neg hb]; done) | simp [wPF, va_re, va_up, va_rf, hb]
theorem wAt_R_I (cyC : ClassId) (cyI : ClassId) (cyO6ae09 : ClassId) (S : wPS) {a : Nat} (h : S.K a = 8) : wPF cyC cyI cyO6ae09 S a = .inl (cyI, S.R_I.len a, .inl (S.R_I.row a)) := by simp [wPF, h]
theorem wGt_R_I (cyC : ClassId) (cyI : ClassId) (cyO6ae09 : ClassId) (X : va_W) (S : wPS) {a : Nat} (hL : a ∈ S.L) (h : S.K a = 8) : ∃ k : Nat, (X ++ va_pl S.L (wPF cyC cyI cyO6ae09 S))[k]? = some (a, wPF cyC cyI cyO6ae09 S a) ∧ (X ++ va_pl S.L (wPF cyC cyI cyO6ae09 S))[k]? = some (a, .inl (cyI, S.R_I.len a, .inl (S.R_I.row a))) := by
  obtain ⟨k, hk⟩ := va_pl_get (X := X) (f := wPF cyC cyI cyO6ae09 S) hL
  exact ⟨k, hk, hk.trans (congrArg (fun e => some (a, e)) (wAt_R_I cyC cyI cyO6ae09 S h))⟩
theorem wSt_R_I_row (cyC : ClassId) (cyI : ClassId) (cyO6ae09 : ClassId) (S : wPS) {a : Nat} (h : S.K a = 8) (v : Nat → Int32) (b : Nat) : va_up (wPF cyC cyI cyO6ae09 S) a (.inl (cyI, S.R_I.len a, .inl v)) b = wPF cyC cyI cyO6ae09 { S with R_I := { S.R_I with row := va_up S.R_I.row a v } } b := by by_cases hb : b = a <;> first | (simp only [wPF, va_up_ne _ _ hb]; done) | (simp only [wPF, va_up, if_neg hb]; done) | simp [wPF, va_re, va_up, va_rf, hb, h]
theorem wPu_R_I_row (cyC : ClassId) (cyI : ClassId) (cyO6ae09 : ClassId) (X : va_W) (S : wPS) {A : Nat → Prop} {a k : Nat} (hD : va_D A (X ++ va_pl S.L (wPF cyC cyI cyO6ae09 S))) (hL : a ∈ S.L) (h : S.K a = 8) (hk : (X ++ va_pl S.L (wPF cyC cyI cyO6ae09 S))[k]? = some (a, wPF cyC cyI cyO6ae09 S a)) (v : Nat → Int32) : (X ++ va_pl S.L (wPF cyC cyI cyO6ae09 S)).set k (a, .inl (cyI, S.R_I.len a, .inl v)) = X ++ va_pl S.L (wPF cyC cyI cyO6ae09 { S with R_I := { S.R_I with row := va_up S.R_I.row a v } }) := by
  rw [va_pl_set hD hL hk]
  exact congrArg (fun l => X ++ l) (va_pl_congr (wSt_R_I_row cyC cyI cyO6ae09 S h v))
theorem wNw_R_I (cyC : ClassId) (cyI : ClassId) (cyO6ae09 : ClassId) (S : wPS) (a : Nat) (z : Nat) (f : Nat → Int32) (b : Nat) : va_up (wPF cyC cyI cyO6ae09 S) a (.inl (cyI, z, .inl f)) b = wPF cyC cyI cyO6ae09 { S with L := S.L ++ [a], K := va_up S.K a 8, R_I := { len := va_up S.R_I.len a z, row := va_up S.R_I.row a f } } b := by by_cases hb : b = a <;> first | (simp only [wPF, va_up_ne _ _ hb]; done) | (simp only [wPF, va_up, if_neg hb]; done) | simp [wPF, va_re, va_up, va_rf, hb]
theorem wAt_R_Road (cyC : ClassId) (cyI : ClassId) (cyO6ae09 : ClassId) (S : wPS) {a : Nat} (h : S.K a = 9) : wPF cyC cyI cyO6ae09 S a = .inl (cyO6ae09, S.R_Road.len a, .inr (.inr (.inr (.inr (S.R_Road.row a))))) := by simp [wPF, h]
theorem wGt_R_Road (cyC : ClassId) (cyI : ClassId) (cyO6ae09 : ClassId) (X : va_W) (S : wPS) {a : Nat} (hL : a ∈ S.L) (h : S.K a = 9) : ∃ k : Nat, (X ++ va_pl S.L (wPF cyC cyI cyO6ae09 S))[k]? = some (a, wPF cyC cyI cyO6ae09 S a) ∧ (X ++ va_pl S.L (wPF cyC cyI cyO6ae09 S))[k]? = some (a, .inl (cyO6ae09, S.R_Road.len a, .inr (.inr (.inr (.inr (S.R_Road.row a)))))) := by
  obtain ⟨k, hk⟩ := va_pl_get (X := X) (f := wPF cyC cyI cyO6ae09 S) hL
  exact ⟨k, hk, hk.trans (congrArg (fun e => some (a, e)) (wAt_R_Road cyC cyI cyO6ae09 S h))⟩
theorem wSt_R_Road_row (cyC : ClassId) (cyI : ClassId) (cyO6ae09 : ClassId) (S : wPS) {a : Nat} (h : S.K a = 9) (v : Nat → Option Nat) (b : Nat) : va_up (wPF cyC cyI cyO6ae09 S) a (.inl (cyO6ae09, S.R_Road.len a, .inr (.inr (.inr (.inr v))))) b = wPF cyC cyI cyO6ae09 { S with R_Road := { S.R_Road with row := va_up S.R_Road.row a v } } b := by by_cases hb : b = a <;> first | (simp only [wPF, va_up_ne _ _ hb]; done) | (simp only [wPF, va_up, if_neg hb]; done) | simp [wPF, va_re, va_up, va_rf, hb, h]
theorem wPu_R_Road_row (cyC : ClassId) (cyI : ClassId) (cyO6ae09 : ClassId) (X : va_W) (S : wPS) {A : Nat → Prop} {a k : Nat} (hD : va_D A (X ++ va_pl S.L (wPF cyC cyI cyO6ae09 S))) (hL : a ∈ S.L) (h : S.K a = 9) (hk : (X ++ va_pl S.L (wPF cyC cyI cyO6ae09 S))[k]? = some (a, wPF cyC cyI cyO6ae09 S a)) (v : Nat → Option Nat) : (X ++ va_pl S.L (wPF cyC cyI cyO6ae09 S)).set k (a, .inl (cyO6ae09, S.R_Road.len a, .inr (.inr (.inr (.inr v))))) = X ++ va_pl S.L (wPF cyC cyI cyO6ae09 { S with R_Road := { S.R_Road with row := va_up S.R_Road.row a v } }) := by
  rw [va_pl_set hD hL hk]
  exact congrArg (fun l => X ++ l) (va_pl_congr (wSt_R_Road_row cyC cyI cyO6ae09 S h v))
theorem wNw_R_Road (cyC : ClassId) (cyI : ClassId) (cyO6ae09 : ClassId) (S : wPS) (a : Nat) (z : Nat) (f : Nat → Option Nat) (b : Nat) : va_up (wPF cyC cyI cyO6ae09 S) a (.inl (cyO6ae09, z, .inr (.inr (.inr (.inr f))))) b = wPF cyC cyI cyO6ae09 { S with L := S.L ++ [a], K := va_up S.K a 9, R_Road := { len := va_up S.R_Road.len a z, row := va_up S.R_Road.row a f } } b := by by_cases hb : b = a <;> first | (simp only [wPF, va_up_ne _ _ hb]; done) | (simp only [wPF, va_up, if_neg hb]; done) | simp [wPF, va_re, va_up, va_rf, hb]
/-! ===== END printed: names ===== -/


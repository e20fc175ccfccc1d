set_option maxRecDepth 20000 in
theorem ggX6_reason_X6_meets : GoodIn wsX6_reason wsX6_meets := goodIn_r _ [19] (by decide +kernel) (by decide +kernel)
set_option maxRecDepth 20000 in
theorem gX6_reason_X6_meets : GoodIn wsX6_reason (va_wsS RX6 55 yX6_meets wsX6_meets) := goodIn_app (goodIn_of _ (by decide +kernel)) ggX6_reason_X6_meets
set_option maxRecDepth 20000 in
theorem ggX6_reason_X6_in : GoodIn wsX6_reason wsX6_in := goodIn_r _ [9] (by decide +kernel) (by decide +kernel)
set_option maxRecDepth 20000 in
theorem gX6_reason_X6_in : GoodIn wsX6_reason (va_wsS RX6 29 yX6_in wsX6_in) := goodIn_app (goodIn_of _ (by decide +kernel)) ggX6_reason_X6_in
set_option maxRecDepth 20000 in
theorem ggX6_reason_X6_wayAt : GoodIn wsX6_reason wsX6_wayAt := goodIn_r _ [13, 1, 14, 15, 5, 16, 23, 24, 25, 26, 27, 28, 29, 30, 31, 32, 33, 34] (by decide +kernel) (by decide +kernel)
set_option maxRecDepth 20000 in
theorem gX6_reason_X6_wayAt : GoodIn wsX6_reason (wsV RX6 48 RX6 yX6_wayAt wsX6_wayAt) := goodIn_app (goodIn_of _ (by decide +kernel)) ggX6_reason_X6_wayAt
set_option maxRecDepth 20000 in
theorem ggX6_reason_X6_lineAt : GoodIn wsX6_reason wsX6_lineAt := goodIn_r _ [22] (by decide +kernel) (by decide +kernel)
set_option maxRecDepth 20000 in
theorem gX6_reason_X6_lineAt : GoodIn wsX6_reason (va_wsS RX6 59 yX6_lineAt wsX6_lineAt) := goodIn_app (goodIn_of _ (by decide +kernel)) ggX6_reason_X6_lineAt
theorem dX6_reason_0 : decode cX6_reason 0 = .ok (.aload_n 0, 1) := by decide +kernel
theorem dX6_reason_1 : decode cX6_reason 1 = .ok (.iload_n 1, 1) := by decide +kernel
theorem dX6_reason_2 : decode cX6_reason 2 = .ok (.iload_n 2, 1) := by decide +kernel
theorem dX6_reason_3 : decode cX6_reason 3 = .ok (.iconst 1, 1) := by decide +kernel
theorem dX6_reason_4 : decode cX6_reason 4 = .ok (.invokevirtual 51, 3) := by decide +kernel
theorem dX6_reason_7 : decode cX6_reason 7 = .ok (.istore 4, 2) := by decide +kernel
theorem dX6_reason_9 : decode cX6_reason 9 = .ok (.aload_n 0, 1) := by decide +kernel
theorem dX6_reason_10 : decode cX6_reason 10 = .ok (.iload_n 1, 1) := by decide +kernel
theorem dX6_reason_11 : decode cX6_reason 11 = .ok (.iload_n 2, 1) := by decide +kernel
theorem dX6_reason_12 : decode cX6_reason 12 = .ok (.iconst (-1), 1) := by decide +kernel
theorem dX6_reason_13 : decode cX6_reason 13 = .ok (.invokevirtual 51, 3) := by decide +kernel
theorem dX6_reason_16 : decode cX6_reason 16 = .ok (.istore 5, 2) := by decide +kernel
theorem dX6_reason_18 : decode cX6_reason 18 = .ok (.iload 4, 2) := by decide +kernel
theorem dX6_reason_20 : decode cX6_reason 20 = .ok (.bipush (-6), 2) := by decide +kernel
theorem dX6_reason_22 : decode cX6_reason 22 = .ok (.if_icmp .eq 12, 3) := by decide +kernel
theorem dX6_reason_25 : decode cX6_reason 25 = .ok (.iload_n 3, 1) := by decide +kernel
theorem dX6_reason_26 : decode cX6_reason 26 = .ok (.iload 4, 2) := by decide +kernel
theorem dX6_reason_28 : decode cX6_reason 28 = .ok (.invokestatic 55, 3) := by decide +kernel
theorem dX6_reason_31 : decode cX6_reason 31 = .ok (.ifCond .ne 19, 3) := by decide +kernel
theorem dX6_reason_34 : decode cX6_reason 34 = .ok (.iload 5, 2) := by decide +kernel
theorem dX6_reason_36 : decode cX6_reason 36 = .ok (.bipush (-6), 2) := by decide +kernel
theorem dX6_reason_38 : decode cX6_reason 38 = .ok (.if_icmp .eq 14, 3) := by decide +kernel
theorem dX6_reason_41 : decode cX6_reason 41 = .ok (.iload 5, 2) := by decide +kernel
theorem dX6_reason_43 : decode cX6_reason 43 = .ok (.iload_n 3, 1) := by decide +kernel
theorem dX6_reason_44 : decode cX6_reason 44 = .ok (.invokestatic 55, 3) := by decide +kernel
theorem dX6_reason_47 : decode cX6_reason 47 = .ok (.ifCond .eq 5, 3) := by decide +kernel
theorem dX6_reason_50 : decode cX6_reason 50 = .ok (.iconst 1, 1) := by decide +kernel
theorem dX6_reason_51 : decode cX6_reason 51 = .ok (.ireturn, 1) := by decide +kernel
theorem dX6_reason_52 : decode cX6_reason 52 = .ok (.iload_n 1, 1) := by decide +kernel
theorem dX6_reason_53 : decode cX6_reason 53 = .ok (.iconst 1, 1) := by decide +kernel
theorem dX6_reason_54 : decode cX6_reason 54 = .ok (.isub, 1) := by decide +kernel
theorem dX6_reason_55 : decode cX6_reason 55 = .ok (.istore 6, 2) := by decide +kernel
theorem dX6_reason_57 : decode cX6_reason 57 = .ok (.iload 6, 2) := by decide +kernel
theorem dX6_reason_59 : decode cX6_reason 59 = .ok (.iload_n 1, 1) := by decide +kernel
theorem dX6_reason_60 : decode cX6_reason 60 = .ok (.iconst 1, 1) := by decide +kernel
theorem dX6_reason_61 : decode cX6_reason 61 = .ok (.iadd, 1) := by decide +kernel
theorem dX6_reason_62 : decode cX6_reason 62 = .ok (.if_icmp .gt 73, 3) := by decide +kernel
theorem dX6_reason_65 : decode cX6_reason 65 = .ok (.iload 6, 2) := by decide +kernel
theorem dX6_reason_67 : decode cX6_reason 67 = .ok (.iconst 0, 1) := by decide +kernel
theorem dX6_reason_68 : decode cX6_reason 68 = .ok (.iconst 2, 1) := by decide +kernel
theorem dX6_reason_69 : decode cX6_reason 69 = .ok (.invokestatic 29, 3) := by decide +kernel
theorem dX6_reason_72 : decode cX6_reason 72 = .ok (.ifCond .eq 57, 3) := by decide +kernel
theorem dX6_reason_75 : decode cX6_reason 75 = .ok (.iload_n 3, 1) := by decide +kernel
theorem dX6_reason_76 : decode cX6_reason 76 = .ok (.iconst 2, 1) := by decide +kernel
theorem dX6_reason_77 : decode cX6_reason 77 = .ok (.if_icmp .ge 52, 3) := by decide +kernel
theorem dX6_reason_80 : decode cX6_reason 80 = .ok (.aload_n 0, 1) := by decide +kernel
theorem dX6_reason_81 : decode cX6_reason 81 = .ok (.iload 6, 2) := by decide +kernel
theorem dX6_reason_83 : decode cX6_reason 83 = .ok (.iload_n 2, 1) := by decide +kernel
theorem dX6_reason_84 : decode cX6_reason 84 = .ok (.invokevirtual 48, 3) := by decide +kernel
theorem dX6_reason_87 : decode cX6_reason 87 = .ok (.iconst 1, 1) := by decide +kernel
theorem dX6_reason_88 : decode cX6_reason 88 = .ok (.iload_n 3, 1) := by decide +kernel
theorem dX6_reason_89 : decode cX6_reason 89 = .ok (.isub, 1) := by decide +kernel
theorem dX6_reason_90 : decode cX6_reason 90 = .ok (.if_icmp .ne 39, 3) := by decide +kernel
theorem dX6_reason_93 : decode cX6_reason 93 = .ok (.aload_n 0, 1) := by decide +kernel
theorem dX6_reason_94 : decode cX6_reason 94 = .ok (.getfield 7, 3) := by decide +kernel
theorem dX6_reason_97 : decode cX6_reason 97 = .ok (.iload 6, 2) := by decide +kernel
theorem dX6_reason_99 : decode cX6_reason 99 = .ok (.iload_n 1, 1) := by decide +kernel
theorem dX6_reason_100 : decode cX6_reason 100 = .ok (.if_icmp .ge 8, 3) := by decide +kernel
theorem dX6_reason_103 : decode cX6_reason 103 = .ok (.iload 6, 2) := by decide +kernel
theorem dX6_reason_105 : decode cX6_reason 105 = .ok (.goto 4, 3) := by decide +kernel
theorem dX6_reason_108 : decode cX6_reason 108 = .ok (.iload_n 1, 1) := by decide +kernel
theorem dX6_reason_109 : decode cX6_reason 109 = .ok (.iload_n 2, 1) := by decide +kernel
theorem dX6_reason_110 : decode cX6_reason 110 = .ok (.invokestatic 59, 3) := by decide +kernel
theorem dX6_reason_113 : decode cX6_reason 113 = .ok (.iaload, 1) := by decide +kernel
theorem dX6_reason_114 : decode cX6_reason 114 = .ok (.istore 7, 2) := by decide +kernel
theorem dX6_reason_116 : decode cX6_reason 116 = .ok (.iload 7, 2) := by decide +kernel
theorem dX6_reason_118 : decode cX6_reason 118 = .ok (.ifCond .eq 9, 3) := by decide +kernel
theorem dX6_reason_121 : decode cX6_reason 121 = .ok (.iload 7, 2) := by decide +kernel
theorem dX6_reason_123 : decode cX6_reason 123 = .ok (.iconst 2, 1) := by decide +kernel
theorem dX6_reason_124 : decode cX6_reason 124 = .ok (.if_icmp .ne 5, 3) := by decide +kernel
theorem dX6_reason_127 : decode cX6_reason 127 = .ok (.iconst 2, 1) := by decide +kernel
theorem dX6_reason_128 : decode cX6_reason 128 = .ok (.ireturn, 1) := by decide +kernel
theorem dX6_reason_129 : decode cX6_reason 129 = .ok (.iinc 6 2, 3) := by decide +kernel
theorem dX6_reason_132 : decode cX6_reason 132 = .ok (.goto (-75), 3) := by decide +kernel
theorem dX6_reason_135 : decode cX6_reason 135 = .ok (.iconst 0, 1) := by decide +kernel
theorem dX6_reason_136 : decode cX6_reason 136 = .ok (.ireturn, 1) := by decide +kernel
theorem dX6_cellSigns_0 : decode cX6_cellSigns 0 = .ok (.iconst 0, 1) := by decide +kernel
theorem dX6_cellSigns_1 : decode cX6_cellSigns 1 = .ok (.istore_n 2, 1) := by decide +kernel
theorem dX6_cellSigns_2 : decode cX6_cellSigns 2 = .ok (.bipush 12, 2) := by decide +kernel
theorem dX6_cellSigns_4 : decode cX6_cellSigns 4 = .ok (.iload_n 1, 1) := by decide +kernel
theorem dX6_cellSigns_5 : decode cX6_cellSigns 5 = .ok (.iadd, 1) := by decide +kernel
theorem dX6_cellSigns_6 : decode cX6_cellSigns 6 = .ok (.istore_n 3, 1) := by decide +kernel
theorem dX6_cellSigns_7 : decode cX6_cellSigns 7 = .ok (.iload_n 3, 1) := by decide +kernel
theorem dX6_cellSigns_8 : decode cX6_cellSigns 8 = .ok (.sipush 204, 3) := by decide +kernel
theorem dX6_cellSigns_11 : decode cX6_cellSigns 11 = .ok (.if_icmp .ge 26, 3) := by decide +kernel
theorem dX6_cellSigns_14 : decode cX6_cellSigns 14 = .ok (.iload_n 2, 1) := by decide +kernel
theorem dX6_cellSigns_15 : decode cX6_cellSigns 15 = .ok (.aload_n 0, 1) := by decide +kernel
theorem dX6_cellSigns_16 : decode cX6_cellSigns 16 = .ok (.getfield 7, 3) := by decide +kernel
theorem dX6_cellSigns_19 : decode cX6_cellSigns 19 = .ok (.iload_n 3, 1) := by decide +kernel
theorem dX6_cellSigns_20 : decode cX6_cellSigns 20 = .ok (.iaload, 1) := by decide +kernel
theorem dX6_cellSigns_21 : decode cX6_cellSigns 21 = .ok (.ifCond .le 7, 3) := by decide +kernel
theorem dX6_cellSigns_24 : decode cX6_cellSigns 24 = .ok (.iconst 1, 1) := by decide +kernel
theorem dX6_cellSigns_25 : decode cX6_cellSigns 25 = .ok (.goto 4, 3) := by decide +kernel
theorem dX6_cellSigns_28 : decode cX6_cellSigns 28 = .ok (.iconst 0, 1) := by decide +kernel
theorem dX6_cellSigns_29 : decode cX6_cellSigns 29 = .ok (.iadd, 1) := by decide +kernel
theorem dX6_cellSigns_30 : decode cX6_cellSigns 30 = .ok (.istore_n 2, 1) := by decide +kernel
theorem dX6_cellSigns_31 : decode cX6_cellSigns 31 = .ok (.iinc 3 4, 3) := by decide +kernel
theorem dX6_cellSigns_34 : decode cX6_cellSigns 34 = .ok (.goto (-27), 3) := by decide +kernel
theorem dX6_cellSigns_37 : decode cX6_cellSigns 37 = .ok (.iload_n 2, 1) := by decide +kernel
theorem dX6_cellSigns_38 : decode cX6_cellSigns 38 = .ok (.ireturn, 1) := by decide +kernel
set_option maxRecDepth 20000 in
theorem ggX6_whyNotArrow_X6_isCell : GoodIn wsX6_whyNotArrow wsX6_isCell := goodIn_r _ [4, 5, 6, 3, 7] (by decide +kernel) (by decide +kernel)
set_option maxRecDepth 20000 in
theorem gX6_whyNotArrow_X6_isCell : GoodIn wsX6_whyNotArrow (va_wsS RX6 62 yX6_isCell wsX6_isCell) := goodIn_app (goodIn_of _ (by decide +kernel)) ggX6_whyNotArrow_X6_isCell
set_option maxRecDepth 20000 in
theorem ggX6_whyNotArrow_X6_in : GoodIn wsX6_whyNotArrow wsX6_in := goodIn_r _ [7] (by decide +kernel) (by decide +kernel)
set_option maxRecDepth 20000 in
theorem gX6_whyNotArrow_X6_in : GoodIn wsX6_whyNotArrow (va_wsS RX6 29 yX6_in wsX6_in) := goodIn_app (goodIn_of _ (by decide +kernel)) ggX6_whyNotArrow_X6_in
set_option maxRecDepth 20000 in
theorem ggX6_whyNotArrow_X6_reason : GoodIn wsX6_whyNotArrow wsX6_reason := goodIn_r _ [11, 12, 13, 14, 15, 3, 16, 5, 6, 7, 17, 18, 19, 20, 21, 22, 23, 24, 25, 26, 27, 28, 29, 30, 31, 32, 33, 34, 35, 36, 37, 38, 39, 40, 41] (by decide +kernel) (by decide +kernel)
set_option maxRecDepth 20000 in
theorem gX6_whyNotArrow_X6_reason : GoodIn wsX6_whyNotArrow (wsV RX6 65 RX6 yX6_reason wsX6_reason) := goodIn_app (goodIn_of _ (by decide +kernel)) ggX6_whyNotArrow_X6_reason
theorem dX6_whyNotArrow_0 : decode cX6_whyNotArrow 0 = .ok (.iload_n 1, 1) := by decide +kernel
theorem dX6_whyNotArrow_1 : decode cX6_whyNotArrow 1 = .ok (.iload_n 2, 1) := by decide +kernel
theorem dX6_whyNotArrow_2 : decode cX6_whyNotArrow 2 = .ok (.invokestatic 62, 3) := by decide +kernel
theorem dX6_whyNotArrow_5 : decode cX6_whyNotArrow 5 = .ok (.ifCond .ne 7, 3) := by decide +kernel
theorem dX6_whyNotArrow_8 : decode cX6_whyNotArrow 8 = .ok (.iconst (-1), 1) := by decide +kernel
theorem dX6_whyNotArrow_9 : decode cX6_whyNotArrow 9 = .ok (.goto 33, 3) := by decide +kernel
theorem dX6_whyNotArrow_12 : decode cX6_whyNotArrow 12 = .ok (.iload_n 3, 1) := by decide +kernel
theorem dX6_whyNotArrow_13 : decode cX6_whyNotArrow 13 = .ok (.iconst 0, 1) := by decide +kernel
theorem dX6_whyNotArrow_14 : decode cX6_whyNotArrow 14 = .ok (.iconst 2, 1) := by decide +kernel
theorem dX6_whyNotArrow_15 : decode cX6_whyNotArrow 15 = .ok (.invokestatic 29, 3) := by decide +kernel
theorem dX6_whyNotArrow_18 : decode cX6_whyNotArrow 18 = .ok (.ifCond .ne 8, 3) := by decide +kernel
theorem dX6_whyNotArrow_21 : decode cX6_whyNotArrow 21 = .ok (.bipush (-2), 2) := by decide +kernel
theorem dX6_whyNotArrow_23 : decode cX6_whyNotArrow 23 = .ok (.goto 19, 3) := by decide +kernel
theorem dX6_whyNotArrow_26 : decode cX6_whyNotArrow 26 = .ok (.aload_n 0, 1) := by decide +kernel
theorem dX6_whyNotArrow_27 : decode cX6_whyNotArrow 27 = .ok (.iload_n 1, 1) := by decide +kernel
theorem dX6_whyNotArrow_28 : decode cX6_whyNotArrow 28 = .ok (.iload_n 2, 1) := by decide +kernel
theorem dX6_whyNotArrow_29 : decode cX6_whyNotArrow 29 = .ok (.iload_n 3, 1) := by decide +kernel
theorem dX6_whyNotArrow_30 : decode cX6_whyNotArrow 30 = .ok (.invokevirtual 65, 3) := by decide +kernel
theorem dX6_whyNotArrow_33 : decode cX6_whyNotArrow 33 = .ok (.ifCond .le 8, 3) := by decide +kernel
theorem dX6_whyNotArrow_36 : decode cX6_whyNotArrow 36 = .ok (.bipush (-3), 2) := by decide +kernel
theorem dX6_whyNotArrow_38 : decode cX6_whyNotArrow 38 = .ok (.goto 4, 3) := by decide +kernel
theorem dX6_whyNotArrow_41 : decode cX6_whyNotArrow 41 = .ok (.iconst 0, 1) := by decide +kernel
theorem dX6_whyNotArrow_42 : decode cX6_whyNotArrow 42 = .ok (.ireturn, 1) := by decide +kernel
theorem dX6_signs_0 : decode cX6_signs 0 = .ok (.aload_n 0, 1) := by decide +kernel
theorem dX6_signs_1 : decode cX6_signs 1 = .ok (.getfield 7, 3) := by decide +kernel
theorem dX6_signs_4 : decode cX6_signs 4 = .ok (.iload_n 1, 1) := by decide +kernel
theorem dX6_signs_5 : decode cX6_signs 5 = .ok (.iload_n 2, 1) := by decide +kernel
theorem dX6_signs_6 : decode cX6_signs 6 = .ok (.iastore, 1) := by decide +kernel
theorem dX6_signs_7 : decode cX6_signs 7 = .ok (.aload_n 0, 1) := by decide +kernel
theorem dX6_signs_8 : decode cX6_signs 8 = .ok (.getfield 7, 3) := by decide +kernel
theorem dX6_signs_11 : decode cX6_signs 11 = .ok (.iload_n 1, 1) := by decide +kernel
theorem dX6_signs_12 : decode cX6_signs 12 = .ok (.iconst 1, 1) := by decide +kernel
theorem dX6_signs_13 : decode cX6_signs 13 = .ok (.iadd, 1) := by decide +kernel
theorem dX6_signs_14 : decode cX6_signs 14 = .ok (.iload_n 2, 1) := by decide +kernel
theorem dX6_signs_15 : decode cX6_signs 15 = .ok (.ifCond .ne 7, 3) := by decide +kernel
theorem dX6_signs_18 : decode cX6_signs 18 = .ok (.iconst 0, 1) := by decide +kernel
theorem dX6_signs_19 : decode cX6_signs 19 = .ok (.goto 5, 3) := by decide +kernel
theorem dX6_signs_22 : decode cX6_signs 22 = .ok (.bipush 100, 2) := by decide +kernel
theorem dX6_signs_24 : decode cX6_signs 24 = .ok (.iastore, 1) := by decide +kernel
theorem dX6_signs_25 : decode cX6_signs 25 = .ok (.iload_n 2, 1) := by decide +kernel
theorem dX6_signs_26 : decode cX6_signs 26 = .ok (.ireturn, 1) := by decide +kernel
set_option maxRecDepth 20000 in
theorem ggX6_arrow_X6_whyNotArrow : GoodIn wsX6_arrow wsX6_whyNotArrow := goodIn_r _ [5, 6, 7, 4, 8, 9, 10, 11, 12, 13, 14, 15, 16, 17, 18, 19, 20, 21, 22, 23, 24, 25, 26, 27, 28, 29, 30, 31, 32, 33, 48, 49, 50, 51, 52, 53, 54, 55, 56, 57, 58, 59] (by decide +kernel) (by decide +kernel)
set_option maxRecDepth 20000 in
theorem gX6_arrow_X6_whyNotArrow : GoodIn wsX6_arrow (wsV RX6 68 RX6 yX6_whyNotArrow wsX6_whyNotArrow) := goodIn_app (goodIn_of _ (by decide +kernel)) ggX6_arrow_X6_whyNotArrow
set_option maxRecDepth 20000 in
theorem ggX6_arrow_X6_record : GoodIn wsX6_arrow wsX6_record := goodIn_r _ [37, 38, 39, 16, 48, 49, 50, 51, 52, 53, 54, 55, 56, 57, 58, 59] (by decide +kernel) (by decide +kernel)
set_option maxRecDepth 20000 in
theorem gX6_arrow_X6_record : GoodIn wsX6_arrow (wsV RX6 45 RX6 yX6_record wsX6_record) := goodIn_app (goodIn_of _ (by decide +kernel)) ggX6_arrow_X6_record
set_option maxRecDepth 20000 in
theorem ggX6_arrow_X6_cellAt : GoodIn wsX6_arrow wsX6_cellAt := goodIn_r _ [27] (by decide +kernel) (by decide +kernel)
set_option maxRecDepth 20000 in
theorem gX6_arrow_X6_cellAt : GoodIn wsX6_arrow (va_wsS RX6 33 yX6_cellAt wsX6_cellAt) := goodIn_app (goodIn_of _ (by decide +kernel)) ggX6_arrow_X6_cellAt
set_option maxRecDepth 20000 in
theorem ggX6_arrow_X6_signs : GoodIn wsX6_arrow wsX6_signs := goodIn_r _ [43, 16, 48, 49, 50, 51, 52, 53, 54, 55, 56, 57, 58, 59] (by decide +kernel) (by decide +kernel)
set_option maxRecDepth 20000 in
theorem gX6_arrow_X6_signs : GoodIn wsX6_arrow (wsV RX6 71 RX6 yX6_signs wsX6_signs) := goodIn_app (goodIn_of _ (by decide +kernel)) ggX6_arrow_X6_signs
set_option maxRecDepth 20000 in
theorem ggX6_arrow_X6_cellSigns : GoodIn wsX6_arrow wsX6_cellSigns := goodIn_r _ [47, 16, 48, 49, 50, 51, 52, 53, 54, 55, 56, 57, 58, 59] (by decide +kernel) (by decide +kernel)
set_option maxRecDepth 20000 in
theorem gX6_arrow_X6_cellSigns : GoodIn wsX6_arrow (wsV RX6 74 RX6 yX6_cellSigns wsX6_cellSigns) := goodIn_app (goodIn_of _ (by decide +kernel)) ggX6_arrow_X6_cellSigns
theorem dX6_arrow_0 : decode cX6_arrow 0 = .ok (.aload_n 0, 1) := by decide +kernel
theorem dX6_arrow_1 : decode cX6_arrow 1 = .ok (.iload_n 1, 1) := by decide +kernel
theorem dX6_arrow_2 : decode cX6_arrow 2 = .ok (.iload_n 2, 1) := by decide +kernel
theorem dX6_arrow_3 : decode cX6_arrow 3 = .ok (.iload_n 3, 1) := by decide +kernel
theorem dX6_arrow_4 : decode cX6_arrow 4 = .ok (.invokevirtual 68, 3) := by decide +kernel
theorem dX6_arrow_7 : decode cX6_arrow 7 = .ok (.istore 4, 2) := by decide +kernel
theorem dX6_arrow_9 : decode cX6_arrow 9 = .ok (.iload 4, 2) := by decide +kernel
theorem dX6_arrow_11 : decode cX6_arrow 11 = .ok (.ifCond .ge 6, 3) := by decide +kernel
theorem dX6_arrow_14 : decode cX6_arrow 14 = .ok (.iload 4, 2) := by decide +kernel
theorem dX6_arrow_16 : decode cX6_arrow 16 = .ok (.ireturn, 1) := by decide +kernel
theorem dX6_arrow_17 : decode cX6_arrow 17 = .ok (.aload_n 0, 1) := by decide +kernel
theorem dX6_arrow_18 : decode cX6_arrow 18 = .ok (.invokevirtual 45, 3) := by decide +kernel
theorem dX6_arrow_21 : decode cX6_arrow 21 = .ok (.aload_n 0, 1) := by decide +kernel
theorem dX6_arrow_22 : decode cX6_arrow 22 = .ok (.iload_n 1, 1) := by decide +kernel
theorem dX6_arrow_23 : decode cX6_arrow 23 = .ok (.iload_n 2, 1) := by decide +kernel
theorem dX6_arrow_24 : decode cX6_arrow 24 = .ok (.invokestatic 33, 3) := by decide +kernel
theorem dX6_arrow_27 : decode cX6_arrow 27 = .ok (.iload_n 3, 1) := by decide +kernel
theorem dX6_arrow_28 : decode cX6_arrow 28 = .ok (.iconst 1, 1) := by decide +kernel
theorem dX6_arrow_29 : decode cX6_arrow 29 = .ok (.iadd, 1) := by decide +kernel
theorem dX6_arrow_30 : decode cX6_arrow 30 = .ok (.invokevirtual 71, 3) := by decide +kernel
theorem dX6_arrow_33 : decode cX6_arrow 33 = .ok (.pop, 1) := by decide +kernel
theorem dX6_arrow_34 : decode cX6_arrow 34 = .ok (.aload_n 0, 1) := by decide +kernel
theorem dX6_arrow_35 : decode cX6_arrow 35 = .ok (.iconst 0, 1) := by decide +kernel
theorem dX6_arrow_36 : decode cX6_arrow 36 = .ok (.invokevirtual 74, 3) := by decide +kernel
theorem dX6_arrow_39 : decode cX6_arrow 39 = .ok (.ireturn, 1) := by decide +kernel
set_option maxRecDepth 20000 in
theorem ggX6_whyNotWord_X6_isCell : GoodIn wsX6_whyNotWord wsX6_isCell := goodIn_r _ [4, 5, 6, 3, 7] (by decide +kernel) (by decide +kernel)
set_option maxRecDepth 20000 in
theorem gX6_whyNotWord_X6_isCell : GoodIn wsX6_whyNotWord (va_wsS RX6 62 yX6_isCell wsX6_isCell) := goodIn_app (goodIn_of _ (by decide +kernel)) ggX6_whyNotWord_X6_isCell
set_option maxRecDepth 20000 in
theorem ggX6_whyNotWord_X6_in : GoodIn wsX6_whyNotWord wsX6_in := goodIn_r _ [7] (by decide +kernel) (by decide +kernel)
set_option maxRecDepth 20000 in
theorem gX6_whyNotWord_X6_in : GoodIn wsX6_whyNotWord (va_wsS RX6 29 yX6_in wsX6_in) := goodIn_app (goodIn_of _ (by decide +kernel)) ggX6_whyNotWord_X6_in
theorem dX6_whyNotWord_0 : decode cX6_whyNotWord 0 = .ok (.iload_n 0, 1) := by decide +kernel
theorem dX6_whyNotWord_1 : decode cX6_whyNotWord 1 = .ok (.iload_n 1, 1) := by decide +kernel
theorem dX6_whyNotWord_2 : decode cX6_whyNotWord 2 = .ok (.invokestatic 62, 3) := by decide +kernel
theorem dX6_whyNotWord_5 : decode cX6_whyNotWord 5 = .ok (.ifCond .ne 7, 3) := by decide +kernel
theorem dX6_whyNotWord_8 : decode cX6_whyNotWord 8 = .ok (.iconst (-1), 1) := by decide +kernel
theorem dX6_whyNotWord_9 : decode cX6_whyNotWord 9 = .ok (.goto 18, 3) := by decide +kernel
theorem dX6_whyNotWord_12 : decode cX6_whyNotWord 12 = .ok (.iload_n 2, 1) := by decide +kernel
theorem dX6_whyNotWord_13 : decode cX6_whyNotWord 13 = .ok (.iconst 0, 1) := by decide +kernel
theorem dX6_whyNotWord_14 : decode cX6_whyNotWord 14 = .ok (.iconst 3, 1) := by decide +kernel
theorem dX6_whyNotWord_15 : decode cX6_whyNotWord 15 = .ok (.invokestatic 29, 3) := by decide +kernel
theorem dX6_whyNotWord_18 : decode cX6_whyNotWord 18 = .ok (.ifCond .eq 7, 3) := by decide +kernel
theorem dX6_whyNotWord_21 : decode cX6_whyNotWord 21 = .ok (.iconst 0, 1) := by decide +kernel
theorem dX6_whyNotWord_22 : decode cX6_whyNotWord 22 = .ok (.goto 5, 3) := by decide +kernel
theorem dX6_whyNotWord_25 : decode cX6_whyNotWord 25 = .ok (.bipush (-2), 2) := by decide +kernel
theorem dX6_whyNotWord_27 : decode cX6_whyNotWord 27 = .ok (.ireturn, 1) := by decide +kernel
set_option maxRecDepth 20000 in
theorem ggX6_word_X6_whyNotWord : GoodIn wsX6_word wsX6_whyNotWord := goodIn_r _ [4, 5, 6, 3, 7, 8, 9, 10] (by decide +kernel) (by decide +kernel)
set_option maxRecDepth 20000 in
theorem gX6_word_X6_whyNotWord : GoodIn wsX6_word (va_wsS RX6 78 yX6_whyNotWord wsX6_whyNotWord) := goodIn_app (goodIn_of _ (by decide +kernel)) ggX6_word_X6_whyNotWord
set_option maxRecDepth 20000 in
theorem ggX6_word_X6_record : GoodIn wsX6_word wsX6_record := goodIn_r _ [14, 15, 16, 17, 29, 30, 31, 32, 33, 34, 35, 36, 37, 38, 39, 40] (by decide +kernel) (by decide +kernel)
set_option maxRecDepth 20000 in
theorem gX6_word_X6_record : GoodIn wsX6_word (wsV RX6 45 RX6 yX6_record wsX6_record) := goodIn_app (goodIn_of _ (by decide +kernel)) ggX6_word_X6_record
set_option maxRecDepth 20000 in
theorem ggX6_word_X6_cellAt : GoodIn wsX6_word wsX6_cellAt := goodIn_r _ [20] (by decide +kernel) (by decide +kernel)
set_option maxRecDepth 20000 in
theorem gX6_word_X6_cellAt : GoodIn wsX6_word (va_wsS RX6 33 yX6_cellAt wsX6_cellAt) := goodIn_app (goodIn_of _ (by decide +kernel)) ggX6_word_X6_cellAt
set_option maxRecDepth 20000 in
theorem ggX6_word_X6_signs : GoodIn wsX6_word wsX6_signs := goodIn_r _ [24, 17, 29, 30, 31, 32, 33, 34, 35, 36, 37, 38, 39, 40] (by decide +kernel) (by decide +kernel)
set_option maxRecDepth 20000 in
theorem gX6_word_X6_signs : GoodIn wsX6_word (wsV RX6 71 RX6 yX6_signs wsX6_signs) := goodIn_app (goodIn_of _ (by decide +kernel)) ggX6_word_X6_signs
set_option maxRecDepth 20000 in
theorem ggX6_word_X6_cellSigns : GoodIn wsX6_word wsX6_cellSigns := goodIn_r _ [28, 17, 29, 30, 31, 32, 33, 34, 35, 36, 37, 38, 39, 40] (by decide +kernel) (by decide +kernel)
set_option maxRecDepth 20000 in
theorem gX6_word_X6_cellSigns : GoodIn wsX6_word (wsV RX6 74 RX6 yX6_cellSigns wsX6_cellSigns) := goodIn_app (goodIn_of _ (by decide +kernel)) ggX6_word_X6_cellSigns
theorem dX6_word_0 : decode cX6_word 0 = .ok (.iload_n 1, 1) := by decide +kernel
theorem dX6_word_1 : decode cX6_word 1 = .ok (.iload_n 2, 1) := by decide +kernel
theorem dX6_word_2 : decode cX6_word 2 = .ok (.iload_n 3, 1) := by decide +kernel
theorem dX6_word_3 : decode cX6_word 3 = .ok (.invokestatic 78, 3) := by decide +kernel
theorem dX6_word_6 : decode cX6_word 6 = .ok (.istore 4, 2) := by decide +kernel
theorem dX6_word_8 : decode cX6_word 8 = .ok (.iload 4, 2) := by decide +kernel
theorem dX6_word_10 : decode cX6_word 10 = .ok (.ifCond .ge 6, 3) := by decide +kernel
theorem dX6_word_13 : decode cX6_word 13 = .ok (.iload 4, 2) := by decide +kernel
theorem dX6_word_15 : decode cX6_word 15 = .ok (.ireturn, 1) := by decide +kernel
theorem dX6_word_16 : decode cX6_word 16 = .ok (.aload_n 0, 1) := by decide +kernel
theorem dX6_word_17 : decode cX6_word 17 = .ok (.invokevirtual 45, 3) := by decide +kernel
theorem dX6_word_20 : decode cX6_word 20 = .ok (.aload_n 0, 1) := by decide +kernel
theorem dX6_word_21 : decode cX6_word 21 = .ok (.iload_n 1, 1) := by decide +kernel
theorem dX6_word_22 : decode cX6_word 22 = .ok (.iload_n 2, 1) := by decide +kernel
theorem dX6_word_23 : decode cX6_word 23 = .ok (.invokestatic 33, 3) := by decide +kernel
theorem dX6_word_26 : decode cX6_word 26 = .ok (.iconst 2, 1) := by decide +kernel
theorem dX6_word_27 : decode cX6_word 27 = .ok (.iadd, 1) := by decide +kernel
theorem dX6_word_28 : decode cX6_word 28 = .ok (.iload_n 3, 1) := by decide +kernel
theorem dX6_word_29 : decode cX6_word 29 = .ok (.iconst 1, 1) := by decide +kernel
theorem dX6_word_30 : decode cX6_word 30 = .ok (.iadd, 1) := by decide +kernel
theorem dX6_word_31 : decode cX6_word 31 = .ok (.invokevirtual 71, 3) := by decide +kernel
theorem dX6_word_34 : decode cX6_word 34 = .ok (.pop, 1) := by decide +kernel
theorem dX6_word_35 : decode cX6_word 35 = .ok (.aload_n 0, 1) := by decide +kernel
theorem dX6_word_36 : decode cX6_word 36 = .ok (.iconst 2, 1) := by decide +kernel
theorem dX6_word_37 : decode cX6_word 37 = .ok (.invokevirtual 74, 3) := by decide +kernel
theorem dX6_word_40 : decode cX6_word 40 = .ok (.ireturn, 1) := by decide +kernel
set_option maxRecDepth 20000 in
theorem ggX6_whyNotDash_X6_isLine : GoodIn wsX6_whyNotDash wsX6_isLine := goodIn_r _ [4, 5, 6, 3, 7] (by decide +kernel) (by decide +kernel)
set_option maxRecDepth 20000 in
theorem gX6_whyNotDash_X6_isLine : GoodIn wsX6_whyNotDash (va_wsS RX6 81 yX6_isLine wsX6_isLine) := goodIn_app (goodIn_of _ (by decide +kernel)) ggX6_whyNotDash_X6_isLine
set_option maxRecDepth 20000 in
theorem ggX6_whyNotDash_X6_in : GoodIn wsX6_whyNotDash wsX6_in := goodIn_r _ [7] (by decide +kernel) (by decide +kernel)
set_option maxRecDepth 20000 in
theorem gX6_whyNotDash_X6_in : GoodIn wsX6_whyNotDash (va_wsS RX6 29 yX6_in wsX6_in) := goodIn_app (goodIn_of _ (by decide +kernel)) ggX6_whyNotDash_X6_in
theorem dX6_whyNotDash_0 : decode cX6_whyNotDash 0 = .ok (.iload_n 0, 1) := by decide +kernel
theorem dX6_whyNotDash_1 : decode cX6_whyNotDash 1 = .ok (.iload_n 1, 1) := by decide +kernel
theorem dX6_whyNotDash_2 : decode cX6_whyNotDash 2 = .ok (.invokestatic 81, 3) := by decide +kernel
theorem dX6_whyNotDash_5 : decode cX6_whyNotDash 5 = .ok (.ifCond .ne 7, 3) := by decide +kernel
theorem dX6_whyNotDash_8 : decode cX6_whyNotDash 8 = .ok (.iconst (-1), 1) := by decide +kernel
theorem dX6_whyNotDash_9 : decode cX6_whyNotDash 9 = .ok (.goto 18, 3) := by decide +kernel
theorem dX6_whyNotDash_12 : decode cX6_whyNotDash 12 = .ok (.iload_n 2, 1) := by decide +kernel
theorem dX6_whyNotDash_13 : decode cX6_whyNotDash 13 = .ok (.iconst 0, 1) := by decide +kernel
theorem dX6_whyNotDash_14 : decode cX6_whyNotDash 14 = .ok (.iconst 3, 1) := by decide +kernel
theorem dX6_whyNotDash_15 : decode cX6_whyNotDash 15 = .ok (.invokestatic 29, 3) := by decide +kernel
theorem dX6_whyNotDash_18 : decode cX6_whyNotDash 18 = .ok (.ifCond .eq 7, 3) := by decide +kernel
theorem dX6_whyNotDash_21 : decode cX6_whyNotDash 21 = .ok (.iconst 0, 1) := by decide +kernel
theorem dX6_whyNotDash_22 : decode cX6_whyNotDash 22 = .ok (.goto 5, 3) := by decide +kernel
theorem dX6_whyNotDash_25 : decode cX6_whyNotDash 25 = .ok (.bipush (-2), 2) := by decide +kernel
theorem dX6_whyNotDash_27 : decode cX6_whyNotDash 27 = .ok (.ireturn, 1) := by decide +kernel
set_option maxRecDepth 20000 in
theorem ggX6_dash_X6_whyNotDash : GoodIn wsX6_dash wsX6_whyNotDash := goodIn_r _ [5, 6, 7, 4, 8, 9, 10, 11] (by decide +kernel) (by decide +kernel)
set_option maxRecDepth 20000 in
theorem gX6_dash_X6_whyNotDash : GoodIn wsX6_dash (va_wsS RX6 84 yX6_whyNotDash wsX6_whyNotDash) := goodIn_app (goodIn_of _ (by decide +kernel)) ggX6_dash_X6_whyNotDash
set_option maxRecDepth 20000 in
theorem ggX6_dash_X6_record : GoodIn wsX6_dash wsX6_record := goodIn_r _ [15, 16, 17, 1, 25, 26, 27, 28, 29, 30, 31, 32, 33, 34, 35, 36] (by decide +kernel) (by decide +kernel)
set_option maxRecDepth 20000 in
theorem gX6_dash_X6_record : GoodIn wsX6_dash (wsV RX6 45 RX6 yX6_record wsX6_record) := goodIn_app (goodIn_of _ (by decide +kernel)) ggX6_dash_X6_record
set_option maxRecDepth 20000 in
theorem ggX6_dash_X6_lineAt : GoodIn wsX6_dash wsX6_lineAt := goodIn_r _ [20] (by decide +kernel) (by decide +kernel)
set_option maxRecDepth 20000 in
theorem gX6_dash_X6_lineAt : GoodIn wsX6_dash (va_wsS RX6 59 yX6_lineAt wsX6_lineAt) := goodIn_app (goodIn_of _ (by decide +kernel)) ggX6_dash_X6_lineAt
set_option maxRecDepth 20000 in
theorem ggX6_dash_X6_signs : GoodIn wsX6_dash wsX6_signs := goodIn_r _ [24, 1, 25, 26, 27, 28, 29, 30, 31, 32, 33, 34, 35, 36] (by decide +kernel) (by decide +kernel)
set_option maxRecDepth 20000 in
theorem gX6_dash_X6_signs : GoodIn wsX6_dash (wsV RX6 71 RX6 yX6_signs wsX6_signs) := goodIn_app (goodIn_of _ (by decide +kernel)) ggX6_dash_X6_signs
theorem dX6_dash_0 : decode cX6_dash 0 = .ok (.iload_n 1, 1) := by decide +kernel
theorem dX6_dash_1 : decode cX6_dash 1 = .ok (.iload_n 2, 1) := by decide +kernel
theorem dX6_dash_2 : decode cX6_dash 2 = .ok (.iload_n 3, 1) := by decide +kernel
theorem dX6_dash_3 : decode cX6_dash 3 = .ok (.invokestatic 84, 3) := by decide +kernel
theorem dX6_dash_6 : decode cX6_dash 6 = .ok (.istore 4, 2) := by decide +kernel
theorem dX6_dash_8 : decode cX6_dash 8 = .ok (.iload 4, 2) := by decide +kernel
theorem dX6_dash_10 : decode cX6_dash 10 = .ok (.ifCond .ge 6, 3) := by decide +kernel
theorem dX6_dash_13 : decode cX6_dash 13 = .ok (.iload 4, 2) := by decide +kernel
theorem dX6_dash_15 : decode cX6_dash 15 = .ok (.ireturn, 1) := by decide +kernel
theorem dX6_dash_16 : decode cX6_dash 16 = .ok (.aload_n 0, 1) := by decide +kernel
theorem dX6_dash_17 : decode cX6_dash 17 = .ok (.invokevirtual 45, 3) := by decide +kernel
theorem dX6_dash_20 : decode cX6_dash 20 = .ok (.aload_n 0, 1) := by decide +kernel
theorem dX6_dash_21 : decode cX6_dash 21 = .ok (.getfield 7, 3) := by decide +kernel
theorem dX6_dash_24 : decode cX6_dash 24 = .ok (.iload_n 1, 1) := by decide +kernel
theorem dX6_dash_25 : decode cX6_dash 25 = .ok (.iload_n 2, 1) := by decide +kernel
theorem dX6_dash_26 : decode cX6_dash 26 = .ok (.invokestatic 59, 3) := by decide +kernel
theorem dX6_dash_29 : decode cX6_dash 29 = .ok (.iaload, 1) := by decide +kernel
theorem dX6_dash_30 : decode cX6_dash 30 = .ok (.istore 5, 2) := by decide +kernel
theorem dX6_dash_32 : decode cX6_dash 32 = .ok (.aload_n 0, 1) := by decide +kernel
theorem dX6_dash_33 : decode cX6_dash 33 = .ok (.iload_n 1, 1) := by decide +kernel
theorem dX6_dash_34 : decode cX6_dash 34 = .ok (.iload_n 2, 1) := by decide +kernel
theorem dX6_dash_35 : decode cX6_dash 35 = .ok (.invokestatic 59, 3) := by decide +kernel
theorem dX6_dash_38 : decode cX6_dash 38 = .ok (.iload_n 3, 1) := by decide +kernel
theorem dX6_dash_39 : decode cX6_dash 39 = .ok (.invokevirtual 71, 3) := by decide +kernel
theorem dX6_dash_42 : decode cX6_dash 42 = .ok (.pop, 1) := by decide +kernel
theorem dX6_dash_43 : decode cX6_dash 43 = .ok (.iload 5, 2) := by decide +kernel
theorem dX6_dash_45 : decode cX6_dash 45 = .ok (.ireturn, 1) := by decide +kernel
set_option maxRecDepth 20000 in
theorem ggX6_erase_X6_isCell : GoodIn wsX6_erase wsX6_isCell := goodIn_r _ [5, 6, 7, 4, 8] (by decide +kernel) (by decide +kernel)
set_option maxRecDepth 20000 in
theorem gX6_erase_X6_isCell : GoodIn wsX6_erase (va_wsS RX6 62 yX6_isCell wsX6_isCell) := goodIn_app (goodIn_of _ (by decide +kernel)) ggX6_erase_X6_isCell
set_option maxRecDepth 20000 in
theorem ggX6_erase_X6_record : GoodIn wsX6_erase wsX6_record := goodIn_r _ [12, 13, 14, 1, 22, 23, 24, 25, 26, 27, 28, 29, 30, 31, 32, 33] (by decide +kernel) (by decide +kernel)
set_option maxRecDepth 20000 in
theorem gX6_erase_X6_record : GoodIn wsX6_erase (wsV RX6 45 RX6 yX6_record wsX6_record) := goodIn_app (goodIn_of _ (by decide +kernel)) ggX6_erase_X6_record
set_option maxRecDepth 20000 in
theorem ggX6_erase_X6_cellAt : GoodIn wsX6_erase wsX6_cellAt := goodIn_r _ [17] (by decide +kernel) (by decide +kernel)
set_option maxRecDepth 20000 in
theorem gX6_erase_X6_cellAt : GoodIn wsX6_erase (va_wsS RX6 33 yX6_cellAt wsX6_cellAt) := goodIn_app (goodIn_of _ (by decide +kernel)) ggX6_erase_X6_cellAt
set_option maxRecDepth 20000 in
theorem ggX6_erase_X6_signs : GoodIn wsX6_erase wsX6_signs := goodIn_r _ [21, 1, 22, 23, 24, 25, 26, 27, 28, 29, 30, 31, 32, 33] (by decide +kernel) (by decide +kernel)
set_option maxRecDepth 20000 in
theorem gX6_erase_X6_signs : GoodIn wsX6_erase (wsV RX6 71 RX6 yX6_signs wsX6_signs) := goodIn_app (goodIn_of _ (by decide +kernel)) ggX6_erase_X6_signs
theorem dX6_erase_0 : decode cX6_erase 0 = .ok (.iload_n 1, 1) := by decide +kernel
theorem dX6_erase_1 : decode cX6_erase 1 = .ok (.iload_n 2, 1) := by decide +kernel
theorem dX6_erase_2 : decode cX6_erase 2 = .ok (.invokestatic 62, 3) := by decide +kernel
theorem dX6_erase_5 : decode cX6_erase 5 = .ok (.ifCond .ne 5, 3) := by decide +kernel
theorem dX6_erase_8 : decode cX6_erase 8 = .ok (.iconst (-1), 1) := by decide +kernel
theorem dX6_erase_9 : decode cX6_erase 9 = .ok (.ireturn, 1) := by decide +kernel
theorem dX6_erase_10 : decode cX6_erase 10 = .ok (.aload_n 0, 1) := by decide +kernel
theorem dX6_erase_11 : decode cX6_erase 11 = .ok (.invokevirtual 45, 3) := by decide +kernel
theorem dX6_erase_14 : decode cX6_erase 14 = .ok (.iload_n 1, 1) := by decide +kernel
theorem dX6_erase_15 : decode cX6_erase 15 = .ok (.iload_n 2, 1) := by decide +kernel
theorem dX6_erase_16 : decode cX6_erase 16 = .ok (.invokestatic 33, 3) := by decide +kernel
theorem dX6_erase_19 : decode cX6_erase 19 = .ok (.istore_n 3, 1) := by decide +kernel
theorem dX6_erase_20 : decode cX6_erase 20 = .ok (.aload_n 0, 1) := by decide +kernel
theorem dX6_erase_21 : decode cX6_erase 21 = .ok (.getfield 7, 3) := by decide +kernel
theorem dX6_erase_24 : decode cX6_erase 24 = .ok (.iload_n 3, 1) := by decide +kernel
theorem dX6_erase_25 : decode cX6_erase 25 = .ok (.iaload, 1) := by decide +kernel
theorem dX6_erase_26 : decode cX6_erase 26 = .ok (.ifCond .le 7, 3) := by decide +kernel
theorem dX6_erase_29 : decode cX6_erase 29 = .ok (.iconst 1, 1) := by decide +kernel
theorem dX6_erase_30 : decode cX6_erase 30 = .ok (.goto 4, 3) := by decide +kernel
theorem dX6_erase_33 : decode cX6_erase 33 = .ok (.iconst 0, 1) := by decide +kernel
theorem dX6_erase_34 : decode cX6_erase 34 = .ok (.aload_n 0, 1) := by decide +kernel
theorem dX6_erase_35 : decode cX6_erase 35 = .ok (.getfield 7, 3) := by decide +kernel
theorem dX6_erase_38 : decode cX6_erase 38 = .ok (.iload_n 3, 1) := by decide +kernel
theorem dX6_erase_39 : decode cX6_erase 39 = .ok (.iconst 2, 1) := by decide +kernel
theorem dX6_erase_40 : decode cX6_erase 40 = .ok (.iadd, 1) := by decide +kernel
theorem dX6_erase_41 : decode cX6_erase 41 = .ok (.iaload, 1) := by decide +kernel
theorem dX6_erase_42 : decode cX6_erase 42 = .ok (.ifCond .le 7, 3) := by decide +kernel
theorem dX6_erase_45 : decode cX6_erase 45 = .ok (.iconst 1, 1) := by decide +kernel
theorem dX6_erase_46 : decode cX6_erase 46 = .ok (.goto 4, 3) := by decide +kernel
theorem dX6_erase_49 : decode cX6_erase 49 = .ok (.iconst 0, 1) := by decide +kernel
theorem dX6_erase_50 : decode cX6_erase 50 = .ok (.iadd, 1) := by decide +kernel
theorem dX6_erase_51 : decode cX6_erase 51 = .ok (.istore 4, 2) := by decide +kernel
theorem dX6_erase_53 : decode cX6_erase 53 = .ok (.aload_n 0, 1) := by decide +kernel
theorem dX6_erase_54 : decode cX6_erase 54 = .ok (.iload_n 3, 1) := by decide +kernel
theorem dX6_erase_55 : decode cX6_erase 55 = .ok (.iconst 0, 1) := by decide +kernel
theorem dX6_erase_56 : decode cX6_erase 56 = .ok (.invokevirtual 71, 3) := by decide +kernel
theorem dX6_erase_59 : decode cX6_erase 59 = .ok (.pop, 1) := by decide +kernel
theorem dX6_erase_60 : decode cX6_erase 60 = .ok (.aload_n 0, 1) := by decide +kernel
theorem dX6_erase_61 : decode cX6_erase 61 = .ok (.iload_n 3, 1) := by decide +kernel
theorem dX6_erase_62 : decode cX6_erase 62 = .ok (.iconst 2, 1) := by decide +kernel
theorem dX6_erase_63 : decode cX6_erase 63 = .ok (.iadd, 1) := by decide +kernel
theorem dX6_erase_64 : decode cX6_erase 64 = .ok (.iconst 0, 1) := by decide +kernel
theorem dX6_erase_65 : decode cX6_erase 65 = .ok (.invokevirtual 71, 3) := by decide +kernel
theorem dX6_erase_68 : decode cX6_erase 68 = .ok (.pop, 1) := by decide +kernel
theorem dX6_erase_69 : decode cX6_erase 69 = .ok (.iload 4, 2) := by decide +kernel
theorem dX6_erase_71 : decode cX6_erase 71 = .ok (.ireturn, 1) := by decide +kernel
set_option maxRecDepth 20000 in
theorem ggX6_set_X6_in : GoodIn wsX6_set wsX6_in := goodIn_r _ [5] (by decide +kernel) (by decide +kernel)
set_option maxRecDepth 20000 in
theorem gX6_set_X6_in : GoodIn wsX6_set (va_wsS RX6 29 yX6_in wsX6_in) := goodIn_app (goodIn_of _ (by decide +kernel)) ggX6_set_X6_in
set_option maxRecDepth 20000 in
theorem ggX6_set_X6_record : GoodIn wsX6_set wsX6_record := goodIn_r _ [9, 10, 11, 1, 12, 13, 14, 15, 16, 17, 18, 19, 20, 21, 22, 23] (by decide +kernel) (by decide +kernel)
set_option maxRecDepth 20000 in
theorem gX6_set_X6_record : GoodIn wsX6_set (wsV RX6 45 RX6 yX6_record wsX6_record) := goodIn_app (goodIn_of _ (by decide +kernel)) ggX6_set_X6_record
theorem dX6_set_0 : decode cX6_set 0 = .ok (.iload_n 1, 1) := by decide +kernel
theorem dX6_set_1 : decode cX6_set 1 = .ok (.iconst 0, 1) := by decide +kernel
theorem dX6_set_2 : decode cX6_set 2 = .ok (.iconst 1, 1) := by decide +kernel
theorem dX6_set_3 : decode cX6_set 3 = .ok (.invokestatic 29, 3) := by decide +kernel
theorem dX6_set_6 : decode cX6_set 6 = .ok (.ifCond .ne 5, 3) := by decide +kernel
theorem dX6_set_9 : decode cX6_set 9 = .ok (.iconst (-1), 1) := by decide +kernel
theorem dX6_set_10 : decode cX6_set 10 = .ok (.ireturn, 1) := by decide +kernel
theorem dX6_set_11 : decode cX6_set 11 = .ok (.iload_n 2, 1) := by decide +kernel
theorem dX6_set_12 : decode cX6_set 12 = .ok (.iconst 1, 1) := by decide +kernel
theorem dX6_set_13 : decode cX6_set 13 = .ok (.iload_n 1, 1) := by decide +kernel
theorem dX6_set_14 : decode cX6_set 14 = .ok (.ifCond .ne 8, 3) := by decide +kernel
theorem dX6_set_17 : decode cX6_set 17 = .ok (.bipush 100, 2) := by decide +kernel
theorem dX6_set_19 : decode cX6_set 19 = .ok (.goto 5, 3) := by decide +kernel
theorem dX6_set_22 : decode cX6_set 22 = .ok (.bipush 40, 2) := by decide +kernel
theorem dX6_set_24 : decode cX6_set 24 = .ok (.invokestatic 29, 3) := by decide +kernel
theorem dX6_set_27 : decode cX6_set 27 = .ok (.ifCond .ne 6, 3) := by decide +kernel
theorem dX6_set_30 : decode cX6_set 30 = .ok (.bipush (-2), 2) := by decide +kernel
theorem dX6_set_32 : decode cX6_set 32 = .ok (.ireturn, 1) := by decide +kernel
theorem dX6_set_33 : decode cX6_set 33 = .ok (.aload_n 0, 1) := by decide +kernel
theorem dX6_set_34 : decode cX6_set 34 = .ok (.invokevirtual 45, 3) := by decide +kernel
theorem dX6_set_37 : decode cX6_set 37 = .ok (.aload_n 0, 1) := by decide +kernel
theorem dX6_set_38 : decode cX6_set 38 = .ok (.getfield 7, 3) := by decide +kernel
theorem dX6_set_41 : decode cX6_set 41 = .ok (.iload_n 1, 1) := by decide +kernel
theorem dX6_set_42 : decode cX6_set 42 = .ok (.iaload, 1) := by decide +kernel
theorem dX6_set_43 : decode cX6_set 43 = .ok (.istore_n 3, 1) := by decide +kernel
theorem dX6_set_44 : decode cX6_set 44 = .ok (.aload_n 0, 1) := by decide +kernel
theorem dX6_set_45 : decode cX6_set 45 = .ok (.getfield 7, 3) := by decide +kernel
theorem dX6_set_48 : decode cX6_set 48 = .ok (.iload_n 1, 1) := by decide +kernel
theorem dX6_set_49 : decode cX6_set 49 = .ok (.iload_n 2, 1) := by decide +kernel
theorem dX6_set_50 : decode cX6_set 50 = .ok (.iastore, 1) := by decide +kernel
theorem dX6_set_51 : decode cX6_set 51 = .ok (.iload_n 3, 1) := by decide +kernel
theorem dX6_set_52 : decode cX6_set 52 = .ok (.ireturn, 1) := by decide +kernel
set_option maxRecDepth 20000 in
theorem ggX6_traffic_X6_in : GoodIn wsX6_traffic wsX6_in := goodIn_r _ [5] (by decide +kernel) (by decide +kernel)
set_option maxRecDepth 20000 in
theorem gX6_traffic_X6_in : GoodIn wsX6_traffic (va_wsS RX6 29 yX6_in wsX6_in) := goodIn_app (goodIn_of _ (by decide +kernel)) ggX6_traffic_X6_in
set_option maxRecDepth 20000 in
theorem ggX6_traffic_X6_record : GoodIn wsX6_traffic wsX6_record := goodIn_r _ [9, 10, 11, 1, 12, 13, 14, 15, 16, 17, 18, 19, 20, 21, 22, 23] (by decide +kernel) (by decide +kernel)
set_option maxRecDepth 20000 in
theorem gX6_traffic_X6_record : GoodIn wsX6_traffic (wsV RX6 45 RX6 yX6_record wsX6_record) := goodIn_app (goodIn_of _ (by decide +kernel)) ggX6_traffic_X6_record
theorem dX6_traffic_0 : decode cX6_traffic 0 = .ok (.iload_n 1, 1) := by decide +kernel
theorem dX6_traffic_1 : decode cX6_traffic 1 = .ok (.iconst 0, 1) := by decide +kernel
theorem dX6_traffic_2 : decode cX6_traffic 2 = .ok (.iconst 2, 1) := by decide +kernel
theorem dX6_traffic_3 : decode cX6_traffic 3 = .ok (.invokestatic 29, 3) := by decide +kernel
theorem dX6_traffic_6 : decode cX6_traffic 6 = .ok (.ifCond .ne 5, 3) := by decide +kernel
theorem dX6_traffic_9 : decode cX6_traffic 9 = .ok (.iconst (-1), 1) := by decide +kernel
theorem dX6_traffic_10 : decode cX6_traffic 10 = .ok (.ireturn, 1) := by decide +kernel
theorem dX6_traffic_11 : decode cX6_traffic 11 = .ok (.iload_n 2, 1) := by decide +kernel
theorem dX6_traffic_12 : decode cX6_traffic 12 = .ok (.iconst 0, 1) := by decide +kernel
theorem dX6_traffic_13 : decode cX6_traffic 13 = .ok (.bipush 20, 2) := by decide +kernel
theorem dX6_traffic_15 : decode cX6_traffic 15 = .ok (.invokestatic 29, 3) := by decide +kernel
theorem dX6_traffic_18 : decode cX6_traffic 18 = .ok (.ifCond .ne 6, 3) := by decide +kernel
theorem dX6_traffic_21 : decode cX6_traffic 21 = .ok (.bipush (-2), 2) := by decide +kernel
theorem dX6_traffic_23 : decode cX6_traffic 23 = .ok (.ireturn, 1) := by decide +kernel
theorem dX6_traffic_24 : decode cX6_traffic 24 = .ok (.aload_n 0, 1) := by decide +kernel
theorem dX6_traffic_25 : decode cX6_traffic 25 = .ok (.invokevirtual 45, 3) := by decide +kernel
theorem dX6_traffic_28 : decode cX6_traffic 28 = .ok (.aload_n 0, 1) := by decide +kernel
theorem dX6_traffic_29 : decode cX6_traffic 29 = .ok (.getfield 7, 3) := by decide +kernel
theorem dX6_traffic_32 : decode cX6_traffic 32 = .ok (.iconst 2, 1) := by decide +kernel
theorem dX6_traffic_33 : decode cX6_traffic 33 = .ok (.iload_n 1, 1) := by decide +kernel
theorem dX6_traffic_34 : decode cX6_traffic 34 = .ok (.iadd, 1) := by decide +kernel
theorem dX6_traffic_35 : decode cX6_traffic 35 = .ok (.iaload, 1) := by decide +kernel
theorem dX6_traffic_36 : decode cX6_traffic 36 = .ok (.istore_n 3, 1) := by decide +kernel
theorem dX6_traffic_37 : decode cX6_traffic 37 = .ok (.aload_n 0, 1) := by decide +kernel
theorem dX6_traffic_38 : decode cX6_traffic 38 = .ok (.getfield 7, 3) := by decide +kernel
theorem dX6_traffic_41 : decode cX6_traffic 41 = .ok (.iconst 2, 1) := by decide +kernel
theorem dX6_traffic_42 : decode cX6_traffic 42 = .ok (.iload_n 1, 1) := by decide +kernel
theorem dX6_traffic_43 : decode cX6_traffic 43 = .ok (.iadd, 1) := by decide +kernel
theorem dX6_traffic_44 : decode cX6_traffic 44 = .ok (.iload_n 2, 1) := by decide +kernel
theorem dX6_traffic_45 : decode cX6_traffic 45 = .ok (.iastore, 1) := by decide +kernel
theorem dX6_traffic_46 : decode cX6_traffic 46 = .ok (.iload_n 3, 1) := by decide +kernel
theorem dX6_traffic_47 : decode cX6_traffic 47 = .ok (.ireturn, 1) := by decide +kernel
set_option maxRecDepth 20000 in
theorem ggX6_bring_X6_in : GoodIn wsX6_bring wsX6_in := goodIn_r _ [5] (by decide +kernel) (by decide +kernel)
set_option maxRecDepth 20000 in
theorem gX6_bring_X6_in : GoodIn wsX6_bring (va_wsS RX6 29 yX6_in wsX6_in) := goodIn_app (goodIn_of _ (by decide +kernel)) ggX6_bring_X6_in
set_option maxRecDepth 20000 in
theorem ggX6_bring_X6_record : GoodIn wsX6_bring wsX6_record := goodIn_r _ [9, 10, 11, 1, 12, 13, 14, 15, 16, 17, 18, 19, 20, 21, 22, 23] (by decide +kernel) (by decide +kernel)
set_option maxRecDepth 20000 in
theorem gX6_bring_X6_record : GoodIn wsX6_bring (wsV RX6 45 RX6 yX6_record wsX6_record) := goodIn_app (goodIn_of _ (by decide +kernel)) ggX6_bring_X6_record
theorem dX6_bring_0 : decode cX6_bring 0 = .ok (.iload_n 1, 1) := by decide +kernel
theorem dX6_bring_1 : decode cX6_bring 1 = .ok (.iconst 1, 1) := by decide +kernel
theorem dX6_bring_2 : decode cX6_bring 2 = .ok (.bipush 99, 2) := by decide +kernel
theorem dX6_bring_4 : decode cX6_bring 4 = .ok (.invokestatic 29, 3) := by decide +kernel
theorem dX6_bring_7 : decode cX6_bring 7 = .ok (.ifCond .ne 6, 3) := by decide +kernel
theorem dX6_bring_10 : decode cX6_bring 10 = .ok (.bipush (-2), 2) := by decide +kernel
theorem dX6_bring_12 : decode cX6_bring 12 = .ok (.ireturn, 1) := by decide +kernel
theorem dX6_bring_13 : decode cX6_bring 13 = .ok (.aload_n 0, 1) := by decide +kernel
theorem dX6_bring_14 : decode cX6_bring 14 = .ok (.getfield 7, 3) := by decide +kernel
theorem dX6_bring_17 : decode cX6_bring 17 = .ok (.iconst 5, 1) := by decide +kernel
theorem dX6_bring_18 : decode cX6_bring 18 = .ok (.iaload, 1) := by decide +kernel
theorem dX6_bring_19 : decode cX6_bring 19 = .ok (.iload_n 1, 1) := by decide +kernel
theorem dX6_bring_20 : decode cX6_bring 20 = .ok (.iadd, 1) := by decide +kernel
theorem dX6_bring_21 : decode cX6_bring 21 = .ok (.bipush 99, 2) := by decide +kernel
theorem dX6_bring_23 : decode cX6_bring 23 = .ok (.if_icmp .le 6, 3) := by decide +kernel
theorem dX6_bring_26 : decode cX6_bring 26 = .ok (.bipush (-4), 2) := by decide +kernel
theorem dX6_bring_28 : decode cX6_bring 28 = .ok (.ireturn, 1) := by decide +kernel
theorem dX6_bring_29 : decode cX6_bring 29 = .ok (.aload_n 0, 1) := by decide +kernel
theorem dX6_bring_30 : decode cX6_bring 30 = .ok (.invokevirtual 45, 3) := by decide +kernel
theorem dX6_bring_33 : decode cX6_bring 33 = .ok (.aload_n 0, 1) := by decide +kernel
theorem dX6_bring_34 : decode cX6_bring 34 = .ok (.getfield 7, 3) := by decide +kernel
theorem dX6_bring_37 : decode cX6_bring 37 = .ok (.iconst 5, 1) := by decide +kernel
theorem dX6_bring_38 : decode cX6_bring 38 = .ok (.dup2, 1) := by decide +kernel
theorem dX6_bring_39 : decode cX6_bring 39 = .ok (.iaload, 1) := by decide +kernel
theorem dX6_bring_40 : decode cX6_bring 40 = .ok (.iload_n 1, 1) := by decide +kernel
theorem dX6_bring_41 : decode cX6_bring 41 = .ok (.iadd, 1) := by decide +kernel
theorem dX6_bring_42 : decode cX6_bring 42 = .ok (.iastore, 1) := by decide +kernel
theorem dX6_bring_43 : decode cX6_bring 43 = .ok (.aload_n 0, 1) := by decide +kernel
theorem dX6_bring_44 : decode cX6_bring 44 = .ok (.getfield 7, 3) := by decide +kernel
theorem dX6_bring_47 : decode cX6_bring 47 = .ok (.iconst 5, 1) := by decide +kernel
theorem dX6_bring_48 : decode cX6_bring 48 = .ok (.iaload, 1) := by decide +kernel
theorem dX6_bring_49 : decode cX6_bring 49 = .ok (.ireturn, 1) := by decide +kernel
set_option maxRecDepth 20000 in
theorem ggX6_isRead_X6_cellAt : GoodIn wsX6_isRead wsX6_cellAt := goodIn_r _ [5] (by decide +kernel) (by decide +kernel)
set_option maxRecDepth 20000 in
theorem gX6_isRead_X6_cellAt : GoodIn wsX6_isRead (va_wsS RX6 33 yX6_cellAt wsX6_cellAt) := goodIn_app (goodIn_of _ (by decide +kernel)) ggX6_isRead_X6_cellAt
theorem dX6_isRead_0 : decode cX6_isRead 0 = .ok (.iload_n 1, 1) := by decide +kernel
theorem dX6_isRead_1 : decode cX6_isRead 1 = .ok (.iload_n 2, 1) := by decide +kernel
theorem dX6_isRead_2 : decode cX6_isRead 2 = .ok (.invokestatic 33, 3) := by decide +kernel
theorem dX6_isRead_5 : decode cX6_isRead 5 = .ok (.istore_n 3, 1) := by decide +kernel
theorem dX6_isRead_6 : decode cX6_isRead 6 = .ok (.aload_n 0, 1) := by decide +kernel
theorem dX6_isRead_7 : decode cX6_isRead 7 = .ok (.getfield 7, 3) := by decide +kernel
theorem dX6_isRead_10 : decode cX6_isRead 10 = .ok (.iload_n 3, 1) := by decide +kernel
theorem dX6_isRead_11 : decode cX6_isRead 11 = .ok (.iconst 2, 1) := by decide +kernel
theorem dX6_isRead_12 : decode cX6_isRead 12 = .ok (.iadd, 1) := by decide +kernel
theorem dX6_isRead_13 : decode cX6_isRead 13 = .ok (.iaload, 1) := by decide +kernel
theorem dX6_isRead_14 : decode cX6_isRead 14 = .ok (.ifCond .le 24, 3) := by decide +kernel
theorem dX6_isRead_17 : decode cX6_isRead 17 = .ok (.aload_n 0, 1) := by decide +kernel
theorem dX6_isRead_18 : decode cX6_isRead 18 = .ok (.getfield 7, 3) := by decide +kernel
theorem dX6_isRead_21 : decode cX6_isRead 21 = .ok (.iload_n 3, 1) := by decide +kernel
theorem dX6_isRead_22 : decode cX6_isRead 22 = .ok (.iconst 3, 1) := by decide +kernel
theorem dX6_isRead_23 : decode cX6_isRead 23 = .ok (.iadd, 1) := by decide +kernel
theorem dX6_isRead_24 : decode cX6_isRead 24 = .ok (.iaload, 1) := by decide +kernel
theorem dX6_isRead_25 : decode cX6_isRead 25 = .ok (.aload_n 0, 1) := by decide +kernel
theorem dX6_isRead_26 : decode cX6_isRead 26 = .ok (.getfield 7, 3) := by decide +kernel
theorem dX6_isRead_29 : decode cX6_isRead 29 = .ok (.iconst 0, 1) := by decide +kernel
theorem dX6_isRead_30 : decode cX6_isRead 30 = .ok (.iaload, 1) := by decide +kernel
theorem dX6_isRead_31 : decode cX6_isRead 31 = .ok (.if_icmp .lt 7, 3) := by decide +kernel
theorem dX6_isRead_34 : decode cX6_isRead 34 = .ok (.iconst 1, 1) := by decide +kernel
theorem dX6_isRead_35 : decode cX6_isRead 35 = .ok (.goto 4, 3) := by decide +kernel
theorem dX6_isRead_38 : decode cX6_isRead 38 = .ok (.iconst 0, 1) := by decide +kernel
theorem dX6_isRead_39 : decode cX6_isRead 39 = .ok (.ireturn, 1) := by decide +kernel
theorem dX6_loses_0 : decode cX6_loses 0 = .ok (.aload_n 0, 1) := by decide +kernel
theorem dX6_loses_1 : decode cX6_loses 1 = .ok (.getfield 7, 3) := by decide +kernel
theorem dX6_loses_4 : decode cX6_loses 4 = .ok (.iload_n 1, 1) := by decide +kernel
theorem dX6_loses_5 : decode cX6_loses 5 = .ok (.iaload, 1) := by decide +kernel
theorem dX6_loses_6 : decode cX6_loses 6 = .ok (.ifCond .ne 5, 3) := by decide +kernel
theorem dX6_loses_9 : decode cX6_loses 9 = .ok (.iconst 0, 1) := by decide +kernel
theorem dX6_loses_10 : decode cX6_loses 10 = .ok (.ireturn, 1) := by decide +kernel
theorem dX6_loses_11 : decode cX6_loses 11 = .ok (.aload_n 0, 1) := by decide +kernel
theorem dX6_loses_12 : decode cX6_loses 12 = .ok (.getfield 7, 3) := by decide +kernel
theorem dX6_loses_15 : decode cX6_loses 15 = .ok (.iload_n 1, 1) := by decide +kernel
theorem dX6_loses_16 : decode cX6_loses 16 = .ok (.iconst 1, 1) := by decide +kernel
theorem dX6_loses_17 : decode cX6_loses 17 = .ok (.iadd, 1) := by decide +kernel
theorem dX6_loses_18 : decode cX6_loses 18 = .ok (.aload_n 0, 1) := by decide +kernel
theorem dX6_loses_19 : decode cX6_loses 19 = .ok (.getfield 7, 3) := by decide +kernel
theorem dX6_loses_22 : decode cX6_loses 22 = .ok (.iload_n 1, 1) := by decide +kernel
theorem dX6_loses_23 : decode cX6_loses 23 = .ok (.iconst 1, 1) := by decide +kernel
theorem dX6_loses_24 : decode cX6_loses 24 = .ok (.iadd, 1) := by decide +kernel
theorem dX6_loses_25 : decode cX6_loses 25 = .ok (.iaload, 1) := by decide +kernel
theorem dX6_loses_26 : decode cX6_loses 26 = .ok (.iload_n 2, 1) := by decide +kernel
theorem dX6_loses_27 : decode cX6_loses 27 = .ok (.if_icmp .le 16, 3) := by decide +kernel
theorem dX6_loses_30 : decode cX6_loses 30 = .ok (.aload_n 0, 1) := by decide +kernel
theorem dX6_loses_31 : decode cX6_loses 31 = .ok (.getfield 7, 3) := by decide +kernel
theorem dX6_loses_34 : decode cX6_loses 34 = .ok (.iload_n 1, 1) := by decide +kernel
theorem dX6_loses_35 : decode cX6_loses 35 = .ok (.iconst 1, 1) := by decide +kernel
theorem dX6_loses_36 : decode cX6_loses 36 = .ok (.iadd, 1) := by decide +kernel
theorem dX6_loses_37 : decode cX6_loses 37 = .ok (.iaload, 1) := by decide +kernel
theorem dX6_loses_38 : decode cX6_loses 38 = .ok (.iload_n 2, 1) := by decide +kernel
theorem dX6_loses_39 : decode cX6_loses 39 = .ok (.isub, 1) := by decide +kernel
theorem dX6_loses_40 : decode cX6_loses 40 = .ok (.goto 4, 3) := by decide +kernel
theorem dX6_loses_43 : decode cX6_loses 43 = .ok (.iconst 0, 1) := by decide +kernel
theorem dX6_loses_44 : decode cX6_loses 44 = .ok (.iastore, 1) := by decide +kernel
theorem dX6_loses_45 : decode cX6_loses 45 = .ok (.aload_n 0, 1) := by decide +kernel
theorem dX6_loses_46 : decode cX6_loses 46 = .ok (.getfield 7, 3) := by decide +kernel
theorem dX6_loses_49 : decode cX6_loses 49 = .ok (.iload_n 1, 1) := by decide +kernel
theorem dX6_loses_50 : decode cX6_loses 50 = .ok (.iconst 1, 1) := by decide +kernel
theorem dX6_loses_51 : decode cX6_loses 51 = .ok (.iadd, 1) := by decide +kernel
theorem dX6_loses_52 : decode cX6_loses 52 = .ok (.iaload, 1) := by decide +kernel
theorem dX6_loses_53 : decode cX6_loses 53 = .ok (.ifCond .ne 12, 3) := by decide +kernel
theorem dX6_loses_56 : decode cX6_loses 56 = .ok (.aload_n 0, 1) := by decide +kernel
theorem dX6_loses_57 : decode cX6_loses 57 = .ok (.getfield 7, 3) := by decide +kernel
theorem dX6_loses_60 : decode cX6_loses 60 = .ok (.iload_n 1, 1) := by decide +kernel
theorem dX6_loses_61 : decode cX6_loses 61 = .ok (.iconst 0, 1) := by decide +kernel
theorem dX6_loses_62 : decode cX6_loses 62 = .ok (.iastore, 1) := by decide +kernel
theorem dX6_loses_63 : decode cX6_loses 63 = .ok (.iconst 1, 1) := by decide +kernel
theorem dX6_loses_64 : decode cX6_loses 64 = .ok (.ireturn, 1) := by decide +kernel
theorem dX6_loses_65 : decode cX6_loses 65 = .ok (.iconst 0, 1) := by decide +kernel
theorem dX6_loses_66 : decode cX6_loses 66 = .ok (.ireturn, 1) := by decide +kernel
set_option maxRecDepth 20000 in
theorem ggX6_lossOf_X6_cellAt : GoodIn wsX6_lossOf wsX6_cellAt := goodIn_r _ [5] (by decide +kernel) (by decide +kernel)
set_option maxRecDepth 20000 in
theorem gX6_lossOf_X6_cellAt : GoodIn wsX6_lossOf (va_wsS RX6 33 yX6_cellAt wsX6_cellAt) := goodIn_app (goodIn_of _ (by decide +kernel)) ggX6_lossOf_X6_cellAt
set_option maxRecDepth 20000 in
theorem ggX6_lossOf_X6_isRead : GoodIn wsX6_lossOf wsX6_isRead := goodIn_r _ [9, 1, 2, 3, 4, 5, 10, 11, 12, 13, 14, 15, 16, 17, 18, 19, 20, 21] (by decide +kernel) (by decide +kernel)
set_option maxRecDepth 20000 in
theorem gX6_lossOf_X6_isRead : GoodIn wsX6_lossOf (wsV RX6 87 RX6 yX6_isRead wsX6_isRead) := goodIn_app (goodIn_of _ (by decide +kernel)) ggX6_lossOf_X6_isRead
theorem dX6_lossOf_0 : decode cX6_lossOf 0 = .ok (.aload_n 0, 1) := by decide +kernel
theorem dX6_lossOf_1 : decode cX6_lossOf 1 = .ok (.getfield 7, 3) := by decide +kernel
theorem dX6_lossOf_4 : decode cX6_lossOf 4 = .ok (.iload_n 1, 1) := by decide +kernel
theorem dX6_lossOf_5 : decode cX6_lossOf 5 = .ok (.iload_n 2, 1) := by decide +kernel
theorem dX6_lossOf_6 : decode cX6_lossOf 6 = .ok (.invokestatic 33, 3) := by decide +kernel
theorem dX6_lossOf_9 : decode cX6_lossOf 9 = .ok (.iconst 2, 1) := by decide +kernel
theorem dX6_lossOf_10 : decode cX6_lossOf 10 = .ok (.iadd, 1) := by decide +kernel
theorem dX6_lossOf_11 : decode cX6_lossOf 11 = .ok (.iaload, 1) := by decide +kernel
theorem dX6_lossOf_12 : decode cX6_lossOf 12 = .ok (.istore_n 3, 1) := by decide +kernel
theorem dX6_lossOf_13 : decode cX6_lossOf 13 = .ok (.iload_n 3, 1) := by decide +kernel
theorem dX6_lossOf_14 : decode cX6_lossOf 14 = .ok (.iconst 1, 1) := by decide +kernel
theorem dX6_lossOf_15 : decode cX6_lossOf 15 = .ok (.if_icmp .eq 8, 3) := by decide +kernel
theorem dX6_lossOf_18 : decode cX6_lossOf 18 = .ok (.iload_n 3, 1) := by decide +kernel
theorem dX6_lossOf_19 : decode cX6_lossOf 19 = .ok (.iconst 2, 1) := by decide +kernel
theorem dX6_lossOf_20 : decode cX6_lossOf 20 = .ok (.if_icmp .ne 16, 3) := by decide +kernel
theorem dX6_lossOf_23 : decode cX6_lossOf 23 = .ok (.aload_n 0, 1) := by decide +kernel
theorem dX6_lossOf_24 : decode cX6_lossOf 24 = .ok (.iload_n 1, 1) := by decide +kernel
theorem dX6_lossOf_25 : decode cX6_lossOf 25 = .ok (.iload_n 2, 1) := by decide +kernel
theorem dX6_lossOf_26 : decode cX6_lossOf 26 = .ok (.invokevirtual 87, 3) := by decide +kernel
theorem dX6_lossOf_29 : decode cX6_lossOf 29 = .ok (.ifCond .eq 7, 3) := by decide +kernel
theorem dX6_lossOf_32 : decode cX6_lossOf 32 = .ok (.iconst 1, 1) := by decide +kernel
theorem dX6_lossOf_33 : decode cX6_lossOf 33 = .ok (.goto 4, 3) := by decide +kernel
theorem dX6_lossOf_36 : decode cX6_lossOf 36 = .ok (.iconst 0, 1) := by decide +kernel
theorem dX6_lossOf_37 : decode cX6_lossOf 37 = .ok (.istore 4, 2) := by decide +kernel
theorem dX6_lossOf_39 : decode cX6_lossOf 39 = .ok (.iload 4, 2) := by decide +kernel
theorem dX6_lossOf_41 : decode cX6_lossOf 41 = .ok (.ifCond .eq 16, 3) := by decide +kernel
theorem dX6_lossOf_44 : decode cX6_lossOf 44 = .ok (.aload_n 0, 1) := by decide +kernel
theorem dX6_lossOf_45 : decode cX6_lossOf 45 = .ok (.getfield 7, 3) := by decide +kernel
theorem dX6_lossOf_48 : decode cX6_lossOf 48 = .ok (.iconst 2, 1) := by decide +kernel
theorem dX6_lossOf_49 : decode cX6_lossOf 49 = .ok (.iload_n 1, 1) := by decide +kernel
theorem dX6_lossOf_50 : decode cX6_lossOf 50 = .ok (.iadd, 1) := by decide +kernel
theorem dX6_lossOf_51 : decode cX6_lossOf 51 = .ok (.iaload, 1) := by decide +kernel
theorem dX6_lossOf_52 : decode cX6_lossOf 52 = .ok (.iconst 2, 1) := by decide +kernel
theorem dX6_lossOf_53 : decode cX6_lossOf 53 = .ok (.idiv, 1) := by decide +kernel
theorem dX6_lossOf_54 : decode cX6_lossOf 54 = .ok (.goto 11, 3) := by decide +kernel
theorem dX6_lossOf_57 : decode cX6_lossOf 57 = .ok (.aload_n 0, 1) := by decide +kernel
theorem dX6_lossOf_58 : decode cX6_lossOf 58 = .ok (.getfield 7, 3) := by decide +kernel
theorem dX6_lossOf_61 : decode cX6_lossOf 61 = .ok (.iconst 2, 1) := by decide +kernel
theorem dX6_lossOf_62 : decode cX6_lossOf 62 = .ok (.iload_n 1, 1) := by decide +kernel
theorem dX6_lossOf_63 : decode cX6_lossOf 63 = .ok (.iadd, 1) := by decide +kernel
theorem dX6_lossOf_64 : decode cX6_lossOf 64 = .ok (.iaload, 1) := by decide +kernel
theorem dX6_lossOf_65 : decode cX6_lossOf 65 = .ok (.ireturn, 1) := by decide +kernel
set_option maxRecDepth 20000 in
theorem ggX6_day_X6_lossOf : GoodIn wsX6_day wsX6_lossOf := goodIn_r _ [6, 1, 7, 8, 5, 9, 10, 11, 12, 13, 21, 22, 23, 24, 25, 26, 27, 28, 29, 30, 31, 32] (by decide +kernel) (by decide +kernel)
set_option maxRecDepth 20000 in
theorem gX6_day_X6_lossOf : GoodIn wsX6_day (wsV RX6 90 RX6 yX6_lossOf wsX6_lossOf) := goodIn_app (goodIn_of _ (by decide +kernel)) ggX6_day_X6_lossOf
set_option maxRecDepth 20000 in
theorem ggX6_day_X6_cellAt : GoodIn wsX6_day wsX6_cellAt := goodIn_r _ [9] (by decide +kernel) (by decide +kernel)
set_option maxRecDepth 20000 in
theorem gX6_day_X6_cellAt : GoodIn wsX6_day (va_wsS RX6 33 yX6_cellAt wsX6_cellAt) := goodIn_app (goodIn_of _ (by decide +kernel)) ggX6_day_X6_cellAt
set_option maxRecDepth 20000 in
theorem ggX6_day_X6_loses : GoodIn wsX6_day wsX6_loses := goodIn_r _ [17, 1, 21, 22, 23, 24, 25, 26, 27, 28, 29, 30, 31, 32] (by decide +kernel) (by decide +kernel)
set_option maxRecDepth 20000 in
theorem gX6_day_X6_loses : GoodIn wsX6_day (wsV RX6 93 RX6 yX6_loses wsX6_loses) := goodIn_app (goodIn_of _ (by decide +kernel)) ggX6_day_X6_loses
set_option maxRecDepth 20000 in
theorem ggX6_day_X6_lineAt : GoodIn wsX6_day wsX6_lineAt := goodIn_r _ [20] (by decide +kernel) (by decide +kernel)
set_option maxRecDepth 20000 in
theorem gX6_day_X6_lineAt : GoodIn wsX6_day (va_wsS RX6 59 yX6_lineAt wsX6_lineAt) := goodIn_app (goodIn_of _ (by decide +kernel)) ggX6_day_X6_lineAt
theorem dX6_day_0 : decode cX6_day 0 = .ok (.iconst 0, 1) := by decide +kernel
theorem dX6_day_1 : decode cX6_day 1 = .ok (.istore_n 1, 1) := by decide +kernel
theorem dX6_day_2 : decode cX6_day 2 = .ok (.iconst 0, 1) := by decide +kernel
theorem dX6_day_3 : decode cX6_day 3 = .ok (.istore_n 2, 1) := by decide +kernel
theorem dX6_day_4 : decode cX6_day 4 = .ok (.iload_n 2, 1) := by decide +kernel
theorem dX6_day_5 : decode cX6_day 5 = .ok (.bipush 16, 2) := by decide +kernel
theorem dX6_day_7 : decode cX6_day 7 = .ok (.if_icmp .ge 104, 3) := by decide +kernel
theorem dX6_day_10 : decode cX6_day 10 = .ok (.iconst 0, 1) := by decide +kernel
theorem dX6_day_11 : decode cX6_day 11 = .ok (.istore_n 3, 1) := by decide +kernel
theorem dX6_day_12 : decode cX6_day 12 = .ok (.iload_n 3, 1) := by decide +kernel
theorem dX6_day_13 : decode cX6_day 13 = .ok (.iconst 3, 1) := by decide +kernel
theorem dX6_day_14 : decode cX6_day 14 = .ok (.if_icmp .ge 45, 3) := by decide +kernel
theorem dX6_day_17 : decode cX6_day 17 = .ok (.aload_n 0, 1) := by decide +kernel
theorem dX6_day_18 : decode cX6_day 18 = .ok (.iload_n 3, 1) := by decide +kernel
theorem dX6_day_19 : decode cX6_day 19 = .ok (.iload_n 2, 1) := by decide +kernel
theorem dX6_day_20 : decode cX6_day 20 = .ok (.invokevirtual 90, 3) := by decide +kernel
theorem dX6_day_23 : decode cX6_day 23 = .ok (.istore 4, 2) := by decide +kernel
theorem dX6_day_25 : decode cX6_day 25 = .ok (.iload_n 1, 1) := by decide +kernel
theorem dX6_day_26 : decode cX6_day 26 = .ok (.aload_n 0, 1) := by decide +kernel
theorem dX6_day_27 : decode cX6_day 27 = .ok (.iload_n 3, 1) := by decide +kernel
theorem dX6_day_28 : decode cX6_day 28 = .ok (.iload_n 2, 1) := by decide +kernel
theorem dX6_day_29 : decode cX6_day 29 = .ok (.invokestatic 33, 3) := by decide +kernel
theorem dX6_day_32 : decode cX6_day 32 = .ok (.iload 4, 2) := by decide +kernel
theorem dX6_day_34 : decode cX6_day 34 = .ok (.invokevirtual 93, 3) := by decide +kernel
theorem dX6_day_37 : decode cX6_day 37 = .ok (.aload_n 0, 1) := by decide +kernel
theorem dX6_day_38 : decode cX6_day 38 = .ok (.iload_n 3, 1) := by decide +kernel
theorem dX6_day_39 : decode cX6_day 39 = .ok (.iload_n 2, 1) := by decide +kernel
theorem dX6_day_40 : decode cX6_day 40 = .ok (.invokestatic 33, 3) := by decide +kernel
theorem dX6_day_43 : decode cX6_day 43 = .ok (.iconst 2, 1) := by decide +kernel
theorem dX6_day_44 : decode cX6_day 44 = .ok (.iadd, 1) := by decide +kernel
theorem dX6_day_45 : decode cX6_day 45 = .ok (.iload 4, 2) := by decide +kernel
theorem dX6_day_47 : decode cX6_day 47 = .ok (.invokevirtual 93, 3) := by decide +kernel
theorem dX6_day_50 : decode cX6_day 50 = .ok (.iadd, 1) := by decide +kernel
theorem dX6_day_51 : decode cX6_day 51 = .ok (.iadd, 1) := by decide +kernel
theorem dX6_day_52 : decode cX6_day 52 = .ok (.istore_n 1, 1) := by decide +kernel
theorem dX6_day_53 : decode cX6_day 53 = .ok (.iinc 3 1, 3) := by decide +kernel
theorem dX6_day_56 : decode cX6_day 56 = .ok (.goto (-44), 3) := by decide +kernel
theorem dX6_day_59 : decode cX6_day 59 = .ok (.iconst 0, 1) := by decide +kernel
theorem dX6_day_60 : decode cX6_day 60 = .ok (.istore_n 3, 1) := by decide +kernel
theorem dX6_day_61 : decode cX6_day 61 = .ok (.iload_n 3, 1) := by decide +kernel
theorem dX6_day_62 : decode cX6_day 62 = .ok (.iconst 2, 1) := by decide +kernel
theorem dX6_day_63 : decode cX6_day 63 = .ok (.if_icmp .ge 42, 3) := by decide +kernel
theorem dX6_day_66 : decode cX6_day 66 = .ok (.iload_n 1, 1) := by decide +kernel
theorem dX6_day_67 : decode cX6_day 67 = .ok (.aload_n 0, 1) := by decide +kernel
theorem dX6_day_68 : decode cX6_day 68 = .ok (.iload_n 3, 1) := by decide +kernel
theorem dX6_day_69 : decode cX6_day 69 = .ok (.iload_n 2, 1) := by decide +kernel
theorem dX6_day_70 : decode cX6_day 70 = .ok (.invokestatic 59, 3) := by decide +kernel
theorem dX6_day_73 : decode cX6_day 73 = .ok (.aload_n 0, 1) := by decide +kernel
theorem dX6_day_74 : decode cX6_day 74 = .ok (.getfield 7, 3) := by decide +kernel
theorem dX6_day_77 : decode cX6_day 77 = .ok (.iconst 2, 1) := by decide +kernel
theorem dX6_day_78 : decode cX6_day 78 = .ok (.iload_n 3, 1) := by decide +kernel
theorem dX6_day_79 : decode cX6_day 79 = .ok (.iadd, 1) := by decide +kernel
theorem dX6_day_80 : decode cX6_day 80 = .ok (.iaload, 1) := by decide +kernel
theorem dX6_day_81 : decode cX6_day 81 = .ok (.aload_n 0, 1) := by decide +kernel
theorem dX6_day_82 : decode cX6_day 82 = .ok (.getfield 7, 3) := by decide +kernel
theorem dX6_day_85 : decode cX6_day 85 = .ok (.iconst 2, 1) := by decide +kernel
theorem dX6_day_86 : decode cX6_day 86 = .ok (.iload_n 3, 1) := by decide +kernel
theorem dX6_day_87 : decode cX6_day 87 = .ok (.iadd, 1) := by decide +kernel
theorem dX6_day_88 : decode cX6_day 88 = .ok (.iconst 1, 1) := by decide +kernel
theorem dX6_day_89 : decode cX6_day 89 = .ok (.iadd, 1) := by decide +kernel
theorem dX6_day_90 : decode cX6_day 90 = .ok (.iaload, 1) := by decide +kernel
theorem dX6_day_91 : decode cX6_day 91 = .ok (.iadd, 1) := by decide +kernel
theorem dX6_day_92 : decode cX6_day 92 = .ok (.iconst 2, 1) := by decide +kernel
theorem dX6_day_93 : decode cX6_day 93 = .ok (.idiv, 1) := by decide +kernel
theorem dX6_day_94 : decode cX6_day 94 = .ok (.invokevirtual 93, 3) := by decide +kernel
theorem dX6_day_97 : decode cX6_day 97 = .ok (.iadd, 1) := by decide +kernel
theorem dX6_day_98 : decode cX6_day 98 = .ok (.istore_n 1, 1) := by decide +kernel
theorem dX6_day_99 : decode cX6_day 99 = .ok (.iinc 3 1, 3) := by decide +kernel
theorem dX6_day_102 : decode cX6_day 102 = .ok (.goto (-41), 3) := by decide +kernel
theorem dX6_day_105 : decode cX6_day 105 = .ok (.iinc 2 1, 3) := by decide +kernel
theorem dX6_day_108 : decode cX6_day 108 = .ok (.goto (-104), 3) := by decide +kernel
theorem dX6_day_111 : decode cX6_day 111 = .ok (.aload_n 0, 1) := by decide +kernel
theorem dX6_day_112 : decode cX6_day 112 = .ok (.getfield 7, 3) := by decide +kernel
theorem dX6_day_115 : decode cX6_day 115 = .ok (.bipush 6, 2) := by decide +kernel
theorem dX6_day_117 : decode cX6_day 117 = .ok (.dup2, 1) := by decide +kernel
theorem dX6_day_118 : decode cX6_day 118 = .ok (.iaload, 1) := by decide +kernel
theorem dX6_day_119 : decode cX6_day 119 = .ok (.iconst 1, 1) := by decide +kernel
theorem dX6_day_120 : decode cX6_day 120 = .ok (.iadd, 1) := by decide +kernel
theorem dX6_day_121 : decode cX6_day 121 = .ok (.iastore, 1) := by decide +kernel
theorem dX6_day_122 : decode cX6_day 122 = .ok (.aload_n 0, 1) := by decide +kernel
theorem dX6_day_123 : decode cX6_day 123 = .ok (.getfield 7, 3) := by decide +kernel
theorem dX6_day_126 : decode cX6_day 126 = .ok (.bipush 9, 2) := by decide +kernel
theorem dX6_day_128 : decode cX6_day 128 = .ok (.dup2, 1) := by decide +kernel
theorem dX6_day_129 : decode cX6_day 129 = .ok (.iaload, 1) := by decide +kernel
theorem dX6_day_130 : decode cX6_day 130 = .ok (.iload_n 1, 1) := by decide +kernel
theorem dX6_day_131 : decode cX6_day 131 = .ok (.iadd, 1) := by decide +kernel
theorem dX6_day_132 : decode cX6_day 132 = .ok (.iastore, 1) := by decide +kernel
theorem dX6_day_133 : decode cX6_day 133 = .ok (.iload_n 1, 1) := by decide +kernel
theorem dX6_day_134 : decode cX6_day 134 = .ok (.ireturn, 1) := by decide +kernel
set_option maxRecDepth 20000 in
theorem ggX6_pass_X6_in : GoodIn wsX6_pass wsX6_in := goodIn_r _ [4] (by decide +kernel) (by decide +kernel)
set_option maxRecDepth 20000 in
theorem gX6_pass_X6_in : GoodIn wsX6_pass (va_wsS RX6 29 yX6_in wsX6_in) := goodIn_app (goodIn_of _ (by decide +kernel)) ggX6_pass_X6_in
set_option maxRecDepth 20000 in
theorem ggX6_pass_X6_record : GoodIn wsX6_pass wsX6_record := goodIn_r _ [8, 9, 10, 11, 34, 35, 36, 37, 38, 39, 40, 41, 42, 43, 44, 45] (by decide +kernel) (by decide +kernel)
set_option maxRecDepth 20000 in
theorem gX6_pass_X6_record : GoodIn wsX6_pass (wsV RX6 45 RX6 yX6_record wsX6_record) := goodIn_app (goodIn_of _ (by decide +kernel)) ggX6_pass_X6_record
set_option maxRecDepth 20000 in
theorem ggX6_pass_X6_day : GoodIn wsX6_pass wsX6_day := goodIn_r _ [15, 11, 16, 17, 18, 3, 19, 20, 21, 22, 23, 24, 25, 26, 27, 28, 29, 30, 31, 32, 33, 34, 35, 36, 37, 38, 39, 40, 41, 42, 43, 44, 45] (by decide +kernel) (by decide +kernel)
set_option maxRecDepth 20000 in
theorem gX6_pass_X6_day : GoodIn wsX6_pass (wsV RX6 96 RX6 yX6_day wsX6_day) := goodIn_app (goodIn_of _ (by decide +kernel)) ggX6_pass_X6_day
theorem dX6_pass_0 : decode cX6_pass 0 = .ok (.iload_n 1, 1) := by decide +kernel
theorem dX6_pass_1 : decode cX6_pass 1 = .ok (.iconst 1, 1) := by decide +kernel
theorem dX6_pass_2 : decode cX6_pass 2 = .ok (.bipush 30, 2) := by decide +kernel
theorem dX6_pass_4 : decode cX6_pass 4 = .ok (.invokestatic 29, 3) := by decide +kernel
theorem dX6_pass_7 : decode cX6_pass 7 = .ok (.ifCond .ne 6, 3) := by decide +kernel
theorem dX6_pass_10 : decode cX6_pass 10 = .ok (.bipush (-2), 2) := by decide +kernel
theorem dX6_pass_12 : decode cX6_pass 12 = .ok (.ireturn, 1) := by decide +kernel
theorem dX6_pass_13 : decode cX6_pass 13 = .ok (.aload_n 0, 1) := by decide +kernel
theorem dX6_pass_14 : decode cX6_pass 14 = .ok (.invokevirtual 45, 3) := by decide +kernel
theorem dX6_pass_17 : decode cX6_pass 17 = .ok (.iconst 0, 1) := by decide +kernel
theorem dX6_pass_18 : decode cX6_pass 18 = .ok (.istore_n 2, 1) := by decide +kernel
theorem dX6_pass_19 : decode cX6_pass 19 = .ok (.iconst 0, 1) := by decide +kernel
theorem dX6_pass_20 : decode cX6_pass 20 = .ok (.istore_n 3, 1) := by decide +kernel
theorem dX6_pass_21 : decode cX6_pass 21 = .ok (.iload_n 3, 1) := by decide +kernel
theorem dX6_pass_22 : decode cX6_pass 22 = .ok (.iload_n 1, 1) := by decide +kernel
theorem dX6_pass_23 : decode cX6_pass 23 = .ok (.if_icmp .ge 16, 3) := by decide +kernel
theorem dX6_pass_26 : decode cX6_pass 26 = .ok (.iload_n 2, 1) := by decide +kernel
theorem dX6_pass_27 : decode cX6_pass 27 = .ok (.aload_n 0, 1) := by decide +kernel
theorem dX6_pass_28 : decode cX6_pass 28 = .ok (.invokevirtual 96, 3) := by decide +kernel
theorem dX6_pass_31 : decode cX6_pass 31 = .ok (.iadd, 1) := by decide +kernel
theorem dX6_pass_32 : decode cX6_pass 32 = .ok (.istore_n 2, 1) := by decide +kernel
theorem dX6_pass_33 : decode cX6_pass 33 = .ok (.iinc 3 1, 3) := by decide +kernel
theorem dX6_pass_36 : decode cX6_pass 36 = .ok (.goto (-15), 3) := by decide +kernel
theorem dX6_pass_39 : decode cX6_pass 39 = .ok (.iload_n 2, 1) := by decide +kernel
theorem dX6_pass_40 : decode cX6_pass 40 = .ok (.ireturn, 1) := by decide +kernel
theorem dX6_isWeak_0 : decode cX6_isWeak 0 = .ok (.aload_n 0, 1) := by decide +kernel
theorem dX6_isWeak_1 : decode cX6_isWeak 1 = .ok (.getfield 7, 3) := by decide +kernel
theorem dX6_isWeak_4 : decode cX6_isWeak 4 = .ok (.iload_n 1, 1) := by decide +kernel
theorem dX6_isWeak_5 : decode cX6_isWeak 5 = .ok (.iaload, 1) := by decide +kernel
theorem dX6_isWeak_6 : decode cX6_isWeak 6 = .ok (.ifCond .le 20, 3) := by decide +kernel
theorem dX6_isWeak_9 : decode cX6_isWeak 9 = .ok (.aload_n 0, 1) := by decide +kernel
theorem dX6_isWeak_10 : decode cX6_isWeak 10 = .ok (.getfield 7, 3) := by decide +kernel
theorem dX6_isWeak_13 : decode cX6_isWeak 13 = .ok (.iload_n 1, 1) := by decide +kernel
theorem dX6_isWeak_14 : decode cX6_isWeak 14 = .ok (.iconst 1, 1) := by decide +kernel
theorem dX6_isWeak_15 : decode cX6_isWeak 15 = .ok (.iadd, 1) := by decide +kernel
theorem dX6_isWeak_16 : decode cX6_isWeak 16 = .ok (.iaload, 1) := by decide +kernel
theorem dX6_isWeak_17 : decode cX6_isWeak 17 = .ok (.bipush 60, 2) := by decide +kernel
theorem dX6_isWeak_19 : decode cX6_isWeak 19 = .ok (.if_icmp .ge 7, 3) := by decide +kernel
theorem dX6_isWeak_22 : decode cX6_isWeak 22 = .ok (.iconst 1, 1) := by decide +kernel
theorem dX6_isWeak_23 : decode cX6_isWeak 23 = .ok (.goto 4, 3) := by decide +kernel
theorem dX6_isWeak_26 : decode cX6_isWeak 26 = .ok (.iconst 0, 1) := by decide +kernel
theorem dX6_isWeak_27 : decode cX6_isWeak 27 = .ok (.ireturn, 1) := by decide +kernel
set_option maxRecDepth 20000 in
theorem ggX6_signAt_X6_cellAt : GoodIn wsX6_signAt wsX6_cellAt := goodIn_r _ [4] (by decide +kernel) (by decide +kernel)
set_option maxRecDepth 20000 in
theorem gX6_signAt_X6_cellAt : GoodIn wsX6_signAt (va_wsS RX6 33 yX6_cellAt wsX6_cellAt) := goodIn_app (goodIn_of _ (by decide +kernel)) ggX6_signAt_X6_cellAt
set_option maxRecDepth 20000 in
theorem ggX6_signAt_X6_lineAt : GoodIn wsX6_signAt wsX6_lineAt := goodIn_r _ [7] (by decide +kernel) (by decide +kernel)
set_option maxRecDepth 20000 in
theorem gX6_signAt_X6_lineAt : GoodIn wsX6_signAt (va_wsS RX6 59 yX6_lineAt wsX6_lineAt) := goodIn_app (goodIn_of _ (by decide +kernel)) ggX6_signAt_X6_lineAt
theorem dX6_signAt_0 : decode cX6_signAt 0 = .ok (.iload_n 1, 1) := by decide +kernel
theorem dX6_signAt_1 : decode cX6_signAt 1 = .ok (.iconst 3, 1) := by decide +kernel
theorem dX6_signAt_2 : decode cX6_signAt 2 = .ok (.if_icmp .ge 13, 3) := by decide +kernel
theorem dX6_signAt_5 : decode cX6_signAt 5 = .ok (.iload_n 1, 1) := by decide +kernel
theorem dX6_signAt_6 : decode cX6_signAt 6 = .ok (.iload_n 0, 1) := by decide +kernel
theorem dX6_signAt_7 : decode cX6_signAt 7 = .ok (.invokestatic 33, 3) := by decide +kernel
theorem dX6_signAt_10 : decode cX6_signAt 10 = .ok (.iconst 2, 1) := by decide +kernel
theorem dX6_signAt_11 : decode cX6_signAt 11 = .ok (.iadd, 1) := by decide +kernel
theorem dX6_signAt_12 : decode cX6_signAt 12 = .ok (.goto 27, 3) := by decide +kernel
theorem dX6_signAt_15 : decode cX6_signAt 15 = .ok (.iload_n 1, 1) := by decide +kernel
theorem dX6_signAt_16 : decode cX6_signAt 16 = .ok (.bipush 6, 2) := by decide +kernel
theorem dX6_signAt_18 : decode cX6_signAt 18 = .ok (.if_icmp .ge 13, 3) := by decide +kernel
theorem dX6_signAt_21 : decode cX6_signAt 21 = .ok (.iload_n 1, 1) := by decide +kernel
theorem dX6_signAt_22 : decode cX6_signAt 22 = .ok (.iconst 3, 1) := by decide +kernel
theorem dX6_signAt_23 : decode cX6_signAt 23 = .ok (.isub, 1) := by decide +kernel
theorem dX6_signAt_24 : decode cX6_signAt 24 = .ok (.iload_n 0, 1) := by decide +kernel
theorem dX6_signAt_25 : decode cX6_signAt 25 = .ok (.invokestatic 33, 3) := by decide +kernel
theorem dX6_signAt_28 : decode cX6_signAt 28 = .ok (.goto 11, 3) := by decide +kernel
theorem dX6_signAt_31 : decode cX6_signAt 31 = .ok (.iload_n 1, 1) := by decide +kernel
theorem dX6_signAt_32 : decode cX6_signAt 32 = .ok (.bipush 6, 2) := by decide +kernel
theorem dX6_signAt_34 : decode cX6_signAt 34 = .ok (.isub, 1) := by decide +kernel
theorem dX6_signAt_35 : decode cX6_signAt 35 = .ok (.iload_n 0, 1) := by decide +kernel
theorem dX6_signAt_36 : decode cX6_signAt 36 = .ok (.invokestatic 59, 3) := by decide +kernel
theorem dX6_signAt_39 : decode cX6_signAt 39 = .ok (.ireturn, 1) := by decide +kernel
set_option maxRecDepth 20000 in
theorem ggX6_whyNotNight_X6_in : GoodIn wsX6_whyNotNight wsX6_in := goodIn_r _ [5] (by decide +kernel) (by decide +kernel)
set_option maxRecDepth 20000 in
theorem gX6_whyNotNight_X6_in : GoodIn wsX6_whyNotNight (va_wsS RX6 29 yX6_in wsX6_in) := goodIn_app (goodIn_of _ (by decide +kernel)) ggX6_whyNotNight_X6_in
theorem dX6_whyNotNight_0 : decode cX6_whyNotNight 0 = .ok (.iload_n 1, 1) := by decide +kernel
theorem dX6_whyNotNight_1 : decode cX6_whyNotNight 1 = .ok (.iconst 0, 1) := by decide +kernel
theorem dX6_whyNotNight_2 : decode cX6_whyNotNight 2 = .ok (.bipush 15, 2) := by decide +kernel
theorem dX6_whyNotNight_4 : decode cX6_whyNotNight 4 = .ok (.invokestatic 29, 3) := by decide +kernel
theorem dX6_whyNotNight_7 : decode cX6_whyNotNight 7 = .ok (.ifCond .eq 13, 3) := by decide +kernel
theorem dX6_whyNotNight_10 : decode cX6_whyNotNight 10 = .ok (.iload_n 2, 1) := by decide +kernel
theorem dX6_whyNotNight_11 : decode cX6_whyNotNight 11 = .ok (.iconst 0, 1) := by decide +kernel
theorem dX6_whyNotNight_12 : decode cX6_whyNotNight 12 = .ok (.bipush 15, 2) := by decide +kernel
theorem dX6_whyNotNight_14 : decode cX6_whyNotNight 14 = .ok (.invokestatic 29, 3) := by decide +kernel
theorem dX6_whyNotNight_17 : decode cX6_whyNotNight 17 = .ok (.ifCond .ne 7, 3) := by decide +kernel
theorem dX6_whyNotNight_20 : decode cX6_whyNotNight 20 = .ok (.iconst (-1), 1) := by decide +kernel
theorem dX6_whyNotNight_21 : decode cX6_whyNotNight 21 = .ok (.goto 18, 3) := by decide +kernel
theorem dX6_whyNotNight_24 : decode cX6_whyNotNight 24 = .ok (.aload_n 0, 1) := by decide +kernel
theorem dX6_whyNotNight_25 : decode cX6_whyNotNight 25 = .ok (.getfield 7, 3) := by decide +kernel
theorem dX6_whyNotNight_28 : decode cX6_whyNotNight 28 = .ok (.iconst 5, 1) := by decide +kernel
theorem dX6_whyNotNight_29 : decode cX6_whyNotNight 29 = .ok (.iaload, 1) := by decide +kernel
theorem dX6_whyNotNight_30 : decode cX6_whyNotNight 30 = .ok (.ifCond .ne 8, 3) := by decide +kernel
theorem dX6_whyNotNight_33 : decode cX6_whyNotNight 33 = .ok (.bipush (-3), 2) := by decide +kernel
theorem dX6_whyNotNight_35 : decode cX6_whyNotNight 35 = .ok (.goto 4, 3) := by decide +kernel
theorem dX6_whyNotNight_38 : decode cX6_whyNotNight 38 = .ok (.iconst 0, 1) := by decide +kernel
theorem dX6_whyNotNight_39 : decode cX6_whyNotNight 39 = .ok (.ireturn, 1) := by decide +kernel
set_option maxRecDepth 20000 in
theorem ggX6_works_X6_signAt : GoodIn wsX6_works wsX6_signAt := goodIn_r _ [5, 6, 7, 4, 8, 9, 10, 11] (by decide +kernel) (by decide +kernel)
set_option maxRecDepth 20000 in
theorem gX6_works_X6_signAt : GoodIn wsX6_works (va_wsS RX6 100 yX6_signAt wsX6_signAt) := goodIn_app (goodIn_of _ (by decide +kernel)) ggX6_works_X6_signAt
set_option maxRecDepth 20000 in
theorem ggX6_works_X6_isWeak : GoodIn wsX6_works wsX6_isWeak := goodIn_r _ [15, 1, 16, 17, 18, 19, 20, 21, 22, 23, 24, 25, 26, 27] (by decide +kernel) (by decide +kernel)
set_option maxRecDepth 20000 in
theorem gX6_works_X6_isWeak : GoodIn wsX6_works (wsV RX6 103 RX6 yX6_isWeak wsX6_isWeak) := goodIn_app (goodIn_of _ (by decide +kernel)) ggX6_works_X6_isWeak
theorem dX6_works_0 : decode cX6_works 0 = .ok (.iconst 0, 1) := by decide +kernel
theorem dX6_works_1 : decode cX6_works 1 = .ok (.istore_n 3, 1) := by decide +kernel
theorem dX6_works_2 : decode cX6_works 2 = .ok (.iload_n 1, 1) := by decide +kernel
theorem dX6_works_3 : decode cX6_works 3 = .ok (.iload_n 2, 1) := by decide +kernel
theorem dX6_works_4 : decode cX6_works 4 = .ok (.if_icmp .gt 7, 3) := by decide +kernel
theorem dX6_works_7 : decode cX6_works 7 = .ok (.iconst 1, 1) := by decide +kernel
theorem dX6_works_8 : decode cX6_works 8 = .ok (.goto 4, 3) := by decide +kernel
theorem dX6_works_11 : decode cX6_works 11 = .ok (.iconst (-1), 1) := by decide +kernel
theorem dX6_works_12 : decode cX6_works 12 = .ok (.istore 4, 2) := by decide +kernel
theorem dX6_works_14 : decode cX6_works 14 = .ok (.iload_n 1, 1) := by decide +kernel
theorem dX6_works_15 : decode cX6_works 15 = .ok (.istore 5, 2) := by decide +kernel
theorem dX6_works_17 : decode cX6_works 17 = .ok (.iload 5, 2) := by decide +kernel
theorem dX6_works_19 : decode cX6_works 19 = .ok (.iload_n 2, 1) := by decide +kernel
theorem dX6_works_20 : decode cX6_works 20 = .ok (.iload 4, 2) := by decide +kernel
theorem dX6_works_22 : decode cX6_works 22 = .ok (.iadd, 1) := by decide +kernel
theorem dX6_works_23 : decode cX6_works 23 = .ok (.if_icmp .eq 90, 3) := by decide +kernel
theorem dX6_works_26 : decode cX6_works 26 = .ok (.iconst 0, 1) := by decide +kernel
theorem dX6_works_27 : decode cX6_works 27 = .ok (.istore 6, 2) := by decide +kernel
theorem dX6_works_29 : decode cX6_works 29 = .ok (.iload 6, 2) := by decide +kernel
theorem dX6_works_31 : decode cX6_works 31 = .ok (.bipush 8, 2) := by decide +kernel
theorem dX6_works_33 : decode cX6_works 33 = .ok (.if_icmp .ge 70, 3) := by decide +kernel
theorem dX6_works_36 : decode cX6_works 36 = .ok (.iload 5, 2) := by decide +kernel
theorem dX6_works_38 : decode cX6_works 38 = .ok (.iload 6, 2) := by decide +kernel
theorem dX6_works_40 : decode cX6_works 40 = .ok (.invokestatic 100, 3) := by decide +kernel
theorem dX6_works_43 : decode cX6_works 43 = .ok (.istore 7, 2) := by decide +kernel
theorem dX6_works_45 : decode cX6_works 45 = .ok (.aload_n 0, 1) := by decide +kernel
theorem dX6_works_46 : decode cX6_works 46 = .ok (.iload 7, 2) := by decide +kernel
theorem dX6_works_48 : decode cX6_works 48 = .ok (.invokevirtual 103, 3) := by decide +kernel
theorem dX6_works_51 : decode cX6_works 51 = .ok (.ifCond .eq 46, 3) := by decide +kernel
theorem dX6_works_54 : decode cX6_works 54 = .ok (.aload_n 0, 1) := by decide +kernel
theorem dX6_works_55 : decode cX6_works 55 = .ok (.getfield 7, 3) := by decide +kernel
theorem dX6_works_58 : decode cX6_works 58 = .ok (.iconst 5, 1) := by decide +kernel
theorem dX6_works_59 : decode cX6_works 59 = .ok (.iaload, 1) := by decide +kernel
theorem dX6_works_60 : decode cX6_works 60 = .ok (.ifCond .le 37, 3) := by decide +kernel
theorem dX6_works_63 : decode cX6_works 63 = .ok (.iload_n 3, 1) := by decide +kernel
theorem dX6_works_64 : decode cX6_works 64 = .ok (.aload_n 0, 1) := by decide +kernel
theorem dX6_works_65 : decode cX6_works 65 = .ok (.getfield 7, 3) := by decide +kernel
theorem dX6_works_68 : decode cX6_works 68 = .ok (.iconst 1, 1) := by decide +kernel
theorem dX6_works_69 : decode cX6_works 69 = .ok (.iaload, 1) := by decide +kernel
theorem dX6_works_70 : decode cX6_works 70 = .ok (.if_icmp .ge 27, 3) := by decide +kernel
theorem dX6_works_73 : decode cX6_works 73 = .ok (.aload_n 0, 1) := by decide +kernel
theorem dX6_works_74 : decode cX6_works 74 = .ok (.getfield 7, 3) := by decide +kernel
theorem dX6_works_77 : decode cX6_works 77 = .ok (.iload 7, 2) := by decide +kernel
theorem dX6_works_79 : decode cX6_works 79 = .ok (.iconst 1, 1) := by decide +kernel
theorem dX6_works_80 : decode cX6_works 80 = .ok (.iadd, 1) := by decide +kernel
theorem dX6_works_81 : decode cX6_works 81 = .ok (.bipush 100, 2) := by decide +kernel
theorem dX6_works_83 : decode cX6_works 83 = .ok (.iastore, 1) := by decide +kernel
theorem dX6_works_84 : decode cX6_works 84 = .ok (.aload_n 0, 1) := by decide +kernel
theorem dX6_works_85 : decode cX6_works 85 = .ok (.getfield 7, 3) := by decide +kernel
theorem dX6_works_88 : decode cX6_works 88 = .ok (.iconst 5, 1) := by decide +kernel
theorem dX6_works_89 : decode cX6_works 89 = .ok (.dup2, 1) := by decide +kernel
theorem dX6_works_90 : decode cX6_works 90 = .ok (.iaload, 1) := by decide +kernel
theorem dX6_works_91 : decode cX6_works 91 = .ok (.iconst 1, 1) := by decide +kernel
theorem dX6_works_92 : decode cX6_works 92 = .ok (.isub, 1) := by decide +kernel
theorem dX6_works_93 : decode cX6_works 93 = .ok (.iastore, 1) := by decide +kernel
theorem dX6_works_94 : decode cX6_works 94 = .ok (.iinc 3 1, 3) := by decide +kernel
theorem dX6_works_97 : decode cX6_works 97 = .ok (.iinc 6 1, 3) := by decide +kernel
theorem dX6_works_100 : decode cX6_works 100 = .ok (.goto (-71), 3) := by decide +kernel
theorem dX6_works_103 : decode cX6_works 103 = .ok (.iload 5, 2) := by decide +kernel
theorem dX6_works_105 : decode cX6_works 105 = .ok (.iload 4, 2) := by decide +kernel
theorem dX6_works_107 : decode cX6_works 107 = .ok (.iadd, 1) := by decide +kernel
theorem dX6_works_108 : decode cX6_works 108 = .ok (.istore 5, 2) := by decide +kernel
theorem dX6_works_110 : decode cX6_works 110 = .ok (.goto (-93), 3) := by decide +kernel
theorem dX6_works_113 : decode cX6_works 113 = .ok (.aload_n 0, 1) := by decide +kernel
theorem dX6_works_114 : decode cX6_works 114 = .ok (.getfield 7, 3) := by decide +kernel
theorem dX6_works_117 : decode cX6_works 117 = .ok (.bipush 7, 2) := by decide +kernel
theorem dX6_works_119 : decode cX6_works 119 = .ok (.dup2, 1) := by decide +kernel
theorem dX6_works_120 : decode cX6_works 120 = .ok (.iaload, 1) := by decide +kernel
theorem dX6_works_121 : decode cX6_works 121 = .ok (.iconst 1, 1) := by decide +kernel
theorem dX6_works_122 : decode cX6_works 122 = .ok (.iadd, 1) := by decide +kernel
theorem dX6_works_123 : decode cX6_works 123 = .ok (.iastore, 1) := by decide +kernel
theorem dX6_works_124 : decode cX6_works 124 = .ok (.aload_n 0, 1) := by decide +kernel
theorem dX6_works_125 : decode cX6_works 125 = .ok (.getfield 7, 3) := by decide +kernel
theorem dX6_works_128 : decode cX6_works 128 = .ok (.bipush 8, 2) := by decide +kernel
theorem dX6_works_130 : decode cX6_works 130 = .ok (.dup2, 1) := by decide +kernel
theorem dX6_works_131 : decode cX6_works 131 = .ok (.iaload, 1) := by decide +kernel
theorem dX6_works_132 : decode cX6_works 132 = .ok (.iload_n 3, 1) := by decide +kernel
theorem dX6_works_133 : decode cX6_works 133 = .ok (.iadd, 1) := by decide +kernel
theorem dX6_works_134 : decode cX6_works 134 = .ok (.iastore, 1) := by decide +kernel
theorem dX6_works_135 : decode cX6_works 135 = .ok (.iload_n 3, 1) := by decide +kernel
theorem dX6_works_136 : decode cX6_works 136 = .ok (.ireturn, 1) := by decide +kernel
set_option maxRecDepth 20000 in
theorem ggX6_night_X6_whyNotNight : GoodIn wsX6_night wsX6_whyNotNight := goodIn_r _ [5, 6, 7, 8, 4, 9, 33, 34, 35, 36, 37, 38, 39, 40, 41, 42, 43, 44] (by decide +kernel) (by decide +kernel)
set_option maxRecDepth 20000 in
theorem gX6_night_X6_whyNotNight : GoodIn wsX6_night (wsV RX6 107 RX6 yX6_whyNotNight wsX6_whyNotNight) := goodIn_app (goodIn_of _ (by decide +kernel)) ggX6_night_X6_whyNotNight
set_option maxRecDepth 20000 in
theorem ggX6_night_X6_record : GoodIn wsX6_night wsX6_record := goodIn_r _ [13, 14, 15, 6, 33, 34, 35, 36, 37, 38, 39, 40, 41, 42, 43, 44] (by decide +kernel) (by decide +kernel)
set_option maxRecDepth 20000 in
theorem gX6_night_X6_record : GoodIn wsX6_night (wsV RX6 45 RX6 yX6_record wsX6_record) := goodIn_app (goodIn_of _ (by decide +kernel)) ggX6_night_X6_record
set_option maxRecDepth 20000 in
theorem ggX6_night_X6_works : GoodIn wsX6_night wsX6_works := goodIn_r _ [19, 6, 20, 21, 4, 22, 23, 24, 25, 26, 27, 28, 29, 30, 31, 32, 33, 34, 35, 36, 37, 38, 39, 40, 41, 42, 43, 44] (by decide +kernel) (by decide +kernel)
set_option maxRecDepth 20000 in
theorem gX6_night_X6_works : GoodIn wsX6_night (wsV RX6 110 RX6 yX6_works wsX6_works) := goodIn_app (goodIn_of _ (by decide +kernel)) ggX6_night_X6_works
theorem dX6_night_0 : decode cX6_night 0 = .ok (.aload_n 0, 1) := by decide +kernel
theorem dX6_night_1 : decode cX6_night 1 = .ok (.iload_n 1, 1) := by decide +kernel
theorem dX6_night_2 : decode cX6_night 2 = .ok (.iload_n 2, 1) := by decide +kernel
theorem dX6_night_3 : decode cX6_night 3 = .ok (.invokevirtual 107, 3) := by decide +kernel
theorem dX6_night_6 : decode cX6_night 6 = .ok (.istore_n 3, 1) := by decide +kernel
theorem dX6_night_7 : decode cX6_night 7 = .ok (.iload_n 3, 1) := by decide +kernel
theorem dX6_night_8 : decode cX6_night 8 = .ok (.ifCond .ge 5, 3) := by decide +kernel
theorem dX6_night_11 : decode cX6_night 11 = .ok (.iload_n 3, 1) := by decide +kernel
theorem dX6_night_12 : decode cX6_night 12 = .ok (.ireturn, 1) := by decide +kernel
theorem dX6_night_13 : decode cX6_night 13 = .ok (.aload_n 0, 1) := by decide +kernel
theorem dX6_night_14 : decode cX6_night 14 = .ok (.invokevirtual 45, 3) := by decide +kernel
theorem dX6_night_17 : decode cX6_night 17 = .ok (.aload_n 0, 1) := by decide +kernel
theorem dX6_night_18 : decode cX6_night 18 = .ok (.iload_n 1, 1) := by decide +kernel
theorem dX6_night_19 : decode cX6_night 19 = .ok (.iload_n 2, 1) := by decide +kernel
theorem dX6_night_20 : decode cX6_night 20 = .ok (.invokevirtual 110, 3) := by decide +kernel
theorem dX6_night_23 : decode cX6_night 23 = .ok (.ireturn, 1) := by decide +kernel
set_option maxRecDepth 20000 in
theorem ggX6_isFree_X6_wayAt : GoodIn wsX6_isFree wsX6_wayAt := goodIn_r _ [5, 6, 7, 8, 4, 9, 10, 11, 12, 13, 14, 15, 16, 17, 18, 19, 20, 21] (by decide +kernel) (by decide +kernel)
set_option maxRecDepth 20000 in
theorem gX6_isFree_X6_wayAt : GoodIn wsX6_isFree (wsV RX6 48 RX6 yX6_wayAt wsX6_wayAt) := goodIn_app (goodIn_of _ (by decide +kernel)) ggX6_isFree_X6_wayAt
theorem dX6_isFree_0 : decode cX6_isFree 0 = .ok (.aload_n 0, 1) := by decide +kernel
theorem dX6_isFree_1 : decode cX6_isFree 1 = .ok (.iload_n 1, 1) := by decide +kernel
theorem dX6_isFree_2 : decode cX6_isFree 2 = .ok (.iload_n 2, 1) := by decide +kernel
theorem dX6_isFree_3 : decode cX6_isFree 3 = .ok (.invokevirtual 48, 3) := by decide +kernel
theorem dX6_isFree_6 : decode cX6_isFree 6 = .ok (.iconst 1, 1) := by decide +kernel
theorem dX6_isFree_7 : decode cX6_isFree 7 = .ok (.iload_n 3, 1) := by decide +kernel
theorem dX6_isFree_8 : decode cX6_isFree 8 = .ok (.isub, 1) := by decide +kernel
theorem dX6_isFree_9 : decode cX6_isFree 9 = .ok (.if_icmp .eq 7, 3) := by decide +kernel
theorem dX6_isFree_12 : decode cX6_isFree 12 = .ok (.iconst 1, 1) := by decide +kernel
theorem dX6_isFree_13 : decode cX6_isFree 13 = .ok (.goto 4, 3) := by decide +kernel
theorem dX6_isFree_16 : decode cX6_isFree 16 = .ok (.iconst 0, 1) := by decide +kernel
theorem dX6_isFree_17 : decode cX6_isFree 17 = .ok (.ireturn, 1) := by decide +kernel
set_option maxRecDepth 20000 in
theorem ggX6_cell_X6_isCell : GoodIn wsX6_cell wsX6_isCell := goodIn_r _ [5, 6, 7, 4, 8] (by decide +kernel) (by decide +kernel)
set_option maxRecDepth 20000 in
theorem gX6_cell_X6_isCell : GoodIn wsX6_cell (va_wsS RX6 62 yX6_isCell wsX6_isCell) := goodIn_app (goodIn_of _ (by decide +kernel)) ggX6_cell_X6_isCell
set_option maxRecDepth 20000 in
theorem ggX6_cell_X6_cellAt : GoodIn wsX6_cell wsX6_cellAt := goodIn_r _ [11] (by decide +kernel) (by decide +kernel)
set_option maxRecDepth 20000 in
theorem gX6_cell_X6_cellAt : GoodIn wsX6_cell (va_wsS RX6 33 yX6_cellAt wsX6_cellAt) := goodIn_app (goodIn_of _ (by decide +kernel)) ggX6_cell_X6_cellAt
set_option maxRecDepth 20000 in
theorem ggX6_cell_X6_wayAt : GoodIn wsX6_cell wsX6_wayAt := goodIn_r _ [15, 1, 9, 10, 4, 11, 24, 25, 26, 27, 28, 29, 30, 31, 32, 33, 34, 35] (by decide +kernel) (by decide +kernel)
set_option maxRecDepth 20000 in
theorem gX6_cell_X6_wayAt : GoodIn wsX6_cell (wsV RX6 48 RX6 yX6_wayAt wsX6_wayAt) := goodIn_app (goodIn_of _ (by decide +kernel)) ggX6_cell_X6_wayAt
set_option maxRecDepth 20000 in
theorem ggX6_cell_X6_isRead : GoodIn wsX6_cell wsX6_isRead := goodIn_r _ [19, 1, 9, 10, 4, 11, 24, 25, 26, 27, 28, 29, 30, 31, 32, 33, 34, 35] (by decide +kernel) (by decide +kernel)
set_option maxRecDepth 20000 in
theorem gX6_cell_X6_isRead : GoodIn wsX6_cell (wsV RX6 87 RX6 yX6_isRead wsX6_isRead) := goodIn_app (goodIn_of _ (by decide +kernel)) ggX6_cell_X6_isRead
set_option maxRecDepth 20000 in
theorem ggX6_cell_X6_isFree : GoodIn wsX6_cell wsX6_isFree := goodIn_r _ [23, 12, 13, 14, 4, 15, 1, 9, 10, 11, 24, 25, 26, 27, 28, 29, 30, 31, 32, 33, 34, 35] (by decide +kernel) (by decide +kernel)
set_option maxRecDepth 20000 in
theorem gX6_cell_X6_isFree : GoodIn wsX6_cell (wsV RX6 113 RX6 yX6_isFree wsX6_isFree) := goodIn_app (goodIn_of _ (by decide +kernel)) ggX6_cell_X6_isFree
theorem dX6_cell_0 : decode cX6_cell 0 = .ok (.iload_n 1, 1) := by decide +kernel
theorem dX6_cell_1 : decode cX6_cell 1 = .ok (.iload_n 2, 1) := by decide +kernel
theorem dX6_cell_2 : decode cX6_cell 2 = .ok (.invokestatic 62, 3) := by decide +kernel
theorem dX6_cell_5 : decode cX6_cell 5 = .ok (.ifCond .ne 5, 3) := by decide +kernel
theorem dX6_cell_8 : decode cX6_cell 8 = .ok (.iconst (-1), 1) := by decide +kernel
theorem dX6_cell_9 : decode cX6_cell 9 = .ok (.ireturn, 1) := by decide +kernel
theorem dX6_cell_10 : decode cX6_cell 10 = .ok (.iload_n 1, 1) := by decide +kernel
theorem dX6_cell_11 : decode cX6_cell 11 = .ok (.iload_n 2, 1) := by decide +kernel
theorem dX6_cell_12 : decode cX6_cell 12 = .ok (.invokestatic 33, 3) := by decide +kernel
theorem dX6_cell_15 : decode cX6_cell 15 = .ok (.istore 4, 2) := by decide +kernel
theorem dX6_cell_17 : decode cX6_cell 17 = .ok (.iload_n 3, 1) := by decide +kernel
theorem dX6_cell_18 : decode cX6_cell 18 = .ok (.tableswitch 121 0 6 #[42, 49, 59, 49, 88, 103, 103], 42) := by decide +kernel
theorem dX6_cell_60 : decode cX6_cell 60 = .ok (.aload_n 0, 1) := by decide +kernel
theorem dX6_cell_61 : decode cX6_cell 61 = .ok (.iload_n 1, 1) := by decide +kernel
theorem dX6_cell_62 : decode cX6_cell 62 = .ok (.iload_n 2, 1) := by decide +kernel
theorem dX6_cell_63 : decode cX6_cell 63 = .ok (.invokevirtual 48, 3) := by decide +kernel
theorem dX6_cell_66 : decode cX6_cell 66 = .ok (.ireturn, 1) := by decide +kernel
theorem dX6_cell_67 : decode cX6_cell 67 = .ok (.aload_n 0, 1) := by decide +kernel
theorem dX6_cell_68 : decode cX6_cell 68 = .ok (.getfield 7, 3) := by decide +kernel
theorem dX6_cell_71 : decode cX6_cell 71 = .ok (.iload 4, 2) := by decide +kernel
theorem dX6_cell_73 : decode cX6_cell 73 = .ok (.iload_n 3, 1) := by decide +kernel
theorem dX6_cell_74 : decode cX6_cell 74 = .ok (.iadd, 1) := by decide +kernel
theorem dX6_cell_75 : decode cX6_cell 75 = .ok (.iaload, 1) := by decide +kernel
theorem dX6_cell_76 : decode cX6_cell 76 = .ok (.ireturn, 1) := by decide +kernel
theorem dX6_cell_77 : decode cX6_cell 77 = .ok (.aload_n 0, 1) := by decide +kernel
theorem dX6_cell_78 : decode cX6_cell 78 = .ok (.getfield 7, 3) := by decide +kernel
theorem dX6_cell_81 : decode cX6_cell 81 = .ok (.iload 4, 2) := by decide +kernel
theorem dX6_cell_83 : decode cX6_cell 83 = .ok (.iconst 2, 1) := by decide +kernel
theorem dX6_cell_84 : decode cX6_cell 84 = .ok (.iadd, 1) := by decide +kernel
theorem dX6_cell_85 : decode cX6_cell 85 = .ok (.iaload, 1) := by decide +kernel
theorem dX6_cell_86 : decode cX6_cell 86 = .ok (.ifCond .ne 8, 3) := by decide +kernel
theorem dX6_cell_89 : decode cX6_cell 89 = .ok (.bipush (-6), 2) := by decide +kernel
theorem dX6_cell_91 : decode cX6_cell 91 = .ok (.goto 14, 3) := by decide +kernel
theorem dX6_cell_94 : decode cX6_cell 94 = .ok (.aload_n 0, 1) := by decide +kernel
theorem dX6_cell_95 : decode cX6_cell 95 = .ok (.getfield 7, 3) := by decide +kernel
theorem dX6_cell_98 : decode cX6_cell 98 = .ok (.iload 4, 2) := by decide +kernel
theorem dX6_cell_100 : decode cX6_cell 100 = .ok (.iconst 2, 1) := by decide +kernel
theorem dX6_cell_101 : decode cX6_cell 101 = .ok (.iadd, 1) := by decide +kernel
theorem dX6_cell_102 : decode cX6_cell 102 = .ok (.iaload, 1) := by decide +kernel
theorem dX6_cell_103 : decode cX6_cell 103 = .ok (.iconst 1, 1) := by decide +kernel
theorem dX6_cell_104 : decode cX6_cell 104 = .ok (.isub, 1) := by decide +kernel
theorem dX6_cell_105 : decode cX6_cell 105 = .ok (.ireturn, 1) := by decide +kernel
theorem dX6_cell_106 : decode cX6_cell 106 = .ok (.aload_n 0, 1) := by decide +kernel
theorem dX6_cell_107 : decode cX6_cell 107 = .ok (.iload_n 1, 1) := by decide +kernel
theorem dX6_cell_108 : decode cX6_cell 108 = .ok (.iload_n 2, 1) := by decide +kernel
theorem dX6_cell_109 : decode cX6_cell 109 = .ok (.invokevirtual 87, 3) := by decide +kernel
theorem dX6_cell_112 : decode cX6_cell 112 = .ok (.ifCond .eq 7, 3) := by decide +kernel
theorem dX6_cell_115 : decode cX6_cell 115 = .ok (.iconst 1, 1) := by decide +kernel
theorem dX6_cell_116 : decode cX6_cell 116 = .ok (.goto 4, 3) := by decide +kernel
theorem dX6_cell_119 : decode cX6_cell 119 = .ok (.iconst 0, 1) := by decide +kernel
theorem dX6_cell_120 : decode cX6_cell 120 = .ok (.ireturn, 1) := by decide +kernel
theorem dX6_cell_121 : decode cX6_cell 121 = .ok (.aload_n 0, 1) := by decide +kernel
theorem dX6_cell_122 : decode cX6_cell 122 = .ok (.iload_n 1, 1) := by decide +kernel
theorem dX6_cell_123 : decode cX6_cell 123 = .ok (.iload_n 2, 1) := by decide +kernel
theorem dX6_cell_124 : decode cX6_cell 124 = .ok (.iload_n 3, 1) := by decide +kernel
theorem dX6_cell_125 : decode cX6_cell 125 = .ok (.iconst 5, 1) := by decide +kernel
theorem dX6_cell_126 : decode cX6_cell 126 = .ok (.isub, 1) := by decide +kernel
theorem dX6_cell_127 : decode cX6_cell 127 = .ok (.invokevirtual 113, 3) := by decide +kernel
theorem dX6_cell_130 : decode cX6_cell 130 = .ok (.ifCond .eq 7, 3) := by decide +kernel
theorem dX6_cell_133 : decode cX6_cell 133 = .ok (.iconst 1, 1) := by decide +kernel
theorem dX6_cell_134 : decode cX6_cell 134 = .ok (.goto 4, 3) := by decide +kernel
theorem dX6_cell_137 : decode cX6_cell 137 = .ok (.iconst 0, 1) := by decide +kernel
theorem dX6_cell_138 : decode cX6_cell 138 = .ok (.ireturn, 1) := by decide +kernel
theorem dX6_cell_139 : decode cX6_cell 139 = .ok (.bipush (-2), 2) := by decide +kernel
theorem dX6_cell_141 : decode cX6_cell 141 = .ok (.ireturn, 1) := by decide +kernel
set_option maxRecDepth 20000 in
theorem ggX6_line_X6_isLine : GoodIn wsX6_line wsX6_isLine := goodIn_r _ [5, 6, 7, 4, 8] (by decide +kernel) (by decide +kernel)
set_option maxRecDepth 20000 in
theorem gX6_line_X6_isLine : GoodIn wsX6_line (va_wsS RX6 81 yX6_isLine wsX6_isLine) := goodIn_app (goodIn_of _ (by decide +kernel)) ggX6_line_X6_isLine
set_option maxRecDepth 20000 in
theorem ggX6_line_X6_in : GoodIn wsX6_line wsX6_in := goodIn_r _ [8] (by decide +kernel) (by decide +kernel)
set_option maxRecDepth 20000 in
theorem gX6_line_X6_in : GoodIn wsX6_line (va_wsS RX6 29 yX6_in wsX6_in) := goodIn_app (goodIn_of _ (by decide +kernel)) ggX6_line_X6_in

theorem dX3_allowsChange_49 : decode cX3_allowsChange 49 = .ok (.iload 4, 2) := by decide +kernel
theorem dX3_allowsChange_51 : decode cX3_allowsChange 51 = .ok (.invokevirtual 116, 3) := by decide +kernel
theorem dX3_allowsChange_54 : decode cX3_allowsChange 54 = .ok (.ifCond .eq 7, 3) := by decide +kernel
theorem dX3_allowsChange_57 : decode cX3_allowsChange 57 = .ok (.iconst 1, 1) := by decide +kernel
theorem dX3_allowsChange_58 : decode cX3_allowsChange 58 = .ok (.goto 4, 3) := by decide +kernel
theorem dX3_allowsChange_61 : decode cX3_allowsChange 61 = .ok (.iconst 0, 1) := by decide +kernel
theorem dX3_allowsChange_62 : decode cX3_allowsChange 62 = .ok (.ireturn, 1) := by decide +kernel
set_option maxRecDepth 20000 in
theorem ggX3_sumOfStrengths_X4_sumOfStrengths : GoodIn wsX3_sumOfStrengths wsX4_sumOfStrengths := goodIn_r _ [8, 9, 20, 21, 22] (by decide +kernel) (by decide +kernel)
set_option maxRecDepth 20000 in
theorem gX3_sumOfStrengths_X4_sumOfStrengths : GoodIn wsX3_sumOfStrengths (wsV RX3 123 RX4 yX4_sumOfStrengths wsX4_sumOfStrengths) := goodIn_app (goodIn_of _ (by decide +kernel)) ggX3_sumOfStrengths_X4_sumOfStrengths
theorem dX3_sumOfStrengths_0 : decode cX3_sumOfStrengths 0 = .ok (.aload_n 0, 1) := by decide +kernel
theorem dX3_sumOfStrengths_1 : decode cX3_sumOfStrengths 1 = .ok (.getfield 14, 3) := by decide +kernel
theorem dX3_sumOfStrengths_4 : decode cX3_sumOfStrengths 4 = .ok (.invokevirtual 123, 3) := by decide +kernel
theorem dX3_sumOfStrengths_7 : decode cX3_sumOfStrengths 7 = .ok (.aload_n 0, 1) := by decide +kernel
theorem dX3_sumOfStrengths_8 : decode cX3_sumOfStrengths 8 = .ok (.getfield 20, 3) := by decide +kernel
theorem dX3_sumOfStrengths_11 : decode cX3_sumOfStrengths 11 = .ok (.invokevirtual 123, 3) := by decide +kernel
theorem dX3_sumOfStrengths_14 : decode cX3_sumOfStrengths 14 = .ok (.iadd, 1) := by decide +kernel
theorem dX3_sumOfStrengths_15 : decode cX3_sumOfStrengths 15 = .ok (.aload_n 0, 1) := by decide +kernel
theorem dX3_sumOfStrengths_16 : decode cX3_sumOfStrengths 16 = .ok (.getfield 23, 3) := by decide +kernel
theorem dX3_sumOfStrengths_19 : decode cX3_sumOfStrengths 19 = .ok (.invokevirtual 123, 3) := by decide +kernel
theorem dX3_sumOfStrengths_22 : decode cX3_sumOfStrengths 22 = .ok (.iadd, 1) := by decide +kernel
theorem dX3_sumOfStrengths_23 : decode cX3_sumOfStrengths 23 = .ok (.ireturn, 1) := by decide +kernel
set_option maxRecDepth 20000 in
theorem ggX3_refusal_X3_nearestArrow : GoodIn wsX3_refusal wsX3_nearestArrow := goodIn_r _ [5, 6, 7, 8, 9, 10, 11, 12, 13, 14, 15, 16, 17, 18, 19, 20, 32, 33, 34, 35, 36, 37, 38, 39, 40, 41, 42, 43, 44] (by decide +kernel) (by decide +kernel)
set_option maxRecDepth 20000 in
theorem gX3_refusal_X3_nearestArrow : GoodIn wsX3_refusal (wsV RX3 126 RX3 yX3_nearestArrow wsX3_nearestArrow) := goodIn_app (goodIn_of _ (by decide +kernel)) ggX3_refusal_X3_nearestArrow
set_option maxRecDepth 20000 in
theorem ggX3_refusal_X3_meetHeadOn : GoodIn wsX3_refusal wsX3_meetHeadOn := goodIn_r _ [23] (by decide +kernel) (by decide +kernel)
set_option maxRecDepth 20000 in
theorem gX3_refusal_X3_meetHeadOn : GoodIn wsX3_refusal (va_wsS RX3 129 yX3_meetHeadOn wsX3_meetHeadOn) := goodIn_app (goodIn_of _ (by decide +kernel)) ggX3_refusal_X3_meetHeadOn
set_option maxRecDepth 20000 in
theorem ggX3_refusal_X3_isOpposed : GoodIn wsX3_refusal wsX3_isOpposed := goodIn_r _ [27, 28, 6, 16, 17, 18, 13, 19, 15, 20, 29, 30, 4, 31, 32, 33, 34, 35, 36, 37, 38, 39, 40, 41, 42, 43, 44] (by decide +kernel) (by decide +kernel)
set_option maxRecDepth 20000 in
theorem gX3_refusal_X3_isOpposed : GoodIn wsX3_refusal (wsV RX3 132 RX3 yX3_isOpposed wsX3_isOpposed) := goodIn_app (goodIn_of _ (by decide +kernel)) ggX3_refusal_X3_isOpposed
theorem dX3_refusal_0 : decode cX3_refusal 0 = .ok (.aload_n 0, 1) := by decide +kernel
theorem dX3_refusal_1 : decode cX3_refusal 1 = .ok (.iload_n 1, 1) := by decide +kernel
theorem dX3_refusal_2 : decode cX3_refusal 2 = .ok (.iload_n 2, 1) := by decide +kernel
theorem dX3_refusal_3 : decode cX3_refusal 3 = .ok (.iconst 1, 1) := by decide +kernel
theorem dX3_refusal_4 : decode cX3_refusal 4 = .ok (.invokevirtual 126, 3) := by decide +kernel
theorem dX3_refusal_7 : decode cX3_refusal 7 = .ok (.istore 4, 2) := by decide +kernel
theorem dX3_refusal_9 : decode cX3_refusal 9 = .ok (.aload_n 0, 1) := by decide +kernel
theorem dX3_refusal_10 : decode cX3_refusal 10 = .ok (.iload_n 1, 1) := by decide +kernel
theorem dX3_refusal_11 : decode cX3_refusal 11 = .ok (.iload_n 2, 1) := by decide +kernel
theorem dX3_refusal_12 : decode cX3_refusal 12 = .ok (.iconst (-1), 1) := by decide +kernel
theorem dX3_refusal_13 : decode cX3_refusal 13 = .ok (.invokevirtual 126, 3) := by decide +kernel
theorem dX3_refusal_16 : decode cX3_refusal 16 = .ok (.istore 5, 2) := by decide +kernel
theorem dX3_refusal_18 : decode cX3_refusal 18 = .ok (.iload_n 3, 1) := by decide +kernel
theorem dX3_refusal_19 : decode cX3_refusal 19 = .ok (.iload 4, 2) := by decide +kernel
theorem dX3_refusal_21 : decode cX3_refusal 21 = .ok (.invokestatic 129, 3) := by decide +kernel
theorem dX3_refusal_24 : decode cX3_refusal 24 = .ok (.ifCond .ne 12, 3) := by decide +kernel
theorem dX3_refusal_27 : decode cX3_refusal 27 = .ok (.iload 5, 2) := by decide +kernel
theorem dX3_refusal_29 : decode cX3_refusal 29 = .ok (.iload_n 3, 1) := by decide +kernel
theorem dX3_refusal_30 : decode cX3_refusal 30 = .ok (.invokestatic 129, 3) := by decide +kernel
theorem dX3_refusal_33 : decode cX3_refusal 33 = .ok (.ifCond .eq 5, 3) := by decide +kernel
theorem dX3_refusal_36 : decode cX3_refusal 36 = .ok (.iconst 1, 1) := by decide +kernel
theorem dX3_refusal_37 : decode cX3_refusal 37 = .ok (.ireturn, 1) := by decide +kernel
theorem dX3_refusal_38 : decode cX3_refusal 38 = .ok (.iload_n 1, 1) := by decide +kernel
theorem dX3_refusal_39 : decode cX3_refusal 39 = .ok (.ifCond .le 18, 3) := by decide +kernel
theorem dX3_refusal_42 : decode cX3_refusal 42 = .ok (.aload_n 0, 1) := by decide +kernel
theorem dX3_refusal_43 : decode cX3_refusal 43 = .ok (.iload_n 1, 1) := by decide +kernel
theorem dX3_refusal_44 : decode cX3_refusal 44 = .ok (.iconst 1, 1) := by decide +kernel
theorem dX3_refusal_45 : decode cX3_refusal 45 = .ok (.isub, 1) := by decide +kernel
theorem dX3_refusal_46 : decode cX3_refusal 46 = .ok (.iload_n 1, 1) := by decide +kernel
theorem dX3_refusal_47 : decode cX3_refusal 47 = .ok (.iconst 1, 1) := by decide +kernel
theorem dX3_refusal_48 : decode cX3_refusal 48 = .ok (.isub, 1) := by decide +kernel
theorem dX3_refusal_49 : decode cX3_refusal 49 = .ok (.iload_n 2, 1) := by decide +kernel
theorem dX3_refusal_50 : decode cX3_refusal 50 = .ok (.iload_n 3, 1) := by decide +kernel
theorem dX3_refusal_51 : decode cX3_refusal 51 = .ok (.invokevirtual 132, 3) := by decide +kernel
theorem dX3_refusal_54 : decode cX3_refusal 54 = .ok (.ifCond .ne 23, 3) := by decide +kernel
theorem dX3_refusal_57 : decode cX3_refusal 57 = .ok (.iload_n 1, 1) := by decide +kernel
theorem dX3_refusal_58 : decode cX3_refusal 58 = .ok (.iconst 1, 1) := by decide +kernel
theorem dX3_refusal_59 : decode cX3_refusal 59 = .ok (.iadd, 1) := by decide +kernel
theorem dX3_refusal_60 : decode cX3_refusal 60 = .ok (.iconst 3, 1) := by decide +kernel
theorem dX3_refusal_61 : decode cX3_refusal 61 = .ok (.if_icmp .ge 20, 3) := by decide +kernel
theorem dX3_refusal_64 : decode cX3_refusal 64 = .ok (.aload_n 0, 1) := by decide +kernel
theorem dX3_refusal_65 : decode cX3_refusal 65 = .ok (.iload_n 1, 1) := by decide +kernel
theorem dX3_refusal_66 : decode cX3_refusal 66 = .ok (.iconst 1, 1) := by decide +kernel
theorem dX3_refusal_67 : decode cX3_refusal 67 = .ok (.iadd, 1) := by decide +kernel
theorem dX3_refusal_68 : decode cX3_refusal 68 = .ok (.iload_n 1, 1) := by decide +kernel
theorem dX3_refusal_69 : decode cX3_refusal 69 = .ok (.iload_n 2, 1) := by decide +kernel
theorem dX3_refusal_70 : decode cX3_refusal 70 = .ok (.iload_n 3, 1) := by decide +kernel
theorem dX3_refusal_71 : decode cX3_refusal 71 = .ok (.invokevirtual 132, 3) := by decide +kernel
theorem dX3_refusal_74 : decode cX3_refusal 74 = .ok (.ifCond .eq 7, 3) := by decide +kernel
theorem dX3_refusal_77 : decode cX3_refusal 77 = .ok (.iconst 1, 1) := by decide +kernel
theorem dX3_refusal_78 : decode cX3_refusal 78 = .ok (.goto 4, 3) := by decide +kernel
theorem dX3_refusal_81 : decode cX3_refusal 81 = .ok (.iconst 0, 1) := by decide +kernel
theorem dX3_refusal_82 : decode cX3_refusal 82 = .ok (.istore 6, 2) := by decide +kernel
theorem dX3_refusal_84 : decode cX3_refusal 84 = .ok (.iload 6, 2) := by decide +kernel
theorem dX3_refusal_86 : decode cX3_refusal 86 = .ok (.ifCond .eq 7, 3) := by decide +kernel
theorem dX3_refusal_89 : decode cX3_refusal 89 = .ok (.iconst 2, 1) := by decide +kernel
theorem dX3_refusal_90 : decode cX3_refusal 90 = .ok (.goto 4, 3) := by decide +kernel
theorem dX3_refusal_93 : decode cX3_refusal 93 = .ok (.iconst 0, 1) := by decide +kernel
theorem dX3_refusal_94 : decode cX3_refusal 94 = .ok (.ireturn, 1) := by decide +kernel
set_option maxRecDepth 20000 in
theorem ggX3_nearestArrow_X5_isWithin : GoodIn wsX3_nearestArrow wsX5_isWithin := goodIn_r _ [4] (by decide +kernel) (by decide +kernel)
set_option maxRecDepth 20000 in
theorem gX3_nearestArrow_X5_isWithin_n136 : GoodIn wsX3_nearestArrow (wsX5_isWithin) := ggX3_nearestArrow_X5_isWithin
set_option maxRecDepth 20000 in
theorem ggX3_nearestArrow_X4_isAt : GoodIn wsX3_nearestArrow wsX4_isAt := goodIn_r _ [9, 10, 26, 27, 28] (by decide +kernel) (by decide +kernel)
set_option maxRecDepth 20000 in
theorem gX3_nearestArrow_X4_isAt : GoodIn wsX3_nearestArrow (wsV RX3 139 RX4 yX4_isAt wsX4_isAt) := goodIn_app (goodIn_of _ (by decide +kernel)) ggX3_nearestArrow_X4_isAt
set_option maxRecDepth 20000 in
theorem ggX3_nearestArrow_X4_kindOr : GoodIn wsX3_nearestArrow wsX4_kindOr := goodIn_r _ [14, 10, 15, 26, 27, 28] (by decide +kernel) (by decide +kernel)
set_option maxRecDepth 20000 in
theorem gX3_nearestArrow_X4_kindOr : GoodIn wsX3_nearestArrow (wsV RX3 88 RX4 yX4_kindOr wsX4_kindOr) := goodIn_app (goodIn_of _ (by decide +kernel)) ggX3_nearestArrow_X4_kindOr
theorem dX3_nearestArrow_0 : decode cX3_nearestArrow 0 = .ok (.iconst 1, 1) := by decide +kernel
theorem dX3_nearestArrow_1 : decode cX3_nearestArrow 1 = .ok (.istore 4, 2) := by decide +kernel
theorem dX3_nearestArrow_3 : decode cX3_nearestArrow 3 = .ok (.iload 4, 2) := by decide +kernel
theorem dX3_nearestArrow_5 : decode cX3_nearestArrow 5 = .ok (.iconst 4, 1) := by decide +kernel
theorem dX3_nearestArrow_6 : decode cX3_nearestArrow 6 = .ok (.if_icmp .gt 54, 3) := by decide +kernel
theorem dX3_nearestArrow_9 : decode cX3_nearestArrow 9 = .ok (.iload_n 2, 1) := by decide +kernel
theorem dX3_nearestArrow_10 : decode cX3_nearestArrow 10 = .ok (.iload 4, 2) := by decide +kernel
theorem dX3_nearestArrow_12 : decode cX3_nearestArrow 12 = .ok (.iload_n 3, 1) := by decide +kernel
theorem dX3_nearestArrow_13 : decode cX3_nearestArrow 13 = .ok (.imul, 1) := by decide +kernel
theorem dX3_nearestArrow_14 : decode cX3_nearestArrow 14 = .ok (.iadd, 1) := by decide +kernel
theorem dX3_nearestArrow_15 : decode cX3_nearestArrow 15 = .ok (.istore 5, 2) := by decide +kernel
theorem dX3_nearestArrow_17 : decode cX3_nearestArrow 17 = .ok (.iload 5, 2) := by decide +kernel
theorem dX3_nearestArrow_19 : decode cX3_nearestArrow 19 = .ok (.iconst 0, 1) := by decide +kernel
theorem dX3_nearestArrow_20 : decode cX3_nearestArrow 20 = .ok (.bipush 15, 2) := by decide +kernel
theorem dX3_nearestArrow_22 : decode cX3_nearestArrow 22 = .ok (.invokestatic 136, 3) := by decide +kernel
theorem dX3_nearestArrow_25 : decode cX3_nearestArrow 25 = .ok (.ifCond .eq 29, 3) := by decide +kernel
theorem dX3_nearestArrow_28 : decode cX3_nearestArrow 28 = .ok (.aload_n 0, 1) := by decide +kernel
theorem dX3_nearestArrow_29 : decode cX3_nearestArrow 29 = .ok (.getfield 14, 3) := by decide +kernel
theorem dX3_nearestArrow_32 : decode cX3_nearestArrow 32 = .ok (.iload_n 1, 1) := by decide +kernel
theorem dX3_nearestArrow_33 : decode cX3_nearestArrow 33 = .ok (.iload 5, 2) := by decide +kernel
theorem dX3_nearestArrow_35 : decode cX3_nearestArrow 35 = .ok (.invokevirtual 139, 3) := by decide +kernel
theorem dX3_nearestArrow_38 : decode cX3_nearestArrow 38 = .ok (.ifCond .eq 16, 3) := by decide +kernel
theorem dX3_nearestArrow_41 : decode cX3_nearestArrow 41 = .ok (.aload_n 0, 1) := by decide +kernel
theorem dX3_nearestArrow_42 : decode cX3_nearestArrow 42 = .ok (.getfield 14, 3) := by decide +kernel
theorem dX3_nearestArrow_45 : decode cX3_nearestArrow 45 = .ok (.iload_n 1, 1) := by decide +kernel
theorem dX3_nearestArrow_46 : decode cX3_nearestArrow 46 = .ok (.iload 5, 2) := by decide +kernel
theorem dX3_nearestArrow_48 : decode cX3_nearestArrow 48 = .ok (.bipush (-6), 2) := by decide +kernel
theorem dX3_nearestArrow_50 : decode cX3_nearestArrow 50 = .ok (.invokevirtual 88, 3) := by decide +kernel
theorem dX3_nearestArrow_53 : decode cX3_nearestArrow 53 = .ok (.ireturn, 1) := by decide +kernel
theorem dX3_nearestArrow_54 : decode cX3_nearestArrow 54 = .ok (.iinc 4 1, 3) := by decide +kernel
theorem dX3_nearestArrow_57 : decode cX3_nearestArrow 57 = .ok (.goto (-54), 3) := by decide +kernel
theorem dX3_nearestArrow_60 : decode cX3_nearestArrow 60 = .ok (.bipush (-6), 2) := by decide +kernel
theorem dX3_nearestArrow_62 : decode cX3_nearestArrow 62 = .ok (.ireturn, 1) := by decide +kernel
theorem dX3_meetHeadOn_0 : decode cX3_meetHeadOn 0 = .ok (.iload_n 0, 1) := by decide +kernel
theorem dX3_meetHeadOn_1 : decode cX3_meetHeadOn 1 = .ok (.bipush (-6), 2) := by decide +kernel
theorem dX3_meetHeadOn_3 : decode cX3_meetHeadOn 3 = .ok (.if_icmp .eq 22, 3) := by decide +kernel
theorem dX3_meetHeadOn_6 : decode cX3_meetHeadOn 6 = .ok (.iload_n 1, 1) := by decide +kernel
theorem dX3_meetHeadOn_7 : decode cX3_meetHeadOn 7 = .ok (.bipush (-6), 2) := by decide +kernel
theorem dX3_meetHeadOn_9 : decode cX3_meetHeadOn 9 = .ok (.if_icmp .eq 16, 3) := by decide +kernel
theorem dX3_meetHeadOn_12 : decode cX3_meetHeadOn 12 = .ok (.iload_n 0, 1) := by decide +kernel
theorem dX3_meetHeadOn_13 : decode cX3_meetHeadOn 13 = .ok (.iconst 1, 1) := by decide +kernel
theorem dX3_meetHeadOn_14 : decode cX3_meetHeadOn 14 = .ok (.if_icmp .eq 11, 3) := by decide +kernel
theorem dX3_meetHeadOn_17 : decode cX3_meetHeadOn 17 = .ok (.iload_n 1, 1) := by decide +kernel
theorem dX3_meetHeadOn_18 : decode cX3_meetHeadOn 18 = .ok (.ifCond .eq 7, 3) := by decide +kernel
theorem dX3_meetHeadOn_21 : decode cX3_meetHeadOn 21 = .ok (.iconst 1, 1) := by decide +kernel
theorem dX3_meetHeadOn_22 : decode cX3_meetHeadOn 22 = .ok (.goto 4, 3) := by decide +kernel
theorem dX3_meetHeadOn_25 : decode cX3_meetHeadOn 25 = .ok (.iconst 0, 1) := by decide +kernel
theorem dX3_meetHeadOn_26 : decode cX3_meetHeadOn 26 = .ok (.ireturn, 1) := by decide +kernel
set_option maxRecDepth 20000 in
theorem ggX3_isOpposed_X4_kindOr : GoodIn wsX3_isOpposed wsX4_kindOr := goodIn_r _ [7, 8, 9, 24, 25, 26] (by decide +kernel) (by decide +kernel)
set_option maxRecDepth 20000 in
theorem gX3_isOpposed_X4_kindOr : GoodIn wsX3_isOpposed (wsV RX3 88 RX4 yX4_kindOr wsX4_kindOr) := goodIn_app (goodIn_of _ (by decide +kernel)) ggX3_isOpposed_X4_kindOr
set_option maxRecDepth 20000 in
theorem ggX3_isOpposed_X3_otherWay : GoodIn wsX3_isOpposed wsX3_otherWay := goodIn_r _ [13] (by decide +kernel) (by decide +kernel)
set_option maxRecDepth 20000 in
theorem gX3_isOpposed_X3_otherWay : GoodIn wsX3_isOpposed (va_wsS RX3 120 yX3_otherWay wsX3_otherWay) := goodIn_app (goodIn_of _ (by decide +kernel)) ggX3_isOpposed_X3_otherWay
theorem dX3_isOpposed_0 : decode cX3_isOpposed 0 = .ok (.aload_n 0, 1) := by decide +kernel
theorem dX3_isOpposed_1 : decode cX3_isOpposed 1 = .ok (.getfield 23, 3) := by decide +kernel
theorem dX3_isOpposed_4 : decode cX3_isOpposed 4 = .ok (.iload_n 2, 1) := by decide +kernel
theorem dX3_isOpposed_5 : decode cX3_isOpposed 5 = .ok (.iload_n 3, 1) := by decide +kernel
theorem dX3_isOpposed_6 : decode cX3_isOpposed 6 = .ok (.iconst 0, 1) := by decide +kernel
theorem dX3_isOpposed_7 : decode cX3_isOpposed 7 = .ok (.invokevirtual 88, 3) := by decide +kernel
theorem dX3_isOpposed_10 : decode cX3_isOpposed 10 = .ok (.istore 5, 2) := by decide +kernel
theorem dX3_isOpposed_12 : decode cX3_isOpposed 12 = .ok (.iload 5, 2) := by decide +kernel
theorem dX3_isOpposed_14 : decode cX3_isOpposed 14 = .ok (.iconst 1, 1) := by decide +kernel
theorem dX3_isOpposed_15 : decode cX3_isOpposed 15 = .ok (.if_icmp .eq 9, 3) := by decide +kernel
theorem dX3_isOpposed_18 : decode cX3_isOpposed 18 = .ok (.iload 5, 2) := by decide +kernel
theorem dX3_isOpposed_20 : decode cX3_isOpposed 20 = .ok (.iconst 3, 1) := by decide +kernel
theorem dX3_isOpposed_21 : decode cX3_isOpposed 21 = .ok (.if_icmp .ne 7, 3) := by decide +kernel
theorem dX3_isOpposed_24 : decode cX3_isOpposed 24 = .ok (.iconst 1, 1) := by decide +kernel
theorem dX3_isOpposed_25 : decode cX3_isOpposed 25 = .ok (.goto 4, 3) := by decide +kernel
theorem dX3_isOpposed_28 : decode cX3_isOpposed 28 = .ok (.iconst 0, 1) := by decide +kernel
theorem dX3_isOpposed_29 : decode cX3_isOpposed 29 = .ok (.istore 6, 2) := by decide +kernel
theorem dX3_isOpposed_31 : decode cX3_isOpposed 31 = .ok (.iload 6, 2) := by decide +kernel
theorem dX3_isOpposed_33 : decode cX3_isOpposed 33 = .ok (.ifCond .ne 26, 3) := by decide +kernel
theorem dX3_isOpposed_36 : decode cX3_isOpposed 36 = .ok (.aload_n 0, 1) := by decide +kernel
theorem dX3_isOpposed_37 : decode cX3_isOpposed 37 = .ok (.getfield 14, 3) := by decide +kernel
theorem dX3_isOpposed_40 : decode cX3_isOpposed 40 = .ok (.iload_n 1, 1) := by decide +kernel
theorem dX3_isOpposed_41 : decode cX3_isOpposed 41 = .ok (.iload_n 3, 1) := by decide +kernel
theorem dX3_isOpposed_42 : decode cX3_isOpposed 42 = .ok (.bipush (-6), 2) := by decide +kernel
theorem dX3_isOpposed_44 : decode cX3_isOpposed 44 = .ok (.invokevirtual 88, 3) := by decide +kernel
theorem dX3_isOpposed_47 : decode cX3_isOpposed 47 = .ok (.iload 4, 2) := by decide +kernel
theorem dX3_isOpposed_49 : decode cX3_isOpposed 49 = .ok (.invokestatic 120, 3) := by decide +kernel
theorem dX3_isOpposed_52 : decode cX3_isOpposed 52 = .ok (.if_icmp .ne 7, 3) := by decide +kernel
theorem dX3_isOpposed_55 : decode cX3_isOpposed 55 = .ok (.iconst 1, 1) := by decide +kernel
theorem dX3_isOpposed_56 : decode cX3_isOpposed 56 = .ok (.goto 4, 3) := by decide +kernel
theorem dX3_isOpposed_59 : decode cX3_isOpposed 59 = .ok (.iconst 0, 1) := by decide +kernel
theorem dX3_isOpposed_60 : decode cX3_isOpposed 60 = .ok (.ireturn, 1) := by decide +kernel
set_option maxRecDepth 20000 in
theorem ggX3_readableDays_X4_isAt : GoodIn wsX3_readableDays wsX4_isAt := goodIn_r _ [7, 8, 38, 39, 40] (by decide +kernel) (by decide +kernel)
set_option maxRecDepth 20000 in
theorem gX3_readableDays_X4_isAt : GoodIn wsX3_readableDays (wsV RX3 139 RX4 yX4_isAt wsX4_isAt) := goodIn_app (goodIn_of _ (by decide +kernel)) ggX3_readableDays_X4_isAt
set_option maxRecDepth 20000 in
theorem ggX3_readableDays_X3_canRead : GoodIn wsX3_readableDays wsX3_canRead := goodIn_r _ [13, 1, 2, 14, 15, 16, 6, 17, 8, 28, 29, 30, 31, 32, 33, 34, 35, 36, 37, 38, 39, 40] (by decide +kernel) (by decide +kernel)
set_option maxRecDepth 20000 in
theorem gX3_readableDays_X3_canRead : GoodIn wsX3_readableDays (wsV RX3 84 RX3 yX3_canRead wsX3_canRead) := goodIn_app (goodIn_of _ (by decide +kernel)) ggX3_readableDays_X3_canRead
set_option maxRecDepth 20000 in
theorem ggX3_readableDays_X3_lossAt : GoodIn wsX3_readableDays wsX3_lossAt := goodIn_r _ [21, 1, 22, 9, 10, 11, 12, 13, 2, 14, 15, 16, 6, 17, 8, 23, 24, 25, 26, 27, 28, 29, 30, 31, 32, 33, 34, 35, 36, 37, 38, 39, 40] (by decide +kernel) (by decide +kernel)
set_option maxRecDepth 20000 in
theorem gX3_readableDays_X3_lossAt : GoodIn wsX3_readableDays (wsV RX3 77 RX3 yX3_lossAt wsX3_lossAt) := goodIn_app (goodIn_of _ (by decide +kernel)) ggX3_readableDays_X3_lossAt
set_option maxRecDepth 20000 in
theorem ggX3_readableDays_X4_strengthAt : GoodIn wsX3_readableDays wsX4_strengthAt := goodIn_r _ [17, 8, 38, 39, 40] (by decide +kernel) (by decide +kernel)
set_option maxRecDepth 20000 in
theorem gX3_readableDays_X4_strengthAt : GoodIn wsX3_readableDays (wsV RX3 109 RX4 yX4_strengthAt wsX4_strengthAt) := goodIn_app (goodIn_of _ (by decide +kernel)) ggX3_readableDays_X4_strengthAt
theorem dX3_readableDays_0 : decode cX3_readableDays 0 = .ok (.aload_n 0, 1) := by decide +kernel
theorem dX3_readableDays_1 : decode cX3_readableDays 1 = .ok (.getfield 20, 3) := by decide +kernel
theorem dX3_readableDays_4 : decode cX3_readableDays 4 = .ok (.iload_n 1, 1) := by decide +kernel
theorem dX3_readableDays_5 : decode cX3_readableDays 5 = .ok (.iload_n 2, 1) := by decide +kernel
theorem dX3_readableDays_6 : decode cX3_readableDays 6 = .ok (.invokevirtual 139, 3) := by decide +kernel
theorem dX3_readableDays_9 : decode cX3_readableDays 9 = .ok (.ifCond .ne 6, 3) := by decide +kernel
theorem dX3_readableDays_12 : decode cX3_readableDays 12 = .ok (.bipush (-6), 2) := by decide +kernel
theorem dX3_readableDays_14 : decode cX3_readableDays 14 = .ok (.ireturn, 1) := by decide +kernel
theorem dX3_readableDays_15 : decode cX3_readableDays 15 = .ok (.aload_n 0, 1) := by decide +kernel
theorem dX3_readableDays_16 : decode cX3_readableDays 16 = .ok (.iload_n 1, 1) := by decide +kernel
theorem dX3_readableDays_17 : decode cX3_readableDays 17 = .ok (.iload_n 2, 1) := by decide +kernel
theorem dX3_readableDays_18 : decode cX3_readableDays 18 = .ok (.invokevirtual 84, 3) := by decide +kernel
theorem dX3_readableDays_21 : decode cX3_readableDays 21 = .ok (.ifCond .ne 5, 3) := by decide +kernel
theorem dX3_readableDays_24 : decode cX3_readableDays 24 = .ok (.iconst 0, 1) := by decide +kernel
theorem dX3_readableDays_25 : decode cX3_readableDays 25 = .ok (.ireturn, 1) := by decide +kernel
theorem dX3_readableDays_26 : decode cX3_readableDays 26 = .ok (.aload_n 0, 1) := by decide +kernel
theorem dX3_readableDays_27 : decode cX3_readableDays 27 = .ok (.iload_n 1, 1) := by decide +kernel
theorem dX3_readableDays_28 : decode cX3_readableDays 28 = .ok (.iload_n 2, 1) := by decide +kernel
theorem dX3_readableDays_29 : decode cX3_readableDays 29 = .ok (.invokevirtual 77, 3) := by decide +kernel
theorem dX3_readableDays_32 : decode cX3_readableDays 32 = .ok (.istore_n 3, 1) := by decide +kernel
theorem dX3_readableDays_33 : decode cX3_readableDays 33 = .ok (.iload_n 3, 1) := by decide +kernel
theorem dX3_readableDays_34 : decode cX3_readableDays 34 = .ok (.ifCond .ne 6, 3) := by decide +kernel
theorem dX3_readableDays_37 : decode cX3_readableDays 37 = .ok (.bipush (-6), 2) := by decide +kernel
theorem dX3_readableDays_39 : decode cX3_readableDays 39 = .ok (.ireturn, 1) := by decide +kernel
theorem dX3_readableDays_40 : decode cX3_readableDays 40 = .ok (.aload_n 0, 1) := by decide +kernel
theorem dX3_readableDays_41 : decode cX3_readableDays 41 = .ok (.getfield 20, 3) := by decide +kernel
theorem dX3_readableDays_44 : decode cX3_readableDays 44 = .ok (.iload_n 1, 1) := by decide +kernel
theorem dX3_readableDays_45 : decode cX3_readableDays 45 = .ok (.iload_n 2, 1) := by decide +kernel
theorem dX3_readableDays_46 : decode cX3_readableDays 46 = .ok (.invokevirtual 109, 3) := by decide +kernel
theorem dX3_readableDays_49 : decode cX3_readableDays 49 = .ok (.aload_n 0, 1) := by decide +kernel
theorem dX3_readableDays_50 : decode cX3_readableDays 50 = .ok (.getfield 30, 3) := by decide +kernel
theorem dX3_readableDays_53 : decode cX3_readableDays 53 = .ok (.iconst 0, 1) := by decide +kernel
theorem dX3_readableDays_54 : decode cX3_readableDays 54 = .ok (.iaload, 1) := by decide +kernel
theorem dX3_readableDays_55 : decode cX3_readableDays 55 = .ok (.isub, 1) := by decide +kernel
theorem dX3_readableDays_56 : decode cX3_readableDays 56 = .ok (.iload_n 3, 1) := by decide +kernel
theorem dX3_readableDays_57 : decode cX3_readableDays 57 = .ok (.idiv, 1) := by decide +kernel
theorem dX3_readableDays_58 : decode cX3_readableDays 58 = .ok (.iconst 1, 1) := by decide +kernel
theorem dX3_readableDays_59 : decode cX3_readableDays 59 = .ok (.iadd, 1) := by decide +kernel
theorem dX3_readableDays_60 : decode cX3_readableDays 60 = .ok (.ireturn, 1) := by decide +kernel
set_option maxRecDepth 20000 in
theorem ggX3_nightOfMostSigns_X3_countFaded : GoodIn wsX3_nightOfMostSigns wsX3_countFaded := goodIn_r _ [9, 10, 11, 12, 13, 14, 15, 16, 17, 18, 19, 20, 21, 22, 23, 24, 25, 26, 33, 34, 35, 36, 37, 38, 39, 40, 41, 42, 43, 44, 45] (by decide +kernel) (by decide +kernel)
set_option maxRecDepth 20000 in
theorem gX3_nightOfMostSigns_X3_countFaded : GoodIn wsX3_nightOfMostSigns (wsV RX3 142 RX3 yX3_countFaded wsX3_countFaded) := goodIn_app (goodIn_of _ (by decide +kernel)) ggX3_nightOfMostSigns_X3_countFaded
set_option maxRecDepth 20000 in
theorem ggX3_nightOfMostSigns_X3_crewLimit : GoodIn wsX3_nightOfMostSigns wsX3_crewLimit := goodIn_r _ [30, 31, 32, 1, 2, 3, 4, 33, 34, 35, 36, 37, 38, 39, 40, 41, 42] (by decide +kernel) (by decide +kernel)
set_option maxRecDepth 20000 in
theorem gX3_nightOfMostSigns_X3_crewLimit : GoodIn wsX3_nightOfMostSigns (wsV RX3 97 RX3 yX3_crewLimit wsX3_crewLimit) := goodIn_app (goodIn_of _ (by decide +kernel)) ggX3_nightOfMostSigns_X3_crewLimit
theorem dX3_nightOfMostSigns_0 : decode cX3_nightOfMostSigns 0 = .ok (.iconst 0, 1) := by decide +kernel
theorem dX3_nightOfMostSigns_1 : decode cX3_nightOfMostSigns 1 = .ok (.istore_n 1, 1) := by decide +kernel
theorem dX3_nightOfMostSigns_2 : decode cX3_nightOfMostSigns 2 = .ok (.iconst 0, 1) := by decide +kernel
theorem dX3_nightOfMostSigns_3 : decode cX3_nightOfMostSigns 3 = .ok (.istore_n 2, 1) := by decide +kernel
theorem dX3_nightOfMostSigns_4 : decode cX3_nightOfMostSigns 4 = .ok (.bipush (-6), 2) := by decide +kernel
theorem dX3_nightOfMostSigns_6 : decode cX3_nightOfMostSigns 6 = .ok (.istore_n 3, 1) := by decide +kernel
theorem dX3_nightOfMostSigns_7 : decode cX3_nightOfMostSigns 7 = .ok (.iconst 0, 1) := by decide +kernel
theorem dX3_nightOfMostSigns_8 : decode cX3_nightOfMostSigns 8 = .ok (.istore 4, 2) := by decide +kernel
theorem dX3_nightOfMostSigns_10 : decode cX3_nightOfMostSigns 10 = .ok (.iload 4, 2) := by decide +kernel
theorem dX3_nightOfMostSigns_12 : decode cX3_nightOfMostSigns 12 = .ok (.bipush 16, 2) := by decide +kernel
theorem dX3_nightOfMostSigns_14 : decode cX3_nightOfMostSigns 14 = .ok (.if_icmp .ge 98, 3) := by decide +kernel
theorem dX3_nightOfMostSigns_17 : decode cX3_nightOfMostSigns 17 = .ok (.iconst 0, 1) := by decide +kernel
theorem dX3_nightOfMostSigns_18 : decode cX3_nightOfMostSigns 18 = .ok (.istore 5, 2) := by decide +kernel
theorem dX3_nightOfMostSigns_20 : decode cX3_nightOfMostSigns 20 = .ok (.iload 4, 2) := by decide +kernel
theorem dX3_nightOfMostSigns_22 : decode cX3_nightOfMostSigns 22 = .ok (.istore 6, 2) := by decide +kernel
theorem dX3_nightOfMostSigns_24 : decode cX3_nightOfMostSigns 24 = .ok (.iload 6, 2) := by decide +kernel
theorem dX3_nightOfMostSigns_26 : decode cX3_nightOfMostSigns 26 = .ok (.bipush 16, 2) := by decide +kernel
theorem dX3_nightOfMostSigns_28 : decode cX3_nightOfMostSigns 28 = .ok (.if_icmp .ge 78, 3) := by decide +kernel
theorem dX3_nightOfMostSigns_31 : decode cX3_nightOfMostSigns 31 = .ok (.iload 5, 2) := by decide +kernel
theorem dX3_nightOfMostSigns_33 : decode cX3_nightOfMostSigns 33 = .ok (.aload_n 0, 1) := by decide +kernel
theorem dX3_nightOfMostSigns_34 : decode cX3_nightOfMostSigns 34 = .ok (.iload 6, 2) := by decide +kernel
theorem dX3_nightOfMostSigns_36 : decode cX3_nightOfMostSigns 36 = .ok (.invokevirtual 142, 3) := by decide +kernel
theorem dX3_nightOfMostSigns_39 : decode cX3_nightOfMostSigns 39 = .ok (.iadd, 1) := by decide +kernel
theorem dX3_nightOfMostSigns_40 : decode cX3_nightOfMostSigns 40 = .ok (.istore 5, 2) := by decide +kernel
theorem dX3_nightOfMostSigns_42 : decode cX3_nightOfMostSigns 42 = .ok (.iload 5, 2) := by decide +kernel
theorem dX3_nightOfMostSigns_44 : decode cX3_nightOfMostSigns 44 = .ok (.aload_n 0, 1) := by decide +kernel
theorem dX3_nightOfMostSigns_45 : decode cX3_nightOfMostSigns 45 = .ok (.invokevirtual 97, 3) := by decide +kernel
theorem dX3_nightOfMostSigns_48 : decode cX3_nightOfMostSigns 48 = .ok (.invokestatic 106, 3) := by decide +kernel
theorem dX3_nightOfMostSigns_51 : decode cX3_nightOfMostSigns 51 = .ok (.istore 7, 2) := by decide +kernel
theorem dX3_nightOfMostSigns_53 : decode cX3_nightOfMostSigns 53 = .ok (.iload 6, 2) := by decide +kernel
theorem dX3_nightOfMostSigns_55 : decode cX3_nightOfMostSigns 55 = .ok (.iload 4, 2) := by decide +kernel
theorem dX3_nightOfMostSigns_57 : decode cX3_nightOfMostSigns 57 = .ok (.isub, 1) := by decide +kernel
theorem dX3_nightOfMostSigns_58 : decode cX3_nightOfMostSigns 58 = .ok (.iconst 1, 1) := by decide +kernel
theorem dX3_nightOfMostSigns_59 : decode cX3_nightOfMostSigns 59 = .ok (.iadd, 1) := by decide +kernel
theorem dX3_nightOfMostSigns_60 : decode cX3_nightOfMostSigns 60 = .ok (.istore 8, 2) := by decide +kernel
theorem dX3_nightOfMostSigns_62 : decode cX3_nightOfMostSigns 62 = .ok (.iload 7, 2) := by decide +kernel
theorem dX3_nightOfMostSigns_64 : decode cX3_nightOfMostSigns 64 = .ok (.iload_n 1, 1) := by decide +kernel
theorem dX3_nightOfMostSigns_65 : decode cX3_nightOfMostSigns 65 = .ok (.if_icmp .gt 20, 3) := by decide +kernel
theorem dX3_nightOfMostSigns_68 : decode cX3_nightOfMostSigns 68 = .ok (.iload 7, 2) := by decide +kernel
theorem dX3_nightOfMostSigns_70 : decode cX3_nightOfMostSigns 70 = .ok (.ifCond .le 30, 3) := by decide +kernel
theorem dX3_nightOfMostSigns_73 : decode cX3_nightOfMostSigns 73 = .ok (.iload 7, 2) := by decide +kernel
theorem dX3_nightOfMostSigns_75 : decode cX3_nightOfMostSigns 75 = .ok (.iload_n 1, 1) := by decide +kernel
theorem dX3_nightOfMostSigns_76 : decode cX3_nightOfMostSigns 76 = .ok (.if_icmp .ne 24, 3) := by decide +kernel
theorem dX3_nightOfMostSigns_79 : decode cX3_nightOfMostSigns 79 = .ok (.iload 8, 2) := by decide +kernel
theorem dX3_nightOfMostSigns_81 : decode cX3_nightOfMostSigns 81 = .ok (.iload_n 2, 1) := by decide +kernel
theorem dX3_nightOfMostSigns_82 : decode cX3_nightOfMostSigns 82 = .ok (.if_icmp .ge 18, 3) := by decide +kernel
theorem dX3_nightOfMostSigns_85 : decode cX3_nightOfMostSigns 85 = .ok (.iload 7, 2) := by decide +kernel
theorem dX3_nightOfMostSigns_87 : decode cX3_nightOfMostSigns 87 = .ok (.istore_n 1, 1) := by decide +kernel
theorem dX3_nightOfMostSigns_88 : decode cX3_nightOfMostSigns 88 = .ok (.iload 8, 2) := by decide +kernel
theorem dX3_nightOfMostSigns_90 : decode cX3_nightOfMostSigns 90 = .ok (.istore_n 2, 1) := by decide +kernel
theorem dX3_nightOfMostSigns_91 : decode cX3_nightOfMostSigns 91 = .ok (.bipush 16, 2) := by decide +kernel
theorem dX3_nightOfMostSigns_93 : decode cX3_nightOfMostSigns 93 = .ok (.iload 4, 2) := by decide +kernel
theorem dX3_nightOfMostSigns_95 : decode cX3_nightOfMostSigns 95 = .ok (.imul, 1) := by decide +kernel
theorem dX3_nightOfMostSigns_96 : decode cX3_nightOfMostSigns 96 = .ok (.iload 6, 2) := by decide +kernel
theorem dX3_nightOfMostSigns_98 : decode cX3_nightOfMostSigns 98 = .ok (.iadd, 1) := by decide +kernel
theorem dX3_nightOfMostSigns_99 : decode cX3_nightOfMostSigns 99 = .ok (.istore_n 3, 1) := by decide +kernel
theorem dX3_nightOfMostSigns_100 : decode cX3_nightOfMostSigns 100 = .ok (.iinc 6 1, 3) := by decide +kernel
theorem dX3_nightOfMostSigns_103 : decode cX3_nightOfMostSigns 103 = .ok (.goto (-79), 3) := by decide +kernel
theorem dX3_nightOfMostSigns_106 : decode cX3_nightOfMostSigns 106 = .ok (.iinc 4 1, 3) := by decide +kernel
theorem dX3_nightOfMostSigns_109 : decode cX3_nightOfMostSigns 109 = .ok (.goto (-99), 3) := by decide +kernel
theorem dX3_nightOfMostSigns_112 : decode cX3_nightOfMostSigns 112 = .ok (.iload_n 3, 1) := by decide +kernel
theorem dX3_nightOfMostSigns_113 : decode cX3_nightOfMostSigns 113 = .ok (.ireturn, 1) := by decide +kernel
set_option maxRecDepth 20000 in
theorem ggX3_countFaded_X4_countFaded : GoodIn wsX3_countFaded wsX4_countFaded := goodIn_r _ [8, 9, 10, 11, 12, 7, 13, 14, 15, 16, 17, 28, 29, 30] (by decide +kernel) (by decide +kernel)
set_option maxRecDepth 20000 in
theorem gX3_countFaded_X4_countFaded : GoodIn wsX3_countFaded (wsV RX3 145 RX4 yX4_countFaded wsX4_countFaded) := goodIn_app (goodIn_of _ (by decide +kernel)) ggX3_countFaded_X4_countFaded
theorem dX3_countFaded_0 : decode cX3_countFaded 0 = .ok (.aload_n 0, 1) := by decide +kernel
theorem dX3_countFaded_1 : decode cX3_countFaded 1 = .ok (.getfield 20, 3) := by decide +kernel
theorem dX3_countFaded_4 : decode cX3_countFaded 4 = .ok (.iload_n 1, 1) := by decide +kernel
theorem dX3_countFaded_5 : decode cX3_countFaded 5 = .ok (.invokevirtual 145, 3) := by decide +kernel
theorem dX3_countFaded_8 : decode cX3_countFaded 8 = .ok (.aload_n 0, 1) := by decide +kernel
theorem dX3_countFaded_9 : decode cX3_countFaded 9 = .ok (.getfield 14, 3) := by decide +kernel
theorem dX3_countFaded_12 : decode cX3_countFaded 12 = .ok (.iload_n 1, 1) := by decide +kernel
theorem dX3_countFaded_13 : decode cX3_countFaded 13 = .ok (.invokevirtual 145, 3) := by decide +kernel
theorem dX3_countFaded_16 : decode cX3_countFaded 16 = .ok (.iadd, 1) := by decide +kernel
theorem dX3_countFaded_17 : decode cX3_countFaded 17 = .ok (.aload_n 0, 1) := by decide +kernel
theorem dX3_countFaded_18 : decode cX3_countFaded 18 = .ok (.getfield 23, 3) := by decide +kernel
theorem dX3_countFaded_21 : decode cX3_countFaded 21 = .ok (.iload_n 1, 1) := by decide +kernel
theorem dX3_countFaded_22 : decode cX3_countFaded 22 = .ok (.invokevirtual 145, 3) := by decide +kernel
theorem dX3_countFaded_25 : decode cX3_countFaded 25 = .ok (.iadd, 1) := by decide +kernel
theorem dX3_countFaded_26 : decode cX3_countFaded 26 = .ok (.ireturn, 1) := by decide +kernel
theorem dX4_init_0 : decode cX4_init 0 = .ok (.aload_n 0, 1) := by decide +kernel
theorem dX4_init_1 : decode cX4_init 1 = .ok (.invokespecial 3, 3) := by decide +kernel
theorem dX4_init_4 : decode cX4_init 4 = .ok (.aload_n 0, 1) := by decide +kernel
theorem dX4_init_5 : decode cX4_init 5 = .ok (.iload_n 1, 1) := by decide +kernel
theorem dX4_init_6 : decode cX4_init 6 = .ok (.putfield 9, 3) := by decide +kernel
theorem dX4_init_9 : decode cX4_init 9 = .ok (.aload_n 0, 1) := by decide +kernel
theorem dX4_init_10 : decode cX4_init 10 = .ok (.iload_n 1, 1) := by decide +kernel
theorem dX4_init_11 : decode cX4_init 11 = .ok (.bipush 16, 2) := by decide +kernel
theorem dX4_init_13 : decode cX4_init 13 = .ok (.imul, 1) := by decide +kernel
theorem dX4_init_14 : decode cX4_init 14 = .ok (.newarray .int, 2) := by decide +kernel
theorem dX4_init_16 : decode cX4_init 16 = .ok (.putfield 15, 3) := by decide +kernel
theorem dX4_init_19 : decode cX4_init 19 = .ok (.aload_n 0, 1) := by decide +kernel
theorem dX4_init_20 : decode cX4_init 20 = .ok (.iload_n 1, 1) := by decide +kernel
theorem dX4_init_21 : decode cX4_init 21 = .ok (.bipush 16, 2) := by decide +kernel
theorem dX4_init_23 : decode cX4_init 23 = .ok (.imul, 1) := by decide +kernel
theorem dX4_init_24 : decode cX4_init 24 = .ok (.newarray .int, 2) := by decide +kernel
theorem dX4_init_26 : decode cX4_init 26 = .ok (.putfield 19, 3) := by decide +kernel
theorem dX4_init_29 : decode cX4_init 29 = .ok (.return_, 1) := by decide +kernel
theorem dX4_isAt_0 : decode cX4_isAt 0 = .ok (.aload_n 0, 1) := by decide +kernel
theorem dX4_isAt_1 : decode cX4_isAt 1 = .ok (.getfield 19, 3) := by decide +kernel
theorem dX4_isAt_4 : decode cX4_isAt 4 = .ok (.iload_n 1, 1) := by decide +kernel
theorem dX4_isAt_5 : decode cX4_isAt 5 = .ok (.bipush 16, 2) := by decide +kernel
theorem dX4_isAt_7 : decode cX4_isAt 7 = .ok (.imul, 1) := by decide +kernel
theorem dX4_isAt_8 : decode cX4_isAt 8 = .ok (.iload_n 2, 1) := by decide +kernel
theorem dX4_isAt_9 : decode cX4_isAt 9 = .ok (.iadd, 1) := by decide +kernel
theorem dX4_isAt_10 : decode cX4_isAt 10 = .ok (.iaload, 1) := by decide +kernel
theorem dX4_isAt_11 : decode cX4_isAt 11 = .ok (.ifCond .le 7, 3) := by decide +kernel
theorem dX4_isAt_14 : decode cX4_isAt 14 = .ok (.iconst 1, 1) := by decide +kernel
theorem dX4_isAt_15 : decode cX4_isAt 15 = .ok (.goto 4, 3) := by decide +kernel
theorem dX4_isAt_18 : decode cX4_isAt 18 = .ok (.iconst 0, 1) := by decide +kernel
theorem dX4_isAt_19 : decode cX4_isAt 19 = .ok (.ireturn, 1) := by decide +kernel
theorem dX4_strengthAt_0 : decode cX4_strengthAt 0 = .ok (.aload_n 0, 1) := by decide +kernel
theorem dX4_strengthAt_1 : decode cX4_strengthAt 1 = .ok (.getfield 19, 3) := by decide +kernel
theorem dX4_strengthAt_4 : decode cX4_strengthAt 4 = .ok (.iload_n 1, 1) := by decide +kernel
theorem dX4_strengthAt_5 : decode cX4_strengthAt 5 = .ok (.bipush 16, 2) := by decide +kernel
theorem dX4_strengthAt_7 : decode cX4_strengthAt 7 = .ok (.imul, 1) := by decide +kernel
theorem dX4_strengthAt_8 : decode cX4_strengthAt 8 = .ok (.iload_n 2, 1) := by decide +kernel
theorem dX4_strengthAt_9 : decode cX4_strengthAt 9 = .ok (.iadd, 1) := by decide +kernel
theorem dX4_strengthAt_10 : decode cX4_strengthAt 10 = .ok (.iaload, 1) := by decide +kernel
theorem dX4_strengthAt_11 : decode cX4_strengthAt 11 = .ok (.ireturn, 1) := by decide +kernel
theorem dX4_kindOr_0 : decode cX4_kindOr 0 = .ok (.iload_n 1, 1) := by decide +kernel
theorem dX4_kindOr_1 : decode cX4_kindOr 1 = .ok (.bipush 16, 2) := by decide +kernel
theorem dX4_kindOr_3 : decode cX4_kindOr 3 = .ok (.imul, 1) := by decide +kernel
theorem dX4_kindOr_4 : decode cX4_kindOr 4 = .ok (.iload_n 2, 1) := by decide +kernel
theorem dX4_kindOr_5 : decode cX4_kindOr 5 = .ok (.iadd, 1) := by decide +kernel
theorem dX4_kindOr_6 : decode cX4_kindOr 6 = .ok (.istore 4, 2) := by decide +kernel
theorem dX4_kindOr_8 : decode cX4_kindOr 8 = .ok (.aload_n 0, 1) := by decide +kernel
theorem dX4_kindOr_9 : decode cX4_kindOr 9 = .ok (.getfield 19, 3) := by decide +kernel
theorem dX4_kindOr_12 : decode cX4_kindOr 12 = .ok (.iload 4, 2) := by decide +kernel
theorem dX4_kindOr_14 : decode cX4_kindOr 14 = .ok (.iaload, 1) := by decide +kernel
theorem dX4_kindOr_15 : decode cX4_kindOr 15 = .ok (.ifCond .le 13, 3) := by decide +kernel
theorem dX4_kindOr_18 : decode cX4_kindOr 18 = .ok (.aload_n 0, 1) := by decide +kernel
theorem dX4_kindOr_19 : decode cX4_kindOr 19 = .ok (.getfield 15, 3) := by decide +kernel
theorem dX4_kindOr_22 : decode cX4_kindOr 22 = .ok (.iload 4, 2) := by decide +kernel
theorem dX4_kindOr_24 : decode cX4_kindOr 24 = .ok (.iaload, 1) := by decide +kernel
theorem dX4_kindOr_25 : decode cX4_kindOr 25 = .ok (.goto 4, 3) := by decide +kernel
theorem dX4_kindOr_28 : decode cX4_kindOr 28 = .ok (.iload_n 3, 1) := by decide +kernel
theorem dX4_kindOr_29 : decode cX4_kindOr 29 = .ok (.ireturn, 1) := by decide +kernel
theorem dX4_paint_0 : decode cX4_paint 0 = .ok (.iload_n 1, 1) := by decide +kernel
theorem dX4_paint_1 : decode cX4_paint 1 = .ok (.bipush 16, 2) := by decide +kernel
theorem dX4_paint_3 : decode cX4_paint 3 = .ok (.imul, 1) := by decide +kernel
theorem dX4_paint_4 : decode cX4_paint 4 = .ok (.iload_n 2, 1) := by decide +kernel
theorem dX4_paint_5 : decode cX4_paint 5 = .ok (.iadd, 1) := by decide +kernel
theorem dX4_paint_6 : decode cX4_paint 6 = .ok (.istore 4, 2) := by decide +kernel
theorem dX4_paint_8 : decode cX4_paint 8 = .ok (.aload_n 0, 1) := by decide +kernel
theorem dX4_paint_9 : decode cX4_paint 9 = .ok (.getfield 15, 3) := by decide +kernel
theorem dX4_paint_12 : decode cX4_paint 12 = .ok (.iload 4, 2) := by decide +kernel
theorem dX4_paint_14 : decode cX4_paint 14 = .ok (.iload_n 3, 1) := by decide +kernel
theorem dX4_paint_15 : decode cX4_paint 15 = .ok (.iastore, 1) := by decide +kernel
theorem dX4_paint_16 : decode cX4_paint 16 = .ok (.aload_n 0, 1) := by decide +kernel
theorem dX4_paint_17 : decode cX4_paint 17 = .ok (.getfield 19, 3) := by decide +kernel
theorem dX4_paint_20 : decode cX4_paint 20 = .ok (.iload 4, 2) := by decide +kernel
theorem dX4_paint_22 : decode cX4_paint 22 = .ok (.bipush 100, 2) := by decide +kernel
theorem dX4_paint_24 : decode cX4_paint 24 = .ok (.iastore, 1) := by decide +kernel
theorem dX4_paint_25 : decode cX4_paint 25 = .ok (.return_, 1) := by decide +kernel
set_option maxRecDepth 20000 in
theorem ggX4_remove_X4_weaken : GoodIn wsX4_remove wsX4_weaken := goodIn_r _ [5, 6, 7, 8, 9, 10, 11, 12, 13, 14, 15, 16] (by decide +kernel) (by decide +kernel)
set_option maxRecDepth 20000 in
theorem gX4_remove_X4_weaken : GoodIn wsX4_remove (wsV RX4 22 RX4 yX4_weaken wsX4_weaken) := goodIn_app (goodIn_of _ (by decide +kernel)) ggX4_remove_X4_weaken
theorem dX4_remove_0 : decode cX4_remove 0 = .ok (.aload_n 0, 1) := by decide +kernel
theorem dX4_remove_1 : decode cX4_remove 1 = .ok (.iload_n 1, 1) := by decide +kernel
theorem dX4_remove_2 : decode cX4_remove 2 = .ok (.iload_n 2, 1) := by decide +kernel
theorem dX4_remove_3 : decode cX4_remove 3 = .ok (.bipush 100, 2) := by decide +kernel
theorem dX4_remove_5 : decode cX4_remove 5 = .ok (.invokevirtual 22, 3) := by decide +kernel
theorem dX4_remove_8 : decode cX4_remove 8 = .ok (.ireturn, 1) := by decide +kernel
set_option maxRecDepth 20000 in
theorem ggX4_weaken_X5_asNumber : GoodIn wsX4_weaken wsX5_asNumber := goodIn_r _ [8] (by decide +kernel) (by decide +kernel)
set_option maxRecDepth 20000 in
theorem gX4_weaken_X5_asNumber_n32 : GoodIn wsX4_weaken (wsX5_asNumber) := ggX4_weaken_X5_asNumber
theorem dX4_weaken_0 : decode cX4_weaken 0 = .ok (.iload_n 1, 1) := by decide +kernel
theorem dX4_weaken_1 : decode cX4_weaken 1 = .ok (.bipush 16, 2) := by decide +kernel
theorem dX4_weaken_3 : decode cX4_weaken 3 = .ok (.imul, 1) := by decide +kernel
theorem dX4_weaken_4 : decode cX4_weaken 4 = .ok (.iload_n 2, 1) := by decide +kernel
theorem dX4_weaken_5 : decode cX4_weaken 5 = .ok (.iadd, 1) := by decide +kernel
theorem dX4_weaken_6 : decode cX4_weaken 6 = .ok (.istore 4, 2) := by decide +kernel
theorem dX4_weaken_8 : decode cX4_weaken 8 = .ok (.aload_n 0, 1) := by decide +kernel
theorem dX4_weaken_9 : decode cX4_weaken 9 = .ok (.getfield 19, 3) := by decide +kernel
theorem dX4_weaken_12 : decode cX4_weaken 12 = .ok (.iload 4, 2) := by decide +kernel
theorem dX4_weaken_14 : decode cX4_weaken 14 = .ok (.iaload, 1) := by decide +kernel
theorem dX4_weaken_15 : decode cX4_weaken 15 = .ok (.ifCond .ne 5, 3) := by decide +kernel
theorem dX4_weaken_18 : decode cX4_weaken 18 = .ok (.iconst 0, 1) := by decide +kernel
theorem dX4_weaken_19 : decode cX4_weaken 19 = .ok (.ireturn, 1) := by decide +kernel
theorem dX4_weaken_20 : decode cX4_weaken 20 = .ok (.aload_n 0, 1) := by decide +kernel
theorem dX4_weaken_21 : decode cX4_weaken 21 = .ok (.getfield 19, 3) := by decide +kernel
theorem dX4_weaken_24 : decode cX4_weaken 24 = .ok (.iload 4, 2) := by decide +kernel
theorem dX4_weaken_26 : decode cX4_weaken 26 = .ok (.iconst 0, 1) := by decide +kernel
theorem dX4_weaken_27 : decode cX4_weaken 27 = .ok (.aload_n 0, 1) := by decide +kernel
theorem dX4_weaken_28 : decode cX4_weaken 28 = .ok (.getfield 19, 3) := by decide +kernel
theorem dX4_weaken_31 : decode cX4_weaken 31 = .ok (.iload 4, 2) := by decide +kernel
theorem dX4_weaken_33 : decode cX4_weaken 33 = .ok (.iaload, 1) := by decide +kernel
theorem dX4_weaken_34 : decode cX4_weaken 34 = .ok (.iload_n 3, 1) := by decide +kernel
theorem dX4_weaken_35 : decode cX4_weaken 35 = .ok (.isub, 1) := by decide +kernel
theorem dX4_weaken_36 : decode cX4_weaken 36 = .ok (.invokestatic 26, 3) := by decide +kernel
theorem dX4_weaken_39 : decode cX4_weaken 39 = .ok (.iastore, 1) := by decide +kernel
theorem dX4_weaken_40 : decode cX4_weaken 40 = .ok (.aload_n 0, 1) := by decide +kernel
theorem dX4_weaken_41 : decode cX4_weaken 41 = .ok (.getfield 19, 3) := by decide +kernel
theorem dX4_weaken_44 : decode cX4_weaken 44 = .ok (.iload 4, 2) := by decide +kernel
theorem dX4_weaken_46 : decode cX4_weaken 46 = .ok (.iaload, 1) := by decide +kernel
theorem dX4_weaken_47 : decode cX4_weaken 47 = .ok (.ifCond .ne 7, 3) := by decide +kernel
theorem dX4_weaken_50 : decode cX4_weaken 50 = .ok (.iconst 1, 1) := by decide +kernel
theorem dX4_weaken_51 : decode cX4_weaken 51 = .ok (.goto 4, 3) := by decide +kernel
theorem dX4_weaken_54 : decode cX4_weaken 54 = .ok (.iconst 0, 1) := by decide +kernel
theorem dX4_weaken_55 : decode cX4_weaken 55 = .ok (.invokestatic 32, 3) := by decide +kernel
theorem dX4_weaken_58 : decode cX4_weaken 58 = .ok (.ireturn, 1) := by decide +kernel
set_option maxRecDepth 20000 in
theorem ggX4_countFaded_X4_isFaded : GoodIn wsX4_countFaded wsX4_isFaded := goodIn_r _ [6, 7, 11, 12, 13] (by decide +kernel) (by decide +kernel)
set_option maxRecDepth 20000 in
theorem gX4_countFaded_X4_isFaded : GoodIn wsX4_countFaded (wsV RX4 36 RX4 yX4_isFaded wsX4_isFaded) := goodIn_app (goodIn_of _ (by decide +kernel)) ggX4_countFaded_X4_isFaded
set_option maxRecDepth 20000 in
theorem ggX4_countFaded_X5_asNumber : GoodIn wsX4_countFaded wsX5_asNumber := goodIn_r _ [10] (by decide +kernel) (by decide +kernel)
set_option maxRecDepth 20000 in
theorem gX4_countFaded_X5_asNumber_n32 : GoodIn wsX4_countFaded (wsX5_asNumber) := ggX4_countFaded_X5_asNumber
theorem dX4_countFaded_0 : decode cX4_countFaded 0 = .ok (.iconst 0, 1) := by decide +kernel
theorem dX4_countFaded_1 : decode cX4_countFaded 1 = .ok (.istore_n 2, 1) := by decide +kernel
theorem dX4_countFaded_2 : decode cX4_countFaded 2 = .ok (.iconst 0, 1) := by decide +kernel
theorem dX4_countFaded_3 : decode cX4_countFaded 3 = .ok (.istore_n 3, 1) := by decide +kernel
theorem dX4_countFaded_4 : decode cX4_countFaded 4 = .ok (.iload_n 3, 1) := by decide +kernel
theorem dX4_countFaded_5 : decode cX4_countFaded 5 = .ok (.aload_n 0, 1) := by decide +kernel
theorem dX4_countFaded_6 : decode cX4_countFaded 6 = .ok (.getfield 9, 3) := by decide +kernel
theorem dX4_countFaded_9 : decode cX4_countFaded 9 = .ok (.if_icmp .ge 21, 3) := by decide +kernel
theorem dX4_countFaded_12 : decode cX4_countFaded 12 = .ok (.iload_n 2, 1) := by decide +kernel
theorem dX4_countFaded_13 : decode cX4_countFaded 13 = .ok (.aload_n 0, 1) := by decide +kernel
theorem dX4_countFaded_14 : decode cX4_countFaded 14 = .ok (.iload_n 3, 1) := by decide +kernel
theorem dX4_countFaded_15 : decode cX4_countFaded 15 = .ok (.iload_n 1, 1) := by decide +kernel
theorem dX4_countFaded_16 : decode cX4_countFaded 16 = .ok (.invokevirtual 36, 3) := by decide +kernel
theorem dX4_countFaded_19 : decode cX4_countFaded 19 = .ok (.invokestatic 32, 3) := by decide +kernel
theorem dX4_countFaded_22 : decode cX4_countFaded 22 = .ok (.iadd, 1) := by decide +kernel
theorem dX4_countFaded_23 : decode cX4_countFaded 23 = .ok (.istore_n 2, 1) := by decide +kernel
theorem dX4_countFaded_24 : decode cX4_countFaded 24 = .ok (.iinc 3 1, 3) := by decide +kernel
theorem dX4_countFaded_27 : decode cX4_countFaded 27 = .ok (.goto (-23), 3) := by decide +kernel
theorem dX4_countFaded_30 : decode cX4_countFaded 30 = .ok (.iload_n 2, 1) := by decide +kernel
theorem dX4_countFaded_31 : decode cX4_countFaded 31 = .ok (.ireturn, 1) := by decide +kernel
set_option maxRecDepth 20000 in
theorem ggX4_repaintFaded_X4_isFaded : GoodIn wsX4_repaintFaded wsX4_isFaded := goodIn_r _ [7, 2, 8, 9, 10] (by decide +kernel) (by decide +kernel)
set_option maxRecDepth 20000 in
theorem gX4_repaintFaded_X4_isFaded : GoodIn wsX4_repaintFaded (wsV RX4 36 RX4 yX4_isFaded wsX4_isFaded) := goodIn_app (goodIn_of _ (by decide +kernel)) ggX4_repaintFaded_X4_isFaded
theorem dX4_repaintFaded_0 : decode cX4_repaintFaded 0 = .ok (.iconst 0, 1) := by decide +kernel
theorem dX4_repaintFaded_1 : decode cX4_repaintFaded 1 = .ok (.istore_n 3, 1) := by decide +kernel
theorem dX4_repaintFaded_2 : decode cX4_repaintFaded 2 = .ok (.iconst 0, 1) := by decide +kernel
theorem dX4_repaintFaded_3 : decode cX4_repaintFaded 3 = .ok (.istore 4, 2) := by decide +kernel
theorem dX4_repaintFaded_5 : decode cX4_repaintFaded 5 = .ok (.iload 4, 2) := by decide +kernel
theorem dX4_repaintFaded_7 : decode cX4_repaintFaded 7 = .ok (.aload_n 0, 1) := by decide +kernel
theorem dX4_repaintFaded_8 : decode cX4_repaintFaded 8 = .ok (.getfield 9, 3) := by decide +kernel
theorem dX4_repaintFaded_11 : decode cX4_repaintFaded 11 = .ok (.if_icmp .ge 41, 3) := by decide +kernel
theorem dX4_repaintFaded_14 : decode cX4_repaintFaded 14 = .ok (.iload_n 3, 1) := by decide +kernel
theorem dX4_repaintFaded_15 : decode cX4_repaintFaded 15 = .ok (.iload_n 2, 1) := by decide +kernel
theorem dX4_repaintFaded_16 : decode cX4_repaintFaded 16 = .ok (.if_icmp .ge 36, 3) := by decide +kernel
theorem dX4_repaintFaded_19 : decode cX4_repaintFaded 19 = .ok (.aload_n 0, 1) := by decide +kernel
theorem dX4_repaintFaded_20 : decode cX4_repaintFaded 20 = .ok (.iload 4, 2) := by decide +kernel
theorem dX4_repaintFaded_22 : decode cX4_repaintFaded 22 = .ok (.iload_n 1, 1) := by decide +kernel
theorem dX4_repaintFaded_23 : decode cX4_repaintFaded 23 = .ok (.invokevirtual 36, 3) := by decide +kernel
theorem dX4_repaintFaded_26 : decode cX4_repaintFaded 26 = .ok (.ifCond .eq 20, 3) := by decide +kernel
theorem dX4_repaintFaded_29 : decode cX4_repaintFaded 29 = .ok (.aload_n 0, 1) := by decide +kernel
theorem dX4_repaintFaded_30 : decode cX4_repaintFaded 30 = .ok (.getfield 19, 3) := by decide +kernel
theorem dX4_repaintFaded_33 : decode cX4_repaintFaded 33 = .ok (.iload 4, 2) := by decide +kernel
theorem dX4_repaintFaded_35 : decode cX4_repaintFaded 35 = .ok (.bipush 16, 2) := by decide +kernel
theorem dX4_repaintFaded_37 : decode cX4_repaintFaded 37 = .ok (.imul, 1) := by decide +kernel
theorem dX4_repaintFaded_38 : decode cX4_repaintFaded 38 = .ok (.iload_n 1, 1) := by decide +kernel
theorem dX4_repaintFaded_39 : decode cX4_repaintFaded 39 = .ok (.iadd, 1) := by decide +kernel
theorem dX4_repaintFaded_40 : decode cX4_repaintFaded 40 = .ok (.bipush 100, 2) := by decide +kernel
theorem dX4_repaintFaded_42 : decode cX4_repaintFaded 42 = .ok (.iastore, 1) := by decide +kernel
theorem dX4_repaintFaded_43 : decode cX4_repaintFaded 43 = .ok (.iinc 3 1, 3) := by decide +kernel
theorem dX4_repaintFaded_46 : decode cX4_repaintFaded 46 = .ok (.iinc 4 1, 3) := by decide +kernel
theorem dX4_repaintFaded_49 : decode cX4_repaintFaded 49 = .ok (.goto (-44), 3) := by decide +kernel
theorem dX4_repaintFaded_52 : decode cX4_repaintFaded 52 = .ok (.iload_n 3, 1) := by decide +kernel
theorem dX4_repaintFaded_53 : decode cX4_repaintFaded 53 = .ok (.ireturn, 1) := by decide +kernel
theorem dX4_isFaded_0 : decode cX4_isFaded 0 = .ok (.aload_n 0, 1) := by decide +kernel
theorem dX4_isFaded_1 : decode cX4_isFaded 1 = .ok (.getfield 19, 3) := by decide +kernel
theorem dX4_isFaded_4 : decode cX4_isFaded 4 = .ok (.iload_n 1, 1) := by decide +kernel
theorem dX4_isFaded_5 : decode cX4_isFaded 5 = .ok (.bipush 16, 2) := by decide +kernel
theorem dX4_isFaded_7 : decode cX4_isFaded 7 = .ok (.imul, 1) := by decide +kernel
theorem dX4_isFaded_8 : decode cX4_isFaded 8 = .ok (.iload_n 2, 1) := by decide +kernel
theorem dX4_isFaded_9 : decode cX4_isFaded 9 = .ok (.iadd, 1) := by decide +kernel
theorem dX4_isFaded_10 : decode cX4_isFaded 10 = .ok (.iaload, 1) := by decide +kernel
theorem dX4_isFaded_11 : decode cX4_isFaded 11 = .ok (.istore_n 3, 1) := by decide +kernel
theorem dX4_isFaded_12 : decode cX4_isFaded 12 = .ok (.iload_n 3, 1) := by decide +kernel
theorem dX4_isFaded_13 : decode cX4_isFaded 13 = .ok (.ifCond .le 13, 3) := by decide +kernel
theorem dX4_isFaded_16 : decode cX4_isFaded 16 = .ok (.iload_n 3, 1) := by decide +kernel
theorem dX4_isFaded_17 : decode cX4_isFaded 17 = .ok (.bipush 60, 2) := by decide +kernel
theorem dX4_isFaded_19 : decode cX4_isFaded 19 = .ok (.if_icmp .ge 7, 3) := by decide +kernel
theorem dX4_isFaded_22 : decode cX4_isFaded 22 = .ok (.iconst 1, 1) := by decide +kernel
theorem dX4_isFaded_23 : decode cX4_isFaded 23 = .ok (.goto 4, 3) := by decide +kernel
theorem dX4_isFaded_26 : decode cX4_isFaded 26 = .ok (.iconst 0, 1) := by decide +kernel
theorem dX4_isFaded_27 : decode cX4_isFaded 27 = .ok (.ireturn, 1) := by decide +kernel
set_option maxRecDepth 20000 in
theorem ggX4_count_X4_countFrom : GoodIn wsX4_count wsX4_countFrom := goodIn_r _ [5, 6, 7, 8, 9, 10, 11, 12] (by decide +kernel) (by decide +kernel)
set_option maxRecDepth 20000 in
theorem gX4_count_X4_countFrom : GoodIn wsX4_count (wsV RX4 40 RX4 yX4_countFrom wsX4_countFrom) := goodIn_app (goodIn_of _ (by decide +kernel)) ggX4_count_X4_countFrom
theorem dX4_count_0 : decode cX4_count 0 = .ok (.aload_n 0, 1) := by decide +kernel
theorem dX4_count_1 : decode cX4_count 1 = .ok (.iconst 1, 1) := by decide +kernel
theorem dX4_count_2 : decode cX4_count 2 = .ok (.invokevirtual 40, 3) := by decide +kernel
theorem dX4_count_5 : decode cX4_count 5 = .ok (.ireturn, 1) := by decide +kernel
set_option maxRecDepth 20000 in
theorem ggX4_countFrom_X5_asNumber : GoodIn wsX4_countFrom wsX5_asNumber := goodIn_r _ [4] (by decide +kernel) (by decide +kernel)
set_option maxRecDepth 20000 in
theorem gX4_countFrom_X5_asNumber_n32 : GoodIn wsX4_countFrom (wsX5_asNumber) := ggX4_countFrom_X5_asNumber
theorem dX4_countFrom_0 : decode cX4_countFrom 0 = .ok (.iconst 0, 1) := by decide +kernel
theorem dX4_countFrom_1 : decode cX4_countFrom 1 = .ok (.istore_n 2, 1) := by decide +kernel
theorem dX4_countFrom_2 : decode cX4_countFrom 2 = .ok (.iconst 0, 1) := by decide +kernel
theorem dX4_countFrom_3 : decode cX4_countFrom 3 = .ok (.istore_n 3, 1) := by decide +kernel
theorem dX4_countFrom_4 : decode cX4_countFrom 4 = .ok (.iload_n 3, 1) := by decide +kernel
theorem dX4_countFrom_5 : decode cX4_countFrom 5 = .ok (.aload_n 0, 1) := by decide +kernel
theorem dX4_countFrom_6 : decode cX4_countFrom 6 = .ok (.getfield 19, 3) := by decide +kernel
theorem dX4_countFrom_9 : decode cX4_countFrom 9 = .ok (.arraylength, 1) := by decide +kernel
theorem dX4_countFrom_10 : decode cX4_countFrom 10 = .ok (.if_icmp .ge 30, 3) := by decide +kernel
theorem dX4_countFrom_13 : decode cX4_countFrom 13 = .ok (.iload_n 2, 1) := by decide +kernel
theorem dX4_countFrom_14 : decode cX4_countFrom 14 = .ok (.aload_n 0, 1) := by decide +kernel
theorem dX4_countFrom_15 : decode cX4_countFrom 15 = .ok (.getfield 19, 3) := by decide +kernel
theorem dX4_countFrom_18 : decode cX4_countFrom 18 = .ok (.iload_n 3, 1) := by decide +kernel
theorem dX4_countFrom_19 : decode cX4_countFrom 19 = .ok (.iaload, 1) := by decide +kernel
theorem dX4_countFrom_20 : decode cX4_countFrom 20 = .ok (.iload_n 1, 1) := by decide +kernel
theorem dX4_countFrom_21 : decode cX4_countFrom 21 = .ok (.if_icmp .lt 7, 3) := by decide +kernel
theorem dX4_countFrom_24 : decode cX4_countFrom 24 = .ok (.iconst 1, 1) := by decide +kernel
theorem dX4_countFrom_25 : decode cX4_countFrom 25 = .ok (.goto 4, 3) := by decide +kernel
theorem dX4_countFrom_28 : decode cX4_countFrom 28 = .ok (.iconst 0, 1) := by decide +kernel
theorem dX4_countFrom_29 : decode cX4_countFrom 29 = .ok (.invokestatic 32, 3) := by decide +kernel
theorem dX4_countFrom_32 : decode cX4_countFrom 32 = .ok (.iadd, 1) := by decide +kernel
theorem dX4_countFrom_33 : decode cX4_countFrom 33 = .ok (.istore_n 2, 1) := by decide +kernel
theorem dX4_countFrom_34 : decode cX4_countFrom 34 = .ok (.iinc 3 1, 3) := by decide +kernel
theorem dX4_countFrom_37 : decode cX4_countFrom 37 = .ok (.goto (-33), 3) := by decide +kernel
theorem dX4_countFrom_40 : decode cX4_countFrom 40 = .ok (.iload_n 2, 1) := by decide +kernel
theorem dX4_countFrom_41 : decode cX4_countFrom 41 = .ok (.ireturn, 1) := by decide +kernel
theorem dX4_sumOfStrengths_0 : decode cX4_sumOfStrengths 0 = .ok (.iconst 0, 1) := by decide +kernel
theorem dX4_sumOfStrengths_1 : decode cX4_sumOfStrengths 1 = .ok (.istore_n 1, 1) := by decide +kernel
theorem dX4_sumOfStrengths_2 : decode cX4_sumOfStrengths 2 = .ok (.iconst 0, 1) := by decide +kernel
theorem dX4_sumOfStrengths_3 : decode cX4_sumOfStrengths 3 = .ok (.istore_n 2, 1) := by decide +kernel
theorem dX4_sumOfStrengths_4 : decode cX4_sumOfStrengths 4 = .ok (.iload_n 2, 1) := by decide +kernel
theorem dX4_sumOfStrengths_5 : decode cX4_sumOfStrengths 5 = .ok (.aload_n 0, 1) := by decide +kernel
theorem dX4_sumOfStrengths_6 : decode cX4_sumOfStrengths 6 = .ok (.getfield 19, 3) := by decide +kernel
theorem dX4_sumOfStrengths_9 : decode cX4_sumOfStrengths 9 = .ok (.arraylength, 1) := by decide +kernel
theorem dX4_sumOfStrengths_10 : decode cX4_sumOfStrengths 10 = .ok (.if_icmp .ge 18, 3) := by decide +kernel
theorem dX4_sumOfStrengths_13 : decode cX4_sumOfStrengths 13 = .ok (.iload_n 1, 1) := by decide +kernel
theorem dX4_sumOfStrengths_14 : decode cX4_sumOfStrengths 14 = .ok (.aload_n 0, 1) := by decide +kernel
theorem dX4_sumOfStrengths_15 : decode cX4_sumOfStrengths 15 = .ok (.getfield 19, 3) := by decide +kernel
theorem dX4_sumOfStrengths_18 : decode cX4_sumOfStrengths 18 = .ok (.iload_n 2, 1) := by decide +kernel
theorem dX4_sumOfStrengths_19 : decode cX4_sumOfStrengths 19 = .ok (.iaload, 1) := by decide +kernel
theorem dX4_sumOfStrengths_20 : decode cX4_sumOfStrengths 20 = .ok (.iadd, 1) := by decide +kernel
theorem dX4_sumOfStrengths_21 : decode cX4_sumOfStrengths 21 = .ok (.istore_n 1, 1) := by decide +kernel
theorem dX4_sumOfStrengths_22 : decode cX4_sumOfStrengths 22 = .ok (.iinc 2 1, 3) := by decide +kernel
theorem dX4_sumOfStrengths_25 : decode cX4_sumOfStrengths 25 = .ok (.goto (-21), 3) := by decide +kernel
theorem dX4_sumOfStrengths_28 : decode cX4_sumOfStrengths 28 = .ok (.iload_n 1, 1) := by decide +kernel
theorem dX4_sumOfStrengths_29 : decode cX4_sumOfStrengths 29 = .ok (.ireturn, 1) := by decide +kernel
theorem dX4_copyFrom_0 : decode cX4_copyFrom 0 = .ok (.iconst 0, 1) := by decide +kernel
theorem dX4_copyFrom_1 : decode cX4_copyFrom 1 = .ok (.istore_n 2, 1) := by decide +kernel
theorem dX4_copyFrom_2 : decode cX4_copyFrom 2 = .ok (.iload_n 2, 1) := by decide +kernel
theorem dX4_copyFrom_3 : decode cX4_copyFrom 3 = .ok (.aload_n 0, 1) := by decide +kernel
theorem dX4_copyFrom_4 : decode cX4_copyFrom 4 = .ok (.getfield 19, 3) := by decide +kernel
theorem dX4_copyFrom_7 : decode cX4_copyFrom 7 = .ok (.arraylength, 1) := by decide +kernel
theorem dX4_copyFrom_8 : decode cX4_copyFrom 8 = .ok (.if_icmp .ge 42, 3) := by decide +kernel
theorem dX4_copyFrom_11 : decode cX4_copyFrom 11 = .ok (.iload_n 2, 1) := by decide +kernel
theorem dX4_copyFrom_12 : decode cX4_copyFrom 12 = .ok (.aload_n 1, 1) := by decide +kernel
theorem dX4_copyFrom_13 : decode cX4_copyFrom 13 = .ok (.getfield 19, 3) := by decide +kernel
theorem dX4_copyFrom_16 : decode cX4_copyFrom 16 = .ok (.arraylength, 1) := by decide +kernel
theorem dX4_copyFrom_17 : decode cX4_copyFrom 17 = .ok (.if_icmp .ge 33, 3) := by decide +kernel
theorem dX4_copyFrom_20 : decode cX4_copyFrom 20 = .ok (.aload_n 0, 1) := by decide +kernel
theorem dX4_copyFrom_21 : decode cX4_copyFrom 21 = .ok (.getfield 15, 3) := by decide +kernel
theorem dX4_copyFrom_24 : decode cX4_copyFrom 24 = .ok (.iload_n 2, 1) := by decide +kernel
theorem dX4_copyFrom_25 : decode cX4_copyFrom 25 = .ok (.aload_n 1, 1) := by decide +kernel
theorem dX4_copyFrom_26 : decode cX4_copyFrom 26 = .ok (.getfield 15, 3) := by decide +kernel
theorem dX4_copyFrom_29 : decode cX4_copyFrom 29 = .ok (.iload_n 2, 1) := by decide +kernel
theorem dX4_copyFrom_30 : decode cX4_copyFrom 30 = .ok (.iaload, 1) := by decide +kernel
theorem dX4_copyFrom_31 : decode cX4_copyFrom 31 = .ok (.iastore, 1) := by decide +kernel
theorem dX4_copyFrom_32 : decode cX4_copyFrom 32 = .ok (.aload_n 0, 1) := by decide +kernel
theorem dX4_copyFrom_33 : decode cX4_copyFrom 33 = .ok (.getfield 19, 3) := by decide +kernel
theorem dX4_copyFrom_36 : decode cX4_copyFrom 36 = .ok (.iload_n 2, 1) := by decide +kernel
theorem dX4_copyFrom_37 : decode cX4_copyFrom 37 = .ok (.aload_n 1, 1) := by decide +kernel
theorem dX4_copyFrom_38 : decode cX4_copyFrom 38 = .ok (.getfield 19, 3) := by decide +kernel
theorem dX4_copyFrom_41 : decode cX4_copyFrom 41 = .ok (.iload_n 2, 1) := by decide +kernel
theorem dX4_copyFrom_42 : decode cX4_copyFrom 42 = .ok (.iaload, 1) := by decide +kernel
theorem dX4_copyFrom_43 : decode cX4_copyFrom 43 = .ok (.iastore, 1) := by decide +kernel
theorem dX4_copyFrom_44 : decode cX4_copyFrom 44 = .ok (.iinc 2 1, 3) := by decide +kernel
theorem dX4_copyFrom_47 : decode cX4_copyFrom 47 = .ok (.goto (-45), 3) := by decide +kernel
theorem dX4_copyFrom_50 : decode cX4_copyFrom 50 = .ok (.return_, 1) := by decide +kernel
set_option maxRecDepth 20000 in
theorem ggX5_init_X3_init : GoodIn wsX5_init wsX3_init := goodIn_r _ [24, 25, 2, 3, 26, 27, 28, 29, 30, 31, 32, 33, 34, 35, 36, 37, 38, 39, 40, 41, 42, 83, 84, 85, 61, 62, 63, 64, 65, 66, 67, 68, 69, 70] (by decide +kernel) (by decide +kernel)
set_option maxRecDepth 20000 in
theorem gX5_init_X3_init : GoodIn wsX5_init (wsX3_init) := ggX5_init_X3_init
set_option maxRecDepth 20000 in
theorem ggX5_init_X1_init : GoodIn wsX5_init wsX1_init := goodIn_r _ [45, 46, 2, 3, 47, 48, 5, 6, 49, 23, 24, 25, 26, 27, 28, 29, 30, 31, 32, 33, 34, 35, 36, 37, 38, 39, 40, 41, 42, 77, 78, 79, 61, 62, 63, 64, 65, 66, 67, 68, 69, 70, 83, 84, 85] (by decide +kernel) (by decide +kernel)
set_option maxRecDepth 20000 in
theorem gX5_init_X1_init : GoodIn wsX5_init (wsX1_init) := ggX5_init_X1_init
set_option maxRecDepth 20000 in
theorem ggX5_init_X2_init : GoodIn wsX5_init wsX2_init := goodIn_r _ [52, 53, 2, 3, 54, 55, 80, 81] (by decide +kernel) (by decide +kernel)
set_option maxRecDepth 20000 in
theorem gX5_init_X2_init : GoodIn wsX5_init (wsX2_init) := ggX5_init_X2_init
set_option maxRecDepth 20000 in
theorem ggX5_init_X0_init : GoodIn wsX5_init wsX0_init := goodIn_r _ [58, 59, 2, 3, 32, 60, 82] (by decide +kernel) (by decide +kernel)
set_option maxRecDepth 20000 in
theorem gX5_init_X0_init : GoodIn wsX5_init (wsX0_init) := ggX5_init_X0_init
theorem dX5_init_0 : decode cX5_init 0 = .ok (.aload_n 0, 1) := by decide +kernel
theorem dX5_init_1 : decode cX5_init 1 = .ok (.invokespecial 1, 3) := by decide +kernel
theorem dX5_init_4 : decode cX5_init 4 = .ok (.aload_n 0, 1) := by decide +kernel
theorem dX5_init_5 : decode cX5_init 5 = .ok (.new 7, 3) := by decide +kernel
theorem dX5_init_8 : decode cX5_init 8 = .ok (.dup, 1) := by decide +kernel
theorem dX5_init_9 : decode cX5_init 9 = .ok (.invokespecial 9, 3) := by decide +kernel
theorem dX5_init_12 : decode cX5_init 12 = .ok (.putfield 10, 3) := by decide +kernel
theorem dX5_init_15 : decode cX5_init 15 = .ok (.aload_n 0, 1) := by decide +kernel
theorem dX5_init_16 : decode cX5_init 16 = .ok (.new 7, 3) := by decide +kernel
theorem dX5_init_19 : decode cX5_init 19 = .ok (.dup, 1) := by decide +kernel
theorem dX5_init_20 : decode cX5_init 20 = .ok (.invokespecial 9, 3) := by decide +kernel
theorem dX5_init_23 : decode cX5_init 23 = .ok (.putfield 16, 3) := by decide +kernel
theorem dX5_init_26 : decode cX5_init 26 = .ok (.aload_n 0, 1) := by decide +kernel
theorem dX5_init_27 : decode cX5_init 27 = .ok (.iconst 0, 1) := by decide +kernel
theorem dX5_init_28 : decode cX5_init 28 = .ok (.putfield 19, 3) := by decide +kernel
theorem dX5_init_31 : decode cX5_init 31 = .ok (.aload_n 0, 1) := by decide +kernel
theorem dX5_init_32 : decode cX5_init 32 = .ok (.new 23, 3) := by decide +kernel
theorem dX5_init_35 : decode cX5_init 35 = .ok (.dup, 1) := by decide +kernel
theorem dX5_init_36 : decode cX5_init 36 = .ok (.invokespecial 25, 3) := by decide +kernel
theorem dX5_init_39 : decode cX5_init 39 = .ok (.putfield 26, 3) := by decide +kernel
theorem dX5_init_42 : decode cX5_init 42 = .ok (.aload_n 0, 1) := by decide +kernel
theorem dX5_init_43 : decode cX5_init 43 = .ok (.new 30, 3) := by decide +kernel
theorem dX5_init_46 : decode cX5_init 46 = .ok (.dup, 1) := by decide +kernel
theorem dX5_init_47 : decode cX5_init 47 = .ok (.invokespecial 32, 3) := by decide +kernel
theorem dX5_init_50 : decode cX5_init 50 = .ok (.putfield 33, 3) := by decide +kernel
theorem dX5_init_53 : decode cX5_init 53 = .ok (.aload_n 0, 1) := by decide +kernel
theorem dX5_init_54 : decode cX5_init 54 = .ok (.new 37, 3) := by decide +kernel
theorem dX5_init_57 : decode cX5_init 57 = .ok (.dup, 1) := by decide +kernel
theorem dX5_init_58 : decode cX5_init 58 = .ok (.invokespecial 39, 3) := by decide +kernel
theorem dX5_init_61 : decode cX5_init 61 = .ok (.putfield 40, 3) := by decide +kernel
theorem dX5_init_64 : decode cX5_init 64 = .ok (.return_, 1) := by decide +kernel
set_option maxRecDepth 20000 in
theorem ggX5_arrow_X5_arrowError : GoodIn wsX5_arrow wsX5_arrowError := goodIn_r _ [5, 6, 7, 8, 4, 9, 10, 11, 12, 13, 14, 15, 16, 17, 18, 19, 20, 21, 22, 23, 24, 25, 26, 27, 28, 29, 30, 31, 32, 33, 34, 35, 36, 37, 38, 39, 40, 41, 42, 43, 44, 45, 46, 47, 99, 100, 101, 102, 103, 104, 105, 106, 107, 108, 109, 110, 111, 112, 113, 114, 115, 116, 117] (by decide +kernel) (by decide +kernel)
set_option maxRecDepth 20000 in
theorem gX5_arrow_X5_arrowError : GoodIn wsX5_arrow (wsV RX5 44 RX5 yX5_arrowError wsX5_arrowError) := goodIn_app (goodIn_of _ (by decide +kernel)) ggX5_arrow_X5_arrowError
set_option maxRecDepth 20000 in
theorem ggX5_arrow_X5_recordedRoad : GoodIn wsX5_arrow wsX5_recordedRoad := goodIn_r _ [51, 52, 6, 53, 54, 55, 56, 57, 58, 59, 60, 61, 62, 63, 19, 64, 25, 65, 44, 66, 67, 68, 69, 70, 71, 72, 73, 74, 75, 76, 77, 78, 79, 29, 80, 31, 36, 99, 100, 101, 102, 103, 104, 118, 119, 120, 105, 106, 107, 108, 109, 110, 111, 112, 113, 114, 115, 116, 117] (by decide +kernel) (by decide +kernel)
set_option maxRecDepth 20000 in
theorem gX5_arrow_X5_recordedRoad : GoodIn wsX5_arrow (wsV RX5 48 RX5 yX5_recordedRoad wsX5_recordedRoad) := goodIn_app (goodIn_of _ (by decide +kernel)) ggX5_arrow_X5_recordedRoad
set_option maxRecDepth 20000 in
theorem ggX5_arrow_X3_putArrow : GoodIn wsX5_arrow wsX3_putArrow := goodIn_r _ [84, 25, 85, 86, 87, 29, 88, 36, 31, 89, 90, 91, 92, 93, 94, 95, 96, 97, 4, 98, 105, 106, 107, 108, 109, 110, 111, 112, 113, 114, 115, 116, 117] (by decide +kernel) (by decide +kernel)
set_option maxRecDepth 20000 in
theorem gX5_arrow_X3_putArrow : GoodIn wsX5_arrow (wsV RX5 52 RX3 yX3_putArrow wsX3_putArrow) := goodIn_app (goodIn_of _ (by decide +kernel)) ggX5_arrow_X3_putArrow
theorem dX5_arrow_0 : decode cX5_arrow 0 = .ok (.aload_n 0, 1) := by decide +kernel
theorem dX5_arrow_1 : decode cX5_arrow 1 = .ok (.iload_n 1, 1) := by decide +kernel
theorem dX5_arrow_2 : decode cX5_arrow 2 = .ok (.iload_n 2, 1) := by decide +kernel
theorem dX5_arrow_3 : decode cX5_arrow 3 = .ok (.iload_n 3, 1) := by decide +kernel
theorem dX5_arrow_4 : decode cX5_arrow 4 = .ok (.invokevirtual 44, 3) := by decide +kernel
theorem dX5_arrow_7 : decode cX5_arrow 7 = .ok (.istore 4, 2) := by decide +kernel
theorem dX5_arrow_9 : decode cX5_arrow 9 = .ok (.iload 4, 2) := by decide +kernel
theorem dX5_arrow_11 : decode cX5_arrow 11 = .ok (.ifCond .eq 8, 3) := by decide +kernel
theorem dX5_arrow_14 : decode cX5_arrow 14 = .ok (.iload 4, 2) := by decide +kernel
theorem dX5_arrow_16 : decode cX5_arrow 16 = .ok (.goto 13, 3) := by decide +kernel
theorem dX5_arrow_19 : decode cX5_arrow 19 = .ok (.aload_n 0, 1) := by decide +kernel
theorem dX5_arrow_20 : decode cX5_arrow 20 = .ok (.invokevirtual 48, 3) := by decide +kernel
theorem dX5_arrow_23 : decode cX5_arrow 23 = .ok (.iload_n 1, 1) := by decide +kernel
theorem dX5_arrow_24 : decode cX5_arrow 24 = .ok (.iload_n 2, 1) := by decide +kernel
theorem dX5_arrow_25 : decode cX5_arrow 25 = .ok (.iload_n 3, 1) := by decide +kernel
theorem dX5_arrow_26 : decode cX5_arrow 26 = .ok (.invokevirtual 52, 3) := by decide +kernel
theorem dX5_arrow_29 : decode cX5_arrow 29 = .ok (.ireturn, 1) := by decide +kernel
set_option maxRecDepth 20000 in
theorem ggX5_word_X5_placeError : GoodIn wsX5_word wsX5_placeError := goodIn_r _ [4, 5, 6, 3, 7, 8, 9, 10] (by decide +kernel) (by decide +kernel)
set_option maxRecDepth 20000 in
theorem gX5_word_X5_placeError : GoodIn wsX5_word (va_wsS RX5 55 yX5_placeError wsX5_placeError) := goodIn_app (goodIn_of _ (by decide +kernel)) ggX5_word_X5_placeError
set_option maxRecDepth 20000 in
theorem ggX5_word_X5_recordedRoad : GoodIn wsX5_word wsX5_recordedRoad := goodIn_r _ [14, 15, 16, 17, 18, 19, 20, 21, 22, 23, 24, 25, 26, 27, 28, 29, 30, 31, 32, 33, 34, 35, 36, 37, 38, 39, 40, 41, 42, 43, 44, 45, 46, 47, 48, 49, 50, 69, 70, 71, 72, 73, 74, 75, 76, 77, 78, 79, 80, 81, 82, 83, 84, 85, 86, 87, 88, 89, 90] (by decide +kernel) (by decide +kernel)
set_option maxRecDepth 20000 in
theorem gX5_word_X5_recordedRoad : GoodIn wsX5_word (wsV RX5 48 RX5 yX5_recordedRoad wsX5_recordedRoad) := goodIn_app (goodIn_of _ (by decide +kernel)) ggX5_word_X5_recordedRoad
set_option maxRecDepth 20000 in
theorem ggX5_word_X3_putWord : GoodIn wsX5_word wsX3_putWord := goodIn_r _ [54, 31, 55, 56, 57, 47, 58, 50, 49, 59, 60, 61, 62, 63, 64, 65, 66, 67, 3, 68, 78, 79, 80, 81, 82, 83, 84, 85, 86, 87, 88, 89, 90] (by decide +kernel) (by decide +kernel)
set_option maxRecDepth 20000 in
theorem gX5_word_X3_putWord : GoodIn wsX5_word (wsV RX5 59 RX3 yX3_putWord wsX3_putWord) := goodIn_app (goodIn_of _ (by decide +kernel)) ggX5_word_X3_putWord
theorem dX5_word_0 : decode cX5_word 0 = .ok (.iload_n 1, 1) := by decide +kernel
theorem dX5_word_1 : decode cX5_word 1 = .ok (.iconst 3, 1) := by decide +kernel
theorem dX5_word_2 : decode cX5_word 2 = .ok (.iload_n 2, 1) := by decide +kernel
theorem dX5_word_3 : decode cX5_word 3 = .ok (.iload_n 3, 1) := by decide +kernel
theorem dX5_word_4 : decode cX5_word 4 = .ok (.iconst 4, 1) := by decide +kernel
theorem dX5_word_5 : decode cX5_word 5 = .ok (.invokestatic 55, 3) := by decide +kernel
theorem dX5_word_8 : decode cX5_word 8 = .ok (.istore 4, 2) := by decide +kernel
theorem dX5_word_10 : decode cX5_word 10 = .ok (.iload 4, 2) := by decide +kernel
theorem dX5_word_12 : decode cX5_word 12 = .ok (.ifCond .eq 8, 3) := by decide +kernel
theorem dX5_word_15 : decode cX5_word 15 = .ok (.iload 4, 2) := by decide +kernel
theorem dX5_word_17 : decode cX5_word 17 = .ok (.goto 13, 3) := by decide +kernel
theorem dX5_word_20 : decode cX5_word 20 = .ok (.aload_n 0, 1) := by decide +kernel
theorem dX5_word_21 : decode cX5_word 21 = .ok (.invokevirtual 48, 3) := by decide +kernel
theorem dX5_word_24 : decode cX5_word 24 = .ok (.iload_n 1, 1) := by decide +kernel
theorem dX5_word_25 : decode cX5_word 25 = .ok (.iload_n 2, 1) := by decide +kernel
theorem dX5_word_26 : decode cX5_word 26 = .ok (.iload_n 3, 1) := by decide +kernel
theorem dX5_word_27 : decode cX5_word 27 = .ok (.invokevirtual 59, 3) := by decide +kernel
theorem dX5_word_30 : decode cX5_word 30 = .ok (.ireturn, 1) := by decide +kernel
set_option maxRecDepth 20000 in
theorem ggX5_dash_X5_placeError : GoodIn wsX5_dash wsX5_placeError := goodIn_r _ [4, 5, 6, 3, 7, 8, 9, 10] (by decide +kernel) (by decide +kernel)
set_option maxRecDepth 20000 in
theorem gX5_dash_X5_placeError : GoodIn wsX5_dash (va_wsS RX5 55 yX5_placeError wsX5_placeError) := goodIn_app (goodIn_of _ (by decide +kernel)) ggX5_dash_X5_placeError
set_option maxRecDepth 20000 in
theorem ggX5_dash_X5_recordedRoad : GoodIn wsX5_dash wsX5_recordedRoad := goodIn_r _ [14, 15, 16, 17, 18, 19, 20, 21, 22, 23, 24, 25, 26, 27, 28, 29, 30, 31, 32, 33, 34, 35, 36, 37, 38, 39, 40, 41, 42, 43, 44, 45, 46, 47, 48, 49, 50, 81, 82, 83, 84, 85, 86, 87, 88, 89, 90, 91, 92, 93, 94, 95, 96, 97, 98, 99, 100, 101, 102] (by decide +kernel) (by decide +kernel)
set_option maxRecDepth 20000 in
theorem gX5_dash_X5_recordedRoad : GoodIn wsX5_dash (wsV RX5 48 RX5 yX5_recordedRoad wsX5_recordedRoad) := goodIn_app (goodIn_of _ (by decide +kernel)) ggX5_dash_X5_recordedRoad
set_option maxRecDepth 20000 in
theorem ggX5_dash_X3_putDash : GoodIn wsX5_dash wsX3_putDash := goodIn_r _ [54, 32, 55, 56, 57, 28, 58, 59, 60, 61, 47, 62, 49, 50, 63, 64, 65, 66, 67, 68, 69, 70, 71, 72, 73, 74, 75, 3, 76, 77, 78, 79, 80, 90, 91, 92, 93, 94, 95, 96, 97, 98, 99, 100, 101, 102] (by decide +kernel) (by decide +kernel)
set_option maxRecDepth 20000 in
theorem gX5_dash_X3_putDash : GoodIn wsX5_dash (wsV RX5 62 RX3 yX3_putDash wsX3_putDash) := goodIn_app (goodIn_of _ (by decide +kernel)) ggX5_dash_X3_putDash
theorem dX5_dash_0 : decode cX5_dash 0 = .ok (.iload_n 1, 1) := by decide +kernel
theorem dX5_dash_1 : decode cX5_dash 1 = .ok (.iconst 2, 1) := by decide +kernel
theorem dX5_dash_2 : decode cX5_dash 2 = .ok (.iload_n 2, 1) := by decide +kernel
theorem dX5_dash_3 : decode cX5_dash 3 = .ok (.iload_n 3, 1) := by decide +kernel
theorem dX5_dash_4 : decode cX5_dash 4 = .ok (.iconst 4, 1) := by decide +kernel
theorem dX5_dash_5 : decode cX5_dash 5 = .ok (.invokestatic 55, 3) := by decide +kernel
theorem dX5_dash_8 : decode cX5_dash 8 = .ok (.istore 4, 2) := by decide +kernel
theorem dX5_dash_10 : decode cX5_dash 10 = .ok (.iload 4, 2) := by decide +kernel
theorem dX5_dash_12 : decode cX5_dash 12 = .ok (.ifCond .eq 8, 3) := by decide +kernel
theorem dX5_dash_15 : decode cX5_dash 15 = .ok (.iload 4, 2) := by decide +kernel
theorem dX5_dash_17 : decode cX5_dash 17 = .ok (.goto 13, 3) := by decide +kernel
theorem dX5_dash_20 : decode cX5_dash 20 = .ok (.aload_n 0, 1) := by decide +kernel
theorem dX5_dash_21 : decode cX5_dash 21 = .ok (.invokevirtual 48, 3) := by decide +kernel
theorem dX5_dash_24 : decode cX5_dash 24 = .ok (.iload_n 1, 1) := by decide +kernel
theorem dX5_dash_25 : decode cX5_dash 25 = .ok (.iload_n 2, 1) := by decide +kernel
theorem dX5_dash_26 : decode cX5_dash 26 = .ok (.iload_n 3, 1) := by decide +kernel
theorem dX5_dash_27 : decode cX5_dash 27 = .ok (.invokevirtual 62, 3) := by decide +kernel
theorem dX5_dash_30 : decode cX5_dash 30 = .ok (.ireturn, 1) := by decide +kernel
set_option maxRecDepth 20000 in
theorem ggX5_erase_X5_isPlace : GoodIn wsX5_erase wsX5_isPlace := goodIn_r _ [4, 5, 6, 3, 7] (by decide +kernel) (by decide +kernel)
set_option maxRecDepth 20000 in
theorem gX5_erase_X5_isPlace : GoodIn wsX5_erase (va_wsS RX5 65 yX5_isPlace wsX5_isPlace) := goodIn_app (goodIn_of _ (by decide +kernel)) ggX5_erase_X5_isPlace
set_option maxRecDepth 20000 in
theorem ggX5_erase_X5_recordedRoad : GoodIn wsX5_erase wsX5_recordedRoad := goodIn_r _ [11, 12, 13, 14, 15, 16, 17, 18, 19, 20, 21, 22, 23, 24, 25, 26, 27, 28, 29, 30, 31, 32, 33, 34, 35, 36, 37, 38, 39, 40, 41, 42, 43, 44, 45, 46, 47, 66, 67, 68, 69, 70, 71, 72, 73, 74, 75, 76, 77, 78, 79, 80, 81, 82, 83, 84, 85, 86, 87] (by decide +kernel) (by decide +kernel)
set_option maxRecDepth 20000 in
theorem gX5_erase_X5_recordedRoad : GoodIn wsX5_erase (wsV RX5 48 RX5 yX5_recordedRoad wsX5_recordedRoad) := goodIn_app (goodIn_of _ (by decide +kernel)) ggX5_erase_X5_recordedRoad
set_option maxRecDepth 20000 in
theorem ggX5_erase_X3_clearCell : GoodIn wsX5_erase wsX3_clearCell := goodIn_r _ [51, 27, 28, 52, 53, 54, 44, 55, 56, 57, 58, 59, 46, 60, 61, 62, 63, 64, 3, 65, 75, 76, 77, 78, 79, 80, 81, 82, 83, 84, 85, 86, 87] (by decide +kernel) (by decide +kernel)
set_option maxRecDepth 20000 in
theorem gX5_erase_X3_clearCell : GoodIn wsX5_erase (wsV RX5 69 RX3 yX3_clearCell wsX3_clearCell) := goodIn_app (goodIn_of _ (by decide +kernel)) ggX5_erase_X3_clearCell
theorem dX5_erase_0 : decode cX5_erase 0 = .ok (.iload_n 1, 1) := by decide +kernel
theorem dX5_erase_1 : decode cX5_erase 1 = .ok (.iconst 3, 1) := by decide +kernel
theorem dX5_erase_2 : decode cX5_erase 2 = .ok (.iload_n 2, 1) := by decide +kernel
theorem dX5_erase_3 : decode cX5_erase 3 = .ok (.invokestatic 65, 3) := by decide +kernel
theorem dX5_erase_6 : decode cX5_erase 6 = .ok (.ifCond .ne 5, 3) := by decide +kernel
theorem dX5_erase_9 : decode cX5_erase 9 = .ok (.iconst (-1), 1) := by decide +kernel
theorem dX5_erase_10 : decode cX5_erase 10 = .ok (.ireturn, 1) := by decide +kernel
theorem dX5_erase_11 : decode cX5_erase 11 = .ok (.aload_n 0, 1) := by decide +kernel
theorem dX5_erase_12 : decode cX5_erase 12 = .ok (.invokevirtual 48, 3) := by decide +kernel
theorem dX5_erase_15 : decode cX5_erase 15 = .ok (.iload_n 1, 1) := by decide +kernel
theorem dX5_erase_16 : decode cX5_erase 16 = .ok (.iload_n 2, 1) := by decide +kernel
theorem dX5_erase_17 : decode cX5_erase 17 = .ok (.invokevirtual 69, 3) := by decide +kernel
theorem dX5_erase_20 : decode cX5_erase 20 = .ok (.ireturn, 1) := by decide +kernel
set_option maxRecDepth 20000 in
theorem ggX5_set_X5_isWithin : GoodIn wsX5_set wsX5_isWithin := goodIn_r _ [4] (by decide +kernel) (by decide +kernel)
set_option maxRecDepth 20000 in
theorem gX5_set_X5_isWithin : GoodIn wsX5_set (va_wsS RX5 73 yX5_isWithin wsX5_isWithin) := goodIn_app (goodIn_of _ (by decide +kernel)) ggX5_set_X5_isWithin
set_option maxRecDepth 20000 in
theorem ggX5_set_X5_recordedRoad : GoodIn wsX5_set wsX5_recordedRoad := goodIn_r _ [8, 9, 10, 11, 12, 13, 14, 15, 16, 17, 18, 19, 20, 21, 22, 23, 24, 25, 26, 27, 28, 29, 30, 31, 32, 33, 34, 35, 36, 37, 38, 39, 40, 41, 42, 43, 44, 49, 50, 51, 52, 53, 54, 55, 56, 57, 58, 59, 60, 61, 62, 63, 64, 65, 66, 67, 68, 69, 70] (by decide +kernel) (by decide +kernel)
set_option maxRecDepth 20000 in
theorem gX5_set_X5_recordedRoad : GoodIn wsX5_set (wsV RX5 48 RX5 yX5_recordedRoad wsX5_recordedRoad) := goodIn_app (goodIn_of _ (by decide +kernel)) ggX5_set_X5_recordedRoad
set_option maxRecDepth 20000 in
theorem ggX5_set_X3_changeSetting : GoodIn wsX5_set wsX3_changeSetting := goodIn_r _ [48, 32, 58, 59, 60, 61, 62, 63, 64, 65, 66, 67] (by decide +kernel) (by decide +kernel)
set_option maxRecDepth 20000 in
theorem gX5_set_X3_changeSetting : GoodIn wsX5_set (wsV RX5 76 RX3 yX3_changeSetting wsX3_changeSetting) := goodIn_app (goodIn_of _ (by decide +kernel)) ggX5_set_X3_changeSetting
theorem dX5_set_0 : decode cX5_set 0 = .ok (.iload_n 1, 1) := by decide +kernel
theorem dX5_set_1 : decode cX5_set 1 = .ok (.iconst 0, 1) := by decide +kernel
theorem dX5_set_2 : decode cX5_set 2 = .ok (.iconst 1, 1) := by decide +kernel
theorem dX5_set_3 : decode cX5_set 3 = .ok (.invokestatic 73, 3) := by decide +kernel
theorem dX5_set_6 : decode cX5_set 6 = .ok (.ifCond .ne 5, 3) := by decide +kernel
theorem dX5_set_9 : decode cX5_set 9 = .ok (.iconst (-1), 1) := by decide +kernel
theorem dX5_set_10 : decode cX5_set 10 = .ok (.ireturn, 1) := by decide +kernel
theorem dX5_set_11 : decode cX5_set 11 = .ok (.iload_n 1, 1) := by decide +kernel
theorem dX5_set_12 : decode cX5_set 12 = .ok (.ifCond .ne 8, 3) := by decide +kernel
theorem dX5_set_15 : decode cX5_set 15 = .ok (.bipush 100, 2) := by decide +kernel
theorem dX5_set_17 : decode cX5_set 17 = .ok (.goto 5, 3) := by decide +kernel
theorem dX5_set_20 : decode cX5_set 20 = .ok (.bipush 40, 2) := by decide +kernel
theorem dX5_set_22 : decode cX5_set 22 = .ok (.istore_n 3, 1) := by decide +kernel
theorem dX5_set_23 : decode cX5_set 23 = .ok (.iload_n 2, 1) := by decide +kernel
theorem dX5_set_24 : decode cX5_set 24 = .ok (.iconst 1, 1) := by decide +kernel
theorem dX5_set_25 : decode cX5_set 25 = .ok (.iload_n 3, 1) := by decide +kernel
theorem dX5_set_26 : decode cX5_set 26 = .ok (.invokestatic 73, 3) := by decide +kernel
theorem dX5_set_29 : decode cX5_set 29 = .ok (.ifCond .ne 6, 3) := by decide +kernel
theorem dX5_set_32 : decode cX5_set 32 = .ok (.bipush (-2), 2) := by decide +kernel
theorem dX5_set_34 : decode cX5_set 34 = .ok (.ireturn, 1) := by decide +kernel
theorem dX5_set_35 : decode cX5_set 35 = .ok (.aload_n 0, 1) := by decide +kernel
theorem dX5_set_36 : decode cX5_set 36 = .ok (.invokevirtual 48, 3) := by decide +kernel
theorem dX5_set_39 : decode cX5_set 39 = .ok (.iload_n 1, 1) := by decide +kernel
theorem dX5_set_40 : decode cX5_set 40 = .ok (.iload_n 2, 1) := by decide +kernel
theorem dX5_set_41 : decode cX5_set 41 = .ok (.invokevirtual 76, 3) := by decide +kernel
theorem dX5_set_44 : decode cX5_set 44 = .ok (.ireturn, 1) := by decide +kernel
set_option maxRecDepth 20000 in
theorem ggX5_traffic_X5_isWithin : GoodIn wsX5_traffic wsX5_isWithin := goodIn_r _ [4] (by decide +kernel) (by decide +kernel)
set_option maxRecDepth 20000 in
theorem gX5_traffic_X5_isWithin : GoodIn wsX5_traffic (va_wsS RX5 73 yX5_isWithin wsX5_isWithin) := goodIn_app (goodIn_of _ (by decide +kernel)) ggX5_traffic_X5_isWithin
set_option maxRecDepth 20000 in
theorem ggX5_traffic_X5_recordedRoad : GoodIn wsX5_traffic wsX5_recordedRoad := goodIn_r _ [8, 9, 10, 11, 12, 13, 14, 15, 16, 17, 18, 19, 20, 21, 22, 23, 24, 25, 26, 27, 28, 29, 30, 31, 32, 33, 34, 35, 36, 37, 38, 39, 40, 41, 42, 43, 44, 49, 50, 51, 52, 53, 54, 55, 56, 57, 58, 59, 60, 61, 62, 63, 64, 65, 66, 67, 68, 69, 70] (by decide +kernel) (by decide +kernel)
set_option maxRecDepth 20000 in
theorem gX5_traffic_X5_recordedRoad : GoodIn wsX5_traffic (wsV RX5 48 RX5 yX5_recordedRoad wsX5_recordedRoad) := goodIn_app (goodIn_of _ (by decide +kernel)) ggX5_traffic_X5_recordedRoad
set_option maxRecDepth 20000 in
theorem ggX5_traffic_X3_changeTraffic : GoodIn wsX5_traffic wsX3_changeTraffic := goodIn_r _ [48, 27, 58, 59, 60, 61, 62, 63, 64, 65, 66, 67] (by decide +kernel) (by decide +kernel)
set_option maxRecDepth 20000 in
theorem gX5_traffic_X3_changeTraffic : GoodIn wsX5_traffic (wsV RX5 79 RX3 yX3_changeTraffic wsX3_changeTraffic) := goodIn_app (goodIn_of _ (by decide +kernel)) ggX5_traffic_X3_changeTraffic
theorem dX5_traffic_0 : decode cX5_traffic 0 = .ok (.iload_n 1, 1) := by decide +kernel
theorem dX5_traffic_1 : decode cX5_traffic 1 = .ok (.iconst 0, 1) := by decide +kernel
theorem dX5_traffic_2 : decode cX5_traffic 2 = .ok (.iconst 2, 1) := by decide +kernel
theorem dX5_traffic_3 : decode cX5_traffic 3 = .ok (.invokestatic 73, 3) := by decide +kernel
theorem dX5_traffic_6 : decode cX5_traffic 6 = .ok (.ifCond .ne 5, 3) := by decide +kernel
theorem dX5_traffic_9 : decode cX5_traffic 9 = .ok (.iconst (-1), 1) := by decide +kernel
theorem dX5_traffic_10 : decode cX5_traffic 10 = .ok (.ireturn, 1) := by decide +kernel
theorem dX5_traffic_11 : decode cX5_traffic 11 = .ok (.iload_n 2, 1) := by decide +kernel
theorem dX5_traffic_12 : decode cX5_traffic 12 = .ok (.iconst 0, 1) := by decide +kernel
theorem dX5_traffic_13 : decode cX5_traffic 13 = .ok (.bipush 20, 2) := by decide +kernel
theorem dX5_traffic_15 : decode cX5_traffic 15 = .ok (.invokestatic 73, 3) := by decide +kernel
theorem dX5_traffic_18 : decode cX5_traffic 18 = .ok (.ifCond .ne 6, 3) := by decide +kernel
theorem dX5_traffic_21 : decode cX5_traffic 21 = .ok (.bipush (-2), 2) := by decide +kernel
theorem dX5_traffic_23 : decode cX5_traffic 23 = .ok (.ireturn, 1) := by decide +kernel
theorem dX5_traffic_24 : decode cX5_traffic 24 = .ok (.aload_n 0, 1) := by decide +kernel
theorem dX5_traffic_25 : decode cX5_traffic 25 = .ok (.invokevirtual 48, 3) := by decide +kernel
theorem dX5_traffic_28 : decode cX5_traffic 28 = .ok (.iload_n 1, 1) := by decide +kernel
theorem dX5_traffic_29 : decode cX5_traffic 29 = .ok (.iload_n 2, 1) := by decide +kernel
theorem dX5_traffic_30 : decode cX5_traffic 30 = .ok (.invokevirtual 79, 3) := by decide +kernel
theorem dX5_traffic_33 : decode cX5_traffic 33 = .ok (.ireturn, 1) := by decide +kernel
set_option maxRecDepth 20000 in
theorem ggX5_bring_X5_isWithin : GoodIn wsX5_bring wsX5_isWithin := goodIn_r _ [5] (by decide +kernel) (by decide +kernel)
set_option maxRecDepth 20000 in
theorem gX5_bring_X5_isWithin : GoodIn wsX5_bring (va_wsS RX5 73 yX5_isWithin wsX5_isWithin) := goodIn_app (goodIn_of _ (by decide +kernel)) ggX5_bring_X5_isWithin
set_option maxRecDepth 20000 in
theorem ggX5_bring_X5_recordedRoad : GoodIn wsX5_bring wsX5_recordedRoad := goodIn_r _ [9, 10, 1, 11, 12, 13, 14, 15, 16, 17, 18, 19, 20, 21, 22, 23, 24, 25, 26, 27, 28, 29, 30, 31, 32, 33, 34, 35, 36, 37, 38, 39, 40, 41, 42, 43, 44, 49, 50, 51, 52, 53, 54, 65, 66, 67, 55, 56, 57, 58, 59, 60, 61, 62, 63, 64, 68, 69, 70] (by decide +kernel) (by decide +kernel)
set_option maxRecDepth 20000 in
theorem gX5_bring_X5_recordedRoad : GoodIn wsX5_bring (wsV RX5 48 RX5 yX5_recordedRoad wsX5_recordedRoad) := goodIn_app (goodIn_of _ (by decide +kernel)) ggX5_bring_X5_recordedRoad
set_option maxRecDepth 20000 in
theorem ggX5_bring_X3_addCans : GoodIn wsX5_bring wsX3_addCans := goodIn_r _ [48, 33, 55, 56, 57, 58, 59, 60, 61, 62, 63, 64] (by decide +kernel) (by decide +kernel)
set_option maxRecDepth 20000 in
theorem gX5_bring_X3_addCans : GoodIn wsX5_bring (wsV RX5 86 RX3 yX3_addCans wsX3_addCans) := goodIn_app (goodIn_of _ (by decide +kernel)) ggX5_bring_X3_addCans
theorem dX5_bring_0 : decode cX5_bring 0 = .ok (.iload_n 1, 1) := by decide +kernel
theorem dX5_bring_1 : decode cX5_bring 1 = .ok (.iconst 1, 1) := by decide +kernel
theorem dX5_bring_2 : decode cX5_bring 2 = .ok (.bipush 99, 2) := by decide +kernel
theorem dX5_bring_4 : decode cX5_bring 4 = .ok (.invokestatic 73, 3) := by decide +kernel
theorem dX5_bring_7 : decode cX5_bring 7 = .ok (.ifCond .ne 6, 3) := by decide +kernel
theorem dX5_bring_10 : decode cX5_bring 10 = .ok (.bipush (-2), 2) := by decide +kernel
theorem dX5_bring_12 : decode cX5_bring 12 = .ok (.ireturn, 1) := by decide +kernel
theorem dX5_bring_13 : decode cX5_bring 13 = .ok (.aload_n 0, 1) := by decide +kernel
theorem dX5_bring_14 : decode cX5_bring 14 = .ok (.getfield 10, 3) := by decide +kernel
theorem dX5_bring_17 : decode cX5_bring 17 = .ok (.getfield 82, 3) := by decide +kernel
theorem dX5_bring_20 : decode cX5_bring 20 = .ok (.iload_n 1, 1) := by decide +kernel
theorem dX5_bring_21 : decode cX5_bring 21 = .ok (.iadd, 1) := by decide +kernel
theorem dX5_bring_22 : decode cX5_bring 22 = .ok (.bipush 99, 2) := by decide +kernel
theorem dX5_bring_24 : decode cX5_bring 24 = .ok (.if_icmp .le 6, 3) := by decide +kernel
theorem dX5_bring_27 : decode cX5_bring 27 = .ok (.bipush (-4), 2) := by decide +kernel
theorem dX5_bring_29 : decode cX5_bring 29 = .ok (.ireturn, 1) := by decide +kernel
theorem dX5_bring_30 : decode cX5_bring 30 = .ok (.aload_n 0, 1) := by decide +kernel
theorem dX5_bring_31 : decode cX5_bring 31 = .ok (.invokevirtual 48, 3) := by decide +kernel
theorem dX5_bring_34 : decode cX5_bring 34 = .ok (.iload_n 1, 1) := by decide +kernel
theorem dX5_bring_35 : decode cX5_bring 35 = .ok (.invokevirtual 86, 3) := by decide +kernel
theorem dX5_bring_38 : decode cX5_bring 38 = .ok (.ireturn, 1) := by decide +kernel
set_option maxRecDepth 20000 in
theorem ggX5_pass_X5_isWithin : GoodIn wsX5_pass wsX5_isWithin := goodIn_r _ [4] (by decide +kernel) (by decide +kernel)
set_option maxRecDepth 20000 in
theorem gX5_pass_X5_isWithin : GoodIn wsX5_pass (va_wsS RX5 73 yX5_isWithin wsX5_isWithin) := goodIn_app (goodIn_of _ (by decide +kernel)) ggX5_pass_X5_isWithin
set_option maxRecDepth 20000 in
theorem ggX5_pass_X5_recordedRoad : GoodIn wsX5_pass wsX5_recordedRoad := goodIn_r _ [8, 9, 10, 11, 12, 13, 14, 15, 16, 17, 18, 19, 20, 21, 22, 23, 24, 25, 26, 27, 28, 29, 30, 31, 32, 33, 34, 35, 36, 37, 38, 39, 40, 41, 42, 43, 44, 79, 80, 81, 82, 83, 84, 85, 86, 87, 88, 89, 90, 91, 92, 93, 94, 95, 96, 97, 98, 99, 100] (by decide +kernel) (by decide +kernel)
set_option maxRecDepth 20000 in
theorem gX5_pass_X5_recordedRoad : GoodIn wsX5_pass (wsV RX5 48 RX5 yX5_recordedRoad wsX5_recordedRoad) := goodIn_app (goodIn_of _ (by decide +kernel)) ggX5_pass_X5_recordedRoad
set_option maxRecDepth 20000 in
theorem ggX5_pass_X3_passDays : GoodIn wsX5_pass wsX3_passDays := goodIn_r _ [48, 34, 37, 49, 50, 51, 22, 52, 25, 24, 27, 26, 53, 54, 55, 56, 57, 58, 59, 60, 32, 61, 62, 63, 41, 64, 43, 65, 66, 67, 68, 44, 69, 70, 71, 72, 73, 74, 75, 76, 77, 3, 78, 88, 89, 90, 91, 92, 93, 94, 95, 96, 97, 98, 99, 100] (by decide +kernel) (by decide +kernel)
set_option maxRecDepth 20000 in
theorem gX5_pass_X3_passDays : GoodIn wsX5_pass (wsV RX5 90 RX3 yX3_passDays wsX3_passDays) := goodIn_app (goodIn_of _ (by decide +kernel)) ggX5_pass_X3_passDays
theorem dX5_pass_0 : decode cX5_pass 0 = .ok (.iload_n 1, 1) := by decide +kernel
theorem dX5_pass_1 : decode cX5_pass 1 = .ok (.iconst 1, 1) := by decide +kernel
theorem dX5_pass_2 : decode cX5_pass 2 = .ok (.bipush 30, 2) := by decide +kernel
theorem dX5_pass_4 : decode cX5_pass 4 = .ok (.invokestatic 73, 3) := by decide +kernel
theorem dX5_pass_7 : decode cX5_pass 7 = .ok (.ifCond .ne 6, 3) := by decide +kernel
theorem dX5_pass_10 : decode cX5_pass 10 = .ok (.bipush (-2), 2) := by decide +kernel
theorem dX5_pass_12 : decode cX5_pass 12 = .ok (.ireturn, 1) := by decide +kernel
theorem dX5_pass_13 : decode cX5_pass 13 = .ok (.aload_n 0, 1) := by decide +kernel
theorem dX5_pass_14 : decode cX5_pass 14 = .ok (.invokevirtual 48, 3) := by decide +kernel
theorem dX5_pass_17 : decode cX5_pass 17 = .ok (.iload_n 1, 1) := by decide +kernel
theorem dX5_pass_18 : decode cX5_pass 18 = .ok (.invokevirtual 90, 3) := by decide +kernel
theorem dX5_pass_21 : decode cX5_pass 21 = .ok (.ireturn, 1) := by decide +kernel
set_option maxRecDepth 20000 in
theorem ggX5_night_X5_nightError : GoodIn wsX5_night wsX5_nightError := goodIn_r _ [5, 6, 7, 8, 4, 9, 77, 78, 79, 80, 81, 82, 83, 84, 85, 86, 87, 88, 89, 90, 91, 92] (by decide +kernel) (by decide +kernel)
set_option maxRecDepth 20000 in
theorem gX5_night_X5_nightError : GoodIn wsX5_night (wsV RX5 93 RX5 yX5_nightError wsX5_nightError) := goodIn_app (goodIn_of _ (by decide +kernel)) ggX5_night_X5_nightError
set_option maxRecDepth 20000 in
theorem ggX5_night_X5_recordedRoad : GoodIn wsX5_night wsX5_recordedRoad := goodIn_r _ [13, 14, 6, 15, 16, 17, 18, 19, 20, 21, 22, 23, 24, 25, 26, 27, 28, 29, 30, 31, 32, 33, 34, 35, 36, 37, 38, 39, 40, 41, 42, 43, 44, 45, 46, 47, 48, 77, 78, 79, 80, 81, 82, 93, 94, 95, 83, 84, 85, 86, 87, 88, 89, 90, 91, 92, 96, 97, 98] (by decide +kernel) (by decide +kernel)
set_option maxRecDepth 20000 in
theorem gX5_night_X5_recordedRoad : GoodIn wsX5_night (wsV RX5 48 RX5 yX5_recordedRoad wsX5_recordedRoad) := goodIn_app (goodIn_of _ (by decide +kernel)) ggX5_night_X5_recordedRoad
set_option maxRecDepth 20000 in
theorem ggX5_night_X3_workNight : GoodIn wsX5_night wsX3_workNight := goodIn_r _ [52, 53, 54, 55, 56, 37, 39, 40, 57, 58, 59, 26, 60, 36, 61, 62, 63, 64, 65, 66, 67, 29, 28, 30, 68, 69, 70, 45, 71, 72, 47, 73, 74, 75, 76, 83, 84, 85, 86, 87, 88, 89, 90, 91, 92, 96, 97, 98] (by decide +kernel) (by decide +kernel)
set_option maxRecDepth 20000 in
theorem gX5_night_X3_workNight : GoodIn wsX5_night (wsV RX5 96 RX3 yX3_workNight wsX3_workNight) := goodIn_app (goodIn_of _ (by decide +kernel)) ggX5_night_X3_workNight
theorem dX5_night_0 : decode cX5_night 0 = .ok (.aload_n 0, 1) := by decide +kernel
theorem dX5_night_1 : decode cX5_night 1 = .ok (.iload_n 1, 1) := by decide +kernel
theorem dX5_night_2 : decode cX5_night 2 = .ok (.iload_n 2, 1) := by decide +kernel
theorem dX5_night_3 : decode cX5_night 3 = .ok (.invokevirtual 93, 3) := by decide +kernel
theorem dX5_night_6 : decode cX5_night 6 = .ok (.istore_n 3, 1) := by decide +kernel
theorem dX5_night_7 : decode cX5_night 7 = .ok (.iload_n 3, 1) := by decide +kernel
theorem dX5_night_8 : decode cX5_night 8 = .ok (.ifCond .eq 7, 3) := by decide +kernel
theorem dX5_night_11 : decode cX5_night 11 = .ok (.iload_n 3, 1) := by decide +kernel
theorem dX5_night_12 : decode cX5_night 12 = .ok (.goto 12, 3) := by decide +kernel
theorem dX5_night_15 : decode cX5_night 15 = .ok (.aload_n 0, 1) := by decide +kernel
theorem dX5_night_16 : decode cX5_night 16 = .ok (.invokevirtual 48, 3) := by decide +kernel
theorem dX5_night_19 : decode cX5_night 19 = .ok (.iload_n 1, 1) := by decide +kernel
theorem dX5_night_20 : decode cX5_night 20 = .ok (.iload_n 2, 1) := by decide +kernel
theorem dX5_night_21 : decode cX5_night 21 = .ok (.invokevirtual 96, 3) := by decide +kernel
theorem dX5_night_24 : decode cX5_night 24 = .ok (.ireturn, 1) := by decide +kernel
set_option maxRecDepth 20000 in
theorem ggX5_cell_X5_placeError : GoodIn wsX5_cell wsX5_placeError := goodIn_r _ [5, 6, 7, 4, 8, 9, 10, 11] (by decide +kernel) (by decide +kernel)
set_option maxRecDepth 20000 in
theorem gX5_cell_X5_placeError : GoodIn wsX5_cell (va_wsS RX5 55 yX5_placeError wsX5_placeError) := goodIn_app (goodIn_of _ (by decide +kernel)) ggX5_cell_X5_placeError
set_option maxRecDepth 20000 in
theorem ggX5_cell_X3_cellPart : GoodIn wsX5_cell wsX3_cellPart := goodIn_r _ [16, 17, 18, 19, 20, 21, 22, 23, 24, 25, 26, 27, 28, 29, 30, 31, 32, 15, 33, 34, 35, 4, 36, 37, 38, 39, 40, 41, 42, 43, 50, 51, 52, 53, 54, 55, 56, 57, 58, 59, 60, 61, 62] (by decide +kernel) (by decide +kernel)
set_option maxRecDepth 20000 in
theorem gX5_cell_X3_cellPart : GoodIn wsX5_cell (wsV RX5 99 RX3 yX3_cellPart wsX3_cellPart) := goodIn_app (goodIn_of _ (by decide +kernel)) ggX5_cell_X3_cellPart
theorem dX5_cell_0 : decode cX5_cell 0 = .ok (.iload_n 1, 1) := by decide +kernel
theorem dX5_cell_1 : decode cX5_cell 1 = .ok (.iconst 3, 1) := by decide +kernel
theorem dX5_cell_2 : decode cX5_cell 2 = .ok (.iload_n 2, 1) := by decide +kernel
theorem dX5_cell_3 : decode cX5_cell 3 = .ok (.iload_n 3, 1) := by decide +kernel
theorem dX5_cell_4 : decode cX5_cell 4 = .ok (.bipush 7, 2) := by decide +kernel
theorem dX5_cell_6 : decode cX5_cell 6 = .ok (.invokestatic 55, 3) := by decide +kernel
theorem dX5_cell_9 : decode cX5_cell 9 = .ok (.istore 4, 2) := by decide +kernel
theorem dX5_cell_11 : decode cX5_cell 11 = .ok (.iload 4, 2) := by decide +kernel
theorem dX5_cell_13 : decode cX5_cell 13 = .ok (.ifCond .eq 8, 3) := by decide +kernel
theorem dX5_cell_16 : decode cX5_cell 16 = .ok (.iload 4, 2) := by decide +kernel
theorem dX5_cell_18 : decode cX5_cell 18 = .ok (.goto 13, 3) := by decide +kernel
theorem dX5_cell_21 : decode cX5_cell 21 = .ok (.aload_n 0, 1) := by decide +kernel
theorem dX5_cell_22 : decode cX5_cell 22 = .ok (.getfield 10, 3) := by decide +kernel
theorem dX5_cell_25 : decode cX5_cell 25 = .ok (.iload_n 1, 1) := by decide +kernel
theorem dX5_cell_26 : decode cX5_cell 26 = .ok (.iload_n 2, 1) := by decide +kernel
theorem dX5_cell_27 : decode cX5_cell 27 = .ok (.iload_n 3, 1) := by decide +kernel
theorem dX5_cell_28 : decode cX5_cell 28 = .ok (.invokevirtual 99, 3) := by decide +kernel
theorem dX5_cell_31 : decode cX5_cell 31 = .ok (.ireturn, 1) := by decide +kernel
set_option maxRecDepth 20000 in
theorem ggX5_line_X5_placeError : GoodIn wsX5_line wsX5_placeError := goodIn_r _ [5, 6, 7, 4, 8, 9, 10, 11] (by decide +kernel) (by decide +kernel)
set_option maxRecDepth 20000 in
theorem gX5_line_X5_placeError : GoodIn wsX5_line (va_wsS RX5 55 yX5_placeError wsX5_placeError) := goodIn_app (goodIn_of _ (by decide +kernel)) ggX5_line_X5_placeError
set_option maxRecDepth 20000 in
theorem ggX5_line_X3_linePart : GoodIn wsX5_line wsX3_linePart := goodIn_r _ [16, 17, 18, 19, 20, 15, 21, 22, 23, 24, 25, 26, 27, 28, 29, 30, 31, 32, 39, 40, 41, 42, 43, 44, 45, 46, 47, 48, 49, 50, 51] (by decide +kernel) (by decide +kernel)
set_option maxRecDepth 20000 in
theorem gX5_line_X3_linePart : GoodIn wsX5_line (wsV RX5 102 RX3 yX3_linePart wsX3_linePart) := goodIn_app (goodIn_of _ (by decide +kernel)) ggX5_line_X3_linePart
theorem dX5_line_0 : decode cX5_line 0 = .ok (.iload_n 1, 1) := by decide +kernel
theorem dX5_line_1 : decode cX5_line 1 = .ok (.iconst 2, 1) := by decide +kernel
theorem dX5_line_2 : decode cX5_line 2 = .ok (.iload_n 2, 1) := by decide +kernel
theorem dX5_line_3 : decode cX5_line 3 = .ok (.iload_n 3, 1) := by decide +kernel
theorem dX5_line_4 : decode cX5_line 4 = .ok (.iconst 2, 1) := by decide +kernel
theorem dX5_line_5 : decode cX5_line 5 = .ok (.invokestatic 55, 3) := by decide +kernel
theorem dX5_line_8 : decode cX5_line 8 = .ok (.istore 4, 2) := by decide +kernel
theorem dX5_line_10 : decode cX5_line 10 = .ok (.iload 4, 2) := by decide +kernel
theorem dX5_line_12 : decode cX5_line 12 = .ok (.ifCond .eq 8, 3) := by decide +kernel
theorem dX5_line_15 : decode cX5_line 15 = .ok (.iload 4, 2) := by decide +kernel
theorem dX5_line_17 : decode cX5_line 17 = .ok (.goto 13, 3) := by decide +kernel
theorem dX5_line_20 : decode cX5_line 20 = .ok (.aload_n 0, 1) := by decide +kernel
theorem dX5_line_21 : decode cX5_line 21 = .ok (.getfield 10, 3) := by decide +kernel
theorem dX5_line_24 : decode cX5_line 24 = .ok (.iload_n 1, 1) := by decide +kernel
theorem dX5_line_25 : decode cX5_line 25 = .ok (.iload_n 2, 1) := by decide +kernel
theorem dX5_line_26 : decode cX5_line 26 = .ok (.iload_n 3, 1) := by decide +kernel
theorem dX5_line_27 : decode cX5_line 27 = .ok (.invokevirtual 102, 3) := by decide +kernel
theorem dX5_line_30 : decode cX5_line 30 = .ok (.ireturn, 1) := by decide +kernel
set_option maxRecDepth 20000 in
theorem ggX5_mayChange_X5_isPlace : GoodIn wsX5_mayChange wsX5_isPlace := goodIn_r _ [9, 10, 11, 8, 12] (by decide +kernel) (by decide +kernel)

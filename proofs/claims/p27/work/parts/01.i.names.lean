theorem dX0_driveAlong_17 : decode cX0_driveAlong 17 = .ok (.iload_n 3, 1) := by decide +kernel
theorem dX0_driveAlong_18 : decode cX0_driveAlong 18 = .ok (.if_icmp .ne 7, 3) := by decide +kernel
theorem dX0_driveAlong_21 : decode cX0_driveAlong 21 = .ok (.iconst 0, 1) := by decide +kernel
theorem dX0_driveAlong_22 : decode cX0_driveAlong 22 = .ok (.goto 6, 3) := by decide +kernel
theorem dX0_driveAlong_25 : decode cX0_driveAlong 25 = .ok (.sipush 1000, 3) := by decide +kernel
theorem dX0_driveAlong_28 : decode cX0_driveAlong 28 = .ok (.iastore, 1) := by decide +kernel
theorem dX0_driveAlong_29 : decode cX0_driveAlong 29 = .ok (.iinc 4 1, 3) := by decide +kernel
theorem dX0_driveAlong_32 : decode cX0_driveAlong 32 = .ok (.goto (-29), 3) := by decide +kernel
theorem dX0_driveAlong_35 : decode cX0_driveAlong 35 = .ok (.iconst 0, 1) := by decide +kernel
theorem dX0_driveAlong_36 : decode cX0_driveAlong 36 = .ok (.istore 4, 2) := by decide +kernel
theorem dX0_driveAlong_38 : decode cX0_driveAlong 38 = .ok (.iload 4, 2) := by decide +kernel
theorem dX0_driveAlong_40 : decode cX0_driveAlong 40 = .ok (.bipush 16, 2) := by decide +kernel
theorem dX0_driveAlong_42 : decode cX0_driveAlong 42 = .ok (.if_icmp .ge 41, 3) := by decide +kernel
theorem dX0_driveAlong_45 : decode cX0_driveAlong 45 = .ok (.iload_n 2, 1) := by decide +kernel
theorem dX0_driveAlong_46 : decode cX0_driveAlong 46 = .ok (.ifCond .ne 8, 3) := by decide +kernel
theorem dX0_driveAlong_49 : decode cX0_driveAlong 49 = .ok (.iload 4, 2) := by decide +kernel
theorem dX0_driveAlong_51 : decode cX0_driveAlong 51 = .ok (.goto 8, 3) := by decide +kernel
theorem dX0_driveAlong_54 : decode cX0_driveAlong 54 = .ok (.bipush 15, 2) := by decide +kernel
theorem dX0_driveAlong_56 : decode cX0_driveAlong 56 = .ok (.iload 4, 2) := by decide +kernel
theorem dX0_driveAlong_58 : decode cX0_driveAlong 58 = .ok (.isub, 1) := by decide +kernel
theorem dX0_driveAlong_59 : decode cX0_driveAlong 59 = .ok (.istore 5, 2) := by decide +kernel
theorem dX0_driveAlong_61 : decode cX0_driveAlong 61 = .ok (.aload_n 0, 1) := by decide +kernel
theorem dX0_driveAlong_62 : decode cX0_driveAlong 62 = .ok (.aload_n 1, 1) := by decide +kernel
theorem dX0_driveAlong_63 : decode cX0_driveAlong 63 = .ok (.iload 5, 2) := by decide +kernel
theorem dX0_driveAlong_65 : decode cX0_driveAlong 65 = .ok (.iload_n 2, 1) := by decide +kernel
theorem dX0_driveAlong_66 : decode cX0_driveAlong 66 = .ok (.invokevirtual 15, 3) := by decide +kernel
theorem dX0_driveAlong_69 : decode cX0_driveAlong 69 = .ok (.aload_n 0, 1) := by decide +kernel
theorem dX0_driveAlong_70 : decode cX0_driveAlong 70 = .ok (.aload_n 1, 1) := by decide +kernel
theorem dX0_driveAlong_71 : decode cX0_driveAlong 71 = .ok (.iload 5, 2) := by decide +kernel
theorem dX0_driveAlong_73 : decode cX0_driveAlong 73 = .ok (.iload_n 2, 1) := by decide +kernel
theorem dX0_driveAlong_74 : decode cX0_driveAlong 74 = .ok (.invokevirtual 19, 3) := by decide +kernel
theorem dX0_driveAlong_77 : decode cX0_driveAlong 77 = .ok (.iinc 4 1, 3) := by decide +kernel
theorem dX0_driveAlong_80 : decode cX0_driveAlong 80 = .ok (.goto (-42), 3) := by decide +kernel
theorem dX0_driveAlong_83 : decode cX0_driveAlong 83 = .ok (.sipush 1000, 3) := by decide +kernel
theorem dX0_driveAlong_86 : decode cX0_driveAlong 86 = .ok (.istore 4, 2) := by decide +kernel
theorem dX0_driveAlong_88 : decode cX0_driveAlong 88 = .ok (.iconst 0, 1) := by decide +kernel
theorem dX0_driveAlong_89 : decode cX0_driveAlong 89 = .ok (.istore 5, 2) := by decide +kernel
theorem dX0_driveAlong_91 : decode cX0_driveAlong 91 = .ok (.iload 5, 2) := by decide +kernel
theorem dX0_driveAlong_93 : decode cX0_driveAlong 93 = .ok (.iconst 3, 1) := by decide +kernel
theorem dX0_driveAlong_94 : decode cX0_driveAlong 94 = .ok (.if_icmp .ge 23, 3) := by decide +kernel
theorem dX0_driveAlong_97 : decode cX0_driveAlong 97 = .ok (.iload 4, 2) := by decide +kernel
theorem dX0_driveAlong_99 : decode cX0_driveAlong 99 = .ok (.aload_n 0, 1) := by decide +kernel
theorem dX0_driveAlong_100 : decode cX0_driveAlong 100 = .ok (.getfield 9, 3) := by decide +kernel
theorem dX0_driveAlong_103 : decode cX0_driveAlong 103 = .ok (.iload 5, 2) := by decide +kernel
theorem dX0_driveAlong_105 : decode cX0_driveAlong 105 = .ok (.iaload, 1) := by decide +kernel
theorem dX0_driveAlong_106 : decode cX0_driveAlong 106 = .ok (.invokestatic 22, 3) := by decide +kernel
theorem dX0_driveAlong_109 : decode cX0_driveAlong 109 = .ok (.istore 4, 2) := by decide +kernel
theorem dX0_driveAlong_111 : decode cX0_driveAlong 111 = .ok (.iinc 5 1, 3) := by decide +kernel
theorem dX0_driveAlong_114 : decode cX0_driveAlong 114 = .ok (.goto (-23), 3) := by decide +kernel
theorem dX0_driveAlong_117 : decode cX0_driveAlong 117 = .ok (.iload 4, 2) := by decide +kernel
theorem dX0_driveAlong_119 : decode cX0_driveAlong 119 = .ok (.sipush 1000, 3) := by decide +kernel
theorem dX0_driveAlong_122 : decode cX0_driveAlong 122 = .ok (.if_icmp .ne 8, 3) := by decide +kernel
theorem dX0_driveAlong_125 : decode cX0_driveAlong 125 = .ok (.bipush (-6), 2) := by decide +kernel
theorem dX0_driveAlong_127 : decode cX0_driveAlong 127 = .ok (.goto 5, 3) := by decide +kernel
theorem dX0_driveAlong_130 : decode cX0_driveAlong 130 = .ok (.iload 4, 2) := by decide +kernel
theorem dX0_driveAlong_132 : decode cX0_driveAlong 132 = .ok (.ireturn, 1) := by decide +kernel
set_option maxRecDepth 20000 in
theorem ggX0_enterMile_X3_isFree : GoodIn wsX0_enterMile wsX3_isFree := goodIn_r _ [6, 7, 8, 9, 10, 11, 12, 13, 14, 15, 16, 5, 17, 19, 20, 21, 22, 23, 24, 25, 26, 27, 28, 29, 30, 31] (by decide +kernel) (by decide +kernel)
set_option maxRecDepth 20000 in
theorem gX0_enterMile_X3_isFree : GoodIn wsX0_enterMile (wsV RX0 28 RX3 yX3_isFree wsX3_isFree) := goodIn_app (goodIn_of _ (by decide +kernel)) ggX0_enterMile_X3_isFree
theorem dX0_enterMile_0 : decode cX0_enterMile 0 = .ok (.iconst 0, 1) := by decide +kernel
theorem dX0_enterMile_1 : decode cX0_enterMile 1 = .ok (.istore 4, 2) := by decide +kernel
theorem dX0_enterMile_3 : decode cX0_enterMile 3 = .ok (.iload 4, 2) := by decide +kernel
theorem dX0_enterMile_5 : decode cX0_enterMile 5 = .ok (.iconst 3, 1) := by decide +kernel
theorem dX0_enterMile_6 : decode cX0_enterMile 6 = .ok (.if_icmp .ge 30, 3) := by decide +kernel
theorem dX0_enterMile_9 : decode cX0_enterMile 9 = .ok (.aload_n 1, 1) := by decide +kernel
theorem dX0_enterMile_10 : decode cX0_enterMile 10 = .ok (.iload 4, 2) := by decide +kernel
theorem dX0_enterMile_12 : decode cX0_enterMile 12 = .ok (.iload_n 2, 1) := by decide +kernel
theorem dX0_enterMile_13 : decode cX0_enterMile 13 = .ok (.iload_n 3, 1) := by decide +kernel
theorem dX0_enterMile_14 : decode cX0_enterMile 14 = .ok (.invokevirtual 28, 3) := by decide +kernel
theorem dX0_enterMile_17 : decode cX0_enterMile 17 = .ok (.ifCond .ne 13, 3) := by decide +kernel
theorem dX0_enterMile_20 : decode cX0_enterMile 20 = .ok (.aload_n 0, 1) := by decide +kernel
theorem dX0_enterMile_21 : decode cX0_enterMile 21 = .ok (.getfield 9, 3) := by decide +kernel
theorem dX0_enterMile_24 : decode cX0_enterMile 24 = .ok (.iload 4, 2) := by decide +kernel
theorem dX0_enterMile_26 : decode cX0_enterMile 26 = .ok (.sipush 1000, 3) := by decide +kernel
theorem dX0_enterMile_29 : decode cX0_enterMile 29 = .ok (.iastore, 1) := by decide +kernel
theorem dX0_enterMile_30 : decode cX0_enterMile 30 = .ok (.iinc 4 1, 3) := by decide +kernel
theorem dX0_enterMile_33 : decode cX0_enterMile 33 = .ok (.goto (-30), 3) := by decide +kernel
theorem dX0_enterMile_36 : decode cX0_enterMile 36 = .ok (.return_, 1) := by decide +kernel
set_option maxRecDepth 20000 in
theorem ggX0_changeLanes_X0_changeLane : GoodIn wsX0_changeLanes wsX0_changeLane := goodIn_r _ [5, 6, 7, 8, 9, 10, 11, 12, 13, 14, 15, 16, 17, 18, 19, 20, 21, 22, 23, 24, 25, 26, 27, 28, 29, 30, 31, 32, 33, 34, 35, 36, 37, 38, 39, 40, 41, 42, 43, 44, 45, 46, 47, 48, 49, 50] (by decide +kernel) (by decide +kernel)
set_option maxRecDepth 20000 in
theorem gX0_changeLanes_X0_changeLane : GoodIn wsX0_changeLanes (wsV RX0 34 RX0 yX0_changeLane wsX0_changeLane) := goodIn_app (goodIn_of _ (by decide +kernel)) ggX0_changeLanes_X0_changeLane
theorem dX0_changeLanes_0 : decode cX0_changeLanes 0 = .ok (.iconst 0, 1) := by decide +kernel
theorem dX0_changeLanes_1 : decode cX0_changeLanes 1 = .ok (.istore 4, 2) := by decide +kernel
theorem dX0_changeLanes_3 : decode cX0_changeLanes 3 = .ok (.iload 4, 2) := by decide +kernel
theorem dX0_changeLanes_5 : decode cX0_changeLanes 5 = .ok (.iconst 1, 1) := by decide +kernel
theorem dX0_changeLanes_6 : decode cX0_changeLanes 6 = .ok (.iadd, 1) := by decide +kernel
theorem dX0_changeLanes_7 : decode cX0_changeLanes 7 = .ok (.iconst 3, 1) := by decide +kernel
theorem dX0_changeLanes_8 : decode cX0_changeLanes 8 = .ok (.if_icmp .ge 22, 3) := by decide +kernel
theorem dX0_changeLanes_11 : decode cX0_changeLanes 11 = .ok (.aload_n 0, 1) := by decide +kernel
theorem dX0_changeLanes_12 : decode cX0_changeLanes 12 = .ok (.aload_n 1, 1) := by decide +kernel
theorem dX0_changeLanes_13 : decode cX0_changeLanes 13 = .ok (.iload 4, 2) := by decide +kernel
theorem dX0_changeLanes_15 : decode cX0_changeLanes 15 = .ok (.iload 4, 2) := by decide +kernel
theorem dX0_changeLanes_17 : decode cX0_changeLanes 17 = .ok (.iconst 1, 1) := by decide +kernel
theorem dX0_changeLanes_18 : decode cX0_changeLanes 18 = .ok (.iadd, 1) := by decide +kernel
theorem dX0_changeLanes_19 : decode cX0_changeLanes 19 = .ok (.iload_n 2, 1) := by decide +kernel
theorem dX0_changeLanes_20 : decode cX0_changeLanes 20 = .ok (.iload_n 3, 1) := by decide +kernel
theorem dX0_changeLanes_21 : decode cX0_changeLanes 21 = .ok (.invokevirtual 34, 3) := by decide +kernel
theorem dX0_changeLanes_24 : decode cX0_changeLanes 24 = .ok (.iinc 4 1, 3) := by decide +kernel
theorem dX0_changeLanes_27 : decode cX0_changeLanes 27 = .ok (.goto (-24), 3) := by decide +kernel
theorem dX0_changeLanes_30 : decode cX0_changeLanes 30 = .ok (.iconst 2, 1) := by decide +kernel
theorem dX0_changeLanes_31 : decode cX0_changeLanes 31 = .ok (.istore 4, 2) := by decide +kernel
theorem dX0_changeLanes_33 : decode cX0_changeLanes 33 = .ok (.iload 4, 2) := by decide +kernel
theorem dX0_changeLanes_35 : decode cX0_changeLanes 35 = .ok (.ifCond .le 22, 3) := by decide +kernel
theorem dX0_changeLanes_38 : decode cX0_changeLanes 38 = .ok (.aload_n 0, 1) := by decide +kernel
theorem dX0_changeLanes_39 : decode cX0_changeLanes 39 = .ok (.aload_n 1, 1) := by decide +kernel
theorem dX0_changeLanes_40 : decode cX0_changeLanes 40 = .ok (.iload 4, 2) := by decide +kernel
theorem dX0_changeLanes_42 : decode cX0_changeLanes 42 = .ok (.iload 4, 2) := by decide +kernel
theorem dX0_changeLanes_44 : decode cX0_changeLanes 44 = .ok (.iconst 1, 1) := by decide +kernel
theorem dX0_changeLanes_45 : decode cX0_changeLanes 45 = .ok (.isub, 1) := by decide +kernel
theorem dX0_changeLanes_46 : decode cX0_changeLanes 46 = .ok (.iload_n 2, 1) := by decide +kernel
theorem dX0_changeLanes_47 : decode cX0_changeLanes 47 = .ok (.iload_n 3, 1) := by decide +kernel
theorem dX0_changeLanes_48 : decode cX0_changeLanes 48 = .ok (.invokevirtual 34, 3) := by decide +kernel
theorem dX0_changeLanes_51 : decode cX0_changeLanes 51 = .ok (.iinc 4 (-1), 3) := by decide +kernel
theorem dX0_changeLanes_54 : decode cX0_changeLanes 54 = .ok (.goto (-21), 3) := by decide +kernel
theorem dX0_changeLanes_57 : decode cX0_changeLanes 57 = .ok (.return_, 1) := by decide +kernel
set_option maxRecDepth 20000 in
theorem ggX0_changeLane_X3_allowsChange : GoodIn wsX0_changeLane wsX3_allowsChange := goodIn_r _ [10, 11, 3, 4, 5, 12, 13, 14, 9, 15, 16, 17, 18, 19, 20, 21, 22, 23, 24, 25, 26, 27, 28, 29, 30, 31, 33, 34, 35, 36, 37, 38, 39, 40, 41, 42, 43, 44, 45] (by decide +kernel) (by decide +kernel)
set_option maxRecDepth 20000 in
theorem gX0_changeLane_X3_allowsChange : GoodIn wsX0_changeLane (wsV RX0 38 RX3 yX3_allowsChange wsX3_allowsChange) := goodIn_app (goodIn_of _ (by decide +kernel)) ggX0_changeLane_X3_allowsChange
theorem dX0_changeLane_0 : decode cX0_changeLane 0 = .ok (.aload_n 0, 1) := by decide +kernel
theorem dX0_changeLane_1 : decode cX0_changeLane 1 = .ok (.getfield 9, 3) := by decide +kernel
theorem dX0_changeLane_4 : decode cX0_changeLane 4 = .ok (.iload_n 2, 1) := by decide +kernel
theorem dX0_changeLane_5 : decode cX0_changeLane 5 = .ok (.iaload, 1) := by decide +kernel
theorem dX0_changeLane_6 : decode cX0_changeLane 6 = .ok (.sipush 1000, 3) := by decide +kernel
theorem dX0_changeLane_9 : decode cX0_changeLane 9 = .ok (.if_icmp .ge 39, 3) := by decide +kernel
theorem dX0_changeLane_12 : decode cX0_changeLane 12 = .ok (.aload_n 1, 1) := by decide +kernel
theorem dX0_changeLane_13 : decode cX0_changeLane 13 = .ok (.iload_n 2, 1) := by decide +kernel
theorem dX0_changeLane_14 : decode cX0_changeLane 14 = .ok (.iload_n 3, 1) := by decide +kernel
theorem dX0_changeLane_15 : decode cX0_changeLane 15 = .ok (.iload 4, 2) := by decide +kernel
theorem dX0_changeLane_17 : decode cX0_changeLane 17 = .ok (.iload 5, 2) := by decide +kernel
theorem dX0_changeLane_19 : decode cX0_changeLane 19 = .ok (.invokevirtual 38, 3) := by decide +kernel
theorem dX0_changeLane_22 : decode cX0_changeLane 22 = .ok (.ifCond .eq 26, 3) := by decide +kernel
theorem dX0_changeLane_25 : decode cX0_changeLane 25 = .ok (.aload_n 0, 1) := by decide +kernel
theorem dX0_changeLane_26 : decode cX0_changeLane 26 = .ok (.getfield 9, 3) := by decide +kernel
theorem dX0_changeLane_29 : decode cX0_changeLane 29 = .ok (.iload_n 3, 1) := by decide +kernel
theorem dX0_changeLane_30 : decode cX0_changeLane 30 = .ok (.aload_n 0, 1) := by decide +kernel
theorem dX0_changeLane_31 : decode cX0_changeLane 31 = .ok (.getfield 9, 3) := by decide +kernel
theorem dX0_changeLane_34 : decode cX0_changeLane 34 = .ok (.iload_n 3, 1) := by decide +kernel
theorem dX0_changeLane_35 : decode cX0_changeLane 35 = .ok (.iaload, 1) := by decide +kernel
theorem dX0_changeLane_36 : decode cX0_changeLane 36 = .ok (.aload_n 0, 1) := by decide +kernel
theorem dX0_changeLane_37 : decode cX0_changeLane 37 = .ok (.getfield 9, 3) := by decide +kernel
theorem dX0_changeLane_40 : decode cX0_changeLane 40 = .ok (.iload_n 2, 1) := by decide +kernel
theorem dX0_changeLane_41 : decode cX0_changeLane 41 = .ok (.iaload, 1) := by decide +kernel
theorem dX0_changeLane_42 : decode cX0_changeLane 42 = .ok (.iconst 1, 1) := by decide +kernel
theorem dX0_changeLane_43 : decode cX0_changeLane 43 = .ok (.iadd, 1) := by decide +kernel
theorem dX0_changeLane_44 : decode cX0_changeLane 44 = .ok (.invokestatic 22, 3) := by decide +kernel
theorem dX0_changeLane_47 : decode cX0_changeLane 47 = .ok (.iastore, 1) := by decide +kernel
theorem dX0_changeLane_48 : decode cX0_changeLane 48 = .ok (.return_, 1) := by decide +kernel
set_option maxRecDepth 20000 in
theorem ggX1_init_X3_init : GoodIn wsX1_init wsX3_init := goodIn_r _ [10, 11, 2, 3, 12, 13, 14, 15, 16, 17, 18, 19, 20, 21, 22, 23, 24, 25, 26, 27, 28, 42, 43, 44, 32, 33, 34, 35, 36, 37, 38, 39, 40, 41] (by decide +kernel) (by decide +kernel)
set_option maxRecDepth 20000 in
theorem gX1_init_X3_init : GoodIn wsX1_init (wsX3_init) := ggX1_init_X3_init
theorem dX1_init_0 : decode cX1_init 0 = .ok (.aload_n 0, 1) := by decide +kernel
theorem dX1_init_1 : decode cX1_init 1 = .ok (.invokespecial 3, 3) := by decide +kernel
theorem dX1_init_4 : decode cX1_init 4 = .ok (.aload_n 0, 1) := by decide +kernel
theorem dX1_init_5 : decode cX1_init 5 = .ok (.iconst 5, 1) := by decide +kernel
theorem dX1_init_6 : decode cX1_init 6 = .ok (.anewarray 9, 3) := by decide +kernel
theorem dX1_init_9 : decode cX1_init 9 = .ok (.putfield 11, 3) := by decide +kernel
theorem dX1_init_12 : decode cX1_init 12 = .ok (.iconst 0, 1) := by decide +kernel
theorem dX1_init_13 : decode cX1_init 13 = .ok (.istore_n 1, 1) := by decide +kernel
theorem dX1_init_14 : decode cX1_init 14 = .ok (.iload_n 1, 1) := by decide +kernel
theorem dX1_init_15 : decode cX1_init 15 = .ok (.iconst 5, 1) := by decide +kernel
theorem dX1_init_16 : decode cX1_init 16 = .ok (.if_icmp .ge 22, 3) := by decide +kernel
theorem dX1_init_19 : decode cX1_init 19 = .ok (.aload_n 0, 1) := by decide +kernel
theorem dX1_init_20 : decode cX1_init 20 = .ok (.getfield 11, 3) := by decide +kernel
theorem dX1_init_23 : decode cX1_init 23 = .ok (.iload_n 1, 1) := by decide +kernel
theorem dX1_init_24 : decode cX1_init 24 = .ok (.new 9, 3) := by decide +kernel
theorem dX1_init_27 : decode cX1_init 27 = .ok (.dup, 1) := by decide +kernel
theorem dX1_init_28 : decode cX1_init 28 = .ok (.invokespecial 17, 3) := by decide +kernel
theorem dX1_init_31 : decode cX1_init 31 = .ok (.aastore, 1) := by decide +kernel
theorem dX1_init_32 : decode cX1_init 32 = .ok (.iinc 1 1, 3) := by decide +kernel
theorem dX1_init_35 : decode cX1_init 35 = .ok (.goto (-21), 3) := by decide +kernel
theorem dX1_init_38 : decode cX1_init 38 = .ok (.return_, 1) := by decide +kernel
set_option maxRecDepth 20000 in
theorem ggX1_record_X3_copyFrom : GoodIn wsX1_record wsX3_copyFrom := goodIn_r _ [8, 9, 10, 11, 12, 13, 14, 15, 16, 17, 18, 19, 20, 21, 22, 23, 24, 25, 26, 27, 28, 29, 33, 34, 35, 36, 37, 38, 39, 40, 41, 42, 43, 44, 45] (by decide +kernel) (by decide +kernel)
set_option maxRecDepth 20000 in
theorem gX1_record_X3_copyFrom : GoodIn wsX1_record (wsV RX1 25 RX3 yX3_copyFrom wsX3_copyFrom) := goodIn_app (goodIn_of _ (by decide +kernel)) ggX1_record_X3_copyFrom
theorem dX1_record_0 : decode cX1_record 0 = .ok (.aload_n 0, 1) := by decide +kernel
theorem dX1_record_1 : decode cX1_record 1 = .ok (.getfield 11, 3) := by decide +kernel
theorem dX1_record_4 : decode cX1_record 4 = .ok (.aload_n 0, 1) := by decide +kernel
theorem dX1_record_5 : decode cX1_record 5 = .ok (.getfield 18, 3) := by decide +kernel
theorem dX1_record_8 : decode cX1_record 8 = .ok (.aload_n 0, 1) := by decide +kernel
theorem dX1_record_9 : decode cX1_record 9 = .ok (.getfield 22, 3) := by decide +kernel
theorem dX1_record_12 : decode cX1_record 12 = .ok (.iadd, 1) := by decide +kernel
theorem dX1_record_13 : decode cX1_record 13 = .ok (.iconst 5, 1) := by decide +kernel
theorem dX1_record_14 : decode cX1_record 14 = .ok (.irem, 1) := by decide +kernel
theorem dX1_record_15 : decode cX1_record 15 = .ok (.aaload, 1) := by decide +kernel
theorem dX1_record_16 : decode cX1_record 16 = .ok (.aload_n 1, 1) := by decide +kernel
theorem dX1_record_17 : decode cX1_record 17 = .ok (.invokevirtual 25, 3) := by decide +kernel
theorem dX1_record_20 : decode cX1_record 20 = .ok (.aload_n 0, 1) := by decide +kernel
theorem dX1_record_21 : decode cX1_record 21 = .ok (.getfield 22, 3) := by decide +kernel
theorem dX1_record_24 : decode cX1_record 24 = .ok (.iconst 5, 1) := by decide +kernel
theorem dX1_record_25 : decode cX1_record 25 = .ok (.if_icmp .ge 16, 3) := by decide +kernel
theorem dX1_record_28 : decode cX1_record 28 = .ok (.aload_n 0, 1) := by decide +kernel
theorem dX1_record_29 : decode cX1_record 29 = .ok (.dup, 1) := by decide +kernel
theorem dX1_record_30 : decode cX1_record 30 = .ok (.getfield 22, 3) := by decide +kernel
theorem dX1_record_33 : decode cX1_record 33 = .ok (.iconst 1, 1) := by decide +kernel
theorem dX1_record_34 : decode cX1_record 34 = .ok (.iadd, 1) := by decide +kernel
theorem dX1_record_35 : decode cX1_record 35 = .ok (.putfield 22, 3) := by decide +kernel
theorem dX1_record_38 : decode cX1_record 38 = .ok (.goto 15, 3) := by decide +kernel
theorem dX1_record_41 : decode cX1_record 41 = .ok (.aload_n 0, 1) := by decide +kernel
theorem dX1_record_42 : decode cX1_record 42 = .ok (.aload_n 0, 1) := by decide +kernel
theorem dX1_record_43 : decode cX1_record 43 = .ok (.getfield 18, 3) := by decide +kernel
theorem dX1_record_46 : decode cX1_record 46 = .ok (.iconst 1, 1) := by decide +kernel
theorem dX1_record_47 : decode cX1_record 47 = .ok (.iadd, 1) := by decide +kernel
theorem dX1_record_48 : decode cX1_record 48 = .ok (.iconst 5, 1) := by decide +kernel
theorem dX1_record_49 : decode cX1_record 49 = .ok (.irem, 1) := by decide +kernel
theorem dX1_record_50 : decode cX1_record 50 = .ok (.putfield 18, 3) := by decide +kernel
theorem dX1_record_53 : decode cX1_record 53 = .ok (.return_, 1) := by decide +kernel
theorem dX2_init_0 : decode cX2_init 0 = .ok (.aload_n 0, 1) := by decide +kernel
theorem dX2_init_1 : decode cX2_init 1 = .ok (.invokespecial 3, 3) := by decide +kernel
theorem dX2_init_4 : decode cX2_init 4 = .ok (.aload_n 0, 1) := by decide +kernel
theorem dX2_init_5 : decode cX2_init 5 = .ok (.bipush 70, 2) := by decide +kernel
theorem dX2_init_7 : decode cX2_init 7 = .ok (.newarray .char, 2) := by decide +kernel
theorem dX2_init_9 : decode cX2_init 9 = .ok (.putfield 9, 3) := by decide +kernel
theorem dX2_init_12 : decode cX2_init 12 = .ok (.return_, 1) := by decide +kernel
set_option maxRecDepth 20000 in
theorem ggX3_init_X4_init : GoodIn wsX3_init wsX4_init := goodIn_r _ [16, 17, 2, 3, 18, 10, 19, 20, 21, 22, 23] (by decide +kernel) (by decide +kernel)
set_option maxRecDepth 20000 in
theorem gX3_init_X4_init : GoodIn wsX3_init (wsX4_init) := ggX3_init_X4_init
theorem dX3_init_0 : decode cX3_init 0 = .ok (.aload_n 0, 1) := by decide +kernel
theorem dX3_init_1 : decode cX3_init 1 = .ok (.invokespecial 3, 3) := by decide +kernel
theorem dX3_init_4 : decode cX3_init 4 = .ok (.aload_n 0, 1) := by decide +kernel
theorem dX3_init_5 : decode cX3_init 5 = .ok (.new 9, 3) := by decide +kernel
theorem dX3_init_8 : decode cX3_init 8 = .ok (.dup, 1) := by decide +kernel
theorem dX3_init_9 : decode cX3_init 9 = .ok (.iconst 3, 1) := by decide +kernel
theorem dX3_init_10 : decode cX3_init 10 = .ok (.invokespecial 11, 3) := by decide +kernel
theorem dX3_init_13 : decode cX3_init 13 = .ok (.putfield 14, 3) := by decide +kernel
theorem dX3_init_16 : decode cX3_init 16 = .ok (.aload_n 0, 1) := by decide +kernel
theorem dX3_init_17 : decode cX3_init 17 = .ok (.new 9, 3) := by decide +kernel
theorem dX3_init_20 : decode cX3_init 20 = .ok (.dup, 1) := by decide +kernel
theorem dX3_init_21 : decode cX3_init 21 = .ok (.iconst 3, 1) := by decide +kernel
theorem dX3_init_22 : decode cX3_init 22 = .ok (.invokespecial 11, 3) := by decide +kernel
theorem dX3_init_25 : decode cX3_init 25 = .ok (.putfield 20, 3) := by decide +kernel
theorem dX3_init_28 : decode cX3_init 28 = .ok (.aload_n 0, 1) := by decide +kernel
theorem dX3_init_29 : decode cX3_init 29 = .ok (.new 9, 3) := by decide +kernel
theorem dX3_init_32 : decode cX3_init 32 = .ok (.dup, 1) := by decide +kernel
theorem dX3_init_33 : decode cX3_init 33 = .ok (.iconst 2, 1) := by decide +kernel
theorem dX3_init_34 : decode cX3_init 34 = .ok (.invokespecial 11, 3) := by decide +kernel
theorem dX3_init_37 : decode cX3_init 37 = .ok (.putfield 23, 3) := by decide +kernel
theorem dX3_init_40 : decode cX3_init 40 = .ok (.aload_n 0, 1) := by decide +kernel
theorem dX3_init_41 : decode cX3_init 41 = .ok (.iconst 3, 1) := by decide +kernel
theorem dX3_init_42 : decode cX3_init 42 = .ok (.newarray .int, 2) := by decide +kernel
theorem dX3_init_44 : decode cX3_init 44 = .ok (.dup, 1) := by decide +kernel
theorem dX3_init_45 : decode cX3_init 45 = .ok (.iconst 0, 1) := by decide +kernel
theorem dX3_init_46 : decode cX3_init 46 = .ok (.iconst 5, 1) := by decide +kernel
theorem dX3_init_47 : decode cX3_init 47 = .ok (.iastore, 1) := by decide +kernel
theorem dX3_init_48 : decode cX3_init 48 = .ok (.dup, 1) := by decide +kernel
theorem dX3_init_49 : decode cX3_init 49 = .ok (.iconst 1, 1) := by decide +kernel
theorem dX3_init_50 : decode cX3_init 50 = .ok (.iconst 5, 1) := by decide +kernel
theorem dX3_init_51 : decode cX3_init 51 = .ok (.iastore, 1) := by decide +kernel
theorem dX3_init_52 : decode cX3_init 52 = .ok (.dup, 1) := by decide +kernel
theorem dX3_init_53 : decode cX3_init 53 = .ok (.iconst 2, 1) := by decide +kernel
theorem dX3_init_54 : decode cX3_init 54 = .ok (.iconst 5, 1) := by decide +kernel
theorem dX3_init_55 : decode cX3_init 55 = .ok (.iastore, 1) := by decide +kernel
theorem dX3_init_56 : decode cX3_init 56 = .ok (.putfield 26, 3) := by decide +kernel
theorem dX3_init_59 : decode cX3_init 59 = .ok (.aload_n 0, 1) := by decide +kernel
theorem dX3_init_60 : decode cX3_init 60 = .ok (.iconst 2, 1) := by decide +kernel
theorem dX3_init_61 : decode cX3_init 61 = .ok (.newarray .int, 2) := by decide +kernel
theorem dX3_init_63 : decode cX3_init 63 = .ok (.dup, 1) := by decide +kernel
theorem dX3_init_64 : decode cX3_init 64 = .ok (.iconst 0, 1) := by decide +kernel
theorem dX3_init_65 : decode cX3_init 65 = .ok (.bipush 30, 2) := by decide +kernel
theorem dX3_init_67 : decode cX3_init 67 = .ok (.iastore, 1) := by decide +kernel
theorem dX3_init_68 : decode cX3_init 68 = .ok (.dup, 1) := by decide +kernel
theorem dX3_init_69 : decode cX3_init 69 = .ok (.iconst 1, 1) := by decide +kernel
theorem dX3_init_70 : decode cX3_init 70 = .ok (.bipush 12, 2) := by decide +kernel
theorem dX3_init_72 : decode cX3_init 72 = .ok (.iastore, 1) := by decide +kernel
theorem dX3_init_73 : decode cX3_init 73 = .ok (.putfield 30, 3) := by decide +kernel
theorem dX3_init_76 : decode cX3_init 76 = .ok (.aload_n 0, 1) := by decide +kernel
theorem dX3_init_77 : decode cX3_init 77 = .ok (.bipush 20, 2) := by decide +kernel
theorem dX3_init_79 : decode cX3_init 79 = .ok (.putfield 33, 3) := by decide +kernel
theorem dX3_init_82 : decode cX3_init 82 = .ok (.return_, 1) := by decide +kernel
set_option maxRecDepth 20000 in
theorem ggX3_copyFrom_X4_copyFrom : GoodIn wsX3_copyFrom wsX4_copyFrom := goodIn_r _ [19, 20, 21, 32, 33, 34] (by decide +kernel) (by decide +kernel)
set_option maxRecDepth 20000 in
theorem gX3_copyFrom_X4_copyFrom : GoodIn wsX3_copyFrom (wsV RX3 37 RX4 yX4_copyFrom wsX4_copyFrom) := goodIn_app (goodIn_of _ (by decide +kernel)) ggX3_copyFrom_X4_copyFrom
theorem dX3_copyFrom_0 : decode cX3_copyFrom 0 = .ok (.aload_n 0, 1) := by decide +kernel
theorem dX3_copyFrom_1 : decode cX3_copyFrom 1 = .ok (.getfield 14, 3) := by decide +kernel
theorem dX3_copyFrom_4 : decode cX3_copyFrom 4 = .ok (.aload_n 1, 1) := by decide +kernel
theorem dX3_copyFrom_5 : decode cX3_copyFrom 5 = .ok (.getfield 14, 3) := by decide +kernel
theorem dX3_copyFrom_8 : decode cX3_copyFrom 8 = .ok (.invokevirtual 37, 3) := by decide +kernel
theorem dX3_copyFrom_11 : decode cX3_copyFrom 11 = .ok (.aload_n 0, 1) := by decide +kernel
theorem dX3_copyFrom_12 : decode cX3_copyFrom 12 = .ok (.getfield 20, 3) := by decide +kernel
theorem dX3_copyFrom_15 : decode cX3_copyFrom 15 = .ok (.aload_n 1, 1) := by decide +kernel
theorem dX3_copyFrom_16 : decode cX3_copyFrom 16 = .ok (.getfield 20, 3) := by decide +kernel
theorem dX3_copyFrom_19 : decode cX3_copyFrom 19 = .ok (.invokevirtual 37, 3) := by decide +kernel
theorem dX3_copyFrom_22 : decode cX3_copyFrom 22 = .ok (.aload_n 0, 1) := by decide +kernel
theorem dX3_copyFrom_23 : decode cX3_copyFrom 23 = .ok (.getfield 23, 3) := by decide +kernel
theorem dX3_copyFrom_26 : decode cX3_copyFrom 26 = .ok (.aload_n 1, 1) := by decide +kernel
theorem dX3_copyFrom_27 : decode cX3_copyFrom 27 = .ok (.getfield 23, 3) := by decide +kernel
theorem dX3_copyFrom_30 : decode cX3_copyFrom 30 = .ok (.invokevirtual 37, 3) := by decide +kernel
theorem dX3_copyFrom_33 : decode cX3_copyFrom 33 = .ok (.aload_n 1, 1) := by decide +kernel
theorem dX3_copyFrom_34 : decode cX3_copyFrom 34 = .ok (.getfield 26, 3) := by decide +kernel
theorem dX3_copyFrom_37 : decode cX3_copyFrom 37 = .ok (.iconst 0, 1) := by decide +kernel
theorem dX3_copyFrom_38 : decode cX3_copyFrom 38 = .ok (.aload_n 0, 1) := by decide +kernel
theorem dX3_copyFrom_39 : decode cX3_copyFrom 39 = .ok (.getfield 26, 3) := by decide +kernel
theorem dX3_copyFrom_42 : decode cX3_copyFrom 42 = .ok (.iconst 0, 1) := by decide +kernel
theorem dX3_copyFrom_43 : decode cX3_copyFrom 43 = .ok (.iconst 3, 1) := by decide +kernel
theorem dX3_copyFrom_44 : decode cX3_copyFrom 44 = .ok (.invokestatic 41, 3) := by decide +kernel
theorem dX3_copyFrom_47 : decode cX3_copyFrom 47 = .ok (.aload_n 1, 1) := by decide +kernel
theorem dX3_copyFrom_48 : decode cX3_copyFrom 48 = .ok (.getfield 30, 3) := by decide +kernel
theorem dX3_copyFrom_51 : decode cX3_copyFrom 51 = .ok (.iconst 0, 1) := by decide +kernel
theorem dX3_copyFrom_52 : decode cX3_copyFrom 52 = .ok (.aload_n 0, 1) := by decide +kernel
theorem dX3_copyFrom_53 : decode cX3_copyFrom 53 = .ok (.getfield 30, 3) := by decide +kernel
theorem dX3_copyFrom_56 : decode cX3_copyFrom 56 = .ok (.iconst 0, 1) := by decide +kernel
theorem dX3_copyFrom_57 : decode cX3_copyFrom 57 = .ok (.iconst 2, 1) := by decide +kernel
theorem dX3_copyFrom_58 : decode cX3_copyFrom 58 = .ok (.invokestatic 41, 3) := by decide +kernel
theorem dX3_copyFrom_61 : decode cX3_copyFrom 61 = .ok (.aload_n 0, 1) := by decide +kernel
theorem dX3_copyFrom_62 : decode cX3_copyFrom 62 = .ok (.aload_n 1, 1) := by decide +kernel
theorem dX3_copyFrom_63 : decode cX3_copyFrom 63 = .ok (.getfield 33, 3) := by decide +kernel
theorem dX3_copyFrom_66 : decode cX3_copyFrom 66 = .ok (.putfield 33, 3) := by decide +kernel
theorem dX3_copyFrom_69 : decode cX3_copyFrom 69 = .ok (.aload_n 0, 1) := by decide +kernel
theorem dX3_copyFrom_70 : decode cX3_copyFrom 70 = .ok (.aload_n 1, 1) := by decide +kernel
theorem dX3_copyFrom_71 : decode cX3_copyFrom 71 = .ok (.getfield 47, 3) := by decide +kernel
theorem dX3_copyFrom_74 : decode cX3_copyFrom 74 = .ok (.putfield 47, 3) := by decide +kernel
theorem dX3_copyFrom_77 : decode cX3_copyFrom 77 = .ok (.aload_n 0, 1) := by decide +kernel
theorem dX3_copyFrom_78 : decode cX3_copyFrom 78 = .ok (.aload_n 1, 1) := by decide +kernel
theorem dX3_copyFrom_79 : decode cX3_copyFrom 79 = .ok (.getfield 50, 3) := by decide +kernel
theorem dX3_copyFrom_82 : decode cX3_copyFrom 82 = .ok (.putfield 50, 3) := by decide +kernel
theorem dX3_copyFrom_85 : decode cX3_copyFrom 85 = .ok (.aload_n 0, 1) := by decide +kernel
theorem dX3_copyFrom_86 : decode cX3_copyFrom 86 = .ok (.aload_n 1, 1) := by decide +kernel
theorem dX3_copyFrom_87 : decode cX3_copyFrom 87 = .ok (.getfield 53, 3) := by decide +kernel
theorem dX3_copyFrom_90 : decode cX3_copyFrom 90 = .ok (.putfield 53, 3) := by decide +kernel
theorem dX3_copyFrom_93 : decode cX3_copyFrom 93 = .ok (.aload_n 0, 1) := by decide +kernel
theorem dX3_copyFrom_94 : decode cX3_copyFrom 94 = .ok (.aload_n 1, 1) := by decide +kernel
theorem dX3_copyFrom_95 : decode cX3_copyFrom 95 = .ok (.getfield 56, 3) := by decide +kernel
theorem dX3_copyFrom_98 : decode cX3_copyFrom 98 = .ok (.putfield 56, 3) := by decide +kernel
theorem dX3_copyFrom_101 : decode cX3_copyFrom 101 = .ok (.return_, 1) := by decide +kernel
set_option maxRecDepth 20000 in
theorem ggX3_putArrow_X4_paint : GoodIn wsX3_putArrow wsX4_paint := goodIn_r _ [6, 7, 8, 30, 31, 32] (by decide +kernel) (by decide +kernel)
set_option maxRecDepth 20000 in
theorem gX3_putArrow_X4_paint : GoodIn wsX3_putArrow (wsV RX3 59 RX4 yX4_paint wsX4_paint) := goodIn_app (goodIn_of _ (by decide +kernel)) ggX3_putArrow_X4_paint
set_option maxRecDepth 20000 in
theorem ggX3_putArrow_X4_count : GoodIn wsX3_putArrow wsX4_count := goodIn_r _ [12, 13, 14, 15, 5, 16, 8, 17, 18, 19, 30, 31, 32] (by decide +kernel) (by decide +kernel)
set_option maxRecDepth 20000 in
theorem gX3_putArrow_X4_count : GoodIn wsX3_putArrow (wsV RX3 63 RX4 yX4_count wsX4_count) := goodIn_app (goodIn_of _ (by decide +kernel)) ggX3_putArrow_X4_count
theorem dX3_putArrow_0 : decode cX3_putArrow 0 = .ok (.aload_n 0, 1) := by decide +kernel
theorem dX3_putArrow_1 : decode cX3_putArrow 1 = .ok (.getfield 14, 3) := by decide +kernel
theorem dX3_putArrow_4 : decode cX3_putArrow 4 = .ok (.iload_n 1, 1) := by decide +kernel
theorem dX3_putArrow_5 : decode cX3_putArrow 5 = .ok (.iload_n 2, 1) := by decide +kernel
theorem dX3_putArrow_6 : decode cX3_putArrow 6 = .ok (.iload_n 3, 1) := by decide +kernel
theorem dX3_putArrow_7 : decode cX3_putArrow 7 = .ok (.invokevirtual 59, 3) := by decide +kernel
theorem dX3_putArrow_10 : decode cX3_putArrow 10 = .ok (.aload_n 0, 1) := by decide +kernel
theorem dX3_putArrow_11 : decode cX3_putArrow 11 = .ok (.getfield 14, 3) := by decide +kernel
theorem dX3_putArrow_14 : decode cX3_putArrow 14 = .ok (.invokevirtual 63, 3) := by decide +kernel
theorem dX3_putArrow_17 : decode cX3_putArrow 17 = .ok (.ireturn, 1) := by decide +kernel
set_option maxRecDepth 20000 in
theorem ggX3_putWord_X4_paint : GoodIn wsX3_putWord wsX4_paint := goodIn_r _ [6, 7, 8, 30, 31, 32] (by decide +kernel) (by decide +kernel)
set_option maxRecDepth 20000 in
theorem gX3_putWord_X4_paint : GoodIn wsX3_putWord (wsV RX3 59 RX4 yX4_paint wsX4_paint) := goodIn_app (goodIn_of _ (by decide +kernel)) ggX3_putWord_X4_paint
set_option maxRecDepth 20000 in
theorem ggX3_putWord_X4_count : GoodIn wsX3_putWord wsX4_count := goodIn_r _ [12, 13, 14, 15, 5, 16, 8, 17, 18, 19, 30, 31, 32] (by decide +kernel) (by decide +kernel)
set_option maxRecDepth 20000 in
theorem gX3_putWord_X4_count : GoodIn wsX3_putWord (wsV RX3 63 RX4 yX4_count wsX4_count) := goodIn_app (goodIn_of _ (by decide +kernel)) ggX3_putWord_X4_count
theorem dX3_putWord_0 : decode cX3_putWord 0 = .ok (.aload_n 0, 1) := by decide +kernel
theorem dX3_putWord_1 : decode cX3_putWord 1 = .ok (.getfield 20, 3) := by decide +kernel
theorem dX3_putWord_4 : decode cX3_putWord 4 = .ok (.iload_n 1, 1) := by decide +kernel
theorem dX3_putWord_5 : decode cX3_putWord 5 = .ok (.iload_n 2, 1) := by decide +kernel
theorem dX3_putWord_6 : decode cX3_putWord 6 = .ok (.iload_n 3, 1) := by decide +kernel
theorem dX3_putWord_7 : decode cX3_putWord 7 = .ok (.invokevirtual 59, 3) := by decide +kernel
theorem dX3_putWord_10 : decode cX3_putWord 10 = .ok (.aload_n 0, 1) := by decide +kernel
theorem dX3_putWord_11 : decode cX3_putWord 11 = .ok (.getfield 20, 3) := by decide +kernel
theorem dX3_putWord_14 : decode cX3_putWord 14 = .ok (.invokevirtual 63, 3) := by decide +kernel
theorem dX3_putWord_17 : decode cX3_putWord 17 = .ok (.ireturn, 1) := by decide +kernel
set_option maxRecDepth 20000 in
theorem ggX3_putDash_X3_dashAt : GoodIn wsX3_putDash wsX3_dashAt := goodIn_r _ [6, 1, 7, 8, 9, 10, 11, 12, 13, 33, 34, 35, 36, 37, 38, 39, 40, 41, 42, 43, 44, 45] (by decide +kernel) (by decide +kernel)
set_option maxRecDepth 20000 in
theorem gX3_putDash_X3_dashAt : GoodIn wsX3_putDash (wsV RX3 67 RX3 yX3_dashAt wsX3_dashAt) := goodIn_app (goodIn_of _ (by decide +kernel)) ggX3_putDash_X3_dashAt
set_option maxRecDepth 20000 in
theorem ggX3_putDash_X4_remove : GoodIn wsX3_putDash wsX4_remove := goodIn_r _ [17, 18, 19, 20, 10, 21, 12, 22, 23, 24, 25, 26, 27, 28, 43, 44, 45] (by decide +kernel) (by decide +kernel)
set_option maxRecDepth 20000 in
theorem gX3_putDash_X4_remove : GoodIn wsX3_putDash (wsV RX3 71 RX4 yX4_remove wsX4_remove) := goodIn_app (goodIn_of _ (by decide +kernel)) ggX3_putDash_X4_remove
set_option maxRecDepth 20000 in
theorem ggX3_putDash_X4_paint : GoodIn wsX3_putDash wsX4_paint := goodIn_r _ [32, 13, 12, 43, 44, 45] (by decide +kernel) (by decide +kernel)
set_option maxRecDepth 20000 in
theorem gX3_putDash_X4_paint : GoodIn wsX3_putDash (wsV RX3 59 RX4 yX4_paint wsX4_paint) := goodIn_app (goodIn_of _ (by decide +kernel)) ggX3_putDash_X4_paint
theorem dX3_putDash_0 : decode cX3_putDash 0 = .ok (.aload_n 0, 1) := by decide +kernel
theorem dX3_putDash_1 : decode cX3_putDash 1 = .ok (.iload_n 1, 1) := by decide +kernel
theorem dX3_putDash_2 : decode cX3_putDash 2 = .ok (.iload_n 2, 1) := by decide +kernel
theorem dX3_putDash_3 : decode cX3_putDash 3 = .ok (.invokevirtual 67, 3) := by decide +kernel
theorem dX3_putDash_6 : decode cX3_putDash 6 = .ok (.istore 4, 2) := by decide +kernel
theorem dX3_putDash_8 : decode cX3_putDash 8 = .ok (.iload_n 3, 1) := by decide +kernel
theorem dX3_putDash_9 : decode cX3_putDash 9 = .ok (.ifCond .ne 16, 3) := by decide +kernel
theorem dX3_putDash_12 : decode cX3_putDash 12 = .ok (.aload_n 0, 1) := by decide +kernel
theorem dX3_putDash_13 : decode cX3_putDash 13 = .ok (.getfield 23, 3) := by decide +kernel
theorem dX3_putDash_16 : decode cX3_putDash 16 = .ok (.iload_n 1, 1) := by decide +kernel
theorem dX3_putDash_17 : decode cX3_putDash 17 = .ok (.iload_n 2, 1) := by decide +kernel
theorem dX3_putDash_18 : decode cX3_putDash 18 = .ok (.invokevirtual 71, 3) := by decide +kernel
theorem dX3_putDash_21 : decode cX3_putDash 21 = .ok (.pop, 1) := by decide +kernel
theorem dX3_putDash_22 : decode cX3_putDash 22 = .ok (.goto 13, 3) := by decide +kernel
theorem dX3_putDash_25 : decode cX3_putDash 25 = .ok (.aload_n 0, 1) := by decide +kernel
theorem dX3_putDash_26 : decode cX3_putDash 26 = .ok (.getfield 23, 3) := by decide +kernel
theorem dX3_putDash_29 : decode cX3_putDash 29 = .ok (.iload_n 1, 1) := by decide +kernel
theorem dX3_putDash_30 : decode cX3_putDash 30 = .ok (.iload_n 2, 1) := by decide +kernel
theorem dX3_putDash_31 : decode cX3_putDash 31 = .ok (.iload_n 3, 1) := by decide +kernel
theorem dX3_putDash_32 : decode cX3_putDash 32 = .ok (.invokevirtual 59, 3) := by decide +kernel
theorem dX3_putDash_35 : decode cX3_putDash 35 = .ok (.iload 4, 2) := by decide +kernel
theorem dX3_putDash_37 : decode cX3_putDash 37 = .ok (.ireturn, 1) := by decide +kernel
set_option maxRecDepth 20000 in
theorem ggX3_clearCell_X4_remove : GoodIn wsX3_clearCell wsX4_remove := goodIn_r _ [7, 8, 9, 10, 6, 11, 12, 13, 14, 15, 16, 17, 18, 19, 30, 31, 32] (by decide +kernel) (by decide +kernel)
set_option maxRecDepth 20000 in
theorem gX3_clearCell_X4_remove : GoodIn wsX3_clearCell (wsV RX3 71 RX4 yX4_remove wsX4_remove) := goodIn_app (goodIn_of _ (by decide +kernel)) ggX3_clearCell_X4_remove
theorem dX3_clearCell_0 : decode cX3_clearCell 0 = .ok (.aload_n 0, 1) := by decide +kernel
theorem dX3_clearCell_1 : decode cX3_clearCell 1 = .ok (.getfield 14, 3) := by decide +kernel
theorem dX3_clearCell_4 : decode cX3_clearCell 4 = .ok (.iload_n 1, 1) := by decide +kernel
theorem dX3_clearCell_5 : decode cX3_clearCell 5 = .ok (.iload_n 2, 1) := by decide +kernel
theorem dX3_clearCell_6 : decode cX3_clearCell 6 = .ok (.invokevirtual 71, 3) := by decide +kernel
theorem dX3_clearCell_9 : decode cX3_clearCell 9 = .ok (.aload_n 0, 1) := by decide +kernel
theorem dX3_clearCell_10 : decode cX3_clearCell 10 = .ok (.getfield 20, 3) := by decide +kernel
theorem dX3_clearCell_13 : decode cX3_clearCell 13 = .ok (.iload_n 1, 1) := by decide +kernel
theorem dX3_clearCell_14 : decode cX3_clearCell 14 = .ok (.iload_n 2, 1) := by decide +kernel
theorem dX3_clearCell_15 : decode cX3_clearCell 15 = .ok (.invokevirtual 71, 3) := by decide +kernel
theorem dX3_clearCell_18 : decode cX3_clearCell 18 = .ok (.iadd, 1) := by decide +kernel
theorem dX3_clearCell_19 : decode cX3_clearCell 19 = .ok (.ireturn, 1) := by decide +kernel
theorem dX3_changeSetting_0 : decode cX3_changeSetting 0 = .ok (.aload_n 0, 1) := by decide +kernel
theorem dX3_changeSetting_1 : decode cX3_changeSetting 1 = .ok (.getfield 30, 3) := by decide +kernel
theorem dX3_changeSetting_4 : decode cX3_changeSetting 4 = .ok (.iload_n 1, 1) := by decide +kernel
theorem dX3_changeSetting_5 : decode cX3_changeSetting 5 = .ok (.iaload, 1) := by decide +kernel
theorem dX3_changeSetting_6 : decode cX3_changeSetting 6 = .ok (.istore_n 3, 1) := by decide +kernel
theorem dX3_changeSetting_7 : decode cX3_changeSetting 7 = .ok (.aload_n 0, 1) := by decide +kernel
theorem dX3_changeSetting_8 : decode cX3_changeSetting 8 = .ok (.getfield 30, 3) := by decide +kernel
theorem dX3_changeSetting_11 : decode cX3_changeSetting 11 = .ok (.iload_n 1, 1) := by decide +kernel
theorem dX3_changeSetting_12 : decode cX3_changeSetting 12 = .ok (.iload_n 2, 1) := by decide +kernel
theorem dX3_changeSetting_13 : decode cX3_changeSetting 13 = .ok (.iastore, 1) := by decide +kernel
theorem dX3_changeSetting_14 : decode cX3_changeSetting 14 = .ok (.iload_n 3, 1) := by decide +kernel
theorem dX3_changeSetting_15 : decode cX3_changeSetting 15 = .ok (.ireturn, 1) := by decide +kernel
theorem dX3_changeTraffic_0 : decode cX3_changeTraffic 0 = .ok (.aload_n 0, 1) := by decide +kernel
theorem dX3_changeTraffic_1 : decode cX3_changeTraffic 1 = .ok (.getfield 26, 3) := by decide +kernel
theorem dX3_changeTraffic_4 : decode cX3_changeTraffic 4 = .ok (.iload_n 1, 1) := by decide +kernel
theorem dX3_changeTraffic_5 : decode cX3_changeTraffic 5 = .ok (.iaload, 1) := by decide +kernel
theorem dX3_changeTraffic_6 : decode cX3_changeTraffic 6 = .ok (.istore_n 3, 1) := by decide +kernel
theorem dX3_changeTraffic_7 : decode cX3_changeTraffic 7 = .ok (.aload_n 0, 1) := by decide +kernel
theorem dX3_changeTraffic_8 : decode cX3_changeTraffic 8 = .ok (.getfield 26, 3) := by decide +kernel
theorem dX3_changeTraffic_11 : decode cX3_changeTraffic 11 = .ok (.iload_n 1, 1) := by decide +kernel
theorem dX3_changeTraffic_12 : decode cX3_changeTraffic 12 = .ok (.iload_n 2, 1) := by decide +kernel
theorem dX3_changeTraffic_13 : decode cX3_changeTraffic 13 = .ok (.iastore, 1) := by decide +kernel
theorem dX3_changeTraffic_14 : decode cX3_changeTraffic 14 = .ok (.iload_n 3, 1) := by decide +kernel
theorem dX3_changeTraffic_15 : decode cX3_changeTraffic 15 = .ok (.ireturn, 1) := by decide +kernel
theorem dX3_addCans_0 : decode cX3_addCans 0 = .ok (.aload_n 0, 1) := by decide +kernel
theorem dX3_addCans_1 : decode cX3_addCans 1 = .ok (.dup, 1) := by decide +kernel
theorem dX3_addCans_2 : decode cX3_addCans 2 = .ok (.getfield 33, 3) := by decide +kernel
theorem dX3_addCans_5 : decode cX3_addCans 5 = .ok (.iload_n 1, 1) := by decide +kernel
theorem dX3_addCans_6 : decode cX3_addCans 6 = .ok (.iadd, 1) := by decide +kernel
theorem dX3_addCans_7 : decode cX3_addCans 7 = .ok (.putfield 33, 3) := by decide +kernel
theorem dX3_addCans_10 : decode cX3_addCans 10 = .ok (.aload_n 0, 1) := by decide +kernel
theorem dX3_addCans_11 : decode cX3_addCans 11 = .ok (.getfield 33, 3) := by decide +kernel
theorem dX3_addCans_14 : decode cX3_addCans 14 = .ok (.ireturn, 1) := by decide +kernel
set_option maxRecDepth 20000 in
theorem ggX3_passDays_X3_passDay : GoodIn wsX3_passDays wsX3_passDay := goodIn_r _ [7, 8, 9, 10, 11, 12, 13, 14, 6, 15, 16, 17, 18, 19, 20, 21, 22, 23, 24, 25, 26, 27, 28, 29, 30, 31, 32, 33, 34, 35, 36, 37, 38, 39, 40, 41, 42, 43, 44, 45, 46, 47, 48, 49, 50, 51, 52, 53, 54, 55] (by decide +kernel) (by decide +kernel)
set_option maxRecDepth 20000 in
theorem gX3_passDays_X3_passDay : GoodIn wsX3_passDays (wsV RX3 74 RX3 yX3_passDay wsX3_passDay) := goodIn_app (goodIn_of _ (by decide +kernel)) ggX3_passDays_X3_passDay
theorem dX3_passDays_0 : decode cX3_passDays 0 = .ok (.iconst 0, 1) := by decide +kernel
theorem dX3_passDays_1 : decode cX3_passDays 1 = .ok (.istore_n 2, 1) := by decide +kernel
theorem dX3_passDays_2 : decode cX3_passDays 2 = .ok (.iconst 0, 1) := by decide +kernel
theorem dX3_passDays_3 : decode cX3_passDays 3 = .ok (.istore_n 3, 1) := by decide +kernel
theorem dX3_passDays_4 : decode cX3_passDays 4 = .ok (.iload_n 3, 1) := by decide +kernel
theorem dX3_passDays_5 : decode cX3_passDays 5 = .ok (.iload_n 1, 1) := by decide +kernel
theorem dX3_passDays_6 : decode cX3_passDays 6 = .ok (.if_icmp .ge 16, 3) := by decide +kernel
theorem dX3_passDays_9 : decode cX3_passDays 9 = .ok (.iload_n 2, 1) := by decide +kernel
theorem dX3_passDays_10 : decode cX3_passDays 10 = .ok (.aload_n 0, 1) := by decide +kernel
theorem dX3_passDays_11 : decode cX3_passDays 11 = .ok (.invokevirtual 74, 3) := by decide +kernel
theorem dX3_passDays_14 : decode cX3_passDays 14 = .ok (.iadd, 1) := by decide +kernel
theorem dX3_passDays_15 : decode cX3_passDays 15 = .ok (.istore_n 2, 1) := by decide +kernel
theorem dX3_passDays_16 : decode cX3_passDays 16 = .ok (.iinc 3 1, 3) := by decide +kernel
theorem dX3_passDays_19 : decode cX3_passDays 19 = .ok (.goto (-15), 3) := by decide +kernel
theorem dX3_passDays_22 : decode cX3_passDays 22 = .ok (.aload_n 0, 1) := by decide +kernel
theorem dX3_passDays_23 : decode cX3_passDays 23 = .ok (.dup, 1) := by decide +kernel
theorem dX3_passDays_24 : decode cX3_passDays 24 = .ok (.getfield 47, 3) := by decide +kernel
theorem dX3_passDays_27 : decode cX3_passDays 27 = .ok (.iload_n 1, 1) := by decide +kernel
theorem dX3_passDays_28 : decode cX3_passDays 28 = .ok (.iadd, 1) := by decide +kernel
theorem dX3_passDays_29 : decode cX3_passDays 29 = .ok (.putfield 47, 3) := by decide +kernel
theorem dX3_passDays_32 : decode cX3_passDays 32 = .ok (.aload_n 0, 1) := by decide +kernel
theorem dX3_passDays_33 : decode cX3_passDays 33 = .ok (.dup, 1) := by decide +kernel
theorem dX3_passDays_34 : decode cX3_passDays 34 = .ok (.getfield 56, 3) := by decide +kernel
theorem dX3_passDays_37 : decode cX3_passDays 37 = .ok (.iload_n 2, 1) := by decide +kernel
theorem dX3_passDays_38 : decode cX3_passDays 38 = .ok (.iadd, 1) := by decide +kernel
theorem dX3_passDays_39 : decode cX3_passDays 39 = .ok (.putfield 56, 3) := by decide +kernel
theorem dX3_passDays_42 : decode cX3_passDays 42 = .ok (.iload_n 2, 1) := by decide +kernel
theorem dX3_passDays_43 : decode cX3_passDays 43 = .ok (.ireturn, 1) := by decide +kernel
set_option maxRecDepth 20000 in
theorem ggX3_passDay_X3_lossAt : GoodIn wsX3_passDay wsX3_lossAt := goodIn_r _ [9, 1, 3, 10, 11, 12, 8, 13, 14, 15, 16, 17, 18, 19, 20, 21, 22, 23, 24, 25, 37, 38, 39, 40, 41, 42, 43, 44, 45, 46, 47, 48, 49] (by decide +kernel) (by decide +kernel)
set_option maxRecDepth 20000 in
theorem gX3_passDay_X3_lossAt : GoodIn wsX3_passDay (wsV RX3 77 RX3 yX3_lossAt wsX3_lossAt) := goodIn_app (goodIn_of _ (by decide +kernel)) ggX3_passDay_X3_lossAt
set_option maxRecDepth 20000 in
theorem ggX3_passDay_X4_weaken : GoodIn wsX3_passDay wsX4_weaken := goodIn_r _ [29, 20, 30, 31, 32, 33, 34, 35, 36, 47, 48, 49] (by decide +kernel) (by decide +kernel)
set_option maxRecDepth 20000 in
theorem gX3_passDay_X4_weaken : GoodIn wsX3_passDay (wsV RX3 80 RX4 yX4_weaken wsX4_weaken) := goodIn_app (goodIn_of _ (by decide +kernel)) ggX3_passDay_X4_weaken
theorem dX3_passDay_0 : decode cX3_passDay 0 = .ok (.iconst 0, 1) := by decide +kernel
theorem dX3_passDay_1 : decode cX3_passDay 1 = .ok (.istore_n 1, 1) := by decide +kernel
theorem dX3_passDay_2 : decode cX3_passDay 2 = .ok (.iconst 0, 1) := by decide +kernel
theorem dX3_passDay_3 : decode cX3_passDay 3 = .ok (.istore_n 2, 1) := by decide +kernel
theorem dX3_passDay_4 : decode cX3_passDay 4 = .ok (.iload_n 2, 1) := by decide +kernel
theorem dX3_passDay_5 : decode cX3_passDay 5 = .ok (.bipush 16, 2) := by decide +kernel
theorem dX3_passDay_7 : decode cX3_passDay 7 = .ok (.if_icmp .ge 102, 3) := by decide +kernel
theorem dX3_passDay_10 : decode cX3_passDay 10 = .ok (.iconst 0, 1) := by decide +kernel
theorem dX3_passDay_11 : decode cX3_passDay 11 = .ok (.istore_n 3, 1) := by decide +kernel
theorem dX3_passDay_12 : decode cX3_passDay 12 = .ok (.iload_n 3, 1) := by decide +kernel
theorem dX3_passDay_13 : decode cX3_passDay 13 = .ok (.iconst 3, 1) := by decide +kernel
theorem dX3_passDay_14 : decode cX3_passDay 14 = .ok (.if_icmp .ge 43, 3) := by decide +kernel
theorem dX3_passDay_17 : decode cX3_passDay 17 = .ok (.aload_n 0, 1) := by decide +kernel
theorem dX3_passDay_18 : decode cX3_passDay 18 = .ok (.iload_n 3, 1) := by decide +kernel
theorem dX3_passDay_19 : decode cX3_passDay 19 = .ok (.iload_n 2, 1) := by decide +kernel
theorem dX3_passDay_20 : decode cX3_passDay 20 = .ok (.invokevirtual 77, 3) := by decide +kernel
theorem dX3_passDay_23 : decode cX3_passDay 23 = .ok (.istore 4, 2) := by decide +kernel
theorem dX3_passDay_25 : decode cX3_passDay 25 = .ok (.iload_n 1, 1) := by decide +kernel
theorem dX3_passDay_26 : decode cX3_passDay 26 = .ok (.aload_n 0, 1) := by decide +kernel
theorem dX3_passDay_27 : decode cX3_passDay 27 = .ok (.getfield 20, 3) := by decide +kernel
theorem dX3_passDay_30 : decode cX3_passDay 30 = .ok (.iload_n 3, 1) := by decide +kernel
theorem dX3_passDay_31 : decode cX3_passDay 31 = .ok (.iload_n 2, 1) := by decide +kernel
theorem dX3_passDay_32 : decode cX3_passDay 32 = .ok (.iload 4, 2) := by decide +kernel
theorem dX3_passDay_34 : decode cX3_passDay 34 = .ok (.invokevirtual 80, 3) := by decide +kernel
theorem dX3_passDay_37 : decode cX3_passDay 37 = .ok (.aload_n 0, 1) := by decide +kernel
theorem dX3_passDay_38 : decode cX3_passDay 38 = .ok (.getfield 14, 3) := by decide +kernel
theorem dX3_passDay_41 : decode cX3_passDay 41 = .ok (.iload_n 3, 1) := by decide +kernel
theorem dX3_passDay_42 : decode cX3_passDay 42 = .ok (.iload_n 2, 1) := by decide +kernel
theorem dX3_passDay_43 : decode cX3_passDay 43 = .ok (.iload 4, 2) := by decide +kernel
theorem dX3_passDay_45 : decode cX3_passDay 45 = .ok (.invokevirtual 80, 3) := by decide +kernel
theorem dX3_passDay_48 : decode cX3_passDay 48 = .ok (.iadd, 1) := by decide +kernel
theorem dX3_passDay_49 : decode cX3_passDay 49 = .ok (.iadd, 1) := by decide +kernel
theorem dX3_passDay_50 : decode cX3_passDay 50 = .ok (.istore_n 1, 1) := by decide +kernel
theorem dX3_passDay_51 : decode cX3_passDay 51 = .ok (.iinc 3 1, 3) := by decide +kernel
theorem dX3_passDay_54 : decode cX3_passDay 54 = .ok (.goto (-42), 3) := by decide +kernel
theorem dX3_passDay_57 : decode cX3_passDay 57 = .ok (.iconst 0, 1) := by decide +kernel
theorem dX3_passDay_58 : decode cX3_passDay 58 = .ok (.istore_n 3, 1) := by decide +kernel
theorem dX3_passDay_59 : decode cX3_passDay 59 = .ok (.iload_n 3, 1) := by decide +kernel
theorem dX3_passDay_60 : decode cX3_passDay 60 = .ok (.iconst 2, 1) := by decide +kernel
theorem dX3_passDay_61 : decode cX3_passDay 61 = .ok (.if_icmp .ge 42, 3) := by decide +kernel
theorem dX3_passDay_64 : decode cX3_passDay 64 = .ok (.aload_n 0, 1) := by decide +kernel
theorem dX3_passDay_65 : decode cX3_passDay 65 = .ok (.getfield 26, 3) := by decide +kernel
theorem dX3_passDay_68 : decode cX3_passDay 68 = .ok (.iload_n 3, 1) := by decide +kernel
theorem dX3_passDay_69 : decode cX3_passDay 69 = .ok (.iaload, 1) := by decide +kernel
theorem dX3_passDay_70 : decode cX3_passDay 70 = .ok (.aload_n 0, 1) := by decide +kernel
theorem dX3_passDay_71 : decode cX3_passDay 71 = .ok (.getfield 26, 3) := by decide +kernel
theorem dX3_passDay_74 : decode cX3_passDay 74 = .ok (.iload_n 3, 1) := by decide +kernel
theorem dX3_passDay_75 : decode cX3_passDay 75 = .ok (.iconst 1, 1) := by decide +kernel
theorem dX3_passDay_76 : decode cX3_passDay 76 = .ok (.iadd, 1) := by decide +kernel
theorem dX3_passDay_77 : decode cX3_passDay 77 = .ok (.iaload, 1) := by decide +kernel
theorem dX3_passDay_78 : decode cX3_passDay 78 = .ok (.iadd, 1) := by decide +kernel
theorem dX3_passDay_79 : decode cX3_passDay 79 = .ok (.iconst 2, 1) := by decide +kernel
theorem dX3_passDay_80 : decode cX3_passDay 80 = .ok (.idiv, 1) := by decide +kernel
theorem dX3_passDay_81 : decode cX3_passDay 81 = .ok (.istore 4, 2) := by decide +kernel
theorem dX3_passDay_83 : decode cX3_passDay 83 = .ok (.iload_n 1, 1) := by decide +kernel
theorem dX3_passDay_84 : decode cX3_passDay 84 = .ok (.aload_n 0, 1) := by decide +kernel
theorem dX3_passDay_85 : decode cX3_passDay 85 = .ok (.getfield 23, 3) := by decide +kernel
theorem dX3_passDay_88 : decode cX3_passDay 88 = .ok (.iload_n 3, 1) := by decide +kernel
theorem dX3_passDay_89 : decode cX3_passDay 89 = .ok (.iload_n 2, 1) := by decide +kernel
theorem dX3_passDay_90 : decode cX3_passDay 90 = .ok (.iload 4, 2) := by decide +kernel
theorem dX3_passDay_92 : decode cX3_passDay 92 = .ok (.invokevirtual 80, 3) := by decide +kernel
theorem dX3_passDay_95 : decode cX3_passDay 95 = .ok (.iadd, 1) := by decide +kernel
theorem dX3_passDay_96 : decode cX3_passDay 96 = .ok (.istore_n 1, 1) := by decide +kernel
theorem dX3_passDay_97 : decode cX3_passDay 97 = .ok (.iinc 3 1, 3) := by decide +kernel
theorem dX3_passDay_100 : decode cX3_passDay 100 = .ok (.goto (-41), 3) := by decide +kernel
theorem dX3_passDay_103 : decode cX3_passDay 103 = .ok (.iinc 2 1, 3) := by decide +kernel
theorem dX3_passDay_106 : decode cX3_passDay 106 = .ok (.goto (-102), 3) := by decide +kernel
theorem dX3_passDay_109 : decode cX3_passDay 109 = .ok (.iload_n 1, 1) := by decide +kernel
theorem dX3_passDay_110 : decode cX3_passDay 110 = .ok (.ireturn, 1) := by decide +kernel
set_option maxRecDepth 20000 in
theorem ggX3_lossAt_X3_canRead : GoodIn wsX3_lossAt wsX3_canRead := goodIn_r _ [7, 1, 8, 9, 10, 11, 12, 13, 14, 20, 21, 22, 23, 24, 25, 26, 27, 28, 29, 30, 31, 32] (by decide +kernel) (by decide +kernel)
set_option maxRecDepth 20000 in
theorem gX3_lossAt_X3_canRead : GoodIn wsX3_lossAt (wsV RX3 84 RX3 yX3_canRead wsX3_canRead) := goodIn_app (goodIn_of _ (by decide +kernel)) ggX3_lossAt_X3_canRead
set_option maxRecDepth 20000 in
theorem ggX3_lossAt_X4_kindOr : GoodIn wsX3_lossAt wsX4_kindOr := goodIn_r _ [18, 14, 19, 30, 31, 32] (by decide +kernel) (by decide +kernel)
set_option maxRecDepth 20000 in
theorem gX3_lossAt_X4_kindOr : GoodIn wsX3_lossAt (wsV RX3 88 RX4 yX4_kindOr wsX4_kindOr) := goodIn_app (goodIn_of _ (by decide +kernel)) ggX3_lossAt_X4_kindOr
theorem dX3_lossAt_0 : decode cX3_lossAt 0 = .ok (.aload_n 0, 1) := by decide +kernel
theorem dX3_lossAt_1 : decode cX3_lossAt 1 = .ok (.iload_n 1, 1) := by decide +kernel
theorem dX3_lossAt_2 : decode cX3_lossAt 2 = .ok (.iload_n 2, 1) := by decide +kernel
theorem dX3_lossAt_3 : decode cX3_lossAt 3 = .ok (.invokevirtual 84, 3) := by decide +kernel
theorem dX3_lossAt_6 : decode cX3_lossAt 6 = .ok (.ifCond .eq 21, 3) := by decide +kernel
theorem dX3_lossAt_9 : decode cX3_lossAt 9 = .ok (.aload_n 0, 1) := by decide +kernel
theorem dX3_lossAt_10 : decode cX3_lossAt 10 = .ok (.getfield 20, 3) := by decide +kernel
theorem dX3_lossAt_13 : decode cX3_lossAt 13 = .ok (.iload_n 1, 1) := by decide +kernel
theorem dX3_lossAt_14 : decode cX3_lossAt 14 = .ok (.iload_n 2, 1) := by decide +kernel
theorem dX3_lossAt_15 : decode cX3_lossAt 15 = .ok (.iconst 2, 1) := by decide +kernel
theorem dX3_lossAt_16 : decode cX3_lossAt 16 = .ok (.invokevirtual 88, 3) := by decide +kernel
theorem dX3_lossAt_19 : decode cX3_lossAt 19 = .ok (.iconst 1, 1) := by decide +kernel
theorem dX3_lossAt_20 : decode cX3_lossAt 20 = .ok (.if_icmp .gt 7, 3) := by decide +kernel
theorem dX3_lossAt_23 : decode cX3_lossAt 23 = .ok (.iconst 1, 1) := by decide +kernel
theorem dX3_lossAt_24 : decode cX3_lossAt 24 = .ok (.goto 4, 3) := by decide +kernel
theorem dX3_lossAt_27 : decode cX3_lossAt 27 = .ok (.iconst 0, 1) := by decide +kernel
theorem dX3_lossAt_28 : decode cX3_lossAt 28 = .ok (.istore_n 3, 1) := by decide +kernel
theorem dX3_lossAt_29 : decode cX3_lossAt 29 = .ok (.iload_n 3, 1) := by decide +kernel
theorem dX3_lossAt_30 : decode cX3_lossAt 30 = .ok (.ifCond .eq 14, 3) := by decide +kernel
theorem dX3_lossAt_33 : decode cX3_lossAt 33 = .ok (.aload_n 0, 1) := by decide +kernel
theorem dX3_lossAt_34 : decode cX3_lossAt 34 = .ok (.getfield 26, 3) := by decide +kernel
theorem dX3_lossAt_37 : decode cX3_lossAt 37 = .ok (.iload_n 1, 1) := by decide +kernel
theorem dX3_lossAt_38 : decode cX3_lossAt 38 = .ok (.iaload, 1) := by decide +kernel
theorem dX3_lossAt_39 : decode cX3_lossAt 39 = .ok (.iconst 2, 1) := by decide +kernel
theorem dX3_lossAt_40 : decode cX3_lossAt 40 = .ok (.idiv, 1) := by decide +kernel
theorem dX3_lossAt_41 : decode cX3_lossAt 41 = .ok (.goto 9, 3) := by decide +kernel
theorem dX3_lossAt_44 : decode cX3_lossAt 44 = .ok (.aload_n 0, 1) := by decide +kernel
theorem dX3_lossAt_45 : decode cX3_lossAt 45 = .ok (.getfield 26, 3) := by decide +kernel
theorem dX3_lossAt_48 : decode cX3_lossAt 48 = .ok (.iload_n 1, 1) := by decide +kernel
theorem dX3_lossAt_49 : decode cX3_lossAt 49 = .ok (.iaload, 1) := by decide +kernel
theorem dX3_lossAt_50 : decode cX3_lossAt 50 = .ok (.ireturn, 1) := by decide +kernel
set_option maxRecDepth 20000 in
theorem ggX3_workNight_X3_crewLimit : GoodIn wsX3_workNight wsX3_crewLimit := goodIn_r _ [12, 5, 13, 14, 15, 3, 16, 35, 36, 37, 38, 39, 40, 41, 42, 43, 44] (by decide +kernel) (by decide +kernel)
set_option maxRecDepth 20000 in
theorem gX3_workNight_X3_crewLimit : GoodIn wsX3_workNight (wsV RX3 97 RX3 yX3_crewLimit wsX3_crewLimit) := goodIn_app (goodIn_of _ (by decide +kernel)) ggX3_workNight_X3_crewLimit
set_option maxRecDepth 20000 in
theorem ggX3_workNight_X3_repaintMile : GoodIn wsX3_workNight wsX3_repaintMile := goodIn_r _ [20, 21, 22, 23, 24, 25, 26, 27, 28, 29, 30, 31, 32, 33, 34, 35, 36, 37, 38, 39, 40, 41, 42, 43, 44, 45, 46, 47] (by decide +kernel) (by decide +kernel)
set_option maxRecDepth 20000 in
theorem gX3_workNight_X3_repaintMile : GoodIn wsX3_workNight (wsV RX3 100 RX3 yX3_repaintMile wsX3_repaintMile) := goodIn_app (goodIn_of _ (by decide +kernel)) ggX3_workNight_X3_repaintMile
theorem dX3_workNight_0 : decode cX3_workNight 0 = .ok (.iload_n 1, 1) := by decide +kernel
theorem dX3_workNight_1 : decode cX3_workNight 1 = .ok (.iload_n 2, 1) := by decide +kernel
theorem dX3_workNight_2 : decode cX3_workNight 2 = .ok (.if_icmp .gt 7, 3) := by decide +kernel
theorem dX3_workNight_5 : decode cX3_workNight 5 = .ok (.iconst 1, 1) := by decide +kernel
theorem dX3_workNight_6 : decode cX3_workNight 6 = .ok (.goto 4, 3) := by decide +kernel
theorem dX3_workNight_9 : decode cX3_workNight 9 = .ok (.iconst (-1), 1) := by decide +kernel
theorem dX3_workNight_10 : decode cX3_workNight 10 = .ok (.istore_n 3, 1) := by decide +kernel
theorem dX3_workNight_11 : decode cX3_workNight 11 = .ok (.iload_n 2, 1) := by decide +kernel
theorem dX3_workNight_12 : decode cX3_workNight 12 = .ok (.iload_n 1, 1) := by decide +kernel
theorem dX3_workNight_13 : decode cX3_workNight 13 = .ok (.isub, 1) := by decide +kernel
theorem dX3_workNight_14 : decode cX3_workNight 14 = .ok (.invokestatic 91, 3) := by decide +kernel
theorem dX3_workNight_17 : decode cX3_workNight 17 = .ok (.iconst 1, 1) := by decide +kernel
theorem dX3_workNight_18 : decode cX3_workNight 18 = .ok (.iadd, 1) := by decide +kernel
theorem dX3_workNight_19 : decode cX3_workNight 19 = .ok (.istore 4, 2) := by decide +kernel
theorem dX3_workNight_21 : decode cX3_workNight 21 = .ok (.aload_n 0, 1) := by decide +kernel
theorem dX3_workNight_22 : decode cX3_workNight 22 = .ok (.invokevirtual 97, 3) := by decide +kernel
theorem dX3_workNight_25 : decode cX3_workNight 25 = .ok (.istore 5, 2) := by decide +kernel
theorem dX3_workNight_27 : decode cX3_workNight 27 = .ok (.iconst 0, 1) := by decide +kernel
theorem dX3_workNight_28 : decode cX3_workNight 28 = .ok (.istore 6, 2) := by decide +kernel
theorem dX3_workNight_30 : decode cX3_workNight 30 = .ok (.iconst 0, 1) := by decide +kernel
theorem dX3_workNight_31 : decode cX3_workNight 31 = .ok (.istore 7, 2) := by decide +kernel
theorem dX3_workNight_33 : decode cX3_workNight 33 = .ok (.iload 7, 2) := by decide +kernel
theorem dX3_workNight_35 : decode cX3_workNight 35 = .ok (.iload 4, 2) := by decide +kernel
theorem dX3_workNight_37 : decode cX3_workNight 37 = .ok (.if_icmp .ge 29, 3) := by decide +kernel
theorem dX3_workNight_40 : decode cX3_workNight 40 = .ok (.iload 6, 2) := by decide +kernel
theorem dX3_workNight_42 : decode cX3_workNight 42 = .ok (.aload_n 0, 1) := by decide +kernel
theorem dX3_workNight_43 : decode cX3_workNight 43 = .ok (.iload_n 1, 1) := by decide +kernel
theorem dX3_workNight_44 : decode cX3_workNight 44 = .ok (.iload 7, 2) := by decide +kernel
theorem dX3_workNight_46 : decode cX3_workNight 46 = .ok (.iload_n 3, 1) := by decide +kernel
theorem dX3_workNight_47 : decode cX3_workNight 47 = .ok (.imul, 1) := by decide +kernel
theorem dX3_workNight_48 : decode cX3_workNight 48 = .ok (.iadd, 1) := by decide +kernel
theorem dX3_workNight_49 : decode cX3_workNight 49 = .ok (.iload 5, 2) := by decide +kernel
theorem dX3_workNight_51 : decode cX3_workNight 51 = .ok (.iload 6, 2) := by decide +kernel
theorem dX3_workNight_53 : decode cX3_workNight 53 = .ok (.isub, 1) := by decide +kernel
theorem dX3_workNight_54 : decode cX3_workNight 54 = .ok (.invokevirtual 100, 3) := by decide +kernel
theorem dX3_workNight_57 : decode cX3_workNight 57 = .ok (.iadd, 1) := by decide +kernel
theorem dX3_workNight_58 : decode cX3_workNight 58 = .ok (.istore 6, 2) := by decide +kernel
theorem dX3_workNight_60 : decode cX3_workNight 60 = .ok (.iinc 7 1, 3) := by decide +kernel
theorem dX3_workNight_63 : decode cX3_workNight 63 = .ok (.goto (-30), 3) := by decide +kernel
theorem dX3_workNight_66 : decode cX3_workNight 66 = .ok (.aload_n 0, 1) := by decide +kernel
theorem dX3_workNight_67 : decode cX3_workNight 67 = .ok (.dup, 1) := by decide +kernel
theorem dX3_workNight_68 : decode cX3_workNight 68 = .ok (.getfield 33, 3) := by decide +kernel
theorem dX3_workNight_71 : decode cX3_workNight 71 = .ok (.iload 6, 2) := by decide +kernel
theorem dX3_workNight_73 : decode cX3_workNight 73 = .ok (.isub, 1) := by decide +kernel
theorem dX3_workNight_74 : decode cX3_workNight 74 = .ok (.putfield 33, 3) := by decide +kernel
theorem dX3_workNight_77 : decode cX3_workNight 77 = .ok (.aload_n 0, 1) := by decide +kernel
theorem dX3_workNight_78 : decode cX3_workNight 78 = .ok (.dup, 1) := by decide +kernel
theorem dX3_workNight_79 : decode cX3_workNight 79 = .ok (.getfield 50, 3) := by decide +kernel
theorem dX3_workNight_82 : decode cX3_workNight 82 = .ok (.iconst 1, 1) := by decide +kernel
theorem dX3_workNight_83 : decode cX3_workNight 83 = .ok (.iadd, 1) := by decide +kernel
theorem dX3_workNight_84 : decode cX3_workNight 84 = .ok (.putfield 50, 3) := by decide +kernel
theorem dX3_workNight_87 : decode cX3_workNight 87 = .ok (.aload_n 0, 1) := by decide +kernel
theorem dX3_workNight_88 : decode cX3_workNight 88 = .ok (.dup, 1) := by decide +kernel
theorem dX3_workNight_89 : decode cX3_workNight 89 = .ok (.getfield 53, 3) := by decide +kernel
theorem dX3_workNight_92 : decode cX3_workNight 92 = .ok (.iload 6, 2) := by decide +kernel
theorem dX3_workNight_94 : decode cX3_workNight 94 = .ok (.iadd, 1) := by decide +kernel
theorem dX3_workNight_95 : decode cX3_workNight 95 = .ok (.putfield 53, 3) := by decide +kernel
theorem dX3_workNight_98 : decode cX3_workNight 98 = .ok (.iload 6, 2) := by decide +kernel
theorem dX3_workNight_100 : decode cX3_workNight 100 = .ok (.ireturn, 1) := by decide +kernel
set_option maxRecDepth 20000 in
theorem ggX3_repaintMile_X4_repaintFaded : GoodIn wsX3_repaintMile wsX4_repaintFaded := goodIn_r _ [8, 9, 10, 11, 12, 13, 7, 14, 25, 26, 27] (by decide +kernel) (by decide +kernel)
set_option maxRecDepth 20000 in
theorem gX3_repaintMile_X4_repaintFaded : GoodIn wsX3_repaintMile (wsV RX3 103 RX4 yX4_repaintFaded wsX4_repaintFaded) := goodIn_app (goodIn_of _ (by decide +kernel)) ggX3_repaintMile_X4_repaintFaded
theorem dX3_repaintMile_0 : decode cX3_repaintMile 0 = .ok (.aload_n 0, 1) := by decide +kernel
theorem dX3_repaintMile_1 : decode cX3_repaintMile 1 = .ok (.getfield 20, 3) := by decide +kernel
theorem dX3_repaintMile_4 : decode cX3_repaintMile 4 = .ok (.iload_n 1, 1) := by decide +kernel
theorem dX3_repaintMile_5 : decode cX3_repaintMile 5 = .ok (.iload_n 2, 1) := by decide +kernel
theorem dX3_repaintMile_6 : decode cX3_repaintMile 6 = .ok (.invokevirtual 103, 3) := by decide +kernel
theorem dX3_repaintMile_9 : decode cX3_repaintMile 9 = .ok (.istore_n 3, 1) := by decide +kernel
theorem dX3_repaintMile_10 : decode cX3_repaintMile 10 = .ok (.iload_n 3, 1) := by decide +kernel
theorem dX3_repaintMile_11 : decode cX3_repaintMile 11 = .ok (.aload_n 0, 1) := by decide +kernel
theorem dX3_repaintMile_12 : decode cX3_repaintMile 12 = .ok (.getfield 14, 3) := by decide +kernel
theorem dX3_repaintMile_15 : decode cX3_repaintMile 15 = .ok (.iload_n 1, 1) := by decide +kernel
theorem dX3_repaintMile_16 : decode cX3_repaintMile 16 = .ok (.iload_n 2, 1) := by decide +kernel
theorem dX3_repaintMile_17 : decode cX3_repaintMile 17 = .ok (.iload_n 3, 1) := by decide +kernel
theorem dX3_repaintMile_18 : decode cX3_repaintMile 18 = .ok (.isub, 1) := by decide +kernel
theorem dX3_repaintMile_19 : decode cX3_repaintMile 19 = .ok (.invokevirtual 103, 3) := by decide +kernel
theorem dX3_repaintMile_22 : decode cX3_repaintMile 22 = .ok (.iadd, 1) := by decide +kernel
theorem dX3_repaintMile_23 : decode cX3_repaintMile 23 = .ok (.istore_n 3, 1) := by decide +kernel
theorem dX3_repaintMile_24 : decode cX3_repaintMile 24 = .ok (.iload_n 3, 1) := by decide +kernel
theorem dX3_repaintMile_25 : decode cX3_repaintMile 25 = .ok (.aload_n 0, 1) := by decide +kernel
theorem dX3_repaintMile_26 : decode cX3_repaintMile 26 = .ok (.getfield 23, 3) := by decide +kernel
theorem dX3_repaintMile_29 : decode cX3_repaintMile 29 = .ok (.iload_n 1, 1) := by decide +kernel
theorem dX3_repaintMile_30 : decode cX3_repaintMile 30 = .ok (.iload_n 2, 1) := by decide +kernel
theorem dX3_repaintMile_31 : decode cX3_repaintMile 31 = .ok (.iload_n 3, 1) := by decide +kernel
theorem dX3_repaintMile_32 : decode cX3_repaintMile 32 = .ok (.isub, 1) := by decide +kernel
theorem dX3_repaintMile_33 : decode cX3_repaintMile 33 = .ok (.invokevirtual 103, 3) := by decide +kernel
theorem dX3_repaintMile_36 : decode cX3_repaintMile 36 = .ok (.iadd, 1) := by decide +kernel
theorem dX3_repaintMile_37 : decode cX3_repaintMile 37 = .ok (.istore_n 3, 1) := by decide +kernel
theorem dX3_repaintMile_38 : decode cX3_repaintMile 38 = .ok (.iload_n 3, 1) := by decide +kernel
theorem dX3_repaintMile_39 : decode cX3_repaintMile 39 = .ok (.ireturn, 1) := by decide +kernel
theorem dX3_crewLimit_0 : decode cX3_crewLimit 0 = .ok (.aload_n 0, 1) := by decide +kernel
theorem dX3_crewLimit_1 : decode cX3_crewLimit 1 = .ok (.getfield 33, 3) := by decide +kernel
theorem dX3_crewLimit_4 : decode cX3_crewLimit 4 = .ok (.aload_n 0, 1) := by decide +kernel
theorem dX3_crewLimit_5 : decode cX3_crewLimit 5 = .ok (.getfield 30, 3) := by decide +kernel
theorem dX3_crewLimit_8 : decode cX3_crewLimit 8 = .ok (.iconst 1, 1) := by decide +kernel
theorem dX3_crewLimit_9 : decode cX3_crewLimit 9 = .ok (.iaload, 1) := by decide +kernel
theorem dX3_crewLimit_10 : decode cX3_crewLimit 10 = .ok (.invokestatic 106, 3) := by decide +kernel
theorem dX3_crewLimit_13 : decode cX3_crewLimit 13 = .ok (.ireturn, 1) := by decide +kernel
set_option maxRecDepth 20000 in
theorem ggX3_cellPart_X4_kindOr : GoodIn wsX3_cellPart wsX4_kindOr := goodIn_r _ [7, 8, 9, 40, 41, 42] (by decide +kernel) (by decide +kernel)
set_option maxRecDepth 20000 in
theorem gX3_cellPart_X4_kindOr : GoodIn wsX3_cellPart (wsV RX3 88 RX4 yX4_kindOr wsX4_kindOr) := goodIn_app (goodIn_of _ (by decide +kernel)) ggX3_cellPart_X4_kindOr
set_option maxRecDepth 20000 in
theorem ggX3_cellPart_X4_strengthAt : GoodIn wsX3_cellPart wsX4_strengthAt := goodIn_r _ [13, 8, 40, 41, 42] (by decide +kernel) (by decide +kernel)
set_option maxRecDepth 20000 in
theorem gX3_cellPart_X4_strengthAt : GoodIn wsX3_cellPart (wsV RX3 109 RX4 yX4_strengthAt wsX4_strengthAt) := goodIn_app (goodIn_of _ (by decide +kernel)) ggX3_cellPart_X4_strengthAt
set_option maxRecDepth 20000 in
theorem ggX3_cellPart_X3_canRead : GoodIn wsX3_cellPart wsX3_canRead := goodIn_r _ [18, 2, 19, 10, 11, 12, 6, 13, 8, 30, 31, 32, 33, 34, 35, 36, 37, 38, 39, 40, 41, 42] (by decide +kernel) (by decide +kernel)
set_option maxRecDepth 20000 in
theorem gX3_cellPart_X3_canRead : GoodIn wsX3_cellPart (wsV RX3 84 RX3 yX3_canRead wsX3_canRead) := goodIn_app (goodIn_of _ (by decide +kernel)) ggX3_cellPart_X3_canRead
set_option maxRecDepth 20000 in
theorem ggX3_cellPart_X5_asNumber : GoodIn wsX3_cellPart wsX5_asNumber := goodIn_r _ [22] (by decide +kernel) (by decide +kernel)
set_option maxRecDepth 20000 in
theorem gX3_cellPart_X5_asNumber_n112 : GoodIn wsX3_cellPart (wsX5_asNumber) := ggX3_cellPart_X5_asNumber
set_option maxRecDepth 20000 in
theorem ggX3_cellPart_X3_isFree : GoodIn wsX3_cellPart wsX3_isFree := goodIn_r _ [26, 1, 3, 4, 5, 6, 7, 8, 9, 27, 28, 17, 29, 30, 31, 32, 33, 34, 35, 36, 37, 38, 39, 40, 41, 42] (by decide +kernel) (by decide +kernel)
set_option maxRecDepth 20000 in
theorem gX3_cellPart_X3_isFree : GoodIn wsX3_cellPart (wsV RX3 116 RX3 yX3_isFree wsX3_isFree) := goodIn_app (goodIn_of _ (by decide +kernel)) ggX3_cellPart_X3_isFree
theorem dX3_cellPart_0 : decode cX3_cellPart 0 = .ok (.iload_n 3, 1) := by decide +kernel
theorem dX3_cellPart_1 : decode cX3_cellPart 1 = .ok (.tableswitch 119 0 6 #[43, 55, 65, 77, 87, 97, 108], 43) := by decide +kernel
theorem dX3_cellPart_44 : decode cX3_cellPart 44 = .ok (.aload_n 0, 1) := by decide +kernel
theorem dX3_cellPart_45 : decode cX3_cellPart 45 = .ok (.getfield 14, 3) := by decide +kernel
theorem dX3_cellPart_48 : decode cX3_cellPart 48 = .ok (.iload_n 1, 1) := by decide +kernel
theorem dX3_cellPart_49 : decode cX3_cellPart 49 = .ok (.iload_n 2, 1) := by decide +kernel
theorem dX3_cellPart_50 : decode cX3_cellPart 50 = .ok (.bipush (-6), 2) := by decide +kernel
theorem dX3_cellPart_52 : decode cX3_cellPart 52 = .ok (.invokevirtual 88, 3) := by decide +kernel
theorem dX3_cellPart_55 : decode cX3_cellPart 55 = .ok (.ireturn, 1) := by decide +kernel
theorem dX3_cellPart_56 : decode cX3_cellPart 56 = .ok (.aload_n 0, 1) := by decide +kernel
theorem dX3_cellPart_57 : decode cX3_cellPart 57 = .ok (.getfield 14, 3) := by decide +kernel
theorem dX3_cellPart_60 : decode cX3_cellPart 60 = .ok (.iload_n 1, 1) := by decide +kernel
theorem dX3_cellPart_61 : decode cX3_cellPart 61 = .ok (.iload_n 2, 1) := by decide +kernel
theorem dX3_cellPart_62 : decode cX3_cellPart 62 = .ok (.invokevirtual 109, 3) := by decide +kernel
theorem dX3_cellPart_65 : decode cX3_cellPart 65 = .ok (.ireturn, 1) := by decide +kernel
theorem dX3_cellPart_66 : decode cX3_cellPart 66 = .ok (.aload_n 0, 1) := by decide +kernel
theorem dX3_cellPart_67 : decode cX3_cellPart 67 = .ok (.getfield 20, 3) := by decide +kernel
theorem dX3_cellPart_70 : decode cX3_cellPart 70 = .ok (.iload_n 1, 1) := by decide +kernel
theorem dX3_cellPart_71 : decode cX3_cellPart 71 = .ok (.iload_n 2, 1) := by decide +kernel
theorem dX3_cellPart_72 : decode cX3_cellPart 72 = .ok (.bipush (-6), 2) := by decide +kernel
theorem dX3_cellPart_74 : decode cX3_cellPart 74 = .ok (.invokevirtual 88, 3) := by decide +kernel
theorem dX3_cellPart_77 : decode cX3_cellPart 77 = .ok (.ireturn, 1) := by decide +kernel
theorem dX3_cellPart_78 : decode cX3_cellPart 78 = .ok (.aload_n 0, 1) := by decide +kernel
theorem dX3_cellPart_79 : decode cX3_cellPart 79 = .ok (.getfield 20, 3) := by decide +kernel
theorem dX3_cellPart_82 : decode cX3_cellPart 82 = .ok (.iload_n 1, 1) := by decide +kernel
theorem dX3_cellPart_83 : decode cX3_cellPart 83 = .ok (.iload_n 2, 1) := by decide +kernel
theorem dX3_cellPart_84 : decode cX3_cellPart 84 = .ok (.invokevirtual 109, 3) := by decide +kernel
theorem dX3_cellPart_87 : decode cX3_cellPart 87 = .ok (.ireturn, 1) := by decide +kernel
theorem dX3_cellPart_88 : decode cX3_cellPart 88 = .ok (.aload_n 0, 1) := by decide +kernel
theorem dX3_cellPart_89 : decode cX3_cellPart 89 = .ok (.iload_n 1, 1) := by decide +kernel
theorem dX3_cellPart_90 : decode cX3_cellPart 90 = .ok (.iload_n 2, 1) := by decide +kernel
theorem dX3_cellPart_91 : decode cX3_cellPart 91 = .ok (.invokevirtual 84, 3) := by decide +kernel
theorem dX3_cellPart_94 : decode cX3_cellPart 94 = .ok (.invokestatic 112, 3) := by decide +kernel
theorem dX3_cellPart_97 : decode cX3_cellPart 97 = .ok (.ireturn, 1) := by decide +kernel
theorem dX3_cellPart_98 : decode cX3_cellPart 98 = .ok (.aload_n 0, 1) := by decide +kernel
theorem dX3_cellPart_99 : decode cX3_cellPart 99 = .ok (.iload_n 1, 1) := by decide +kernel
theorem dX3_cellPart_100 : decode cX3_cellPart 100 = .ok (.iload_n 2, 1) := by decide +kernel
theorem dX3_cellPart_101 : decode cX3_cellPart 101 = .ok (.iconst 0, 1) := by decide +kernel
theorem dX3_cellPart_102 : decode cX3_cellPart 102 = .ok (.invokevirtual 116, 3) := by decide +kernel
theorem dX3_cellPart_105 : decode cX3_cellPart 105 = .ok (.invokestatic 112, 3) := by decide +kernel
theorem dX3_cellPart_108 : decode cX3_cellPart 108 = .ok (.ireturn, 1) := by decide +kernel
theorem dX3_cellPart_109 : decode cX3_cellPart 109 = .ok (.aload_n 0, 1) := by decide +kernel
theorem dX3_cellPart_110 : decode cX3_cellPart 110 = .ok (.iload_n 1, 1) := by decide +kernel
theorem dX3_cellPart_111 : decode cX3_cellPart 111 = .ok (.iload_n 2, 1) := by decide +kernel
theorem dX3_cellPart_112 : decode cX3_cellPart 112 = .ok (.iconst 1, 1) := by decide +kernel
theorem dX3_cellPart_113 : decode cX3_cellPart 113 = .ok (.invokevirtual 116, 3) := by decide +kernel
theorem dX3_cellPart_116 : decode cX3_cellPart 116 = .ok (.invokestatic 112, 3) := by decide +kernel
theorem dX3_cellPart_119 : decode cX3_cellPart 119 = .ok (.ireturn, 1) := by decide +kernel
theorem dX3_cellPart_120 : decode cX3_cellPart 120 = .ok (.bipush (-2), 2) := by decide +kernel
theorem dX3_cellPart_122 : decode cX3_cellPart 122 = .ok (.ireturn, 1) := by decide +kernel
set_option maxRecDepth 20000 in
theorem ggX3_linePart_X3_dashAt : GoodIn wsX3_linePart wsX3_dashAt := goodIn_r _ [6, 1, 7, 8, 9, 10, 11, 12, 13, 18, 19, 20, 21, 22, 23, 24, 25, 26, 27, 28, 29, 30] (by decide +kernel) (by decide +kernel)
set_option maxRecDepth 20000 in
theorem gX3_linePart_X3_dashAt : GoodIn wsX3_linePart (wsV RX3 67 RX3 yX3_dashAt wsX3_dashAt) := goodIn_app (goodIn_of _ (by decide +kernel)) ggX3_linePart_X3_dashAt
set_option maxRecDepth 20000 in
theorem ggX3_linePart_X4_strengthAt : GoodIn wsX3_linePart wsX4_strengthAt := goodIn_r _ [17, 12, 28, 29, 30] (by decide +kernel) (by decide +kernel)
set_option maxRecDepth 20000 in
theorem gX3_linePart_X4_strengthAt : GoodIn wsX3_linePart (wsV RX3 109 RX4 yX4_strengthAt wsX4_strengthAt) := goodIn_app (goodIn_of _ (by decide +kernel)) ggX3_linePart_X4_strengthAt
theorem dX3_linePart_0 : decode cX3_linePart 0 = .ok (.iload_n 3, 1) := by decide +kernel
theorem dX3_linePart_1 : decode cX3_linePart 1 = .ok (.ifCond .ne 12, 3) := by decide +kernel
theorem dX3_linePart_4 : decode cX3_linePart 4 = .ok (.aload_n 0, 1) := by decide +kernel
theorem dX3_linePart_5 : decode cX3_linePart 5 = .ok (.iload_n 1, 1) := by decide +kernel
theorem dX3_linePart_6 : decode cX3_linePart 6 = .ok (.iload_n 2, 1) := by decide +kernel
theorem dX3_linePart_7 : decode cX3_linePart 7 = .ok (.invokevirtual 67, 3) := by decide +kernel
theorem dX3_linePart_10 : decode cX3_linePart 10 = .ok (.goto 12, 3) := by decide +kernel
theorem dX3_linePart_13 : decode cX3_linePart 13 = .ok (.aload_n 0, 1) := by decide +kernel
theorem dX3_linePart_14 : decode cX3_linePart 14 = .ok (.getfield 23, 3) := by decide +kernel
theorem dX3_linePart_17 : decode cX3_linePart 17 = .ok (.iload_n 1, 1) := by decide +kernel
theorem dX3_linePart_18 : decode cX3_linePart 18 = .ok (.iload_n 2, 1) := by decide +kernel
theorem dX3_linePart_19 : decode cX3_linePart 19 = .ok (.invokevirtual 109, 3) := by decide +kernel
theorem dX3_linePart_22 : decode cX3_linePart 22 = .ok (.ireturn, 1) := by decide +kernel
set_option maxRecDepth 20000 in
theorem ggX3_dashAt_X4_kindOr : GoodIn wsX3_dashAt wsX4_kindOr := goodIn_r _ [6, 7, 8, 19, 20, 21] (by decide +kernel) (by decide +kernel)
set_option maxRecDepth 20000 in
theorem gX3_dashAt_X4_kindOr : GoodIn wsX3_dashAt (wsV RX3 88 RX4 yX4_kindOr wsX4_kindOr) := goodIn_app (goodIn_of _ (by decide +kernel)) ggX3_dashAt_X4_kindOr
theorem dX3_dashAt_0 : decode cX3_dashAt 0 = .ok (.aload_n 0, 1) := by decide +kernel
theorem dX3_dashAt_1 : decode cX3_dashAt 1 = .ok (.getfield 23, 3) := by decide +kernel
theorem dX3_dashAt_4 : decode cX3_dashAt 4 = .ok (.iload_n 1, 1) := by decide +kernel
theorem dX3_dashAt_5 : decode cX3_dashAt 5 = .ok (.iload_n 2, 1) := by decide +kernel
theorem dX3_dashAt_6 : decode cX3_dashAt 6 = .ok (.iconst 0, 1) := by decide +kernel
theorem dX3_dashAt_7 : decode cX3_dashAt 7 = .ok (.invokevirtual 88, 3) := by decide +kernel
theorem dX3_dashAt_10 : decode cX3_dashAt 10 = .ok (.ireturn, 1) := by decide +kernel
set_option maxRecDepth 20000 in
theorem ggX3_canRead_X4_strengthAt : GoodIn wsX3_canRead wsX4_strengthAt := goodIn_r _ [7, 8, 19, 20, 21] (by decide +kernel) (by decide +kernel)
set_option maxRecDepth 20000 in
theorem gX3_canRead_X4_strengthAt : GoodIn wsX3_canRead (wsV RX3 109 RX4 yX4_strengthAt wsX4_strengthAt) := goodIn_app (goodIn_of _ (by decide +kernel)) ggX3_canRead_X4_strengthAt
theorem dX3_canRead_0 : decode cX3_canRead 0 = .ok (.aload_n 0, 1) := by decide +kernel
theorem dX3_canRead_1 : decode cX3_canRead 1 = .ok (.getfield 20, 3) := by decide +kernel
theorem dX3_canRead_4 : decode cX3_canRead 4 = .ok (.iload_n 1, 1) := by decide +kernel
theorem dX3_canRead_5 : decode cX3_canRead 5 = .ok (.iload_n 2, 1) := by decide +kernel
theorem dX3_canRead_6 : decode cX3_canRead 6 = .ok (.invokevirtual 109, 3) := by decide +kernel
theorem dX3_canRead_9 : decode cX3_canRead 9 = .ok (.aload_n 0, 1) := by decide +kernel
theorem dX3_canRead_10 : decode cX3_canRead 10 = .ok (.getfield 30, 3) := by decide +kernel
theorem dX3_canRead_13 : decode cX3_canRead 13 = .ok (.iconst 0, 1) := by decide +kernel
theorem dX3_canRead_14 : decode cX3_canRead 14 = .ok (.iaload, 1) := by decide +kernel
theorem dX3_canRead_15 : decode cX3_canRead 15 = .ok (.if_icmp .lt 7, 3) := by decide +kernel
theorem dX3_canRead_18 : decode cX3_canRead 18 = .ok (.iconst 1, 1) := by decide +kernel
theorem dX3_canRead_19 : decode cX3_canRead 19 = .ok (.goto 4, 3) := by decide +kernel
theorem dX3_canRead_22 : decode cX3_canRead 22 = .ok (.iconst 0, 1) := by decide +kernel
theorem dX3_canRead_23 : decode cX3_canRead 23 = .ok (.ireturn, 1) := by decide +kernel
set_option maxRecDepth 20000 in
theorem ggX3_isFree_X4_kindOr : GoodIn wsX3_isFree wsX4_kindOr := goodIn_r _ [6, 7, 8, 23, 24, 25] (by decide +kernel) (by decide +kernel)
set_option maxRecDepth 20000 in
theorem gX3_isFree_X4_kindOr : GoodIn wsX3_isFree (wsV RX3 88 RX4 yX4_kindOr wsX4_kindOr) := goodIn_app (goodIn_of _ (by decide +kernel)) ggX3_isFree_X4_kindOr
set_option maxRecDepth 20000 in
theorem ggX3_isFree_X3_otherWay : GoodIn wsX3_isFree wsX3_otherWay := goodIn_r _ [12] (by decide +kernel) (by decide +kernel)
set_option maxRecDepth 20000 in
theorem gX3_isFree_X3_otherWay : GoodIn wsX3_isFree (va_wsS RX3 120 yX3_otherWay wsX3_otherWay) := goodIn_app (goodIn_of _ (by decide +kernel)) ggX3_isFree_X3_otherWay
theorem dX3_isFree_0 : decode cX3_isFree 0 = .ok (.aload_n 0, 1) := by decide +kernel
theorem dX3_isFree_1 : decode cX3_isFree 1 = .ok (.getfield 14, 3) := by decide +kernel
theorem dX3_isFree_4 : decode cX3_isFree 4 = .ok (.iload_n 1, 1) := by decide +kernel
theorem dX3_isFree_5 : decode cX3_isFree 5 = .ok (.iload_n 2, 1) := by decide +kernel
theorem dX3_isFree_6 : decode cX3_isFree 6 = .ok (.bipush (-6), 2) := by decide +kernel
theorem dX3_isFree_8 : decode cX3_isFree 8 = .ok (.invokevirtual 88, 3) := by decide +kernel
theorem dX3_isFree_11 : decode cX3_isFree 11 = .ok (.iload_n 3, 1) := by decide +kernel
theorem dX3_isFree_12 : decode cX3_isFree 12 = .ok (.invokestatic 120, 3) := by decide +kernel
theorem dX3_isFree_15 : decode cX3_isFree 15 = .ok (.if_icmp .eq 7, 3) := by decide +kernel
theorem dX3_isFree_18 : decode cX3_isFree 18 = .ok (.iconst 1, 1) := by decide +kernel
theorem dX3_isFree_19 : decode cX3_isFree 19 = .ok (.goto 4, 3) := by decide +kernel
theorem dX3_isFree_22 : decode cX3_isFree 22 = .ok (.iconst 0, 1) := by decide +kernel
theorem dX3_isFree_23 : decode cX3_isFree 23 = .ok (.ireturn, 1) := by decide +kernel
theorem dX3_otherWay_0 : decode cX3_otherWay 0 = .ok (.iload_n 0, 1) := by decide +kernel
theorem dX3_otherWay_1 : decode cX3_otherWay 1 = .ok (.ifCond .ne 7, 3) := by decide +kernel
theorem dX3_otherWay_4 : decode cX3_otherWay 4 = .ok (.iconst 1, 1) := by decide +kernel
theorem dX3_otherWay_5 : decode cX3_otherWay 5 = .ok (.goto 13, 3) := by decide +kernel
theorem dX3_otherWay_8 : decode cX3_otherWay 8 = .ok (.iload_n 0, 1) := by decide +kernel
theorem dX3_otherWay_9 : decode cX3_otherWay 9 = .ok (.iconst 1, 1) := by decide +kernel
theorem dX3_otherWay_10 : decode cX3_otherWay 10 = .ok (.if_icmp .ne 7, 3) := by decide +kernel
theorem dX3_otherWay_13 : decode cX3_otherWay 13 = .ok (.iconst 0, 1) := by decide +kernel
theorem dX3_otherWay_14 : decode cX3_otherWay 14 = .ok (.goto 4, 3) := by decide +kernel
theorem dX3_otherWay_17 : decode cX3_otherWay 17 = .ok (.iconst (-1), 1) := by decide +kernel
theorem dX3_otherWay_18 : decode cX3_otherWay 18 = .ok (.ireturn, 1) := by decide +kernel
set_option maxRecDepth 20000 in
theorem ggX3_allowsChange_X3_dashAt : GoodIn wsX3_allowsChange wsX3_dashAt := goodIn_r _ [9, 10, 11, 12, 13, 14, 15, 16, 17, 26, 27, 28, 29, 30, 31, 32, 33, 34, 35, 36, 37, 38] (by decide +kernel) (by decide +kernel)
set_option maxRecDepth 20000 in
theorem gX3_allowsChange_X3_dashAt : GoodIn wsX3_allowsChange (wsV RX3 67 RX3 yX3_dashAt wsX3_dashAt) := goodIn_app (goodIn_of _ (by decide +kernel)) ggX3_allowsChange_X3_dashAt
set_option maxRecDepth 20000 in
theorem ggX3_allowsChange_X3_isFree : GoodIn wsX3_allowsChange wsX3_isFree := goodIn_r _ [21, 22, 11, 12, 13, 14, 15, 16, 17, 23, 24, 8, 25, 26, 27, 28, 29, 30, 31, 32, 33, 34, 35, 36, 37, 38] (by decide +kernel) (by decide +kernel)
set_option maxRecDepth 20000 in
theorem gX3_allowsChange_X3_isFree : GoodIn wsX3_allowsChange (wsV RX3 116 RX3 yX3_isFree wsX3_isFree) := goodIn_app (goodIn_of _ (by decide +kernel)) ggX3_allowsChange_X3_isFree
theorem dX3_allowsChange_0 : decode cX3_allowsChange 0 = .ok (.aload_n 0, 1) := by decide +kernel
theorem dX3_allowsChange_1 : decode cX3_allowsChange 1 = .ok (.iload_n 1, 1) := by decide +kernel
theorem dX3_allowsChange_2 : decode cX3_allowsChange 2 = .ok (.iload_n 2, 1) := by decide +kernel
theorem dX3_allowsChange_3 : decode cX3_allowsChange 3 = .ok (.invokestatic 106, 3) := by decide +kernel
theorem dX3_allowsChange_6 : decode cX3_allowsChange 6 = .ok (.iload_n 3, 1) := by decide +kernel
theorem dX3_allowsChange_7 : decode cX3_allowsChange 7 = .ok (.invokevirtual 67, 3) := by decide +kernel
theorem dX3_allowsChange_10 : decode cX3_allowsChange 10 = .ok (.istore 5, 2) := by decide +kernel
theorem dX3_allowsChange_12 : decode cX3_allowsChange 12 = .ok (.iload 5, 2) := by decide +kernel
theorem dX3_allowsChange_14 : decode cX3_allowsChange 14 = .ok (.ifCond .eq 20, 3) := by decide +kernel
theorem dX3_allowsChange_17 : decode cX3_allowsChange 17 = .ok (.iload 5, 2) := by decide +kernel
theorem dX3_allowsChange_19 : decode cX3_allowsChange 19 = .ok (.iconst 2, 1) := by decide +kernel
theorem dX3_allowsChange_20 : decode cX3_allowsChange 20 = .ok (.if_icmp .eq 14, 3) := by decide +kernel
theorem dX3_allowsChange_23 : decode cX3_allowsChange 23 = .ok (.iload 5, 2) := by decide +kernel
theorem dX3_allowsChange_25 : decode cX3_allowsChange 25 = .ok (.iconst 3, 1) := by decide +kernel
theorem dX3_allowsChange_26 : decode cX3_allowsChange 26 = .ok (.if_icmp .ne 12, 3) := by decide +kernel
theorem dX3_allowsChange_29 : decode cX3_allowsChange 29 = .ok (.iload_n 1, 1) := by decide +kernel
theorem dX3_allowsChange_30 : decode cX3_allowsChange 30 = .ok (.iload_n 2, 1) := by decide +kernel
theorem dX3_allowsChange_31 : decode cX3_allowsChange 31 = .ok (.if_icmp .ge 7, 3) := by decide +kernel
theorem dX3_allowsChange_34 : decode cX3_allowsChange 34 = .ok (.iconst 1, 1) := by decide +kernel
theorem dX3_allowsChange_35 : decode cX3_allowsChange 35 = .ok (.goto 4, 3) := by decide +kernel
theorem dX3_allowsChange_38 : decode cX3_allowsChange 38 = .ok (.iconst 0, 1) := by decide +kernel
theorem dX3_allowsChange_39 : decode cX3_allowsChange 39 = .ok (.istore 6, 2) := by decide +kernel
theorem dX3_allowsChange_41 : decode cX3_allowsChange 41 = .ok (.iload 6, 2) := by decide +kernel
theorem dX3_allowsChange_43 : decode cX3_allowsChange 43 = .ok (.ifCond .eq 18, 3) := by decide +kernel
theorem dX3_allowsChange_46 : decode cX3_allowsChange 46 = .ok (.aload_n 0, 1) := by decide +kernel
theorem dX3_allowsChange_47 : decode cX3_allowsChange 47 = .ok (.iload_n 2, 1) := by decide +kernel
theorem dX3_allowsChange_48 : decode cX3_allowsChange 48 = .ok (.iload_n 3, 1) := by decide +kernel

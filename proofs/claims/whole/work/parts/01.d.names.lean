theorem dX0_driveAlong_38 : decode cX0_driveAlong 38 = .ok (.iload 4, 2) := by decide +kernel
theorem dX0_driveAlong_40 : decode cX0_driveAlong 40 = .ok (.bipush 16, 2) := by decide +kernel
theorem dX0_driveAlong_42 : decode cX0_driveAlong 42 = .ok (.if_icmp .ge 41, 3) := by decide +kernel
theorem dX0_driveAlong_45 : decode cX0_driveAlong 45 = .ok (.iload_n 2, 1) := by decide +kernel
theorem dX0_driveAlong_46 : decode cX0_driveAlong 46 = .ok (.ifCond .ne 8, 3) := by decide +kernel
theorem dX0_driveAlong_49 : decode cX0_driveAlong 49 = .ok (.iload 4, 2) := by decide +kernel
theorem dX0_driveAlong_51 : decode cX0_driveAlong 51 = .ok (.goto 8, 3) := by decide +kernel
theorem dX0_driveAlong_54 : decode cX0_driveAlong 54 = .ok (.bipush 15, 2) := by decide +kernel
theorem dX0_driveAlong_56 : decode cX0_driveAlong 56 = .ok (.iload 4, 2) := by decide +kernel
theorem dX0_driveAlong_58 : decode cX0_driveAlong 58 = .ok (.isub, 1) := by decide +kernel
theorem dX0_driveAlong_59 : decode cX0_driveAlong 59 = .ok (.istore 5, 2) := by decide +kernel
theorem dX0_driveAlong_61 : decode cX0_driveAlong 61 = .ok (.aload_n 0, 1) := by decide +kernel
theorem dX0_driveAlong_62 : decode cX0_driveAlong 62 = .ok (.aload_n 1, 1) := by decide +kernel
theorem dX0_driveAlong_63 : decode cX0_driveAlong 63 = .ok (.iload 5, 2) := by decide +kernel
theorem dX0_driveAlong_65 : decode cX0_driveAlong 65 = .ok (.iload_n 2, 1) := by decide +kernel
theorem dX0_driveAlong_66 : decode cX0_driveAlong 66 = .ok (.invokevirtual 15, 3) := by decide +kernel
theorem dX0_driveAlong_69 : decode cX0_driveAlong 69 = .ok (.aload_n 0, 1) := by decide +kernel
theorem dX0_driveAlong_70 : decode cX0_driveAlong 70 = .ok (.aload_n 1, 1) := by decide +kernel
theorem dX0_driveAlong_71 : decode cX0_driveAlong 71 = .ok (.iload 5, 2) := by decide +kernel
theorem dX0_driveAlong_73 : decode cX0_driveAlong 73 = .ok (.iload_n 2, 1) := by decide +kernel
theorem dX0_driveAlong_74 : decode cX0_driveAlong 74 = .ok (.invokevirtual 19, 3) := by decide +kernel
theorem dX0_driveAlong_77 : decode cX0_driveAlong 77 = .ok (.iinc 4 1, 3) := by decide +kernel
theorem dX0_driveAlong_80 : decode cX0_driveAlong 80 = .ok (.goto (-42), 3) := by decide +kernel
theorem dX0_driveAlong_83 : decode cX0_driveAlong 83 = .ok (.sipush 1000, 3) := by decide +kernel
theorem dX0_driveAlong_86 : decode cX0_driveAlong 86 = .ok (.istore 4, 2) := by decide +kernel
theorem dX0_driveAlong_88 : decode cX0_driveAlong 88 = .ok (.iconst 0, 1) := by decide +kernel
theorem dX0_driveAlong_89 : decode cX0_driveAlong 89 = .ok (.istore 5, 2) := by decide +kernel
theorem dX0_driveAlong_91 : decode cX0_driveAlong 91 = .ok (.iload 5, 2) := by decide +kernel
theorem dX0_driveAlong_93 : decode cX0_driveAlong 93 = .ok (.iconst 3, 1) := by decide +kernel
theorem dX0_driveAlong_94 : decode cX0_driveAlong 94 = .ok (.if_icmp .ge 23, 3) := by decide +kernel
theorem dX0_driveAlong_97 : decode cX0_driveAlong 97 = .ok (.iload 4, 2) := by decide +kernel
theorem dX0_driveAlong_99 : decode cX0_driveAlong 99 = .ok (.aload_n 0, 1) := by decide +kernel
theorem dX0_driveAlong_100 : decode cX0_driveAlong 100 = .ok (.getfield 9, 3) := by decide +kernel
theorem dX0_driveAlong_103 : decode cX0_driveAlong 103 = .ok (.iload 5, 2) := by decide +kernel
theorem dX0_driveAlong_105 : decode cX0_driveAlong 105 = .ok (.iaload, 1) := by decide +kernel
theorem dX0_driveAlong_106 : decode cX0_driveAlong 106 = .ok (.invokestatic 22, 3) := by decide +kernel
theorem dX0_driveAlong_109 : decode cX0_driveAlong 109 = .ok (.istore 4, 2) := by decide +kernel
theorem dX0_driveAlong_111 : decode cX0_driveAlong 111 = .ok (.iinc 5 1, 3) := by decide +kernel
theorem dX0_driveAlong_114 : decode cX0_driveAlong 114 = .ok (.goto (-23), 3) := by decide +kernel
theorem dX0_driveAlong_117 : decode cX0_driveAlong 117 = .ok (.iload 4, 2) := by decide +kernel
theorem dX0_driveAlong_119 : decode cX0_driveAlong 119 = .ok (.sipush 1000, 3) := by decide +kernel
theorem dX0_driveAlong_122 : decode cX0_driveAlong 122 = .ok (.if_icmp .ne 8, 3) := by decide +kernel
theorem dX0_driveAlong_125 : decode cX0_driveAlong 125 = .ok (.bipush (-6), 2) := by decide +kernel
theorem dX0_driveAlong_127 : decode cX0_driveAlong 127 = .ok (.goto 5, 3) := by decide +kernel
theorem dX0_driveAlong_130 : decode cX0_driveAlong 130 = .ok (.iload 4, 2) := by decide +kernel
theorem dX0_driveAlong_132 : decode cX0_driveAlong 132 = .ok (.ireturn, 1) := by decide +kernel
set_option maxRecDepth 20000 in
theorem ggX0_enterMile_X3_isFree : GoodIn wsX0_enterMile wsX3_isFree := goodIn_r _ [6, 7, 8, 9, 10, 11, 12, 13, 14, 15, 16, 5, 17, 19, 20, 21, 22, 23, 24, 25, 26, 27, 28, 29, 30, 31] (by decide +kernel) (by decide +kernel)
set_option maxRecDepth 20000 in
theorem gX0_enterMile_X3_isFree : GoodIn wsX0_enterMile (wsV RX0 28 RX3 yX3_isFree wsX3_isFree) := goodIn_app (goodIn_of _ (by decide +kernel)) ggX0_enterMile_X3_isFree
theorem dX0_enterMile_0 : decode cX0_enterMile 0 = .ok (.iconst 0, 1) := by decide +kernel
theorem dX0_enterMile_1 : decode cX0_enterMile 1 = .ok (.istore 4, 2) := by decide +kernel
theorem dX0_enterMile_3 : decode cX0_enterMile 3 = .ok (.iload 4, 2) := by decide +kernel
theorem dX0_enterMile_5 : decode cX0_enterMile 5 = .ok (.iconst 3, 1) := by decide +kernel
theorem dX0_enterMile_6 : decode cX0_enterMile 6 = .ok (.if_icmp .ge 30, 3) := by decide +kernel
theorem dX0_enterMile_9 : decode cX0_enterMile 9 = .ok (.aload_n 1, 1) := by decide +kernel
theorem dX0_enterMile_10 : decode cX0_enterMile 10 = .ok (.iload 4, 2) := by decide +kernel
theorem dX0_enterMile_12 : decode cX0_enterMile 12 = .ok (.iload_n 2, 1) := by decide +kernel
theorem dX0_enterMile_13 : decode cX0_enterMile 13 = .ok (.iload_n 3, 1) := by decide +kernel
theorem dX0_enterMile_14 : decode cX0_enterMile 14 = .ok (.invokevirtual 28, 3) := by decide +kernel
theorem dX0_enterMile_17 : decode cX0_enterMile 17 = .ok (.ifCond .ne 13, 3) := by decide +kernel
theorem dX0_enterMile_20 : decode cX0_enterMile 20 = .ok (.aload_n 0, 1) := by decide +kernel
theorem dX0_enterMile_21 : decode cX0_enterMile 21 = .ok (.getfield 9, 3) := by decide +kernel
theorem dX0_enterMile_24 : decode cX0_enterMile 24 = .ok (.iload 4, 2) := by decide +kernel
theorem dX0_enterMile_26 : decode cX0_enterMile 26 = .ok (.sipush 1000, 3) := by decide +kernel
theorem dX0_enterMile_29 : decode cX0_enterMile 29 = .ok (.iastore, 1) := by decide +kernel
theorem dX0_enterMile_30 : decode cX0_enterMile 30 = .ok (.iinc 4 1, 3) := by decide +kernel
theorem dX0_enterMile_33 : decode cX0_enterMile 33 = .ok (.goto (-30), 3) := by decide +kernel
theorem dX0_enterMile_36 : decode cX0_enterMile 36 = .ok (.return_, 1) := by decide +kernel
set_option maxRecDepth 20000 in
theorem ggX0_changeLanes_X0_changeLane : GoodIn wsX0_changeLanes wsX0_changeLane := goodIn_r _ [5, 6, 7, 8, 9, 10, 11, 12, 13, 14, 15, 16, 17, 18, 19, 20, 21, 22, 23, 24, 25, 26, 27, 28, 29, 30, 31, 32, 33, 34, 35, 36, 37, 38, 39, 40, 41, 42, 43, 44, 45, 46, 47, 48, 49, 50] (by decide +kernel) (by decide +kernel)
set_option maxRecDepth 20000 in
theorem gX0_changeLanes_X0_changeLane : GoodIn wsX0_changeLanes (wsV RX0 34 RX0 yX0_changeLane wsX0_changeLane) := goodIn_app (goodIn_of _ (by decide +kernel)) ggX0_changeLanes_X0_changeLane
theorem dX0_changeLanes_0 : decode cX0_changeLanes 0 = .ok (.iconst 0, 1) := by decide +kernel
theorem dX0_changeLanes_1 : decode cX0_changeLanes 1 = .ok (.istore 4, 2) := by decide +kernel
theorem dX0_changeLanes_3 : decode cX0_changeLanes 3 = .ok (.iload 4, 2) := by decide +kernel
theorem dX0_changeLanes_5 : decode cX0_changeLanes 5 = .ok (.iconst 1, 1) := by decide +kernel
theorem dX0_changeLanes_6 : decode cX0_changeLanes 6 = .ok (.iadd, 1) := by decide +kernel
theorem dX0_changeLanes_7 : decode cX0_changeLanes 7 = .ok (.iconst 3, 1) := by decide +kernel
theorem dX0_changeLanes_8 : decode cX0_changeLanes 8 = .ok (.if_icmp .ge 22, 3) := by decide +kernel
theorem dX0_changeLanes_11 : decode cX0_changeLanes 11 = .ok (.aload_n 0, 1) := by decide +kernel
theorem dX0_changeLanes_12 : decode cX0_changeLanes 12 = .ok (.aload_n 1, 1) := by decide +kernel
theorem dX0_changeLanes_13 : decode cX0_changeLanes 13 = .ok (.iload 4, 2) := by decide +kernel
theorem dX0_changeLanes_15 : decode cX0_changeLanes 15 = .ok (.iload 4, 2) := by decide +kernel
theorem dX0_changeLanes_17 : decode cX0_changeLanes 17 = .ok (.iconst 1, 1) := by decide +kernel
theorem dX0_changeLanes_18 : decode cX0_changeLanes 18 = .ok (.iadd, 1) := by decide +kernel
theorem dX0_changeLanes_19 : decode cX0_changeLanes 19 = .ok (.iload_n 2, 1) := by decide +kernel
theorem dX0_changeLanes_20 : decode cX0_changeLanes 20 = .ok (.iload_n 3, 1) := by decide +kernel
theorem dX0_changeLanes_21 : decode cX0_changeLanes 21 = .ok (.invokevirtual 34, 3) := by decide +kernel
theorem dX0_changeLanes_24 : decode cX0_changeLanes 24 = .ok (.iinc 4 1, 3) := by decide +kernel
theorem dX0_changeLanes_27 : decode cX0_changeLanes 27 = .ok (.goto (-24), 3) := by decide +kernel
theorem dX0_changeLanes_30 : decode cX0_changeLanes 30 = .ok (.iconst 2, 1) := by decide +kernel
theorem dX0_changeLanes_31 : decode cX0_changeLanes 31 = .ok (.istore 4, 2) := by decide +kernel
theorem dX0_changeLanes_33 : decode cX0_changeLanes 33 = .ok (.iload 4, 2) := by decide +kernel
theorem dX0_changeLanes_35 : decode cX0_changeLanes 35 = .ok (.ifCond .le 22, 3) := by decide +kernel
theorem dX0_changeLanes_38 : decode cX0_changeLanes 38 = .ok (.aload_n 0, 1) := by decide +kernel
theorem dX0_changeLanes_39 : decode cX0_changeLanes 39 = .ok (.aload_n 1, 1) := by decide +kernel
theorem dX0_changeLanes_40 : decode cX0_changeLanes 40 = .ok (.iload 4, 2) := by decide +kernel
theorem dX0_changeLanes_42 : decode cX0_changeLanes 42 = .ok (.iload 4, 2) := by decide +kernel
theorem dX0_changeLanes_44 : decode cX0_changeLanes 44 = .ok (.iconst 1, 1) := by decide +kernel
theorem dX0_changeLanes_45 : decode cX0_changeLanes 45 = .ok (.isub, 1) := by decide +kernel
theorem dX0_changeLanes_46 : decode cX0_changeLanes 46 = .ok (.iload_n 2, 1) := by decide +kernel
theorem dX0_changeLanes_47 : decode cX0_changeLanes 47 = .ok (.iload_n 3, 1) := by decide +kernel
theorem dX0_changeLanes_48 : decode cX0_changeLanes 48 = .ok (.invokevirtual 34, 3) := by decide +kernel
theorem dX0_changeLanes_51 : decode cX0_changeLanes 51 = .ok (.iinc 4 (-1), 3) := by decide +kernel
theorem dX0_changeLanes_54 : decode cX0_changeLanes 54 = .ok (.goto (-21), 3) := by decide +kernel
theorem dX0_changeLanes_57 : decode cX0_changeLanes 57 = .ok (.return_, 1) := by decide +kernel
set_option maxRecDepth 20000 in
theorem ggX0_changeLane_X3_allowsChange : GoodIn wsX0_changeLane wsX3_allowsChange := goodIn_r _ [10, 11, 3, 4, 5, 12, 13, 14, 9, 15, 16, 17, 18, 19, 20, 21, 22, 23, 24, 25, 26, 27, 28, 29, 30, 31, 33, 34, 35, 36, 37, 38, 39, 40, 41, 42, 43, 44, 45] (by decide +kernel) (by decide +kernel)
set_option maxRecDepth 20000 in
theorem gX0_changeLane_X3_allowsChange : GoodIn wsX0_changeLane (wsV RX0 38 RX3 yX3_allowsChange wsX3_allowsChange) := goodIn_app (goodIn_of _ (by decide +kernel)) ggX0_changeLane_X3_allowsChange
theorem dX0_changeLane_0 : decode cX0_changeLane 0 = .ok (.aload_n 0, 1) := by decide +kernel
theorem dX0_changeLane_1 : decode cX0_changeLane 1 = .ok (.getfield 9, 3) := by decide +kernel
theorem dX0_changeLane_4 : decode cX0_changeLane 4 = .ok (.iload_n 2, 1) := by decide +kernel
theorem dX0_changeLane_5 : decode cX0_changeLane 5 = .ok (.iaload, 1) := by decide +kernel
theorem dX0_changeLane_6 : decode cX0_changeLane 6 = .ok (.sipush 1000, 3) := by decide +kernel
theorem dX0_changeLane_9 : decode cX0_changeLane 9 = .ok (.if_icmp .ge 39, 3) := by decide +kernel
theorem dX0_changeLane_12 : decode cX0_changeLane 12 = .ok (.aload_n 1, 1) := by decide +kernel
theorem dX0_changeLane_13 : decode cX0_changeLane 13 = .ok (.iload_n 2, 1) := by decide +kernel
theorem dX0_changeLane_14 : decode cX0_changeLane 14 = .ok (.iload_n 3, 1) := by decide +kernel
theorem dX0_changeLane_15 : decode cX0_changeLane 15 = .ok (.iload 4, 2) := by decide +kernel
theorem dX0_changeLane_17 : decode cX0_changeLane 17 = .ok (.iload 5, 2) := by decide +kernel
theorem dX0_changeLane_19 : decode cX0_changeLane 19 = .ok (.invokevirtual 38, 3) := by decide +kernel
theorem dX0_changeLane_22 : decode cX0_changeLane 22 = .ok (.ifCond .eq 26, 3) := by decide +kernel
theorem dX0_changeLane_25 : decode cX0_changeLane 25 = .ok (.aload_n 0, 1) := by decide +kernel
theorem dX0_changeLane_26 : decode cX0_changeLane 26 = .ok (.getfield 9, 3) := by decide +kernel
theorem dX0_changeLane_29 : decode cX0_changeLane 29 = .ok (.iload_n 3, 1) := by decide +kernel
theorem dX0_changeLane_30 : decode cX0_changeLane 30 = .ok (.aload_n 0, 1) := by decide +kernel
theorem dX0_changeLane_31 : decode cX0_changeLane 31 = .ok (.getfield 9, 3) := by decide +kernel
theorem dX0_changeLane_34 : decode cX0_changeLane 34 = .ok (.iload_n 3, 1) := by decide +kernel
theorem dX0_changeLane_35 : decode cX0_changeLane 35 = .ok (.iaload, 1) := by decide +kernel
theorem dX0_changeLane_36 : decode cX0_changeLane 36 = .ok (.aload_n 0, 1) := by decide +kernel
theorem dX0_changeLane_37 : decode cX0_changeLane 37 = .ok (.getfield 9, 3) := by decide +kernel
theorem dX0_changeLane_40 : decode cX0_changeLane 40 = .ok (.iload_n 2, 1) := by decide +kernel
theorem dX0_changeLane_41 : decode cX0_changeLane 41 = .ok (.iaload, 1) := by decide +kernel
theorem dX0_changeLane_42 : decode cX0_changeLane 42 = .ok (.iconst 1, 1) := by decide +kernel
theorem dX0_changeLane_43 : decode cX0_changeLane 43 = .ok (.iadd, 1) := by decide +kernel
theorem dX0_changeLane_44 : decode cX0_changeLane 44 = .ok (.invokestatic 22, 3) := by decide +kernel
theorem dX0_changeLane_47 : decode cX0_changeLane 47 = .ok (.iastore, 1) := by decide +kernel
theorem dX0_changeLane_48 : decode cX0_changeLane 48 = .ok (.return_, 1) := by decide +kernel
set_option maxRecDepth 20000 in
theorem ggX1_init_X3_init : GoodIn wsX1_init wsX3_init := goodIn_r _ [10, 11, 2, 3, 12, 13, 14, 15, 16, 17, 18, 19, 20, 21, 22, 23, 24, 25, 26, 27, 28, 42, 43, 44, 32, 33, 34, 35, 36, 37, 38, 39, 40, 41] (by decide +kernel) (by decide +kernel)
set_option maxRecDepth 20000 in
theorem gX1_init_X3_init : GoodIn wsX1_init (wsX3_init) := ggX1_init_X3_init
theorem dX1_init_0 : decode cX1_init 0 = .ok (.aload_n 0, 1) := by decide +kernel
theorem dX1_init_1 : decode cX1_init 1 = .ok (.invokespecial 3, 3) := by decide +kernel
theorem dX1_init_4 : decode cX1_init 4 = .ok (.aload_n 0, 1) := by decide +kernel
theorem dX1_init_5 : decode cX1_init 5 = .ok (.iconst 5, 1) := by decide +kernel
theorem dX1_init_6 : decode cX1_init 6 = .ok (.anewarray 9, 3) := by decide +kernel
theorem dX1_init_9 : decode cX1_init 9 = .ok (.putfield 11, 3) := by decide +kernel
theorem dX1_init_12 : decode cX1_init 12 = .ok (.iconst 0, 1) := by decide +kernel
theorem dX1_init_13 : decode cX1_init 13 = .ok (.istore_n 1, 1) := by decide +kernel
theorem dX1_init_14 : decode cX1_init 14 = .ok (.iload_n 1, 1) := by decide +kernel
theorem dX1_init_15 : decode cX1_init 15 = .ok (.iconst 5, 1) := by decide +kernel
theorem dX1_init_16 : decode cX1_init 16 = .ok (.if_icmp .ge 22, 3) := by decide +kernel
theorem dX1_init_19 : decode cX1_init 19 = .ok (.aload_n 0, 1) := by decide +kernel
theorem dX1_init_20 : decode cX1_init 20 = .ok (.getfield 11, 3) := by decide +kernel
theorem dX1_init_23 : decode cX1_init 23 = .ok (.iload_n 1, 1) := by decide +kernel
theorem dX1_init_24 : decode cX1_init 24 = .ok (.new 9, 3) := by decide +kernel
theorem dX1_init_27 : decode cX1_init 27 = .ok (.dup, 1) := by decide +kernel
theorem dX1_init_28 : decode cX1_init 28 = .ok (.invokespecial 17, 3) := by decide +kernel
theorem dX1_init_31 : decode cX1_init 31 = .ok (.aastore, 1) := by decide +kernel
theorem dX1_init_32 : decode cX1_init 32 = .ok (.iinc 1 1, 3) := by decide +kernel
theorem dX1_init_35 : decode cX1_init 35 = .ok (.goto (-21), 3) := by decide +kernel
theorem dX1_init_38 : decode cX1_init 38 = .ok (.return_, 1) := by decide +kernel
set_option maxRecDepth 20000 in
theorem ggX1_record_X3_copyFrom : GoodIn wsX1_record wsX3_copyFrom := goodIn_r _ [8, 9, 10, 11, 12, 13, 14, 15, 16, 17, 18, 19, 20, 21, 22, 23, 24, 25, 26, 27, 28, 29, 33, 34, 35, 36, 37, 38, 39, 40, 41, 42, 43, 44, 45] (by decide +kernel) (by decide +kernel)
set_option maxRecDepth 20000 in
theorem gX1_record_X3_copyFrom : GoodIn wsX1_record (wsV RX1 25 RX3 yX3_copyFrom wsX3_copyFrom) := goodIn_app (goodIn_of _ (by decide +kernel)) ggX1_record_X3_copyFrom
theorem dX1_record_0 : decode cX1_record 0 = .ok (.aload_n 0, 1) := by decide +kernel
theorem dX1_record_1 : decode cX1_record 1 = .ok (.getfield 11, 3) := by decide +kernel
theorem dX1_record_4 : decode cX1_record 4 = .ok (.aload_n 0, 1) := by decide +kernel
theorem dX1_record_5 : decode cX1_record 5 = .ok (.getfield 18, 3) := by decide +kernel
theorem dX1_record_8 : decode cX1_record 8 = .ok (.aload_n 0, 1) := by decide +kernel
theorem dX1_record_9 : decode cX1_record 9 = .ok (.getfield 22, 3) := by decide +kernel
theorem dX1_record_12 : decode cX1_record 12 = .ok (.iadd, 1) := by decide +kernel
theorem dX1_record_13 : decode cX1_record 13 = .ok (.iconst 5, 1) := by decide +kernel
theorem dX1_record_14 : decode cX1_record 14 = .ok (.irem, 1) := by decide +kernel
theorem dX1_record_15 : decode cX1_record 15 = .ok (.aaload, 1) := by decide +kernel
theorem dX1_record_16 : decode cX1_record 16 = .ok (.aload_n 1, 1) := by decide +kernel
theorem dX1_record_17 : decode cX1_record 17 = .ok (.invokevirtual 25, 3) := by decide +kernel
theorem dX1_record_20 : decode cX1_record 20 = .ok (.aload_n 0, 1) := by decide +kernel
theorem dX1_record_21 : decode cX1_record 21 = .ok (.getfield 22, 3) := by decide +kernel
theorem dX1_record_24 : decode cX1_record 24 = .ok (.iconst 5, 1) := by decide +kernel
theorem dX1_record_25 : decode cX1_record 25 = .ok (.if_icmp .ge 16, 3) := by decide +kernel
theorem dX1_record_28 : decode cX1_record 28 = .ok (.aload_n 0, 1) := by decide +kernel
theorem dX1_record_29 : decode cX1_record 29 = .ok (.dup, 1) := by decide +kernel
theorem dX1_record_30 : decode cX1_record 30 = .ok (.getfield 22, 3) := by decide +kernel
theorem dX1_record_33 : decode cX1_record 33 = .ok (.iconst 1, 1) := by decide +kernel
theorem dX1_record_34 : decode cX1_record 34 = .ok (.iadd, 1) := by decide +kernel
theorem dX1_record_35 : decode cX1_record 35 = .ok (.putfield 22, 3) := by decide +kernel
theorem dX1_record_38 : decode cX1_record 38 = .ok (.goto 15, 3) := by decide +kernel
theorem dX1_record_41 : decode cX1_record 41 = .ok (.aload_n 0, 1) := by decide +kernel
theorem dX1_record_42 : decode cX1_record 42 = .ok (.aload_n 0, 1) := by decide +kernel
theorem dX1_record_43 : decode cX1_record 43 = .ok (.getfield 18, 3) := by decide +kernel
theorem dX1_record_46 : decode cX1_record 46 = .ok (.iconst 1, 1) := by decide +kernel
theorem dX1_record_47 : decode cX1_record 47 = .ok (.iadd, 1) := by decide +kernel
theorem dX1_record_48 : decode cX1_record 48 = .ok (.iconst 5, 1) := by decide +kernel
theorem dX1_record_49 : decode cX1_record 49 = .ok (.irem, 1) := by decide +kernel
theorem dX1_record_50 : decode cX1_record 50 = .ok (.putfield 18, 3) := by decide +kernel
theorem dX1_record_53 : decode cX1_record 53 = .ok (.return_, 1) := by decide +kernel
set_option maxRecDepth 20000 in
theorem ggX1_takeBack_X3_copyFrom : GoodIn wsX1_takeBack wsX3_copyFrom := goodIn_r _ [8, 9, 10, 11, 12, 13, 14, 15, 16, 17, 18, 19, 20, 21, 22, 23, 24, 25, 26, 27, 28, 29, 33, 34, 35, 36, 37, 38, 39, 40, 41, 42, 43, 44, 45] (by decide +kernel) (by decide +kernel)
set_option maxRecDepth 20000 in
theorem gX1_takeBack_X3_copyFrom : GoodIn wsX1_takeBack (wsV RX1 25 RX3 yX3_copyFrom wsX3_copyFrom) := goodIn_app (goodIn_of _ (by decide +kernel)) ggX1_takeBack_X3_copyFrom
theorem dX1_takeBack_0 : decode cX1_takeBack 0 = .ok (.aload_n 0, 1) := by decide +kernel
theorem dX1_takeBack_1 : decode cX1_takeBack 1 = .ok (.getfield 22, 3) := by decide +kernel
theorem dX1_takeBack_4 : decode cX1_takeBack 4 = .ok (.ifCond .le 33, 3) := by decide +kernel
theorem dX1_takeBack_7 : decode cX1_takeBack 7 = .ok (.aload_n 0, 1) := by decide +kernel
theorem dX1_takeBack_8 : decode cX1_takeBack 8 = .ok (.dup, 1) := by decide +kernel
theorem dX1_takeBack_9 : decode cX1_takeBack 9 = .ok (.getfield 22, 3) := by decide +kernel
theorem dX1_takeBack_12 : decode cX1_takeBack 12 = .ok (.iconst 1, 1) := by decide +kernel
theorem dX1_takeBack_13 : decode cX1_takeBack 13 = .ok (.isub, 1) := by decide +kernel
theorem dX1_takeBack_14 : decode cX1_takeBack 14 = .ok (.putfield 22, 3) := by decide +kernel
theorem dX1_takeBack_17 : decode cX1_takeBack 17 = .ok (.aload_n 1, 1) := by decide +kernel
theorem dX1_takeBack_18 : decode cX1_takeBack 18 = .ok (.aload_n 0, 1) := by decide +kernel
theorem dX1_takeBack_19 : decode cX1_takeBack 19 = .ok (.getfield 11, 3) := by decide +kernel
theorem dX1_takeBack_22 : decode cX1_takeBack 22 = .ok (.aload_n 0, 1) := by decide +kernel
theorem dX1_takeBack_23 : decode cX1_takeBack 23 = .ok (.getfield 18, 3) := by decide +kernel
theorem dX1_takeBack_26 : decode cX1_takeBack 26 = .ok (.aload_n 0, 1) := by decide +kernel
theorem dX1_takeBack_27 : decode cX1_takeBack 27 = .ok (.getfield 22, 3) := by decide +kernel
theorem dX1_takeBack_30 : decode cX1_takeBack 30 = .ok (.iadd, 1) := by decide +kernel
theorem dX1_takeBack_31 : decode cX1_takeBack 31 = .ok (.iconst 5, 1) := by decide +kernel
theorem dX1_takeBack_32 : decode cX1_takeBack 32 = .ok (.irem, 1) := by decide +kernel
theorem dX1_takeBack_33 : decode cX1_takeBack 33 = .ok (.aaload, 1) := by decide +kernel
theorem dX1_takeBack_34 : decode cX1_takeBack 34 = .ok (.invokevirtual 25, 3) := by decide +kernel
theorem dX1_takeBack_37 : decode cX1_takeBack 37 = .ok (.aload_n 0, 1) := by decide +kernel
theorem dX1_takeBack_38 : decode cX1_takeBack 38 = .ok (.getfield 22, 3) := by decide +kernel
theorem dX1_takeBack_41 : decode cX1_takeBack 41 = .ok (.ireturn, 1) := by decide +kernel
theorem dX2_init_0 : decode cX2_init 0 = .ok (.aload_n 0, 1) := by decide +kernel
theorem dX2_init_1 : decode cX2_init 1 = .ok (.invokespecial 3, 3) := by decide +kernel
theorem dX2_init_4 : decode cX2_init 4 = .ok (.aload_n 0, 1) := by decide +kernel
theorem dX2_init_5 : decode cX2_init 5 = .ok (.bipush 70, 2) := by decide +kernel
theorem dX2_init_7 : decode cX2_init 7 = .ok (.newarray .char, 2) := by decide +kernel
theorem dX2_init_9 : decode cX2_init 9 = .ok (.putfield 9, 3) := by decide +kernel
theorem dX2_init_12 : decode cX2_init 12 = .ok (.return_, 1) := by decide +kernel
theorem dX2_add_0 : decode cX2_add 0 = .ok (.aload_n 0, 1) := by decide +kernel
theorem dX2_add_1 : decode cX2_add 1 = .ok (.getfield 15, 3) := by decide +kernel
theorem dX2_add_4 : decode cX2_add 4 = .ok (.bipush 70, 2) := by decide +kernel
theorem dX2_add_6 : decode cX2_add 6 = .ok (.if_icmp .ge 24, 3) := by decide +kernel
theorem dX2_add_9 : decode cX2_add 9 = .ok (.aload_n 0, 1) := by decide +kernel
theorem dX2_add_10 : decode cX2_add 10 = .ok (.getfield 9, 3) := by decide +kernel
theorem dX2_add_13 : decode cX2_add 13 = .ok (.aload_n 0, 1) := by decide +kernel
theorem dX2_add_14 : decode cX2_add 14 = .ok (.getfield 15, 3) := by decide +kernel
theorem dX2_add_17 : decode cX2_add 17 = .ok (.iload_n 1, 1) := by decide +kernel
theorem dX2_add_18 : decode cX2_add 18 = .ok (.i2c, 1) := by decide +kernel
theorem dX2_add_19 : decode cX2_add 19 = .ok (.castore, 1) := by decide +kernel
theorem dX2_add_20 : decode cX2_add 20 = .ok (.aload_n 0, 1) := by decide +kernel
theorem dX2_add_21 : decode cX2_add 21 = .ok (.dup, 1) := by decide +kernel
theorem dX2_add_22 : decode cX2_add 22 = .ok (.getfield 15, 3) := by decide +kernel
theorem dX2_add_25 : decode cX2_add 25 = .ok (.iconst 1, 1) := by decide +kernel
theorem dX2_add_26 : decode cX2_add 26 = .ok (.iadd, 1) := by decide +kernel
theorem dX2_add_27 : decode cX2_add 27 = .ok (.putfield 15, 3) := by decide +kernel
theorem dX2_add_30 : decode cX2_add 30 = .ok (.aload_n 0, 1) := by decide +kernel
theorem dX2_add_31 : decode cX2_add 31 = .ok (.getfield 15, 3) := by decide +kernel
theorem dX2_add_34 : decode cX2_add 34 = .ok (.ireturn, 1) := by decide +kernel
theorem dX2_empty_0 : decode cX2_empty 0 = .ok (.aload_n 0, 1) := by decide +kernel
theorem dX2_empty_1 : decode cX2_empty 1 = .ok (.getfield 15, 3) := by decide +kernel
theorem dX2_empty_4 : decode cX2_empty 4 = .ok (.istore_n 1, 1) := by decide +kernel
theorem dX2_empty_5 : decode cX2_empty 5 = .ok (.aload_n 0, 1) := by decide +kernel
theorem dX2_empty_6 : decode cX2_empty 6 = .ok (.iconst 0, 1) := by decide +kernel
theorem dX2_empty_7 : decode cX2_empty 7 = .ok (.putfield 15, 3) := by decide +kernel
theorem dX2_empty_10 : decode cX2_empty 10 = .ok (.iload_n 1, 1) := by decide +kernel
theorem dX2_empty_11 : decode cX2_empty 11 = .ok (.ireturn, 1) := by decide +kernel
set_option maxRecDepth 20000 in
theorem ggX2_codeAt_X5_isWithin : GoodIn wsX2_codeAt wsX5_isWithin := goodIn_r _ [5] (by decide +kernel) (by decide +kernel)
set_option maxRecDepth 20000 in
theorem gX2_codeAt_X5_isWithin_n19 : GoodIn wsX2_codeAt (wsX5_isWithin) := ggX2_codeAt_X5_isWithin
theorem dX2_codeAt_0 : decode cX2_codeAt 0 = .ok (.iload_n 1, 1) := by decide +kernel
theorem dX2_codeAt_1 : decode cX2_codeAt 1 = .ok (.iconst 0, 1) := by decide +kernel
theorem dX2_codeAt_2 : decode cX2_codeAt 2 = .ok (.aload_n 0, 1) := by decide +kernel
theorem dX2_codeAt_3 : decode cX2_codeAt 3 = .ok (.getfield 15, 3) := by decide +kernel
theorem dX2_codeAt_6 : decode cX2_codeAt 6 = .ok (.iconst 1, 1) := by decide +kernel
theorem dX2_codeAt_7 : decode cX2_codeAt 7 = .ok (.isub, 1) := by decide +kernel
theorem dX2_codeAt_8 : decode cX2_codeAt 8 = .ok (.invokestatic 19, 3) := by decide +kernel
theorem dX2_codeAt_11 : decode cX2_codeAt 11 = .ok (.ifCond .eq 12, 3) := by decide +kernel
theorem dX2_codeAt_14 : decode cX2_codeAt 14 = .ok (.aload_n 0, 1) := by decide +kernel
theorem dX2_codeAt_15 : decode cX2_codeAt 15 = .ok (.getfield 9, 3) := by decide +kernel
theorem dX2_codeAt_18 : decode cX2_codeAt 18 = .ok (.iload_n 1, 1) := by decide +kernel
theorem dX2_codeAt_19 : decode cX2_codeAt 19 = .ok (.caload, 1) := by decide +kernel
theorem dX2_codeAt_20 : decode cX2_codeAt 20 = .ok (.goto 4, 3) := by decide +kernel
theorem dX2_codeAt_23 : decode cX2_codeAt 23 = .ok (.iconst 0, 1) := by decide +kernel
theorem dX2_codeAt_24 : decode cX2_codeAt 24 = .ok (.ireturn, 1) := by decide +kernel
set_option maxRecDepth 20000 in
theorem ggX2_firstError_X2_codeAt : GoodIn wsX2_firstError wsX2_codeAt := goodIn_r _ [6, 1, 7, 8, 9, 10, 134, 135] (by decide +kernel) (by decide +kernel)
set_option maxRecDepth 20000 in
theorem gX2_firstError_X2_codeAt : GoodIn wsX2_firstError (wsV RX2 25 RX2 yX2_codeAt wsX2_codeAt) := goodIn_app (goodIn_of _ (by decide +kernel)) ggX2_firstError_X2_codeAt
set_option maxRecDepth 20000 in
theorem ggX2_firstError_J0_length_8abf5 : GoodIn wsX2_firstError wsJ0_length_8abf5 := goodIn_r _ [15, 16, 17, 18, 19, 14, 20, 21, 22] (by decide +kernel) (by decide +kernel)
set_option maxRecDepth 20000 in
theorem gX2_firstError_J0_length_8abf5 : GoodIn wsX2_firstError (wsV RX2 29 RJ0 yJ0_length_8abf5 wsJ0_length_8abf5) := goodIn_app (goodIn_of _ (by decide +kernel)) ggX2_firstError_J0_length_8abf5
set_option maxRecDepth 20000 in
theorem ggX2_firstError_X2_formOf : GoodIn wsX2_firstError wsX2_formOf := goodIn_r _ [25] (by decide +kernel) (by decide +kernel)
set_option maxRecDepth 20000 in
theorem gX2_firstError_X2_formOf : GoodIn wsX2_firstError (va_wsS RX2 34 yX2_formOf wsX2_formOf) := goodIn_app (goodIn_of _ (by decide +kernel)) ggX2_firstError_X2_formOf
set_option maxRecDepth 20000 in
theorem ggX2_firstError_J0_isEmpty_aae02 : GoodIn wsX2_firstError wsJ0_isEmpty_aae02 := goodIn_r _ [29, 16] (by decide +kernel) (by decide +kernel)
set_option maxRecDepth 20000 in
theorem gX2_firstError_J0_isEmpty_aae02 : GoodIn wsX2_firstError (wsV RX2 38 RJ0 yJ0_isEmpty_aae02 wsJ0_isEmpty_aae02) := goodIn_app (goodIn_of _ (by decide +kernel)) ggX2_firstError_J0_isEmpty_aae02
set_option maxRecDepth 20000 in
theorem ggX2_firstError_X2_valueAt : GoodIn wsX2_firstError wsX2_valueAt := goodIn_r _ [32, 11, 12, 13, 14, 15, 16, 17, 18, 19, 20, 21, 22, 8, 9, 10, 33, 34, 35, 36, 37, 38, 39, 40, 41, 42, 43, 44, 45, 46, 47, 48, 49, 50, 51, 52, 53, 54, 55, 56, 57, 58, 59, 60, 61, 62, 63, 64, 65, 66, 67, 68, 69, 70, 71, 5, 72, 73, 74, 75, 76, 77, 78, 79, 80, 81, 82, 83, 84, 85, 86, 87, 88, 89, 90, 91, 92, 93, 94, 95, 96, 97, 98, 99, 100, 101, 102, 103, 104, 105, 106, 107, 108, 109, 110, 111, 112, 113, 114, 115, 116, 117, 118, 119, 120, 121, 122, 123, 124, 125, 126, 127, 128, 129, 130, 131, 132, 133] (by decide +kernel) (by decide +kernel)
set_option maxRecDepth 20000 in
theorem gX2_firstError_X2_valueAt : GoodIn wsX2_firstError (va_wsS RX2 42 yX2_valueAt wsX2_valueAt) := goodIn_app (goodIn_of _ (by decide +kernel)) ggX2_firstError_X2_valueAt
theorem dX2_firstError_0 : decode cX2_firstError 0 = .ok (.ldc 23, 2) := by decide +kernel
theorem dX2_firstError_2 : decode cX2_firstError 2 = .ok (.astore_n 1, 1) := by decide +kernel
theorem dX2_firstError_3 : decode cX2_firstError 3 = .ok (.iconst 0, 1) := by decide +kernel
theorem dX2_firstError_4 : decode cX2_firstError 4 = .ok (.istore_n 2, 1) := by decide +kernel
theorem dX2_firstError_5 : decode cX2_firstError 5 = .ok (.iconst 0, 1) := by decide +kernel
theorem dX2_firstError_6 : decode cX2_firstError 6 = .ok (.istore_n 3, 1) := by decide +kernel
theorem dX2_firstError_7 : decode cX2_firstError 7 = .ok (.iload_n 3, 1) := by decide +kernel
theorem dX2_firstError_8 : decode cX2_firstError 8 = .ok (.aload_n 0, 1) := by decide +kernel
theorem dX2_firstError_9 : decode cX2_firstError 9 = .ok (.getfield 15, 3) := by decide +kernel
theorem dX2_firstError_12 : decode cX2_firstError 12 = .ok (.if_icmp .ge 77, 3) := by decide +kernel
theorem dX2_firstError_15 : decode cX2_firstError 15 = .ok (.aload_n 0, 1) := by decide +kernel
theorem dX2_firstError_16 : decode cX2_firstError 16 = .ok (.iload_n 3, 1) := by decide +kernel
theorem dX2_firstError_17 : decode cX2_firstError 17 = .ok (.invokevirtual 25, 3) := by decide +kernel
theorem dX2_firstError_20 : decode cX2_firstError 20 = .ok (.istore 4, 2) := by decide +kernel
theorem dX2_firstError_22 : decode cX2_firstError 22 = .ok (.iload_n 2, 1) := by decide +kernel
theorem dX2_firstError_23 : decode cX2_firstError 23 = .ok (.aload_n 1, 1) := by decide +kernel
theorem dX2_firstError_24 : decode cX2_firstError 24 = .ok (.invokevirtual 29, 3) := by decide +kernel
theorem dX2_firstError_27 : decode cX2_firstError 27 = .ok (.if_icmp .ne 17, 3) := by decide +kernel
theorem dX2_firstError_30 : decode cX2_firstError 30 = .ok (.iload 4, 2) := by decide +kernel
theorem dX2_firstError_32 : decode cX2_firstError 32 = .ok (.bipush 59, 2) := by decide +kernel
theorem dX2_firstError_34 : decode cX2_firstError 34 = .ok (.if_icmp .eq 5, 3) := by decide +kernel
theorem dX2_firstError_37 : decode cX2_firstError 37 = .ok (.iload_n 3, 1) := by decide +kernel
theorem dX2_firstError_38 : decode cX2_firstError 38 = .ok (.ireturn, 1) := by decide +kernel
theorem dX2_firstError_39 : decode cX2_firstError 39 = .ok (.iconst 0, 1) := by decide +kernel
theorem dX2_firstError_40 : decode cX2_firstError 40 = .ok (.istore_n 2, 1) := by decide +kernel
theorem dX2_firstError_41 : decode cX2_firstError 41 = .ok (.goto 42, 3) := by decide +kernel
theorem dX2_firstError_44 : decode cX2_firstError 44 = .ok (.iload_n 2, 1) := by decide +kernel
theorem dX2_firstError_45 : decode cX2_firstError 45 = .ok (.ifCond .ne 23, 3) := by decide +kernel
theorem dX2_firstError_48 : decode cX2_firstError 48 = .ok (.iload 4, 2) := by decide +kernel
theorem dX2_firstError_50 : decode cX2_firstError 50 = .ok (.invokestatic 34, 3) := by decide +kernel
theorem dX2_firstError_53 : decode cX2_firstError 53 = .ok (.astore_n 1, 1) := by decide +kernel
theorem dX2_firstError_54 : decode cX2_firstError 54 = .ok (.aload_n 1, 1) := by decide +kernel
theorem dX2_firstError_55 : decode cX2_firstError 55 = .ok (.invokevirtual 38, 3) := by decide +kernel
theorem dX2_firstError_58 : decode cX2_firstError 58 = .ok (.ifCond .eq 5, 3) := by decide +kernel
theorem dX2_firstError_61 : decode cX2_firstError 61 = .ok (.iload_n 3, 1) := by decide +kernel
theorem dX2_firstError_62 : decode cX2_firstError 62 = .ok (.ireturn, 1) := by decide +kernel
theorem dX2_firstError_63 : decode cX2_firstError 63 = .ok (.iconst 1, 1) := by decide +kernel
theorem dX2_firstError_64 : decode cX2_firstError 64 = .ok (.istore_n 2, 1) := by decide +kernel
theorem dX2_firstError_65 : decode cX2_firstError 65 = .ok (.goto 18, 3) := by decide +kernel
theorem dX2_firstError_68 : decode cX2_firstError 68 = .ok (.aload_n 1, 1) := by decide +kernel
theorem dX2_firstError_69 : decode cX2_firstError 69 = .ok (.iload_n 2, 1) := by decide +kernel
theorem dX2_firstError_70 : decode cX2_firstError 70 = .ok (.iload 4, 2) := by decide +kernel
theorem dX2_firstError_72 : decode cX2_firstError 72 = .ok (.invokestatic 42, 3) := by decide +kernel
theorem dX2_firstError_75 : decode cX2_firstError 75 = .ok (.ifCond .ge 5, 3) := by decide +kernel
theorem dX2_firstError_78 : decode cX2_firstError 78 = .ok (.iload_n 3, 1) := by decide +kernel
theorem dX2_firstError_79 : decode cX2_firstError 79 = .ok (.ireturn, 1) := by decide +kernel
theorem dX2_firstError_80 : decode cX2_firstError 80 = .ok (.iinc 2 1, 3) := by decide +kernel
theorem dX2_firstError_83 : decode cX2_firstError 83 = .ok (.iinc 3 1, 3) := by decide +kernel
theorem dX2_firstError_86 : decode cX2_firstError 86 = .ok (.goto (-79), 3) := by decide +kernel
theorem dX2_firstError_89 : decode cX2_firstError 89 = .ok (.iload_n 2, 1) := by decide +kernel
theorem dX2_firstError_90 : decode cX2_firstError 90 = .ok (.aload_n 1, 1) := by decide +kernel
theorem dX2_firstError_91 : decode cX2_firstError 91 = .ok (.invokevirtual 29, 3) := by decide +kernel
theorem dX2_firstError_94 : decode cX2_firstError 94 = .ok (.if_icmp .ne 8, 3) := by decide +kernel
theorem dX2_firstError_97 : decode cX2_firstError 97 = .ok (.bipush (-6), 2) := by decide +kernel
theorem dX2_firstError_99 : decode cX2_firstError 99 = .ok (.goto 7, 3) := by decide +kernel
theorem dX2_firstError_102 : decode cX2_firstError 102 = .ok (.aload_n 0, 1) := by decide +kernel
theorem dX2_firstError_103 : decode cX2_firstError 103 = .ok (.getfield 15, 3) := by decide +kernel
theorem dX2_firstError_106 : decode cX2_firstError 106 = .ok (.ireturn, 1) := by decide +kernel
set_option maxRecDepth 20000 in
theorem ggX2_widthAt_X2_codeAt : GoodIn wsX2_widthAt wsX2_codeAt := goodIn_r _ [5, 6, 7, 8, 9, 10, 26, 27] (by decide +kernel) (by decide +kernel)
set_option maxRecDepth 20000 in
theorem gX2_widthAt_X2_codeAt : GoodIn wsX2_widthAt (wsV RX2 25 RX2 yX2_codeAt wsX2_codeAt) := goodIn_app (goodIn_of _ (by decide +kernel)) ggX2_widthAt_X2_codeAt
set_option maxRecDepth 20000 in
theorem ggX2_widthAt_X2_formOf : GoodIn wsX2_widthAt wsX2_formOf := goodIn_r _ [13] (by decide +kernel) (by decide +kernel)
set_option maxRecDepth 20000 in
theorem gX2_widthAt_X2_formOf : GoodIn wsX2_widthAt (va_wsS RX2 34 yX2_formOf wsX2_formOf) := goodIn_app (goodIn_of _ (by decide +kernel)) ggX2_widthAt_X2_formOf
set_option maxRecDepth 20000 in
theorem ggX2_widthAt_J0_length_8abf5 : GoodIn wsX2_widthAt wsJ0_length_8abf5 := goodIn_r _ [18, 19, 20, 21, 22, 17, 23, 24, 25] (by decide +kernel) (by decide +kernel)
set_option maxRecDepth 20000 in
theorem gX2_widthAt_J0_length_8abf5 : GoodIn wsX2_widthAt (wsV RX2 29 RJ0 yJ0_length_8abf5 wsJ0_length_8abf5) := goodIn_app (goodIn_of _ (by decide +kernel)) ggX2_widthAt_J0_length_8abf5
theorem dX2_widthAt_0 : decode cX2_widthAt 0 = .ok (.aload_n 0, 1) := by decide +kernel
theorem dX2_widthAt_1 : decode cX2_widthAt 1 = .ok (.iload_n 1, 1) := by decide +kernel
theorem dX2_widthAt_2 : decode cX2_widthAt 2 = .ok (.invokevirtual 25, 3) := by decide +kernel
theorem dX2_widthAt_5 : decode cX2_widthAt 5 = .ok (.invokestatic 34, 3) := by decide +kernel
theorem dX2_widthAt_8 : decode cX2_widthAt 8 = .ok (.invokevirtual 29, 3) := by decide +kernel
theorem dX2_widthAt_11 : decode cX2_widthAt 11 = .ok (.ireturn, 1) := by decide +kernel
set_option maxRecDepth 20000 in
theorem ggX2_argument_X2_codeAt : GoodIn wsX2_argument wsX2_codeAt := goodIn_r _ [5, 6, 7, 8, 9, 10, 130, 131] (by decide +kernel) (by decide +kernel)
set_option maxRecDepth 20000 in
theorem gX2_argument_X2_codeAt : GoodIn wsX2_argument (wsV RX2 25 RX2 yX2_codeAt wsX2_codeAt) := goodIn_app (goodIn_of _ (by decide +kernel)) ggX2_argument_X2_codeAt
set_option maxRecDepth 20000 in
theorem ggX2_argument_X2_formOf : GoodIn wsX2_argument wsX2_formOf := goodIn_r _ [13] (by decide +kernel) (by decide +kernel)
set_option maxRecDepth 20000 in
theorem gX2_argument_X2_formOf : GoodIn wsX2_argument (va_wsS RX2 34 yX2_formOf wsX2_formOf) := goodIn_app (goodIn_of _ (by decide +kernel)) ggX2_argument_X2_formOf
set_option maxRecDepth 20000 in
theorem ggX2_argument_X2_valueAt : GoodIn wsX2_argument wsX2_valueAt := goodIn_r _ [16, 17, 18, 19, 20, 21, 22, 23, 24, 25, 26, 27, 28, 8, 9, 10, 29, 30, 31, 32, 33, 34, 35, 36, 37, 38, 39, 40, 41, 42, 43, 44, 45, 46, 47, 48, 49, 50, 51, 52, 53, 54, 55, 56, 57, 58, 59, 60, 61, 62, 63, 64, 65, 66, 67, 4, 68, 69, 70, 71, 72, 73, 74, 75, 76, 77, 78, 79, 80, 81, 82, 83, 84, 85, 86, 87, 88, 89, 90, 91, 92, 93, 94, 95, 96, 97, 98, 99, 100, 101, 102, 103, 104, 105, 106, 107, 108, 109, 110, 111, 112, 113, 114, 115, 116, 117, 118, 119, 120, 121, 122, 123, 124, 125, 126, 127, 128, 129] (by decide +kernel) (by decide +kernel)
set_option maxRecDepth 20000 in
theorem gX2_argument_X2_valueAt : GoodIn wsX2_argument (va_wsS RX2 42 yX2_valueAt wsX2_valueAt) := goodIn_app (goodIn_of _ (by decide +kernel)) ggX2_argument_X2_valueAt
theorem dX2_argument_0 : decode cX2_argument 0 = .ok (.aload_n 0, 1) := by decide +kernel
theorem dX2_argument_1 : decode cX2_argument 1 = .ok (.iload_n 1, 1) := by decide +kernel
theorem dX2_argument_2 : decode cX2_argument 2 = .ok (.invokevirtual 25, 3) := by decide +kernel
theorem dX2_argument_5 : decode cX2_argument 5 = .ok (.invokestatic 34, 3) := by decide +kernel
theorem dX2_argument_8 : decode cX2_argument 8 = .ok (.iload_n 2, 1) := by decide +kernel
theorem dX2_argument_9 : decode cX2_argument 9 = .ok (.aload_n 0, 1) := by decide +kernel
theorem dX2_argument_10 : decode cX2_argument 10 = .ok (.iload_n 1, 1) := by decide +kernel
theorem dX2_argument_11 : decode cX2_argument 11 = .ok (.iload_n 2, 1) := by decide +kernel
theorem dX2_argument_12 : decode cX2_argument 12 = .ok (.iadd, 1) := by decide +kernel
theorem dX2_argument_13 : decode cX2_argument 13 = .ok (.invokevirtual 25, 3) := by decide +kernel
theorem dX2_argument_16 : decode cX2_argument 16 = .ok (.invokestatic 42, 3) := by decide +kernel
theorem dX2_argument_19 : decode cX2_argument 19 = .ok (.ireturn, 1) := by decide +kernel
theorem dX2_formOf_0 : decode cX2_formOf 0 = .ok (.iload_n 0, 1) := by decide +kernel
theorem dX2_formOf_1 : decode cX2_formOf 1 = .ok (.lookupswitch 66 #[(97, 51), (100, 63), (108, 57), (110, 60), (119, 54)], 51) := by decide +kernel
theorem dX2_formOf_52 : decode cX2_formOf 52 = .ok (.ldc 46, 2) := by decide +kernel
theorem dX2_formOf_54 : decode cX2_formOf 54 = .ok (.areturn, 1) := by decide +kernel
theorem dX2_formOf_55 : decode cX2_formOf 55 = .ok (.ldc 48, 2) := by decide +kernel
theorem dX2_formOf_57 : decode cX2_formOf 57 = .ok (.areturn, 1) := by decide +kernel
theorem dX2_formOf_58 : decode cX2_formOf 58 = .ok (.ldc 50, 2) := by decide +kernel
theorem dX2_formOf_60 : decode cX2_formOf 60 = .ok (.areturn, 1) := by decide +kernel
theorem dX2_formOf_61 : decode cX2_formOf 61 = .ok (.ldc 52, 2) := by decide +kernel
theorem dX2_formOf_63 : decode cX2_formOf 63 = .ok (.areturn, 1) := by decide +kernel
theorem dX2_formOf_64 : decode cX2_formOf 64 = .ok (.ldc 54, 2) := by decide +kernel
theorem dX2_formOf_66 : decode cX2_formOf 66 = .ok (.areturn, 1) := by decide +kernel
theorem dX2_formOf_67 : decode cX2_formOf 67 = .ok (.ldc 56, 2) := by decide +kernel
theorem dX2_formOf_69 : decode cX2_formOf 69 = .ok (.areturn, 1) := by decide +kernel
set_option maxRecDepth 20000 in
theorem ggX2_valueAt_J0_length_8abf5 : GoodIn wsX2_valueAt wsJ0_length_8abf5 := goodIn_r _ [5, 6, 7, 8, 9, 4, 10, 11, 12] (by decide +kernel) (by decide +kernel)
set_option maxRecDepth 20000 in
theorem gX2_valueAt_J0_length_8abf5 : GoodIn wsX2_valueAt (wsV RX2 29 RJ0 yJ0_length_8abf5 wsJ0_length_8abf5) := goodIn_app (goodIn_of _ (by decide +kernel)) ggX2_valueAt_J0_length_8abf5
set_option maxRecDepth 20000 in
theorem ggX2_valueAt_X5_isWithin : GoodIn wsX2_valueAt wsX5_isWithin := goodIn_r _ [15] (by decide +kernel) (by decide +kernel)
set_option maxRecDepth 20000 in
theorem gX2_valueAt_X5_isWithin_n19 : GoodIn wsX2_valueAt (wsX5_isWithin) := ggX2_valueAt_X5_isWithin
set_option maxRecDepth 20000 in
theorem ggX2_valueAt_J0_charAt_5068e : GoodIn wsX2_valueAt wsJ0_charAt_5068e := goodIn_r _ [19, 6, 20, 21, 22, 4, 23, 11, 12, 24, 25, 26, 27, 28, 29, 30, 31, 32, 33, 34, 35, 36, 37, 38, 39, 40, 41, 42, 43, 44, 45, 46, 47, 48, 49, 50, 51, 52] (by decide +kernel) (by decide +kernel)
set_option maxRecDepth 20000 in
theorem gX2_valueAt_J0_charAt_5068e : GoodIn wsX2_valueAt (wsV RX2 58 RJ0 yJ0_charAt_5068e wsJ0_charAt_5068e) := goodIn_app (goodIn_of _ (by decide +kernel)) ggX2_valueAt_J0_charAt_5068e
set_option maxRecDepth 20000 in
theorem ggX2_valueAt_X2_valueFrom : GoodIn wsX2_valueAt wsX2_valueFrom := goodIn_r _ [56, 13, 14, 15] (by decide +kernel) (by decide +kernel)
set_option maxRecDepth 20000 in
theorem gX2_valueAt_X2_valueFrom : GoodIn wsX2_valueAt (va_wsS RX2 62 yX2_valueFrom wsX2_valueFrom) := goodIn_app (goodIn_of _ (by decide +kernel)) ggX2_valueAt_X2_valueFrom
set_option maxRecDepth 20000 in
theorem ggX2_valueAt_J0_indexOf_0f7a4 : GoodIn wsX2_valueAt wsJ0_indexOf_0f7a4 := goodIn_r _ [60, 61, 62, 63, 4, 64, 6, 20, 21, 22, 23, 11, 12, 65, 2, 3, 5, 7, 8, 9, 10, 66, 67, 26, 68, 69, 70, 71, 72, 73, 74, 75, 76, 77, 78, 79, 80, 81, 82, 83, 38, 84, 85, 86, 87, 88, 89, 90, 91, 92, 93, 43, 44, 45, 94, 95, 96, 31, 97, 98, 34, 99, 100, 101, 102, 47, 48, 49, 50, 51, 52, 103, 104, 105, 106, 107, 108, 109, 110, 111, 112, 113, 114, 115, 116, 117] (by decide +kernel) (by decide +kernel)
set_option maxRecDepth 20000 in
theorem gX2_valueAt_J0_indexOf_0f7a4 : GoodIn wsX2_valueAt (wsV RX2 68 RJ0 yJ0_indexOf_0f7a4 wsJ0_indexOf_0f7a4) := goodIn_app (goodIn_of _ (by decide +kernel)) ggX2_valueAt_J0_indexOf_0f7a4
theorem dX2_valueAt_0 : decode cX2_valueAt 0 = .ok (.iload_n 1, 1) := by decide +kernel
theorem dX2_valueAt_1 : decode cX2_valueAt 1 = .ok (.iconst 0, 1) := by decide +kernel
theorem dX2_valueAt_2 : decode cX2_valueAt 2 = .ok (.aload_n 0, 1) := by decide +kernel
theorem dX2_valueAt_3 : decode cX2_valueAt 3 = .ok (.invokevirtual 29, 3) := by decide +kernel
theorem dX2_valueAt_6 : decode cX2_valueAt 6 = .ok (.iconst 1, 1) := by decide +kernel
theorem dX2_valueAt_7 : decode cX2_valueAt 7 = .ok (.isub, 1) := by decide +kernel
theorem dX2_valueAt_8 : decode cX2_valueAt 8 = .ok (.invokestatic 19, 3) := by decide +kernel
theorem dX2_valueAt_11 : decode cX2_valueAt 11 = .ok (.ifCond .ne 5, 3) := by decide +kernel
theorem dX2_valueAt_14 : decode cX2_valueAt 14 = .ok (.iconst (-1), 1) := by decide +kernel
theorem dX2_valueAt_15 : decode cX2_valueAt 15 = .ok (.ireturn, 1) := by decide +kernel
theorem dX2_valueAt_16 : decode cX2_valueAt 16 = .ok (.aload_n 0, 1) := by decide +kernel
theorem dX2_valueAt_17 : decode cX2_valueAt 17 = .ok (.iload_n 1, 1) := by decide +kernel
theorem dX2_valueAt_18 : decode cX2_valueAt 18 = .ok (.invokevirtual 58, 3) := by decide +kernel
theorem dX2_valueAt_21 : decode cX2_valueAt 21 = .ok (.lookupswitch 108 #[(68, 100), (76, 59), (77, 75), (78, 67), (87, 92), (89, 84)], 59) := by decide +kernel
theorem dX2_valueAt_80 : decode cX2_valueAt 80 = .ok (.bipush 48, 2) := by decide +kernel
theorem dX2_valueAt_82 : decode cX2_valueAt 82 = .ok (.iconst 3, 1) := by decide +kernel
theorem dX2_valueAt_83 : decode cX2_valueAt 83 = .ok (.iload_n 2, 1) := by decide +kernel
theorem dX2_valueAt_84 : decode cX2_valueAt 84 = .ok (.invokestatic 62, 3) := by decide +kernel
theorem dX2_valueAt_87 : decode cX2_valueAt 87 = .ok (.ireturn, 1) := by decide +kernel
theorem dX2_valueAt_88 : decode cX2_valueAt 88 = .ok (.bipush 48, 2) := by decide +kernel
theorem dX2_valueAt_90 : decode cX2_valueAt 90 = .ok (.iconst 2, 1) := by decide +kernel
theorem dX2_valueAt_91 : decode cX2_valueAt 91 = .ok (.iload_n 2, 1) := by decide +kernel
theorem dX2_valueAt_92 : decode cX2_valueAt 92 = .ok (.invokestatic 62, 3) := by decide +kernel
theorem dX2_valueAt_95 : decode cX2_valueAt 95 = .ok (.ireturn, 1) := by decide +kernel
theorem dX2_valueAt_96 : decode cX2_valueAt 96 = .ok (.bipush 97, 2) := by decide +kernel
theorem dX2_valueAt_98 : decode cX2_valueAt 98 = .ok (.bipush 16, 2) := by decide +kernel
theorem dX2_valueAt_100 : decode cX2_valueAt 100 = .ok (.iload_n 2, 1) := by decide +kernel
theorem dX2_valueAt_101 : decode cX2_valueAt 101 = .ok (.invokestatic 62, 3) := by decide +kernel
theorem dX2_valueAt_104 : decode cX2_valueAt 104 = .ok (.ireturn, 1) := by decide +kernel
theorem dX2_valueAt_105 : decode cX2_valueAt 105 = .ok (.ldc 66, 2) := by decide +kernel
theorem dX2_valueAt_107 : decode cX2_valueAt 107 = .ok (.iload_n 2, 1) := by decide +kernel
theorem dX2_valueAt_108 : decode cX2_valueAt 108 = .ok (.i2c, 1) := by decide +kernel
theorem dX2_valueAt_109 : decode cX2_valueAt 109 = .ok (.invokevirtual 68, 3) := by decide +kernel
theorem dX2_valueAt_112 : decode cX2_valueAt 112 = .ok (.ireturn, 1) := by decide +kernel
theorem dX2_valueAt_113 : decode cX2_valueAt 113 = .ok (.bipush 48, 2) := by decide +kernel
theorem dX2_valueAt_115 : decode cX2_valueAt 115 = .ok (.iconst 4, 1) := by decide +kernel
theorem dX2_valueAt_116 : decode cX2_valueAt 116 = .ok (.iload_n 2, 1) := by decide +kernel
theorem dX2_valueAt_117 : decode cX2_valueAt 117 = .ok (.invokestatic 62, 3) := by decide +kernel
theorem dX2_valueAt_120 : decode cX2_valueAt 120 = .ok (.ireturn, 1) := by decide +kernel
theorem dX2_valueAt_121 : decode cX2_valueAt 121 = .ok (.bipush 48, 2) := by decide +kernel
theorem dX2_valueAt_123 : decode cX2_valueAt 123 = .ok (.iconst 4, 1) := by decide +kernel
theorem dX2_valueAt_124 : decode cX2_valueAt 124 = .ok (.iload_n 2, 1) := by decide +kernel
theorem dX2_valueAt_125 : decode cX2_valueAt 125 = .ok (.invokestatic 62, 3) := by decide +kernel
theorem dX2_valueAt_128 : decode cX2_valueAt 128 = .ok (.ireturn, 1) := by decide +kernel
theorem dX2_valueAt_129 : decode cX2_valueAt 129 = .ok (.iconst (-1), 1) := by decide +kernel
theorem dX2_valueAt_130 : decode cX2_valueAt 130 = .ok (.ireturn, 1) := by decide +kernel
set_option maxRecDepth 20000 in
theorem ggX2_valueFrom_X5_isWithin : GoodIn wsX2_valueFrom wsX5_isWithin := goodIn_r _ [3] (by decide +kernel) (by decide +kernel)
set_option maxRecDepth 20000 in
theorem gX2_valueFrom_X5_isWithin_n19 : GoodIn wsX2_valueFrom (wsX5_isWithin) := ggX2_valueFrom_X5_isWithin
theorem dX2_valueFrom_0 : decode cX2_valueFrom 0 = .ok (.iload_n 2, 1) := by decide +kernel
theorem dX2_valueFrom_1 : decode cX2_valueFrom 1 = .ok (.iload_n 0, 1) := by decide +kernel
theorem dX2_valueFrom_2 : decode cX2_valueFrom 2 = .ok (.isub, 1) := by decide +kernel
theorem dX2_valueFrom_3 : decode cX2_valueFrom 3 = .ok (.istore_n 3, 1) := by decide +kernel
theorem dX2_valueFrom_4 : decode cX2_valueFrom 4 = .ok (.iload_n 3, 1) := by decide +kernel
theorem dX2_valueFrom_5 : decode cX2_valueFrom 5 = .ok (.iconst 0, 1) := by decide +kernel
theorem dX2_valueFrom_6 : decode cX2_valueFrom 6 = .ok (.iload_n 1, 1) := by decide +kernel
theorem dX2_valueFrom_7 : decode cX2_valueFrom 7 = .ok (.iconst 1, 1) := by decide +kernel
theorem dX2_valueFrom_8 : decode cX2_valueFrom 8 = .ok (.isub, 1) := by decide +kernel
theorem dX2_valueFrom_9 : decode cX2_valueFrom 9 = .ok (.invokestatic 19, 3) := by decide +kernel
theorem dX2_valueFrom_12 : decode cX2_valueFrom 12 = .ok (.ifCond .eq 7, 3) := by decide +kernel
theorem dX2_valueFrom_15 : decode cX2_valueFrom 15 = .ok (.iload_n 3, 1) := by decide +kernel
theorem dX2_valueFrom_16 : decode cX2_valueFrom 16 = .ok (.goto 4, 3) := by decide +kernel
theorem dX2_valueFrom_19 : decode cX2_valueFrom 19 = .ok (.iconst (-1), 1) := by decide +kernel
theorem dX2_valueFrom_20 : decode cX2_valueFrom 20 = .ok (.ireturn, 1) := by decide +kernel
set_option maxRecDepth 20000 in
theorem ggX3_init_X4_init : GoodIn wsX3_init wsX4_init := goodIn_r _ [16, 17, 2, 3, 18, 10, 19, 20, 21, 22, 23] (by decide +kernel) (by decide +kernel)
set_option maxRecDepth 20000 in
theorem gX3_init_X4_init : GoodIn wsX3_init (wsX4_init) := ggX3_init_X4_init
theorem dX3_init_0 : decode cX3_init 0 = .ok (.aload_n 0, 1) := by decide +kernel
theorem dX3_init_1 : decode cX3_init 1 = .ok (.invokespecial 3, 3) := by decide +kernel
theorem dX3_init_4 : decode cX3_init 4 = .ok (.aload_n 0, 1) := by decide +kernel
theorem dX3_init_5 : decode cX3_init 5 = .ok (.new 9, 3) := by decide +kernel
theorem dX3_init_8 : decode cX3_init 8 = .ok (.dup, 1) := by decide +kernel
theorem dX3_init_9 : decode cX3_init 9 = .ok (.iconst 3, 1) := by decide +kernel
theorem dX3_init_10 : decode cX3_init 10 = .ok (.invokespecial 11, 3) := by decide +kernel
theorem dX3_init_13 : decode cX3_init 13 = .ok (.putfield 14, 3) := by decide +kernel
theorem dX3_init_16 : decode cX3_init 16 = .ok (.aload_n 0, 1) := by decide +kernel
theorem dX3_init_17 : decode cX3_init 17 = .ok (.new 9, 3) := by decide +kernel
theorem dX3_init_20 : decode cX3_init 20 = .ok (.dup, 1) := by decide +kernel
theorem dX3_init_21 : decode cX3_init 21 = .ok (.iconst 3, 1) := by decide +kernel
theorem dX3_init_22 : decode cX3_init 22 = .ok (.invokespecial 11, 3) := by decide +kernel
theorem dX3_init_25 : decode cX3_init 25 = .ok (.putfield 20, 3) := by decide +kernel
theorem dX3_init_28 : decode cX3_init 28 = .ok (.aload_n 0, 1) := by decide +kernel
theorem dX3_init_29 : decode cX3_init 29 = .ok (.new 9, 3) := by decide +kernel
theorem dX3_init_32 : decode cX3_init 32 = .ok (.dup, 1) := by decide +kernel
theorem dX3_init_33 : decode cX3_init 33 = .ok (.iconst 2, 1) := by decide +kernel
theorem dX3_init_34 : decode cX3_init 34 = .ok (.invokespecial 11, 3) := by decide +kernel
theorem dX3_init_37 : decode cX3_init 37 = .ok (.putfield 23, 3) := by decide +kernel
theorem dX3_init_40 : decode cX3_init 40 = .ok (.aload_n 0, 1) := by decide +kernel
theorem dX3_init_41 : decode cX3_init 41 = .ok (.iconst 3, 1) := by decide +kernel
theorem dX3_init_42 : decode cX3_init 42 = .ok (.newarray .int, 2) := by decide +kernel
theorem dX3_init_44 : decode cX3_init 44 = .ok (.dup, 1) := by decide +kernel
theorem dX3_init_45 : decode cX3_init 45 = .ok (.iconst 0, 1) := by decide +kernel
theorem dX3_init_46 : decode cX3_init 46 = .ok (.iconst 5, 1) := by decide +kernel
theorem dX3_init_47 : decode cX3_init 47 = .ok (.iastore, 1) := by decide +kernel
theorem dX3_init_48 : decode cX3_init 48 = .ok (.dup, 1) := by decide +kernel
theorem dX3_init_49 : decode cX3_init 49 = .ok (.iconst 1, 1) := by decide +kernel
theorem dX3_init_50 : decode cX3_init 50 = .ok (.iconst 5, 1) := by decide +kernel
theorem dX3_init_51 : decode cX3_init 51 = .ok (.iastore, 1) := by decide +kernel
theorem dX3_init_52 : decode cX3_init 52 = .ok (.dup, 1) := by decide +kernel
theorem dX3_init_53 : decode cX3_init 53 = .ok (.iconst 2, 1) := by decide +kernel
theorem dX3_init_54 : decode cX3_init 54 = .ok (.iconst 5, 1) := by decide +kernel
theorem dX3_init_55 : decode cX3_init 55 = .ok (.iastore, 1) := by decide +kernel
theorem dX3_init_56 : decode cX3_init 56 = .ok (.putfield 26, 3) := by decide +kernel
theorem dX3_init_59 : decode cX3_init 59 = .ok (.aload_n 0, 1) := by decide +kernel
theorem dX3_init_60 : decode cX3_init 60 = .ok (.iconst 2, 1) := by decide +kernel
theorem dX3_init_61 : decode cX3_init 61 = .ok (.newarray .int, 2) := by decide +kernel
theorem dX3_init_63 : decode cX3_init 63 = .ok (.dup, 1) := by decide +kernel
theorem dX3_init_64 : decode cX3_init 64 = .ok (.iconst 0, 1) := by decide +kernel
theorem dX3_init_65 : decode cX3_init 65 = .ok (.bipush 30, 2) := by decide +kernel
theorem dX3_init_67 : decode cX3_init 67 = .ok (.iastore, 1) := by decide +kernel
theorem dX3_init_68 : decode cX3_init 68 = .ok (.dup, 1) := by decide +kernel
theorem dX3_init_69 : decode cX3_init 69 = .ok (.iconst 1, 1) := by decide +kernel
theorem dX3_init_70 : decode cX3_init 70 = .ok (.bipush 12, 2) := by decide +kernel
theorem dX3_init_72 : decode cX3_init 72 = .ok (.iastore, 1) := by decide +kernel
theorem dX3_init_73 : decode cX3_init 73 = .ok (.putfield 30, 3) := by decide +kernel
theorem dX3_init_76 : decode cX3_init 76 = .ok (.aload_n 0, 1) := by decide +kernel
theorem dX3_init_77 : decode cX3_init 77 = .ok (.bipush 20, 2) := by decide +kernel
theorem dX3_init_79 : decode cX3_init 79 = .ok (.putfield 33, 3) := by decide +kernel
theorem dX3_init_82 : decode cX3_init 82 = .ok (.return_, 1) := by decide +kernel
set_option maxRecDepth 20000 in
theorem ggX3_copyFrom_X4_copyFrom : GoodIn wsX3_copyFrom wsX4_copyFrom := goodIn_r _ [19, 20, 21, 32, 33, 34] (by decide +kernel) (by decide +kernel)
set_option maxRecDepth 20000 in
theorem gX3_copyFrom_X4_copyFrom : GoodIn wsX3_copyFrom (wsV RX3 37 RX4 yX4_copyFrom wsX4_copyFrom) := goodIn_app (goodIn_of _ (by decide +kernel)) ggX3_copyFrom_X4_copyFrom
theorem dX3_copyFrom_0 : decode cX3_copyFrom 0 = .ok (.aload_n 0, 1) := by decide +kernel
theorem dX3_copyFrom_1 : decode cX3_copyFrom 1 = .ok (.getfield 14, 3) := by decide +kernel
theorem dX3_copyFrom_4 : decode cX3_copyFrom 4 = .ok (.aload_n 1, 1) := by decide +kernel
theorem dX3_copyFrom_5 : decode cX3_copyFrom 5 = .ok (.getfield 14, 3) := by decide +kernel
theorem dX3_copyFrom_8 : decode cX3_copyFrom 8 = .ok (.invokevirtual 37, 3) := by decide +kernel
theorem dX3_copyFrom_11 : decode cX3_copyFrom 11 = .ok (.aload_n 0, 1) := by decide +kernel
theorem dX3_copyFrom_12 : decode cX3_copyFrom 12 = .ok (.getfield 20, 3) := by decide +kernel
theorem dX3_copyFrom_15 : decode cX3_copyFrom 15 = .ok (.aload_n 1, 1) := by decide +kernel
theorem dX3_copyFrom_16 : decode cX3_copyFrom 16 = .ok (.getfield 20, 3) := by decide +kernel
theorem dX3_copyFrom_19 : decode cX3_copyFrom 19 = .ok (.invokevirtual 37, 3) := by decide +kernel
theorem dX3_copyFrom_22 : decode cX3_copyFrom 22 = .ok (.aload_n 0, 1) := by decide +kernel
theorem dX3_copyFrom_23 : decode cX3_copyFrom 23 = .ok (.getfield 23, 3) := by decide +kernel
theorem dX3_copyFrom_26 : decode cX3_copyFrom 26 = .ok (.aload_n 1, 1) := by decide +kernel
theorem dX3_copyFrom_27 : decode cX3_copyFrom 27 = .ok (.getfield 23, 3) := by decide +kernel
theorem dX3_copyFrom_30 : decode cX3_copyFrom 30 = .ok (.invokevirtual 37, 3) := by decide +kernel
theorem dX3_copyFrom_33 : decode cX3_copyFrom 33 = .ok (.aload_n 1, 1) := by decide +kernel
theorem dX3_copyFrom_34 : decode cX3_copyFrom 34 = .ok (.getfield 26, 3) := by decide +kernel
theorem dX3_copyFrom_37 : decode cX3_copyFrom 37 = .ok (.iconst 0, 1) := by decide +kernel
theorem dX3_copyFrom_38 : decode cX3_copyFrom 38 = .ok (.aload_n 0, 1) := by decide +kernel
theorem dX3_copyFrom_39 : decode cX3_copyFrom 39 = .ok (.getfield 26, 3) := by decide +kernel
theorem dX3_copyFrom_42 : decode cX3_copyFrom 42 = .ok (.iconst 0, 1) := by decide +kernel
theorem dX3_copyFrom_43 : decode cX3_copyFrom 43 = .ok (.iconst 3, 1) := by decide +kernel
theorem dX3_copyFrom_44 : decode cX3_copyFrom 44 = .ok (.invokestatic 41, 3) := by decide +kernel
theorem dX3_copyFrom_47 : decode cX3_copyFrom 47 = .ok (.aload_n 1, 1) := by decide +kernel
theorem dX3_copyFrom_48 : decode cX3_copyFrom 48 = .ok (.getfield 30, 3) := by decide +kernel
theorem dX3_copyFrom_51 : decode cX3_copyFrom 51 = .ok (.iconst 0, 1) := by decide +kernel
theorem dX3_copyFrom_52 : decode cX3_copyFrom 52 = .ok (.aload_n 0, 1) := by decide +kernel
theorem dX3_copyFrom_53 : decode cX3_copyFrom 53 = .ok (.getfield 30, 3) := by decide +kernel
theorem dX3_copyFrom_56 : decode cX3_copyFrom 56 = .ok (.iconst 0, 1) := by decide +kernel
theorem dX3_copyFrom_57 : decode cX3_copyFrom 57 = .ok (.iconst 2, 1) := by decide +kernel
theorem dX3_copyFrom_58 : decode cX3_copyFrom 58 = .ok (.invokestatic 41, 3) := by decide +kernel
theorem dX3_copyFrom_61 : decode cX3_copyFrom 61 = .ok (.aload_n 0, 1) := by decide +kernel
theorem dX3_copyFrom_62 : decode cX3_copyFrom 62 = .ok (.aload_n 1, 1) := by decide +kernel
theorem dX3_copyFrom_63 : decode cX3_copyFrom 63 = .ok (.getfield 33, 3) := by decide +kernel
theorem dX3_copyFrom_66 : decode cX3_copyFrom 66 = .ok (.putfield 33, 3) := by decide +kernel
theorem dX3_copyFrom_69 : decode cX3_copyFrom 69 = .ok (.aload_n 0, 1) := by decide +kernel
theorem dX3_copyFrom_70 : decode cX3_copyFrom 70 = .ok (.aload_n 1, 1) := by decide +kernel
theorem dX3_copyFrom_71 : decode cX3_copyFrom 71 = .ok (.getfield 47, 3) := by decide +kernel
theorem dX3_copyFrom_74 : decode cX3_copyFrom 74 = .ok (.putfield 47, 3) := by decide +kernel
theorem dX3_copyFrom_77 : decode cX3_copyFrom 77 = .ok (.aload_n 0, 1) := by decide +kernel
theorem dX3_copyFrom_78 : decode cX3_copyFrom 78 = .ok (.aload_n 1, 1) := by decide +kernel
theorem dX3_copyFrom_79 : decode cX3_copyFrom 79 = .ok (.getfield 50, 3) := by decide +kernel
theorem dX3_copyFrom_82 : decode cX3_copyFrom 82 = .ok (.putfield 50, 3) := by decide +kernel
theorem dX3_copyFrom_85 : decode cX3_copyFrom 85 = .ok (.aload_n 0, 1) := by decide +kernel
theorem dX3_copyFrom_86 : decode cX3_copyFrom 86 = .ok (.aload_n 1, 1) := by decide +kernel
theorem dX3_copyFrom_87 : decode cX3_copyFrom 87 = .ok (.getfield 53, 3) := by decide +kernel
theorem dX3_copyFrom_90 : decode cX3_copyFrom 90 = .ok (.putfield 53, 3) := by decide +kernel
theorem dX3_copyFrom_93 : decode cX3_copyFrom 93 = .ok (.aload_n 0, 1) := by decide +kernel
theorem dX3_copyFrom_94 : decode cX3_copyFrom 94 = .ok (.aload_n 1, 1) := by decide +kernel
theorem dX3_copyFrom_95 : decode cX3_copyFrom 95 = .ok (.getfield 56, 3) := by decide +kernel
theorem dX3_copyFrom_98 : decode cX3_copyFrom 98 = .ok (.putfield 56, 3) := by decide +kernel
theorem dX3_copyFrom_101 : decode cX3_copyFrom 101 = .ok (.return_, 1) := by decide +kernel
set_option maxRecDepth 20000 in
theorem ggX3_putArrow_X4_paint : GoodIn wsX3_putArrow wsX4_paint := goodIn_r _ [6, 7, 8, 30, 31, 32] (by decide +kernel) (by decide +kernel)
set_option maxRecDepth 20000 in
theorem gX3_putArrow_X4_paint : GoodIn wsX3_putArrow (wsV RX3 59 RX4 yX4_paint wsX4_paint) := goodIn_app (goodIn_of _ (by decide +kernel)) ggX3_putArrow_X4_paint
set_option maxRecDepth 20000 in
theorem ggX3_putArrow_X4_count : GoodIn wsX3_putArrow wsX4_count := goodIn_r _ [12, 13, 14, 15, 5, 16, 8, 17, 18, 19, 30, 31, 32] (by decide +kernel) (by decide +kernel)
set_option maxRecDepth 20000 in
theorem gX3_putArrow_X4_count : GoodIn wsX3_putArrow (wsV RX3 63 RX4 yX4_count wsX4_count) := goodIn_app (goodIn_of _ (by decide +kernel)) ggX3_putArrow_X4_count
theorem dX3_putArrow_0 : decode cX3_putArrow 0 = .ok (.aload_n 0, 1) := by decide +kernel
theorem dX3_putArrow_1 : decode cX3_putArrow 1 = .ok (.getfield 14, 3) := by decide +kernel
theorem dX3_putArrow_4 : decode cX3_putArrow 4 = .ok (.iload_n 1, 1) := by decide +kernel
theorem dX3_putArrow_5 : decode cX3_putArrow 5 = .ok (.iload_n 2, 1) := by decide +kernel
theorem dX3_putArrow_6 : decode cX3_putArrow 6 = .ok (.iload_n 3, 1) := by decide +kernel
theorem dX3_putArrow_7 : decode cX3_putArrow 7 = .ok (.invokevirtual 59, 3) := by decide +kernel
theorem dX3_putArrow_10 : decode cX3_putArrow 10 = .ok (.aload_n 0, 1) := by decide +kernel
theorem dX3_putArrow_11 : decode cX3_putArrow 11 = .ok (.getfield 14, 3) := by decide +kernel
theorem dX3_putArrow_14 : decode cX3_putArrow 14 = .ok (.invokevirtual 63, 3) := by decide +kernel
theorem dX3_putArrow_17 : decode cX3_putArrow 17 = .ok (.ireturn, 1) := by decide +kernel
set_option maxRecDepth 20000 in
theorem ggX3_putWord_X4_paint : GoodIn wsX3_putWord wsX4_paint := goodIn_r _ [6, 7, 8, 30, 31, 32] (by decide +kernel) (by decide +kernel)
set_option maxRecDepth 20000 in
theorem gX3_putWord_X4_paint : GoodIn wsX3_putWord (wsV RX3 59 RX4 yX4_paint wsX4_paint) := goodIn_app (goodIn_of _ (by decide +kernel)) ggX3_putWord_X4_paint
set_option maxRecDepth 20000 in
theorem ggX3_putWord_X4_count : GoodIn wsX3_putWord wsX4_count := goodIn_r _ [12, 13, 14, 15, 5, 16, 8, 17, 18, 19, 30, 31, 32] (by decide +kernel) (by decide +kernel)
set_option maxRecDepth 20000 in
theorem gX3_putWord_X4_count : GoodIn wsX3_putWord (wsV RX3 63 RX4 yX4_count wsX4_count) := goodIn_app (goodIn_of _ (by decide +kernel)) ggX3_putWord_X4_count
theorem dX3_putWord_0 : decode cX3_putWord 0 = .ok (.aload_n 0, 1) := by decide +kernel
theorem dX3_putWord_1 : decode cX3_putWord 1 = .ok (.getfield 20, 3) := by decide +kernel
theorem dX3_putWord_4 : decode cX3_putWord 4 = .ok (.iload_n 1, 1) := by decide +kernel
theorem dX3_putWord_5 : decode cX3_putWord 5 = .ok (.iload_n 2, 1) := by decide +kernel
theorem dX3_putWord_6 : decode cX3_putWord 6 = .ok (.iload_n 3, 1) := by decide +kernel
theorem dX3_putWord_7 : decode cX3_putWord 7 = .ok (.invokevirtual 59, 3) := by decide +kernel
theorem dX3_putWord_10 : decode cX3_putWord 10 = .ok (.aload_n 0, 1) := by decide +kernel
theorem dX3_putWord_11 : decode cX3_putWord 11 = .ok (.getfield 20, 3) := by decide +kernel
theorem dX3_putWord_14 : decode cX3_putWord 14 = .ok (.invokevirtual 63, 3) := by decide +kernel
theorem dX3_putWord_17 : decode cX3_putWord 17 = .ok (.ireturn, 1) := by decide +kernel
set_option maxRecDepth 20000 in
theorem ggX3_putDash_X3_dashAt : GoodIn wsX3_putDash wsX3_dashAt := goodIn_r _ [6, 1, 7, 8, 9, 10, 11, 12, 13, 33, 34, 35, 36, 37, 38, 39, 40, 41, 42, 43, 44, 45] (by decide +kernel) (by decide +kernel)
set_option maxRecDepth 20000 in
theorem gX3_putDash_X3_dashAt : GoodIn wsX3_putDash (wsV RX3 67 RX3 yX3_dashAt wsX3_dashAt) := goodIn_app (goodIn_of _ (by decide +kernel)) ggX3_putDash_X3_dashAt
set_option maxRecDepth 20000 in
theorem ggX3_putDash_X4_remove : GoodIn wsX3_putDash wsX4_remove := goodIn_r _ [17, 18, 19, 20, 10, 21, 12, 22, 23, 24, 25, 26, 27, 28, 43, 44, 45] (by decide +kernel) (by decide +kernel)
set_option maxRecDepth 20000 in
theorem gX3_putDash_X4_remove : GoodIn wsX3_putDash (wsV RX3 71 RX4 yX4_remove wsX4_remove) := goodIn_app (goodIn_of _ (by decide +kernel)) ggX3_putDash_X4_remove
set_option maxRecDepth 20000 in
theorem ggX3_putDash_X4_paint : GoodIn wsX3_putDash wsX4_paint := goodIn_r _ [32, 13, 12, 43, 44, 45] (by decide +kernel) (by decide +kernel)
set_option maxRecDepth 20000 in
theorem gX3_putDash_X4_paint : GoodIn wsX3_putDash (wsV RX3 59 RX4 yX4_paint wsX4_paint) := goodIn_app (goodIn_of _ (by decide +kernel)) ggX3_putDash_X4_paint
theorem dX3_putDash_0 : decode cX3_putDash 0 = .ok (.aload_n 0, 1) := by decide +kernel
theorem dX3_putDash_1 : decode cX3_putDash 1 = .ok (.iload_n 1, 1) := by decide +kernel
theorem dX3_putDash_2 : decode cX3_putDash 2 = .ok (.iload_n 2, 1) := by decide +kernel
theorem dX3_putDash_3 : decode cX3_putDash 3 = .ok (.invokevirtual 67, 3) := by decide +kernel
theorem dX3_putDash_6 : decode cX3_putDash 6 = .ok (.istore 4, 2) := by decide +kernel
theorem dX3_putDash_8 : decode cX3_putDash 8 = .ok (.iload_n 3, 1) := by decide +kernel
theorem dX3_putDash_9 : decode cX3_putDash 9 = .ok (.ifCond .ne 16, 3) := by decide +kernel
theorem dX3_putDash_12 : decode cX3_putDash 12 = .ok (.aload_n 0, 1) := by decide +kernel
theorem dX3_putDash_13 : decode cX3_putDash 13 = .ok (.getfield 23, 3) := by decide +kernel
theorem dX3_putDash_16 : decode cX3_putDash 16 = .ok (.iload_n 1, 1) := by decide +kernel
theorem dX3_putDash_17 : decode cX3_putDash 17 = .ok (.iload_n 2, 1) := by decide +kernel
theorem dX3_putDash_18 : decode cX3_putDash 18 = .ok (.invokevirtual 71, 3) := by decide +kernel
theorem dX3_putDash_21 : decode cX3_putDash 21 = .ok (.pop, 1) := by decide +kernel
theorem dX3_putDash_22 : decode cX3_putDash 22 = .ok (.goto 13, 3) := by decide +kernel
theorem dX3_putDash_25 : decode cX3_putDash 25 = .ok (.aload_n 0, 1) := by decide +kernel
theorem dX3_putDash_26 : decode cX3_putDash 26 = .ok (.getfield 23, 3) := by decide +kernel
theorem dX3_putDash_29 : decode cX3_putDash 29 = .ok (.iload_n 1, 1) := by decide +kernel
theorem dX3_putDash_30 : decode cX3_putDash 30 = .ok (.iload_n 2, 1) := by decide +kernel
theorem dX3_putDash_31 : decode cX3_putDash 31 = .ok (.iload_n 3, 1) := by decide +kernel
theorem dX3_putDash_32 : decode cX3_putDash 32 = .ok (.invokevirtual 59, 3) := by decide +kernel
theorem dX3_putDash_35 : decode cX3_putDash 35 = .ok (.iload 4, 2) := by decide +kernel
theorem dX3_putDash_37 : decode cX3_putDash 37 = .ok (.ireturn, 1) := by decide +kernel
set_option maxRecDepth 20000 in
theorem ggX3_clearCell_X4_remove : GoodIn wsX3_clearCell wsX4_remove := goodIn_r _ [7, 8, 9, 10, 6, 11, 12, 13, 14, 15, 16, 17, 18, 19, 30, 31, 32] (by decide +kernel) (by decide +kernel)
set_option maxRecDepth 20000 in
theorem gX3_clearCell_X4_remove : GoodIn wsX3_clearCell (wsV RX3 71 RX4 yX4_remove wsX4_remove) := goodIn_app (goodIn_of _ (by decide +kernel)) ggX3_clearCell_X4_remove
theorem dX3_clearCell_0 : decode cX3_clearCell 0 = .ok (.aload_n 0, 1) := by decide +kernel
theorem dX3_clearCell_1 : decode cX3_clearCell 1 = .ok (.getfield 14, 3) := by decide +kernel
theorem dX3_clearCell_4 : decode cX3_clearCell 4 = .ok (.iload_n 1, 1) := by decide +kernel
theorem dX3_clearCell_5 : decode cX3_clearCell 5 = .ok (.iload_n 2, 1) := by decide +kernel
theorem dX3_clearCell_6 : decode cX3_clearCell 6 = .ok (.invokevirtual 71, 3) := by decide +kernel
theorem dX3_clearCell_9 : decode cX3_clearCell 9 = .ok (.aload_n 0, 1) := by decide +kernel
theorem dX3_clearCell_10 : decode cX3_clearCell 10 = .ok (.getfield 20, 3) := by decide +kernel
theorem dX3_clearCell_13 : decode cX3_clearCell 13 = .ok (.iload_n 1, 1) := by decide +kernel
theorem dX3_clearCell_14 : decode cX3_clearCell 14 = .ok (.iload_n 2, 1) := by decide +kernel
theorem dX3_clearCell_15 : decode cX3_clearCell 15 = .ok (.invokevirtual 71, 3) := by decide +kernel
theorem dX3_clearCell_18 : decode cX3_clearCell 18 = .ok (.iadd, 1) := by decide +kernel
theorem dX3_clearCell_19 : decode cX3_clearCell 19 = .ok (.ireturn, 1) := by decide +kernel
theorem dX3_changeSetting_0 : decode cX3_changeSetting 0 = .ok (.aload_n 0, 1) := by decide +kernel
theorem dX3_changeSetting_1 : decode cX3_changeSetting 1 = .ok (.getfield 30, 3) := by decide +kernel
theorem dX3_changeSetting_4 : decode cX3_changeSetting 4 = .ok (.iload_n 1, 1) := by decide +kernel
theorem dX3_changeSetting_5 : decode cX3_changeSetting 5 = .ok (.iaload, 1) := by decide +kernel
theorem dX3_changeSetting_6 : decode cX3_changeSetting 6 = .ok (.istore_n 3, 1) := by decide +kernel
theorem dX3_changeSetting_7 : decode cX3_changeSetting 7 = .ok (.aload_n 0, 1) := by decide +kernel
theorem dX3_changeSetting_8 : decode cX3_changeSetting 8 = .ok (.getfield 30, 3) := by decide +kernel
theorem dX3_changeSetting_11 : decode cX3_changeSetting 11 = .ok (.iload_n 1, 1) := by decide +kernel
theorem dX3_changeSetting_12 : decode cX3_changeSetting 12 = .ok (.iload_n 2, 1) := by decide +kernel
theorem dX3_changeSetting_13 : decode cX3_changeSetting 13 = .ok (.iastore, 1) := by decide +kernel
theorem dX3_changeSetting_14 : decode cX3_changeSetting 14 = .ok (.iload_n 3, 1) := by decide +kernel
theorem dX3_changeSetting_15 : decode cX3_changeSetting 15 = .ok (.ireturn, 1) := by decide +kernel
theorem dX3_changeTraffic_0 : decode cX3_changeTraffic 0 = .ok (.aload_n 0, 1) := by decide +kernel
theorem dX3_changeTraffic_1 : decode cX3_changeTraffic 1 = .ok (.getfield 26, 3) := by decide +kernel
theorem dX3_changeTraffic_4 : decode cX3_changeTraffic 4 = .ok (.iload_n 1, 1) := by decide +kernel
theorem dX3_changeTraffic_5 : decode cX3_changeTraffic 5 = .ok (.iaload, 1) := by decide +kernel
theorem dX3_changeTraffic_6 : decode cX3_changeTraffic 6 = .ok (.istore_n 3, 1) := by decide +kernel
theorem dX3_changeTraffic_7 : decode cX3_changeTraffic 7 = .ok (.aload_n 0, 1) := by decide +kernel
theorem dX3_changeTraffic_8 : decode cX3_changeTraffic 8 = .ok (.getfield 26, 3) := by decide +kernel
theorem dX3_changeTraffic_11 : decode cX3_changeTraffic 11 = .ok (.iload_n 1, 1) := by decide +kernel
theorem dX3_changeTraffic_12 : decode cX3_changeTraffic 12 = .ok (.iload_n 2, 1) := by decide +kernel
theorem dX3_changeTraffic_13 : decode cX3_changeTraffic 13 = .ok (.iastore, 1) := by decide +kernel
theorem dX3_changeTraffic_14 : decode cX3_changeTraffic 14 = .ok (.iload_n 3, 1) := by decide +kernel
theorem dX3_changeTraffic_15 : decode cX3_changeTraffic 15 = .ok (.ireturn, 1) := by decide +kernel
theorem dX3_addCans_0 : decode cX3_addCans 0 = .ok (.aload_n 0, 1) := by decide +kernel
theorem dX3_addCans_1 : decode cX3_addCans 1 = .ok (.dup, 1) := by decide +kernel
theorem dX3_addCans_2 : decode cX3_addCans 2 = .ok (.getfield 33, 3) := by decide +kernel
theorem dX3_addCans_5 : decode cX3_addCans 5 = .ok (.iload_n 1, 1) := by decide +kernel
theorem dX3_addCans_6 : decode cX3_addCans 6 = .ok (.iadd, 1) := by decide +kernel
theorem dX3_addCans_7 : decode cX3_addCans 7 = .ok (.putfield 33, 3) := by decide +kernel
theorem dX3_addCans_10 : decode cX3_addCans 10 = .ok (.aload_n 0, 1) := by decide +kernel
theorem dX3_addCans_11 : decode cX3_addCans 11 = .ok (.getfield 33, 3) := by decide +kernel
theorem dX3_addCans_14 : decode cX3_addCans 14 = .ok (.ireturn, 1) := by decide +kernel
set_option maxRecDepth 20000 in
theorem ggX3_passDays_X3_passDay : GoodIn wsX3_passDays wsX3_passDay := goodIn_r _ [7, 8, 9, 10, 11, 12, 13, 14, 6, 15, 16, 17, 18, 19, 20, 21, 22, 23, 24, 25, 26, 27, 28, 29, 30, 31, 32, 33, 34, 35, 36, 37, 38, 39, 40, 41, 42, 43, 44, 45, 46, 47, 48, 49, 50, 51, 52, 53, 54, 55] (by decide +kernel) (by decide +kernel)
set_option maxRecDepth 20000 in
theorem gX3_passDays_X3_passDay : GoodIn wsX3_passDays (wsV RX3 74 RX3 yX3_passDay wsX3_passDay) := goodIn_app (goodIn_of _ (by decide +kernel)) ggX3_passDays_X3_passDay
theorem dX3_passDays_0 : decode cX3_passDays 0 = .ok (.iconst 0, 1) := by decide +kernel
theorem dX3_passDays_1 : decode cX3_passDays 1 = .ok (.istore_n 2, 1) := by decide +kernel
theorem dX3_passDays_2 : decode cX3_passDays 2 = .ok (.iconst 0, 1) := by decide +kernel
theorem dX3_passDays_3 : decode cX3_passDays 3 = .ok (.istore_n 3, 1) := by decide +kernel
theorem dX3_passDays_4 : decode cX3_passDays 4 = .ok (.iload_n 3, 1) := by decide +kernel
theorem dX3_passDays_5 : decode cX3_passDays 5 = .ok (.iload_n 1, 1) := by decide +kernel
theorem dX3_passDays_6 : decode cX3_passDays 6 = .ok (.if_icmp .ge 16, 3) := by decide +kernel
theorem dX3_passDays_9 : decode cX3_passDays 9 = .ok (.iload_n 2, 1) := by decide +kernel
theorem dX3_passDays_10 : decode cX3_passDays 10 = .ok (.aload_n 0, 1) := by decide +kernel
theorem dX3_passDays_11 : decode cX3_passDays 11 = .ok (.invokevirtual 74, 3) := by decide +kernel
theorem dX3_passDays_14 : decode cX3_passDays 14 = .ok (.iadd, 1) := by decide +kernel
theorem dX3_passDays_15 : decode cX3_passDays 15 = .ok (.istore_n 2, 1) := by decide +kernel
theorem dX3_passDays_16 : decode cX3_passDays 16 = .ok (.iinc 3 1, 3) := by decide +kernel
theorem dX3_passDays_19 : decode cX3_passDays 19 = .ok (.goto (-15), 3) := by decide +kernel
theorem dX3_passDays_22 : decode cX3_passDays 22 = .ok (.aload_n 0, 1) := by decide +kernel
theorem dX3_passDays_23 : decode cX3_passDays 23 = .ok (.dup, 1) := by decide +kernel
theorem dX3_passDays_24 : decode cX3_passDays 24 = .ok (.getfield 47, 3) := by decide +kernel
theorem dX3_passDays_27 : decode cX3_passDays 27 = .ok (.iload_n 1, 1) := by decide +kernel
theorem dX3_passDays_28 : decode cX3_passDays 28 = .ok (.iadd, 1) := by decide +kernel
theorem dX3_passDays_29 : decode cX3_passDays 29 = .ok (.putfield 47, 3) := by decide +kernel
theorem dX3_passDays_32 : decode cX3_passDays 32 = .ok (.aload_n 0, 1) := by decide +kernel
theorem dX3_passDays_33 : decode cX3_passDays 33 = .ok (.dup, 1) := by decide +kernel
theorem dX3_passDays_34 : decode cX3_passDays 34 = .ok (.getfield 56, 3) := by decide +kernel
theorem dX3_passDays_37 : decode cX3_passDays 37 = .ok (.iload_n 2, 1) := by decide +kernel
theorem dX3_passDays_38 : decode cX3_passDays 38 = .ok (.iadd, 1) := by decide +kernel
theorem dX3_passDays_39 : decode cX3_passDays 39 = .ok (.putfield 56, 3) := by decide +kernel
theorem dX3_passDays_42 : decode cX3_passDays 42 = .ok (.iload_n 2, 1) := by decide +kernel
theorem dX3_passDays_43 : decode cX3_passDays 43 = .ok (.ireturn, 1) := by decide +kernel
set_option maxRecDepth 20000 in
theorem ggX3_passDay_X3_lossAt : GoodIn wsX3_passDay wsX3_lossAt := goodIn_r _ [9, 1, 3, 10, 11, 12, 8, 13, 14, 15, 16, 17, 18, 19, 20, 21, 22, 23, 24, 25, 37, 38, 39, 40, 41, 42, 43, 44, 45, 46, 47, 48, 49] (by decide +kernel) (by decide +kernel)
set_option maxRecDepth 20000 in
theorem gX3_passDay_X3_lossAt : GoodIn wsX3_passDay (wsV RX3 77 RX3 yX3_lossAt wsX3_lossAt) := goodIn_app (goodIn_of _ (by decide +kernel)) ggX3_passDay_X3_lossAt
set_option maxRecDepth 20000 in
theorem ggX3_passDay_X4_weaken : GoodIn wsX3_passDay wsX4_weaken := goodIn_r _ [29, 20, 30, 31, 32, 33, 34, 35, 36, 47, 48, 49] (by decide +kernel) (by decide +kernel)
set_option maxRecDepth 20000 in
theorem gX3_passDay_X4_weaken : GoodIn wsX3_passDay (wsV RX3 80 RX4 yX4_weaken wsX4_weaken) := goodIn_app (goodIn_of _ (by decide +kernel)) ggX3_passDay_X4_weaken
theorem dX3_passDay_0 : decode cX3_passDay 0 = .ok (.iconst 0, 1) := by decide +kernel
theorem dX3_passDay_1 : decode cX3_passDay 1 = .ok (.istore_n 1, 1) := by decide +kernel
theorem dX3_passDay_2 : decode cX3_passDay 2 = .ok (.iconst 0, 1) := by decide +kernel
theorem dX3_passDay_3 : decode cX3_passDay 3 = .ok (.istore_n 2, 1) := by decide +kernel
theorem dX3_passDay_4 : decode cX3_passDay 4 = .ok (.iload_n 2, 1) := by decide +kernel
theorem dX3_passDay_5 : decode cX3_passDay 5 = .ok (.bipush 16, 2) := by decide +kernel
theorem dX3_passDay_7 : decode cX3_passDay 7 = .ok (.if_icmp .ge 102, 3) := by decide +kernel
theorem dX3_passDay_10 : decode cX3_passDay 10 = .ok (.iconst 0, 1) := by decide +kernel
theorem dX3_passDay_11 : decode cX3_passDay 11 = .ok (.istore_n 3, 1) := by decide +kernel
theorem dX3_passDay_12 : decode cX3_passDay 12 = .ok (.iload_n 3, 1) := by decide +kernel
theorem dX3_passDay_13 : decode cX3_passDay 13 = .ok (.iconst 3, 1) := by decide +kernel
theorem dX3_passDay_14 : decode cX3_passDay 14 = .ok (.if_icmp .ge 43, 3) := by decide +kernel
theorem dX3_passDay_17 : decode cX3_passDay 17 = .ok (.aload_n 0, 1) := by decide +kernel
theorem dX3_passDay_18 : decode cX3_passDay 18 = .ok (.iload_n 3, 1) := by decide +kernel
theorem dX3_passDay_19 : decode cX3_passDay 19 = .ok (.iload_n 2, 1) := by decide +kernel
theorem dX3_passDay_20 : decode cX3_passDay 20 = .ok (.invokevirtual 77, 3) := by decide +kernel
theorem dX3_passDay_23 : decode cX3_passDay 23 = .ok (.istore 4, 2) := by decide +kernel
theorem dX3_passDay_25 : decode cX3_passDay 25 = .ok (.iload_n 1, 1) := by decide +kernel
theorem dX3_passDay_26 : decode cX3_passDay 26 = .ok (.aload_n 0, 1) := by decide +kernel
theorem dX3_passDay_27 : decode cX3_passDay 27 = .ok (.getfield 20, 3) := by decide +kernel
theorem dX3_passDay_30 : decode cX3_passDay 30 = .ok (.iload_n 3, 1) := by decide +kernel
theorem dX3_passDay_31 : decode cX3_passDay 31 = .ok (.iload_n 2, 1) := by decide +kernel
theorem dX3_passDay_32 : decode cX3_passDay 32 = .ok (.iload 4, 2) := by decide +kernel
theorem dX3_passDay_34 : decode cX3_passDay 34 = .ok (.invokevirtual 80, 3) := by decide +kernel
theorem dX3_passDay_37 : decode cX3_passDay 37 = .ok (.aload_n 0, 1) := by decide +kernel
theorem dX3_passDay_38 : decode cX3_passDay 38 = .ok (.getfield 14, 3) := by decide +kernel
theorem dX3_passDay_41 : decode cX3_passDay 41 = .ok (.iload_n 3, 1) := by decide +kernel
theorem dX3_passDay_42 : decode cX3_passDay 42 = .ok (.iload_n 2, 1) := by decide +kernel
theorem dX3_passDay_43 : decode cX3_passDay 43 = .ok (.iload 4, 2) := by decide +kernel
theorem dX3_passDay_45 : decode cX3_passDay 45 = .ok (.invokevirtual 80, 3) := by decide +kernel
theorem dX3_passDay_48 : decode cX3_passDay 48 = .ok (.iadd, 1) := by decide +kernel
theorem dX3_passDay_49 : decode cX3_passDay 49 = .ok (.iadd, 1) := by decide +kernel
theorem dX3_passDay_50 : decode cX3_passDay 50 = .ok (.istore_n 1, 1) := by decide +kernel
theorem dX3_passDay_51 : decode cX3_passDay 51 = .ok (.iinc 3 1, 3) := by decide +kernel
theorem dX3_passDay_54 : decode cX3_passDay 54 = .ok (.goto (-42), 3) := by decide +kernel
theorem dX3_passDay_57 : decode cX3_passDay 57 = .ok (.iconst 0, 1) := by decide +kernel
theorem dX3_passDay_58 : decode cX3_passDay 58 = .ok (.istore_n 3, 1) := by decide +kernel
theorem dX3_passDay_59 : decode cX3_passDay 59 = .ok (.iload_n 3, 1) := by decide +kernel
theorem dX3_passDay_60 : decode cX3_passDay 60 = .ok (.iconst 2, 1) := by decide +kernel
theorem dX3_passDay_61 : decode cX3_passDay 61 = .ok (.if_icmp .ge 42, 3) := by decide +kernel
theorem dX3_passDay_64 : decode cX3_passDay 64 = .ok (.aload_n 0, 1) := by decide +kernel
theorem dX3_passDay_65 : decode cX3_passDay 65 = .ok (.getfield 26, 3) := by decide +kernel
theorem dX3_passDay_68 : decode cX3_passDay 68 = .ok (.iload_n 3, 1) := by decide +kernel
theorem dX3_passDay_69 : decode cX3_passDay 69 = .ok (.iaload, 1) := by decide +kernel
theorem dX3_passDay_70 : decode cX3_passDay 70 = .ok (.aload_n 0, 1) := by decide +kernel
theorem dX3_passDay_71 : decode cX3_passDay 71 = .ok (.getfield 26, 3) := by decide +kernel
theorem dX3_passDay_74 : decode cX3_passDay 74 = .ok (.iload_n 3, 1) := by decide +kernel
theorem dX3_passDay_75 : decode cX3_passDay 75 = .ok (.iconst 1, 1) := by decide +kernel
theorem dX3_passDay_76 : decode cX3_passDay 76 = .ok (.iadd, 1) := by decide +kernel
theorem dX3_passDay_77 : decode cX3_passDay 77 = .ok (.iaload, 1) := by decide +kernel
theorem dX3_passDay_78 : decode cX3_passDay 78 = .ok (.iadd, 1) := by decide +kernel
theorem dX3_passDay_79 : decode cX3_passDay 79 = .ok (.iconst 2, 1) := by decide +kernel
theorem dX3_passDay_80 : decode cX3_passDay 80 = .ok (.idiv, 1) := by decide +kernel
theorem dX3_passDay_81 : decode cX3_passDay 81 = .ok (.istore 4, 2) := by decide +kernel
theorem dX3_passDay_83 : decode cX3_passDay 83 = .ok (.iload_n 1, 1) := by decide +kernel
theorem dX3_passDay_84 : decode cX3_passDay 84 = .ok (.aload_n 0, 1) := by decide +kernel
theorem dX3_passDay_85 : decode cX3_passDay 85 = .ok (.getfield 23, 3) := by decide +kernel
theorem dX3_passDay_88 : decode cX3_passDay 88 = .ok (.iload_n 3, 1) := by decide +kernel
theorem dX3_passDay_89 : decode cX3_passDay 89 = .ok (.iload_n 2, 1) := by decide +kernel
theorem dX3_passDay_90 : decode cX3_passDay 90 = .ok (.iload 4, 2) := by decide +kernel
theorem dX3_passDay_92 : decode cX3_passDay 92 = .ok (.invokevirtual 80, 3) := by decide +kernel
theorem dX3_passDay_95 : decode cX3_passDay 95 = .ok (.iadd, 1) := by decide +kernel
theorem dX3_passDay_96 : decode cX3_passDay 96 = .ok (.istore_n 1, 1) := by decide +kernel
theorem dX3_passDay_97 : decode cX3_passDay 97 = .ok (.iinc 3 1, 3) := by decide +kernel
theorem dX3_passDay_100 : decode cX3_passDay 100 = .ok (.goto (-41), 3) := by decide +kernel
theorem dX3_passDay_103 : decode cX3_passDay 103 = .ok (.iinc 2 1, 3) := by decide +kernel
theorem dX3_passDay_106 : decode cX3_passDay 106 = .ok (.goto (-102), 3) := by decide +kernel
theorem dX3_passDay_109 : decode cX3_passDay 109 = .ok (.iload_n 1, 1) := by decide +kernel
theorem dX3_passDay_110 : decode cX3_passDay 110 = .ok (.ireturn, 1) := by decide +kernel
set_option maxRecDepth 20000 in
theorem ggX3_lossAt_X3_canRead : GoodIn wsX3_lossAt wsX3_canRead := goodIn_r _ [7, 1, 8, 9, 10, 11, 12, 13, 14, 20, 21, 22, 23, 24, 25, 26, 27, 28, 29, 30, 31, 32] (by decide +kernel) (by decide +kernel)
set_option maxRecDepth 20000 in
theorem gX3_lossAt_X3_canRead : GoodIn wsX3_lossAt (wsV RX3 84 RX3 yX3_canRead wsX3_canRead) := goodIn_app (goodIn_of _ (by decide +kernel)) ggX3_lossAt_X3_canRead
set_option maxRecDepth 20000 in
theorem ggX3_lossAt_X4_kindOr : GoodIn wsX3_lossAt wsX4_kindOr := goodIn_r _ [18, 14, 19, 30, 31, 32] (by decide +kernel) (by decide +kernel)
set_option maxRecDepth 20000 in
theorem gX3_lossAt_X4_kindOr : GoodIn wsX3_lossAt (wsV RX3 88 RX4 yX4_kindOr wsX4_kindOr) := goodIn_app (goodIn_of _ (by decide +kernel)) ggX3_lossAt_X4_kindOr
theorem dX3_lossAt_0 : decode cX3_lossAt 0 = .ok (.aload_n 0, 1) := by decide +kernel
theorem dX3_lossAt_1 : decode cX3_lossAt 1 = .ok (.iload_n 1, 1) := by decide +kernel
theorem dX3_lossAt_2 : decode cX3_lossAt 2 = .ok (.iload_n 2, 1) := by decide +kernel
theorem dX3_lossAt_3 : decode cX3_lossAt 3 = .ok (.invokevirtual 84, 3) := by decide +kernel
theorem dX3_lossAt_6 : decode cX3_lossAt 6 = .ok (.ifCond .eq 21, 3) := by decide +kernel
theorem dX3_lossAt_9 : decode cX3_lossAt 9 = .ok (.aload_n 0, 1) := by decide +kernel
theorem dX3_lossAt_10 : decode cX3_lossAt 10 = .ok (.getfield 20, 3) := by decide +kernel
theorem dX3_lossAt_13 : decode cX3_lossAt 13 = .ok (.iload_n 1, 1) := by decide +kernel
theorem dX3_lossAt_14 : decode cX3_lossAt 14 = .ok (.iload_n 2, 1) := by decide +kernel
theorem dX3_lossAt_15 : decode cX3_lossAt 15 = .ok (.iconst 2, 1) := by decide +kernel
theorem dX3_lossAt_16 : decode cX3_lossAt 16 = .ok (.invokevirtual 88, 3) := by decide +kernel
theorem dX3_lossAt_19 : decode cX3_lossAt 19 = .ok (.iconst 1, 1) := by decide +kernel
theorem dX3_lossAt_20 : decode cX3_lossAt 20 = .ok (.if_icmp .gt 7, 3) := by decide +kernel
theorem dX3_lossAt_23 : decode cX3_lossAt 23 = .ok (.iconst 1, 1) := by decide +kernel
theorem dX3_lossAt_24 : decode cX3_lossAt 24 = .ok (.goto 4, 3) := by decide +kernel
theorem dX3_lossAt_27 : decode cX3_lossAt 27 = .ok (.iconst 0, 1) := by decide +kernel
theorem dX3_lossAt_28 : decode cX3_lossAt 28 = .ok (.istore_n 3, 1) := by decide +kernel
theorem dX3_lossAt_29 : decode cX3_lossAt 29 = .ok (.iload_n 3, 1) := by decide +kernel
theorem dX3_lossAt_30 : decode cX3_lossAt 30 = .ok (.ifCond .eq 14, 3) := by decide +kernel
theorem dX3_lossAt_33 : decode cX3_lossAt 33 = .ok (.aload_n 0, 1) := by decide +kernel
theorem dX3_lossAt_34 : decode cX3_lossAt 34 = .ok (.getfield 26, 3) := by decide +kernel
theorem dX3_lossAt_37 : decode cX3_lossAt 37 = .ok (.iload_n 1, 1) := by decide +kernel
theorem dX3_lossAt_38 : decode cX3_lossAt 38 = .ok (.iaload, 1) := by decide +kernel
theorem dX3_lossAt_39 : decode cX3_lossAt 39 = .ok (.iconst 2, 1) := by decide +kernel
theorem dX3_lossAt_40 : decode cX3_lossAt 40 = .ok (.idiv, 1) := by decide +kernel
theorem dX3_lossAt_41 : decode cX3_lossAt 41 = .ok (.goto 9, 3) := by decide +kernel
theorem dX3_lossAt_44 : decode cX3_lossAt 44 = .ok (.aload_n 0, 1) := by decide +kernel
theorem dX3_lossAt_45 : decode cX3_lossAt 45 = .ok (.getfield 26, 3) := by decide +kernel
theorem dX3_lossAt_48 : decode cX3_lossAt 48 = .ok (.iload_n 1, 1) := by decide +kernel
theorem dX3_lossAt_49 : decode cX3_lossAt 49 = .ok (.iaload, 1) := by decide +kernel
theorem dX3_lossAt_50 : decode cX3_lossAt 50 = .ok (.ireturn, 1) := by decide +kernel
set_option maxRecDepth 20000 in
theorem ggX3_workNight_X3_crewLimit : GoodIn wsX3_workNight wsX3_crewLimit := goodIn_r _ [12, 5, 13, 14, 15, 3, 16, 35, 36, 37, 38, 39, 40, 41, 42, 43, 44] (by decide +kernel) (by decide +kernel)
set_option maxRecDepth 20000 in
theorem gX3_workNight_X3_crewLimit : GoodIn wsX3_workNight (wsV RX3 97 RX3 yX3_crewLimit wsX3_crewLimit) := goodIn_app (goodIn_of _ (by decide +kernel)) ggX3_workNight_X3_crewLimit
set_option maxRecDepth 20000 in
theorem ggX3_workNight_X3_repaintMile : GoodIn wsX3_workNight wsX3_repaintMile := goodIn_r _ [20, 21, 22, 23, 24, 25, 26, 27, 28, 29, 30, 31, 32, 33, 34, 35, 36, 37, 38, 39, 40, 41, 42, 43, 44, 45, 46, 47] (by decide +kernel) (by decide +kernel)

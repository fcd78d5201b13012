set_option maxRecDepth 20000 in
theorem ggX2_ahead_X2_in : GoodIn wsX2_ahead wsX2_in := goodIn_r _ [8] (by decide +kernel) (by decide +kernel)
set_option maxRecDepth 20000 in
theorem gX2_ahead_X2_in : GoodIn wsX2_ahead (va_wsS RX2 47 yX2_in wsX2_in) := goodIn_app (goodIn_of _ (by decide +kernel)) ggX2_ahead_X2_in
set_option maxRecDepth 20000 in
theorem ggX2_ahead_X2_copy : GoodIn wsX2_ahead wsX2_copy := goodIn_r _ [11] (by decide +kernel) (by decide +kernel)
set_option maxRecDepth 20000 in
theorem gX2_ahead_X2_copy : GoodIn wsX2_ahead (va_wsS RX2 128 yX2_copy wsX2_copy) := goodIn_app (goodIn_of _ (by decide +kernel)) ggX2_ahead_X2_copy
set_option maxRecDepth 20000 in
theorem ggX2_ahead_X2_passOn : GoodIn wsX2_ahead wsX2_passOn := goodIn_r _ [14, 15, 16, 7, 17, 18, 19, 20, 21, 22, 23, 24, 25, 26, 27, 28, 29, 30, 31, 32, 33, 34, 35, 36, 37, 38, 39, 40, 41, 42, 43, 44, 45, 46, 47, 48, 49, 50, 51, 52, 53, 54, 55, 56, 57] (by decide +kernel) (by decide +kernel)
set_option maxRecDepth 20000 in
theorem gX2_ahead_X2_passOn : GoodIn wsX2_ahead (va_wsS RX2 108 yX2_passOn wsX2_passOn) := goodIn_app (goodIn_of _ (by decide +kernel)) ggX2_ahead_X2_passOn
set_option maxRecDepth 20000 in
theorem ggX2_ahead_X2_those : GoodIn wsX2_ahead wsX2_those := goodIn_r _ [60] (by decide +kernel) (by decide +kernel)
set_option maxRecDepth 20000 in
theorem gX2_ahead_X2_those : GoodIn wsX2_ahead (va_wsS RX2 111 yX2_those wsX2_those) := goodIn_app (goodIn_of _ (by decide +kernel)) ggX2_ahead_X2_those
theorem dX2_ahead_0 : decode cX2_ahead 0 = .ok (.iload_n 1, 1) := by decide +kernel
theorem dX2_ahead_1 : decode cX2_ahead 1 = .ok (.i2l, 1) := by decide +kernel
theorem dX2_ahead_2 : decode cX2_ahead 2 = .ok (.lconst 0, 1) := by decide +kernel
theorem dX2_ahead_3 : decode cX2_ahead 3 = .ok (.ldc2_w 151, 3) := by decide +kernel
theorem dX2_ahead_6 : decode cX2_ahead 6 = .ok (.invokestatic 47, 3) := by decide +kernel
theorem dX2_ahead_9 : decode cX2_ahead 9 = .ok (.ifCond .eq 15, 3) := by decide +kernel
theorem dX2_ahead_12 : decode cX2_ahead 12 = .ok (.iload_n 2, 1) := by decide +kernel
theorem dX2_ahead_13 : decode cX2_ahead 13 = .ok (.i2l, 1) := by decide +kernel
theorem dX2_ahead_14 : decode cX2_ahead 14 = .ok (.lconst 0, 1) := by decide +kernel
theorem dX2_ahead_15 : decode cX2_ahead 15 = .ok (.ldc2_w 153, 3) := by decide +kernel
theorem dX2_ahead_18 : decode cX2_ahead 18 = .ok (.invokestatic 47, 3) := by decide +kernel
theorem dX2_ahead_21 : decode cX2_ahead 21 = .ok (.ifCond .ne 6, 3) := by decide +kernel
theorem dX2_ahead_24 : decode cX2_ahead 24 = .ok (.bipush (-2), 2) := by decide +kernel
theorem dX2_ahead_26 : decode cX2_ahead 26 = .ok (.ireturn, 1) := by decide +kernel
theorem dX2_ahead_27 : decode cX2_ahead 27 = .ok (.aload_n 0, 1) := by decide +kernel
theorem dX2_ahead_28 : decode cX2_ahead 28 = .ok (.getfield 13, 3) := by decide +kernel
theorem dX2_ahead_31 : decode cX2_ahead 31 = .ok (.aload_n 0, 1) := by decide +kernel
theorem dX2_ahead_32 : decode cX2_ahead 32 = .ok (.getfield 16, 3) := by decide +kernel
theorem dX2_ahead_35 : decode cX2_ahead 35 = .ok (.invokestatic 128, 3) := by decide +kernel
theorem dX2_ahead_38 : decode cX2_ahead 38 = .ok (.aload_n 0, 1) := by decide +kernel
theorem dX2_ahead_39 : decode cX2_ahead 39 = .ok (.getfield 16, 3) := by decide +kernel
theorem dX2_ahead_42 : decode cX2_ahead 42 = .ok (.iload_n 1, 1) := by decide +kernel
theorem dX2_ahead_43 : decode cX2_ahead 43 = .ok (.invokestatic 108, 3) := by decide +kernel
theorem dX2_ahead_46 : decode cX2_ahead 46 = .ok (.istore_n 3, 1) := by decide +kernel
theorem dX2_ahead_47 : decode cX2_ahead 47 = .ok (.iload_n 2, 1) := by decide +kernel
theorem dX2_ahead_48 : decode cX2_ahead 48 = .ok (.ifCond .ne 13, 3) := by decide +kernel
theorem dX2_ahead_51 : decode cX2_ahead 51 = .ok (.aload_n 0, 1) := by decide +kernel
theorem dX2_ahead_52 : decode cX2_ahead 52 = .ok (.getfield 16, 3) := by decide +kernel
theorem dX2_ahead_55 : decode cX2_ahead 55 = .ok (.bipush 71, 2) := by decide +kernel
theorem dX2_ahead_57 : decode cX2_ahead 57 = .ok (.iaload, 1) := by decide +kernel
theorem dX2_ahead_58 : decode cX2_ahead 58 = .ok (.goto 41, 3) := by decide +kernel
theorem dX2_ahead_61 : decode cX2_ahead 61 = .ok (.iload_n 2, 1) := by decide +kernel
theorem dX2_ahead_62 : decode cX2_ahead 62 = .ok (.iconst 1, 1) := by decide +kernel
theorem dX2_ahead_63 : decode cX2_ahead 63 = .ok (.if_icmp .ne 13, 3) := by decide +kernel
theorem dX2_ahead_66 : decode cX2_ahead 66 = .ok (.aload_n 0, 1) := by decide +kernel
theorem dX2_ahead_67 : decode cX2_ahead 67 = .ok (.getfield 16, 3) := by decide +kernel
theorem dX2_ahead_70 : decode cX2_ahead 70 = .ok (.bipush 72, 2) := by decide +kernel
theorem dX2_ahead_72 : decode cX2_ahead 72 = .ok (.iaload, 1) := by decide +kernel
theorem dX2_ahead_73 : decode cX2_ahead 73 = .ok (.goto 26, 3) := by decide +kernel
theorem dX2_ahead_76 : decode cX2_ahead 76 = .ok (.iload_n 2, 1) := by decide +kernel
theorem dX2_ahead_77 : decode cX2_ahead 77 = .ok (.iconst 2, 1) := by decide +kernel
theorem dX2_ahead_78 : decode cX2_ahead 78 = .ok (.if_icmp .ne 14, 3) := by decide +kernel
theorem dX2_ahead_81 : decode cX2_ahead 81 = .ok (.aload_n 0, 1) := by decide +kernel
theorem dX2_ahead_82 : decode cX2_ahead 82 = .ok (.getfield 16, 3) := by decide +kernel
theorem dX2_ahead_85 : decode cX2_ahead 85 = .ok (.iconst 1, 1) := by decide +kernel
theorem dX2_ahead_86 : decode cX2_ahead 86 = .ok (.invokestatic 111, 3) := by decide +kernel
theorem dX2_ahead_89 : decode cX2_ahead 89 = .ok (.goto 10, 3) := by decide +kernel
theorem dX2_ahead_92 : decode cX2_ahead 92 = .ok (.aload_n 0, 1) := by decide +kernel
theorem dX2_ahead_93 : decode cX2_ahead 93 = .ok (.getfield 16, 3) := by decide +kernel
theorem dX2_ahead_96 : decode cX2_ahead 96 = .ok (.bipush 69, 2) := by decide +kernel
theorem dX2_ahead_98 : decode cX2_ahead 98 = .ok (.iaload, 1) := by decide +kernel
theorem dX2_ahead_99 : decode cX2_ahead 99 = .ok (.ireturn, 1) := by decide +kernel
set_option maxRecDepth 20000 in
theorem ggX2_crowd_X2_in : GoodIn wsX2_crowd wsX2_in := goodIn_r _ [7] (by decide +kernel) (by decide +kernel)
set_option maxRecDepth 20000 in
theorem gX2_crowd_X2_in : GoodIn wsX2_crowd (va_wsS RX2 47 yX2_in wsX2_in) := goodIn_app (goodIn_of _ (by decide +kernel)) ggX2_crowd_X2_in
set_option maxRecDepth 20000 in
theorem ggX2_crowd_X2_copy : GoodIn wsX2_crowd wsX2_copy := goodIn_r _ [10] (by decide +kernel) (by decide +kernel)
set_option maxRecDepth 20000 in
theorem gX2_crowd_X2_copy : GoodIn wsX2_crowd (va_wsS RX2 128 yX2_copy wsX2_copy) := goodIn_app (goodIn_of _ (by decide +kernel)) ggX2_crowd_X2_copy
set_option maxRecDepth 20000 in
theorem ggX2_crowd_X2_passOn : GoodIn wsX2_crowd wsX2_passOn := goodIn_r _ [13, 14, 15, 6, 16, 17, 18, 19, 20, 21, 22, 23, 24, 25, 26, 27, 28, 29, 30, 31, 32, 33, 34, 35, 36, 37, 38, 39, 40, 41, 42, 43, 44, 45, 46, 47, 48, 49, 50, 51, 52, 53, 54, 55, 56] (by decide +kernel) (by decide +kernel)
set_option maxRecDepth 20000 in
theorem gX2_crowd_X2_passOn : GoodIn wsX2_crowd (va_wsS RX2 108 yX2_passOn wsX2_passOn) := goodIn_app (goodIn_of _ (by decide +kernel)) ggX2_crowd_X2_passOn
theorem dX2_crowd_0 : decode cX2_crowd 0 = .ok (.iload_n 1, 1) := by decide +kernel
theorem dX2_crowd_1 : decode cX2_crowd 1 = .ok (.i2l, 1) := by decide +kernel
theorem dX2_crowd_2 : decode cX2_crowd 2 = .ok (.lconst 1, 1) := by decide +kernel
theorem dX2_crowd_3 : decode cX2_crowd 3 = .ok (.ldc2_w 151, 3) := by decide +kernel
theorem dX2_crowd_6 : decode cX2_crowd 6 = .ok (.invokestatic 47, 3) := by decide +kernel
theorem dX2_crowd_9 : decode cX2_crowd 9 = .ok (.ifCond .ne 6, 3) := by decide +kernel
theorem dX2_crowd_12 : decode cX2_crowd 12 = .ok (.bipush (-2), 2) := by decide +kernel
theorem dX2_crowd_14 : decode cX2_crowd 14 = .ok (.ireturn, 1) := by decide +kernel
theorem dX2_crowd_15 : decode cX2_crowd 15 = .ok (.aload_n 0, 1) := by decide +kernel
theorem dX2_crowd_16 : decode cX2_crowd 16 = .ok (.getfield 13, 3) := by decide +kernel
theorem dX2_crowd_19 : decode cX2_crowd 19 = .ok (.aload_n 0, 1) := by decide +kernel
theorem dX2_crowd_20 : decode cX2_crowd 20 = .ok (.getfield 16, 3) := by decide +kernel
theorem dX2_crowd_23 : decode cX2_crowd 23 = .ok (.invokestatic 128, 3) := by decide +kernel
theorem dX2_crowd_26 : decode cX2_crowd 26 = .ok (.iconst 0, 1) := by decide +kernel
theorem dX2_crowd_27 : decode cX2_crowd 27 = .ok (.istore_n 2, 1) := by decide +kernel
theorem dX2_crowd_28 : decode cX2_crowd 28 = .ok (.iconst 0, 1) := by decide +kernel
theorem dX2_crowd_29 : decode cX2_crowd 29 = .ok (.istore_n 3, 1) := by decide +kernel
theorem dX2_crowd_30 : decode cX2_crowd 30 = .ok (.iload_n 3, 1) := by decide +kernel
theorem dX2_crowd_31 : decode cX2_crowd 31 = .ok (.iload_n 1, 1) := by decide +kernel
theorem dX2_crowd_32 : decode cX2_crowd 32 = .ok (.if_icmp .ge 32, 3) := by decide +kernel
theorem dX2_crowd_35 : decode cX2_crowd 35 = .ok (.aload_n 0, 1) := by decide +kernel
theorem dX2_crowd_36 : decode cX2_crowd 36 = .ok (.getfield 16, 3) := by decide +kernel
theorem dX2_crowd_39 : decode cX2_crowd 39 = .ok (.iconst 1, 1) := by decide +kernel
theorem dX2_crowd_40 : decode cX2_crowd 40 = .ok (.invokestatic 108, 3) := by decide +kernel
theorem dX2_crowd_43 : decode cX2_crowd 43 = .ok (.istore 4, 2) := by decide +kernel
theorem dX2_crowd_45 : decode cX2_crowd 45 = .ok (.iload 4, 2) := by decide +kernel
theorem dX2_crowd_47 : decode cX2_crowd 47 = .ok (.iload_n 2, 1) := by decide +kernel
theorem dX2_crowd_48 : decode cX2_crowd 48 = .ok (.if_icmp .le 8, 3) := by decide +kernel
theorem dX2_crowd_51 : decode cX2_crowd 51 = .ok (.iload 4, 2) := by decide +kernel
theorem dX2_crowd_53 : decode cX2_crowd 53 = .ok (.goto 4, 3) := by decide +kernel
theorem dX2_crowd_56 : decode cX2_crowd 56 = .ok (.iload_n 2, 1) := by decide +kernel
theorem dX2_crowd_57 : decode cX2_crowd 57 = .ok (.istore_n 2, 1) := by decide +kernel
theorem dX2_crowd_58 : decode cX2_crowd 58 = .ok (.iinc 3 1, 3) := by decide +kernel
theorem dX2_crowd_61 : decode cX2_crowd 61 = .ok (.goto (-31), 3) := by decide +kernel
theorem dX2_crowd_64 : decode cX2_crowd 64 = .ok (.iload_n 2, 1) := by decide +kernel
theorem dX2_crowd_65 : decode cX2_crowd 65 = .ok (.ireturn, 1) := by decide +kernel
theorem dX2_longPower_0 : decode cX2_longPower 0 = .ok (.lconst 1, 1) := by decide +kernel
theorem dX2_longPower_1 : decode cX2_longPower 1 = .ok (.lstore_n 3, 1) := by decide +kernel
theorem dX2_longPower_2 : decode cX2_longPower 2 = .ok (.iconst 0, 1) := by decide +kernel
theorem dX2_longPower_3 : decode cX2_longPower 3 = .ok (.istore 5, 2) := by decide +kernel
theorem dX2_longPower_5 : decode cX2_longPower 5 = .ok (.iload 5, 2) := by decide +kernel
theorem dX2_longPower_7 : decode cX2_longPower 7 = .ok (.iload_n 2, 1) := by decide +kernel
theorem dX2_longPower_8 : decode cX2_longPower 8 = .ok (.if_icmp .ge 13, 3) := by decide +kernel
theorem dX2_longPower_11 : decode cX2_longPower 11 = .ok (.lload_n 3, 1) := by decide +kernel
theorem dX2_longPower_12 : decode cX2_longPower 12 = .ok (.lload_n 0, 1) := by decide +kernel
theorem dX2_longPower_13 : decode cX2_longPower 13 = .ok (.lmul, 1) := by decide +kernel
theorem dX2_longPower_14 : decode cX2_longPower 14 = .ok (.lstore_n 3, 1) := by decide +kernel
theorem dX2_longPower_15 : decode cX2_longPower 15 = .ok (.iinc 5 1, 3) := by decide +kernel
theorem dX2_longPower_18 : decode cX2_longPower 18 = .ok (.goto (-13), 3) := by decide +kernel
theorem dX2_longPower_21 : decode cX2_longPower 21 = .ok (.lload_n 3, 1) := by decide +kernel
theorem dX2_longPower_22 : decode cX2_longPower 22 = .ok (.lreturn, 1) := by decide +kernel
set_option maxRecDepth 20000 in
theorem ggX2_jitter_X2_in : GoodIn wsX2_jitter wsX2_in := goodIn_r _ [6] (by decide +kernel) (by decide +kernel)
set_option maxRecDepth 20000 in
theorem gX2_jitter_X2_in : GoodIn wsX2_jitter (va_wsS RX2 47 yX2_in wsX2_in) := goodIn_app (goodIn_of _ (by decide +kernel)) ggX2_jitter_X2_in
set_option maxRecDepth 20000 in
theorem ggX2_jitter_X2_longPower : GoodIn wsX2_jitter wsX2_longPower := goodIn_r _ [9] (by decide +kernel) (by decide +kernel)
set_option maxRecDepth 20000 in
theorem gX2_jitter_X2_longPower : GoodIn wsX2_jitter (va_wsS RX2 159 yX2_longPower wsX2_longPower) := goodIn_app (goodIn_of _ (by decide +kernel)) ggX2_jitter_X2_longPower
theorem dX2_jitter_0 : decode cX2_jitter 0 = .ok (.iload_n 1, 1) := by decide +kernel
theorem dX2_jitter_1 : decode cX2_jitter 1 = .ok (.i2l, 1) := by decide +kernel
theorem dX2_jitter_2 : decode cX2_jitter 2 = .ok (.lconst 1, 1) := by decide +kernel
theorem dX2_jitter_3 : decode cX2_jitter 3 = .ok (.ldc2_w 155, 3) := by decide +kernel
theorem dX2_jitter_6 : decode cX2_jitter 6 = .ok (.invokestatic 47, 3) := by decide +kernel
theorem dX2_jitter_9 : decode cX2_jitter 9 = .ok (.ifCond .eq 20, 3) := by decide +kernel
theorem dX2_jitter_12 : decode cX2_jitter 12 = .ok (.lload_n 2, 1) := by decide +kernel
theorem dX2_jitter_13 : decode cX2_jitter 13 = .ok (.lconst 0, 1) := by decide +kernel
theorem dX2_jitter_14 : decode cX2_jitter 14 = .ok (.ldc2_w 157, 3) := by decide +kernel
theorem dX2_jitter_17 : decode cX2_jitter 17 = .ok (.iload_n 1, 1) := by decide +kernel
theorem dX2_jitter_18 : decode cX2_jitter 18 = .ok (.invokestatic 159, 3) := by decide +kernel
theorem dX2_jitter_21 : decode cX2_jitter 21 = .ok (.lconst 1, 1) := by decide +kernel
theorem dX2_jitter_22 : decode cX2_jitter 22 = .ok (.lsub, 1) := by decide +kernel
theorem dX2_jitter_23 : decode cX2_jitter 23 = .ok (.invokestatic 47, 3) := by decide +kernel
theorem dX2_jitter_26 : decode cX2_jitter 26 = .ok (.ifCond .ne 6, 3) := by decide +kernel
theorem dX2_jitter_29 : decode cX2_jitter 29 = .ok (.bipush (-2), 2) := by decide +kernel
theorem dX2_jitter_31 : decode cX2_jitter 31 = .ok (.ireturn, 1) := by decide +kernel
theorem dX2_jitter_32 : decode cX2_jitter 32 = .ok (.iconst 0, 1) := by decide +kernel
theorem dX2_jitter_33 : decode cX2_jitter 33 = .ok (.istore 4, 2) := by decide +kernel
theorem dX2_jitter_35 : decode cX2_jitter 35 = .ok (.iconst 0, 1) := by decide +kernel
theorem dX2_jitter_36 : decode cX2_jitter 36 = .ok (.istore 5, 2) := by decide +kernel
theorem dX2_jitter_38 : decode cX2_jitter 38 = .ok (.iconst 0, 1) := by decide +kernel
theorem dX2_jitter_39 : decode cX2_jitter 39 = .ok (.istore 6, 2) := by decide +kernel
theorem dX2_jitter_41 : decode cX2_jitter 41 = .ok (.iload 6, 2) := by decide +kernel
theorem dX2_jitter_43 : decode cX2_jitter 43 = .ok (.iload_n 1, 1) := by decide +kernel
theorem dX2_jitter_44 : decode cX2_jitter 44 = .ok (.if_icmp .ge 90, 3) := by decide +kernel
theorem dX2_jitter_47 : decode cX2_jitter 47 = .ok (.lload_n 2, 1) := by decide +kernel
theorem dX2_jitter_48 : decode cX2_jitter 48 = .ok (.ldc2_w 157, 3) := by decide +kernel
theorem dX2_jitter_51 : decode cX2_jitter 51 = .ok (.iload_n 1, 1) := by decide +kernel
theorem dX2_jitter_52 : decode cX2_jitter 52 = .ok (.iconst 1, 1) := by decide +kernel
theorem dX2_jitter_53 : decode cX2_jitter 53 = .ok (.isub, 1) := by decide +kernel
theorem dX2_jitter_54 : decode cX2_jitter 54 = .ok (.iload 6, 2) := by decide +kernel
theorem dX2_jitter_56 : decode cX2_jitter 56 = .ok (.isub, 1) := by decide +kernel
theorem dX2_jitter_57 : decode cX2_jitter 57 = .ok (.invokestatic 159, 3) := by decide +kernel
theorem dX2_jitter_60 : decode cX2_jitter 60 = .ok (.ldiv, 1) := by decide +kernel
theorem dX2_jitter_61 : decode cX2_jitter 61 = .ok (.ldc2_w 157, 3) := by decide +kernel
theorem dX2_jitter_64 : decode cX2_jitter 64 = .ok (.lrem, 1) := by decide +kernel
theorem dX2_jitter_65 : decode cX2_jitter 65 = .ok (.l2i, 1) := by decide +kernel
theorem dX2_jitter_66 : decode cX2_jitter 66 = .ok (.istore 7, 2) := by decide +kernel
theorem dX2_jitter_68 : decode cX2_jitter 68 = .ok (.iload 6, 2) := by decide +kernel
theorem dX2_jitter_70 : decode cX2_jitter 70 = .ok (.ifCond .ne 7, 3) := by decide +kernel
theorem dX2_jitter_73 : decode cX2_jitter 73 = .ok (.iconst 0, 1) := by decide +kernel
theorem dX2_jitter_74 : decode cX2_jitter 74 = .ok (.goto 23, 3) := by decide +kernel
theorem dX2_jitter_77 : decode cX2_jitter 77 = .ok (.iload 7, 2) := by decide +kernel
theorem dX2_jitter_79 : decode cX2_jitter 79 = .ok (.iload 5, 2) := by decide +kernel
theorem dX2_jitter_81 : decode cX2_jitter 81 = .ok (.if_icmp .le 11, 3) := by decide +kernel
theorem dX2_jitter_84 : decode cX2_jitter 84 = .ok (.iload 7, 2) := by decide +kernel
theorem dX2_jitter_86 : decode cX2_jitter 86 = .ok (.iload 5, 2) := by decide +kernel
theorem dX2_jitter_88 : decode cX2_jitter 88 = .ok (.isub, 1) := by decide +kernel
theorem dX2_jitter_89 : decode cX2_jitter 89 = .ok (.goto 8, 3) := by decide +kernel
theorem dX2_jitter_92 : decode cX2_jitter 92 = .ok (.iload 5, 2) := by decide +kernel
theorem dX2_jitter_94 : decode cX2_jitter 94 = .ok (.iload 7, 2) := by decide +kernel
theorem dX2_jitter_96 : decode cX2_jitter 96 = .ok (.isub, 1) := by decide +kernel
theorem dX2_jitter_97 : decode cX2_jitter 97 = .ok (.istore 8, 2) := by decide +kernel
theorem dX2_jitter_99 : decode cX2_jitter 99 = .ok (.iload 6, 2) := by decide +kernel
theorem dX2_jitter_101 : decode cX2_jitter 101 = .ok (.ifCond .ne 7, 3) := by decide +kernel
theorem dX2_jitter_104 : decode cX2_jitter 104 = .ok (.iconst 0, 1) := by decide +kernel
theorem dX2_jitter_105 : decode cX2_jitter 105 = .ok (.goto 17, 3) := by decide +kernel
theorem dX2_jitter_108 : decode cX2_jitter 108 = .ok (.iload 4, 2) := by decide +kernel
theorem dX2_jitter_110 : decode cX2_jitter 110 = .ok (.iload 8, 2) := by decide +kernel
theorem dX2_jitter_112 : decode cX2_jitter 112 = .ok (.iadd, 1) := by decide +kernel
theorem dX2_jitter_113 : decode cX2_jitter 113 = .ok (.iload 4, 2) := by decide +kernel
theorem dX2_jitter_115 : decode cX2_jitter 115 = .ok (.bipush 8, 2) := by decide +kernel
theorem dX2_jitter_117 : decode cX2_jitter 117 = .ok (.iadd, 1) := by decide +kernel
theorem dX2_jitter_118 : decode cX2_jitter 118 = .ok (.bipush 16, 2) := by decide +kernel
theorem dX2_jitter_120 : decode cX2_jitter 120 = .ok (.idiv, 1) := by decide +kernel
theorem dX2_jitter_121 : decode cX2_jitter 121 = .ok (.isub, 1) := by decide +kernel
theorem dX2_jitter_122 : decode cX2_jitter 122 = .ok (.istore 4, 2) := by decide +kernel
theorem dX2_jitter_124 : decode cX2_jitter 124 = .ok (.iload 7, 2) := by decide +kernel
theorem dX2_jitter_126 : decode cX2_jitter 126 = .ok (.istore 5, 2) := by decide +kernel
theorem dX2_jitter_128 : decode cX2_jitter 128 = .ok (.iinc 6 1, 3) := by decide +kernel
theorem dX2_jitter_131 : decode cX2_jitter 131 = .ok (.goto (-90), 3) := by decide +kernel
theorem dX2_jitter_134 : decode cX2_jitter 134 = .ok (.iload 4, 2) := by decide +kernel
theorem dX2_jitter_136 : decode cX2_jitter 136 = .ok (.ireturn, 1) := by decide +kernel
set_option maxRecDepth 20000 in
theorem ggX2_round_X2_in : GoodIn wsX2_round wsX2_in := goodIn_r _ [5] (by decide +kernel) (by decide +kernel)
set_option maxRecDepth 20000 in
theorem gX2_round_X2_in : GoodIn wsX2_round (va_wsS RX2 47 yX2_in wsX2_in) := goodIn_app (goodIn_of _ (by decide +kernel)) ggX2_round_X2_in
theorem dX2_round_0 : decode cX2_round 0 = .ok (.iload_n 1, 1) := by decide +kernel
theorem dX2_round_1 : decode cX2_round 1 = .ok (.i2l, 1) := by decide +kernel
theorem dX2_round_2 : decode cX2_round 2 = .ok (.lconst 0, 1) := by decide +kernel
theorem dX2_round_3 : decode cX2_round 3 = .ok (.ldc2_w 163, 3) := by decide +kernel
theorem dX2_round_6 : decode cX2_round 6 = .ok (.invokestatic 47, 3) := by decide +kernel
theorem dX2_round_9 : decode cX2_round 9 = .ok (.ifCond .eq 27, 3) := by decide +kernel
theorem dX2_round_12 : decode cX2_round 12 = .ok (.iload_n 2, 1) := by decide +kernel
theorem dX2_round_13 : decode cX2_round 13 = .ok (.i2l, 1) := by decide +kernel
theorem dX2_round_14 : decode cX2_round 14 = .ok (.lconst 0, 1) := by decide +kernel
theorem dX2_round_15 : decode cX2_round 15 = .ok (.ldc2_w 163, 3) := by decide +kernel
theorem dX2_round_18 : decode cX2_round 18 = .ok (.invokestatic 47, 3) := by decide +kernel
theorem dX2_round_21 : decode cX2_round 21 = .ok (.ifCond .eq 15, 3) := by decide +kernel
theorem dX2_round_24 : decode cX2_round 24 = .ok (.iload_n 3, 1) := by decide +kernel
theorem dX2_round_25 : decode cX2_round 25 = .ok (.i2l, 1) := by decide +kernel
theorem dX2_round_26 : decode cX2_round 26 = .ok (.lconst 0, 1) := by decide +kernel
theorem dX2_round_27 : decode cX2_round 27 = .ok (.ldc2_w 163, 3) := by decide +kernel
theorem dX2_round_30 : decode cX2_round 30 = .ok (.invokestatic 47, 3) := by decide +kernel
theorem dX2_round_33 : decode cX2_round 33 = .ok (.ifCond .ne 6, 3) := by decide +kernel
theorem dX2_round_36 : decode cX2_round 36 = .ok (.bipush (-2), 2) := by decide +kernel
theorem dX2_round_38 : decode cX2_round 38 = .ok (.ireturn, 1) := by decide +kernel
theorem dX2_round_39 : decode cX2_round 39 = .ok (.iload_n 1, 1) := by decide +kernel
theorem dX2_round_40 : decode cX2_round 40 = .ok (.iload_n 2, 1) := by decide +kernel
theorem dX2_round_41 : decode cX2_round 41 = .ok (.isub, 1) := by decide +kernel
theorem dX2_round_42 : decode cX2_round 42 = .ok (.iload_n 3, 1) := by decide +kernel
theorem dX2_round_43 : decode cX2_round 43 = .ok (.isub, 1) := by decide +kernel
theorem dX2_round_44 : decode cX2_round 44 = .ok (.istore 4, 2) := by decide +kernel
theorem dX2_round_46 : decode cX2_round 46 = .ok (.iload 4, 2) := by decide +kernel
theorem dX2_round_48 : decode cX2_round 48 = .ok (.ifCond .ge 8, 3) := by decide +kernel
theorem dX2_round_51 : decode cX2_round 51 = .ok (.bipush (-3), 2) := by decide +kernel
theorem dX2_round_53 : decode cX2_round 53 = .ok (.goto 5, 3) := by decide +kernel
theorem dX2_round_56 : decode cX2_round 56 = .ok (.iload 4, 2) := by decide +kernel
theorem dX2_round_58 : decode cX2_round 58 = .ok (.ireturn, 1) := by decide +kernel
set_option maxRecDepth 20000 in
theorem ggX2_judged_X2_isMember : GoodIn wsX2_judged wsX2_isMember := goodIn_r _ [6, 7, 8, 9, 5, 10] (by decide +kernel) (by decide +kernel)
set_option maxRecDepth 20000 in
theorem gX2_judged_X2_isMember : GoodIn wsX2_judged (va_wsS RX2 114 yX2_isMember wsX2_isMember) := goodIn_app (goodIn_of _ (by decide +kernel)) ggX2_judged_X2_isMember
set_option maxRecDepth 20000 in
theorem ggX2_judged_X2_joins : GoodIn wsX2_judged wsX2_joins := goodIn_r _ [13, 14, 15, 5, 16, 17, 18, 19, 20, 21, 22, 23] (by decide +kernel) (by decide +kernel)
set_option maxRecDepth 20000 in
theorem gX2_judged_X2_joins : GoodIn wsX2_judged (va_wsS RX2 118 yX2_joins wsX2_joins) := goodIn_app (goodIn_of _ (by decide +kernel)) ggX2_judged_X2_joins
set_option maxRecDepth 20000 in
theorem ggX2_judged_X2_leaves : GoodIn wsX2_judged wsX2_leaves := goodIn_r _ [26, 27, 28, 5, 29, 30, 31, 32, 33, 34, 35, 36, 37, 38, 39, 40, 41, 42, 43, 44, 14, 15, 16, 17, 18, 19, 20, 21, 22, 23] (by decide +kernel) (by decide +kernel)
set_option maxRecDepth 20000 in
theorem gX2_judged_X2_leaves : GoodIn wsX2_judged (va_wsS RX2 121 yX2_leaves wsX2_leaves) := goodIn_app (goodIn_of _ (by decide +kernel)) ggX2_judged_X2_leaves
set_option maxRecDepth 20000 in
theorem ggX2_judged_X2_in : GoodIn wsX2_judged wsX2_in := goodIn_r _ [10] (by decide +kernel) (by decide +kernel)
set_option maxRecDepth 20000 in
theorem gX2_judged_X2_in : GoodIn wsX2_judged (va_wsS RX2 47 yX2_in wsX2_in) := goodIn_app (goodIn_of _ (by decide +kernel)) ggX2_judged_X2_in
set_option maxRecDepth 20000 in
theorem ggX2_judged_X2_passOn : GoodIn wsX2_judged wsX2_passOn := goodIn_r _ [47, 48, 49, 5, 50, 51, 52, 53, 54, 55, 56, 27, 28, 29, 30, 31, 32, 14, 15, 16, 17, 18, 19, 20, 21, 22, 23, 57, 58, 59, 39, 40, 41, 42, 43, 44, 33, 34, 35, 36, 37, 38, 60, 61, 62] (by decide +kernel) (by decide +kernel)
set_option maxRecDepth 20000 in
theorem gX2_judged_X2_passOn : GoodIn wsX2_judged (va_wsS RX2 108 yX2_passOn wsX2_passOn) := goodIn_app (goodIn_of _ (by decide +kernel)) ggX2_judged_X2_passOn
set_option maxRecDepth 20000 in
theorem ggX2_judged_X2_has : GoodIn wsX2_judged wsX2_has := goodIn_r _ [44] (by decide +kernel) (by decide +kernel)
set_option maxRecDepth 20000 in
theorem gX2_judged_X2_has : GoodIn wsX2_judged (va_wsS RX2 64 yX2_has wsX2_has) := goodIn_app (goodIn_of _ (by decide +kernel)) ggX2_judged_X2_has
set_option maxRecDepth 20000 in
theorem ggX2_judged_X2_countOf : GoodIn wsX2_judged wsX2_countOf := goodIn_r _ [29, 30, 31, 5, 32] (by decide +kernel) (by decide +kernel)
set_option maxRecDepth 20000 in
theorem gX2_judged_X2_countOf : GoodIn wsX2_judged (va_wsS RX2 76 yX2_countOf wsX2_countOf) := goodIn_app (goodIn_of _ (by decide +kernel)) ggX2_judged_X2_countOf
theorem dX2_judged_0 : decode cX2_judged 0 = .ok (.iload_n 2, 1) := by decide +kernel
theorem dX2_judged_1 : decode cX2_judged 1 = .ok (.ifCond .ne 14, 3) := by decide +kernel
theorem dX2_judged_4 : decode cX2_judged 4 = .ok (.iload_n 3, 1) := by decide +kernel
theorem dX2_judged_5 : decode cX2_judged 5 = .ok (.invokestatic 114, 3) := by decide +kernel
theorem dX2_judged_8 : decode cX2_judged 8 = .ok (.ifCond .eq 7, 3) := by decide +kernel
theorem dX2_judged_11 : decode cX2_judged 11 = .ok (.iconst 1, 1) := by decide +kernel
theorem dX2_judged_12 : decode cX2_judged 12 = .ok (.goto 4, 3) := by decide +kernel
theorem dX2_judged_15 : decode cX2_judged 15 = .ok (.iconst 0, 1) := by decide +kernel
theorem dX2_judged_16 : decode cX2_judged 16 = .ok (.istore 4, 2) := by decide +kernel
theorem dX2_judged_18 : decode cX2_judged 18 = .ok (.iload_n 2, 1) := by decide +kernel
theorem dX2_judged_19 : decode cX2_judged 19 = .ok (.invokestatic 114, 3) := by decide +kernel
theorem dX2_judged_22 : decode cX2_judged 22 = .ok (.ifCond .eq 19, 3) := by decide +kernel
theorem dX2_judged_25 : decode cX2_judged 25 = .ok (.iload_n 3, 1) := by decide +kernel
theorem dX2_judged_26 : decode cX2_judged 26 = .ok (.invokestatic 114, 3) := by decide +kernel
theorem dX2_judged_29 : decode cX2_judged 29 = .ok (.ifCond .eq 12, 3) := by decide +kernel
theorem dX2_judged_32 : decode cX2_judged 32 = .ok (.iload_n 2, 1) := by decide +kernel
theorem dX2_judged_33 : decode cX2_judged 33 = .ok (.iload_n 3, 1) := by decide +kernel
theorem dX2_judged_34 : decode cX2_judged 34 = .ok (.if_icmp .eq 7, 3) := by decide +kernel
theorem dX2_judged_37 : decode cX2_judged 37 = .ok (.iconst 1, 1) := by decide +kernel
theorem dX2_judged_38 : decode cX2_judged 38 = .ok (.goto 4, 3) := by decide +kernel
theorem dX2_judged_41 : decode cX2_judged 41 = .ok (.iconst 0, 1) := by decide +kernel
theorem dX2_judged_42 : decode cX2_judged 42 = .ok (.istore 5, 2) := by decide +kernel
theorem dX2_judged_44 : decode cX2_judged 44 = .ok (.iload_n 1, 1) := by decide +kernel
theorem dX2_judged_45 : decode cX2_judged 45 = .ok (.tableswitch 235 1 7 #[43, 69, 96, 137, 160, 187, 212], 43) := by decide +kernel
theorem dX2_judged_88 : decode cX2_judged 88 = .ok (.iload 4, 2) := by decide +kernel
theorem dX2_judged_90 : decode cX2_judged 90 = .ok (.ifCond .eq 12, 3) := by decide +kernel
theorem dX2_judged_93 : decode cX2_judged 93 = .ok (.aload_n 0, 1) := by decide +kernel
theorem dX2_judged_94 : decode cX2_judged 94 = .ok (.getfield 16, 3) := by decide +kernel
theorem dX2_judged_97 : decode cX2_judged 97 = .ok (.iload_n 3, 1) := by decide +kernel
theorem dX2_judged_98 : decode cX2_judged 98 = .ok (.iaload, 1) := by decide +kernel
theorem dX2_judged_99 : decode cX2_judged 99 = .ok (.ifCond .eq 5, 3) := by decide +kernel
theorem dX2_judged_102 : decode cX2_judged 102 = .ok (.iconst 0, 1) := by decide +kernel
theorem dX2_judged_103 : decode cX2_judged 103 = .ok (.ireturn, 1) := by decide +kernel
theorem dX2_judged_104 : decode cX2_judged 104 = .ok (.aload_n 0, 1) := by decide +kernel
theorem dX2_judged_105 : decode cX2_judged 105 = .ok (.getfield 16, 3) := by decide +kernel
theorem dX2_judged_108 : decode cX2_judged 108 = .ok (.iload_n 3, 1) := by decide +kernel
theorem dX2_judged_109 : decode cX2_judged 109 = .ok (.invokestatic 118, 3) := by decide +kernel
theorem dX2_judged_112 : decode cX2_judged 112 = .ok (.iconst 1, 1) := by decide +kernel
theorem dX2_judged_113 : decode cX2_judged 113 = .ok (.ireturn, 1) := by decide +kernel
theorem dX2_judged_114 : decode cX2_judged 114 = .ok (.iload 4, 2) := by decide +kernel
theorem dX2_judged_116 : decode cX2_judged 116 = .ok (.ifCond .eq 13, 3) := by decide +kernel
theorem dX2_judged_119 : decode cX2_judged 119 = .ok (.aload_n 0, 1) := by decide +kernel
theorem dX2_judged_120 : decode cX2_judged 120 = .ok (.getfield 16, 3) := by decide +kernel
theorem dX2_judged_123 : decode cX2_judged 123 = .ok (.iload_n 3, 1) := by decide +kernel
theorem dX2_judged_124 : decode cX2_judged 124 = .ok (.iaload, 1) := by decide +kernel
theorem dX2_judged_125 : decode cX2_judged 125 = .ok (.iconst 1, 1) := by decide +kernel
theorem dX2_judged_126 : decode cX2_judged 126 = .ok (.if_icmp .eq 5, 3) := by decide +kernel
theorem dX2_judged_129 : decode cX2_judged 129 = .ok (.iconst 0, 1) := by decide +kernel
theorem dX2_judged_130 : decode cX2_judged 130 = .ok (.ireturn, 1) := by decide +kernel
theorem dX2_judged_131 : decode cX2_judged 131 = .ok (.aload_n 0, 1) := by decide +kernel
theorem dX2_judged_132 : decode cX2_judged 132 = .ok (.getfield 16, 3) := by decide +kernel
theorem dX2_judged_135 : decode cX2_judged 135 = .ok (.iload_n 3, 1) := by decide +kernel
theorem dX2_judged_136 : decode cX2_judged 136 = .ok (.invokestatic 121, 3) := by decide +kernel
theorem dX2_judged_139 : decode cX2_judged 139 = .ok (.iconst 1, 1) := by decide +kernel
theorem dX2_judged_140 : decode cX2_judged 140 = .ok (.ireturn, 1) := by decide +kernel
theorem dX2_judged_141 : decode cX2_judged 141 = .ok (.bipush 10, 2) := by decide +kernel
theorem dX2_judged_143 : decode cX2_judged 143 = .ok (.iload_n 2, 1) := by decide +kernel
theorem dX2_judged_144 : decode cX2_judged 144 = .ok (.imul, 1) := by decide +kernel
theorem dX2_judged_145 : decode cX2_judged 145 = .ok (.iload_n 3, 1) := by decide +kernel
theorem dX2_judged_146 : decode cX2_judged 146 = .ok (.iadd, 1) := by decide +kernel
theorem dX2_judged_147 : decode cX2_judged 147 = .ok (.i2l, 1) := by decide +kernel
theorem dX2_judged_148 : decode cX2_judged 148 = .ok (.lconst 1, 1) := by decide +kernel
theorem dX2_judged_149 : decode cX2_judged 149 = .ok (.ldc2_w 147, 3) := by decide +kernel
theorem dX2_judged_152 : decode cX2_judged 152 = .ok (.invokestatic 47, 3) := by decide +kernel
theorem dX2_judged_155 : decode cX2_judged 155 = .ok (.ifCond .ne 5, 3) := by decide +kernel
theorem dX2_judged_158 : decode cX2_judged 158 = .ok (.iconst 0, 1) := by decide +kernel
theorem dX2_judged_159 : decode cX2_judged 159 = .ok (.ireturn, 1) := by decide +kernel
theorem dX2_judged_160 : decode cX2_judged 160 = .ok (.aload_n 0, 1) := by decide +kernel
theorem dX2_judged_161 : decode cX2_judged 161 = .ok (.getfield 16, 3) := by decide +kernel
theorem dX2_judged_164 : decode cX2_judged 164 = .ok (.bipush 10, 2) := by decide +kernel
theorem dX2_judged_166 : decode cX2_judged 166 = .ok (.iload_n 2, 1) := by decide +kernel
theorem dX2_judged_167 : decode cX2_judged 167 = .ok (.imul, 1) := by decide +kernel
theorem dX2_judged_168 : decode cX2_judged 168 = .ok (.iload_n 3, 1) := by decide +kernel
theorem dX2_judged_169 : decode cX2_judged 169 = .ok (.iadd, 1) := by decide +kernel
theorem dX2_judged_170 : decode cX2_judged 170 = .ok (.invokestatic 108, 3) := by decide +kernel
theorem dX2_judged_173 : decode cX2_judged 173 = .ok (.ifCond .lt 7, 3) := by decide +kernel
theorem dX2_judged_176 : decode cX2_judged 176 = .ok (.iconst 1, 1) := by decide +kernel
theorem dX2_judged_177 : decode cX2_judged 177 = .ok (.goto 4, 3) := by decide +kernel
theorem dX2_judged_180 : decode cX2_judged 180 = .ok (.iconst 0, 1) := by decide +kernel
theorem dX2_judged_181 : decode cX2_judged 181 = .ok (.ireturn, 1) := by decide +kernel
theorem dX2_judged_182 : decode cX2_judged 182 = .ok (.iload_n 2, 1) := by decide +kernel
theorem dX2_judged_183 : decode cX2_judged 183 = .ok (.invokestatic 114, 3) := by decide +kernel
theorem dX2_judged_186 : decode cX2_judged 186 = .ok (.ifCond .eq 17, 3) := by decide +kernel
theorem dX2_judged_189 : decode cX2_judged 189 = .ok (.aload_n 0, 1) := by decide +kernel
theorem dX2_judged_190 : decode cX2_judged 190 = .ok (.getfield 16, 3) := by decide +kernel
theorem dX2_judged_193 : decode cX2_judged 193 = .ok (.iload_n 2, 1) := by decide +kernel
theorem dX2_judged_194 : decode cX2_judged 194 = .ok (.iaload, 1) := by decide +kernel
theorem dX2_judged_195 : decode cX2_judged 195 = .ok (.iload_n 3, 1) := by decide +kernel
theorem dX2_judged_196 : decode cX2_judged 196 = .ok (.if_icmp .ne 7, 3) := by decide +kernel
theorem dX2_judged_199 : decode cX2_judged 199 = .ok (.iconst 1, 1) := by decide +kernel
theorem dX2_judged_200 : decode cX2_judged 200 = .ok (.goto 4, 3) := by decide +kernel
theorem dX2_judged_203 : decode cX2_judged 203 = .ok (.iconst 0, 1) := by decide +kernel
theorem dX2_judged_204 : decode cX2_judged 204 = .ok (.ireturn, 1) := by decide +kernel
theorem dX2_judged_205 : decode cX2_judged 205 = .ok (.iload 5, 2) := by decide +kernel
theorem dX2_judged_207 : decode cX2_judged 207 = .ok (.ifCond .eq 23, 3) := by decide +kernel
theorem dX2_judged_210 : decode cX2_judged 210 = .ok (.aload_n 0, 1) := by decide +kernel
theorem dX2_judged_211 : decode cX2_judged 211 = .ok (.getfield 16, 3) := by decide +kernel
theorem dX2_judged_214 : decode cX2_judged 214 = .ok (.bipush 6, 2) := by decide +kernel
theorem dX2_judged_216 : decode cX2_judged 216 = .ok (.iload_n 2, 1) := by decide +kernel
theorem dX2_judged_217 : decode cX2_judged 217 = .ok (.iadd, 1) := by decide +kernel
theorem dX2_judged_218 : decode cX2_judged 218 = .ok (.iaload, 1) := by decide +kernel
theorem dX2_judged_219 : decode cX2_judged 219 = .ok (.iload_n 3, 1) := by decide +kernel
theorem dX2_judged_220 : decode cX2_judged 220 = .ok (.invokestatic 64, 3) := by decide +kernel
theorem dX2_judged_223 : decode cX2_judged 223 = .ok (.ifCond .eq 7, 3) := by decide +kernel
theorem dX2_judged_226 : decode cX2_judged 226 = .ok (.iconst 1, 1) := by decide +kernel
theorem dX2_judged_227 : decode cX2_judged 227 = .ok (.goto 4, 3) := by decide +kernel
theorem dX2_judged_230 : decode cX2_judged 230 = .ok (.iconst 0, 1) := by decide +kernel
theorem dX2_judged_231 : decode cX2_judged 231 = .ok (.ireturn, 1) := by decide +kernel
theorem dX2_judged_232 : decode cX2_judged 232 = .ok (.iload_n 2, 1) := by decide +kernel
theorem dX2_judged_233 : decode cX2_judged 233 = .ok (.invokestatic 114, 3) := by decide +kernel
theorem dX2_judged_236 : decode cX2_judged 236 = .ok (.ifCond .eq 19, 3) := by decide +kernel
theorem dX2_judged_239 : decode cX2_judged 239 = .ok (.aload_n 0, 1) := by decide +kernel
theorem dX2_judged_240 : decode cX2_judged 240 = .ok (.getfield 16, 3) := by decide +kernel
theorem dX2_judged_243 : decode cX2_judged 243 = .ok (.iload_n 2, 1) := by decide +kernel
theorem dX2_judged_244 : decode cX2_judged 244 = .ok (.invokestatic 76, 3) := by decide +kernel
theorem dX2_judged_247 : decode cX2_judged 247 = .ok (.iload_n 3, 1) := by decide +kernel
theorem dX2_judged_248 : decode cX2_judged 248 = .ok (.if_icmp .ne 7, 3) := by decide +kernel
theorem dX2_judged_251 : decode cX2_judged 251 = .ok (.iconst 1, 1) := by decide +kernel
theorem dX2_judged_252 : decode cX2_judged 252 = .ok (.goto 4, 3) := by decide +kernel
theorem dX2_judged_255 : decode cX2_judged 255 = .ok (.iconst 0, 1) := by decide +kernel
theorem dX2_judged_256 : decode cX2_judged 256 = .ok (.ireturn, 1) := by decide +kernel
theorem dX2_judged_257 : decode cX2_judged 257 = .ok (.iload 5, 2) := by decide +kernel
theorem dX2_judged_259 : decode cX2_judged 259 = .ok (.ifCond .eq 18, 3) := by decide +kernel
theorem dX2_judged_262 : decode cX2_judged 262 = .ok (.aload_n 0, 1) := by decide +kernel
theorem dX2_judged_263 : decode cX2_judged 263 = .ok (.getfield 16, 3) := by decide +kernel
theorem dX2_judged_266 : decode cX2_judged 266 = .ok (.bipush 73, 2) := by decide +kernel
theorem dX2_judged_268 : decode cX2_judged 268 = .ok (.iload_n 2, 1) := by decide +kernel
theorem dX2_judged_269 : decode cX2_judged 269 = .ok (.iadd, 1) := by decide +kernel
theorem dX2_judged_270 : decode cX2_judged 270 = .ok (.dup2, 1) := by decide +kernel
theorem dX2_judged_271 : decode cX2_judged 271 = .ok (.iaload, 1) := by decide +kernel
theorem dX2_judged_272 : decode cX2_judged 272 = .ok (.iconst 1, 1) := by decide +kernel
theorem dX2_judged_273 : decode cX2_judged 273 = .ok (.iload_n 3, 1) := by decide +kernel
theorem dX2_judged_274 : decode cX2_judged 274 = .ok (.ishl, 1) := by decide +kernel
theorem dX2_judged_275 : decode cX2_judged 275 = .ok (.ixor, 1) := by decide +kernel
theorem dX2_judged_276 : decode cX2_judged 276 = .ok (.iastore, 1) := by decide +kernel
theorem dX2_judged_277 : decode cX2_judged 277 = .ok (.iload 5, 2) := by decide +kernel
theorem dX2_judged_279 : decode cX2_judged 279 = .ok (.ireturn, 1) := by decide +kernel
theorem dX2_judged_280 : decode cX2_judged 280 = .ok (.iconst 0, 1) := by decide +kernel
theorem dX2_judged_281 : decode cX2_judged 281 = .ok (.ireturn, 1) := by decide +kernel
set_option maxRecDepth 20000 in
theorem ggX2_judge_X2_in : GoodIn wsX2_judge wsX2_in := goodIn_r _ [8] (by decide +kernel) (by decide +kernel)
set_option maxRecDepth 20000 in
theorem gX2_judge_X2_in : GoodIn wsX2_judge (va_wsS RX2 47 yX2_in wsX2_in) := goodIn_app (goodIn_of _ (by decide +kernel)) ggX2_judge_X2_in
set_option maxRecDepth 20000 in
theorem ggX2_judge_X2_longPower : GoodIn wsX2_judge wsX2_longPower := goodIn_r _ [11] (by decide +kernel) (by decide +kernel)
set_option maxRecDepth 20000 in
theorem gX2_judge_X2_longPower : GoodIn wsX2_judge (va_wsS RX2 159 yX2_longPower wsX2_longPower) := goodIn_app (goodIn_of _ (by decide +kernel)) ggX2_judge_X2_longPower
set_option maxRecDepth 20000 in
theorem ggX2_judge_X2_copy : GoodIn wsX2_judge wsX2_copy := goodIn_r _ [14] (by decide +kernel) (by decide +kernel)
set_option maxRecDepth 20000 in
theorem gX2_judge_X2_copy : GoodIn wsX2_judge (va_wsS RX2 128 yX2_copy wsX2_copy) := goodIn_app (goodIn_of _ (by decide +kernel)) ggX2_judge_X2_copy
set_option maxRecDepth 20000 in
theorem ggX2_judge_X2_judged : GoodIn wsX2_judge wsX2_judged := goodIn_r _ [18, 4, 19, 20, 21, 7, 22, 23, 5, 6, 8, 24, 25, 26, 27, 28, 29, 30, 31, 32, 33, 34, 35, 36, 37, 38, 39, 40, 41, 42, 43, 44, 45, 46, 47, 48, 49, 50, 51, 52, 53, 54, 55, 56, 57, 58, 59, 60, 61, 62, 63, 64, 65, 66, 67, 68, 69, 70, 71, 72, 73, 74, 75, 76, 77, 78, 79, 80, 81, 82, 83, 84, 85, 86, 87, 88, 89, 90] (by decide +kernel) (by decide +kernel)
set_option maxRecDepth 20000 in
theorem gX2_judge_X2_judged : GoodIn wsX2_judge (wsV RX2 169 RX2 yX2_judged wsX2_judged) := goodIn_app (goodIn_of _ (by decide +kernel)) ggX2_judge_X2_judged
theorem dX2_judge_0 : decode cX2_judge 0 = .ok (.iload_n 1, 1) := by decide +kernel
theorem dX2_judge_1 : decode cX2_judge 1 = .ok (.i2l, 1) := by decide +kernel
theorem dX2_judge_2 : decode cX2_judge 2 = .ok (.lconst 1, 1) := by decide +kernel
theorem dX2_judge_3 : decode cX2_judge 3 = .ok (.ldc2_w 165, 3) := by decide +kernel
theorem dX2_judge_6 : decode cX2_judge 6 = .ok (.invokestatic 47, 3) := by decide +kernel
theorem dX2_judge_9 : decode cX2_judge 9 = .ok (.ifCond .eq 20, 3) := by decide +kernel
theorem dX2_judge_12 : decode cX2_judge 12 = .ok (.lload_n 2, 1) := by decide +kernel
theorem dX2_judge_13 : decode cX2_judge 13 = .ok (.lconst 0, 1) := by decide +kernel
theorem dX2_judge_14 : decode cX2_judge 14 = .ok (.ldc2_w 167, 3) := by decide +kernel
theorem dX2_judge_17 : decode cX2_judge 17 = .ok (.iload_n 1, 1) := by decide +kernel
theorem dX2_judge_18 : decode cX2_judge 18 = .ok (.invokestatic 159, 3) := by decide +kernel
theorem dX2_judge_21 : decode cX2_judge 21 = .ok (.lconst 1, 1) := by decide +kernel
theorem dX2_judge_22 : decode cX2_judge 22 = .ok (.lsub, 1) := by decide +kernel
theorem dX2_judge_23 : decode cX2_judge 23 = .ok (.invokestatic 47, 3) := by decide +kernel
theorem dX2_judge_26 : decode cX2_judge 26 = .ok (.ifCond .ne 6, 3) := by decide +kernel
theorem dX2_judge_29 : decode cX2_judge 29 = .ok (.bipush (-2), 2) := by decide +kernel
theorem dX2_judge_31 : decode cX2_judge 31 = .ok (.ireturn, 1) := by decide +kernel
theorem dX2_judge_32 : decode cX2_judge 32 = .ok (.aload_n 0, 1) := by decide +kernel
theorem dX2_judge_33 : decode cX2_judge 33 = .ok (.getfield 13, 3) := by decide +kernel
theorem dX2_judge_36 : decode cX2_judge 36 = .ok (.aload_n 0, 1) := by decide +kernel
theorem dX2_judge_37 : decode cX2_judge 37 = .ok (.getfield 16, 3) := by decide +kernel
theorem dX2_judge_40 : decode cX2_judge 40 = .ok (.invokestatic 128, 3) := by decide +kernel
theorem dX2_judge_43 : decode cX2_judge 43 = .ok (.iconst 0, 1) := by decide +kernel
theorem dX2_judge_44 : decode cX2_judge 44 = .ok (.istore 4, 2) := by decide +kernel
theorem dX2_judge_46 : decode cX2_judge 46 = .ok (.iload 4, 2) := by decide +kernel
theorem dX2_judge_48 : decode cX2_judge 48 = .ok (.iload_n 1, 1) := by decide +kernel
theorem dX2_judge_49 : decode cX2_judge 49 = .ok (.if_icmp .ge 58, 3) := by decide +kernel
theorem dX2_judge_52 : decode cX2_judge 52 = .ok (.lload_n 2, 1) := by decide +kernel
theorem dX2_judge_53 : decode cX2_judge 53 = .ok (.ldc2_w 167, 3) := by decide +kernel
theorem dX2_judge_56 : decode cX2_judge 56 = .ok (.iload_n 1, 1) := by decide +kernel
theorem dX2_judge_57 : decode cX2_judge 57 = .ok (.iconst 1, 1) := by decide +kernel
theorem dX2_judge_58 : decode cX2_judge 58 = .ok (.isub, 1) := by decide +kernel
theorem dX2_judge_59 : decode cX2_judge 59 = .ok (.iload 4, 2) := by decide +kernel
theorem dX2_judge_61 : decode cX2_judge 61 = .ok (.isub, 1) := by decide +kernel
theorem dX2_judge_62 : decode cX2_judge 62 = .ok (.invokestatic 159, 3) := by decide +kernel
theorem dX2_judge_65 : decode cX2_judge 65 = .ok (.ldiv, 1) := by decide +kernel
theorem dX2_judge_66 : decode cX2_judge 66 = .ok (.ldc2_w 167, 3) := by decide +kernel
theorem dX2_judge_69 : decode cX2_judge 69 = .ok (.lrem, 1) := by decide +kernel
theorem dX2_judge_70 : decode cX2_judge 70 = .ok (.l2i, 1) := by decide +kernel
theorem dX2_judge_71 : decode cX2_judge 71 = .ok (.istore 5, 2) := by decide +kernel
theorem dX2_judge_73 : decode cX2_judge 73 = .ok (.aload_n 0, 1) := by decide +kernel
theorem dX2_judge_74 : decode cX2_judge 74 = .ok (.iload 5, 2) := by decide +kernel
theorem dX2_judge_76 : decode cX2_judge 76 = .ok (.bipush 100, 2) := by decide +kernel
theorem dX2_judge_78 : decode cX2_judge 78 = .ok (.idiv, 1) := by decide +kernel
theorem dX2_judge_79 : decode cX2_judge 79 = .ok (.iload 5, 2) := by decide +kernel
theorem dX2_judge_81 : decode cX2_judge 81 = .ok (.bipush 10, 2) := by decide +kernel
theorem dX2_judge_83 : decode cX2_judge 83 = .ok (.idiv, 1) := by decide +kernel
theorem dX2_judge_84 : decode cX2_judge 84 = .ok (.bipush 10, 2) := by decide +kernel
theorem dX2_judge_86 : decode cX2_judge 86 = .ok (.irem, 1) := by decide +kernel
theorem dX2_judge_87 : decode cX2_judge 87 = .ok (.iload 5, 2) := by decide +kernel
theorem dX2_judge_89 : decode cX2_judge 89 = .ok (.bipush 10, 2) := by decide +kernel
theorem dX2_judge_91 : decode cX2_judge 91 = .ok (.irem, 1) := by decide +kernel
theorem dX2_judge_92 : decode cX2_judge 92 = .ok (.invokevirtual 169, 3) := by decide +kernel
theorem dX2_judge_95 : decode cX2_judge 95 = .ok (.ifCond .ne 6, 3) := by decide +kernel
theorem dX2_judge_98 : decode cX2_judge 98 = .ok (.iload 4, 2) := by decide +kernel
theorem dX2_judge_100 : decode cX2_judge 100 = .ok (.ireturn, 1) := by decide +kernel
theorem dX2_judge_101 : decode cX2_judge 101 = .ok (.iinc 4 1, 3) := by decide +kernel
theorem dX2_judge_104 : decode cX2_judge 104 = .ok (.goto (-58), 3) := by decide +kernel
theorem dX2_judge_107 : decode cX2_judge 107 = .ok (.bipush (-9), 2) := by decide +kernel
theorem dX2_judge_109 : decode cX2_judge 109 = .ok (.ireturn, 1) := by decide +kernel
set_option maxRecDepth 20000 in
theorem ggX2_see_X2_in : GoodIn wsX2_see wsX2_in := goodIn_r _ [9] (by decide +kernel) (by decide +kernel)
set_option maxRecDepth 20000 in
theorem gX2_see_X2_in : GoodIn wsX2_see (va_wsS RX2 47 yX2_in wsX2_in) := goodIn_app (goodIn_of _ (by decide +kernel)) ggX2_see_X2_in
theorem dX2_see_0 : decode cX2_see 0 = .ok (.iload_n 1, 1) := by decide +kernel
theorem dX2_see_1 : decode cX2_see 1 = .ok (.i2l, 1) := by decide +kernel
theorem dX2_see_2 : decode cX2_see 2 = .ok (.lconst 0, 1) := by decide +kernel
theorem dX2_see_3 : decode cX2_see 3 = .ok (.ldc2_w 173, 3) := by decide +kernel
theorem dX2_see_6 : decode cX2_see 6 = .ok (.invokestatic 47, 3) := by decide +kernel
theorem dX2_see_9 : decode cX2_see 9 = .ok (.ifCond .eq 15, 3) := by decide +kernel
theorem dX2_see_12 : decode cX2_see 12 = .ok (.iload_n 2, 1) := by decide +kernel
theorem dX2_see_13 : decode cX2_see 13 = .ok (.i2l, 1) := by decide +kernel
theorem dX2_see_14 : decode cX2_see 14 = .ok (.lconst 0, 1) := by decide +kernel
theorem dX2_see_15 : decode cX2_see 15 = .ok (.ldc2_w 151, 3) := by decide +kernel
theorem dX2_see_18 : decode cX2_see 18 = .ok (.invokestatic 47, 3) := by decide +kernel
theorem dX2_see_21 : decode cX2_see 21 = .ok (.ifCond .ne 6, 3) := by decide +kernel
theorem dX2_see_24 : decode cX2_see 24 = .ok (.bipush (-2), 2) := by decide +kernel
theorem dX2_see_26 : decode cX2_see 26 = .ok (.ireturn, 1) := by decide +kernel
theorem dX2_see_27 : decode cX2_see 27 = .ok (.aload_n 0, 1) := by decide +kernel
theorem dX2_see_28 : decode cX2_see 28 = .ok (.getfield 138, 3) := by decide +kernel
theorem dX2_see_31 : decode cX2_see 31 = .ok (.bipush 6, 2) := by decide +kernel
theorem dX2_see_33 : decode cX2_see 33 = .ok (.if_icmp .ne 6, 3) := by decide +kernel
theorem dX2_see_36 : decode cX2_see 36 = .ok (.bipush (-4), 2) := by decide +kernel
theorem dX2_see_38 : decode cX2_see 38 = .ok (.ireturn, 1) := by decide +kernel
theorem dX2_see_39 : decode cX2_see 39 = .ok (.aload_n 0, 1) := by decide +kernel
theorem dX2_see_40 : decode cX2_see 40 = .ok (.getfield 29, 3) := by decide +kernel
theorem dX2_see_43 : decode cX2_see 43 = .ok (.aload_n 0, 1) := by decide +kernel
theorem dX2_see_44 : decode cX2_see 44 = .ok (.getfield 138, 3) := by decide +kernel
theorem dX2_see_47 : decode cX2_see 47 = .ok (.iload_n 1, 1) := by decide +kernel
theorem dX2_see_48 : decode cX2_see 48 = .ok (.iastore, 1) := by decide +kernel
theorem dX2_see_49 : decode cX2_see 49 = .ok (.aload_n 0, 1) := by decide +kernel
theorem dX2_see_50 : decode cX2_see 50 = .ok (.getfield 32, 3) := by decide +kernel
theorem dX2_see_53 : decode cX2_see 53 = .ok (.aload_n 0, 1) := by decide +kernel
theorem dX2_see_54 : decode cX2_see 54 = .ok (.getfield 138, 3) := by decide +kernel
theorem dX2_see_57 : decode cX2_see 57 = .ok (.iload_n 2, 1) := by decide +kernel
theorem dX2_see_58 : decode cX2_see 58 = .ok (.iastore, 1) := by decide +kernel
theorem dX2_see_59 : decode cX2_see 59 = .ok (.aload_n 0, 1) := by decide +kernel
theorem dX2_see_60 : decode cX2_see 60 = .ok (.dup, 1) := by decide +kernel
theorem dX2_see_61 : decode cX2_see 61 = .ok (.getfield 138, 3) := by decide +kernel
theorem dX2_see_64 : decode cX2_see 64 = .ok (.iconst 1, 1) := by decide +kernel
theorem dX2_see_65 : decode cX2_see 65 = .ok (.iadd, 1) := by decide +kernel
theorem dX2_see_66 : decode cX2_see 66 = .ok (.putfield 138, 3) := by decide +kernel
theorem dX2_see_69 : decode cX2_see 69 = .ok (.aload_n 0, 1) := by decide +kernel
theorem dX2_see_70 : decode cX2_see 70 = .ok (.getfield 138, 3) := by decide +kernel
theorem dX2_see_73 : decode cX2_see 73 = .ok (.ireturn, 1) := by decide +kernel
theorem dX2_unsee_0 : decode cX2_unsee 0 = .ok (.aload_n 0, 1) := by decide +kernel
theorem dX2_unsee_1 : decode cX2_unsee 1 = .ok (.getfield 138, 3) := by decide +kernel
theorem dX2_unsee_4 : decode cX2_unsee 4 = .ok (.istore_n 1, 1) := by decide +kernel
theorem dX2_unsee_5 : decode cX2_unsee 5 = .ok (.aload_n 0, 1) := by decide +kernel
theorem dX2_unsee_6 : decode cX2_unsee 6 = .ok (.iconst 0, 1) := by decide +kernel
theorem dX2_unsee_7 : decode cX2_unsee 7 = .ok (.putfield 138, 3) := by decide +kernel
theorem dX2_unsee_10 : decode cX2_unsee 10 = .ok (.iload_n 1, 1) := by decide +kernel
theorem dX2_unsee_11 : decode cX2_unsee 11 = .ok (.ireturn, 1) := by decide +kernel
set_option maxRecDepth 20000 in
theorem ggX2_which_X2_copy : GoodIn wsX2_which wsX2_copy := goodIn_r _ [9] (by decide +kernel) (by decide +kernel)
set_option maxRecDepth 20000 in
theorem gX2_which_X2_copy : GoodIn wsX2_which (va_wsS RX2 128 yX2_copy wsX2_copy) := goodIn_app (goodIn_of _ (by decide +kernel)) ggX2_which_X2_copy
set_option maxRecDepth 20000 in
theorem ggX2_which_X2_passOn : GoodIn wsX2_which wsX2_passOn := goodIn_r _ [12, 13, 14, 8, 15, 16, 17, 18, 19, 20, 21, 22, 23, 24, 25, 26, 27, 28, 29, 30, 31, 32, 33, 34, 35, 36, 37, 38, 39, 40, 41, 42, 43, 44, 45, 46, 47, 48, 49, 50, 51, 52, 53, 54, 55] (by decide +kernel) (by decide +kernel)
set_option maxRecDepth 20000 in
theorem gX2_which_X2_passOn : GoodIn wsX2_which (va_wsS RX2 108 yX2_passOn wsX2_passOn) := goodIn_app (goodIn_of _ (by decide +kernel)) ggX2_which_X2_passOn
theorem dX2_which_0 : decode cX2_which 0 = .ok (.iconst 0, 1) := by decide +kernel
theorem dX2_which_1 : decode cX2_which 1 = .ok (.istore_n 1, 1) := by decide +kernel
theorem dX2_which_2 : decode cX2_which 2 = .ok (.iconst 1, 1) := by decide +kernel
theorem dX2_which_3 : decode cX2_which 3 = .ok (.istore_n 2, 1) := by decide +kernel
theorem dX2_which_4 : decode cX2_which 4 = .ok (.iload_n 2, 1) := by decide +kernel
theorem dX2_which_5 : decode cX2_which 5 = .ok (.bipush 10, 2) := by decide +kernel
theorem dX2_which_7 : decode cX2_which 7 = .ok (.if_icmp .ge 96, 3) := by decide +kernel
theorem dX2_which_10 : decode cX2_which 10 = .ok (.iconst 1, 1) := by decide +kernel
theorem dX2_which_11 : decode cX2_which 11 = .ok (.istore_n 3, 1) := by decide +kernel
theorem dX2_which_12 : decode cX2_which 12 = .ok (.iconst 0, 1) := by decide +kernel
theorem dX2_which_13 : decode cX2_which 13 = .ok (.istore 4, 2) := by decide +kernel
theorem dX2_which_15 : decode cX2_which 15 = .ok (.iload 4, 2) := by decide +kernel
theorem dX2_which_17 : decode cX2_which 17 = .ok (.aload_n 0, 1) := by decide +kernel
theorem dX2_which_18 : decode cX2_which 18 = .ok (.getfield 138, 3) := by decide +kernel
theorem dX2_which_21 : decode cX2_which 21 = .ok (.if_icmp .ge 62, 3) := by decide +kernel
theorem dX2_which_24 : decode cX2_which 24 = .ok (.aload_n 0, 1) := by decide +kernel
theorem dX2_which_25 : decode cX2_which 25 = .ok (.getfield 13, 3) := by decide +kernel
theorem dX2_which_28 : decode cX2_which 28 = .ok (.aload_n 0, 1) := by decide +kernel
theorem dX2_which_29 : decode cX2_which 29 = .ok (.getfield 16, 3) := by decide +kernel
theorem dX2_which_32 : decode cX2_which 32 = .ok (.invokestatic 128, 3) := by decide +kernel
theorem dX2_which_35 : decode cX2_which 35 = .ok (.aload_n 0, 1) := by decide +kernel
theorem dX2_which_36 : decode cX2_which 36 = .ok (.getfield 16, 3) := by decide +kernel
theorem dX2_which_39 : decode cX2_which 39 = .ok (.bipush 67, 2) := by decide +kernel
theorem dX2_which_41 : decode cX2_which 41 = .ok (.iload_n 2, 1) := by decide +kernel
theorem dX2_which_42 : decode cX2_which 42 = .ok (.iastore, 1) := by decide +kernel
theorem dX2_which_43 : decode cX2_which 43 = .ok (.iload_n 3, 1) := by decide +kernel
theorem dX2_which_44 : decode cX2_which 44 = .ok (.ifCond .eq 31, 3) := by decide +kernel
theorem dX2_which_47 : decode cX2_which 47 = .ok (.aload_n 0, 1) := by decide +kernel
theorem dX2_which_48 : decode cX2_which 48 = .ok (.getfield 16, 3) := by decide +kernel
theorem dX2_which_51 : decode cX2_which 51 = .ok (.aload_n 0, 1) := by decide +kernel
theorem dX2_which_52 : decode cX2_which 52 = .ok (.getfield 29, 3) := by decide +kernel
theorem dX2_which_55 : decode cX2_which 55 = .ok (.iload 4, 2) := by decide +kernel
theorem dX2_which_57 : decode cX2_which 57 = .ok (.iaload, 1) := by decide +kernel
theorem dX2_which_58 : decode cX2_which 58 = .ok (.invokestatic 108, 3) := by decide +kernel
theorem dX2_which_61 : decode cX2_which 61 = .ok (.aload_n 0, 1) := by decide +kernel
theorem dX2_which_62 : decode cX2_which 62 = .ok (.getfield 32, 3) := by decide +kernel
theorem dX2_which_65 : decode cX2_which 65 = .ok (.iload 4, 2) := by decide +kernel
theorem dX2_which_67 : decode cX2_which 67 = .ok (.iaload, 1) := by decide +kernel
theorem dX2_which_68 : decode cX2_which 68 = .ok (.if_icmp .ne 7, 3) := by decide +kernel
theorem dX2_which_71 : decode cX2_which 71 = .ok (.iconst 1, 1) := by decide +kernel
theorem dX2_which_72 : decode cX2_which 72 = .ok (.goto 4, 3) := by decide +kernel
theorem dX2_which_75 : decode cX2_which 75 = .ok (.iconst 0, 1) := by decide +kernel
theorem dX2_which_76 : decode cX2_which 76 = .ok (.istore_n 3, 1) := by decide +kernel
theorem dX2_which_77 : decode cX2_which 77 = .ok (.iinc 4 1, 3) := by decide +kernel
theorem dX2_which_80 : decode cX2_which 80 = .ok (.goto (-65), 3) := by decide +kernel
theorem dX2_which_83 : decode cX2_which 83 = .ok (.iload_n 1, 1) := by decide +kernel
theorem dX2_which_84 : decode cX2_which 84 = .ok (.iload_n 3, 1) := by decide +kernel
theorem dX2_which_85 : decode cX2_which 85 = .ok (.ifCond .eq 9, 3) := by decide +kernel
theorem dX2_which_88 : decode cX2_which 88 = .ok (.iconst 1, 1) := by decide +kernel
theorem dX2_which_89 : decode cX2_which 89 = .ok (.iload_n 2, 1) := by decide +kernel
theorem dX2_which_90 : decode cX2_which 90 = .ok (.ishl, 1) := by decide +kernel
theorem dX2_which_91 : decode cX2_which 91 = .ok (.goto 4, 3) := by decide +kernel
theorem dX2_which_94 : decode cX2_which 94 = .ok (.iconst 0, 1) := by decide +kernel
theorem dX2_which_95 : decode cX2_which 95 = .ok (.ior, 1) := by decide +kernel
theorem dX2_which_96 : decode cX2_which 96 = .ok (.istore_n 1, 1) := by decide +kernel
theorem dX2_which_97 : decode cX2_which 97 = .ok (.iinc 2 1, 3) := by decide +kernel
theorem dX2_which_100 : decode cX2_which 100 = .ok (.goto (-96), 3) := by decide +kernel
theorem dX2_which_103 : decode cX2_which 103 = .ok (.iload_n 1, 1) := by decide +kernel
theorem dX2_which_104 : decode cX2_which 104 = .ok (.ireturn, 1) := by decide +kernel
set_option maxRecDepth 20000 in
theorem ggX2_lettersBy_X2_copy : GoodIn wsX2_lettersBy wsX2_copy := goodIn_r _ [6] (by decide +kernel) (by decide +kernel)
set_option maxRecDepth 20000 in
theorem gX2_lettersBy_X2_copy : GoodIn wsX2_lettersBy (va_wsS RX2 128 yX2_copy wsX2_copy) := goodIn_app (goodIn_of _ (by decide +kernel)) ggX2_lettersBy_X2_copy
set_option maxRecDepth 20000 in
theorem ggX2_lettersBy_X2_has : GoodIn wsX2_lettersBy wsX2_has := goodIn_r _ [9] (by decide +kernel) (by decide +kernel)
set_option maxRecDepth 20000 in
theorem gX2_lettersBy_X2_has : GoodIn wsX2_lettersBy (va_wsS RX2 64 yX2_has wsX2_has) := goodIn_app (goodIn_of _ (by decide +kernel)) ggX2_lettersBy_X2_has
set_option maxRecDepth 20000 in
theorem ggX2_lettersBy_X2_goAway : GoodIn wsX2_lettersBy wsX2_goAway := goodIn_r _ [12] (by decide +kernel) (by decide +kernel)
set_option maxRecDepth 20000 in
theorem gX2_lettersBy_X2_goAway : GoodIn wsX2_lettersBy (va_wsS RX2 72 yX2_goAway wsX2_goAway) := goodIn_app (goodIn_of _ (by decide +kernel)) ggX2_lettersBy_X2_goAway
set_option maxRecDepth 20000 in
theorem ggX2_lettersBy_X2_passOn : GoodIn wsX2_lettersBy wsX2_passOn := goodIn_r _ [15, 16, 17, 5, 18, 19, 20, 21, 22, 23, 24, 25, 26, 27, 28, 29, 30, 31, 32, 33, 34, 35, 36, 37, 38, 39, 40, 41, 42, 43, 44, 45, 46, 7, 8, 9, 47, 48, 49, 10, 11, 12, 50, 51, 52] (by decide +kernel) (by decide +kernel)
set_option maxRecDepth 20000 in
theorem gX2_lettersBy_X2_passOn : GoodIn wsX2_lettersBy (va_wsS RX2 108 yX2_passOn wsX2_passOn) := goodIn_app (goodIn_of _ (by decide +kernel)) ggX2_lettersBy_X2_passOn
theorem dX2_lettersBy_0 : decode cX2_lettersBy 0 = .ok (.aload_n 0, 1) := by decide +kernel
theorem dX2_lettersBy_1 : decode cX2_lettersBy 1 = .ok (.getfield 13, 3) := by decide +kernel
theorem dX2_lettersBy_4 : decode cX2_lettersBy 4 = .ok (.aload_n 0, 1) := by decide +kernel
theorem dX2_lettersBy_5 : decode cX2_lettersBy 5 = .ok (.getfield 16, 3) := by decide +kernel
theorem dX2_lettersBy_8 : decode cX2_lettersBy 8 = .ok (.invokestatic 128, 3) := by decide +kernel
theorem dX2_lettersBy_11 : decode cX2_lettersBy 11 = .ok (.iconst 0, 1) := by decide +kernel
theorem dX2_lettersBy_12 : decode cX2_lettersBy 12 = .ok (.istore_n 3, 1) := by decide +kernel
theorem dX2_lettersBy_13 : decode cX2_lettersBy 13 = .ok (.iload_n 3, 1) := by decide +kernel
theorem dX2_lettersBy_14 : decode cX2_lettersBy 14 = .ok (.bipush 6, 2) := by decide +kernel
theorem dX2_lettersBy_16 : decode cX2_lettersBy 16 = .ok (.if_icmp .ge 38, 3) := by decide +kernel
theorem dX2_lettersBy_19 : decode cX2_lettersBy 19 = .ok (.aload_n 0, 1) := by decide +kernel
theorem dX2_lettersBy_20 : decode cX2_lettersBy 20 = .ok (.getfield 16, 3) := by decide +kernel
theorem dX2_lettersBy_23 : decode cX2_lettersBy 23 = .ok (.bipush 6, 2) := by decide +kernel
theorem dX2_lettersBy_25 : decode cX2_lettersBy 25 = .ok (.iload_n 3, 1) := by decide +kernel
theorem dX2_lettersBy_26 : decode cX2_lettersBy 26 = .ok (.iadd, 1) := by decide +kernel
theorem dX2_lettersBy_27 : decode cX2_lettersBy 27 = .ok (.dup2, 1) := by decide +kernel
theorem dX2_lettersBy_28 : decode cX2_lettersBy 28 = .ok (.iaload, 1) := by decide +kernel
theorem dX2_lettersBy_29 : decode cX2_lettersBy 29 = .ok (.iload_n 1, 1) := by decide +kernel
theorem dX2_lettersBy_30 : decode cX2_lettersBy 30 = .ok (.iand, 1) := by decide +kernel
theorem dX2_lettersBy_31 : decode cX2_lettersBy 31 = .ok (.iastore, 1) := by decide +kernel
theorem dX2_lettersBy_32 : decode cX2_lettersBy 32 = .ok (.iload_n 1, 1) := by decide +kernel
theorem dX2_lettersBy_33 : decode cX2_lettersBy 33 = .ok (.iload_n 3, 1) := by decide +kernel
theorem dX2_lettersBy_34 : decode cX2_lettersBy 34 = .ok (.invokestatic 64, 3) := by decide +kernel
theorem dX2_lettersBy_37 : decode cX2_lettersBy 37 = .ok (.ifCond .ne 11, 3) := by decide +kernel
theorem dX2_lettersBy_40 : decode cX2_lettersBy 40 = .ok (.aload_n 0, 1) := by decide +kernel
theorem dX2_lettersBy_41 : decode cX2_lettersBy 41 = .ok (.getfield 16, 3) := by decide +kernel
theorem dX2_lettersBy_44 : decode cX2_lettersBy 44 = .ok (.iload_n 3, 1) := by decide +kernel
theorem dX2_lettersBy_45 : decode cX2_lettersBy 45 = .ok (.invokestatic 72, 3) := by decide +kernel
theorem dX2_lettersBy_48 : decode cX2_lettersBy 48 = .ok (.iinc 3 1, 3) := by decide +kernel
theorem dX2_lettersBy_51 : decode cX2_lettersBy 51 = .ok (.goto (-38), 3) := by decide +kernel
theorem dX2_lettersBy_54 : decode cX2_lettersBy 54 = .ok (.aload_n 0, 1) := by decide +kernel
theorem dX2_lettersBy_55 : decode cX2_lettersBy 55 = .ok (.getfield 16, 3) := by decide +kernel
theorem dX2_lettersBy_58 : decode cX2_lettersBy 58 = .ok (.iload_n 2, 1) := by decide +kernel
theorem dX2_lettersBy_59 : decode cX2_lettersBy 59 = .ok (.invokestatic 108, 3) := by decide +kernel
theorem dX2_lettersBy_62 : decode cX2_lettersBy 62 = .ok (.ireturn, 1) := by decide +kernel
set_option maxRecDepth 20000 in
theorem ggX2_share_X2_isMember : GoodIn wsX2_share wsX2_isMember := goodIn_r _ [5, 6, 7, 8, 4, 9] (by decide +kernel) (by decide +kernel)
set_option maxRecDepth 20000 in
theorem gX2_share_X2_isMember : GoodIn wsX2_share (va_wsS RX2 114 yX2_isMember wsX2_isMember) := goodIn_app (goodIn_of _ (by decide +kernel)) ggX2_share_X2_isMember
set_option maxRecDepth 20000 in
theorem ggX2_share_X2_lettersBy : GoodIn wsX2_share wsX2_lettersBy := goodIn_r _ [13, 14, 15, 16, 17, 4, 18, 19, 20, 21, 22, 23, 24, 25, 26, 27, 28, 29, 30, 31, 32, 33, 34, 35, 36, 37, 38, 39, 40, 41, 42, 43, 44, 45, 46, 47, 48, 49, 50, 51, 52, 53, 54, 55, 56, 57, 58, 59, 60, 61, 62, 63, 64, 71, 72, 73, 74, 75, 76, 77, 78, 79, 80, 81, 82, 83, 84, 85] (by decide +kernel) (by decide +kernel)
set_option maxRecDepth 20000 in
theorem gX2_share_X2_lettersBy : GoodIn wsX2_share (wsV RX2 175 RX2 yX2_lettersBy wsX2_lettersBy) := goodIn_app (goodIn_of _ (by decide +kernel)) ggX2_share_X2_lettersBy
set_option maxRecDepth 20000 in
theorem ggX2_share_X2_has : GoodIn wsX2_share wsX2_has := goodIn_r _ [21] (by decide +kernel) (by decide +kernel)
set_option maxRecDepth 20000 in
theorem gX2_share_X2_has : GoodIn wsX2_share (va_wsS RX2 64 yX2_has wsX2_has) := goodIn_app (goodIn_of _ (by decide +kernel)) ggX2_share_X2_has
set_option maxRecDepth 20000 in
theorem ggX2_share_X2_ones : GoodIn wsX2_share wsX2_ones := goodIn_r _ [42] (by decide +kernel) (by decide +kernel)
set_option maxRecDepth 20000 in
theorem gX2_share_X2_ones : GoodIn wsX2_share (va_wsS RX2 51 yX2_ones wsX2_ones) := goodIn_app (goodIn_of _ (by decide +kernel)) ggX2_share_X2_ones
set_option maxRecDepth 20000 in
theorem ggX2_share_X2_factorial : GoodIn wsX2_share wsX2_factorial := goodIn_r _ [67] (by decide +kernel) (by decide +kernel)
set_option maxRecDepth 20000 in
theorem gX2_share_X2_factorial : GoodIn wsX2_share (va_wsS RX2 179 yX2_factorial wsX2_factorial) := goodIn_app (goodIn_of _ (by decide +kernel)) ggX2_share_X2_factorial
set_option maxRecDepth 20000 in
theorem ggX2_share_X2_fraction : GoodIn wsX2_share wsX2_fraction := goodIn_r _ [70] (by decide +kernel) (by decide +kernel)
set_option maxRecDepth 20000 in
theorem gX2_share_X2_fraction : GoodIn wsX2_share (va_wsS RX2 182 yX2_fraction wsX2_fraction) := goodIn_app (goodIn_of _ (by decide +kernel)) ggX2_share_X2_fraction
theorem dX2_share_0 : decode cX2_share 0 = .ok (.iload_n 1, 1) := by decide +kernel
theorem dX2_share_1 : decode cX2_share 1 = .ok (.invokestatic 114, 3) := by decide +kernel
theorem dX2_share_4 : decode cX2_share 4 = .ok (.ifCond .ne 5, 3) := by decide +kernel
theorem dX2_share_7 : decode cX2_share 7 = .ok (.iconst (-1), 1) := by decide +kernel
theorem dX2_share_8 : decode cX2_share 8 = .ok (.ireturn, 1) := by decide +kernel
theorem dX2_share_9 : decode cX2_share 9 = .ok (.iconst 0, 1) := by decide +kernel
theorem dX2_share_10 : decode cX2_share 10 = .ok (.istore_n 3, 1) := by decide +kernel
theorem dX2_share_11 : decode cX2_share 11 = .ok (.iload_n 3, 1) := by decide +kernel
theorem dX2_share_12 : decode cX2_share 12 = .ok (.bipush 64, 2) := by decide +kernel
theorem dX2_share_14 : decode cX2_share 14 = .ok (.if_icmp .ge 22, 3) := by decide +kernel
theorem dX2_share_17 : decode cX2_share 17 = .ok (.aload_n 0, 1) := by decide +kernel
theorem dX2_share_18 : decode cX2_share 18 = .ok (.getfield 35, 3) := by decide +kernel
theorem dX2_share_21 : decode cX2_share 21 = .ok (.iload_n 3, 1) := by decide +kernel
theorem dX2_share_22 : decode cX2_share 22 = .ok (.aload_n 0, 1) := by decide +kernel
theorem dX2_share_23 : decode cX2_share 23 = .ok (.iload_n 3, 1) := by decide +kernel
theorem dX2_share_24 : decode cX2_share 24 = .ok (.bipush 30, 2) := by decide +kernel
theorem dX2_share_26 : decode cX2_share 26 = .ok (.invokevirtual 175, 3) := by decide +kernel
theorem dX2_share_29 : decode cX2_share 29 = .ok (.iastore, 1) := by decide +kernel
theorem dX2_share_30 : decode cX2_share 30 = .ok (.iinc 3 1, 3) := by decide +kernel
theorem dX2_share_33 : decode cX2_share 33 = .ok (.goto (-22), 3) := by decide +kernel
theorem dX2_share_36 : decode cX2_share 36 = .ok (.iconst 0, 1) := by decide +kernel
theorem dX2_share_37 : decode cX2_share 37 = .ok (.istore_n 3, 1) := by decide +kernel
theorem dX2_share_38 : decode cX2_share 38 = .ok (.iconst 0, 1) := by decide +kernel
theorem dX2_share_39 : decode cX2_share 39 = .ok (.istore 4, 2) := by decide +kernel
theorem dX2_share_41 : decode cX2_share 41 = .ok (.iload 4, 2) := by decide +kernel
theorem dX2_share_43 : decode cX2_share 43 = .ok (.bipush 64, 2) := by decide +kernel
theorem dX2_share_45 : decode cX2_share 45 = .ok (.if_icmp .ge 61, 3) := by decide +kernel
theorem dX2_share_48 : decode cX2_share 48 = .ok (.iload 4, 2) := by decide +kernel
theorem dX2_share_50 : decode cX2_share 50 = .ok (.iload_n 1, 1) := by decide +kernel
theorem dX2_share_51 : decode cX2_share 51 = .ok (.invokestatic 64, 3) := by decide +kernel
theorem dX2_share_54 : decode cX2_share 54 = .ok (.ifCond .ne 46, 3) := by decide +kernel
theorem dX2_share_57 : decode cX2_share 57 = .ok (.iload 4, 2) := by decide +kernel
theorem dX2_share_59 : decode cX2_share 59 = .ok (.invokestatic 51, 3) := by decide +kernel
theorem dX2_share_62 : decode cX2_share 62 = .ok (.istore 5, 2) := by decide +kernel
theorem dX2_share_64 : decode cX2_share 64 = .ok (.iload_n 3, 1) := by decide +kernel
theorem dX2_share_65 : decode cX2_share 65 = .ok (.iload 5, 2) := by decide +kernel
theorem dX2_share_67 : decode cX2_share 67 = .ok (.invokestatic 179, 3) := by decide +kernel
theorem dX2_share_70 : decode cX2_share 70 = .ok (.iconst 5, 1) := by decide +kernel
theorem dX2_share_71 : decode cX2_share 71 = .ok (.iload 5, 2) := by decide +kernel
theorem dX2_share_73 : decode cX2_share 73 = .ok (.isub, 1) := by decide +kernel
theorem dX2_share_74 : decode cX2_share 74 = .ok (.invokestatic 179, 3) := by decide +kernel
theorem dX2_share_77 : decode cX2_share 77 = .ok (.imul, 1) := by decide +kernel
theorem dX2_share_78 : decode cX2_share 78 = .ok (.aload_n 0, 1) := by decide +kernel
theorem dX2_share_79 : decode cX2_share 79 = .ok (.getfield 35, 3) := by decide +kernel
theorem dX2_share_82 : decode cX2_share 82 = .ok (.iload 4, 2) := by decide +kernel
theorem dX2_share_84 : decode cX2_share 84 = .ok (.iconst 1, 1) := by decide +kernel
theorem dX2_share_85 : decode cX2_share 85 = .ok (.iload_n 1, 1) := by decide +kernel
theorem dX2_share_86 : decode cX2_share 86 = .ok (.ishl, 1) := by decide +kernel
theorem dX2_share_87 : decode cX2_share 87 = .ok (.ior, 1) := by decide +kernel
theorem dX2_share_88 : decode cX2_share 88 = .ok (.iaload, 1) := by decide +kernel
theorem dX2_share_89 : decode cX2_share 89 = .ok (.aload_n 0, 1) := by decide +kernel
theorem dX2_share_90 : decode cX2_share 90 = .ok (.getfield 35, 3) := by decide +kernel
theorem dX2_share_93 : decode cX2_share 93 = .ok (.iload 4, 2) := by decide +kernel
theorem dX2_share_95 : decode cX2_share 95 = .ok (.iaload, 1) := by decide +kernel
theorem dX2_share_96 : decode cX2_share 96 = .ok (.isub, 1) := by decide +kernel
theorem dX2_share_97 : decode cX2_share 97 = .ok (.imul, 1) := by decide +kernel
theorem dX2_share_98 : decode cX2_share 98 = .ok (.iadd, 1) := by decide +kernel
theorem dX2_share_99 : decode cX2_share 99 = .ok (.istore_n 3, 1) := by decide +kernel
theorem dX2_share_100 : decode cX2_share 100 = .ok (.iinc 4 1, 3) := by decide +kernel
theorem dX2_share_103 : decode cX2_share 103 = .ok (.goto (-62), 3) := by decide +kernel
theorem dX2_share_106 : decode cX2_share 106 = .ok (.iload_n 3, 1) := by decide +kernel
theorem dX2_share_107 : decode cX2_share 107 = .ok (.bipush 6, 2) := by decide +kernel
theorem dX2_share_109 : decode cX2_share 109 = .ok (.invokestatic 179, 3) := by decide +kernel
theorem dX2_share_112 : decode cX2_share 112 = .ok (.iload_n 2, 1) := by decide +kernel
theorem dX2_share_113 : decode cX2_share 113 = .ok (.invokestatic 182, 3) := by decide +kernel
theorem dX2_share_116 : decode cX2_share 116 = .ok (.ireturn, 1) := by decide +kernel
set_option maxRecDepth 20000 in
theorem ggX2_chance_X2_in : GoodIn wsX2_chance wsX2_in := goodIn_r _ [6] (by decide +kernel) (by decide +kernel)
set_option maxRecDepth 20000 in
theorem gX2_chance_X2_in : GoodIn wsX2_chance (va_wsS RX2 47 yX2_in wsX2_in) := goodIn_app (goodIn_of _ (by decide +kernel)) ggX2_chance_X2_in
set_option maxRecDepth 20000 in
theorem ggX2_chance_X2_ones : GoodIn wsX2_chance wsX2_ones := goodIn_r _ [9] (by decide +kernel) (by decide +kernel)
set_option maxRecDepth 20000 in
theorem gX2_chance_X2_ones : GoodIn wsX2_chance (va_wsS RX2 51 yX2_ones wsX2_ones) := goodIn_app (goodIn_of _ (by decide +kernel)) ggX2_chance_X2_ones
set_option maxRecDepth 20000 in
theorem ggX2_chance_X2_lettersBy : GoodIn wsX2_chance wsX2_lettersBy := goodIn_r _ [13, 14, 15, 16, 17, 5, 18, 19, 20, 21, 22, 23, 24, 25, 26, 27, 28, 29, 30, 31, 32, 33, 34, 35, 36, 37, 38, 39, 7, 8, 9, 40, 41, 42, 43, 44, 45, 46, 47, 48, 49, 50, 51, 52, 53, 54, 55, 56, 57, 58, 59, 60, 61, 68, 69, 70, 71, 72, 73, 74, 75, 76, 77, 78, 79, 80, 81, 82] (by decide +kernel) (by decide +kernel)
set_option maxRecDepth 20000 in
theorem gX2_chance_X2_lettersBy : GoodIn wsX2_chance (wsV RX2 175 RX2 yX2_lettersBy wsX2_lettersBy) := goodIn_app (goodIn_of _ (by decide +kernel)) ggX2_chance_X2_lettersBy
set_option maxRecDepth 20000 in
theorem ggX2_chance_X2_power : GoodIn wsX2_chance wsX2_power := goodIn_r _ [64] (by decide +kernel) (by decide +kernel)
set_option maxRecDepth 20000 in
theorem gX2_chance_X2_power : GoodIn wsX2_chance (va_wsS RX2 188 yX2_power wsX2_power) := goodIn_app (goodIn_of _ (by decide +kernel)) ggX2_chance_X2_power
set_option maxRecDepth 20000 in
theorem ggX2_chance_X2_fraction : GoodIn wsX2_chance wsX2_fraction := goodIn_r _ [67] (by decide +kernel) (by decide +kernel)
set_option maxRecDepth 20000 in
theorem gX2_chance_X2_fraction : GoodIn wsX2_chance (va_wsS RX2 182 yX2_fraction wsX2_fraction) := goodIn_app (goodIn_of _ (by decide +kernel)) ggX2_chance_X2_fraction
theorem dX2_chance_0 : decode cX2_chance 0 = .ok (.iload_n 1, 1) := by decide +kernel
theorem dX2_chance_1 : decode cX2_chance 1 = .ok (.i2l, 1) := by decide +kernel
theorem dX2_chance_2 : decode cX2_chance 2 = .ok (.lconst 0, 1) := by decide +kernel
theorem dX2_chance_3 : decode cX2_chance 3 = .ok (.ldc2_w 151, 3) := by decide +kernel
theorem dX2_chance_6 : decode cX2_chance 6 = .ok (.invokestatic 47, 3) := by decide +kernel
theorem dX2_chance_9 : decode cX2_chance 9 = .ok (.ifCond .eq 15, 3) := by decide +kernel
theorem dX2_chance_12 : decode cX2_chance 12 = .ok (.iload_n 2, 1) := by decide +kernel
theorem dX2_chance_13 : decode cX2_chance 13 = .ok (.i2l, 1) := by decide +kernel
theorem dX2_chance_14 : decode cX2_chance 14 = .ok (.lconst 0, 1) := by decide +kernel
theorem dX2_chance_15 : decode cX2_chance 15 = .ok (.ldc2_w 186, 3) := by decide +kernel
theorem dX2_chance_18 : decode cX2_chance 18 = .ok (.invokestatic 47, 3) := by decide +kernel
theorem dX2_chance_21 : decode cX2_chance 21 = .ok (.ifCond .ne 6, 3) := by decide +kernel
theorem dX2_chance_24 : decode cX2_chance 24 = .ok (.bipush (-2), 2) := by decide +kernel
theorem dX2_chance_26 : decode cX2_chance 26 = .ok (.ireturn, 1) := by decide +kernel
theorem dX2_chance_27 : decode cX2_chance 27 = .ok (.iconst 0, 1) := by decide +kernel
theorem dX2_chance_28 : decode cX2_chance 28 = .ok (.istore 4, 2) := by decide +kernel
theorem dX2_chance_30 : decode cX2_chance 30 = .ok (.iconst 0, 1) := by decide +kernel
theorem dX2_chance_31 : decode cX2_chance 31 = .ok (.istore 5, 2) := by decide +kernel
theorem dX2_chance_33 : decode cX2_chance 33 = .ok (.iload 5, 2) := by decide +kernel
theorem dX2_chance_35 : decode cX2_chance 35 = .ok (.bipush 64, 2) := by decide +kernel
theorem dX2_chance_37 : decode cX2_chance 37 = .ok (.if_icmp .ge 56, 3) := by decide +kernel
theorem dX2_chance_40 : decode cX2_chance 40 = .ok (.iload 5, 2) := by decide +kernel
theorem dX2_chance_42 : decode cX2_chance 42 = .ok (.invokestatic 51, 3) := by decide +kernel
theorem dX2_chance_45 : decode cX2_chance 45 = .ok (.istore 6, 2) := by decide +kernel
theorem dX2_chance_47 : decode cX2_chance 47 = .ok (.iload 4, 2) := by decide +kernel
theorem dX2_chance_49 : decode cX2_chance 49 = .ok (.aload_n 0, 1) := by decide +kernel
theorem dX2_chance_50 : decode cX2_chance 50 = .ok (.iload 5, 2) := by decide +kernel
theorem dX2_chance_52 : decode cX2_chance 52 = .ok (.bipush 20, 2) := by decide +kernel
theorem dX2_chance_54 : decode cX2_chance 54 = .ok (.invokevirtual 175, 3) := by decide +kernel
theorem dX2_chance_57 : decode cX2_chance 57 = .ok (.iload_n 1, 1) := by decide +kernel
theorem dX2_chance_58 : decode cX2_chance 58 = .ok (.if_icmp .lt 25, 3) := by decide +kernel
theorem dX2_chance_61 : decode cX2_chance 61 = .ok (.bipush 10, 2) := by decide +kernel
theorem dX2_chance_63 : decode cX2_chance 63 = .ok (.iload_n 2, 1) := by decide +kernel
theorem dX2_chance_64 : decode cX2_chance 64 = .ok (.isub, 1) := by decide +kernel
theorem dX2_chance_65 : decode cX2_chance 65 = .ok (.iload 6, 2) := by decide +kernel
theorem dX2_chance_67 : decode cX2_chance 67 = .ok (.invokestatic 188, 3) := by decide +kernel
theorem dX2_chance_70 : decode cX2_chance 70 = .ok (.iload_n 2, 1) := by decide +kernel
theorem dX2_chance_71 : decode cX2_chance 71 = .ok (.bipush 6, 2) := by decide +kernel
theorem dX2_chance_73 : decode cX2_chance 73 = .ok (.iload 6, 2) := by decide +kernel
theorem dX2_chance_75 : decode cX2_chance 75 = .ok (.isub, 1) := by decide +kernel
theorem dX2_chance_76 : decode cX2_chance 76 = .ok (.invokestatic 188, 3) := by decide +kernel
theorem dX2_chance_79 : decode cX2_chance 79 = .ok (.imul, 1) := by decide +kernel
theorem dX2_chance_80 : decode cX2_chance 80 = .ok (.goto 4, 3) := by decide +kernel
theorem dX2_chance_83 : decode cX2_chance 83 = .ok (.iconst 0, 1) := by decide +kernel
theorem dX2_chance_84 : decode cX2_chance 84 = .ok (.iadd, 1) := by decide +kernel
theorem dX2_chance_85 : decode cX2_chance 85 = .ok (.istore 4, 2) := by decide +kernel
theorem dX2_chance_87 : decode cX2_chance 87 = .ok (.iinc 5 1, 3) := by decide +kernel
theorem dX2_chance_90 : decode cX2_chance 90 = .ok (.goto (-57), 3) := by decide +kernel
theorem dX2_chance_93 : decode cX2_chance 93 = .ok (.iload 4, 2) := by decide +kernel
theorem dX2_chance_95 : decode cX2_chance 95 = .ok (.bipush 10, 2) := by decide +kernel
theorem dX2_chance_97 : decode cX2_chance 97 = .ok (.bipush 6, 2) := by decide +kernel
theorem dX2_chance_99 : decode cX2_chance 99 = .ok (.invokestatic 188, 3) := by decide +kernel
theorem dX2_chance_102 : decode cX2_chance 102 = .ok (.iload_n 3, 1) := by decide +kernel
theorem dX2_chance_103 : decode cX2_chance 103 = .ok (.invokestatic 182, 3) := by decide +kernel
theorem dX2_chance_106 : decode cX2_chance 106 = .ok (.ireturn, 1) := by decide +kernel
theorem dX2_seed_0 : decode cX2_seed 0 = .ok (.aload_n 0, 1) := by decide +kernel
theorem dX2_seed_1 : decode cX2_seed 1 = .ok (.getfield 191, 3) := by decide +kernel
theorem dX2_seed_4 : decode cX2_seed 4 = .ok (.lstore_n 3, 1) := by decide +kernel
theorem dX2_seed_5 : decode cX2_seed 5 = .ok (.aload_n 0, 1) := by decide +kernel
theorem dX2_seed_6 : decode cX2_seed 6 = .ok (.lload_n 1, 1) := by decide +kernel
theorem dX2_seed_7 : decode cX2_seed 7 = .ok (.putfield 191, 3) := by decide +kernel
theorem dX2_seed_10 : decode cX2_seed 10 = .ok (.lload_n 3, 1) := by decide +kernel
theorem dX2_seed_11 : decode cX2_seed 11 = .ok (.lreturn, 1) := by decide +kernel
set_option maxRecDepth 20000 in
theorem ggX2_drawn_X2_in : GoodIn wsX2_drawn wsX2_in := goodIn_r _ [10] (by decide +kernel) (by decide +kernel)
set_option maxRecDepth 20000 in
theorem gX2_drawn_X2_in : GoodIn wsX2_drawn (va_wsS RX2 47 yX2_in wsX2_in) := goodIn_app (goodIn_of _ (by decide +kernel)) ggX2_drawn_X2_in
set_option maxRecDepth 20000 in
theorem ggX2_drawn_X2_copy : GoodIn wsX2_drawn wsX2_copy := goodIn_r _ [13] (by decide +kernel) (by decide +kernel)
set_option maxRecDepth 20000 in
theorem gX2_drawn_X2_copy : GoodIn wsX2_drawn (va_wsS RX2 128 yX2_copy wsX2_copy) := goodIn_app (goodIn_of _ (by decide +kernel)) ggX2_drawn_X2_copy
set_option maxRecDepth 20000 in
theorem ggX2_drawn_X2_joins : GoodIn wsX2_drawn wsX2_joins := goodIn_r _ [16, 17, 18, 9, 19, 20, 21, 22, 23, 24, 25, 26] (by decide +kernel) (by decide +kernel)
set_option maxRecDepth 20000 in
theorem gX2_drawn_X2_joins : GoodIn wsX2_drawn (va_wsS RX2 118 yX2_joins wsX2_joins) := goodIn_app (goodIn_of _ (by decide +kernel)) ggX2_drawn_X2_joins
set_option maxRecDepth 20000 in
theorem ggX2_drawn_X2_leaves : GoodIn wsX2_drawn wsX2_leaves := goodIn_r _ [29, 30, 31, 9, 32, 33, 34, 35, 36, 37, 38, 39, 40, 41, 42, 43, 44, 45, 46, 47, 17, 18, 19, 20, 21, 22, 23, 24, 25, 26] (by decide +kernel) (by decide +kernel)
set_option maxRecDepth 20000 in
theorem gX2_drawn_X2_leaves : GoodIn wsX2_drawn (va_wsS RX2 121 yX2_leaves wsX2_leaves) := goodIn_app (goodIn_of _ (by decide +kernel)) ggX2_drawn_X2_leaves
set_option maxRecDepth 20000 in
theorem ggX2_drawn_X2_tick : GoodIn wsX2_drawn wsX2_tick := goodIn_r _ [50, 51, 52, 9, 53, 30, 31, 32, 33, 34, 35, 17, 18, 19, 20, 21, 22, 23, 24, 25, 26, 54, 55, 56, 42, 43, 44, 45, 46, 47, 36, 37, 38, 39, 40, 41, 57, 58, 59] (by decide +kernel) (by decide +kernel)
set_option maxRecDepth 20000 in
theorem gX2_drawn_X2_tick : GoodIn wsX2_drawn (va_wsS RX2 97 yX2_tick wsX2_tick) := goodIn_app (goodIn_of _ (by decide +kernel)) ggX2_drawn_X2_tick
set_option maxRecDepth 20000 in
theorem ggX2_drawn_X2_lettersOf : GoodIn wsX2_drawn wsX2_lettersOf := goodIn_r _ [62] (by decide +kernel) (by decide +kernel)
set_option maxRecDepth 20000 in
theorem gX2_drawn_X2_lettersOf : GoodIn wsX2_drawn (va_wsS RX2 94 yX2_lettersOf wsX2_lettersOf) := goodIn_app (goodIn_of _ (by decide +kernel)) ggX2_drawn_X2_lettersOf
theorem dX2_drawn_0 : decode cX2_drawn 0 = .ok (.iload_n 1, 1) := by decide +kernel
theorem dX2_drawn_1 : decode cX2_drawn 1 = .ok (.i2l, 1) := by decide +kernel
theorem dX2_drawn_2 : decode cX2_drawn 2 = .ok (.lconst 1, 1) := by decide +kernel
theorem dX2_drawn_3 : decode cX2_drawn 3 = .ok (.ldc2_w 195, 3) := by decide +kernel
theorem dX2_drawn_6 : decode cX2_drawn 6 = .ok (.invokestatic 47, 3) := by decide +kernel
theorem dX2_drawn_9 : decode cX2_drawn 9 = .ok (.ifCond .ne 6, 3) := by decide +kernel
theorem dX2_drawn_12 : decode cX2_drawn 12 = .ok (.bipush (-2), 2) := by decide +kernel
theorem dX2_drawn_14 : decode cX2_drawn 14 = .ok (.ireturn, 1) := by decide +kernel
theorem dX2_drawn_15 : decode cX2_drawn 15 = .ok (.aload_n 0, 1) := by decide +kernel
theorem dX2_drawn_16 : decode cX2_drawn 16 = .ok (.getfield 13, 3) := by decide +kernel
theorem dX2_drawn_19 : decode cX2_drawn 19 = .ok (.aload_n 0, 1) := by decide +kernel
theorem dX2_drawn_20 : decode cX2_drawn 20 = .ok (.getfield 16, 3) := by decide +kernel
theorem dX2_drawn_23 : decode cX2_drawn 23 = .ok (.invokestatic 128, 3) := by decide +kernel
theorem dX2_drawn_26 : decode cX2_drawn 26 = .ok (.iconst 0, 1) := by decide +kernel
theorem dX2_drawn_27 : decode cX2_drawn 27 = .ok (.istore_n 2, 1) := by decide +kernel
theorem dX2_drawn_28 : decode cX2_drawn 28 = .ok (.iload_n 2, 1) := by decide +kernel
theorem dX2_drawn_29 : decode cX2_drawn 29 = .ok (.iload_n 1, 1) := by decide +kernel
theorem dX2_drawn_30 : decode cX2_drawn 30 = .ok (.if_icmp .ge 106, 3) := by decide +kernel
theorem dX2_drawn_33 : decode cX2_drawn 33 = .ok (.aload_n 0, 1) := by decide +kernel
theorem dX2_drawn_34 : decode cX2_drawn 34 = .ok (.aload_n 0, 1) := by decide +kernel
theorem dX2_drawn_35 : decode cX2_drawn 35 = .ok (.getfield 191, 3) := by decide +kernel
theorem dX2_drawn_38 : decode cX2_drawn 38 = .ok (.ldc2_w 197, 3) := by decide +kernel
theorem dX2_drawn_41 : decode cX2_drawn 41 = .ok (.lmul, 1) := by decide +kernel
theorem dX2_drawn_42 : decode cX2_drawn 42 = .ok (.ldc2_w 199, 3) := by decide +kernel
theorem dX2_drawn_45 : decode cX2_drawn 45 = .ok (.ladd, 1) := by decide +kernel
theorem dX2_drawn_46 : decode cX2_drawn 46 = .ok (.putfield 191, 3) := by decide +kernel
theorem dX2_drawn_49 : decode cX2_drawn 49 = .ok (.aload_n 0, 1) := by decide +kernel
theorem dX2_drawn_50 : decode cX2_drawn 50 = .ok (.getfield 191, 3) := by decide +kernel
theorem dX2_drawn_53 : decode cX2_drawn 53 = .ok (.bipush 33, 2) := by decide +kernel
theorem dX2_drawn_55 : decode cX2_drawn 55 = .ok (.lushr, 1) := by decide +kernel
theorem dX2_drawn_56 : decode cX2_drawn 56 = .ok (.l2i, 1) := by decide +kernel
theorem dX2_drawn_57 : decode cX2_drawn 57 = .ok (.istore_n 3, 1) := by decide +kernel
theorem dX2_drawn_58 : decode cX2_drawn 58 = .ok (.iload_n 3, 1) := by decide +kernel
theorem dX2_drawn_59 : decode cX2_drawn 59 = .ok (.bipush 8, 2) := by decide +kernel
theorem dX2_drawn_61 : decode cX2_drawn 61 = .ok (.idiv, 1) := by decide +kernel
theorem dX2_drawn_62 : decode cX2_drawn 62 = .ok (.bipush 6, 2) := by decide +kernel
theorem dX2_drawn_64 : decode cX2_drawn 64 = .ok (.irem, 1) := by decide +kernel
theorem dX2_drawn_65 : decode cX2_drawn 65 = .ok (.istore 4, 2) := by decide +kernel
theorem dX2_drawn_67 : decode cX2_drawn 67 = .ok (.iload_n 3, 1) := by decide +kernel
theorem dX2_drawn_68 : decode cX2_drawn 68 = .ok (.bipush 8, 2) := by decide +kernel
theorem dX2_drawn_70 : decode cX2_drawn 70 = .ok (.irem, 1) := by decide +kernel
theorem dX2_drawn_71 : decode cX2_drawn 71 = .ok (.ifCond .ne 25, 3) := by decide +kernel
theorem dX2_drawn_74 : decode cX2_drawn 74 = .ok (.aload_n 0, 1) := by decide +kernel
theorem dX2_drawn_75 : decode cX2_drawn 75 = .ok (.getfield 16, 3) := by decide +kernel
theorem dX2_drawn_78 : decode cX2_drawn 78 = .ok (.iload 4, 2) := by decide +kernel
theorem dX2_drawn_80 : decode cX2_drawn 80 = .ok (.iaload, 1) := by decide +kernel
theorem dX2_drawn_81 : decode cX2_drawn 81 = .ok (.ifCond .ne 15, 3) := by decide +kernel
theorem dX2_drawn_84 : decode cX2_drawn 84 = .ok (.aload_n 0, 1) := by decide +kernel
theorem dX2_drawn_85 : decode cX2_drawn 85 = .ok (.getfield 16, 3) := by decide +kernel
theorem dX2_drawn_88 : decode cX2_drawn 88 = .ok (.iload 4, 2) := by decide +kernel
theorem dX2_drawn_90 : decode cX2_drawn 90 = .ok (.invokestatic 118, 3) := by decide +kernel
theorem dX2_drawn_93 : decode cX2_drawn 93 = .ok (.goto 30, 3) := by decide +kernel
theorem dX2_drawn_96 : decode cX2_drawn 96 = .ok (.iload_n 3, 1) := by decide +kernel
theorem dX2_drawn_97 : decode cX2_drawn 97 = .ok (.bipush 8, 2) := by decide +kernel
theorem dX2_drawn_99 : decode cX2_drawn 99 = .ok (.irem, 1) := by decide +kernel
theorem dX2_drawn_100 : decode cX2_drawn 100 = .ok (.ifCond .ne 23, 3) := by decide +kernel
theorem dX2_drawn_103 : decode cX2_drawn 103 = .ok (.aload_n 0, 1) := by decide +kernel
theorem dX2_drawn_104 : decode cX2_drawn 104 = .ok (.getfield 16, 3) := by decide +kernel
theorem dX2_drawn_107 : decode cX2_drawn 107 = .ok (.iload 4, 2) := by decide +kernel
theorem dX2_drawn_109 : decode cX2_drawn 109 = .ok (.iaload, 1) := by decide +kernel
theorem dX2_drawn_110 : decode cX2_drawn 110 = .ok (.iconst 1, 1) := by decide +kernel
theorem dX2_drawn_111 : decode cX2_drawn 111 = .ok (.if_icmp .ne 12, 3) := by decide +kernel
theorem dX2_drawn_114 : decode cX2_drawn 114 = .ok (.aload_n 0, 1) := by decide +kernel
theorem dX2_drawn_115 : decode cX2_drawn 115 = .ok (.getfield 16, 3) := by decide +kernel
theorem dX2_drawn_118 : decode cX2_drawn 118 = .ok (.iload 4, 2) := by decide +kernel
theorem dX2_drawn_120 : decode cX2_drawn 120 = .ok (.invokestatic 121, 3) := by decide +kernel
theorem dX2_drawn_123 : decode cX2_drawn 123 = .ok (.aload_n 0, 1) := by decide +kernel
theorem dX2_drawn_124 : decode cX2_drawn 124 = .ok (.getfield 16, 3) := by decide +kernel
theorem dX2_drawn_127 : decode cX2_drawn 127 = .ok (.invokestatic 97, 3) := by decide +kernel
theorem dX2_drawn_130 : decode cX2_drawn 130 = .ok (.iinc 2 1, 3) := by decide +kernel
theorem dX2_drawn_133 : decode cX2_drawn 133 = .ok (.goto (-105), 3) := by decide +kernel
theorem dX2_drawn_136 : decode cX2_drawn 136 = .ok (.aload_n 0, 1) := by decide +kernel
theorem dX2_drawn_137 : decode cX2_drawn 137 = .ok (.getfield 16, 3) := by decide +kernel
theorem dX2_drawn_140 : decode cX2_drawn 140 = .ok (.invokestatic 94, 3) := by decide +kernel
theorem dX2_drawn_143 : decode cX2_drawn 143 = .ok (.aload_n 0, 1) := by decide +kernel
theorem dX2_drawn_144 : decode cX2_drawn 144 = .ok (.getfield 13, 3) := by decide +kernel
theorem dX2_drawn_147 : decode cX2_drawn 147 = .ok (.invokestatic 94, 3) := by decide +kernel
theorem dX2_drawn_150 : decode cX2_drawn 150 = .ok (.isub, 1) := by decide +kernel
theorem dX2_drawn_151 : decode cX2_drawn 151 = .ok (.ireturn, 1) := by decide +kernel
set_option maxRecDepth 20000 in
theorem ggX2_keep_X2_in : GoodIn wsX2_keep wsX2_in := goodIn_r _ [7] (by decide +kernel) (by decide +kernel)
set_option maxRecDepth 20000 in
theorem gX2_keep_X2_in : GoodIn wsX2_keep (va_wsS RX2 47 yX2_in wsX2_in) := goodIn_app (goodIn_of _ (by decide +kernel)) ggX2_keep_X2_in
theorem dX2_keep_0 : decode cX2_keep 0 = .ok (.iload_n 1, 1) := by decide +kernel
theorem dX2_keep_1 : decode cX2_keep 1 = .ok (.i2l, 1) := by decide +kernel
theorem dX2_keep_2 : decode cX2_keep 2 = .ok (.lconst 0, 1) := by decide +kernel
theorem dX2_keep_3 : decode cX2_keep 3 = .ok (.lconst 1, 1) := by decide +kernel
theorem dX2_keep_4 : decode cX2_keep 4 = .ok (.invokestatic 47, 3) := by decide +kernel
theorem dX2_keep_7 : decode cX2_keep 7 = .ok (.ifCond .ne 5, 3) := by decide +kernel
theorem dX2_keep_10 : decode cX2_keep 10 = .ok (.iconst (-1), 1) := by decide +kernel
theorem dX2_keep_11 : decode cX2_keep 11 = .ok (.ireturn, 1) := by decide +kernel
theorem dX2_keep_12 : decode cX2_keep 12 = .ok (.aload_n 0, 1) := by decide +kernel
theorem dX2_keep_13 : decode cX2_keep 13 = .ok (.getfield 25, 3) := by decide +kernel
theorem dX2_keep_16 : decode cX2_keep 16 = .ok (.iload_n 1, 1) := by decide +kernel
theorem dX2_keep_17 : decode cX2_keep 17 = .ok (.iconst 1, 1) := by decide +kernel
theorem dX2_keep_18 : decode cX2_keep 18 = .ok (.bastore, 1) := by decide +kernel
theorem dX2_keep_19 : decode cX2_keep 19 = .ok (.iconst 0, 1) := by decide +kernel
theorem dX2_keep_20 : decode cX2_keep 20 = .ok (.istore_n 2, 1) := by decide +kernel
theorem dX2_keep_21 : decode cX2_keep 21 = .ok (.iload_n 2, 1) := by decide +kernel
theorem dX2_keep_22 : decode cX2_keep 22 = .ok (.bipush 79, 2) := by decide +kernel
theorem dX2_keep_24 : decode cX2_keep 24 = .ok (.if_icmp .ge 26, 3) := by decide +kernel
theorem dX2_keep_27 : decode cX2_keep 27 = .ok (.aload_n 0, 1) := by decide +kernel
theorem dX2_keep_28 : decode cX2_keep 28 = .ok (.getfield 22, 3) := by decide +kernel
theorem dX2_keep_31 : decode cX2_keep 31 = .ok (.bipush 79, 2) := by decide +kernel
theorem dX2_keep_33 : decode cX2_keep 33 = .ok (.iload_n 1, 1) := by decide +kernel
theorem dX2_keep_34 : decode cX2_keep 34 = .ok (.imul, 1) := by decide +kernel
theorem dX2_keep_35 : decode cX2_keep 35 = .ok (.iload_n 2, 1) := by decide +kernel
theorem dX2_keep_36 : decode cX2_keep 36 = .ok (.iadd, 1) := by decide +kernel
theorem dX2_keep_37 : decode cX2_keep 37 = .ok (.aload_n 0, 1) := by decide +kernel
theorem dX2_keep_38 : decode cX2_keep 38 = .ok (.getfield 13, 3) := by decide +kernel
theorem dX2_keep_41 : decode cX2_keep 41 = .ok (.iload_n 2, 1) := by decide +kernel
theorem dX2_keep_42 : decode cX2_keep 42 = .ok (.iaload, 1) := by decide +kernel
theorem dX2_keep_43 : decode cX2_keep 43 = .ok (.iastore, 1) := by decide +kernel
theorem dX2_keep_44 : decode cX2_keep 44 = .ok (.iinc 2 1, 3) := by decide +kernel
theorem dX2_keep_47 : decode cX2_keep 47 = .ok (.goto (-26), 3) := by decide +kernel
theorem dX2_keep_50 : decode cX2_keep 50 = .ok (.aload_n 0, 1) := by decide +kernel
theorem dX2_keep_51 : decode cX2_keep 51 = .ok (.getfield 13, 3) := by decide +kernel
theorem dX2_keep_54 : decode cX2_keep 54 = .ok (.bipush 70, 2) := by decide +kernel
theorem dX2_keep_56 : decode cX2_keep 56 = .ok (.iaload, 1) := by decide +kernel
theorem dX2_keep_57 : decode cX2_keep 57 = .ok (.ireturn, 1) := by decide +kernel
set_option maxRecDepth 20000 in
theorem ggX2_again_X2_in : GoodIn wsX2_again wsX2_in := goodIn_r _ [8] (by decide +kernel) (by decide +kernel)
set_option maxRecDepth 20000 in
theorem gX2_again_X2_in : GoodIn wsX2_again (va_wsS RX2 47 yX2_in wsX2_in) := goodIn_app (goodIn_of _ (by decide +kernel)) ggX2_again_X2_in
theorem dX2_again_0 : decode cX2_again 0 = .ok (.iload_n 1, 1) := by decide +kernel
theorem dX2_again_1 : decode cX2_again 1 = .ok (.i2l, 1) := by decide +kernel
theorem dX2_again_2 : decode cX2_again 2 = .ok (.lconst 0, 1) := by decide +kernel
theorem dX2_again_3 : decode cX2_again 3 = .ok (.lconst 1, 1) := by decide +kernel
theorem dX2_again_4 : decode cX2_again 4 = .ok (.invokestatic 47, 3) := by decide +kernel
theorem dX2_again_7 : decode cX2_again 7 = .ok (.ifCond .ne 5, 3) := by decide +kernel
theorem dX2_again_10 : decode cX2_again 10 = .ok (.iconst (-1), 1) := by decide +kernel
theorem dX2_again_11 : decode cX2_again 11 = .ok (.ireturn, 1) := by decide +kernel
theorem dX2_again_12 : decode cX2_again 12 = .ok (.aload_n 0, 1) := by decide +kernel
theorem dX2_again_13 : decode cX2_again 13 = .ok (.getfield 25, 3) := by decide +kernel
theorem dX2_again_16 : decode cX2_again 16 = .ok (.iload_n 1, 1) := by decide +kernel
theorem dX2_again_17 : decode cX2_again 17 = .ok (.baload, 1) := by decide +kernel
theorem dX2_again_18 : decode cX2_again 18 = .ok (.ifCond .ne 6, 3) := by decide +kernel
theorem dX2_again_21 : decode cX2_again 21 = .ok (.bipush (-3), 2) := by decide +kernel
theorem dX2_again_23 : decode cX2_again 23 = .ok (.ireturn, 1) := by decide +kernel
theorem dX2_again_24 : decode cX2_again 24 = .ok (.iconst 0, 1) := by decide +kernel
theorem dX2_again_25 : decode cX2_again 25 = .ok (.istore_n 2, 1) := by decide +kernel
theorem dX2_again_26 : decode cX2_again 26 = .ok (.iload_n 2, 1) := by decide +kernel
theorem dX2_again_27 : decode cX2_again 27 = .ok (.bipush 79, 2) := by decide +kernel
theorem dX2_again_29 : decode cX2_again 29 = .ok (.if_icmp .ge 26, 3) := by decide +kernel
theorem dX2_again_32 : decode cX2_again 32 = .ok (.aload_n 0, 1) := by decide +kernel
theorem dX2_again_33 : decode cX2_again 33 = .ok (.getfield 13, 3) := by decide +kernel
theorem dX2_again_36 : decode cX2_again 36 = .ok (.iload_n 2, 1) := by decide +kernel
theorem dX2_again_37 : decode cX2_again 37 = .ok (.aload_n 0, 1) := by decide +kernel
theorem dX2_again_38 : decode cX2_again 38 = .ok (.getfield 22, 3) := by decide +kernel
theorem dX2_again_41 : decode cX2_again 41 = .ok (.bipush 79, 2) := by decide +kernel
theorem dX2_again_43 : decode cX2_again 43 = .ok (.iload_n 1, 1) := by decide +kernel
theorem dX2_again_44 : decode cX2_again 44 = .ok (.imul, 1) := by decide +kernel
theorem dX2_again_45 : decode cX2_again 45 = .ok (.iload_n 2, 1) := by decide +kernel
theorem dX2_again_46 : decode cX2_again 46 = .ok (.iadd, 1) := by decide +kernel
theorem dX2_again_47 : decode cX2_again 47 = .ok (.iaload, 1) := by decide +kernel
theorem dX2_again_48 : decode cX2_again 48 = .ok (.iastore, 1) := by decide +kernel
theorem dX2_again_49 : decode cX2_again 49 = .ok (.iinc 2 1, 3) := by decide +kernel
theorem dX2_again_52 : decode cX2_again 52 = .ok (.goto (-26), 3) := by decide +kernel
theorem dX2_again_55 : decode cX2_again 55 = .ok (.aload_n 0, 1) := by decide +kernel
theorem dX2_again_56 : decode cX2_again 56 = .ok (.iconst 0, 1) := by decide +kernel
theorem dX2_again_57 : decode cX2_again 57 = .ok (.putfield 132, 3) := by decide +kernel
theorem dX2_again_60 : decode cX2_again 60 = .ok (.aload_n 0, 1) := by decide +kernel
theorem dX2_again_61 : decode cX2_again 61 = .ok (.getfield 13, 3) := by decide +kernel
theorem dX2_again_64 : decode cX2_again 64 = .ok (.bipush 70, 2) := by decide +kernel
theorem dX2_again_66 : decode cX2_again 66 = .ok (.iaload, 1) := by decide +kernel
theorem dX2_again_67 : decode cX2_again 67 = .ok (.ireturn, 1) := by decide +kernel

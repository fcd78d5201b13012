set_option maxRecDepth 20000 in
theorem ggX2_init_X2_clear : GoodIn wsX2_init wsX2_clear := goodIn_r _ [19] (by decide +kernel) (by decide +kernel)
set_option maxRecDepth 20000 in
theorem gX2_init_X2_clear : GoodIn wsX2_init (va_wsS RX2 41 yX2_clear wsX2_clear) := goodIn_app (goodIn_of _ (by decide +kernel)) ggX2_init_X2_clear
theorem dX2_init_0 : decode cX2_init 0 = .ok (.aload_n 0, 1) := by decide +kernel
theorem dX2_init_1 : decode cX2_init 1 = .ok (.invokespecial 1, 3) := by decide +kernel
theorem dX2_init_4 : decode cX2_init 4 = .ok (.aload_n 0, 1) := by decide +kernel
theorem dX2_init_5 : decode cX2_init 5 = .ok (.bipush 60, 2) := by decide +kernel
theorem dX2_init_7 : decode cX2_init 7 = .ok (.newarray .int, 2) := by decide +kernel
theorem dX2_init_9 : decode cX2_init 9 = .ok (.putfield 7, 3) := by decide +kernel
theorem dX2_init_12 : decode cX2_init 12 = .ok (.aload_n 0, 1) := by decide +kernel
theorem dX2_init_13 : decode cX2_init 13 = .ok (.bipush 79, 2) := by decide +kernel
theorem dX2_init_15 : decode cX2_init 15 = .ok (.newarray .int, 2) := by decide +kernel
theorem dX2_init_17 : decode cX2_init 17 = .ok (.putfield 13, 3) := by decide +kernel
theorem dX2_init_20 : decode cX2_init 20 = .ok (.aload_n 0, 1) := by decide +kernel
theorem dX2_init_21 : decode cX2_init 21 = .ok (.bipush 79, 2) := by decide +kernel
theorem dX2_init_23 : decode cX2_init 23 = .ok (.newarray .int, 2) := by decide +kernel
theorem dX2_init_25 : decode cX2_init 25 = .ok (.putfield 16, 3) := by decide +kernel
theorem dX2_init_28 : decode cX2_init 28 = .ok (.aload_n 0, 1) := by decide +kernel
theorem dX2_init_29 : decode cX2_init 29 = .ok (.sipush 1106, 3) := by decide +kernel
theorem dX2_init_32 : decode cX2_init 32 = .ok (.newarray .int, 2) := by decide +kernel
theorem dX2_init_34 : decode cX2_init 34 = .ok (.putfield 19, 3) := by decide +kernel
theorem dX2_init_37 : decode cX2_init 37 = .ok (.aload_n 0, 1) := by decide +kernel
theorem dX2_init_38 : decode cX2_init 38 = .ok (.sipush 158, 3) := by decide +kernel
theorem dX2_init_41 : decode cX2_init 41 = .ok (.newarray .int, 2) := by decide +kernel
theorem dX2_init_43 : decode cX2_init 43 = .ok (.putfield 22, 3) := by decide +kernel
theorem dX2_init_46 : decode cX2_init 46 = .ok (.aload_n 0, 1) := by decide +kernel
theorem dX2_init_47 : decode cX2_init 47 = .ok (.iconst 2, 1) := by decide +kernel
theorem dX2_init_48 : decode cX2_init 48 = .ok (.newarray .boolean, 2) := by decide +kernel
theorem dX2_init_50 : decode cX2_init 50 = .ok (.putfield 25, 3) := by decide +kernel
theorem dX2_init_53 : decode cX2_init 53 = .ok (.aload_n 0, 1) := by decide +kernel
theorem dX2_init_54 : decode cX2_init 54 = .ok (.bipush 6, 2) := by decide +kernel
theorem dX2_init_56 : decode cX2_init 56 = .ok (.newarray .int, 2) := by decide +kernel
theorem dX2_init_58 : decode cX2_init 58 = .ok (.putfield 29, 3) := by decide +kernel
theorem dX2_init_61 : decode cX2_init 61 = .ok (.aload_n 0, 1) := by decide +kernel
theorem dX2_init_62 : decode cX2_init 62 = .ok (.bipush 6, 2) := by decide +kernel
theorem dX2_init_64 : decode cX2_init 64 = .ok (.newarray .int, 2) := by decide +kernel
theorem dX2_init_66 : decode cX2_init 66 = .ok (.putfield 32, 3) := by decide +kernel
theorem dX2_init_69 : decode cX2_init 69 = .ok (.aload_n 0, 1) := by decide +kernel
theorem dX2_init_70 : decode cX2_init 70 = .ok (.bipush 64, 2) := by decide +kernel
theorem dX2_init_72 : decode cX2_init 72 = .ok (.newarray .int, 2) := by decide +kernel
theorem dX2_init_74 : decode cX2_init 74 = .ok (.putfield 35, 3) := by decide +kernel
theorem dX2_init_77 : decode cX2_init 77 = .ok (.aload_n 0, 1) := by decide +kernel
theorem dX2_init_78 : decode cX2_init 78 = .ok (.bipush 79, 2) := by decide +kernel
theorem dX2_init_80 : decode cX2_init 80 = .ok (.newarray .int, 2) := by decide +kernel
theorem dX2_init_82 : decode cX2_init 82 = .ok (.putfield 38, 3) := by decide +kernel
theorem dX2_init_85 : decode cX2_init 85 = .ok (.aload_n 0, 1) := by decide +kernel
theorem dX2_init_86 : decode cX2_init 86 = .ok (.getfield 13, 3) := by decide +kernel
theorem dX2_init_89 : decode cX2_init 89 = .ok (.invokestatic 41, 3) := by decide +kernel
theorem dX2_init_92 : decode cX2_init 92 = .ok (.return_, 1) := by decide +kernel
theorem dX2_copy_0 : decode cX2_copy 0 = .ok (.iconst 0, 1) := by decide +kernel
theorem dX2_copy_1 : decode cX2_copy 1 = .ok (.istore_n 2, 1) := by decide +kernel
theorem dX2_copy_2 : decode cX2_copy 2 = .ok (.iload_n 2, 1) := by decide +kernel
theorem dX2_copy_3 : decode cX2_copy 3 = .ok (.bipush 79, 2) := by decide +kernel
theorem dX2_copy_5 : decode cX2_copy 5 = .ok (.if_icmp .ge 15, 3) := by decide +kernel
theorem dX2_copy_8 : decode cX2_copy 8 = .ok (.aload_n 1, 1) := by decide +kernel
theorem dX2_copy_9 : decode cX2_copy 9 = .ok (.iload_n 2, 1) := by decide +kernel
theorem dX2_copy_10 : decode cX2_copy 10 = .ok (.aload_n 0, 1) := by decide +kernel
theorem dX2_copy_11 : decode cX2_copy 11 = .ok (.iload_n 2, 1) := by decide +kernel
theorem dX2_copy_12 : decode cX2_copy 12 = .ok (.iaload, 1) := by decide +kernel
theorem dX2_copy_13 : decode cX2_copy 13 = .ok (.iastore, 1) := by decide +kernel
theorem dX2_copy_14 : decode cX2_copy 14 = .ok (.iinc 2 1, 3) := by decide +kernel
theorem dX2_copy_17 : decode cX2_copy 17 = .ok (.goto (-15), 3) := by decide +kernel
theorem dX2_copy_20 : decode cX2_copy 20 = .ok (.return_, 1) := by decide +kernel
theorem dX2_clear_0 : decode cX2_clear 0 = .ok (.iconst 0, 1) := by decide +kernel
theorem dX2_clear_1 : decode cX2_clear 1 = .ok (.istore_n 1, 1) := by decide +kernel
theorem dX2_clear_2 : decode cX2_clear 2 = .ok (.iload_n 1, 1) := by decide +kernel
theorem dX2_clear_3 : decode cX2_clear 3 = .ok (.bipush 79, 2) := by decide +kernel
theorem dX2_clear_5 : decode cX2_clear 5 = .ok (.if_icmp .ge 13, 3) := by decide +kernel
theorem dX2_clear_8 : decode cX2_clear 8 = .ok (.aload_n 0, 1) := by decide +kernel
theorem dX2_clear_9 : decode cX2_clear 9 = .ok (.iload_n 1, 1) := by decide +kernel
theorem dX2_clear_10 : decode cX2_clear 10 = .ok (.iconst 0, 1) := by decide +kernel
theorem dX2_clear_11 : decode cX2_clear 11 = .ok (.iastore, 1) := by decide +kernel
theorem dX2_clear_12 : decode cX2_clear 12 = .ok (.iinc 1 1, 3) := by decide +kernel
theorem dX2_clear_15 : decode cX2_clear 15 = .ok (.goto (-13), 3) := by decide +kernel
theorem dX2_clear_18 : decode cX2_clear 18 = .ok (.aload_n 0, 1) := by decide +kernel
theorem dX2_clear_19 : decode cX2_clear 19 = .ok (.bipush 66, 2) := by decide +kernel
theorem dX2_clear_21 : decode cX2_clear 21 = .ok (.iconst 1, 1) := by decide +kernel
theorem dX2_clear_22 : decode cX2_clear 22 = .ok (.iastore, 1) := by decide +kernel
theorem dX2_clear_23 : decode cX2_clear 23 = .ok (.aload_n 0, 1) := by decide +kernel
theorem dX2_clear_24 : decode cX2_clear 24 = .ok (.bipush 67, 2) := by decide +kernel
theorem dX2_clear_26 : decode cX2_clear 26 = .ok (.iconst 1, 1) := by decide +kernel
theorem dX2_clear_27 : decode cX2_clear 27 = .ok (.iastore, 1) := by decide +kernel
theorem dX2_clear_28 : decode cX2_clear 28 = .ok (.aload_n 0, 1) := by decide +kernel
theorem dX2_clear_29 : decode cX2_clear 29 = .ok (.bipush 68, 2) := by decide +kernel
theorem dX2_clear_31 : decode cX2_clear 31 = .ok (.iconst 1, 1) := by decide +kernel
theorem dX2_clear_32 : decode cX2_clear 32 = .ok (.iastore, 1) := by decide +kernel
theorem dX2_clear_33 : decode cX2_clear 33 = .ok (.return_, 1) := by decide +kernel
theorem dX2_in_0 : decode cX2_in 0 = .ok (.lload_n 0, 1) := by decide +kernel
theorem dX2_in_1 : decode cX2_in 1 = .ok (.lload_n 2, 1) := by decide +kernel
theorem dX2_in_2 : decode cX2_in 2 = .ok (.lcmp, 1) := by decide +kernel
theorem dX2_in_3 : decode cX2_in 3 = .ok (.ifCond .lt 14, 3) := by decide +kernel
theorem dX2_in_6 : decode cX2_in 6 = .ok (.lload_n 0, 1) := by decide +kernel
theorem dX2_in_7 : decode cX2_in 7 = .ok (.lload 4, 2) := by decide +kernel
theorem dX2_in_9 : decode cX2_in 9 = .ok (.lcmp, 1) := by decide +kernel
theorem dX2_in_10 : decode cX2_in 10 = .ok (.ifCond .gt 7, 3) := by decide +kernel
theorem dX2_in_13 : decode cX2_in 13 = .ok (.iconst 1, 1) := by decide +kernel
theorem dX2_in_14 : decode cX2_in 14 = .ok (.goto 4, 3) := by decide +kernel
theorem dX2_in_17 : decode cX2_in 17 = .ok (.iconst 0, 1) := by decide +kernel
theorem dX2_in_18 : decode cX2_in 18 = .ok (.ireturn, 1) := by decide +kernel
theorem dX2_has_0 : decode cX2_has 0 = .ok (.iload_n 0, 1) := by decide +kernel
theorem dX2_has_1 : decode cX2_has 1 = .ok (.iload_n 1, 1) := by decide +kernel
theorem dX2_has_2 : decode cX2_has 2 = .ok (.ishr, 1) := by decide +kernel
theorem dX2_has_3 : decode cX2_has 3 = .ok (.iconst 1, 1) := by decide +kernel
theorem dX2_has_4 : decode cX2_has 4 = .ok (.iand, 1) := by decide +kernel
theorem dX2_has_5 : decode cX2_has 5 = .ok (.iconst 1, 1) := by decide +kernel
theorem dX2_has_6 : decode cX2_has 6 = .ok (.if_icmp .ne 7, 3) := by decide +kernel
theorem dX2_has_9 : decode cX2_has 9 = .ok (.iconst 1, 1) := by decide +kernel
theorem dX2_has_10 : decode cX2_has 10 = .ok (.goto 4, 3) := by decide +kernel
theorem dX2_has_13 : decode cX2_has 13 = .ok (.iconst 0, 1) := by decide +kernel
theorem dX2_has_14 : decode cX2_has 14 = .ok (.ireturn, 1) := by decide +kernel
theorem dX2_ones_0 : decode cX2_ones 0 = .ok (.iconst 0, 1) := by decide +kernel
theorem dX2_ones_1 : decode cX2_ones 1 = .ok (.istore_n 1, 1) := by decide +kernel
theorem dX2_ones_2 : decode cX2_ones 2 = .ok (.iconst 0, 1) := by decide +kernel
theorem dX2_ones_3 : decode cX2_ones 3 = .ok (.istore_n 2, 1) := by decide +kernel
theorem dX2_ones_4 : decode cX2_ones 4 = .ok (.iload_n 2, 1) := by decide +kernel
theorem dX2_ones_5 : decode cX2_ones 5 = .ok (.bipush 6, 2) := by decide +kernel
theorem dX2_ones_7 : decode cX2_ones 7 = .ok (.if_icmp .ge 17, 3) := by decide +kernel
theorem dX2_ones_10 : decode cX2_ones 10 = .ok (.iload_n 1, 1) := by decide +kernel
theorem dX2_ones_11 : decode cX2_ones 11 = .ok (.iload_n 0, 1) := by decide +kernel
theorem dX2_ones_12 : decode cX2_ones 12 = .ok (.iload_n 2, 1) := by decide +kernel
theorem dX2_ones_13 : decode cX2_ones 13 = .ok (.ishr, 1) := by decide +kernel
theorem dX2_ones_14 : decode cX2_ones 14 = .ok (.iconst 1, 1) := by decide +kernel
theorem dX2_ones_15 : decode cX2_ones 15 = .ok (.iand, 1) := by decide +kernel
theorem dX2_ones_16 : decode cX2_ones 16 = .ok (.iadd, 1) := by decide +kernel
theorem dX2_ones_17 : decode cX2_ones 17 = .ok (.istore_n 1, 1) := by decide +kernel
theorem dX2_ones_18 : decode cX2_ones 18 = .ok (.iinc 2 1, 3) := by decide +kernel
theorem dX2_ones_21 : decode cX2_ones 21 = .ok (.goto (-17), 3) := by decide +kernel
theorem dX2_ones_24 : decode cX2_ones 24 = .ok (.iload_n 1, 1) := by decide +kernel
theorem dX2_ones_25 : decode cX2_ones 25 = .ok (.ireturn, 1) := by decide +kernel
theorem dX2_power_0 : decode cX2_power 0 = .ok (.iconst 1, 1) := by decide +kernel
theorem dX2_power_1 : decode cX2_power 1 = .ok (.istore_n 2, 1) := by decide +kernel
theorem dX2_power_2 : decode cX2_power 2 = .ok (.iconst 0, 1) := by decide +kernel
theorem dX2_power_3 : decode cX2_power 3 = .ok (.istore_n 3, 1) := by decide +kernel
theorem dX2_power_4 : decode cX2_power 4 = .ok (.iload_n 3, 1) := by decide +kernel
theorem dX2_power_5 : decode cX2_power 5 = .ok (.iload_n 1, 1) := by decide +kernel
theorem dX2_power_6 : decode cX2_power 6 = .ok (.if_icmp .ge 13, 3) := by decide +kernel
theorem dX2_power_9 : decode cX2_power 9 = .ok (.iload_n 2, 1) := by decide +kernel
theorem dX2_power_10 : decode cX2_power 10 = .ok (.iload_n 0, 1) := by decide +kernel
theorem dX2_power_11 : decode cX2_power 11 = .ok (.imul, 1) := by decide +kernel
theorem dX2_power_12 : decode cX2_power 12 = .ok (.istore_n 2, 1) := by decide +kernel
theorem dX2_power_13 : decode cX2_power 13 = .ok (.iinc 3 1, 3) := by decide +kernel
theorem dX2_power_16 : decode cX2_power 16 = .ok (.goto (-12), 3) := by decide +kernel
theorem dX2_power_19 : decode cX2_power 19 = .ok (.iload_n 2, 1) := by decide +kernel
theorem dX2_power_20 : decode cX2_power 20 = .ok (.ireturn, 1) := by decide +kernel
theorem dX2_factorial_0 : decode cX2_factorial 0 = .ok (.iconst 1, 1) := by decide +kernel
theorem dX2_factorial_1 : decode cX2_factorial 1 = .ok (.istore_n 1, 1) := by decide +kernel
theorem dX2_factorial_2 : decode cX2_factorial 2 = .ok (.iconst 2, 1) := by decide +kernel
theorem dX2_factorial_3 : decode cX2_factorial 3 = .ok (.istore_n 2, 1) := by decide +kernel
theorem dX2_factorial_4 : decode cX2_factorial 4 = .ok (.iload_n 2, 1) := by decide +kernel
theorem dX2_factorial_5 : decode cX2_factorial 5 = .ok (.iload_n 0, 1) := by decide +kernel
theorem dX2_factorial_6 : decode cX2_factorial 6 = .ok (.if_icmp .gt 13, 3) := by decide +kernel
theorem dX2_factorial_9 : decode cX2_factorial 9 = .ok (.iload_n 1, 1) := by decide +kernel
theorem dX2_factorial_10 : decode cX2_factorial 10 = .ok (.iload_n 2, 1) := by decide +kernel
theorem dX2_factorial_11 : decode cX2_factorial 11 = .ok (.imul, 1) := by decide +kernel
theorem dX2_factorial_12 : decode cX2_factorial 12 = .ok (.istore_n 1, 1) := by decide +kernel
theorem dX2_factorial_13 : decode cX2_factorial 13 = .ok (.iinc 2 1, 3) := by decide +kernel
theorem dX2_factorial_16 : decode cX2_factorial 16 = .ok (.goto (-12), 3) := by decide +kernel
theorem dX2_factorial_19 : decode cX2_factorial 19 = .ok (.iload_n 1, 1) := by decide +kernel
theorem dX2_factorial_20 : decode cX2_factorial 20 = .ok (.ireturn, 1) := by decide +kernel
theorem dX2_fraction_0 : decode cX2_fraction 0 = .ok (.iload_n 0, 1) := by decide +kernel
theorem dX2_fraction_1 : decode cX2_fraction 1 = .ok (.ifCond .ge 8, 3) := by decide +kernel
theorem dX2_fraction_4 : decode cX2_fraction 4 = .ok (.iload_n 0, 1) := by decide +kernel
theorem dX2_fraction_5 : decode cX2_fraction 5 = .ok (.ineg, 1) := by decide +kernel
theorem dX2_fraction_6 : decode cX2_fraction 6 = .ok (.goto 4, 3) := by decide +kernel
theorem dX2_fraction_9 : decode cX2_fraction 9 = .ok (.iload_n 0, 1) := by decide +kernel
theorem dX2_fraction_10 : decode cX2_fraction 10 = .ok (.istore_n 3, 1) := by decide +kernel
theorem dX2_fraction_11 : decode cX2_fraction 11 = .ok (.iload_n 1, 1) := by decide +kernel
theorem dX2_fraction_12 : decode cX2_fraction 12 = .ok (.istore 4, 2) := by decide +kernel
theorem dX2_fraction_14 : decode cX2_fraction 14 = .ok (.iload 4, 2) := by decide +kernel
theorem dX2_fraction_16 : decode cX2_fraction 16 = .ok (.ifCond .eq 19, 3) := by decide +kernel
theorem dX2_fraction_19 : decode cX2_fraction 19 = .ok (.iload_n 3, 1) := by decide +kernel
theorem dX2_fraction_20 : decode cX2_fraction 20 = .ok (.iload 4, 2) := by decide +kernel
theorem dX2_fraction_22 : decode cX2_fraction 22 = .ok (.irem, 1) := by decide +kernel
theorem dX2_fraction_23 : decode cX2_fraction 23 = .ok (.istore 5, 2) := by decide +kernel
theorem dX2_fraction_25 : decode cX2_fraction 25 = .ok (.iload 4, 2) := by decide +kernel
theorem dX2_fraction_27 : decode cX2_fraction 27 = .ok (.istore_n 3, 1) := by decide +kernel
theorem dX2_fraction_28 : decode cX2_fraction 28 = .ok (.iload 5, 2) := by decide +kernel
theorem dX2_fraction_30 : decode cX2_fraction 30 = .ok (.istore 4, 2) := by decide +kernel
theorem dX2_fraction_32 : decode cX2_fraction 32 = .ok (.goto (-18), 3) := by decide +kernel
theorem dX2_fraction_35 : decode cX2_fraction 35 = .ok (.iload_n 2, 1) := by decide +kernel
theorem dX2_fraction_36 : decode cX2_fraction 36 = .ok (.ifCond .eq 9, 3) := by decide +kernel
theorem dX2_fraction_39 : decode cX2_fraction 39 = .ok (.iload_n 0, 1) := by decide +kernel
theorem dX2_fraction_40 : decode cX2_fraction 40 = .ok (.iload_n 3, 1) := by decide +kernel
theorem dX2_fraction_41 : decode cX2_fraction 41 = .ok (.idiv, 1) := by decide +kernel
theorem dX2_fraction_42 : decode cX2_fraction 42 = .ok (.goto 6, 3) := by decide +kernel
theorem dX2_fraction_45 : decode cX2_fraction 45 = .ok (.iload_n 1, 1) := by decide +kernel
theorem dX2_fraction_46 : decode cX2_fraction 46 = .ok (.iload_n 3, 1) := by decide +kernel
theorem dX2_fraction_47 : decode cX2_fraction 47 = .ok (.idiv, 1) := by decide +kernel
theorem dX2_fraction_48 : decode cX2_fraction 48 = .ok (.ireturn, 1) := by decide +kernel
set_option maxRecDepth 20000 in
theorem ggX2_isMember_X2_in : GoodIn wsX2_isMember wsX2_in := goodIn_r _ [5] (by decide +kernel) (by decide +kernel)
set_option maxRecDepth 20000 in
theorem gX2_isMember_X2_in : GoodIn wsX2_isMember (va_wsS RX2 47 yX2_in wsX2_in) := goodIn_app (goodIn_of _ (by decide +kernel)) ggX2_isMember_X2_in
theorem dX2_isMember_0 : decode cX2_isMember 0 = .ok (.iload_n 0, 1) := by decide +kernel
theorem dX2_isMember_1 : decode cX2_isMember 1 = .ok (.i2l, 1) := by decide +kernel
theorem dX2_isMember_2 : decode cX2_isMember 2 = .ok (.lconst 0, 1) := by decide +kernel
theorem dX2_isMember_3 : decode cX2_isMember 3 = .ok (.ldc2_w 45, 3) := by decide +kernel
theorem dX2_isMember_6 : decode cX2_isMember 6 = .ok (.invokestatic 47, 3) := by decide +kernel
theorem dX2_isMember_9 : decode cX2_isMember 9 = .ok (.ireturn, 1) := by decide +kernel
set_option maxRecDepth 20000 in
theorem ggX2_countOf_X2_ones : GoodIn wsX2_countOf wsX2_ones := goodIn_r _ [4] (by decide +kernel) (by decide +kernel)
set_option maxRecDepth 20000 in
theorem gX2_countOf_X2_ones : GoodIn wsX2_countOf (va_wsS RX2 51 yX2_ones wsX2_ones) := goodIn_app (goodIn_of _ (by decide +kernel)) ggX2_countOf_X2_ones
theorem dX2_countOf_0 : decode cX2_countOf 0 = .ok (.aload_n 0, 1) := by decide +kernel
theorem dX2_countOf_1 : decode cX2_countOf 1 = .ok (.iload_n 1, 1) := by decide +kernel
theorem dX2_countOf_2 : decode cX2_countOf 2 = .ok (.iaload, 1) := by decide +kernel
theorem dX2_countOf_3 : decode cX2_countOf 3 = .ok (.ifCond .ne 7, 3) := by decide +kernel
theorem dX2_countOf_6 : decode cX2_countOf 6 = .ok (.iconst 0, 1) := by decide +kernel
theorem dX2_countOf_7 : decode cX2_countOf 7 = .ok (.goto 14, 3) := by decide +kernel
theorem dX2_countOf_10 : decode cX2_countOf 10 = .ok (.iconst 1, 1) := by decide +kernel
theorem dX2_countOf_11 : decode cX2_countOf 11 = .ok (.aload_n 0, 1) := by decide +kernel
theorem dX2_countOf_12 : decode cX2_countOf 12 = .ok (.bipush 6, 2) := by decide +kernel
theorem dX2_countOf_14 : decode cX2_countOf 14 = .ok (.iload_n 1, 1) := by decide +kernel
theorem dX2_countOf_15 : decode cX2_countOf 15 = .ok (.iadd, 1) := by decide +kernel
theorem dX2_countOf_16 : decode cX2_countOf 16 = .ok (.iaload, 1) := by decide +kernel
theorem dX2_countOf_17 : decode cX2_countOf 17 = .ok (.invokestatic 51, 3) := by decide +kernel
theorem dX2_countOf_20 : decode cX2_countOf 20 = .ok (.iadd, 1) := by decide +kernel
theorem dX2_countOf_21 : decode cX2_countOf 21 = .ok (.ireturn, 1) := by decide +kernel
theorem dX2_spanOf_0 : decode cX2_spanOf 0 = .ok (.iload_n 1, 1) := by decide +kernel
theorem dX2_spanOf_1 : decode cX2_spanOf 1 = .ok (.aload_n 0, 1) := by decide +kernel
theorem dX2_spanOf_2 : decode cX2_spanOf 2 = .ok (.bipush 66, 2) := by decide +kernel
theorem dX2_spanOf_4 : decode cX2_spanOf 4 = .ok (.iaload, 1) := by decide +kernel
theorem dX2_spanOf_5 : decode cX2_spanOf 5 = .ok (.imul, 1) := by decide +kernel
theorem dX2_spanOf_6 : decode cX2_spanOf 6 = .ok (.aload_n 0, 1) := by decide +kernel
theorem dX2_spanOf_7 : decode cX2_spanOf 7 = .ok (.bipush 67, 2) := by decide +kernel
theorem dX2_spanOf_9 : decode cX2_spanOf 9 = .ok (.iaload, 1) := by decide +kernel
theorem dX2_spanOf_10 : decode cX2_spanOf 10 = .ok (.iadd, 1) := by decide +kernel
theorem dX2_spanOf_11 : decode cX2_spanOf 11 = .ok (.iconst 1, 1) := by decide +kernel
theorem dX2_spanOf_12 : decode cX2_spanOf 12 = .ok (.isub, 1) := by decide +kernel
theorem dX2_spanOf_13 : decode cX2_spanOf 13 = .ok (.aload_n 0, 1) := by decide +kernel
theorem dX2_spanOf_14 : decode cX2_spanOf 14 = .ok (.bipush 67, 2) := by decide +kernel
theorem dX2_spanOf_16 : decode cX2_spanOf 16 = .ok (.iaload, 1) := by decide +kernel
theorem dX2_spanOf_17 : decode cX2_spanOf 17 = .ok (.idiv, 1) := by decide +kernel
theorem dX2_spanOf_18 : decode cX2_spanOf 18 = .ok (.istore_n 2, 1) := by decide +kernel
theorem dX2_spanOf_19 : decode cX2_spanOf 19 = .ok (.iload_n 2, 1) := by decide +kernel
theorem dX2_spanOf_20 : decode cX2_spanOf 20 = .ok (.aload_n 0, 1) := by decide +kernel
theorem dX2_spanOf_21 : decode cX2_spanOf 21 = .ok (.bipush 68, 2) := by decide +kernel
theorem dX2_spanOf_23 : decode cX2_spanOf 23 = .ok (.iaload, 1) := by decide +kernel
theorem dX2_spanOf_24 : decode cX2_spanOf 24 = .ok (.if_icmp .le 7, 3) := by decide +kernel
theorem dX2_spanOf_27 : decode cX2_spanOf 27 = .ok (.iload_n 2, 1) := by decide +kernel
theorem dX2_spanOf_28 : decode cX2_spanOf 28 = .ok (.goto 7, 3) := by decide +kernel
theorem dX2_spanOf_31 : decode cX2_spanOf 31 = .ok (.aload_n 0, 1) := by decide +kernel
theorem dX2_spanOf_32 : decode cX2_spanOf 32 = .ok (.bipush 68, 2) := by decide +kernel
theorem dX2_spanOf_34 : decode cX2_spanOf 34 = .ok (.iaload, 1) := by decide +kernel
theorem dX2_spanOf_35 : decode cX2_spanOf 35 = .ok (.ireturn, 1) := by decide +kernel
theorem dX2_draw_0 : decode cX2_draw 0 = .ok (.aload_n 0, 1) := by decide +kernel
theorem dX2_draw_1 : decode cX2_draw 1 = .ok (.bipush 69, 2) := by decide +kernel
theorem dX2_draw_3 : decode cX2_draw 3 = .ok (.sipush 25173, 3) := by decide +kernel
theorem dX2_draw_6 : decode cX2_draw 6 = .ok (.aload_n 0, 1) := by decide +kernel
theorem dX2_draw_7 : decode cX2_draw 7 = .ok (.bipush 69, 2) := by decide +kernel
theorem dX2_draw_9 : decode cX2_draw 9 = .ok (.iaload, 1) := by decide +kernel
theorem dX2_draw_10 : decode cX2_draw 10 = .ok (.imul, 1) := by decide +kernel
theorem dX2_draw_11 : decode cX2_draw 11 = .ok (.sipush 13849, 3) := by decide +kernel
theorem dX2_draw_14 : decode cX2_draw 14 = .ok (.iadd, 1) := by decide +kernel
theorem dX2_draw_15 : decode cX2_draw 15 = .ok (.ldc 55, 2) := by decide +kernel
theorem dX2_draw_17 : decode cX2_draw 17 = .ok (.irem, 1) := by decide +kernel
theorem dX2_draw_18 : decode cX2_draw 18 = .ok (.iastore, 1) := by decide +kernel
theorem dX2_draw_19 : decode cX2_draw 19 = .ok (.aload_n 0, 1) := by decide +kernel
theorem dX2_draw_20 : decode cX2_draw 20 = .ok (.bipush 69, 2) := by decide +kernel
theorem dX2_draw_22 : decode cX2_draw 22 = .ok (.iaload, 1) := by decide +kernel
theorem dX2_draw_23 : decode cX2_draw 23 = .ok (.bipush 16, 2) := by decide +kernel
theorem dX2_draw_25 : decode cX2_draw 25 = .ok (.idiv, 1) := by decide +kernel
theorem dX2_draw_26 : decode cX2_draw 26 = .ok (.iconst 5, 1) := by decide +kernel
theorem dX2_draw_27 : decode cX2_draw 27 = .ok (.irem, 1) := by decide +kernel
theorem dX2_draw_28 : decode cX2_draw 28 = .ok (.ireturn, 1) := by decide +kernel
set_option maxRecDepth 20000 in
theorem ggX2_waitOf_X2_spanOf : GoodIn wsX2_waitOf wsX2_spanOf := goodIn_r _ [4] (by decide +kernel) (by decide +kernel)
set_option maxRecDepth 20000 in
theorem gX2_waitOf_X2_spanOf : GoodIn wsX2_waitOf (va_wsS RX2 56 yX2_spanOf wsX2_spanOf) := goodIn_app (goodIn_of _ (by decide +kernel)) ggX2_waitOf_X2_spanOf
set_option maxRecDepth 20000 in
theorem ggX2_waitOf_X2_draw : GoodIn wsX2_waitOf wsX2_draw := goodIn_r _ [7, 8] (by decide +kernel) (by decide +kernel)
set_option maxRecDepth 20000 in
theorem gX2_waitOf_X2_draw : GoodIn wsX2_waitOf (va_wsS RX2 60 yX2_draw wsX2_draw) := goodIn_app (goodIn_of _ (by decide +kernel)) ggX2_waitOf_X2_draw
theorem dX2_waitOf_0 : decode cX2_waitOf 0 = .ok (.aload_n 0, 1) := by decide +kernel
theorem dX2_waitOf_1 : decode cX2_waitOf 1 = .ok (.iload_n 1, 1) := by decide +kernel
theorem dX2_waitOf_2 : decode cX2_waitOf 2 = .ok (.invokestatic 56, 3) := by decide +kernel
theorem dX2_waitOf_5 : decode cX2_waitOf 5 = .ok (.istore_n 2, 1) := by decide +kernel
theorem dX2_waitOf_6 : decode cX2_waitOf 6 = .ok (.iload_n 2, 1) := by decide +kernel
theorem dX2_waitOf_7 : decode cX2_waitOf 7 = .ok (.iconst 2, 1) := by decide +kernel
theorem dX2_waitOf_8 : decode cX2_waitOf 8 = .ok (.aload_n 0, 1) := by decide +kernel
theorem dX2_waitOf_9 : decode cX2_waitOf 9 = .ok (.invokestatic 60, 3) := by decide +kernel
theorem dX2_waitOf_12 : decode cX2_waitOf 12 = .ok (.iadd, 1) := by decide +kernel
theorem dX2_waitOf_13 : decode cX2_waitOf 13 = .ok (.imul, 1) := by decide +kernel
theorem dX2_waitOf_14 : decode cX2_waitOf 14 = .ok (.iconst 4, 1) := by decide +kernel
theorem dX2_waitOf_15 : decode cX2_waitOf 15 = .ok (.idiv, 1) := by decide +kernel
theorem dX2_waitOf_16 : decode cX2_waitOf 16 = .ok (.istore_n 3, 1) := by decide +kernel
theorem dX2_waitOf_17 : decode cX2_waitOf 17 = .ok (.iload_n 3, 1) := by decide +kernel
theorem dX2_waitOf_18 : decode cX2_waitOf 18 = .ok (.iconst 1, 1) := by decide +kernel
theorem dX2_waitOf_19 : decode cX2_waitOf 19 = .ok (.if_icmp .le 7, 3) := by decide +kernel
theorem dX2_waitOf_22 : decode cX2_waitOf 22 = .ok (.iload_n 3, 1) := by decide +kernel
theorem dX2_waitOf_23 : decode cX2_waitOf 23 = .ok (.goto 4, 3) := by decide +kernel
theorem dX2_waitOf_26 : decode cX2_waitOf 26 = .ok (.iconst 1, 1) := by decide +kernel
theorem dX2_waitOf_27 : decode cX2_waitOf 27 = .ok (.ireturn, 1) := by decide +kernel
theorem dX2_lettersOf_0 : decode cX2_lettersOf 0 = .ok (.aload_n 0, 1) := by decide +kernel
theorem dX2_lettersOf_1 : decode cX2_lettersOf 1 = .ok (.bipush 71, 2) := by decide +kernel
theorem dX2_lettersOf_3 : decode cX2_lettersOf 3 = .ok (.iaload, 1) := by decide +kernel
theorem dX2_lettersOf_4 : decode cX2_lettersOf 4 = .ok (.aload_n 0, 1) := by decide +kernel
theorem dX2_lettersOf_5 : decode cX2_lettersOf 5 = .ok (.bipush 72, 2) := by decide +kernel
theorem dX2_lettersOf_7 : decode cX2_lettersOf 7 = .ok (.iaload, 1) := by decide +kernel
theorem dX2_lettersOf_8 : decode cX2_lettersOf 8 = .ok (.iadd, 1) := by decide +kernel
theorem dX2_lettersOf_9 : decode cX2_lettersOf 9 = .ok (.ireturn, 1) := by decide +kernel
set_option maxRecDepth 20000 in
theorem ggX2_reaches_X2_has : GoodIn wsX2_reaches wsX2_has := goodIn_r _ [4] (by decide +kernel) (by decide +kernel)
set_option maxRecDepth 20000 in
theorem gX2_reaches_X2_has : GoodIn wsX2_reaches (va_wsS RX2 64 yX2_has wsX2_has) := goodIn_app (goodIn_of _ (by decide +kernel)) ggX2_reaches_X2_has
theorem dX2_reaches_0 : decode cX2_reaches 0 = .ok (.iload_n 2, 1) := by decide +kernel
theorem dX2_reaches_1 : decode cX2_reaches 1 = .ok (.iload_n 1, 1) := by decide +kernel
theorem dX2_reaches_2 : decode cX2_reaches 2 = .ok (.if_icmp .eq 26, 3) := by decide +kernel
theorem dX2_reaches_5 : decode cX2_reaches 5 = .ok (.aload_n 0, 1) := by decide +kernel
theorem dX2_reaches_6 : decode cX2_reaches 6 = .ok (.iload_n 2, 1) := by decide +kernel
theorem dX2_reaches_7 : decode cX2_reaches 7 = .ok (.iaload, 1) := by decide +kernel
theorem dX2_reaches_8 : decode cX2_reaches 8 = .ok (.ifCond .eq 20, 3) := by decide +kernel
theorem dX2_reaches_11 : decode cX2_reaches 11 = .ok (.aload_n 0, 1) := by decide +kernel
theorem dX2_reaches_12 : decode cX2_reaches 12 = .ok (.bipush 73, 2) := by decide +kernel
theorem dX2_reaches_14 : decode cX2_reaches 14 = .ok (.iload_n 1, 1) := by decide +kernel
theorem dX2_reaches_15 : decode cX2_reaches 15 = .ok (.iadd, 1) := by decide +kernel
theorem dX2_reaches_16 : decode cX2_reaches 16 = .ok (.iaload, 1) := by decide +kernel
theorem dX2_reaches_17 : decode cX2_reaches 17 = .ok (.iload_n 2, 1) := by decide +kernel
theorem dX2_reaches_18 : decode cX2_reaches 18 = .ok (.invokestatic 64, 3) := by decide +kernel
theorem dX2_reaches_21 : decode cX2_reaches 21 = .ok (.ifCond .ne 7, 3) := by decide +kernel
theorem dX2_reaches_24 : decode cX2_reaches 24 = .ok (.iconst 1, 1) := by decide +kernel
theorem dX2_reaches_25 : decode cX2_reaches 25 = .ok (.goto 4, 3) := by decide +kernel
theorem dX2_reaches_28 : decode cX2_reaches 28 = .ok (.iconst 0, 1) := by decide +kernel
theorem dX2_reaches_29 : decode cX2_reaches 29 = .ok (.ireturn, 1) := by decide +kernel
set_option maxRecDepth 20000 in
theorem ggX2_report_X2_reaches : GoodIn wsX2_report wsX2_reaches := goodIn_r _ [4, 5, 6, 3, 7] (by decide +kernel) (by decide +kernel)
set_option maxRecDepth 20000 in
theorem gX2_report_X2_reaches : GoodIn wsX2_report (va_wsS RX2 68 yX2_reaches wsX2_reaches) := goodIn_app (goodIn_of _ (by decide +kernel)) ggX2_report_X2_reaches
theorem dX2_report_0 : decode cX2_report 0 = .ok (.aload_n 0, 1) := by decide +kernel
theorem dX2_report_1 : decode cX2_report 1 = .ok (.bipush 71, 2) := by decide +kernel
theorem dX2_report_3 : decode cX2_report 3 = .ok (.dup2, 1) := by decide +kernel
theorem dX2_report_4 : decode cX2_report 4 = .ok (.iaload, 1) := by decide +kernel
theorem dX2_report_5 : decode cX2_report 5 = .ok (.iconst 1, 1) := by decide +kernel
theorem dX2_report_6 : decode cX2_report 6 = .ok (.iadd, 1) := by decide +kernel
theorem dX2_report_7 : decode cX2_report 7 = .ok (.iastore, 1) := by decide +kernel
theorem dX2_report_8 : decode cX2_report 8 = .ok (.iconst 0, 1) := by decide +kernel
theorem dX2_report_9 : decode cX2_report 9 = .ok (.istore_n 2, 1) := by decide +kernel
theorem dX2_report_10 : decode cX2_report 10 = .ok (.iload_n 2, 1) := by decide +kernel
theorem dX2_report_11 : decode cX2_report 11 = .ok (.bipush 6, 2) := by decide +kernel
theorem dX2_report_13 : decode cX2_report 13 = .ok (.if_icmp .ge 45, 3) := by decide +kernel
theorem dX2_report_16 : decode cX2_report 16 = .ok (.aload_n 0, 1) := by decide +kernel
theorem dX2_report_17 : decode cX2_report 17 = .ok (.iload_n 1, 1) := by decide +kernel
theorem dX2_report_18 : decode cX2_report 18 = .ok (.iload_n 2, 1) := by decide +kernel
theorem dX2_report_19 : decode cX2_report 19 = .ok (.invokestatic 68, 3) := by decide +kernel
theorem dX2_report_22 : decode cX2_report 22 = .ok (.ifCond .eq 30, 3) := by decide +kernel
theorem dX2_report_25 : decode cX2_report 25 = .ok (.aload_n 0, 1) := by decide +kernel
theorem dX2_report_26 : decode cX2_report 26 = .ok (.bipush 6, 2) := by decide +kernel
theorem dX2_report_28 : decode cX2_report 28 = .ok (.iload_n 2, 1) := by decide +kernel
theorem dX2_report_29 : decode cX2_report 29 = .ok (.iadd, 1) := by decide +kernel
theorem dX2_report_30 : decode cX2_report 30 = .ok (.dup2, 1) := by decide +kernel
theorem dX2_report_31 : decode cX2_report 31 = .ok (.iaload, 1) := by decide +kernel
theorem dX2_report_32 : decode cX2_report 32 = .ok (.iconst 1, 1) := by decide +kernel
theorem dX2_report_33 : decode cX2_report 33 = .ok (.iload_n 1, 1) := by decide +kernel
theorem dX2_report_34 : decode cX2_report 34 = .ok (.ishl, 1) := by decide +kernel
theorem dX2_report_35 : decode cX2_report 35 = .ok (.ior, 1) := by decide +kernel
theorem dX2_report_36 : decode cX2_report 36 = .ok (.iastore, 1) := by decide +kernel
theorem dX2_report_37 : decode cX2_report 37 = .ok (.aload_n 0, 1) := by decide +kernel
theorem dX2_report_38 : decode cX2_report 38 = .ok (.bipush 12, 2) := by decide +kernel
theorem dX2_report_40 : decode cX2_report 40 = .ok (.bipush 6, 2) := by decide +kernel
theorem dX2_report_42 : decode cX2_report 42 = .ok (.iload_n 2, 1) := by decide +kernel
theorem dX2_report_43 : decode cX2_report 43 = .ok (.imul, 1) := by decide +kernel
theorem dX2_report_44 : decode cX2_report 44 = .ok (.iadd, 1) := by decide +kernel
theorem dX2_report_45 : decode cX2_report 45 = .ok (.iload_n 1, 1) := by decide +kernel
theorem dX2_report_46 : decode cX2_report 46 = .ok (.iadd, 1) := by decide +kernel
theorem dX2_report_47 : decode cX2_report 47 = .ok (.aload_n 0, 1) := by decide +kernel
theorem dX2_report_48 : decode cX2_report 48 = .ok (.bipush 70, 2) := by decide +kernel
theorem dX2_report_50 : decode cX2_report 50 = .ok (.iaload, 1) := by decide +kernel
theorem dX2_report_51 : decode cX2_report 51 = .ok (.iastore, 1) := by decide +kernel
theorem dX2_report_52 : decode cX2_report 52 = .ok (.iinc 2 1, 3) := by decide +kernel
theorem dX2_report_55 : decode cX2_report 55 = .ok (.goto (-45), 3) := by decide +kernel
theorem dX2_report_58 : decode cX2_report 58 = .ok (.return_, 1) := by decide +kernel
theorem dX2_goAway_0 : decode cX2_goAway 0 = .ok (.aload_n 0, 1) := by decide +kernel
theorem dX2_goAway_1 : decode cX2_goAway 1 = .ok (.iload_n 1, 1) := by decide +kernel
theorem dX2_goAway_2 : decode cX2_goAway 2 = .ok (.iconst 0, 1) := by decide +kernel
theorem dX2_goAway_3 : decode cX2_goAway 3 = .ok (.iastore, 1) := by decide +kernel
theorem dX2_goAway_4 : decode cX2_goAway 4 = .ok (.aload_n 0, 1) := by decide +kernel
theorem dX2_goAway_5 : decode cX2_goAway 5 = .ok (.bipush 6, 2) := by decide +kernel
theorem dX2_goAway_7 : decode cX2_goAway 7 = .ok (.iload_n 1, 1) := by decide +kernel
theorem dX2_goAway_8 : decode cX2_goAway 8 = .ok (.iadd, 1) := by decide +kernel
theorem dX2_goAway_9 : decode cX2_goAway 9 = .ok (.iconst 0, 1) := by decide +kernel
theorem dX2_goAway_10 : decode cX2_goAway 10 = .ok (.iastore, 1) := by decide +kernel
theorem dX2_goAway_11 : decode cX2_goAway 11 = .ok (.aload_n 0, 1) := by decide +kernel
theorem dX2_goAway_12 : decode cX2_goAway 12 = .ok (.bipush 48, 2) := by decide +kernel
theorem dX2_goAway_14 : decode cX2_goAway 14 = .ok (.iload_n 1, 1) := by decide +kernel
theorem dX2_goAway_15 : decode cX2_goAway 15 = .ok (.iadd, 1) := by decide +kernel
theorem dX2_goAway_16 : decode cX2_goAway 16 = .ok (.iconst 0, 1) := by decide +kernel
theorem dX2_goAway_17 : decode cX2_goAway 17 = .ok (.iastore, 1) := by decide +kernel
theorem dX2_goAway_18 : decode cX2_goAway 18 = .ok (.aload_n 0, 1) := by decide +kernel
theorem dX2_goAway_19 : decode cX2_goAway 19 = .ok (.bipush 54, 2) := by decide +kernel
theorem dX2_goAway_21 : decode cX2_goAway 21 = .ok (.iload_n 1, 1) := by decide +kernel
theorem dX2_goAway_22 : decode cX2_goAway 22 = .ok (.iadd, 1) := by decide +kernel
theorem dX2_goAway_23 : decode cX2_goAway 23 = .ok (.iconst 0, 1) := by decide +kernel
theorem dX2_goAway_24 : decode cX2_goAway 24 = .ok (.iastore, 1) := by decide +kernel
theorem dX2_goAway_25 : decode cX2_goAway 25 = .ok (.aload_n 0, 1) := by decide +kernel
theorem dX2_goAway_26 : decode cX2_goAway 26 = .ok (.bipush 60, 2) := by decide +kernel
theorem dX2_goAway_28 : decode cX2_goAway 28 = .ok (.iload_n 1, 1) := by decide +kernel
theorem dX2_goAway_29 : decode cX2_goAway 29 = .ok (.iadd, 1) := by decide +kernel
theorem dX2_goAway_30 : decode cX2_goAway 30 = .ok (.iconst 0, 1) := by decide +kernel
theorem dX2_goAway_31 : decode cX2_goAway 31 = .ok (.iastore, 1) := by decide +kernel
theorem dX2_goAway_32 : decode cX2_goAway 32 = .ok (.return_, 1) := by decide +kernel
set_option maxRecDepth 20000 in
theorem ggX2_bye_X2_goAway : GoodIn wsX2_bye wsX2_goAway := goodIn_r _ [4] (by decide +kernel) (by decide +kernel)
set_option maxRecDepth 20000 in
theorem gX2_bye_X2_goAway : GoodIn wsX2_bye (va_wsS RX2 72 yX2_goAway wsX2_goAway) := goodIn_app (goodIn_of _ (by decide +kernel)) ggX2_bye_X2_goAway
set_option maxRecDepth 20000 in
theorem ggX2_bye_X2_reaches : GoodIn wsX2_bye wsX2_reaches := goodIn_r _ [7, 8, 9, 3, 10] (by decide +kernel) (by decide +kernel)
set_option maxRecDepth 20000 in
theorem gX2_bye_X2_reaches : GoodIn wsX2_bye (va_wsS RX2 68 yX2_reaches wsX2_reaches) := goodIn_app (goodIn_of _ (by decide +kernel)) ggX2_bye_X2_reaches
set_option maxRecDepth 20000 in
theorem ggX2_bye_X2_has : GoodIn wsX2_bye wsX2_has := goodIn_r _ [10] (by decide +kernel) (by decide +kernel)
set_option maxRecDepth 20000 in
theorem gX2_bye_X2_has : GoodIn wsX2_bye (va_wsS RX2 64 yX2_has wsX2_has) := goodIn_app (goodIn_of _ (by decide +kernel)) ggX2_bye_X2_has
set_option maxRecDepth 20000 in
theorem ggX2_bye_X2_countOf : GoodIn wsX2_bye wsX2_countOf := goodIn_r _ [13, 14, 15, 3, 16] (by decide +kernel) (by decide +kernel)
set_option maxRecDepth 20000 in
theorem gX2_bye_X2_countOf : GoodIn wsX2_bye (va_wsS RX2 76 yX2_countOf wsX2_countOf) := goodIn_app (goodIn_of _ (by decide +kernel)) ggX2_bye_X2_countOf
theorem dX2_bye_0 : decode cX2_bye 0 = .ok (.aload_n 0, 1) := by decide +kernel
theorem dX2_bye_1 : decode cX2_bye 1 = .ok (.bipush 72, 2) := by decide +kernel
theorem dX2_bye_3 : decode cX2_bye 3 = .ok (.dup2, 1) := by decide +kernel
theorem dX2_bye_4 : decode cX2_bye 4 = .ok (.iaload, 1) := by decide +kernel
theorem dX2_bye_5 : decode cX2_bye 5 = .ok (.iconst 1, 1) := by decide +kernel
theorem dX2_bye_6 : decode cX2_bye 6 = .ok (.iadd, 1) := by decide +kernel
theorem dX2_bye_7 : decode cX2_bye 7 = .ok (.iastore, 1) := by decide +kernel
theorem dX2_bye_8 : decode cX2_bye 8 = .ok (.aload_n 0, 1) := by decide +kernel
theorem dX2_bye_9 : decode cX2_bye 9 = .ok (.iload_n 1, 1) := by decide +kernel
theorem dX2_bye_10 : decode cX2_bye 10 = .ok (.invokestatic 72, 3) := by decide +kernel
theorem dX2_bye_13 : decode cX2_bye 13 = .ok (.iconst 0, 1) := by decide +kernel
theorem dX2_bye_14 : decode cX2_bye 14 = .ok (.istore_n 2, 1) := by decide +kernel
theorem dX2_bye_15 : decode cX2_bye 15 = .ok (.iload_n 2, 1) := by decide +kernel
theorem dX2_bye_16 : decode cX2_bye 16 = .ok (.bipush 6, 2) := by decide +kernel
theorem dX2_bye_18 : decode cX2_bye 18 = .ok (.if_icmp .ge 159, 3) := by decide +kernel
theorem dX2_bye_21 : decode cX2_bye 21 = .ok (.aload_n 0, 1) := by decide +kernel
theorem dX2_bye_22 : decode cX2_bye 22 = .ok (.iload_n 1, 1) := by decide +kernel
theorem dX2_bye_23 : decode cX2_bye 23 = .ok (.iload_n 2, 1) := by decide +kernel
theorem dX2_bye_24 : decode cX2_bye 24 = .ok (.invokestatic 68, 3) := by decide +kernel
theorem dX2_bye_27 : decode cX2_bye 27 = .ok (.ifCond .eq 144, 3) := by decide +kernel
theorem dX2_bye_30 : decode cX2_bye 30 = .ok (.aload_n 0, 1) := by decide +kernel
theorem dX2_bye_31 : decode cX2_bye 31 = .ok (.bipush 60, 2) := by decide +kernel
theorem dX2_bye_33 : decode cX2_bye 33 = .ok (.iload_n 2, 1) := by decide +kernel
theorem dX2_bye_34 : decode cX2_bye 34 = .ok (.iadd, 1) := by decide +kernel
theorem dX2_bye_35 : decode cX2_bye 35 = .ok (.dup2, 1) := by decide +kernel
theorem dX2_bye_36 : decode cX2_bye 36 = .ok (.iaload, 1) := by decide +kernel
theorem dX2_bye_37 : decode cX2_bye 37 = .ok (.aload_n 0, 1) := by decide +kernel
theorem dX2_bye_38 : decode cX2_bye 38 = .ok (.iload_n 2, 1) := by decide +kernel
theorem dX2_bye_39 : decode cX2_bye 39 = .ok (.iaload, 1) := by decide +kernel
theorem dX2_bye_40 : decode cX2_bye 40 = .ok (.iconst 2, 1) := by decide +kernel
theorem dX2_bye_41 : decode cX2_bye 41 = .ok (.if_icmp .ne 7, 3) := by decide +kernel
theorem dX2_bye_44 : decode cX2_bye 44 = .ok (.iconst 1, 1) := by decide +kernel
theorem dX2_bye_45 : decode cX2_bye 45 = .ok (.goto 4, 3) := by decide +kernel
theorem dX2_bye_48 : decode cX2_bye 48 = .ok (.iconst 0, 1) := by decide +kernel
theorem dX2_bye_49 : decode cX2_bye 49 = .ok (.iadd, 1) := by decide +kernel
theorem dX2_bye_50 : decode cX2_bye 50 = .ok (.iastore, 1) := by decide +kernel
theorem dX2_bye_51 : decode cX2_bye 51 = .ok (.aload_n 0, 1) := by decide +kernel
theorem dX2_bye_52 : decode cX2_bye 52 = .ok (.bipush 6, 2) := by decide +kernel
theorem dX2_bye_54 : decode cX2_bye 54 = .ok (.iload_n 2, 1) := by decide +kernel
theorem dX2_bye_55 : decode cX2_bye 55 = .ok (.iadd, 1) := by decide +kernel
theorem dX2_bye_56 : decode cX2_bye 56 = .ok (.iaload, 1) := by decide +kernel
theorem dX2_bye_57 : decode cX2_bye 57 = .ok (.iload_n 1, 1) := by decide +kernel
theorem dX2_bye_58 : decode cX2_bye 58 = .ok (.invokestatic 64, 3) := by decide +kernel
theorem dX2_bye_61 : decode cX2_bye 61 = .ok (.istore_n 3, 1) := by decide +kernel
theorem dX2_bye_62 : decode cX2_bye 62 = .ok (.aload_n 0, 1) := by decide +kernel
theorem dX2_bye_63 : decode cX2_bye 63 = .ok (.iload_n 2, 1) := by decide +kernel
theorem dX2_bye_64 : decode cX2_bye 64 = .ok (.invokestatic 76, 3) := by decide +kernel
theorem dX2_bye_67 : decode cX2_bye 67 = .ok (.istore 4, 2) := by decide +kernel
theorem dX2_bye_69 : decode cX2_bye 69 = .ok (.aload_n 0, 1) := by decide +kernel
theorem dX2_bye_70 : decode cX2_bye 70 = .ok (.bipush 6, 2) := by decide +kernel
theorem dX2_bye_72 : decode cX2_bye 72 = .ok (.iload_n 2, 1) := by decide +kernel
theorem dX2_bye_73 : decode cX2_bye 73 = .ok (.iadd, 1) := by decide +kernel
theorem dX2_bye_74 : decode cX2_bye 74 = .ok (.dup2, 1) := by decide +kernel
theorem dX2_bye_75 : decode cX2_bye 75 = .ok (.iaload, 1) := by decide +kernel
theorem dX2_bye_76 : decode cX2_bye 76 = .ok (.iconst 1, 1) := by decide +kernel
theorem dX2_bye_77 : decode cX2_bye 77 = .ok (.iload_n 1, 1) := by decide +kernel
theorem dX2_bye_78 : decode cX2_bye 78 = .ok (.ishl, 1) := by decide +kernel
theorem dX2_bye_79 : decode cX2_bye 79 = .ok (.iconst (-1), 1) := by decide +kernel
theorem dX2_bye_80 : decode cX2_bye 80 = .ok (.ixor, 1) := by decide +kernel
theorem dX2_bye_81 : decode cX2_bye 81 = .ok (.iand, 1) := by decide +kernel
theorem dX2_bye_82 : decode cX2_bye 82 = .ok (.iastore, 1) := by decide +kernel
theorem dX2_bye_83 : decode cX2_bye 83 = .ok (.iload_n 3, 1) := by decide +kernel
theorem dX2_bye_84 : decode cX2_bye 84 = .ok (.ifCond .eq 87, 3) := by decide +kernel
theorem dX2_bye_87 : decode cX2_bye 87 = .ok (.aload_n 0, 1) := by decide +kernel
theorem dX2_bye_88 : decode cX2_bye 88 = .ok (.iload_n 2, 1) := by decide +kernel
theorem dX2_bye_89 : decode cX2_bye 89 = .ok (.iaload, 1) := by decide +kernel
theorem dX2_bye_90 : decode cX2_bye 90 = .ok (.iconst 1, 1) := by decide +kernel
theorem dX2_bye_91 : decode cX2_bye 91 = .ok (.if_icmp .ne 80, 3) := by decide +kernel
theorem dX2_bye_94 : decode cX2_bye 94 = .ok (.aload_n 0, 1) := by decide +kernel
theorem dX2_bye_95 : decode cX2_bye 95 = .ok (.bipush 70, 2) := by decide +kernel
theorem dX2_bye_97 : decode cX2_bye 97 = .ok (.iaload, 1) := by decide +kernel
theorem dX2_bye_98 : decode cX2_bye 98 = .ok (.istore 5, 2) := by decide +kernel
theorem dX2_bye_100 : decode cX2_bye 100 = .ok (.aload_n 0, 1) := by decide +kernel
theorem dX2_bye_101 : decode cX2_bye 101 = .ok (.bipush 54, 2) := by decide +kernel
theorem dX2_bye_103 : decode cX2_bye 103 = .ok (.iload_n 2, 1) := by decide +kernel
theorem dX2_bye_104 : decode cX2_bye 104 = .ok (.iadd, 1) := by decide +kernel
theorem dX2_bye_105 : decode cX2_bye 105 = .ok (.iaload, 1) := by decide +kernel
theorem dX2_bye_106 : decode cX2_bye 106 = .ok (.iload 5, 2) := by decide +kernel
theorem dX2_bye_108 : decode cX2_bye 108 = .ok (.if_icmp .le 15, 3) := by decide +kernel
theorem dX2_bye_111 : decode cX2_bye 111 = .ok (.aload_n 0, 1) := by decide +kernel
theorem dX2_bye_112 : decode cX2_bye 112 = .ok (.bipush 54, 2) := by decide +kernel
theorem dX2_bye_114 : decode cX2_bye 114 = .ok (.iload_n 2, 1) := by decide +kernel
theorem dX2_bye_115 : decode cX2_bye 115 = .ok (.iadd, 1) := by decide +kernel
theorem dX2_bye_116 : decode cX2_bye 116 = .ok (.iaload, 1) := by decide +kernel
theorem dX2_bye_117 : decode cX2_bye 117 = .ok (.iload 5, 2) := by decide +kernel
theorem dX2_bye_119 : decode cX2_bye 119 = .ok (.isub, 1) := by decide +kernel
theorem dX2_bye_120 : decode cX2_bye 120 = .ok (.goto 4, 3) := by decide +kernel
theorem dX2_bye_123 : decode cX2_bye 123 = .ok (.iconst 0, 1) := by decide +kernel
theorem dX2_bye_124 : decode cX2_bye 124 = .ok (.istore 6, 2) := by decide +kernel
theorem dX2_bye_126 : decode cX2_bye 126 = .ok (.aload_n 0, 1) := by decide +kernel
theorem dX2_bye_127 : decode cX2_bye 127 = .ok (.bipush 54, 2) := by decide +kernel
theorem dX2_bye_129 : decode cX2_bye 129 = .ok (.iload_n 2, 1) := by decide +kernel
theorem dX2_bye_130 : decode cX2_bye 130 = .ok (.iadd, 1) := by decide +kernel
theorem dX2_bye_131 : decode cX2_bye 131 = .ok (.iload 5, 2) := by decide +kernel
theorem dX2_bye_133 : decode cX2_bye 133 = .ok (.iload 6, 2) := by decide +kernel
theorem dX2_bye_135 : decode cX2_bye 135 = .ok (.iload 4, 2) := by decide +kernel
theorem dX2_bye_137 : decode cX2_bye 137 = .ok (.iconst 1, 1) := by decide +kernel
theorem dX2_bye_138 : decode cX2_bye 138 = .ok (.isub, 1) := by decide +kernel
theorem dX2_bye_139 : decode cX2_bye 139 = .ok (.imul, 1) := by decide +kernel
theorem dX2_bye_140 : decode cX2_bye 140 = .ok (.iload 4, 2) := by decide +kernel
theorem dX2_bye_142 : decode cX2_bye 142 = .ok (.idiv, 1) := by decide +kernel
theorem dX2_bye_143 : decode cX2_bye 143 = .ok (.iadd, 1) := by decide +kernel
theorem dX2_bye_144 : decode cX2_bye 144 = .ok (.iastore, 1) := by decide +kernel
theorem dX2_bye_145 : decode cX2_bye 145 = .ok (.aload_n 0, 1) := by decide +kernel
theorem dX2_bye_146 : decode cX2_bye 146 = .ok (.bipush 48, 2) := by decide +kernel
theorem dX2_bye_148 : decode cX2_bye 148 = .ok (.iload_n 2, 1) := by decide +kernel
theorem dX2_bye_149 : decode cX2_bye 149 = .ok (.iadd, 1) := by decide +kernel
theorem dX2_bye_150 : decode cX2_bye 150 = .ok (.iload 5, 2) := by decide +kernel
theorem dX2_bye_152 : decode cX2_bye 152 = .ok (.iload 5, 2) := by decide +kernel
theorem dX2_bye_154 : decode cX2_bye 154 = .ok (.aload_n 0, 1) := by decide +kernel
theorem dX2_bye_155 : decode cX2_bye 155 = .ok (.bipush 48, 2) := by decide +kernel
theorem dX2_bye_157 : decode cX2_bye 157 = .ok (.iload_n 2, 1) := by decide +kernel
theorem dX2_bye_158 : decode cX2_bye 158 = .ok (.iadd, 1) := by decide +kernel
theorem dX2_bye_159 : decode cX2_bye 159 = .ok (.iaload, 1) := by decide +kernel
theorem dX2_bye_160 : decode cX2_bye 160 = .ok (.isub, 1) := by decide +kernel
theorem dX2_bye_161 : decode cX2_bye 161 = .ok (.iload 4, 2) := by decide +kernel
theorem dX2_bye_163 : decode cX2_bye 163 = .ok (.iconst 1, 1) := by decide +kernel
theorem dX2_bye_164 : decode cX2_bye 164 = .ok (.isub, 1) := by decide +kernel
theorem dX2_bye_165 : decode cX2_bye 165 = .ok (.imul, 1) := by decide +kernel
theorem dX2_bye_166 : decode cX2_bye 166 = .ok (.iload 4, 2) := by decide +kernel
theorem dX2_bye_168 : decode cX2_bye 168 = .ok (.idiv, 1) := by decide +kernel
theorem dX2_bye_169 : decode cX2_bye 169 = .ok (.isub, 1) := by decide +kernel
theorem dX2_bye_170 : decode cX2_bye 170 = .ok (.iastore, 1) := by decide +kernel
theorem dX2_bye_171 : decode cX2_bye 171 = .ok (.iinc 2 1, 3) := by decide +kernel
theorem dX2_bye_174 : decode cX2_bye 174 = .ok (.goto (-159), 3) := by decide +kernel
theorem dX2_bye_177 : decode cX2_bye 177 = .ok (.return_, 1) := by decide +kernel
set_option maxRecDepth 20000 in
theorem ggX2_joins_X2_waitOf : GoodIn wsX2_joins wsX2_waitOf := goodIn_r _ [4, 5, 6, 3, 7, 8, 9, 10, 11] (by decide +kernel) (by decide +kernel)
set_option maxRecDepth 20000 in
theorem gX2_joins_X2_waitOf : GoodIn wsX2_joins (va_wsS RX2 79 yX2_waitOf wsX2_waitOf) := goodIn_app (goodIn_of _ (by decide +kernel)) ggX2_joins_X2_waitOf
theorem dX2_joins_0 : decode cX2_joins 0 = .ok (.aload_n 0, 1) := by decide +kernel
theorem dX2_joins_1 : decode cX2_joins 1 = .ok (.iload_n 1, 1) := by decide +kernel
theorem dX2_joins_2 : decode cX2_joins 2 = .ok (.iconst 1, 1) := by decide +kernel
theorem dX2_joins_3 : decode cX2_joins 3 = .ok (.iastore, 1) := by decide +kernel
theorem dX2_joins_4 : decode cX2_joins 4 = .ok (.aload_n 0, 1) := by decide +kernel
theorem dX2_joins_5 : decode cX2_joins 5 = .ok (.bipush 6, 2) := by decide +kernel
theorem dX2_joins_7 : decode cX2_joins 7 = .ok (.iload_n 1, 1) := by decide +kernel
theorem dX2_joins_8 : decode cX2_joins 8 = .ok (.iadd, 1) := by decide +kernel
theorem dX2_joins_9 : decode cX2_joins 9 = .ok (.iconst 0, 1) := by decide +kernel
theorem dX2_joins_10 : decode cX2_joins 10 = .ok (.iastore, 1) := by decide +kernel
theorem dX2_joins_11 : decode cX2_joins 11 = .ok (.aload_n 0, 1) := by decide +kernel
theorem dX2_joins_12 : decode cX2_joins 12 = .ok (.bipush 60, 2) := by decide +kernel
theorem dX2_joins_14 : decode cX2_joins 14 = .ok (.iload_n 1, 1) := by decide +kernel
theorem dX2_joins_15 : decode cX2_joins 15 = .ok (.iadd, 1) := by decide +kernel
theorem dX2_joins_16 : decode cX2_joins 16 = .ok (.iconst 0, 1) := by decide +kernel
theorem dX2_joins_17 : decode cX2_joins 17 = .ok (.iastore, 1) := by decide +kernel
theorem dX2_joins_18 : decode cX2_joins 18 = .ok (.aload_n 0, 1) := by decide +kernel
theorem dX2_joins_19 : decode cX2_joins 19 = .ok (.bipush 48, 2) := by decide +kernel
theorem dX2_joins_21 : decode cX2_joins 21 = .ok (.iload_n 1, 1) := by decide +kernel
theorem dX2_joins_22 : decode cX2_joins 22 = .ok (.iadd, 1) := by decide +kernel
theorem dX2_joins_23 : decode cX2_joins 23 = .ok (.aload_n 0, 1) := by decide +kernel
theorem dX2_joins_24 : decode cX2_joins 24 = .ok (.bipush 70, 2) := by decide +kernel
theorem dX2_joins_26 : decode cX2_joins 26 = .ok (.iaload, 1) := by decide +kernel
theorem dX2_joins_27 : decode cX2_joins 27 = .ok (.iastore, 1) := by decide +kernel
theorem dX2_joins_28 : decode cX2_joins 28 = .ok (.aload_n 0, 1) := by decide +kernel
theorem dX2_joins_29 : decode cX2_joins 29 = .ok (.bipush 54, 2) := by decide +kernel
theorem dX2_joins_31 : decode cX2_joins 31 = .ok (.iload_n 1, 1) := by decide +kernel
theorem dX2_joins_32 : decode cX2_joins 32 = .ok (.iadd, 1) := by decide +kernel
theorem dX2_joins_33 : decode cX2_joins 33 = .ok (.aload_n 0, 1) := by decide +kernel
theorem dX2_joins_34 : decode cX2_joins 34 = .ok (.bipush 70, 2) := by decide +kernel
theorem dX2_joins_36 : decode cX2_joins 36 = .ok (.iaload, 1) := by decide +kernel
theorem dX2_joins_37 : decode cX2_joins 37 = .ok (.aload_n 0, 1) := by decide +kernel
theorem dX2_joins_38 : decode cX2_joins 38 = .ok (.iconst 1, 1) := by decide +kernel
theorem dX2_joins_39 : decode cX2_joins 39 = .ok (.invokestatic 79, 3) := by decide +kernel
theorem dX2_joins_42 : decode cX2_joins 42 = .ok (.iadd, 1) := by decide +kernel
theorem dX2_joins_43 : decode cX2_joins 43 = .ok (.iastore, 1) := by decide +kernel
theorem dX2_joins_44 : decode cX2_joins 44 = .ok (.return_, 1) := by decide +kernel
set_option maxRecDepth 20000 in
theorem ggX2_leaves_X2_countOf : GoodIn wsX2_leaves wsX2_countOf := goodIn_r _ [4, 5, 6, 3, 7] (by decide +kernel) (by decide +kernel)
set_option maxRecDepth 20000 in
theorem gX2_leaves_X2_countOf : GoodIn wsX2_leaves (va_wsS RX2 76 yX2_countOf wsX2_countOf) := goodIn_app (goodIn_of _ (by decide +kernel)) ggX2_leaves_X2_countOf
set_option maxRecDepth 20000 in
theorem ggX2_leaves_X2_bye : GoodIn wsX2_leaves wsX2_bye := goodIn_r _ [10, 11, 12, 3, 13, 14, 15, 16, 17, 18, 19, 1, 2, 4, 5, 6, 7] (by decide +kernel) (by decide +kernel)
set_option maxRecDepth 20000 in
theorem gX2_leaves_X2_bye : GoodIn wsX2_leaves (va_wsS RX2 82 yX2_bye wsX2_bye) := goodIn_app (goodIn_of _ (by decide +kernel)) ggX2_leaves_X2_bye
set_option maxRecDepth 20000 in
theorem ggX2_leaves_X2_waitOf : GoodIn wsX2_leaves wsX2_waitOf := goodIn_r _ [22, 23, 24, 3, 25, 26, 27, 28, 29] (by decide +kernel) (by decide +kernel)
set_option maxRecDepth 20000 in
theorem gX2_leaves_X2_waitOf : GoodIn wsX2_leaves (va_wsS RX2 79 yX2_waitOf wsX2_waitOf) := goodIn_app (goodIn_of _ (by decide +kernel)) ggX2_leaves_X2_waitOf
theorem dX2_leaves_0 : decode cX2_leaves 0 = .ok (.aload_n 0, 1) := by decide +kernel
theorem dX2_leaves_1 : decode cX2_leaves 1 = .ok (.iload_n 1, 1) := by decide +kernel
theorem dX2_leaves_2 : decode cX2_leaves 2 = .ok (.invokestatic 76, 3) := by decide +kernel
theorem dX2_leaves_5 : decode cX2_leaves 5 = .ok (.iconst 3, 1) := by decide +kernel
theorem dX2_leaves_6 : decode cX2_leaves 6 = .ok (.if_icmp .gt 9, 3) := by decide +kernel
theorem dX2_leaves_9 : decode cX2_leaves 9 = .ok (.aload_n 0, 1) := by decide +kernel
theorem dX2_leaves_10 : decode cX2_leaves 10 = .ok (.iload_n 1, 1) := by decide +kernel
theorem dX2_leaves_11 : decode cX2_leaves 11 = .ok (.invokestatic 82, 3) := by decide +kernel
theorem dX2_leaves_14 : decode cX2_leaves 14 = .ok (.return_, 1) := by decide +kernel
theorem dX2_leaves_15 : decode cX2_leaves 15 = .ok (.aload_n 0, 1) := by decide +kernel
theorem dX2_leaves_16 : decode cX2_leaves 16 = .ok (.iload_n 1, 1) := by decide +kernel
theorem dX2_leaves_17 : decode cX2_leaves 17 = .ok (.iconst 2, 1) := by decide +kernel
theorem dX2_leaves_18 : decode cX2_leaves 18 = .ok (.iastore, 1) := by decide +kernel
theorem dX2_leaves_19 : decode cX2_leaves 19 = .ok (.aload_n 0, 1) := by decide +kernel
theorem dX2_leaves_20 : decode cX2_leaves 20 = .ok (.bipush 60, 2) := by decide +kernel
theorem dX2_leaves_22 : decode cX2_leaves 22 = .ok (.iload_n 1, 1) := by decide +kernel
theorem dX2_leaves_23 : decode cX2_leaves 23 = .ok (.iadd, 1) := by decide +kernel
theorem dX2_leaves_24 : decode cX2_leaves 24 = .ok (.iconst 1, 1) := by decide +kernel
theorem dX2_leaves_25 : decode cX2_leaves 25 = .ok (.iastore, 1) := by decide +kernel
theorem dX2_leaves_26 : decode cX2_leaves 26 = .ok (.aload_n 0, 1) := by decide +kernel
theorem dX2_leaves_27 : decode cX2_leaves 27 = .ok (.bipush 48, 2) := by decide +kernel
theorem dX2_leaves_29 : decode cX2_leaves 29 = .ok (.iload_n 1, 1) := by decide +kernel
theorem dX2_leaves_30 : decode cX2_leaves 30 = .ok (.iadd, 1) := by decide +kernel
theorem dX2_leaves_31 : decode cX2_leaves 31 = .ok (.aload_n 0, 1) := by decide +kernel
theorem dX2_leaves_32 : decode cX2_leaves 32 = .ok (.bipush 70, 2) := by decide +kernel
theorem dX2_leaves_34 : decode cX2_leaves 34 = .ok (.iaload, 1) := by decide +kernel
theorem dX2_leaves_35 : decode cX2_leaves 35 = .ok (.iastore, 1) := by decide +kernel
theorem dX2_leaves_36 : decode cX2_leaves 36 = .ok (.aload_n 0, 1) := by decide +kernel
theorem dX2_leaves_37 : decode cX2_leaves 37 = .ok (.bipush 54, 2) := by decide +kernel
theorem dX2_leaves_39 : decode cX2_leaves 39 = .ok (.iload_n 1, 1) := by decide +kernel
theorem dX2_leaves_40 : decode cX2_leaves 40 = .ok (.iadd, 1) := by decide +kernel
theorem dX2_leaves_41 : decode cX2_leaves 41 = .ok (.aload_n 0, 1) := by decide +kernel
theorem dX2_leaves_42 : decode cX2_leaves 42 = .ok (.bipush 70, 2) := by decide +kernel
theorem dX2_leaves_44 : decode cX2_leaves 44 = .ok (.iaload, 1) := by decide +kernel
theorem dX2_leaves_45 : decode cX2_leaves 45 = .ok (.aload_n 0, 1) := by decide +kernel
theorem dX2_leaves_46 : decode cX2_leaves 46 = .ok (.iconst 1, 1) := by decide +kernel
theorem dX2_leaves_47 : decode cX2_leaves 47 = .ok (.invokestatic 79, 3) := by decide +kernel
theorem dX2_leaves_50 : decode cX2_leaves 50 = .ok (.iadd, 1) := by decide +kernel
theorem dX2_leaves_51 : decode cX2_leaves 51 = .ok (.iastore, 1) := by decide +kernel
theorem dX2_leaves_52 : decode cX2_leaves 52 = .ok (.return_, 1) := by decide +kernel
set_option maxRecDepth 20000 in
theorem ggX2_look_X2_countOf : GoodIn wsX2_look wsX2_countOf := goodIn_r _ [4, 5, 6, 3, 7] (by decide +kernel) (by decide +kernel)
set_option maxRecDepth 20000 in
theorem gX2_look_X2_countOf : GoodIn wsX2_look (va_wsS RX2 76 yX2_countOf wsX2_countOf) := goodIn_app (goodIn_of _ (by decide +kernel)) ggX2_look_X2_countOf
set_option maxRecDepth 20000 in
theorem ggX2_look_X2_waitOf : GoodIn wsX2_look wsX2_waitOf := goodIn_r _ [10, 11, 12, 3, 13, 14, 15, 16, 17] (by decide +kernel) (by decide +kernel)
set_option maxRecDepth 20000 in
theorem gX2_look_X2_waitOf : GoodIn wsX2_look (va_wsS RX2 79 yX2_waitOf wsX2_waitOf) := goodIn_app (goodIn_of _ (by decide +kernel)) ggX2_look_X2_waitOf
set_option maxRecDepth 20000 in
theorem ggX2_look_X2_report : GoodIn wsX2_look wsX2_report := goodIn_r _ [20, 21, 22, 3, 23, 24, 25, 26] (by decide +kernel) (by decide +kernel)
set_option maxRecDepth 20000 in
theorem gX2_look_X2_report : GoodIn wsX2_look (va_wsS RX2 85 yX2_report wsX2_report) := goodIn_app (goodIn_of _ (by decide +kernel)) ggX2_look_X2_report
set_option maxRecDepth 20000 in
theorem ggX2_look_X2_bye : GoodIn wsX2_look wsX2_bye := goodIn_r _ [29, 30, 31, 3, 32, 21, 22, 23, 24, 25, 26, 1, 2, 4, 5, 6, 7] (by decide +kernel) (by decide +kernel)
set_option maxRecDepth 20000 in
theorem gX2_look_X2_bye : GoodIn wsX2_look (va_wsS RX2 82 yX2_bye wsX2_bye) := goodIn_app (goodIn_of _ (by decide +kernel)) ggX2_look_X2_bye
theorem dX2_look_0 : decode cX2_look 0 = .ok (.aload_n 0, 1) := by decide +kernel
theorem dX2_look_1 : decode cX2_look 1 = .ok (.iload_n 1, 1) := by decide +kernel
theorem dX2_look_2 : decode cX2_look 2 = .ok (.iaload, 1) := by decide +kernel
theorem dX2_look_3 : decode cX2_look 3 = .ok (.iconst 1, 1) := by decide +kernel
theorem dX2_look_4 : decode cX2_look 4 = .ok (.if_icmp .ne 7, 3) := by decide +kernel
theorem dX2_look_7 : decode cX2_look 7 = .ok (.iconst 1, 1) := by decide +kernel
theorem dX2_look_8 : decode cX2_look 8 = .ok (.goto 4, 3) := by decide +kernel
theorem dX2_look_11 : decode cX2_look 11 = .ok (.iconst 0, 1) := by decide +kernel
theorem dX2_look_12 : decode cX2_look 12 = .ok (.istore_n 2, 1) := by decide +kernel
theorem dX2_look_13 : decode cX2_look 13 = .ok (.aload_n 0, 1) := by decide +kernel
theorem dX2_look_14 : decode cX2_look 14 = .ok (.iload_n 2, 1) := by decide +kernel
theorem dX2_look_15 : decode cX2_look 15 = .ok (.ifCond .eq 11, 3) := by decide +kernel
theorem dX2_look_18 : decode cX2_look 18 = .ok (.aload_n 0, 1) := by decide +kernel
theorem dX2_look_19 : decode cX2_look 19 = .ok (.iload_n 1, 1) := by decide +kernel
theorem dX2_look_20 : decode cX2_look 20 = .ok (.invokestatic 76, 3) := by decide +kernel
theorem dX2_look_23 : decode cX2_look 23 = .ok (.goto 9, 3) := by decide +kernel
theorem dX2_look_26 : decode cX2_look 26 = .ok (.aload_n 0, 1) := by decide +kernel
theorem dX2_look_27 : decode cX2_look 27 = .ok (.bipush 60, 2) := by decide +kernel
theorem dX2_look_29 : decode cX2_look 29 = .ok (.iload_n 1, 1) := by decide +kernel
theorem dX2_look_30 : decode cX2_look 30 = .ok (.iadd, 1) := by decide +kernel
theorem dX2_look_31 : decode cX2_look 31 = .ok (.iaload, 1) := by decide +kernel
theorem dX2_look_32 : decode cX2_look 32 = .ok (.invokestatic 79, 3) := by decide +kernel
theorem dX2_look_35 : decode cX2_look 35 = .ok (.istore_n 3, 1) := by decide +kernel
theorem dX2_look_36 : decode cX2_look 36 = .ok (.aload_n 0, 1) := by decide +kernel
theorem dX2_look_37 : decode cX2_look 37 = .ok (.bipush 48, 2) := by decide +kernel
theorem dX2_look_39 : decode cX2_look 39 = .ok (.iload_n 1, 1) := by decide +kernel
theorem dX2_look_40 : decode cX2_look 40 = .ok (.iadd, 1) := by decide +kernel
theorem dX2_look_41 : decode cX2_look 41 = .ok (.iaload, 1) := by decide +kernel
theorem dX2_look_42 : decode cX2_look 42 = .ok (.iload_n 3, 1) := by decide +kernel
theorem dX2_look_43 : decode cX2_look 43 = .ok (.iadd, 1) := by decide +kernel
theorem dX2_look_44 : decode cX2_look 44 = .ok (.aload_n 0, 1) := by decide +kernel
theorem dX2_look_45 : decode cX2_look 45 = .ok (.bipush 70, 2) := by decide +kernel
theorem dX2_look_47 : decode cX2_look 47 = .ok (.iaload, 1) := by decide +kernel
theorem dX2_look_48 : decode cX2_look 48 = .ok (.if_icmp .le 20, 3) := by decide +kernel
theorem dX2_look_51 : decode cX2_look 51 = .ok (.aload_n 0, 1) := by decide +kernel
theorem dX2_look_52 : decode cX2_look 52 = .ok (.bipush 54, 2) := by decide +kernel
theorem dX2_look_54 : decode cX2_look 54 = .ok (.iload_n 1, 1) := by decide +kernel
theorem dX2_look_55 : decode cX2_look 55 = .ok (.iadd, 1) := by decide +kernel
theorem dX2_look_56 : decode cX2_look 56 = .ok (.aload_n 0, 1) := by decide +kernel
theorem dX2_look_57 : decode cX2_look 57 = .ok (.bipush 48, 2) := by decide +kernel
theorem dX2_look_59 : decode cX2_look 59 = .ok (.iload_n 1, 1) := by decide +kernel
theorem dX2_look_60 : decode cX2_look 60 = .ok (.iadd, 1) := by decide +kernel
theorem dX2_look_61 : decode cX2_look 61 = .ok (.iaload, 1) := by decide +kernel
theorem dX2_look_62 : decode cX2_look 62 = .ok (.iload_n 3, 1) := by decide +kernel
theorem dX2_look_63 : decode cX2_look 63 = .ok (.iadd, 1) := by decide +kernel
theorem dX2_look_64 : decode cX2_look 64 = .ok (.iastore, 1) := by decide +kernel
theorem dX2_look_65 : decode cX2_look 65 = .ok (.goto 50, 3) := by decide +kernel
theorem dX2_look_68 : decode cX2_look 68 = .ok (.iload_n 2, 1) := by decide +kernel
theorem dX2_look_69 : decode cX2_look 69 = .ok (.ifCond .eq 41, 3) := by decide +kernel
theorem dX2_look_72 : decode cX2_look 72 = .ok (.aload_n 0, 1) := by decide +kernel
theorem dX2_look_73 : decode cX2_look 73 = .ok (.iload_n 1, 1) := by decide +kernel
theorem dX2_look_74 : decode cX2_look 74 = .ok (.invokestatic 85, 3) := by decide +kernel
theorem dX2_look_77 : decode cX2_look 77 = .ok (.aload_n 0, 1) := by decide +kernel
theorem dX2_look_78 : decode cX2_look 78 = .ok (.bipush 48, 2) := by decide +kernel
theorem dX2_look_80 : decode cX2_look 80 = .ok (.iload_n 1, 1) := by decide +kernel
theorem dX2_look_81 : decode cX2_look 81 = .ok (.iadd, 1) := by decide +kernel
theorem dX2_look_82 : decode cX2_look 82 = .ok (.aload_n 0, 1) := by decide +kernel
theorem dX2_look_83 : decode cX2_look 83 = .ok (.bipush 70, 2) := by decide +kernel
theorem dX2_look_85 : decode cX2_look 85 = .ok (.iaload, 1) := by decide +kernel
theorem dX2_look_86 : decode cX2_look 86 = .ok (.iastore, 1) := by decide +kernel
theorem dX2_look_87 : decode cX2_look 87 = .ok (.aload_n 0, 1) := by decide +kernel
theorem dX2_look_88 : decode cX2_look 88 = .ok (.bipush 54, 2) := by decide +kernel
theorem dX2_look_90 : decode cX2_look 90 = .ok (.iload_n 1, 1) := by decide +kernel
theorem dX2_look_91 : decode cX2_look 91 = .ok (.iadd, 1) := by decide +kernel
theorem dX2_look_92 : decode cX2_look 92 = .ok (.aload_n 0, 1) := by decide +kernel
theorem dX2_look_93 : decode cX2_look 93 = .ok (.bipush 70, 2) := by decide +kernel
theorem dX2_look_95 : decode cX2_look 95 = .ok (.iaload, 1) := by decide +kernel
theorem dX2_look_96 : decode cX2_look 96 = .ok (.aload_n 0, 1) := by decide +kernel
theorem dX2_look_97 : decode cX2_look 97 = .ok (.aload_n 0, 1) := by decide +kernel
theorem dX2_look_98 : decode cX2_look 98 = .ok (.iload_n 1, 1) := by decide +kernel
theorem dX2_look_99 : decode cX2_look 99 = .ok (.invokestatic 76, 3) := by decide +kernel
theorem dX2_look_102 : decode cX2_look 102 = .ok (.invokestatic 79, 3) := by decide +kernel
theorem dX2_look_105 : decode cX2_look 105 = .ok (.iadd, 1) := by decide +kernel
theorem dX2_look_106 : decode cX2_look 106 = .ok (.iastore, 1) := by decide +kernel
theorem dX2_look_107 : decode cX2_look 107 = .ok (.goto 8, 3) := by decide +kernel
theorem dX2_look_110 : decode cX2_look 110 = .ok (.aload_n 0, 1) := by decide +kernel
theorem dX2_look_111 : decode cX2_look 111 = .ok (.iload_n 1, 1) := by decide +kernel
theorem dX2_look_112 : decode cX2_look 112 = .ok (.invokestatic 82, 3) := by decide +kernel
theorem dX2_look_115 : decode cX2_look 115 = .ok (.return_, 1) := by decide +kernel
set_option maxRecDepth 20000 in
theorem ggX2_forget_X2_countOf : GoodIn wsX2_forget wsX2_countOf := goodIn_r _ [4, 5, 6, 3, 7] (by decide +kernel) (by decide +kernel)
set_option maxRecDepth 20000 in
theorem gX2_forget_X2_countOf : GoodIn wsX2_forget (va_wsS RX2 76 yX2_countOf wsX2_countOf) := goodIn_app (goodIn_of _ (by decide +kernel)) ggX2_forget_X2_countOf
set_option maxRecDepth 20000 in
theorem ggX2_forget_X2_spanOf : GoodIn wsX2_forget wsX2_spanOf := goodIn_r _ [10] (by decide +kernel) (by decide +kernel)
set_option maxRecDepth 20000 in
theorem gX2_forget_X2_spanOf : GoodIn wsX2_forget (va_wsS RX2 56 yX2_spanOf wsX2_spanOf) := goodIn_app (goodIn_of _ (by decide +kernel)) ggX2_forget_X2_spanOf
set_option maxRecDepth 20000 in
theorem ggX2_forget_X2_has : GoodIn wsX2_forget wsX2_has := goodIn_r _ [13] (by decide +kernel) (by decide +kernel)
set_option maxRecDepth 20000 in
theorem gX2_forget_X2_has : GoodIn wsX2_forget (va_wsS RX2 64 yX2_has wsX2_has) := goodIn_app (goodIn_of _ (by decide +kernel)) ggX2_forget_X2_has
theorem dX2_forget_0 : decode cX2_forget 0 = .ok (.iconst 5, 1) := by decide +kernel
theorem dX2_forget_1 : decode cX2_forget 1 = .ok (.aload_n 0, 1) := by decide +kernel
theorem dX2_forget_2 : decode cX2_forget 2 = .ok (.aload_n 0, 1) := by decide +kernel
theorem dX2_forget_3 : decode cX2_forget 3 = .ok (.iload_n 1, 1) := by decide +kernel
theorem dX2_forget_4 : decode cX2_forget 4 = .ok (.invokestatic 76, 3) := by decide +kernel
theorem dX2_forget_7 : decode cX2_forget 7 = .ok (.invokestatic 56, 3) := by decide +kernel
theorem dX2_forget_10 : decode cX2_forget 10 = .ok (.imul, 1) := by decide +kernel
theorem dX2_forget_11 : decode cX2_forget 11 = .ok (.istore_n 2, 1) := by decide +kernel
theorem dX2_forget_12 : decode cX2_forget 12 = .ok (.iconst 0, 1) := by decide +kernel
theorem dX2_forget_13 : decode cX2_forget 13 = .ok (.istore_n 3, 1) := by decide +kernel
theorem dX2_forget_14 : decode cX2_forget 14 = .ok (.iload_n 3, 1) := by decide +kernel
theorem dX2_forget_15 : decode cX2_forget 15 = .ok (.bipush 6, 2) := by decide +kernel
theorem dX2_forget_17 : decode cX2_forget 17 = .ok (.if_icmp .ge 72, 3) := by decide +kernel
theorem dX2_forget_20 : decode cX2_forget 20 = .ok (.aload_n 0, 1) := by decide +kernel
theorem dX2_forget_21 : decode cX2_forget 21 = .ok (.bipush 6, 2) := by decide +kernel
theorem dX2_forget_23 : decode cX2_forget 23 = .ok (.iload_n 1, 1) := by decide +kernel
theorem dX2_forget_24 : decode cX2_forget 24 = .ok (.iadd, 1) := by decide +kernel
theorem dX2_forget_25 : decode cX2_forget 25 = .ok (.iaload, 1) := by decide +kernel
theorem dX2_forget_26 : decode cX2_forget 26 = .ok (.iload_n 3, 1) := by decide +kernel
theorem dX2_forget_27 : decode cX2_forget 27 = .ok (.invokestatic 64, 3) := by decide +kernel
theorem dX2_forget_30 : decode cX2_forget 30 = .ok (.ifCond .eq 27, 3) := by decide +kernel
theorem dX2_forget_33 : decode cX2_forget 33 = .ok (.aload_n 0, 1) := by decide +kernel
theorem dX2_forget_34 : decode cX2_forget 34 = .ok (.bipush 70, 2) := by decide +kernel
theorem dX2_forget_36 : decode cX2_forget 36 = .ok (.iaload, 1) := by decide +kernel
theorem dX2_forget_37 : decode cX2_forget 37 = .ok (.aload_n 0, 1) := by decide +kernel
theorem dX2_forget_38 : decode cX2_forget 38 = .ok (.bipush 12, 2) := by decide +kernel
theorem dX2_forget_40 : decode cX2_forget 40 = .ok (.bipush 6, 2) := by decide +kernel
theorem dX2_forget_42 : decode cX2_forget 42 = .ok (.iload_n 1, 1) := by decide +kernel
theorem dX2_forget_43 : decode cX2_forget 43 = .ok (.imul, 1) := by decide +kernel
theorem dX2_forget_44 : decode cX2_forget 44 = .ok (.iadd, 1) := by decide +kernel
theorem dX2_forget_45 : decode cX2_forget 45 = .ok (.iload_n 3, 1) := by decide +kernel
theorem dX2_forget_46 : decode cX2_forget 46 = .ok (.iadd, 1) := by decide +kernel
theorem dX2_forget_47 : decode cX2_forget 47 = .ok (.iaload, 1) := by decide +kernel
theorem dX2_forget_48 : decode cX2_forget 48 = .ok (.isub, 1) := by decide +kernel
theorem dX2_forget_49 : decode cX2_forget 49 = .ok (.iload_n 2, 1) := by decide +kernel
theorem dX2_forget_50 : decode cX2_forget 50 = .ok (.if_icmp .le 7, 3) := by decide +kernel
theorem dX2_forget_53 : decode cX2_forget 53 = .ok (.iconst 1, 1) := by decide +kernel
theorem dX2_forget_54 : decode cX2_forget 54 = .ok (.goto 4, 3) := by decide +kernel
theorem dX2_forget_57 : decode cX2_forget 57 = .ok (.iconst 0, 1) := by decide +kernel
theorem dX2_forget_58 : decode cX2_forget 58 = .ok (.istore 4, 2) := by decide +kernel
theorem dX2_forget_60 : decode cX2_forget 60 = .ok (.aload_n 0, 1) := by decide +kernel
theorem dX2_forget_61 : decode cX2_forget 61 = .ok (.bipush 6, 2) := by decide +kernel
theorem dX2_forget_63 : decode cX2_forget 63 = .ok (.iload_n 1, 1) := by decide +kernel
theorem dX2_forget_64 : decode cX2_forget 64 = .ok (.iadd, 1) := by decide +kernel
theorem dX2_forget_65 : decode cX2_forget 65 = .ok (.dup2, 1) := by decide +kernel
theorem dX2_forget_66 : decode cX2_forget 66 = .ok (.iaload, 1) := by decide +kernel
theorem dX2_forget_67 : decode cX2_forget 67 = .ok (.iload 4, 2) := by decide +kernel
theorem dX2_forget_69 : decode cX2_forget 69 = .ok (.ifCond .eq 11, 3) := by decide +kernel
theorem dX2_forget_72 : decode cX2_forget 72 = .ok (.iconst 1, 1) := by decide +kernel
theorem dX2_forget_73 : decode cX2_forget 73 = .ok (.iload_n 3, 1) := by decide +kernel
theorem dX2_forget_74 : decode cX2_forget 74 = .ok (.ishl, 1) := by decide +kernel
theorem dX2_forget_75 : decode cX2_forget 75 = .ok (.iconst (-1), 1) := by decide +kernel
theorem dX2_forget_76 : decode cX2_forget 76 = .ok (.ixor, 1) := by decide +kernel
theorem dX2_forget_77 : decode cX2_forget 77 = .ok (.goto 4, 3) := by decide +kernel
theorem dX2_forget_80 : decode cX2_forget 80 = .ok (.iconst (-1), 1) := by decide +kernel
theorem dX2_forget_81 : decode cX2_forget 81 = .ok (.iand, 1) := by decide +kernel
theorem dX2_forget_82 : decode cX2_forget 82 = .ok (.iastore, 1) := by decide +kernel
theorem dX2_forget_83 : decode cX2_forget 83 = .ok (.iinc 3 1, 3) := by decide +kernel
theorem dX2_forget_86 : decode cX2_forget 86 = .ok (.goto (-72), 3) := by decide +kernel
theorem dX2_forget_89 : decode cX2_forget 89 = .ok (.return_, 1) := by decide +kernel
set_option maxRecDepth 20000 in
theorem ggX2_tick_X2_look : GoodIn wsX2_tick wsX2_look := goodIn_r _ [4, 5, 6, 3, 7, 8, 9, 10, 11, 12, 13, 14, 15, 16, 17, 18, 19, 20, 21, 22, 23, 24, 25, 26, 27, 28, 29, 30, 31, 32, 33, 34, 35] (by decide +kernel) (by decide +kernel)
set_option maxRecDepth 20000 in
theorem gX2_tick_X2_look : GoodIn wsX2_tick (va_wsS RX2 88 yX2_look wsX2_look) := goodIn_app (goodIn_of _ (by decide +kernel)) ggX2_tick_X2_look
set_option maxRecDepth 20000 in
theorem ggX2_tick_X2_forget : GoodIn wsX2_tick wsX2_forget := goodIn_r _ [38, 5, 6, 3, 7, 8, 9, 10, 14, 15, 16, 27, 28, 29] (by decide +kernel) (by decide +kernel)
set_option maxRecDepth 20000 in
theorem gX2_tick_X2_forget : GoodIn wsX2_tick (va_wsS RX2 91 yX2_forget wsX2_forget) := goodIn_app (goodIn_of _ (by decide +kernel)) ggX2_tick_X2_forget
theorem dX2_tick_0 : decode cX2_tick 0 = .ok (.aload_n 0, 1) := by decide +kernel
theorem dX2_tick_1 : decode cX2_tick 1 = .ok (.bipush 70, 2) := by decide +kernel
theorem dX2_tick_3 : decode cX2_tick 3 = .ok (.dup2, 1) := by decide +kernel
theorem dX2_tick_4 : decode cX2_tick 4 = .ok (.iaload, 1) := by decide +kernel
theorem dX2_tick_5 : decode cX2_tick 5 = .ok (.iconst 1, 1) := by decide +kernel
theorem dX2_tick_6 : decode cX2_tick 6 = .ok (.iadd, 1) := by decide +kernel
theorem dX2_tick_7 : decode cX2_tick 7 = .ok (.iastore, 1) := by decide +kernel
theorem dX2_tick_8 : decode cX2_tick 8 = .ok (.iconst 0, 1) := by decide +kernel
theorem dX2_tick_9 : decode cX2_tick 9 = .ok (.istore_n 1, 1) := by decide +kernel
theorem dX2_tick_10 : decode cX2_tick 10 = .ok (.iload_n 1, 1) := by decide +kernel
theorem dX2_tick_11 : decode cX2_tick 11 = .ok (.bipush 6, 2) := by decide +kernel
theorem dX2_tick_13 : decode cX2_tick 13 = .ok (.if_icmp .ge 33, 3) := by decide +kernel
theorem dX2_tick_16 : decode cX2_tick 16 = .ok (.aload_n 0, 1) := by decide +kernel
theorem dX2_tick_17 : decode cX2_tick 17 = .ok (.iload_n 1, 1) := by decide +kernel
theorem dX2_tick_18 : decode cX2_tick 18 = .ok (.iaload, 1) := by decide +kernel
theorem dX2_tick_19 : decode cX2_tick 19 = .ok (.ifCond .eq 21, 3) := by decide +kernel
theorem dX2_tick_22 : decode cX2_tick 22 = .ok (.aload_n 0, 1) := by decide +kernel
theorem dX2_tick_23 : decode cX2_tick 23 = .ok (.bipush 54, 2) := by decide +kernel
theorem dX2_tick_25 : decode cX2_tick 25 = .ok (.iload_n 1, 1) := by decide +kernel
theorem dX2_tick_26 : decode cX2_tick 26 = .ok (.iadd, 1) := by decide +kernel
theorem dX2_tick_27 : decode cX2_tick 27 = .ok (.iaload, 1) := by decide +kernel
theorem dX2_tick_28 : decode cX2_tick 28 = .ok (.aload_n 0, 1) := by decide +kernel
theorem dX2_tick_29 : decode cX2_tick 29 = .ok (.bipush 70, 2) := by decide +kernel
theorem dX2_tick_31 : decode cX2_tick 31 = .ok (.iaload, 1) := by decide +kernel
theorem dX2_tick_32 : decode cX2_tick 32 = .ok (.if_icmp .gt 8, 3) := by decide +kernel
theorem dX2_tick_35 : decode cX2_tick 35 = .ok (.aload_n 0, 1) := by decide +kernel
theorem dX2_tick_36 : decode cX2_tick 36 = .ok (.iload_n 1, 1) := by decide +kernel
theorem dX2_tick_37 : decode cX2_tick 37 = .ok (.invokestatic 88, 3) := by decide +kernel
theorem dX2_tick_40 : decode cX2_tick 40 = .ok (.iinc 1 1, 3) := by decide +kernel
theorem dX2_tick_43 : decode cX2_tick 43 = .ok (.goto (-33), 3) := by decide +kernel
theorem dX2_tick_46 : decode cX2_tick 46 = .ok (.iconst 0, 1) := by decide +kernel
theorem dX2_tick_47 : decode cX2_tick 47 = .ok (.istore_n 1, 1) := by decide +kernel
theorem dX2_tick_48 : decode cX2_tick 48 = .ok (.iload_n 1, 1) := by decide +kernel
theorem dX2_tick_49 : decode cX2_tick 49 = .ok (.bipush 6, 2) := by decide +kernel
theorem dX2_tick_51 : decode cX2_tick 51 = .ok (.if_icmp .ge 21, 3) := by decide +kernel
theorem dX2_tick_54 : decode cX2_tick 54 = .ok (.aload_n 0, 1) := by decide +kernel
theorem dX2_tick_55 : decode cX2_tick 55 = .ok (.iload_n 1, 1) := by decide +kernel
theorem dX2_tick_56 : decode cX2_tick 56 = .ok (.iaload, 1) := by decide +kernel
theorem dX2_tick_57 : decode cX2_tick 57 = .ok (.iconst 1, 1) := by decide +kernel
theorem dX2_tick_58 : decode cX2_tick 58 = .ok (.if_icmp .ne 8, 3) := by decide +kernel
theorem dX2_tick_61 : decode cX2_tick 61 = .ok (.aload_n 0, 1) := by decide +kernel
theorem dX2_tick_62 : decode cX2_tick 62 = .ok (.iload_n 1, 1) := by decide +kernel
theorem dX2_tick_63 : decode cX2_tick 63 = .ok (.invokestatic 91, 3) := by decide +kernel
theorem dX2_tick_66 : decode cX2_tick 66 = .ok (.iinc 1 1, 3) := by decide +kernel
theorem dX2_tick_69 : decode cX2_tick 69 = .ok (.goto (-21), 3) := by decide +kernel
theorem dX2_tick_72 : decode cX2_tick 72 = .ok (.return_, 1) := by decide +kernel
set_option maxRecDepth 20000 in
theorem ggX2_passOn_X2_lettersOf : GoodIn wsX2_passOn wsX2_lettersOf := goodIn_r _ [4] (by decide +kernel) (by decide +kernel)
set_option maxRecDepth 20000 in
theorem gX2_passOn_X2_lettersOf : GoodIn wsX2_passOn (va_wsS RX2 94 yX2_lettersOf wsX2_lettersOf) := goodIn_app (goodIn_of _ (by decide +kernel)) ggX2_passOn_X2_lettersOf
set_option maxRecDepth 20000 in
theorem ggX2_passOn_X2_tick : GoodIn wsX2_passOn wsX2_tick := goodIn_r _ [7, 8, 9, 3, 10, 11, 12, 13, 14, 15, 16, 17, 18, 19, 20, 21, 22, 23, 24, 25, 26, 27, 28, 29, 30, 31, 32, 33, 34, 35, 36, 37, 38, 39, 40, 41, 42, 43, 44] (by decide +kernel) (by decide +kernel)
set_option maxRecDepth 20000 in
theorem gX2_passOn_X2_tick : GoodIn wsX2_passOn (va_wsS RX2 97 yX2_tick wsX2_tick) := goodIn_app (goodIn_of _ (by decide +kernel)) ggX2_passOn_X2_tick
theorem dX2_passOn_0 : decode cX2_passOn 0 = .ok (.aload_n 0, 1) := by decide +kernel
theorem dX2_passOn_1 : decode cX2_passOn 1 = .ok (.invokestatic 94, 3) := by decide +kernel
theorem dX2_passOn_4 : decode cX2_passOn 4 = .ok (.istore_n 2, 1) := by decide +kernel
theorem dX2_passOn_5 : decode cX2_passOn 5 = .ok (.iconst 0, 1) := by decide +kernel
theorem dX2_passOn_6 : decode cX2_passOn 6 = .ok (.istore_n 3, 1) := by decide +kernel
theorem dX2_passOn_7 : decode cX2_passOn 7 = .ok (.iload_n 3, 1) := by decide +kernel
theorem dX2_passOn_8 : decode cX2_passOn 8 = .ok (.iload_n 1, 1) := by decide +kernel
theorem dX2_passOn_9 : decode cX2_passOn 9 = .ok (.if_icmp .ge 13, 3) := by decide +kernel
theorem dX2_passOn_12 : decode cX2_passOn 12 = .ok (.aload_n 0, 1) := by decide +kernel
theorem dX2_passOn_13 : decode cX2_passOn 13 = .ok (.invokestatic 97, 3) := by decide +kernel
theorem dX2_passOn_16 : decode cX2_passOn 16 = .ok (.iinc 3 1, 3) := by decide +kernel
theorem dX2_passOn_19 : decode cX2_passOn 19 = .ok (.goto (-12), 3) := by decide +kernel
theorem dX2_passOn_22 : decode cX2_passOn 22 = .ok (.aload_n 0, 1) := by decide +kernel
theorem dX2_passOn_23 : decode cX2_passOn 23 = .ok (.invokestatic 94, 3) := by decide +kernel
theorem dX2_passOn_26 : decode cX2_passOn 26 = .ok (.iload_n 2, 1) := by decide +kernel
theorem dX2_passOn_27 : decode cX2_passOn 27 = .ok (.isub, 1) := by decide +kernel
theorem dX2_passOn_28 : decode cX2_passOn 28 = .ok (.ireturn, 1) := by decide +kernel
set_option maxRecDepth 20000 in
theorem ggX2_write_X2_in : GoodIn wsX2_write wsX2_in := goodIn_r _ [7] (by decide +kernel) (by decide +kernel)
set_option maxRecDepth 20000 in
theorem gX2_write_X2_in : GoodIn wsX2_write (va_wsS RX2 47 yX2_in wsX2_in) := goodIn_app (goodIn_of _ (by decide +kernel)) ggX2_write_X2_in
theorem dX2_write_0 : decode cX2_write 0 = .ok (.iload_n 1, 1) := by decide +kernel
theorem dX2_write_1 : decode cX2_write 1 = .ok (.i2l, 1) := by decide +kernel
theorem dX2_write_2 : decode cX2_write 2 = .ok (.lconst 0, 1) := by decide +kernel
theorem dX2_write_3 : decode cX2_write 3 = .ok (.ldc2_w 100, 3) := by decide +kernel
theorem dX2_write_6 : decode cX2_write 6 = .ok (.invokestatic 47, 3) := by decide +kernel
theorem dX2_write_9 : decode cX2_write 9 = .ok (.ifCond .ne 6, 3) := by decide +kernel
theorem dX2_write_12 : decode cX2_write 12 = .ok (.bipush (-2), 2) := by decide +kernel
theorem dX2_write_14 : decode cX2_write 14 = .ok (.ireturn, 1) := by decide +kernel
theorem dX2_write_15 : decode cX2_write 15 = .ok (.aload_n 0, 1) := by decide +kernel
theorem dX2_write_16 : decode cX2_write 16 = .ok (.getfield 102, 3) := by decide +kernel
theorem dX2_write_19 : decode cX2_write 19 = .ok (.bipush 60, 2) := by decide +kernel
theorem dX2_write_21 : decode cX2_write 21 = .ok (.if_icmp .ne 6, 3) := by decide +kernel
theorem dX2_write_24 : decode cX2_write 24 = .ok (.bipush (-4), 2) := by decide +kernel
theorem dX2_write_26 : decode cX2_write 26 = .ok (.ireturn, 1) := by decide +kernel
theorem dX2_write_27 : decode cX2_write 27 = .ok (.aload_n 0, 1) := by decide +kernel
theorem dX2_write_28 : decode cX2_write 28 = .ok (.getfield 7, 3) := by decide +kernel
theorem dX2_write_31 : decode cX2_write 31 = .ok (.aload_n 0, 1) := by decide +kernel
theorem dX2_write_32 : decode cX2_write 32 = .ok (.getfield 102, 3) := by decide +kernel
theorem dX2_write_35 : decode cX2_write 35 = .ok (.iload_n 1, 1) := by decide +kernel
theorem dX2_write_36 : decode cX2_write 36 = .ok (.iastore, 1) := by decide +kernel
theorem dX2_write_37 : decode cX2_write 37 = .ok (.aload_n 0, 1) := by decide +kernel
theorem dX2_write_38 : decode cX2_write 38 = .ok (.dup, 1) := by decide +kernel
theorem dX2_write_39 : decode cX2_write 39 = .ok (.getfield 102, 3) := by decide +kernel
theorem dX2_write_42 : decode cX2_write 42 = .ok (.iconst 1, 1) := by decide +kernel
theorem dX2_write_43 : decode cX2_write 43 = .ok (.iadd, 1) := by decide +kernel
theorem dX2_write_44 : decode cX2_write 44 = .ok (.putfield 102, 3) := by decide +kernel
theorem dX2_write_47 : decode cX2_write 47 = .ok (.aload_n 0, 1) := by decide +kernel
theorem dX2_write_48 : decode cX2_write 48 = .ok (.getfield 102, 3) := by decide +kernel
theorem dX2_write_51 : decode cX2_write 51 = .ok (.ireturn, 1) := by decide +kernel
theorem dX2_wipe_0 : decode cX2_wipe 0 = .ok (.aload_n 0, 1) := by decide +kernel
theorem dX2_wipe_1 : decode cX2_wipe 1 = .ok (.getfield 102, 3) := by decide +kernel
theorem dX2_wipe_4 : decode cX2_wipe 4 = .ok (.istore_n 1, 1) := by decide +kernel
theorem dX2_wipe_5 : decode cX2_wipe 5 = .ok (.aload_n 0, 1) := by decide +kernel
theorem dX2_wipe_6 : decode cX2_wipe 6 = .ok (.iconst 0, 1) := by decide +kernel
theorem dX2_wipe_7 : decode cX2_wipe 7 = .ok (.putfield 102, 3) := by decide +kernel
theorem dX2_wipe_10 : decode cX2_wipe 10 = .ok (.iload_n 1, 1) := by decide +kernel
theorem dX2_wipe_11 : decode cX2_wipe 11 = .ok (.ireturn, 1) := by decide +kernel
theorem dX2_those_0 : decode cX2_those 0 = .ok (.iconst 0, 1) := by decide +kernel
theorem dX2_those_1 : decode cX2_those 1 = .ok (.istore_n 2, 1) := by decide +kernel
theorem dX2_those_2 : decode cX2_those 2 = .ok (.iconst 0, 1) := by decide +kernel
theorem dX2_those_3 : decode cX2_those 3 = .ok (.istore_n 3, 1) := by decide +kernel
theorem dX2_those_4 : decode cX2_those 4 = .ok (.iload_n 3, 1) := by decide +kernel
theorem dX2_those_5 : decode cX2_those 5 = .ok (.bipush 6, 2) := by decide +kernel
theorem dX2_those_7 : decode cX2_those 7 = .ok (.if_icmp .ge 26, 3) := by decide +kernel
theorem dX2_those_10 : decode cX2_those 10 = .ok (.iload_n 2, 1) := by decide +kernel
theorem dX2_those_11 : decode cX2_those 11 = .ok (.aload_n 0, 1) := by decide +kernel
theorem dX2_those_12 : decode cX2_those 12 = .ok (.iload_n 3, 1) := by decide +kernel
theorem dX2_those_13 : decode cX2_those 13 = .ok (.iaload, 1) := by decide +kernel
theorem dX2_those_14 : decode cX2_those 14 = .ok (.iload_n 1, 1) := by decide +kernel
theorem dX2_those_15 : decode cX2_those 15 = .ok (.if_icmp .ne 9, 3) := by decide +kernel
theorem dX2_those_18 : decode cX2_those 18 = .ok (.iconst 1, 1) := by decide +kernel
theorem dX2_those_19 : decode cX2_those 19 = .ok (.iload_n 3, 1) := by decide +kernel
theorem dX2_those_20 : decode cX2_those 20 = .ok (.ishl, 1) := by decide +kernel
theorem dX2_those_21 : decode cX2_those 21 = .ok (.goto 4, 3) := by decide +kernel
theorem dX2_those_24 : decode cX2_those 24 = .ok (.iconst 0, 1) := by decide +kernel
theorem dX2_those_25 : decode cX2_those 25 = .ok (.ior, 1) := by decide +kernel
theorem dX2_those_26 : decode cX2_those 26 = .ok (.istore_n 2, 1) := by decide +kernel
theorem dX2_those_27 : decode cX2_those 27 = .ok (.iinc 3 1, 3) := by decide +kernel
theorem dX2_those_30 : decode cX2_those 30 = .ok (.goto (-26), 3) := by decide +kernel
theorem dX2_those_33 : decode cX2_those 33 = .ok (.iload_n 2, 1) := by decide +kernel
theorem dX2_those_34 : decode cX2_those 34 = .ok (.ireturn, 1) := by decide +kernel

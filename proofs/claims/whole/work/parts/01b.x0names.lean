theorem dX0_init_0 : decode cX0_init 0 = .ok (.aload_n 0, 1) := by decide +kernel
theorem dX0_init_1 : decode cX0_init 1 = .ok (.invokespecial 3, 3) := by decide +kernel
theorem dX0_init_4 : decode cX0_init 4 = .ok (.aload_n 0, 1) := by decide +kernel
theorem dX0_init_5 : decode cX0_init 5 = .ok (.iconst 1, 1) := by decide +kernel
theorem dX0_init_6 : decode cX0_init 6 = .ok (.putfield 9, 3) := by decide +kernel
theorem dX0_init_9 : decode cX0_init 9 = .ok (.aload_n 0, 1) := by decide +kernel
theorem dX0_init_10 : decode cX0_init 10 = .ok (.iconst 1, 1) := by decide +kernel
theorem dX0_init_11 : decode cX0_init 11 = .ok (.putfield 15, 3) := by decide +kernel
theorem dX0_init_14 : decode cX0_init 14 = .ok (.aload_n 0, 1) := by decide +kernel
theorem dX0_init_15 : decode cX0_init 15 = .ok (.iconst 1, 1) := by decide +kernel
theorem dX0_init_16 : decode cX0_init 16 = .ok (.putfield 18, 3) := by decide +kernel
theorem dX0_init_19 : decode cX0_init 19 = .ok (.aload_n 0, 1) := by decide +kernel
theorem dX0_init_20 : decode cX0_init 20 = .ok (.iconst 0, 1) := by decide +kernel
theorem dX0_init_21 : decode cX0_init 21 = .ok (.putfield 21, 3) := by decide +kernel
theorem dX0_init_24 : decode cX0_init 24 = .ok (.aload_n 0, 1) := by decide +kernel
theorem dX0_init_25 : decode cX0_init 25 = .ok (.iconst 0, 1) := by decide +kernel
theorem dX0_init_26 : decode cX0_init 26 = .ok (.putfield 24, 3) := by decide +kernel
theorem dX0_init_29 : decode cX0_init 29 = .ok (.aload_n 0, 1) := by decide +kernel
theorem dX0_init_30 : decode cX0_init 30 = .ok (.iconst 0, 1) := by decide +kernel
theorem dX0_init_31 : decode cX0_init 31 = .ok (.putfield 27, 3) := by decide +kernel
theorem dX0_init_34 : decode cX0_init 34 = .ok (.aload_n 0, 1) := by decide +kernel
theorem dX0_init_35 : decode cX0_init 35 = .ok (.iconst 0, 1) := by decide +kernel
theorem dX0_init_36 : decode cX0_init 36 = .ok (.putfield 30, 3) := by decide +kernel
theorem dX0_init_39 : decode cX0_init 39 = .ok (.aload_n 0, 1) := by decide +kernel
theorem dX0_init_40 : decode cX0_init 40 = .ok (.bipush 6, 2) := by decide +kernel
theorem dX0_init_42 : decode cX0_init 42 = .ok (.newarray .int, 2) := by decide +kernel
theorem dX0_init_44 : decode cX0_init 44 = .ok (.putfield 33, 3) := by decide +kernel
theorem dX0_init_47 : decode cX0_init 47 = .ok (.aload_n 0, 1) := by decide +kernel
theorem dX0_init_48 : decode cX0_init 48 = .ok (.bipush 6, 2) := by decide +kernel
theorem dX0_init_50 : decode cX0_init 50 = .ok (.newarray .int, 2) := by decide +kernel
theorem dX0_init_52 : decode cX0_init 52 = .ok (.putfield 37, 3) := by decide +kernel
theorem dX0_init_55 : decode cX0_init 55 = .ok (.aload_n 0, 1) := by decide +kernel
theorem dX0_init_56 : decode cX0_init 56 = .ok (.bipush 6, 2) := by decide +kernel
theorem dX0_init_58 : decode cX0_init 58 = .ok (.newarray .int, 2) := by decide +kernel
theorem dX0_init_60 : decode cX0_init 60 = .ok (.putfield 40, 3) := by decide +kernel
theorem dX0_init_63 : decode cX0_init 63 = .ok (.aload_n 0, 1) := by decide +kernel
theorem dX0_init_64 : decode cX0_init 64 = .ok (.bipush 6, 2) := by decide +kernel
theorem dX0_init_66 : decode cX0_init 66 = .ok (.newarray .int, 2) := by decide +kernel
theorem dX0_init_68 : decode cX0_init 68 = .ok (.putfield 43, 3) := by decide +kernel
theorem dX0_init_71 : decode cX0_init 71 = .ok (.aload_n 0, 1) := by decide +kernel
theorem dX0_init_72 : decode cX0_init 72 = .ok (.bipush 6, 2) := by decide +kernel
theorem dX0_init_74 : decode cX0_init 74 = .ok (.newarray .int, 2) := by decide +kernel
theorem dX0_init_76 : decode cX0_init 76 = .ok (.putfield 46, 3) := by decide +kernel
theorem dX0_init_79 : decode cX0_init 79 = .ok (.aload_n 0, 1) := by decide +kernel
theorem dX0_init_80 : decode cX0_init 80 = .ok (.bipush 6, 2) := by decide +kernel
theorem dX0_init_82 : decode cX0_init 82 = .ok (.newarray .int, 2) := by decide +kernel
theorem dX0_init_84 : decode cX0_init 84 = .ok (.putfield 49, 3) := by decide +kernel
theorem dX0_init_87 : decode cX0_init 87 = .ok (.aload_n 0, 1) := by decide +kernel
theorem dX0_init_88 : decode cX0_init 88 = .ok (.bipush 36, 2) := by decide +kernel
theorem dX0_init_90 : decode cX0_init 90 = .ok (.newarray .int, 2) := by decide +kernel
theorem dX0_init_92 : decode cX0_init 92 = .ok (.putfield 52, 3) := by decide +kernel
theorem dX0_init_95 : decode cX0_init 95 = .ok (.return_, 1) := by decide +kernel
set_option maxRecDepth 20000 in
theorem ggX0_restart_X0_goAway : GoodIn wsX0_restart wsX0_goAway := goodIn_r _ [9, 10, 11, 12, 13, 14, 15, 16, 17, 18, 19, 20, 21, 22, 23, 24, 25, 26, 27, 28] (by decide +kernel) (by decide +kernel)
set_option maxRecDepth 20000 in
theorem gX0_restart_X0_goAway : GoodIn wsX0_restart (wsV RX0 55 RX0 yX0_goAway wsX0_goAway) := goodIn_app (goodIn_of _ (by decide +kernel)) ggX0_restart_X0_goAway
theorem dX0_restart_0 : decode cX0_restart 0 = .ok (.aload_n 0, 1) := by decide +kernel
theorem dX0_restart_1 : decode cX0_restart 1 = .ok (.iconst 0, 1) := by decide +kernel
theorem dX0_restart_2 : decode cX0_restart 2 = .ok (.putfield 21, 3) := by decide +kernel
theorem dX0_restart_5 : decode cX0_restart 5 = .ok (.aload_n 0, 1) := by decide +kernel
theorem dX0_restart_6 : decode cX0_restart 6 = .ok (.iconst 0, 1) := by decide +kernel
theorem dX0_restart_7 : decode cX0_restart 7 = .ok (.putfield 27, 3) := by decide +kernel
theorem dX0_restart_10 : decode cX0_restart 10 = .ok (.aload_n 0, 1) := by decide +kernel
theorem dX0_restart_11 : decode cX0_restart 11 = .ok (.iconst 0, 1) := by decide +kernel
theorem dX0_restart_12 : decode cX0_restart 12 = .ok (.putfield 30, 3) := by decide +kernel
theorem dX0_restart_15 : decode cX0_restart 15 = .ok (.iconst 0, 1) := by decide +kernel
theorem dX0_restart_16 : decode cX0_restart 16 = .ok (.istore_n 1, 1) := by decide +kernel
theorem dX0_restart_17 : decode cX0_restart 17 = .ok (.iload_n 1, 1) := by decide +kernel
theorem dX0_restart_18 : decode cX0_restart 18 = .ok (.bipush 6, 2) := by decide +kernel
theorem dX0_restart_20 : decode cX0_restart 20 = .ok (.if_icmp .ge 21, 3) := by decide +kernel
theorem dX0_restart_23 : decode cX0_restart 23 = .ok (.aload_n 0, 1) := by decide +kernel
theorem dX0_restart_24 : decode cX0_restart 24 = .ok (.iload_n 1, 1) := by decide +kernel
theorem dX0_restart_25 : decode cX0_restart 25 = .ok (.invokevirtual 55, 3) := by decide +kernel
theorem dX0_restart_28 : decode cX0_restart 28 = .ok (.aload_n 0, 1) := by decide +kernel
theorem dX0_restart_29 : decode cX0_restart 29 = .ok (.getfield 49, 3) := by decide +kernel
theorem dX0_restart_32 : decode cX0_restart 32 = .ok (.iload_n 1, 1) := by decide +kernel
theorem dX0_restart_33 : decode cX0_restart 33 = .ok (.iconst 0, 1) := by decide +kernel
theorem dX0_restart_34 : decode cX0_restart 34 = .ok (.iastore, 1) := by decide +kernel
theorem dX0_restart_35 : decode cX0_restart 35 = .ok (.iinc 1 1, 3) := by decide +kernel
theorem dX0_restart_38 : decode cX0_restart 38 = .ok (.goto (-21), 3) := by decide +kernel
theorem dX0_restart_41 : decode cX0_restart 41 = .ok (.return_, 1) := by decide +kernel
theorem dX0_takeFrom_0 : decode cX0_takeFrom 0 = .ok (.aload_n 0, 1) := by decide +kernel
theorem dX0_takeFrom_1 : decode cX0_takeFrom 1 = .ok (.aload_n 1, 1) := by decide +kernel
theorem dX0_takeFrom_2 : decode cX0_takeFrom 2 = .ok (.getfield 9, 3) := by decide +kernel
theorem dX0_takeFrom_5 : decode cX0_takeFrom 5 = .ok (.putfield 9, 3) := by decide +kernel
theorem dX0_takeFrom_8 : decode cX0_takeFrom 8 = .ok (.aload_n 0, 1) := by decide +kernel
theorem dX0_takeFrom_9 : decode cX0_takeFrom 9 = .ok (.aload_n 1, 1) := by decide +kernel
theorem dX0_takeFrom_10 : decode cX0_takeFrom 10 = .ok (.getfield 15, 3) := by decide +kernel
theorem dX0_takeFrom_13 : decode cX0_takeFrom 13 = .ok (.putfield 15, 3) := by decide +kernel
theorem dX0_takeFrom_16 : decode cX0_takeFrom 16 = .ok (.aload_n 0, 1) := by decide +kernel
theorem dX0_takeFrom_17 : decode cX0_takeFrom 17 = .ok (.aload_n 1, 1) := by decide +kernel
theorem dX0_takeFrom_18 : decode cX0_takeFrom 18 = .ok (.getfield 18, 3) := by decide +kernel
theorem dX0_takeFrom_21 : decode cX0_takeFrom 21 = .ok (.putfield 18, 3) := by decide +kernel
theorem dX0_takeFrom_24 : decode cX0_takeFrom 24 = .ok (.aload_n 0, 1) := by decide +kernel
theorem dX0_takeFrom_25 : decode cX0_takeFrom 25 = .ok (.aload_n 1, 1) := by decide +kernel
theorem dX0_takeFrom_26 : decode cX0_takeFrom 26 = .ok (.getfield 21, 3) := by decide +kernel
theorem dX0_takeFrom_29 : decode cX0_takeFrom 29 = .ok (.putfield 21, 3) := by decide +kernel
theorem dX0_takeFrom_32 : decode cX0_takeFrom 32 = .ok (.aload_n 0, 1) := by decide +kernel
theorem dX0_takeFrom_33 : decode cX0_takeFrom 33 = .ok (.aload_n 1, 1) := by decide +kernel
theorem dX0_takeFrom_34 : decode cX0_takeFrom 34 = .ok (.getfield 24, 3) := by decide +kernel
theorem dX0_takeFrom_37 : decode cX0_takeFrom 37 = .ok (.putfield 24, 3) := by decide +kernel
theorem dX0_takeFrom_40 : decode cX0_takeFrom 40 = .ok (.aload_n 0, 1) := by decide +kernel
theorem dX0_takeFrom_41 : decode cX0_takeFrom 41 = .ok (.aload_n 1, 1) := by decide +kernel
theorem dX0_takeFrom_42 : decode cX0_takeFrom 42 = .ok (.getfield 27, 3) := by decide +kernel
theorem dX0_takeFrom_45 : decode cX0_takeFrom 45 = .ok (.putfield 27, 3) := by decide +kernel
theorem dX0_takeFrom_48 : decode cX0_takeFrom 48 = .ok (.aload_n 0, 1) := by decide +kernel
theorem dX0_takeFrom_49 : decode cX0_takeFrom 49 = .ok (.aload_n 1, 1) := by decide +kernel
theorem dX0_takeFrom_50 : decode cX0_takeFrom 50 = .ok (.getfield 30, 3) := by decide +kernel
theorem dX0_takeFrom_53 : decode cX0_takeFrom 53 = .ok (.putfield 30, 3) := by decide +kernel
theorem dX0_takeFrom_56 : decode cX0_takeFrom 56 = .ok (.aload_n 1, 1) := by decide +kernel
theorem dX0_takeFrom_57 : decode cX0_takeFrom 57 = .ok (.getfield 33, 3) := by decide +kernel
theorem dX0_takeFrom_60 : decode cX0_takeFrom 60 = .ok (.iconst 0, 1) := by decide +kernel
theorem dX0_takeFrom_61 : decode cX0_takeFrom 61 = .ok (.aload_n 0, 1) := by decide +kernel
theorem dX0_takeFrom_62 : decode cX0_takeFrom 62 = .ok (.getfield 33, 3) := by decide +kernel
theorem dX0_takeFrom_65 : decode cX0_takeFrom 65 = .ok (.iconst 0, 1) := by decide +kernel
theorem dX0_takeFrom_66 : decode cX0_takeFrom 66 = .ok (.bipush 6, 2) := by decide +kernel
theorem dX0_takeFrom_68 : decode cX0_takeFrom 68 = .ok (.invokestatic 59, 3) := by decide +kernel
theorem dX0_takeFrom_71 : decode cX0_takeFrom 71 = .ok (.aload_n 1, 1) := by decide +kernel
theorem dX0_takeFrom_72 : decode cX0_takeFrom 72 = .ok (.getfield 37, 3) := by decide +kernel
theorem dX0_takeFrom_75 : decode cX0_takeFrom 75 = .ok (.iconst 0, 1) := by decide +kernel
theorem dX0_takeFrom_76 : decode cX0_takeFrom 76 = .ok (.aload_n 0, 1) := by decide +kernel
theorem dX0_takeFrom_77 : decode cX0_takeFrom 77 = .ok (.getfield 37, 3) := by decide +kernel
theorem dX0_takeFrom_80 : decode cX0_takeFrom 80 = .ok (.iconst 0, 1) := by decide +kernel
theorem dX0_takeFrom_81 : decode cX0_takeFrom 81 = .ok (.bipush 6, 2) := by decide +kernel
theorem dX0_takeFrom_83 : decode cX0_takeFrom 83 = .ok (.invokestatic 59, 3) := by decide +kernel
theorem dX0_takeFrom_86 : decode cX0_takeFrom 86 = .ok (.aload_n 1, 1) := by decide +kernel
theorem dX0_takeFrom_87 : decode cX0_takeFrom 87 = .ok (.getfield 40, 3) := by decide +kernel
theorem dX0_takeFrom_90 : decode cX0_takeFrom 90 = .ok (.iconst 0, 1) := by decide +kernel
theorem dX0_takeFrom_91 : decode cX0_takeFrom 91 = .ok (.aload_n 0, 1) := by decide +kernel
theorem dX0_takeFrom_92 : decode cX0_takeFrom 92 = .ok (.getfield 40, 3) := by decide +kernel
theorem dX0_takeFrom_95 : decode cX0_takeFrom 95 = .ok (.iconst 0, 1) := by decide +kernel
theorem dX0_takeFrom_96 : decode cX0_takeFrom 96 = .ok (.bipush 6, 2) := by decide +kernel
theorem dX0_takeFrom_98 : decode cX0_takeFrom 98 = .ok (.invokestatic 59, 3) := by decide +kernel
theorem dX0_takeFrom_101 : decode cX0_takeFrom 101 = .ok (.aload_n 1, 1) := by decide +kernel
theorem dX0_takeFrom_102 : decode cX0_takeFrom 102 = .ok (.getfield 43, 3) := by decide +kernel
theorem dX0_takeFrom_105 : decode cX0_takeFrom 105 = .ok (.iconst 0, 1) := by decide +kernel
theorem dX0_takeFrom_106 : decode cX0_takeFrom 106 = .ok (.aload_n 0, 1) := by decide +kernel
theorem dX0_takeFrom_107 : decode cX0_takeFrom 107 = .ok (.getfield 43, 3) := by decide +kernel
theorem dX0_takeFrom_110 : decode cX0_takeFrom 110 = .ok (.iconst 0, 1) := by decide +kernel
theorem dX0_takeFrom_111 : decode cX0_takeFrom 111 = .ok (.bipush 6, 2) := by decide +kernel
theorem dX0_takeFrom_113 : decode cX0_takeFrom 113 = .ok (.invokestatic 59, 3) := by decide +kernel
theorem dX0_takeFrom_116 : decode cX0_takeFrom 116 = .ok (.aload_n 1, 1) := by decide +kernel
theorem dX0_takeFrom_117 : decode cX0_takeFrom 117 = .ok (.getfield 46, 3) := by decide +kernel
theorem dX0_takeFrom_120 : decode cX0_takeFrom 120 = .ok (.iconst 0, 1) := by decide +kernel
theorem dX0_takeFrom_121 : decode cX0_takeFrom 121 = .ok (.aload_n 0, 1) := by decide +kernel
theorem dX0_takeFrom_122 : decode cX0_takeFrom 122 = .ok (.getfield 46, 3) := by decide +kernel
theorem dX0_takeFrom_125 : decode cX0_takeFrom 125 = .ok (.iconst 0, 1) := by decide +kernel
theorem dX0_takeFrom_126 : decode cX0_takeFrom 126 = .ok (.bipush 6, 2) := by decide +kernel
theorem dX0_takeFrom_128 : decode cX0_takeFrom 128 = .ok (.invokestatic 59, 3) := by decide +kernel
theorem dX0_takeFrom_131 : decode cX0_takeFrom 131 = .ok (.aload_n 1, 1) := by decide +kernel
theorem dX0_takeFrom_132 : decode cX0_takeFrom 132 = .ok (.getfield 49, 3) := by decide +kernel
theorem dX0_takeFrom_135 : decode cX0_takeFrom 135 = .ok (.iconst 0, 1) := by decide +kernel
theorem dX0_takeFrom_136 : decode cX0_takeFrom 136 = .ok (.aload_n 0, 1) := by decide +kernel
theorem dX0_takeFrom_137 : decode cX0_takeFrom 137 = .ok (.getfield 49, 3) := by decide +kernel
theorem dX0_takeFrom_140 : decode cX0_takeFrom 140 = .ok (.iconst 0, 1) := by decide +kernel
theorem dX0_takeFrom_141 : decode cX0_takeFrom 141 = .ok (.bipush 6, 2) := by decide +kernel
theorem dX0_takeFrom_143 : decode cX0_takeFrom 143 = .ok (.invokestatic 59, 3) := by decide +kernel
theorem dX0_takeFrom_146 : decode cX0_takeFrom 146 = .ok (.aload_n 1, 1) := by decide +kernel
theorem dX0_takeFrom_147 : decode cX0_takeFrom 147 = .ok (.getfield 52, 3) := by decide +kernel
theorem dX0_takeFrom_150 : decode cX0_takeFrom 150 = .ok (.iconst 0, 1) := by decide +kernel
theorem dX0_takeFrom_151 : decode cX0_takeFrom 151 = .ok (.aload_n 0, 1) := by decide +kernel
theorem dX0_takeFrom_152 : decode cX0_takeFrom 152 = .ok (.getfield 52, 3) := by decide +kernel
theorem dX0_takeFrom_155 : decode cX0_takeFrom 155 = .ok (.iconst 0, 1) := by decide +kernel
theorem dX0_takeFrom_156 : decode cX0_takeFrom 156 = .ok (.bipush 36, 2) := by decide +kernel
theorem dX0_takeFrom_158 : decode cX0_takeFrom 158 = .ok (.invokestatic 59, 3) := by decide +kernel
theorem dX0_takeFrom_161 : decode cX0_takeFrom 161 = .ok (.return_, 1) := by decide +kernel
theorem dX0_sent_0 : decode cX0_sent 0 = .ok (.aload_n 0, 1) := by decide +kernel
theorem dX0_sent_1 : decode cX0_sent 1 = .ok (.getfield 27, 3) := by decide +kernel
theorem dX0_sent_4 : decode cX0_sent 4 = .ok (.aload_n 0, 1) := by decide +kernel
theorem dX0_sent_5 : decode cX0_sent 5 = .ok (.getfield 30, 3) := by decide +kernel
theorem dX0_sent_8 : decode cX0_sent 8 = .ok (.iadd, 1) := by decide +kernel
theorem dX0_sent_9 : decode cX0_sent 9 = .ok (.ireturn, 1) := by decide +kernel
theorem dX0_bitsOf_0 : decode cX0_bitsOf 0 = .ok (.iconst 0, 1) := by decide +kernel
theorem dX0_bitsOf_1 : decode cX0_bitsOf 1 = .ok (.istore_n 2, 1) := by decide +kernel
theorem dX0_bitsOf_2 : decode cX0_bitsOf 2 = .ok (.iconst 0, 1) := by decide +kernel
theorem dX0_bitsOf_3 : decode cX0_bitsOf 3 = .ok (.istore_n 3, 1) := by decide +kernel
theorem dX0_bitsOf_4 : decode cX0_bitsOf 4 = .ok (.iload_n 3, 1) := by decide +kernel
theorem dX0_bitsOf_5 : decode cX0_bitsOf 5 = .ok (.bipush 6, 2) := by decide +kernel
theorem dX0_bitsOf_7 : decode cX0_bitsOf 7 = .ok (.if_icmp .ge 25, 3) := by decide +kernel
theorem dX0_bitsOf_10 : decode cX0_bitsOf 10 = .ok (.aload_n 0, 1) := by decide +kernel
theorem dX0_bitsOf_11 : decode cX0_bitsOf 11 = .ok (.getfield 33, 3) := by decide +kernel
theorem dX0_bitsOf_14 : decode cX0_bitsOf 14 = .ok (.iload_n 3, 1) := by decide +kernel
theorem dX0_bitsOf_15 : decode cX0_bitsOf 15 = .ok (.iaload, 1) := by decide +kernel
theorem dX0_bitsOf_16 : decode cX0_bitsOf 16 = .ok (.iload_n 1, 1) := by decide +kernel
theorem dX0_bitsOf_17 : decode cX0_bitsOf 17 = .ok (.if_icmp .ne 9, 3) := by decide +kernel
theorem dX0_bitsOf_20 : decode cX0_bitsOf 20 = .ok (.iload_n 2, 1) := by decide +kernel
theorem dX0_bitsOf_21 : decode cX0_bitsOf 21 = .ok (.iconst 1, 1) := by decide +kernel
theorem dX0_bitsOf_22 : decode cX0_bitsOf 22 = .ok (.iload_n 3, 1) := by decide +kernel
theorem dX0_bitsOf_23 : decode cX0_bitsOf 23 = .ok (.ishl, 1) := by decide +kernel
theorem dX0_bitsOf_24 : decode cX0_bitsOf 24 = .ok (.ior, 1) := by decide +kernel
theorem dX0_bitsOf_25 : decode cX0_bitsOf 25 = .ok (.istore_n 2, 1) := by decide +kernel
theorem dX0_bitsOf_26 : decode cX0_bitsOf 26 = .ok (.iinc 3 1, 3) := by decide +kernel
theorem dX0_bitsOf_29 : decode cX0_bitsOf 29 = .ok (.goto (-25), 3) := by decide +kernel
theorem dX0_bitsOf_32 : decode cX0_bitsOf 32 = .ok (.iload_n 2, 1) := by decide +kernel
theorem dX0_bitsOf_33 : decode cX0_bitsOf 33 = .ok (.ireturn, 1) := by decide +kernel
theorem dX0_knows_0 : decode cX0_knows 0 = .ok (.aload_n 0, 1) := by decide +kernel
theorem dX0_knows_1 : decode cX0_knows 1 = .ok (.getfield 37, 3) := by decide +kernel
theorem dX0_knows_4 : decode cX0_knows 4 = .ok (.iload_n 1, 1) := by decide +kernel
theorem dX0_knows_5 : decode cX0_knows 5 = .ok (.iaload, 1) := by decide +kernel
theorem dX0_knows_6 : decode cX0_knows 6 = .ok (.iload_n 2, 1) := by decide +kernel
theorem dX0_knows_7 : decode cX0_knows 7 = .ok (.ishr, 1) := by decide +kernel
theorem dX0_knows_8 : decode cX0_knows 8 = .ok (.iconst 1, 1) := by decide +kernel
theorem dX0_knows_9 : decode cX0_knows 9 = .ok (.iand, 1) := by decide +kernel
theorem dX0_knows_10 : decode cX0_knows 10 = .ok (.ifCond .eq 7, 3) := by decide +kernel
theorem dX0_knows_13 : decode cX0_knows 13 = .ok (.iconst 1, 1) := by decide +kernel
theorem dX0_knows_14 : decode cX0_knows 14 = .ok (.goto 4, 3) := by decide +kernel
theorem dX0_knows_17 : decode cX0_knows 17 = .ok (.iconst 0, 1) := by decide +kernel
theorem dX0_knows_18 : decode cX0_knows 18 = .ok (.ireturn, 1) := by decide +kernel
theorem dX0_isOpen_0 : decode cX0_isOpen 0 = .ok (.aload_n 0, 1) := by decide +kernel
theorem dX0_isOpen_1 : decode cX0_isOpen 1 = .ok (.getfield 49, 3) := by decide +kernel
theorem dX0_isOpen_4 : decode cX0_isOpen 4 = .ok (.iload_n 1, 1) := by decide +kernel
theorem dX0_isOpen_5 : decode cX0_isOpen 5 = .ok (.iaload, 1) := by decide +kernel
theorem dX0_isOpen_6 : decode cX0_isOpen 6 = .ok (.iload_n 2, 1) := by decide +kernel
theorem dX0_isOpen_7 : decode cX0_isOpen 7 = .ok (.ishr, 1) := by decide +kernel
theorem dX0_isOpen_8 : decode cX0_isOpen 8 = .ok (.iconst 1, 1) := by decide +kernel
theorem dX0_isOpen_9 : decode cX0_isOpen 9 = .ok (.iand, 1) := by decide +kernel
theorem dX0_isOpen_10 : decode cX0_isOpen 10 = .ok (.ifCond .ne 7, 3) := by decide +kernel
theorem dX0_isOpen_13 : decode cX0_isOpen 13 = .ok (.iconst 1, 1) := by decide +kernel
theorem dX0_isOpen_14 : decode cX0_isOpen 14 = .ok (.goto 4, 3) := by decide +kernel
theorem dX0_isOpen_17 : decode cX0_isOpen 17 = .ok (.iconst 0, 1) := by decide +kernel
theorem dX0_isOpen_18 : decode cX0_isOpen 18 = .ok (.ireturn, 1) := by decide +kernel
set_option maxRecDepth 20000 in
theorem ggX0_countOf_J6_bitCount_0f7a4 : GoodIn wsX0_countOf wsJ6_bitCount_0f7a4 := goodIn_r _ [5, 6, 7, 8] (by decide +kernel) (by decide +kernel)
set_option maxRecDepth 20000 in
theorem gX0_countOf_J6_bitCount_0f7a4 : GoodIn wsX0_countOf (va_wsS RX0 65 yJ6_bitCount_0f7a4 wsJ6_bitCount_0f7a4) := goodIn_app (goodIn_of _ (by decide +kernel)) ggX0_countOf_J6_bitCount_0f7a4
theorem dX0_countOf_0 : decode cX0_countOf 0 = .ok (.iconst 1, 1) := by decide +kernel
theorem dX0_countOf_1 : decode cX0_countOf 1 = .ok (.aload_n 0, 1) := by decide +kernel
theorem dX0_countOf_2 : decode cX0_countOf 2 = .ok (.getfield 37, 3) := by decide +kernel
theorem dX0_countOf_5 : decode cX0_countOf 5 = .ok (.iload_n 1, 1) := by decide +kernel
theorem dX0_countOf_6 : decode cX0_countOf 6 = .ok (.iaload, 1) := by decide +kernel
theorem dX0_countOf_7 : decode cX0_countOf 7 = .ok (.invokestatic 65, 3) := by decide +kernel
theorem dX0_countOf_10 : decode cX0_countOf 10 = .ok (.iadd, 1) := by decide +kernel
theorem dX0_countOf_11 : decode cX0_countOf 11 = .ok (.ireturn, 1) := by decide +kernel
set_option maxRecDepth 20000 in
theorem ggX0_countTold_X0_countOf : GoodIn wsX0_countTold wsX0_countOf := goodIn_r _ [6, 7, 8, 9, 10, 11, 12, 13, 14, 15, 16, 17, 18, 19, 20, 21, 22, 23, 24, 25, 26, 27, 28] (by decide +kernel) (by decide +kernel)
set_option maxRecDepth 20000 in
theorem gX0_countTold_X0_countOf : GoodIn wsX0_countTold (wsV RX0 71 RX0 yX0_countOf wsX0_countOf) := goodIn_app (goodIn_of _ (by decide +kernel)) ggX0_countTold_X0_countOf
theorem dX0_countTold_0 : decode cX0_countTold 0 = .ok (.aload_n 0, 1) := by decide +kernel
theorem dX0_countTold_1 : decode cX0_countTold 1 = .ok (.getfield 33, 3) := by decide +kernel
theorem dX0_countTold_4 : decode cX0_countTold 4 = .ok (.iload_n 1, 1) := by decide +kernel
theorem dX0_countTold_5 : decode cX0_countTold 5 = .ok (.iaload, 1) := by decide +kernel
theorem dX0_countTold_6 : decode cX0_countTold 6 = .ok (.ifCond .ne 7, 3) := by decide +kernel
theorem dX0_countTold_9 : decode cX0_countTold 9 = .ok (.iconst 0, 1) := by decide +kernel
theorem dX0_countTold_10 : decode cX0_countTold 10 = .ok (.goto 8, 3) := by decide +kernel
theorem dX0_countTold_13 : decode cX0_countTold 13 = .ok (.aload_n 0, 1) := by decide +kernel
theorem dX0_countTold_14 : decode cX0_countTold 14 = .ok (.iload_n 1, 1) := by decide +kernel
theorem dX0_countTold_15 : decode cX0_countTold 15 = .ok (.invokevirtual 71, 3) := by decide +kernel
theorem dX0_countTold_18 : decode cX0_countTold 18 = .ok (.ireturn, 1) := by decide +kernel
set_option maxRecDepth 20000 in
theorem ggX0_isAtRest_X0_bitsOf : GoodIn wsX0_isAtRest wsX0_bitsOf := goodIn_r _ [7, 1, 8, 9, 10, 11, 12, 13, 14, 15, 16, 17, 18, 19, 20, 21] (by decide +kernel) (by decide +kernel)
set_option maxRecDepth 20000 in
theorem gX0_isAtRest_X0_bitsOf : GoodIn wsX0_isAtRest (wsV RX0 74 RX0 yX0_bitsOf wsX0_bitsOf) := goodIn_app (goodIn_of _ (by decide +kernel)) ggX0_isAtRest_X0_bitsOf
theorem dX0_isAtRest_0 : decode cX0_isAtRest 0 = .ok (.aload_n 0, 1) := by decide +kernel
theorem dX0_isAtRest_1 : decode cX0_isAtRest 1 = .ok (.iconst 1, 1) := by decide +kernel
theorem dX0_isAtRest_2 : decode cX0_isAtRest 2 = .ok (.invokevirtual 74, 3) := by decide +kernel
theorem dX0_isAtRest_5 : decode cX0_isAtRest 5 = .ok (.istore_n 1, 1) := by decide +kernel
theorem dX0_isAtRest_6 : decode cX0_isAtRest 6 = .ok (.iconst 0, 1) := by decide +kernel
theorem dX0_isAtRest_7 : decode cX0_isAtRest 7 = .ok (.istore_n 2, 1) := by decide +kernel
theorem dX0_isAtRest_8 : decode cX0_isAtRest 8 = .ok (.iload_n 2, 1) := by decide +kernel
theorem dX0_isAtRest_9 : decode cX0_isAtRest 9 = .ok (.bipush 6, 2) := by decide +kernel
theorem dX0_isAtRest_11 : decode cX0_isAtRest 11 = .ok (.if_icmp .ge 47, 3) := by decide +kernel
theorem dX0_isAtRest_14 : decode cX0_isAtRest 14 = .ok (.aload_n 0, 1) := by decide +kernel
theorem dX0_isAtRest_15 : decode cX0_isAtRest 15 = .ok (.getfield 33, 3) := by decide +kernel
theorem dX0_isAtRest_18 : decode cX0_isAtRest 18 = .ok (.iload_n 2, 1) := by decide +kernel
theorem dX0_isAtRest_19 : decode cX0_isAtRest 19 = .ok (.iaload, 1) := by decide +kernel
theorem dX0_isAtRest_20 : decode cX0_isAtRest 20 = .ok (.iconst 2, 1) := by decide +kernel
theorem dX0_isAtRest_21 : decode cX0_isAtRest 21 = .ok (.if_icmp .eq 29, 3) := by decide +kernel
theorem dX0_isAtRest_24 : decode cX0_isAtRest 24 = .ok (.aload_n 0, 1) := by decide +kernel
theorem dX0_isAtRest_25 : decode cX0_isAtRest 25 = .ok (.getfield 33, 3) := by decide +kernel
theorem dX0_isAtRest_28 : decode cX0_isAtRest 28 = .ok (.iload_n 2, 1) := by decide +kernel
theorem dX0_isAtRest_29 : decode cX0_isAtRest 29 = .ok (.iaload, 1) := by decide +kernel
theorem dX0_isAtRest_30 : decode cX0_isAtRest 30 = .ok (.iconst 1, 1) := by decide +kernel
theorem dX0_isAtRest_31 : decode cX0_isAtRest 31 = .ok (.if_icmp .ne 21, 3) := by decide +kernel
theorem dX0_isAtRest_34 : decode cX0_isAtRest 34 = .ok (.aload_n 0, 1) := by decide +kernel
theorem dX0_isAtRest_35 : decode cX0_isAtRest 35 = .ok (.getfield 37, 3) := by decide +kernel
theorem dX0_isAtRest_38 : decode cX0_isAtRest 38 = .ok (.iload_n 2, 1) := by decide +kernel
theorem dX0_isAtRest_39 : decode cX0_isAtRest 39 = .ok (.iaload, 1) := by decide +kernel
theorem dX0_isAtRest_40 : decode cX0_isAtRest 40 = .ok (.iload_n 1, 1) := by decide +kernel
theorem dX0_isAtRest_41 : decode cX0_isAtRest 41 = .ok (.iconst 1, 1) := by decide +kernel
theorem dX0_isAtRest_42 : decode cX0_isAtRest 42 = .ok (.iload_n 2, 1) := by decide +kernel
theorem dX0_isAtRest_43 : decode cX0_isAtRest 43 = .ok (.ishl, 1) := by decide +kernel
theorem dX0_isAtRest_44 : decode cX0_isAtRest 44 = .ok (.iconst (-1), 1) := by decide +kernel
theorem dX0_isAtRest_45 : decode cX0_isAtRest 45 = .ok (.ixor, 1) := by decide +kernel
theorem dX0_isAtRest_46 : decode cX0_isAtRest 46 = .ok (.iand, 1) := by decide +kernel
theorem dX0_isAtRest_47 : decode cX0_isAtRest 47 = .ok (.if_icmp .eq 5, 3) := by decide +kernel
theorem dX0_isAtRest_50 : decode cX0_isAtRest 50 = .ok (.iconst 0, 1) := by decide +kernel
theorem dX0_isAtRest_51 : decode cX0_isAtRest 51 = .ok (.ireturn, 1) := by decide +kernel
theorem dX0_isAtRest_52 : decode cX0_isAtRest 52 = .ok (.iinc 2 1, 3) := by decide +kernel
theorem dX0_isAtRest_55 : decode cX0_isAtRest 55 = .ok (.goto (-47), 3) := by decide +kernel
theorem dX0_isAtRest_58 : decode cX0_isAtRest 58 = .ok (.iconst 1, 1) := by decide +kernel
theorem dX0_isAtRest_59 : decode cX0_isAtRest 59 = .ok (.ireturn, 1) := by decide +kernel
theorem dX0_feltBits_0 : decode cX0_feltBits 0 = .ok (.iconst 0, 1) := by decide +kernel
theorem dX0_feltBits_1 : decode cX0_feltBits 1 = .ok (.istore_n 1, 1) := by decide +kernel
theorem dX0_feltBits_2 : decode cX0_feltBits 2 = .ok (.iconst 0, 1) := by decide +kernel
theorem dX0_feltBits_3 : decode cX0_feltBits 3 = .ok (.istore_n 2, 1) := by decide +kernel
theorem dX0_feltBits_4 : decode cX0_feltBits 4 = .ok (.iload_n 2, 1) := by decide +kernel
theorem dX0_feltBits_5 : decode cX0_feltBits 5 = .ok (.bipush 6, 2) := by decide +kernel
theorem dX0_feltBits_7 : decode cX0_feltBits 7 = .ok (.if_icmp .ge 33, 3) := by decide +kernel
theorem dX0_feltBits_10 : decode cX0_feltBits 10 = .ok (.iload_n 1, 1) := by decide +kernel
theorem dX0_feltBits_11 : decode cX0_feltBits 11 = .ok (.aload_n 0, 1) := by decide +kernel
theorem dX0_feltBits_12 : decode cX0_feltBits 12 = .ok (.getfield 37, 3) := by decide +kernel
theorem dX0_feltBits_15 : decode cX0_feltBits 15 = .ok (.iload_n 2, 1) := by decide +kernel
theorem dX0_feltBits_16 : decode cX0_feltBits 16 = .ok (.iaload, 1) := by decide +kernel
theorem dX0_feltBits_17 : decode cX0_feltBits 17 = .ok (.ior, 1) := by decide +kernel
theorem dX0_feltBits_18 : decode cX0_feltBits 18 = .ok (.istore_n 1, 1) := by decide +kernel
theorem dX0_feltBits_19 : decode cX0_feltBits 19 = .ok (.aload_n 0, 1) := by decide +kernel
theorem dX0_feltBits_20 : decode cX0_feltBits 20 = .ok (.getfield 33, 3) := by decide +kernel
theorem dX0_feltBits_23 : decode cX0_feltBits 23 = .ok (.iload_n 2, 1) := by decide +kernel
theorem dX0_feltBits_24 : decode cX0_feltBits 24 = .ok (.iaload, 1) := by decide +kernel
theorem dX0_feltBits_25 : decode cX0_feltBits 25 = .ok (.ifCond .eq 9, 3) := by decide +kernel
theorem dX0_feltBits_28 : decode cX0_feltBits 28 = .ok (.iload_n 1, 1) := by decide +kernel
theorem dX0_feltBits_29 : decode cX0_feltBits 29 = .ok (.iconst 1, 1) := by decide +kernel
theorem dX0_feltBits_30 : decode cX0_feltBits 30 = .ok (.iload_n 2, 1) := by decide +kernel
theorem dX0_feltBits_31 : decode cX0_feltBits 31 = .ok (.ishl, 1) := by decide +kernel
theorem dX0_feltBits_32 : decode cX0_feltBits 32 = .ok (.ior, 1) := by decide +kernel
theorem dX0_feltBits_33 : decode cX0_feltBits 33 = .ok (.istore_n 1, 1) := by decide +kernel
theorem dX0_feltBits_34 : decode cX0_feltBits 34 = .ok (.iinc 2 1, 3) := by decide +kernel
theorem dX0_feltBits_37 : decode cX0_feltBits 37 = .ok (.goto (-33), 3) := by decide +kernel
theorem dX0_feltBits_40 : decode cX0_feltBits 40 = .ok (.iload_n 1, 1) := by decide +kernel
theorem dX0_feltBits_41 : decode cX0_feltBits 41 = .ok (.ireturn, 1) := by decide +kernel
set_option maxRecDepth 20000 in
theorem ggX0_leaveOnly_X0_goAway : GoodIn wsX0_leaveOnly wsX0_goAway := goodIn_r _ [6, 7, 1, 8, 9, 10, 11, 12, 13, 14, 15, 16, 17, 18, 19, 20, 21, 22, 23, 24] (by decide +kernel) (by decide +kernel)
set_option maxRecDepth 20000 in
theorem gX0_leaveOnly_X0_goAway : GoodIn wsX0_leaveOnly (wsV RX0 55 RX0 yX0_goAway wsX0_goAway) := goodIn_app (goodIn_of _ (by decide +kernel)) ggX0_leaveOnly_X0_goAway
theorem dX0_leaveOnly_0 : decode cX0_leaveOnly 0 = .ok (.iconst 0, 1) := by decide +kernel
theorem dX0_leaveOnly_1 : decode cX0_leaveOnly 1 = .ok (.istore_n 2, 1) := by decide +kernel
theorem dX0_leaveOnly_2 : decode cX0_leaveOnly 2 = .ok (.iload_n 2, 1) := by decide +kernel
theorem dX0_leaveOnly_3 : decode cX0_leaveOnly 3 = .ok (.bipush 6, 2) := by decide +kernel
theorem dX0_leaveOnly_5 : decode cX0_leaveOnly 5 = .ok (.if_icmp .ge 32, 3) := by decide +kernel
theorem dX0_leaveOnly_8 : decode cX0_leaveOnly 8 = .ok (.aload_n 0, 1) := by decide +kernel
theorem dX0_leaveOnly_9 : decode cX0_leaveOnly 9 = .ok (.getfield 37, 3) := by decide +kernel
theorem dX0_leaveOnly_12 : decode cX0_leaveOnly 12 = .ok (.iload_n 2, 1) := by decide +kernel
theorem dX0_leaveOnly_13 : decode cX0_leaveOnly 13 = .ok (.dup2, 1) := by decide +kernel
theorem dX0_leaveOnly_14 : decode cX0_leaveOnly 14 = .ok (.iaload, 1) := by decide +kernel
theorem dX0_leaveOnly_15 : decode cX0_leaveOnly 15 = .ok (.iload_n 1, 1) := by decide +kernel
theorem dX0_leaveOnly_16 : decode cX0_leaveOnly 16 = .ok (.iand, 1) := by decide +kernel
theorem dX0_leaveOnly_17 : decode cX0_leaveOnly 17 = .ok (.iastore, 1) := by decide +kernel
theorem dX0_leaveOnly_18 : decode cX0_leaveOnly 18 = .ok (.iload_n 1, 1) := by decide +kernel
theorem dX0_leaveOnly_19 : decode cX0_leaveOnly 19 = .ok (.iload_n 2, 1) := by decide +kernel
theorem dX0_leaveOnly_20 : decode cX0_leaveOnly 20 = .ok (.ishr, 1) := by decide +kernel
theorem dX0_leaveOnly_21 : decode cX0_leaveOnly 21 = .ok (.iconst 1, 1) := by decide +kernel
theorem dX0_leaveOnly_22 : decode cX0_leaveOnly 22 = .ok (.iand, 1) := by decide +kernel
theorem dX0_leaveOnly_23 : decode cX0_leaveOnly 23 = .ok (.ifCond .ne 8, 3) := by decide +kernel
theorem dX0_leaveOnly_26 : decode cX0_leaveOnly 26 = .ok (.aload_n 0, 1) := by decide +kernel
theorem dX0_leaveOnly_27 : decode cX0_leaveOnly 27 = .ok (.iload_n 2, 1) := by decide +kernel
theorem dX0_leaveOnly_28 : decode cX0_leaveOnly 28 = .ok (.invokevirtual 55, 3) := by decide +kernel
theorem dX0_leaveOnly_31 : decode cX0_leaveOnly 31 = .ok (.iinc 2 1, 3) := by decide +kernel
theorem dX0_leaveOnly_34 : decode cX0_leaveOnly 34 = .ok (.goto (-32), 3) := by decide +kernel
theorem dX0_leaveOnly_37 : decode cX0_leaveOnly 37 = .ok (.return_, 1) := by decide +kernel
theorem dX0_turnWay_0 : decode cX0_turnWay 0 = .ok (.iload_n 1, 1) := by decide +kernel
theorem dX0_turnWay_1 : decode cX0_turnWay 1 = .ok (.iload_n 2, 1) := by decide +kernel
theorem dX0_turnWay_2 : decode cX0_turnWay 2 = .ok (.if_icmp .ne 5, 3) := by decide +kernel
theorem dX0_turnWay_5 : decode cX0_turnWay 5 = .ok (.iconst 0, 1) := by decide +kernel
theorem dX0_turnWay_6 : decode cX0_turnWay 6 = .ok (.ireturn, 1) := by decide +kernel
theorem dX0_turnWay_7 : decode cX0_turnWay 7 = .ok (.aload_n 0, 1) := by decide +kernel
theorem dX0_turnWay_8 : decode cX0_turnWay 8 = .ok (.getfield 49, 3) := by decide +kernel
theorem dX0_turnWay_11 : decode cX0_turnWay 11 = .ok (.iload_n 1, 1) := by decide +kernel
theorem dX0_turnWay_12 : decode cX0_turnWay 12 = .ok (.dup2, 1) := by decide +kernel
theorem dX0_turnWay_13 : decode cX0_turnWay 13 = .ok (.iaload, 1) := by decide +kernel
theorem dX0_turnWay_14 : decode cX0_turnWay 14 = .ok (.iconst 1, 1) := by decide +kernel
theorem dX0_turnWay_15 : decode cX0_turnWay 15 = .ok (.iload_n 2, 1) := by decide +kernel
theorem dX0_turnWay_16 : decode cX0_turnWay 16 = .ok (.ishl, 1) := by decide +kernel
theorem dX0_turnWay_17 : decode cX0_turnWay 17 = .ok (.ixor, 1) := by decide +kernel
theorem dX0_turnWay_18 : decode cX0_turnWay 18 = .ok (.iastore, 1) := by decide +kernel
theorem dX0_turnWay_19 : decode cX0_turnWay 19 = .ok (.iconst 1, 1) := by decide +kernel
theorem dX0_turnWay_20 : decode cX0_turnWay 20 = .ok (.ireturn, 1) := by decide +kernel
theorem dX0_tellAnew_0 : decode cX0_tellAnew 0 = .ok (.iload_n 1, 1) := by decide +kernel
theorem dX0_tellAnew_1 : decode cX0_tellAnew 1 = .ok (.ifCond .ne 16, 3) := by decide +kernel
theorem dX0_tellAnew_4 : decode cX0_tellAnew 4 = .ok (.aload_n 0, 1) := by decide +kernel
theorem dX0_tellAnew_5 : decode cX0_tellAnew 5 = .ok (.getfield 9, 3) := by decide +kernel
theorem dX0_tellAnew_8 : decode cX0_tellAnew 8 = .ok (.istore_n 3, 1) := by decide +kernel
theorem dX0_tellAnew_9 : decode cX0_tellAnew 9 = .ok (.aload_n 0, 1) := by decide +kernel
theorem dX0_tellAnew_10 : decode cX0_tellAnew 10 = .ok (.iload_n 2, 1) := by decide +kernel
theorem dX0_tellAnew_11 : decode cX0_tellAnew 11 = .ok (.putfield 9, 3) := by decide +kernel
theorem dX0_tellAnew_14 : decode cX0_tellAnew 14 = .ok (.goto 31, 3) := by decide +kernel
theorem dX0_tellAnew_17 : decode cX0_tellAnew 17 = .ok (.iload_n 1, 1) := by decide +kernel
theorem dX0_tellAnew_18 : decode cX0_tellAnew 18 = .ok (.iconst 1, 1) := by decide +kernel
theorem dX0_tellAnew_19 : decode cX0_tellAnew 19 = .ok (.if_icmp .ne 16, 3) := by decide +kernel
theorem dX0_tellAnew_22 : decode cX0_tellAnew 22 = .ok (.aload_n 0, 1) := by decide +kernel
theorem dX0_tellAnew_23 : decode cX0_tellAnew 23 = .ok (.getfield 15, 3) := by decide +kernel
theorem dX0_tellAnew_26 : decode cX0_tellAnew 26 = .ok (.istore_n 3, 1) := by decide +kernel
theorem dX0_tellAnew_27 : decode cX0_tellAnew 27 = .ok (.aload_n 0, 1) := by decide +kernel
theorem dX0_tellAnew_28 : decode cX0_tellAnew 28 = .ok (.iload_n 2, 1) := by decide +kernel
theorem dX0_tellAnew_29 : decode cX0_tellAnew 29 = .ok (.putfield 15, 3) := by decide +kernel
theorem dX0_tellAnew_32 : decode cX0_tellAnew 32 = .ok (.goto 13, 3) := by decide +kernel
theorem dX0_tellAnew_35 : decode cX0_tellAnew 35 = .ok (.aload_n 0, 1) := by decide +kernel
theorem dX0_tellAnew_36 : decode cX0_tellAnew 36 = .ok (.getfield 18, 3) := by decide +kernel
theorem dX0_tellAnew_39 : decode cX0_tellAnew 39 = .ok (.istore_n 3, 1) := by decide +kernel
theorem dX0_tellAnew_40 : decode cX0_tellAnew 40 = .ok (.aload_n 0, 1) := by decide +kernel
theorem dX0_tellAnew_41 : decode cX0_tellAnew 41 = .ok (.iload_n 2, 1) := by decide +kernel
theorem dX0_tellAnew_42 : decode cX0_tellAnew 42 = .ok (.putfield 18, 3) := by decide +kernel
theorem dX0_tellAnew_45 : decode cX0_tellAnew 45 = .ok (.iload_n 3, 1) := by decide +kernel
theorem dX0_tellAnew_46 : decode cX0_tellAnew 46 = .ok (.ireturn, 1) := by decide +kernel
theorem dX0_spanOf_0 : decode cX0_spanOf 0 = .ok (.iconst 1, 1) := by decide +kernel
theorem dX0_spanOf_1 : decode cX0_spanOf 1 = .ok (.aload_n 0, 1) := by decide +kernel
theorem dX0_spanOf_2 : decode cX0_spanOf 2 = .ok (.getfield 15, 3) := by decide +kernel
theorem dX0_spanOf_5 : decode cX0_spanOf 5 = .ok (.invokestatic 77, 3) := by decide +kernel
theorem dX0_spanOf_8 : decode cX0_spanOf 8 = .ok (.istore_n 2, 1) := by decide +kernel
theorem dX0_spanOf_9 : decode cX0_spanOf 9 = .ok (.aload_n 0, 1) := by decide +kernel
theorem dX0_spanOf_10 : decode cX0_spanOf 10 = .ok (.getfield 18, 3) := by decide +kernel
theorem dX0_spanOf_13 : decode cX0_spanOf 13 = .ok (.iload_n 1, 1) := by decide +kernel
theorem dX0_spanOf_14 : decode cX0_spanOf 14 = .ok (.aload_n 0, 1) := by decide +kernel
theorem dX0_spanOf_15 : decode cX0_spanOf 15 = .ok (.getfield 9, 3) := by decide +kernel
theorem dX0_spanOf_18 : decode cX0_spanOf 18 = .ok (.imul, 1) := by decide +kernel
theorem dX0_spanOf_19 : decode cX0_spanOf 19 = .ok (.iload_n 2, 1) := by decide +kernel
theorem dX0_spanOf_20 : decode cX0_spanOf 20 = .ok (.iadd, 1) := by decide +kernel
theorem dX0_spanOf_21 : decode cX0_spanOf 21 = .ok (.iconst 1, 1) := by decide +kernel
theorem dX0_spanOf_22 : decode cX0_spanOf 22 = .ok (.isub, 1) := by decide +kernel
theorem dX0_spanOf_23 : decode cX0_spanOf 23 = .ok (.iload_n 2, 1) := by decide +kernel
theorem dX0_spanOf_24 : decode cX0_spanOf 24 = .ok (.idiv, 1) := by decide +kernel
theorem dX0_spanOf_25 : decode cX0_spanOf 25 = .ok (.invokestatic 77, 3) := by decide +kernel
theorem dX0_spanOf_28 : decode cX0_spanOf 28 = .ok (.ireturn, 1) := by decide +kernel
set_option maxRecDepth 20000 in
theorem ggX0_waitOf_X0_spanOf : GoodIn wsX0_waitOf wsX0_spanOf := goodIn_r _ [11, 12, 3, 4, 5, 6, 13, 14, 15, 16, 17, 18, 19, 20, 21, 22, 23, 24, 25, 26, 27, 28] (by decide +kernel) (by decide +kernel)
set_option maxRecDepth 20000 in
theorem gX0_waitOf_X0_spanOf : GoodIn wsX0_waitOf (wsV RX0 84 RX0 yX0_spanOf wsX0_spanOf) := goodIn_app (goodIn_of _ (by decide +kernel)) ggX0_waitOf_X0_spanOf
theorem dX0_waitOf_0 : decode cX0_waitOf 0 = .ok (.aload_n 0, 1) := by decide +kernel
theorem dX0_waitOf_1 : decode cX0_waitOf 1 = .ok (.sipush 25173, 3) := by decide +kernel
theorem dX0_waitOf_4 : decode cX0_waitOf 4 = .ok (.aload_n 0, 1) := by decide +kernel
theorem dX0_waitOf_5 : decode cX0_waitOf 5 = .ok (.getfield 24, 3) := by decide +kernel
theorem dX0_waitOf_8 : decode cX0_waitOf 8 = .ok (.imul, 1) := by decide +kernel
theorem dX0_waitOf_9 : decode cX0_waitOf 9 = .ok (.sipush 13849, 3) := by decide +kernel
theorem dX0_waitOf_12 : decode cX0_waitOf 12 = .ok (.iadd, 1) := by decide +kernel
theorem dX0_waitOf_13 : decode cX0_waitOf 13 = .ok (.ldc 83, 2) := by decide +kernel
theorem dX0_waitOf_15 : decode cX0_waitOf 15 = .ok (.irem, 1) := by decide +kernel
theorem dX0_waitOf_16 : decode cX0_waitOf 16 = .ok (.putfield 24, 3) := by decide +kernel
theorem dX0_waitOf_19 : decode cX0_waitOf 19 = .ok (.aload_n 0, 1) := by decide +kernel
theorem dX0_waitOf_20 : decode cX0_waitOf 20 = .ok (.getfield 24, 3) := by decide +kernel
theorem dX0_waitOf_23 : decode cX0_waitOf 23 = .ok (.bipush 16, 2) := by decide +kernel
theorem dX0_waitOf_25 : decode cX0_waitOf 25 = .ok (.idiv, 1) := by decide +kernel
theorem dX0_waitOf_26 : decode cX0_waitOf 26 = .ok (.iconst 5, 1) := by decide +kernel
theorem dX0_waitOf_27 : decode cX0_waitOf 27 = .ok (.irem, 1) := by decide +kernel
theorem dX0_waitOf_28 : decode cX0_waitOf 28 = .ok (.istore_n 2, 1) := by decide +kernel
theorem dX0_waitOf_29 : decode cX0_waitOf 29 = .ok (.iconst 1, 1) := by decide +kernel
theorem dX0_waitOf_30 : decode cX0_waitOf 30 = .ok (.aload_n 0, 1) := by decide +kernel
theorem dX0_waitOf_31 : decode cX0_waitOf 31 = .ok (.iload_n 1, 1) := by decide +kernel
theorem dX0_waitOf_32 : decode cX0_waitOf 32 = .ok (.invokevirtual 84, 3) := by decide +kernel
theorem dX0_waitOf_35 : decode cX0_waitOf 35 = .ok (.iconst 2, 1) := by decide +kernel
theorem dX0_waitOf_36 : decode cX0_waitOf 36 = .ok (.iload_n 2, 1) := by decide +kernel
theorem dX0_waitOf_37 : decode cX0_waitOf 37 = .ok (.iadd, 1) := by decide +kernel
theorem dX0_waitOf_38 : decode cX0_waitOf 38 = .ok (.imul, 1) := by decide +kernel
theorem dX0_waitOf_39 : decode cX0_waitOf 39 = .ok (.iconst 4, 1) := by decide +kernel
theorem dX0_waitOf_40 : decode cX0_waitOf 40 = .ok (.idiv, 1) := by decide +kernel
theorem dX0_waitOf_41 : decode cX0_waitOf 41 = .ok (.invokestatic 77, 3) := by decide +kernel
theorem dX0_waitOf_44 : decode cX0_waitOf 44 = .ok (.ireturn, 1) := by decide +kernel
set_option maxRecDepth 20000 in
theorem ggX0_begin_X0_waitOf : GoodIn wsX0_begin wsX0_waitOf := goodIn_r _ [8, 9, 10, 11, 12, 13, 14, 15, 16, 17, 7, 18, 19, 20, 21, 22, 23, 24, 25, 26, 27, 28, 29, 30, 31, 32, 33, 34, 35] (by decide +kernel) (by decide +kernel)
set_option maxRecDepth 20000 in
theorem gX0_begin_X0_waitOf : GoodIn wsX0_begin (wsV RX0 87 RX0 yX0_waitOf wsX0_waitOf) := goodIn_app (goodIn_of _ (by decide +kernel)) ggX0_begin_X0_waitOf
theorem dX0_begin_0 : decode cX0_begin 0 = .ok (.aload_n 0, 1) := by decide +kernel
theorem dX0_begin_1 : decode cX0_begin 1 = .ok (.getfield 40, 3) := by decide +kernel
theorem dX0_begin_4 : decode cX0_begin 4 = .ok (.iload_n 1, 1) := by decide +kernel
theorem dX0_begin_5 : decode cX0_begin 5 = .ok (.aload_n 0, 1) := by decide +kernel
theorem dX0_begin_6 : decode cX0_begin 6 = .ok (.getfield 21, 3) := by decide +kernel
theorem dX0_begin_9 : decode cX0_begin 9 = .ok (.iastore, 1) := by decide +kernel
theorem dX0_begin_10 : decode cX0_begin 10 = .ok (.aload_n 0, 1) := by decide +kernel
theorem dX0_begin_11 : decode cX0_begin 11 = .ok (.getfield 43, 3) := by decide +kernel
theorem dX0_begin_14 : decode cX0_begin 14 = .ok (.iload_n 1, 1) := by decide +kernel
theorem dX0_begin_15 : decode cX0_begin 15 = .ok (.aload_n 0, 1) := by decide +kernel
theorem dX0_begin_16 : decode cX0_begin 16 = .ok (.getfield 21, 3) := by decide +kernel
theorem dX0_begin_19 : decode cX0_begin 19 = .ok (.aload_n 0, 1) := by decide +kernel
theorem dX0_begin_20 : decode cX0_begin 20 = .ok (.iconst 1, 1) := by decide +kernel
theorem dX0_begin_21 : decode cX0_begin 21 = .ok (.invokevirtual 87, 3) := by decide +kernel
theorem dX0_begin_24 : decode cX0_begin 24 = .ok (.iadd, 1) := by decide +kernel
theorem dX0_begin_25 : decode cX0_begin 25 = .ok (.iastore, 1) := by decide +kernel
theorem dX0_begin_26 : decode cX0_begin 26 = .ok (.return_, 1) := by decide +kernel
theorem dX0_goAway_0 : decode cX0_goAway 0 = .ok (.aload_n 0, 1) := by decide +kernel
theorem dX0_goAway_1 : decode cX0_goAway 1 = .ok (.getfield 33, 3) := by decide +kernel
theorem dX0_goAway_4 : decode cX0_goAway 4 = .ok (.iload_n 1, 1) := by decide +kernel
theorem dX0_goAway_5 : decode cX0_goAway 5 = .ok (.iconst 0, 1) := by decide +kernel
theorem dX0_goAway_6 : decode cX0_goAway 6 = .ok (.iastore, 1) := by decide +kernel
theorem dX0_goAway_7 : decode cX0_goAway 7 = .ok (.aload_n 0, 1) := by decide +kernel
theorem dX0_goAway_8 : decode cX0_goAway 8 = .ok (.getfield 37, 3) := by decide +kernel
theorem dX0_goAway_11 : decode cX0_goAway 11 = .ok (.iload_n 1, 1) := by decide +kernel
theorem dX0_goAway_12 : decode cX0_goAway 12 = .ok (.iconst 0, 1) := by decide +kernel
theorem dX0_goAway_13 : decode cX0_goAway 13 = .ok (.iastore, 1) := by decide +kernel
theorem dX0_goAway_14 : decode cX0_goAway 14 = .ok (.aload_n 0, 1) := by decide +kernel
theorem dX0_goAway_15 : decode cX0_goAway 15 = .ok (.getfield 40, 3) := by decide +kernel
theorem dX0_goAway_18 : decode cX0_goAway 18 = .ok (.iload_n 1, 1) := by decide +kernel
theorem dX0_goAway_19 : decode cX0_goAway 19 = .ok (.iconst 0, 1) := by decide +kernel
theorem dX0_goAway_20 : decode cX0_goAway 20 = .ok (.iastore, 1) := by decide +kernel
theorem dX0_goAway_21 : decode cX0_goAway 21 = .ok (.aload_n 0, 1) := by decide +kernel
theorem dX0_goAway_22 : decode cX0_goAway 22 = .ok (.getfield 43, 3) := by decide +kernel
theorem dX0_goAway_25 : decode cX0_goAway 25 = .ok (.iload_n 1, 1) := by decide +kernel
theorem dX0_goAway_26 : decode cX0_goAway 26 = .ok (.iconst 0, 1) := by decide +kernel
theorem dX0_goAway_27 : decode cX0_goAway 27 = .ok (.iastore, 1) := by decide +kernel
theorem dX0_goAway_28 : decode cX0_goAway 28 = .ok (.aload_n 0, 1) := by decide +kernel
theorem dX0_goAway_29 : decode cX0_goAway 29 = .ok (.getfield 46, 3) := by decide +kernel
theorem dX0_goAway_32 : decode cX0_goAway 32 = .ok (.iload_n 1, 1) := by decide +kernel
theorem dX0_goAway_33 : decode cX0_goAway 33 = .ok (.iconst 0, 1) := by decide +kernel
theorem dX0_goAway_34 : decode cX0_goAway 34 = .ok (.iastore, 1) := by decide +kernel
theorem dX0_goAway_35 : decode cX0_goAway 35 = .ok (.return_, 1) := by decide +kernel
set_option maxRecDepth 20000 in
theorem ggX0_enter_X1_isMember : GoodIn wsX0_enter wsX1_isMember := goodIn_r _ [4] (by decide +kernel) (by decide +kernel)
set_option maxRecDepth 20000 in
theorem gX0_enter_X1_isMember_n90 : GoodIn wsX0_enter (wsX1_isMember) := ggX0_enter_X1_isMember
set_option maxRecDepth 20000 in
theorem ggX0_enter_X0_begin : GoodIn wsX0_enter wsX0_begin := goodIn_r _ [9, 10, 11, 12, 13, 14, 15, 8, 16, 17, 18, 19, 20, 21, 22, 23, 24, 25, 26, 27, 28, 29, 30, 31, 32, 33, 34, 35, 36, 37, 38, 39, 40, 41, 42, 43] (by decide +kernel) (by decide +kernel)
set_option maxRecDepth 20000 in
theorem gX0_enter_X0_begin : GoodIn wsX0_enter (wsV RX0 94 RX0 yX0_begin wsX0_begin) := goodIn_app (goodIn_of _ (by decide +kernel)) ggX0_enter_X0_begin
theorem dX0_enter_0 : decode cX0_enter 0 = .ok (.iload_n 1, 1) := by decide +kernel
theorem dX0_enter_1 : decode cX0_enter 1 = .ok (.invokestatic 90, 3) := by decide +kernel
theorem dX0_enter_4 : decode cX0_enter 4 = .ok (.ifCond .eq 12, 3) := by decide +kernel
theorem dX0_enter_7 : decode cX0_enter 7 = .ok (.aload_n 0, 1) := by decide +kernel
theorem dX0_enter_8 : decode cX0_enter 8 = .ok (.getfield 33, 3) := by decide +kernel
theorem dX0_enter_11 : decode cX0_enter 11 = .ok (.iload_n 1, 1) := by decide +kernel
theorem dX0_enter_12 : decode cX0_enter 12 = .ok (.iaload, 1) := by decide +kernel
theorem dX0_enter_13 : decode cX0_enter 13 = .ok (.ifCond .eq 5, 3) := by decide +kernel
theorem dX0_enter_16 : decode cX0_enter 16 = .ok (.iconst 0, 1) := by decide +kernel
theorem dX0_enter_17 : decode cX0_enter 17 = .ok (.ireturn, 1) := by decide +kernel
theorem dX0_enter_18 : decode cX0_enter 18 = .ok (.aload_n 0, 1) := by decide +kernel
theorem dX0_enter_19 : decode cX0_enter 19 = .ok (.getfield 33, 3) := by decide +kernel
theorem dX0_enter_22 : decode cX0_enter 22 = .ok (.iload_n 1, 1) := by decide +kernel
theorem dX0_enter_23 : decode cX0_enter 23 = .ok (.iconst 1, 1) := by decide +kernel
theorem dX0_enter_24 : decode cX0_enter 24 = .ok (.iastore, 1) := by decide +kernel
theorem dX0_enter_25 : decode cX0_enter 25 = .ok (.aload_n 0, 1) := by decide +kernel
theorem dX0_enter_26 : decode cX0_enter 26 = .ok (.iload_n 1, 1) := by decide +kernel
theorem dX0_enter_27 : decode cX0_enter 27 = .ok (.invokevirtual 94, 3) := by decide +kernel
theorem dX0_enter_30 : decode cX0_enter 30 = .ok (.iconst 1, 1) := by decide +kernel
theorem dX0_enter_31 : decode cX0_enter 31 = .ok (.ireturn, 1) := by decide +kernel
set_option maxRecDepth 20000 in
theorem ggX0_depart_X1_isMember : GoodIn wsX0_depart wsX1_isMember := goodIn_r _ [5] (by decide +kernel) (by decide +kernel)
set_option maxRecDepth 20000 in
theorem gX0_depart_X1_isMember_n90 : GoodIn wsX0_depart (wsX1_isMember) := ggX0_depart_X1_isMember
set_option maxRecDepth 20000 in
theorem ggX0_depart_X0_countOf : GoodIn wsX0_depart wsX0_countOf := goodIn_r _ [10, 11, 12, 13, 14, 15, 16, 17, 18, 69, 70, 71, 72, 73, 74, 75, 76, 77, 78, 79, 80, 81, 82] (by decide +kernel) (by decide +kernel)
set_option maxRecDepth 20000 in
theorem gX0_depart_X0_countOf : GoodIn wsX0_depart (wsV RX0 71 RX0 yX0_countOf wsX0_countOf) := goodIn_app (goodIn_of _ (by decide +kernel)) ggX0_depart_X0_countOf
set_option maxRecDepth 20000 in
theorem ggX0_depart_X0_sendBye : GoodIn wsX0_depart wsX0_sendBye := goodIn_r _ [22, 23, 24, 25, 26, 9, 27, 1, 11, 28, 29, 2, 30, 31, 32, 33, 34, 35, 36, 37, 38, 39, 40, 41, 42, 43, 44, 45, 46, 47, 48, 49, 50, 51, 6, 7, 8, 10, 12, 13, 14, 15, 16, 17, 18, 69, 70, 71, 72, 73, 74, 75, 76, 77, 78, 79, 80, 81, 82] (by decide +kernel) (by decide +kernel)
set_option maxRecDepth 20000 in
theorem gX0_depart_X0_sendBye : GoodIn wsX0_depart (wsV RX0 97 RX0 yX0_sendBye wsX0_sendBye) := goodIn_app (goodIn_of _ (by decide +kernel)) ggX0_depart_X0_sendBye
set_option maxRecDepth 20000 in
theorem ggX0_depart_X0_begin : GoodIn wsX0_depart wsX0_begin := goodIn_r _ [55, 28, 43, 29, 56, 57, 58, 9, 59, 60, 61, 44, 45, 46, 47, 62, 63, 64, 65, 66, 67, 68, 69, 70, 71, 72, 73, 74, 75, 76, 77, 78, 79, 80, 81, 82] (by decide +kernel) (by decide +kernel)
set_option maxRecDepth 20000 in
theorem gX0_depart_X0_begin : GoodIn wsX0_depart (wsV RX0 94 RX0 yX0_begin wsX0_begin) := goodIn_app (goodIn_of _ (by decide +kernel)) ggX0_depart_X0_begin
theorem dX0_depart_0 : decode cX0_depart 0 = .ok (.iload_n 1, 1) := by decide +kernel
theorem dX0_depart_1 : decode cX0_depart 1 = .ok (.invokestatic 90, 3) := by decide +kernel
theorem dX0_depart_4 : decode cX0_depart 4 = .ok (.ifCond .eq 13, 3) := by decide +kernel
theorem dX0_depart_7 : decode cX0_depart 7 = .ok (.aload_n 0, 1) := by decide +kernel
theorem dX0_depart_8 : decode cX0_depart 8 = .ok (.getfield 33, 3) := by decide +kernel
theorem dX0_depart_11 : decode cX0_depart 11 = .ok (.iload_n 1, 1) := by decide +kernel
theorem dX0_depart_12 : decode cX0_depart 12 = .ok (.iaload, 1) := by decide +kernel
theorem dX0_depart_13 : decode cX0_depart 13 = .ok (.iconst 1, 1) := by decide +kernel
theorem dX0_depart_14 : decode cX0_depart 14 = .ok (.if_icmp .eq 5, 3) := by decide +kernel
theorem dX0_depart_17 : decode cX0_depart 17 = .ok (.iconst 0, 1) := by decide +kernel
theorem dX0_depart_18 : decode cX0_depart 18 = .ok (.ireturn, 1) := by decide +kernel
theorem dX0_depart_19 : decode cX0_depart 19 = .ok (.aload_n 0, 1) := by decide +kernel
theorem dX0_depart_20 : decode cX0_depart 20 = .ok (.iload_n 1, 1) := by decide +kernel
theorem dX0_depart_21 : decode cX0_depart 21 = .ok (.invokevirtual 71, 3) := by decide +kernel
theorem dX0_depart_24 : decode cX0_depart 24 = .ok (.iconst 3, 1) := by decide +kernel
theorem dX0_depart_25 : decode cX0_depart 25 = .ok (.if_icmp .gt 11, 3) := by decide +kernel
theorem dX0_depart_28 : decode cX0_depart 28 = .ok (.aload_n 0, 1) := by decide +kernel
theorem dX0_depart_29 : decode cX0_depart 29 = .ok (.iload_n 1, 1) := by decide +kernel
theorem dX0_depart_30 : decode cX0_depart 30 = .ok (.invokevirtual 97, 3) := by decide +kernel
theorem dX0_depart_33 : decode cX0_depart 33 = .ok (.goto 22, 3) := by decide +kernel
theorem dX0_depart_36 : decode cX0_depart 36 = .ok (.aload_n 0, 1) := by decide +kernel
theorem dX0_depart_37 : decode cX0_depart 37 = .ok (.getfield 33, 3) := by decide +kernel
theorem dX0_depart_40 : decode cX0_depart 40 = .ok (.iload_n 1, 1) := by decide +kernel
theorem dX0_depart_41 : decode cX0_depart 41 = .ok (.iconst 2, 1) := by decide +kernel
theorem dX0_depart_42 : decode cX0_depart 42 = .ok (.iastore, 1) := by decide +kernel
theorem dX0_depart_43 : decode cX0_depart 43 = .ok (.aload_n 0, 1) := by decide +kernel
theorem dX0_depart_44 : decode cX0_depart 44 = .ok (.getfield 46, 3) := by decide +kernel
theorem dX0_depart_47 : decode cX0_depart 47 = .ok (.iload_n 1, 1) := by decide +kernel
theorem dX0_depart_48 : decode cX0_depart 48 = .ok (.iconst 1, 1) := by decide +kernel
theorem dX0_depart_49 : decode cX0_depart 49 = .ok (.iastore, 1) := by decide +kernel
theorem dX0_depart_50 : decode cX0_depart 50 = .ok (.aload_n 0, 1) := by decide +kernel
theorem dX0_depart_51 : decode cX0_depart 51 = .ok (.iload_n 1, 1) := by decide +kernel
theorem dX0_depart_52 : decode cX0_depart 52 = .ok (.invokevirtual 94, 3) := by decide +kernel
theorem dX0_depart_55 : decode cX0_depart 55 = .ok (.iconst 1, 1) := by decide +kernel
theorem dX0_depart_56 : decode cX0_depart 56 = .ok (.ireturn, 1) := by decide +kernel
set_option maxRecDepth 20000 in
theorem ggX0_enterOrDepart_X0_enter : GoodIn wsX0_enterOrDepart wsX0_enter := goodIn_r _ [5, 6, 7, 8, 9, 10, 11, 12, 4, 13, 14, 15, 16, 17, 18, 19, 20, 21, 22, 23, 24, 25, 26, 27, 28, 29, 30, 31, 32, 33, 77, 78, 79, 80, 81, 82, 83, 84, 85, 86, 87, 88, 89, 90] (by decide +kernel) (by decide +kernel)
set_option maxRecDepth 20000 in
theorem gX0_enterOrDepart_X0_enter : GoodIn wsX0_enterOrDepart (wsV RX0 100 RX0 yX0_enter wsX0_enter) := goodIn_app (goodIn_of _ (by decide +kernel)) ggX0_enterOrDepart_X0_enter
set_option maxRecDepth 20000 in
theorem ggX0_enterOrDepart_X0_depart : GoodIn wsX0_enterOrDepart wsX0_depart := goodIn_r _ [37, 6, 38, 7, 8, 9, 39, 40, 41, 4, 42, 43, 44, 45, 46, 47, 48, 49, 50, 51, 52, 53, 54, 55, 56, 57, 58, 59, 14, 16, 60, 61, 62, 63, 64, 65, 66, 67, 68, 69, 70, 71, 72, 15, 23, 24, 25, 26, 73, 74, 75, 76, 10, 11, 12, 13, 17, 18, 19, 20, 21, 22, 27, 28, 29, 30, 31, 32, 33, 77, 78, 79, 80, 81, 82, 83, 84, 85, 86, 87, 88, 89, 90] (by decide +kernel) (by decide +kernel)
set_option maxRecDepth 20000 in
theorem gX0_enterOrDepart_X0_depart : GoodIn wsX0_enterOrDepart (wsV RX0 103 RX0 yX0_depart wsX0_depart) := goodIn_app (goodIn_of _ (by decide +kernel)) ggX0_enterOrDepart_X0_depart
theorem dX0_enterOrDepart_0 : decode cX0_enterOrDepart 0 = .ok (.aload_n 0, 1) := by decide +kernel
theorem dX0_enterOrDepart_1 : decode cX0_enterOrDepart 1 = .ok (.iload_n 1, 1) := by decide +kernel
theorem dX0_enterOrDepart_2 : decode cX0_enterOrDepart 2 = .ok (.invokevirtual 100, 3) := by decide +kernel
theorem dX0_enterOrDepart_5 : decode cX0_enterOrDepart 5 = .ok (.ifCond .ne 9, 3) := by decide +kernel
theorem dX0_enterOrDepart_8 : decode cX0_enterOrDepart 8 = .ok (.aload_n 0, 1) := by decide +kernel
theorem dX0_enterOrDepart_9 : decode cX0_enterOrDepart 9 = .ok (.iload_n 1, 1) := by decide +kernel
theorem dX0_enterOrDepart_10 : decode cX0_enterOrDepart 10 = .ok (.invokevirtual 103, 3) := by decide +kernel
theorem dX0_enterOrDepart_13 : decode cX0_enterOrDepart 13 = .ok (.pop, 1) := by decide +kernel
theorem dX0_enterOrDepart_14 : decode cX0_enterOrDepart 14 = .ok (.return_, 1) := by decide +kernel
set_option maxRecDepth 20000 in
theorem ggX0_run_X0_sent : GoodIn wsX0_run wsX0_sent := goodIn_r _ [9, 10, 11, 80, 81, 82, 83, 84, 85, 86, 87, 88, 89, 90, 91, 92, 93] (by decide +kernel) (by decide +kernel)
set_option maxRecDepth 20000 in
theorem gX0_run_X0_sent : GoodIn wsX0_run (wsV RX0 106 RX0 yX0_sent wsX0_sent) := goodIn_app (goodIn_of _ (by decide +kernel)) ggX0_run_X0_sent
set_option maxRecDepth 20000 in
theorem ggX0_run_X0_comeDue : GoodIn wsX0_run wsX0_comeDue := goodIn_r _ [15, 2, 16, 17, 1, 3, 18, 19, 20, 8, 21, 4, 22, 23, 24, 25, 26, 27, 28, 29, 30, 31, 32, 33, 34, 35, 36, 37, 38, 39, 40, 41, 42, 43, 44, 45, 46, 47, 48, 49, 11, 50, 51, 52, 53, 54, 55, 56, 57, 58, 59, 60, 61, 62, 63, 64, 65, 66, 67, 68, 69, 70, 71, 72, 73, 74, 10, 75, 80, 81, 82, 83, 84, 85, 86, 87, 88, 89, 90, 91, 92, 93] (by decide +kernel) (by decide +kernel)
set_option maxRecDepth 20000 in
theorem gX0_run_X0_comeDue : GoodIn wsX0_run (wsV RX0 110 RX0 yX0_comeDue wsX0_comeDue) := goodIn_app (goodIn_of _ (by decide +kernel)) ggX0_run_X0_comeDue
set_option maxRecDepth 20000 in
theorem ggX0_run_X0_forgetOld : GoodIn wsX0_run wsX0_forgetOld := goodIn_r _ [79, 1, 75, 4, 18, 19, 20, 8, 21, 22, 23, 24, 25, 26, 27, 28, 39, 40, 41, 42, 43, 35, 36, 37, 38, 44, 45, 67, 68, 69, 70, 80, 81, 82, 83, 84, 85, 86, 87, 88, 89, 90, 91, 92, 93] (by decide +kernel) (by decide +kernel)
set_option maxRecDepth 20000 in
theorem gX0_run_X0_forgetOld : GoodIn wsX0_run (wsV RX0 113 RX0 yX0_forgetOld wsX0_forgetOld) := goodIn_app (goodIn_of _ (by decide +kernel)) ggX0_run_X0_forgetOld
theorem dX0_run_0 : decode cX0_run 0 = .ok (.aload_n 0, 1) := by decide +kernel
theorem dX0_run_1 : decode cX0_run 1 = .ok (.invokevirtual 106, 3) := by decide +kernel
theorem dX0_run_4 : decode cX0_run 4 = .ok (.istore_n 2, 1) := by decide +kernel
theorem dX0_run_5 : decode cX0_run 5 = .ok (.iconst 0, 1) := by decide +kernel
theorem dX0_run_6 : decode cX0_run 6 = .ok (.istore_n 3, 1) := by decide +kernel
theorem dX0_run_7 : decode cX0_run 7 = .ok (.iload_n 3, 1) := by decide +kernel
theorem dX0_run_8 : decode cX0_run 8 = .ok (.iload_n 1, 1) := by decide +kernel
theorem dX0_run_9 : decode cX0_run 9 = .ok (.if_icmp .ge 108, 3) := by decide +kernel
theorem dX0_run_12 : decode cX0_run 12 = .ok (.aload_n 0, 1) := by decide +kernel
theorem dX0_run_13 : decode cX0_run 13 = .ok (.dup, 1) := by decide +kernel
theorem dX0_run_14 : decode cX0_run 14 = .ok (.getfield 21, 3) := by decide +kernel
theorem dX0_run_17 : decode cX0_run 17 = .ok (.iconst 1, 1) := by decide +kernel
theorem dX0_run_18 : decode cX0_run 18 = .ok (.iadd, 1) := by decide +kernel
theorem dX0_run_19 : decode cX0_run 19 = .ok (.putfield 21, 3) := by decide +kernel
theorem dX0_run_22 : decode cX0_run 22 = .ok (.iconst 0, 1) := by decide +kernel
theorem dX0_run_23 : decode cX0_run 23 = .ok (.istore 4, 2) := by decide +kernel
theorem dX0_run_25 : decode cX0_run 25 = .ok (.iload 4, 2) := by decide +kernel
theorem dX0_run_27 : decode cX0_run 27 = .ok (.bipush 6, 2) := by decide +kernel
theorem dX0_run_29 : decode cX0_run 29 = .ok (.if_icmp .ge 39, 3) := by decide +kernel
theorem dX0_run_32 : decode cX0_run 32 = .ok (.aload_n 0, 1) := by decide +kernel
theorem dX0_run_33 : decode cX0_run 33 = .ok (.getfield 33, 3) := by decide +kernel
theorem dX0_run_36 : decode cX0_run 36 = .ok (.iload 4, 2) := by decide +kernel
theorem dX0_run_38 : decode cX0_run 38 = .ok (.iaload, 1) := by decide +kernel
theorem dX0_run_39 : decode cX0_run 39 = .ok (.ifCond .eq 23, 3) := by decide +kernel
theorem dX0_run_42 : decode cX0_run 42 = .ok (.aload_n 0, 1) := by decide +kernel
theorem dX0_run_43 : decode cX0_run 43 = .ok (.getfield 43, 3) := by decide +kernel
theorem dX0_run_46 : decode cX0_run 46 = .ok (.iload 4, 2) := by decide +kernel
theorem dX0_run_48 : decode cX0_run 48 = .ok (.iaload, 1) := by decide +kernel
theorem dX0_run_49 : decode cX0_run 49 = .ok (.aload_n 0, 1) := by decide +kernel
theorem dX0_run_50 : decode cX0_run 50 = .ok (.getfield 21, 3) := by decide +kernel
theorem dX0_run_53 : decode cX0_run 53 = .ok (.if_icmp .gt 9, 3) := by decide +kernel
theorem dX0_run_56 : decode cX0_run 56 = .ok (.aload_n 0, 1) := by decide +kernel
theorem dX0_run_57 : decode cX0_run 57 = .ok (.iload 4, 2) := by decide +kernel
theorem dX0_run_59 : decode cX0_run 59 = .ok (.invokevirtual 110, 3) := by decide +kernel
theorem dX0_run_62 : decode cX0_run 62 = .ok (.iinc 4 1, 3) := by decide +kernel
theorem dX0_run_65 : decode cX0_run 65 = .ok (.goto (-40), 3) := by decide +kernel
theorem dX0_run_68 : decode cX0_run 68 = .ok (.iconst 0, 1) := by decide +kernel
theorem dX0_run_69 : decode cX0_run 69 = .ok (.istore 4, 2) := by decide +kernel
theorem dX0_run_71 : decode cX0_run 71 = .ok (.iload 4, 2) := by decide +kernel
theorem dX0_run_73 : decode cX0_run 73 = .ok (.bipush 6, 2) := by decide +kernel
theorem dX0_run_75 : decode cX0_run 75 = .ok (.if_icmp .ge 36, 3) := by decide +kernel
theorem dX0_run_78 : decode cX0_run 78 = .ok (.aload_n 0, 1) := by decide +kernel
theorem dX0_run_79 : decode cX0_run 79 = .ok (.getfield 33, 3) := by decide +kernel
theorem dX0_run_82 : decode cX0_run 82 = .ok (.iload 4, 2) := by decide +kernel
theorem dX0_run_84 : decode cX0_run 84 = .ok (.iaload, 1) := by decide +kernel
theorem dX0_run_85 : decode cX0_run 85 = .ok (.iconst 1, 1) := by decide +kernel
theorem dX0_run_86 : decode cX0_run 86 = .ok (.if_icmp .ne 19, 3) := by decide +kernel
theorem dX0_run_89 : decode cX0_run 89 = .ok (.aload_n 0, 1) := by decide +kernel
theorem dX0_run_90 : decode cX0_run 90 = .ok (.getfield 37, 3) := by decide +kernel
theorem dX0_run_93 : decode cX0_run 93 = .ok (.iload 4, 2) := by decide +kernel
theorem dX0_run_95 : decode cX0_run 95 = .ok (.iaload, 1) := by decide +kernel
theorem dX0_run_96 : decode cX0_run 96 = .ok (.ifCond .eq 9, 3) := by decide +kernel
theorem dX0_run_99 : decode cX0_run 99 = .ok (.aload_n 0, 1) := by decide +kernel
theorem dX0_run_100 : decode cX0_run 100 = .ok (.iload 4, 2) := by decide +kernel
theorem dX0_run_102 : decode cX0_run 102 = .ok (.invokevirtual 113, 3) := by decide +kernel
theorem dX0_run_105 : decode cX0_run 105 = .ok (.iinc 4 1, 3) := by decide +kernel
theorem dX0_run_108 : decode cX0_run 108 = .ok (.goto (-37), 3) := by decide +kernel
theorem dX0_run_111 : decode cX0_run 111 = .ok (.iinc 3 1, 3) := by decide +kernel
theorem dX0_run_114 : decode cX0_run 114 = .ok (.goto (-107), 3) := by decide +kernel
theorem dX0_run_117 : decode cX0_run 117 = .ok (.aload_n 0, 1) := by decide +kernel
theorem dX0_run_118 : decode cX0_run 118 = .ok (.invokevirtual 106, 3) := by decide +kernel
theorem dX0_run_121 : decode cX0_run 121 = .ok (.iload_n 2, 1) := by decide +kernel
theorem dX0_run_122 : decode cX0_run 122 = .ok (.isub, 1) := by decide +kernel
theorem dX0_run_123 : decode cX0_run 123 = .ok (.ireturn, 1) := by decide +kernel
set_option maxRecDepth 20000 in
theorem ggX0_comeDue_X0_countOf : GoodIn wsX0_comeDue wsX0_countOf := goodIn_r _ [10, 11, 12, 13, 14, 15, 16, 17, 18, 68, 69, 70, 71, 72, 73, 74, 75, 76, 77, 78, 79, 80, 81] (by decide +kernel) (by decide +kernel)
set_option maxRecDepth 20000 in
theorem gX0_comeDue_X0_countOf : GoodIn wsX0_comeDue (wsV RX0 71 RX0 yX0_countOf wsX0_countOf) := goodIn_app (goodIn_of _ (by decide +kernel)) ggX0_comeDue_X0_countOf
set_option maxRecDepth 20000 in
theorem ggX0_comeDue_X0_waitOf : GoodIn wsX0_comeDue wsX0_waitOf := goodIn_r _ [22, 23, 24, 25, 26, 27, 28, 29, 30, 31, 9, 32, 33, 34, 35, 68, 69, 70, 71, 72, 73, 74, 75, 76, 77, 78, 79, 80, 81] (by decide +kernel) (by decide +kernel)
set_option maxRecDepth 20000 in
theorem gX0_comeDue_X0_waitOf : GoodIn wsX0_comeDue (wsV RX0 87 RX0 yX0_waitOf wsX0_waitOf) := goodIn_app (goodIn_of _ (by decide +kernel)) ggX0_comeDue_X0_waitOf
set_option maxRecDepth 20000 in
theorem ggX0_comeDue_X0_sendBye : GoodIn wsX0_comeDue wsX0_sendBye := goodIn_r _ [39, 40, 41, 42, 43, 9, 44, 1, 11, 3, 5, 2, 45, 46, 47, 48, 49, 50, 51, 52, 53, 54, 55, 56, 57, 4, 25, 26, 27, 28, 58, 59, 60, 61, 6, 7, 8, 10, 12, 13, 14, 15, 16, 17, 18, 68, 69, 70, 71, 72, 73, 74, 75, 76, 77, 78, 79, 80, 81] (by decide +kernel) (by decide +kernel)
set_option maxRecDepth 20000 in
theorem gX0_comeDue_X0_sendBye : GoodIn wsX0_comeDue (wsV RX0 97 RX0 yX0_sendBye wsX0_sendBye) := goodIn_app (goodIn_of _ (by decide +kernel)) ggX0_comeDue_X0_sendBye
set_option maxRecDepth 20000 in
theorem ggX0_comeDue_X0_sendReport : GoodIn wsX0_comeDue wsX0_sendReport := goodIn_r _ [65, 66, 11, 67, 4, 45, 46, 47, 9, 48, 1, 49, 50, 51, 52, 53, 68, 69, 70, 71, 72, 73, 74, 75, 76, 77, 78, 79, 80, 81] (by decide +kernel) (by decide +kernel)
set_option maxRecDepth 20000 in
theorem gX0_comeDue_X0_sendReport : GoodIn wsX0_comeDue (wsV RX0 116 RX0 yX0_sendReport wsX0_sendReport) := goodIn_app (goodIn_of _ (by decide +kernel)) ggX0_comeDue_X0_sendReport
theorem dX0_comeDue_0 : decode cX0_comeDue 0 = .ok (.aload_n 0, 1) := by decide +kernel
theorem dX0_comeDue_1 : decode cX0_comeDue 1 = .ok (.getfield 33, 3) := by decide +kernel
theorem dX0_comeDue_4 : decode cX0_comeDue 4 = .ok (.iload_n 1, 1) := by decide +kernel
theorem dX0_comeDue_5 : decode cX0_comeDue 5 = .ok (.iaload, 1) := by decide +kernel
theorem dX0_comeDue_6 : decode cX0_comeDue 6 = .ok (.iconst 2, 1) := by decide +kernel
theorem dX0_comeDue_7 : decode cX0_comeDue 7 = .ok (.if_icmp .ne 7, 3) := by decide +kernel
theorem dX0_comeDue_10 : decode cX0_comeDue 10 = .ok (.iconst 1, 1) := by decide +kernel
theorem dX0_comeDue_11 : decode cX0_comeDue 11 = .ok (.goto 4, 3) := by decide +kernel
theorem dX0_comeDue_14 : decode cX0_comeDue 14 = .ok (.iconst 0, 1) := by decide +kernel
theorem dX0_comeDue_15 : decode cX0_comeDue 15 = .ok (.istore_n 2, 1) := by decide +kernel
theorem dX0_comeDue_16 : decode cX0_comeDue 16 = .ok (.aload_n 0, 1) := by decide +kernel
theorem dX0_comeDue_17 : decode cX0_comeDue 17 = .ok (.iload_n 2, 1) := by decide +kernel
theorem dX0_comeDue_18 : decode cX0_comeDue 18 = .ok (.ifCond .eq 12, 3) := by decide +kernel
theorem dX0_comeDue_21 : decode cX0_comeDue 21 = .ok (.aload_n 0, 1) := by decide +kernel
theorem dX0_comeDue_22 : decode cX0_comeDue 22 = .ok (.getfield 46, 3) := by decide +kernel
theorem dX0_comeDue_25 : decode cX0_comeDue 25 = .ok (.iload_n 1, 1) := by decide +kernel
theorem dX0_comeDue_26 : decode cX0_comeDue 26 = .ok (.iaload, 1) := by decide +kernel
theorem dX0_comeDue_27 : decode cX0_comeDue 27 = .ok (.goto 8, 3) := by decide +kernel
theorem dX0_comeDue_30 : decode cX0_comeDue 30 = .ok (.aload_n 0, 1) := by decide +kernel
theorem dX0_comeDue_31 : decode cX0_comeDue 31 = .ok (.iload_n 1, 1) := by decide +kernel
theorem dX0_comeDue_32 : decode cX0_comeDue 32 = .ok (.invokevirtual 71, 3) := by decide +kernel
theorem dX0_comeDue_35 : decode cX0_comeDue 35 = .ok (.invokevirtual 87, 3) := by decide +kernel
theorem dX0_comeDue_38 : decode cX0_comeDue 38 = .ok (.istore_n 3, 1) := by decide +kernel
theorem dX0_comeDue_39 : decode cX0_comeDue 39 = .ok (.aload_n 0, 1) := by decide +kernel
theorem dX0_comeDue_40 : decode cX0_comeDue 40 = .ok (.getfield 40, 3) := by decide +kernel
theorem dX0_comeDue_43 : decode cX0_comeDue 43 = .ok (.iload_n 1, 1) := by decide +kernel
theorem dX0_comeDue_44 : decode cX0_comeDue 44 = .ok (.iaload, 1) := by decide +kernel
theorem dX0_comeDue_45 : decode cX0_comeDue 45 = .ok (.iload_n 3, 1) := by decide +kernel
theorem dX0_comeDue_46 : decode cX0_comeDue 46 = .ok (.iadd, 1) := by decide +kernel
theorem dX0_comeDue_47 : decode cX0_comeDue 47 = .ok (.aload_n 0, 1) := by decide +kernel
theorem dX0_comeDue_48 : decode cX0_comeDue 48 = .ok (.getfield 21, 3) := by decide +kernel
theorem dX0_comeDue_51 : decode cX0_comeDue 51 = .ok (.if_icmp .le 20, 3) := by decide +kernel
theorem dX0_comeDue_54 : decode cX0_comeDue 54 = .ok (.aload_n 0, 1) := by decide +kernel
theorem dX0_comeDue_55 : decode cX0_comeDue 55 = .ok (.getfield 43, 3) := by decide +kernel
theorem dX0_comeDue_58 : decode cX0_comeDue 58 = .ok (.iload_n 1, 1) := by decide +kernel
theorem dX0_comeDue_59 : decode cX0_comeDue 59 = .ok (.aload_n 0, 1) := by decide +kernel
theorem dX0_comeDue_60 : decode cX0_comeDue 60 = .ok (.getfield 40, 3) := by decide +kernel
theorem dX0_comeDue_63 : decode cX0_comeDue 63 = .ok (.iload_n 1, 1) := by decide +kernel
theorem dX0_comeDue_64 : decode cX0_comeDue 64 = .ok (.iaload, 1) := by decide +kernel
theorem dX0_comeDue_65 : decode cX0_comeDue 65 = .ok (.iload_n 3, 1) := by decide +kernel
theorem dX0_comeDue_66 : decode cX0_comeDue 66 = .ok (.iadd, 1) := by decide +kernel
theorem dX0_comeDue_67 : decode cX0_comeDue 67 = .ok (.iastore, 1) := by decide +kernel
theorem dX0_comeDue_68 : decode cX0_comeDue 68 = .ok (.goto 50, 3) := by decide +kernel
theorem dX0_comeDue_71 : decode cX0_comeDue 71 = .ok (.iload_n 2, 1) := by decide +kernel
theorem dX0_comeDue_72 : decode cX0_comeDue 72 = .ok (.ifCond .eq 11, 3) := by decide +kernel
theorem dX0_comeDue_75 : decode cX0_comeDue 75 = .ok (.aload_n 0, 1) := by decide +kernel
theorem dX0_comeDue_76 : decode cX0_comeDue 76 = .ok (.iload_n 1, 1) := by decide +kernel
theorem dX0_comeDue_77 : decode cX0_comeDue 77 = .ok (.invokevirtual 97, 3) := by decide +kernel
theorem dX0_comeDue_80 : decode cX0_comeDue 80 = .ok (.goto 38, 3) := by decide +kernel
theorem dX0_comeDue_83 : decode cX0_comeDue 83 = .ok (.aload_n 0, 1) := by decide +kernel
theorem dX0_comeDue_84 : decode cX0_comeDue 84 = .ok (.iload_n 1, 1) := by decide +kernel
theorem dX0_comeDue_85 : decode cX0_comeDue 85 = .ok (.invokevirtual 116, 3) := by decide +kernel
theorem dX0_comeDue_88 : decode cX0_comeDue 88 = .ok (.aload_n 0, 1) := by decide +kernel
theorem dX0_comeDue_89 : decode cX0_comeDue 89 = .ok (.getfield 40, 3) := by decide +kernel
theorem dX0_comeDue_92 : decode cX0_comeDue 92 = .ok (.iload_n 1, 1) := by decide +kernel
theorem dX0_comeDue_93 : decode cX0_comeDue 93 = .ok (.aload_n 0, 1) := by decide +kernel
theorem dX0_comeDue_94 : decode cX0_comeDue 94 = .ok (.getfield 21, 3) := by decide +kernel
theorem dX0_comeDue_97 : decode cX0_comeDue 97 = .ok (.iastore, 1) := by decide +kernel
theorem dX0_comeDue_98 : decode cX0_comeDue 98 = .ok (.aload_n 0, 1) := by decide +kernel
theorem dX0_comeDue_99 : decode cX0_comeDue 99 = .ok (.getfield 43, 3) := by decide +kernel
theorem dX0_comeDue_102 : decode cX0_comeDue 102 = .ok (.iload_n 1, 1) := by decide +kernel
theorem dX0_comeDue_103 : decode cX0_comeDue 103 = .ok (.aload_n 0, 1) := by decide +kernel
theorem dX0_comeDue_104 : decode cX0_comeDue 104 = .ok (.getfield 21, 3) := by decide +kernel
theorem dX0_comeDue_107 : decode cX0_comeDue 107 = .ok (.aload_n 0, 1) := by decide +kernel
theorem dX0_comeDue_108 : decode cX0_comeDue 108 = .ok (.aload_n 0, 1) := by decide +kernel
theorem dX0_comeDue_109 : decode cX0_comeDue 109 = .ok (.iload_n 1, 1) := by decide +kernel
theorem dX0_comeDue_110 : decode cX0_comeDue 110 = .ok (.invokevirtual 71, 3) := by decide +kernel
theorem dX0_comeDue_113 : decode cX0_comeDue 113 = .ok (.invokevirtual 87, 3) := by decide +kernel
theorem dX0_comeDue_116 : decode cX0_comeDue 116 = .ok (.iadd, 1) := by decide +kernel
theorem dX0_comeDue_117 : decode cX0_comeDue 117 = .ok (.iastore, 1) := by decide +kernel
theorem dX0_comeDue_118 : decode cX0_comeDue 118 = .ok (.return_, 1) := by decide +kernel
set_option maxRecDepth 20000 in
theorem ggX0_forgetOld_X0_countOf : GoodIn wsX0_forgetOld wsX0_countOf := goodIn_r _ [8, 3, 9, 10, 11, 12, 13, 14, 15, 31, 32, 33, 34, 35, 36, 37, 38, 39, 40, 41, 42, 43, 44] (by decide +kernel) (by decide +kernel)
set_option maxRecDepth 20000 in
theorem gX0_forgetOld_X0_countOf : GoodIn wsX0_forgetOld (wsV RX0 71 RX0 yX0_countOf wsX0_countOf) := goodIn_app (goodIn_of _ (by decide +kernel)) ggX0_forgetOld_X0_countOf
set_option maxRecDepth 20000 in
theorem ggX0_forgetOld_X0_spanOf : GoodIn wsX0_forgetOld wsX0_spanOf := goodIn_r _ [19, 20, 21, 22, 23, 24, 25, 26, 31, 32, 33, 34, 35, 36, 37, 38, 39, 40, 41, 42, 43, 44] (by decide +kernel) (by decide +kernel)
set_option maxRecDepth 20000 in
theorem gX0_forgetOld_X0_spanOf : GoodIn wsX0_forgetOld (wsV RX0 84 RX0 yX0_spanOf wsX0_spanOf) := goodIn_app (goodIn_of _ (by decide +kernel)) ggX0_forgetOld_X0_spanOf
set_option maxRecDepth 20000 in
theorem ggX0_forgetOld_X0_knows : GoodIn wsX0_forgetOld wsX0_knows := goodIn_r _ [30, 3, 31, 32, 33, 34, 35, 36, 37, 38, 39, 40, 41, 42, 43, 44] (by decide +kernel) (by decide +kernel)
set_option maxRecDepth 20000 in
theorem gX0_forgetOld_X0_knows : GoodIn wsX0_forgetOld (wsV RX0 119 RX0 yX0_knows wsX0_knows) := goodIn_app (goodIn_of _ (by decide +kernel)) ggX0_forgetOld_X0_knows
theorem dX0_forgetOld_0 : decode cX0_forgetOld 0 = .ok (.iconst 5, 1) := by decide +kernel
theorem dX0_forgetOld_1 : decode cX0_forgetOld 1 = .ok (.aload_n 0, 1) := by decide +kernel
theorem dX0_forgetOld_2 : decode cX0_forgetOld 2 = .ok (.aload_n 0, 1) := by decide +kernel
theorem dX0_forgetOld_3 : decode cX0_forgetOld 3 = .ok (.iload_n 1, 1) := by decide +kernel
theorem dX0_forgetOld_4 : decode cX0_forgetOld 4 = .ok (.invokevirtual 71, 3) := by decide +kernel
theorem dX0_forgetOld_7 : decode cX0_forgetOld 7 = .ok (.invokevirtual 84, 3) := by decide +kernel
theorem dX0_forgetOld_10 : decode cX0_forgetOld 10 = .ok (.imul, 1) := by decide +kernel
theorem dX0_forgetOld_11 : decode cX0_forgetOld 11 = .ok (.istore_n 2, 1) := by decide +kernel
theorem dX0_forgetOld_12 : decode cX0_forgetOld 12 = .ok (.iconst 0, 1) := by decide +kernel
theorem dX0_forgetOld_13 : decode cX0_forgetOld 13 = .ok (.istore_n 3, 1) := by decide +kernel
theorem dX0_forgetOld_14 : decode cX0_forgetOld 14 = .ok (.iload_n 3, 1) := by decide +kernel
theorem dX0_forgetOld_15 : decode cX0_forgetOld 15 = .ok (.bipush 6, 2) := by decide +kernel
theorem dX0_forgetOld_17 : decode cX0_forgetOld 17 = .ok (.if_icmp .ge 56, 3) := by decide +kernel
theorem dX0_forgetOld_20 : decode cX0_forgetOld 20 = .ok (.aload_n 0, 1) := by decide +kernel
theorem dX0_forgetOld_21 : decode cX0_forgetOld 21 = .ok (.getfield 21, 3) := by decide +kernel
theorem dX0_forgetOld_24 : decode cX0_forgetOld 24 = .ok (.aload_n 0, 1) := by decide +kernel
theorem dX0_forgetOld_25 : decode cX0_forgetOld 25 = .ok (.getfield 52, 3) := by decide +kernel
theorem dX0_forgetOld_28 : decode cX0_forgetOld 28 = .ok (.iload_n 1, 1) := by decide +kernel
theorem dX0_forgetOld_29 : decode cX0_forgetOld 29 = .ok (.bipush 6, 2) := by decide +kernel
theorem dX0_forgetOld_31 : decode cX0_forgetOld 31 = .ok (.imul, 1) := by decide +kernel
theorem dX0_forgetOld_32 : decode cX0_forgetOld 32 = .ok (.iload_n 3, 1) := by decide +kernel
theorem dX0_forgetOld_33 : decode cX0_forgetOld 33 = .ok (.iadd, 1) := by decide +kernel
theorem dX0_forgetOld_34 : decode cX0_forgetOld 34 = .ok (.iaload, 1) := by decide +kernel
theorem dX0_forgetOld_35 : decode cX0_forgetOld 35 = .ok (.isub, 1) := by decide +kernel
theorem dX0_forgetOld_36 : decode cX0_forgetOld 36 = .ok (.istore 4, 2) := by decide +kernel
theorem dX0_forgetOld_38 : decode cX0_forgetOld 38 = .ok (.aload_n 0, 1) := by decide +kernel
theorem dX0_forgetOld_39 : decode cX0_forgetOld 39 = .ok (.iload_n 1, 1) := by decide +kernel
theorem dX0_forgetOld_40 : decode cX0_forgetOld 40 = .ok (.iload_n 3, 1) := by decide +kernel
theorem dX0_forgetOld_41 : decode cX0_forgetOld 41 = .ok (.invokevirtual 119, 3) := by decide +kernel
theorem dX0_forgetOld_44 : decode cX0_forgetOld 44 = .ok (.ifCond .eq 23, 3) := by decide +kernel
theorem dX0_forgetOld_47 : decode cX0_forgetOld 47 = .ok (.iload 4, 2) := by decide +kernel
theorem dX0_forgetOld_49 : decode cX0_forgetOld 49 = .ok (.iload_n 2, 1) := by decide +kernel
theorem dX0_forgetOld_50 : decode cX0_forgetOld 50 = .ok (.if_icmp .le 17, 3) := by decide +kernel
theorem dX0_forgetOld_53 : decode cX0_forgetOld 53 = .ok (.aload_n 0, 1) := by decide +kernel
theorem dX0_forgetOld_54 : decode cX0_forgetOld 54 = .ok (.getfield 37, 3) := by decide +kernel
theorem dX0_forgetOld_57 : decode cX0_forgetOld 57 = .ok (.iload_n 1, 1) := by decide +kernel
theorem dX0_forgetOld_58 : decode cX0_forgetOld 58 = .ok (.dup2, 1) := by decide +kernel
theorem dX0_forgetOld_59 : decode cX0_forgetOld 59 = .ok (.iaload, 1) := by decide +kernel
theorem dX0_forgetOld_60 : decode cX0_forgetOld 60 = .ok (.iconst 1, 1) := by decide +kernel
theorem dX0_forgetOld_61 : decode cX0_forgetOld 61 = .ok (.iload_n 3, 1) := by decide +kernel
theorem dX0_forgetOld_62 : decode cX0_forgetOld 62 = .ok (.ishl, 1) := by decide +kernel
theorem dX0_forgetOld_63 : decode cX0_forgetOld 63 = .ok (.iconst (-1), 1) := by decide +kernel
theorem dX0_forgetOld_64 : decode cX0_forgetOld 64 = .ok (.ixor, 1) := by decide +kernel
theorem dX0_forgetOld_65 : decode cX0_forgetOld 65 = .ok (.iand, 1) := by decide +kernel
theorem dX0_forgetOld_66 : decode cX0_forgetOld 66 = .ok (.iastore, 1) := by decide +kernel
theorem dX0_forgetOld_67 : decode cX0_forgetOld 67 = .ok (.iinc 3 1, 3) := by decide +kernel
theorem dX0_forgetOld_70 : decode cX0_forgetOld 70 = .ok (.goto (-56), 3) := by decide +kernel
theorem dX0_forgetOld_73 : decode cX0_forgetOld 73 = .ok (.return_, 1) := by decide +kernel
set_option maxRecDepth 20000 in
theorem ggX0_reaches_X0_isOpen : GoodIn wsX0_reaches wsX0_isOpen := goodIn_r _ [6, 7, 8, 9, 10, 11, 12, 13, 14, 15, 16, 17, 18, 19, 20, 21] (by decide +kernel) (by decide +kernel)
set_option maxRecDepth 20000 in
theorem gX0_reaches_X0_isOpen : GoodIn wsX0_reaches (wsV RX0 123 RX0 yX0_isOpen wsX0_isOpen) := goodIn_app (goodIn_of _ (by decide +kernel)) ggX0_reaches_X0_isOpen
theorem dX0_reaches_0 : decode cX0_reaches 0 = .ok (.iload_n 1, 1) := by decide +kernel
theorem dX0_reaches_1 : decode cX0_reaches 1 = .ok (.iload_n 2, 1) := by decide +kernel
theorem dX0_reaches_2 : decode cX0_reaches 2 = .ok (.if_icmp .eq 25, 3) := by decide +kernel
theorem dX0_reaches_5 : decode cX0_reaches 5 = .ok (.aload_n 0, 1) := by decide +kernel
theorem dX0_reaches_6 : decode cX0_reaches 6 = .ok (.getfield 33, 3) := by decide +kernel
theorem dX0_reaches_9 : decode cX0_reaches 9 = .ok (.iload_n 2, 1) := by decide +kernel
theorem dX0_reaches_10 : decode cX0_reaches 10 = .ok (.iaload, 1) := by decide +kernel
theorem dX0_reaches_11 : decode cX0_reaches 11 = .ok (.ifCond .eq 16, 3) := by decide +kernel
theorem dX0_reaches_14 : decode cX0_reaches 14 = .ok (.aload_n 0, 1) := by decide +kernel
theorem dX0_reaches_15 : decode cX0_reaches 15 = .ok (.iload_n 1, 1) := by decide +kernel
theorem dX0_reaches_16 : decode cX0_reaches 16 = .ok (.iload_n 2, 1) := by decide +kernel
theorem dX0_reaches_17 : decode cX0_reaches 17 = .ok (.invokevirtual 123, 3) := by decide +kernel
theorem dX0_reaches_20 : decode cX0_reaches 20 = .ok (.ifCond .eq 7, 3) := by decide +kernel
theorem dX0_reaches_23 : decode cX0_reaches 23 = .ok (.iconst 1, 1) := by decide +kernel
theorem dX0_reaches_24 : decode cX0_reaches 24 = .ok (.goto 4, 3) := by decide +kernel
theorem dX0_reaches_27 : decode cX0_reaches 27 = .ok (.iconst 0, 1) := by decide +kernel
theorem dX0_reaches_28 : decode cX0_reaches 28 = .ok (.ireturn, 1) := by decide +kernel
set_option maxRecDepth 20000 in
theorem ggX0_sendReport_X0_reaches : GoodIn wsX0_sendReport wsX0_reaches := goodIn_r _ [9, 10, 11, 12, 13, 8, 14, 15, 16, 17, 18, 19, 20, 21, 22, 23, 24, 25, 26, 27, 28, 29] (by decide +kernel) (by decide +kernel)
set_option maxRecDepth 20000 in
theorem gX0_sendReport_X0_reaches : GoodIn wsX0_sendReport (wsV RX0 126 RX0 yX0_reaches wsX0_reaches) := goodIn_app (goodIn_of _ (by decide +kernel)) ggX0_sendReport_X0_reaches
theorem dX0_sendReport_0 : decode cX0_sendReport 0 = .ok (.aload_n 0, 1) := by decide +kernel
theorem dX0_sendReport_1 : decode cX0_sendReport 1 = .ok (.dup, 1) := by decide +kernel
theorem dX0_sendReport_2 : decode cX0_sendReport 2 = .ok (.getfield 27, 3) := by decide +kernel
theorem dX0_sendReport_5 : decode cX0_sendReport 5 = .ok (.iconst 1, 1) := by decide +kernel
theorem dX0_sendReport_6 : decode cX0_sendReport 6 = .ok (.iadd, 1) := by decide +kernel
theorem dX0_sendReport_7 : decode cX0_sendReport 7 = .ok (.putfield 27, 3) := by decide +kernel
theorem dX0_sendReport_10 : decode cX0_sendReport 10 = .ok (.iconst 0, 1) := by decide +kernel
theorem dX0_sendReport_11 : decode cX0_sendReport 11 = .ok (.istore_n 2, 1) := by decide +kernel
theorem dX0_sendReport_12 : decode cX0_sendReport 12 = .ok (.iload_n 2, 1) := by decide +kernel
theorem dX0_sendReport_13 : decode cX0_sendReport 13 = .ok (.bipush 6, 2) := by decide +kernel
theorem dX0_sendReport_15 : decode cX0_sendReport 15 = .ok (.if_icmp .ge 45, 3) := by decide +kernel
theorem dX0_sendReport_18 : decode cX0_sendReport 18 = .ok (.aload_n 0, 1) := by decide +kernel
theorem dX0_sendReport_19 : decode cX0_sendReport 19 = .ok (.iload_n 1, 1) := by decide +kernel
theorem dX0_sendReport_20 : decode cX0_sendReport 20 = .ok (.iload_n 2, 1) := by decide +kernel
theorem dX0_sendReport_21 : decode cX0_sendReport 21 = .ok (.invokevirtual 126, 3) := by decide +kernel
theorem dX0_sendReport_24 : decode cX0_sendReport 24 = .ok (.ifCond .eq 30, 3) := by decide +kernel
theorem dX0_sendReport_27 : decode cX0_sendReport 27 = .ok (.aload_n 0, 1) := by decide +kernel
theorem dX0_sendReport_28 : decode cX0_sendReport 28 = .ok (.getfield 37, 3) := by decide +kernel
theorem dX0_sendReport_31 : decode cX0_sendReport 31 = .ok (.iload_n 2, 1) := by decide +kernel
theorem dX0_sendReport_32 : decode cX0_sendReport 32 = .ok (.dup2, 1) := by decide +kernel
theorem dX0_sendReport_33 : decode cX0_sendReport 33 = .ok (.iaload, 1) := by decide +kernel
theorem dX0_sendReport_34 : decode cX0_sendReport 34 = .ok (.iconst 1, 1) := by decide +kernel
theorem dX0_sendReport_35 : decode cX0_sendReport 35 = .ok (.iload_n 1, 1) := by decide +kernel
theorem dX0_sendReport_36 : decode cX0_sendReport 36 = .ok (.ishl, 1) := by decide +kernel
theorem dX0_sendReport_37 : decode cX0_sendReport 37 = .ok (.ior, 1) := by decide +kernel
theorem dX0_sendReport_38 : decode cX0_sendReport 38 = .ok (.iastore, 1) := by decide +kernel
theorem dX0_sendReport_39 : decode cX0_sendReport 39 = .ok (.aload_n 0, 1) := by decide +kernel
theorem dX0_sendReport_40 : decode cX0_sendReport 40 = .ok (.getfield 52, 3) := by decide +kernel
theorem dX0_sendReport_43 : decode cX0_sendReport 43 = .ok (.iload_n 2, 1) := by decide +kernel
theorem dX0_sendReport_44 : decode cX0_sendReport 44 = .ok (.bipush 6, 2) := by decide +kernel
theorem dX0_sendReport_46 : decode cX0_sendReport 46 = .ok (.imul, 1) := by decide +kernel
theorem dX0_sendReport_47 : decode cX0_sendReport 47 = .ok (.iload_n 1, 1) := by decide +kernel
theorem dX0_sendReport_48 : decode cX0_sendReport 48 = .ok (.iadd, 1) := by decide +kernel
theorem dX0_sendReport_49 : decode cX0_sendReport 49 = .ok (.aload_n 0, 1) := by decide +kernel
theorem dX0_sendReport_50 : decode cX0_sendReport 50 = .ok (.getfield 21, 3) := by decide +kernel
theorem dX0_sendReport_53 : decode cX0_sendReport 53 = .ok (.iastore, 1) := by decide +kernel
theorem dX0_sendReport_54 : decode cX0_sendReport 54 = .ok (.iinc 2 1, 3) := by decide +kernel
theorem dX0_sendReport_57 : decode cX0_sendReport 57 = .ok (.goto (-45), 3) := by decide +kernel
theorem dX0_sendReport_60 : decode cX0_sendReport 60 = .ok (.return_, 1) := by decide +kernel
set_option maxRecDepth 20000 in
theorem ggX0_sendBye_X0_goAway : GoodIn wsX0_sendBye wsX0_goAway := goodIn_r _ [6, 7, 8, 9, 10, 11, 45, 46, 47, 48, 49, 50, 51, 52, 53, 54, 55, 56, 57, 58] (by decide +kernel) (by decide +kernel)
set_option maxRecDepth 20000 in
theorem gX0_sendBye_X0_goAway : GoodIn wsX0_sendBye (wsV RX0 55 RX0 yX0_goAway wsX0_goAway) := goodIn_app (goodIn_of _ (by decide +kernel)) ggX0_sendBye_X0_goAway
set_option maxRecDepth 20000 in
theorem ggX0_sendBye_X0_reaches : GoodIn wsX0_sendBye wsX0_reaches := goodIn_r _ [15, 7, 16, 17, 18, 5, 19, 20, 45, 46, 47, 48, 49, 50, 51, 52, 53, 54, 55, 56, 57, 58] (by decide +kernel) (by decide +kernel)
set_option maxRecDepth 20000 in
theorem gX0_sendBye_X0_reaches : GoodIn wsX0_sendBye (wsV RX0 126 RX0 yX0_reaches wsX0_reaches) := goodIn_app (goodIn_of _ (by decide +kernel)) ggX0_sendBye_X0_reaches
set_option maxRecDepth 20000 in
theorem ggX0_sendBye_X0_hearBye : GoodIn wsX0_sendBye wsX0_hearBye := goodIn_r _ [24, 7, 11, 8, 10, 25, 26, 27, 28, 29, 9, 30, 31, 32, 5, 33, 34, 35, 36, 37, 38, 39, 40, 41, 42, 43, 44, 45, 46, 47, 48, 49, 50, 51, 52, 53, 54, 55, 56, 57, 58] (by decide +kernel) (by decide +kernel)
set_option maxRecDepth 20000 in
theorem gX0_sendBye_X0_hearBye : GoodIn wsX0_sendBye (wsV RX0 129 RX0 yX0_hearBye wsX0_hearBye) := goodIn_app (goodIn_of _ (by decide +kernel)) ggX0_sendBye_X0_hearBye
theorem dX0_sendBye_0 : decode cX0_sendBye 0 = .ok (.aload_n 0, 1) := by decide +kernel
theorem dX0_sendBye_1 : decode cX0_sendBye 1 = .ok (.dup, 1) := by decide +kernel
theorem dX0_sendBye_2 : decode cX0_sendBye 2 = .ok (.getfield 30, 3) := by decide +kernel
theorem dX0_sendBye_5 : decode cX0_sendBye 5 = .ok (.iconst 1, 1) := by decide +kernel
theorem dX0_sendBye_6 : decode cX0_sendBye 6 = .ok (.iadd, 1) := by decide +kernel
theorem dX0_sendBye_7 : decode cX0_sendBye 7 = .ok (.putfield 30, 3) := by decide +kernel
theorem dX0_sendBye_10 : decode cX0_sendBye 10 = .ok (.aload_n 0, 1) := by decide +kernel
theorem dX0_sendBye_11 : decode cX0_sendBye 11 = .ok (.iload_n 1, 1) := by decide +kernel
theorem dX0_sendBye_12 : decode cX0_sendBye 12 = .ok (.invokevirtual 55, 3) := by decide +kernel
theorem dX0_sendBye_15 : decode cX0_sendBye 15 = .ok (.iconst 0, 1) := by decide +kernel
theorem dX0_sendBye_16 : decode cX0_sendBye 16 = .ok (.istore_n 2, 1) := by decide +kernel
theorem dX0_sendBye_17 : decode cX0_sendBye 17 = .ok (.iload_n 2, 1) := by decide +kernel
theorem dX0_sendBye_18 : decode cX0_sendBye 18 = .ok (.bipush 6, 2) := by decide +kernel
theorem dX0_sendBye_20 : decode cX0_sendBye 20 = .ok (.if_icmp .ge 24, 3) := by decide +kernel
theorem dX0_sendBye_23 : decode cX0_sendBye 23 = .ok (.aload_n 0, 1) := by decide +kernel
theorem dX0_sendBye_24 : decode cX0_sendBye 24 = .ok (.iload_n 1, 1) := by decide +kernel
theorem dX0_sendBye_25 : decode cX0_sendBye 25 = .ok (.iload_n 2, 1) := by decide +kernel
theorem dX0_sendBye_26 : decode cX0_sendBye 26 = .ok (.invokevirtual 126, 3) := by decide +kernel
theorem dX0_sendBye_29 : decode cX0_sendBye 29 = .ok (.ifCond .eq 9, 3) := by decide +kernel
theorem dX0_sendBye_32 : decode cX0_sendBye 32 = .ok (.aload_n 0, 1) := by decide +kernel
theorem dX0_sendBye_33 : decode cX0_sendBye 33 = .ok (.iload_n 2, 1) := by decide +kernel
theorem dX0_sendBye_34 : decode cX0_sendBye 34 = .ok (.iload_n 1, 1) := by decide +kernel
theorem dX0_sendBye_35 : decode cX0_sendBye 35 = .ok (.invokevirtual 129, 3) := by decide +kernel
theorem dX0_sendBye_38 : decode cX0_sendBye 38 = .ok (.iinc 2 1, 3) := by decide +kernel
theorem dX0_sendBye_41 : decode cX0_sendBye 41 = .ok (.goto (-24), 3) := by decide +kernel
theorem dX0_sendBye_44 : decode cX0_sendBye 44 = .ok (.return_, 1) := by decide +kernel
set_option maxRecDepth 20000 in
theorem ggX0_hearBye_X0_knows : GoodIn wsX0_hearBye wsX0_knows := goodIn_r _ [15, 3, 27, 28, 29, 30, 31, 32, 33, 34, 35, 36, 37, 38, 39, 40] (by decide +kernel) (by decide +kernel)
set_option maxRecDepth 20000 in
theorem gX0_hearBye_X0_knows : GoodIn wsX0_hearBye (wsV RX0 119 RX0 yX0_knows wsX0_knows) := goodIn_app (goodIn_of _ (by decide +kernel)) ggX0_hearBye_X0_knows
set_option maxRecDepth 20000 in
theorem ggX0_hearBye_X0_countOf : GoodIn wsX0_hearBye wsX0_countOf := goodIn_r _ [19, 3, 20, 21, 22, 23, 24, 25, 26, 27, 28, 29, 30, 31, 32, 33, 34, 35, 36, 37, 38, 39, 40] (by decide +kernel) (by decide +kernel)
set_option maxRecDepth 20000 in
theorem gX0_hearBye_X0_countOf : GoodIn wsX0_hearBye (wsV RX0 71 RX0 yX0_countOf wsX0_countOf) := goodIn_app (goodIn_of _ (by decide +kernel)) ggX0_hearBye_X0_countOf
theorem dX0_hearBye_0 : decode cX0_hearBye 0 = .ok (.aload_n 0, 1) := by decide +kernel
theorem dX0_hearBye_1 : decode cX0_hearBye 1 = .ok (.getfield 33, 3) := by decide +kernel
theorem dX0_hearBye_4 : decode cX0_hearBye 4 = .ok (.iload_n 1, 1) := by decide +kernel
theorem dX0_hearBye_5 : decode cX0_hearBye 5 = .ok (.iaload, 1) := by decide +kernel
theorem dX0_hearBye_6 : decode cX0_hearBye 6 = .ok (.iconst 2, 1) := by decide +kernel
theorem dX0_hearBye_7 : decode cX0_hearBye 7 = .ok (.if_icmp .ne 13, 3) := by decide +kernel
theorem dX0_hearBye_10 : decode cX0_hearBye 10 = .ok (.aload_n 0, 1) := by decide +kernel
theorem dX0_hearBye_11 : decode cX0_hearBye 11 = .ok (.getfield 46, 3) := by decide +kernel
theorem dX0_hearBye_14 : decode cX0_hearBye 14 = .ok (.iload_n 1, 1) := by decide +kernel
theorem dX0_hearBye_15 : decode cX0_hearBye 15 = .ok (.dup2, 1) := by decide +kernel
theorem dX0_hearBye_16 : decode cX0_hearBye 16 = .ok (.iaload, 1) := by decide +kernel
theorem dX0_hearBye_17 : decode cX0_hearBye 17 = .ok (.iconst 1, 1) := by decide +kernel
theorem dX0_hearBye_18 : decode cX0_hearBye 18 = .ok (.iadd, 1) := by decide +kernel
theorem dX0_hearBye_19 : decode cX0_hearBye 19 = .ok (.iastore, 1) := by decide +kernel
theorem dX0_hearBye_20 : decode cX0_hearBye 20 = .ok (.aload_n 0, 1) := by decide +kernel
theorem dX0_hearBye_21 : decode cX0_hearBye 21 = .ok (.iload_n 1, 1) := by decide +kernel
theorem dX0_hearBye_22 : decode cX0_hearBye 22 = .ok (.iload_n 2, 1) := by decide +kernel
theorem dX0_hearBye_23 : decode cX0_hearBye 23 = .ok (.invokevirtual 119, 3) := by decide +kernel
theorem dX0_hearBye_26 : decode cX0_hearBye 26 = .ok (.ifCond .ne 4, 3) := by decide +kernel
theorem dX0_hearBye_29 : decode cX0_hearBye 29 = .ok (.return_, 1) := by decide +kernel
theorem dX0_hearBye_30 : decode cX0_hearBye 30 = .ok (.aload_n 0, 1) := by decide +kernel
theorem dX0_hearBye_31 : decode cX0_hearBye 31 = .ok (.iload_n 1, 1) := by decide +kernel
theorem dX0_hearBye_32 : decode cX0_hearBye 32 = .ok (.invokevirtual 71, 3) := by decide +kernel
theorem dX0_hearBye_35 : decode cX0_hearBye 35 = .ok (.istore_n 3, 1) := by decide +kernel
theorem dX0_hearBye_36 : decode cX0_hearBye 36 = .ok (.iload_n 3, 1) := by decide +kernel
theorem dX0_hearBye_37 : decode cX0_hearBye 37 = .ok (.iconst 1, 1) := by decide +kernel
theorem dX0_hearBye_38 : decode cX0_hearBye 38 = .ok (.isub, 1) := by decide +kernel
theorem dX0_hearBye_39 : decode cX0_hearBye 39 = .ok (.istore 4, 2) := by decide +kernel
theorem dX0_hearBye_41 : decode cX0_hearBye 41 = .ok (.aload_n 0, 1) := by decide +kernel
theorem dX0_hearBye_42 : decode cX0_hearBye 42 = .ok (.getfield 37, 3) := by decide +kernel
theorem dX0_hearBye_45 : decode cX0_hearBye 45 = .ok (.iload_n 1, 1) := by decide +kernel
theorem dX0_hearBye_46 : decode cX0_hearBye 46 = .ok (.dup2, 1) := by decide +kernel
theorem dX0_hearBye_47 : decode cX0_hearBye 47 = .ok (.iaload, 1) := by decide +kernel
theorem dX0_hearBye_48 : decode cX0_hearBye 48 = .ok (.iconst 1, 1) := by decide +kernel
theorem dX0_hearBye_49 : decode cX0_hearBye 49 = .ok (.iload_n 2, 1) := by decide +kernel
theorem dX0_hearBye_50 : decode cX0_hearBye 50 = .ok (.ishl, 1) := by decide +kernel
theorem dX0_hearBye_51 : decode cX0_hearBye 51 = .ok (.iconst (-1), 1) := by decide +kernel
theorem dX0_hearBye_52 : decode cX0_hearBye 52 = .ok (.ixor, 1) := by decide +kernel
theorem dX0_hearBye_53 : decode cX0_hearBye 53 = .ok (.iand, 1) := by decide +kernel
theorem dX0_hearBye_54 : decode cX0_hearBye 54 = .ok (.iastore, 1) := by decide +kernel
theorem dX0_hearBye_55 : decode cX0_hearBye 55 = .ok (.aload_n 0, 1) := by decide +kernel
theorem dX0_hearBye_56 : decode cX0_hearBye 56 = .ok (.getfield 33, 3) := by decide +kernel
theorem dX0_hearBye_59 : decode cX0_hearBye 59 = .ok (.iload_n 1, 1) := by decide +kernel
theorem dX0_hearBye_60 : decode cX0_hearBye 60 = .ok (.iaload, 1) := by decide +kernel
theorem dX0_hearBye_61 : decode cX0_hearBye 61 = .ok (.iconst 1, 1) := by decide +kernel
theorem dX0_hearBye_62 : decode cX0_hearBye 62 = .ok (.if_icmp .ne 61, 3) := by decide +kernel
theorem dX0_hearBye_65 : decode cX0_hearBye 65 = .ok (.aload_n 0, 1) := by decide +kernel
theorem dX0_hearBye_66 : decode cX0_hearBye 66 = .ok (.getfield 43, 3) := by decide +kernel
theorem dX0_hearBye_69 : decode cX0_hearBye 69 = .ok (.iload_n 1, 1) := by decide +kernel
theorem dX0_hearBye_70 : decode cX0_hearBye 70 = .ok (.aload_n 0, 1) := by decide +kernel
theorem dX0_hearBye_71 : decode cX0_hearBye 71 = .ok (.getfield 21, 3) := by decide +kernel
theorem dX0_hearBye_74 : decode cX0_hearBye 74 = .ok (.iconst 0, 1) := by decide +kernel
theorem dX0_hearBye_75 : decode cX0_hearBye 75 = .ok (.aload_n 0, 1) := by decide +kernel
theorem dX0_hearBye_76 : decode cX0_hearBye 76 = .ok (.getfield 43, 3) := by decide +kernel
theorem dX0_hearBye_79 : decode cX0_hearBye 79 = .ok (.iload_n 1, 1) := by decide +kernel
theorem dX0_hearBye_80 : decode cX0_hearBye 80 = .ok (.iaload, 1) := by decide +kernel
theorem dX0_hearBye_81 : decode cX0_hearBye 81 = .ok (.aload_n 0, 1) := by decide +kernel
theorem dX0_hearBye_82 : decode cX0_hearBye 82 = .ok (.getfield 21, 3) := by decide +kernel
theorem dX0_hearBye_85 : decode cX0_hearBye 85 = .ok (.isub, 1) := by decide +kernel
theorem dX0_hearBye_86 : decode cX0_hearBye 86 = .ok (.invokestatic 77, 3) := by decide +kernel
theorem dX0_hearBye_89 : decode cX0_hearBye 89 = .ok (.iload 4, 2) := by decide +kernel
theorem dX0_hearBye_91 : decode cX0_hearBye 91 = .ok (.imul, 1) := by decide +kernel
theorem dX0_hearBye_92 : decode cX0_hearBye 92 = .ok (.iload_n 3, 1) := by decide +kernel
theorem dX0_hearBye_93 : decode cX0_hearBye 93 = .ok (.idiv, 1) := by decide +kernel
theorem dX0_hearBye_94 : decode cX0_hearBye 94 = .ok (.iadd, 1) := by decide +kernel
theorem dX0_hearBye_95 : decode cX0_hearBye 95 = .ok (.iastore, 1) := by decide +kernel
theorem dX0_hearBye_96 : decode cX0_hearBye 96 = .ok (.aload_n 0, 1) := by decide +kernel
theorem dX0_hearBye_97 : decode cX0_hearBye 97 = .ok (.getfield 40, 3) := by decide +kernel
theorem dX0_hearBye_100 : decode cX0_hearBye 100 = .ok (.iload_n 1, 1) := by decide +kernel
theorem dX0_hearBye_101 : decode cX0_hearBye 101 = .ok (.aload_n 0, 1) := by decide +kernel
theorem dX0_hearBye_102 : decode cX0_hearBye 102 = .ok (.getfield 21, 3) := by decide +kernel
theorem dX0_hearBye_105 : decode cX0_hearBye 105 = .ok (.aload_n 0, 1) := by decide +kernel
theorem dX0_hearBye_106 : decode cX0_hearBye 106 = .ok (.getfield 21, 3) := by decide +kernel
theorem dX0_hearBye_109 : decode cX0_hearBye 109 = .ok (.aload_n 0, 1) := by decide +kernel
theorem dX0_hearBye_110 : decode cX0_hearBye 110 = .ok (.getfield 40, 3) := by decide +kernel
theorem dX0_hearBye_113 : decode cX0_hearBye 113 = .ok (.iload_n 1, 1) := by decide +kernel
theorem dX0_hearBye_114 : decode cX0_hearBye 114 = .ok (.iaload, 1) := by decide +kernel
theorem dX0_hearBye_115 : decode cX0_hearBye 115 = .ok (.isub, 1) := by decide +kernel
theorem dX0_hearBye_116 : decode cX0_hearBye 116 = .ok (.iload 4, 2) := by decide +kernel
theorem dX0_hearBye_118 : decode cX0_hearBye 118 = .ok (.imul, 1) := by decide +kernel
theorem dX0_hearBye_119 : decode cX0_hearBye 119 = .ok (.iload_n 3, 1) := by decide +kernel
theorem dX0_hearBye_120 : decode cX0_hearBye 120 = .ok (.idiv, 1) := by decide +kernel
theorem dX0_hearBye_121 : decode cX0_hearBye 121 = .ok (.isub, 1) := by decide +kernel
theorem dX0_hearBye_122 : decode cX0_hearBye 122 = .ok (.iastore, 1) := by decide +kernel
theorem dX0_hearBye_123 : decode cX0_hearBye 123 = .ok (.return_, 1) := by decide +kernel
theorem dJ6_bitCount_0f7a4_0 : decode cJ6_bitCount_0f7a4 0 = .ok (.iload_n 0, 1) := by decide +kernel
theorem dJ6_bitCount_0f7a4_1 : decode cJ6_bitCount_0f7a4 1 = .ok (.iload_n 0, 1) := by decide +kernel
theorem dJ6_bitCount_0f7a4_2 : decode cJ6_bitCount_0f7a4 2 = .ok (.iconst 1, 1) := by decide +kernel
theorem dJ6_bitCount_0f7a4_3 : decode cJ6_bitCount_0f7a4 3 = .ok (.iushr, 1) := by decide +kernel
theorem dJ6_bitCount_0f7a4_4 : decode cJ6_bitCount_0f7a4 4 = .ok (.ldc_w 265, 3) := by decide +kernel
theorem dJ6_bitCount_0f7a4_7 : decode cJ6_bitCount_0f7a4 7 = .ok (.iand, 1) := by decide +kernel
theorem dJ6_bitCount_0f7a4_8 : decode cJ6_bitCount_0f7a4 8 = .ok (.isub, 1) := by decide +kernel
theorem dJ6_bitCount_0f7a4_9 : decode cJ6_bitCount_0f7a4 9 = .ok (.istore_n 0, 1) := by decide +kernel
theorem dJ6_bitCount_0f7a4_10 : decode cJ6_bitCount_0f7a4 10 = .ok (.iload_n 0, 1) := by decide +kernel
theorem dJ6_bitCount_0f7a4_11 : decode cJ6_bitCount_0f7a4 11 = .ok (.ldc_w 266, 3) := by decide +kernel
theorem dJ6_bitCount_0f7a4_14 : decode cJ6_bitCount_0f7a4 14 = .ok (.iand, 1) := by decide +kernel
theorem dJ6_bitCount_0f7a4_15 : decode cJ6_bitCount_0f7a4 15 = .ok (.iload_n 0, 1) := by decide +kernel
theorem dJ6_bitCount_0f7a4_16 : decode cJ6_bitCount_0f7a4 16 = .ok (.iconst 2, 1) := by decide +kernel
theorem dJ6_bitCount_0f7a4_17 : decode cJ6_bitCount_0f7a4 17 = .ok (.iushr, 1) := by decide +kernel
theorem dJ6_bitCount_0f7a4_18 : decode cJ6_bitCount_0f7a4 18 = .ok (.ldc_w 266, 3) := by decide +kernel
theorem dJ6_bitCount_0f7a4_21 : decode cJ6_bitCount_0f7a4 21 = .ok (.iand, 1) := by decide +kernel
theorem dJ6_bitCount_0f7a4_22 : decode cJ6_bitCount_0f7a4 22 = .ok (.iadd, 1) := by decide +kernel
theorem dJ6_bitCount_0f7a4_23 : decode cJ6_bitCount_0f7a4 23 = .ok (.istore_n 0, 1) := by decide +kernel
theorem dJ6_bitCount_0f7a4_24 : decode cJ6_bitCount_0f7a4 24 = .ok (.iload_n 0, 1) := by decide +kernel
theorem dJ6_bitCount_0f7a4_25 : decode cJ6_bitCount_0f7a4 25 = .ok (.iload_n 0, 1) := by decide +kernel
theorem dJ6_bitCount_0f7a4_26 : decode cJ6_bitCount_0f7a4 26 = .ok (.iconst 4, 1) := by decide +kernel
theorem dJ6_bitCount_0f7a4_27 : decode cJ6_bitCount_0f7a4 27 = .ok (.iushr, 1) := by decide +kernel
theorem dJ6_bitCount_0f7a4_28 : decode cJ6_bitCount_0f7a4 28 = .ok (.iadd, 1) := by decide +kernel
theorem dJ6_bitCount_0f7a4_29 : decode cJ6_bitCount_0f7a4 29 = .ok (.ldc_w 267, 3) := by decide +kernel
theorem dJ6_bitCount_0f7a4_32 : decode cJ6_bitCount_0f7a4 32 = .ok (.iand, 1) := by decide +kernel
theorem dJ6_bitCount_0f7a4_33 : decode cJ6_bitCount_0f7a4 33 = .ok (.istore_n 0, 1) := by decide +kernel
theorem dJ6_bitCount_0f7a4_34 : decode cJ6_bitCount_0f7a4 34 = .ok (.iload_n 0, 1) := by decide +kernel
theorem dJ6_bitCount_0f7a4_35 : decode cJ6_bitCount_0f7a4 35 = .ok (.iload_n 0, 1) := by decide +kernel
theorem dJ6_bitCount_0f7a4_36 : decode cJ6_bitCount_0f7a4 36 = .ok (.bipush 8, 2) := by decide +kernel
theorem dJ6_bitCount_0f7a4_38 : decode cJ6_bitCount_0f7a4 38 = .ok (.iushr, 1) := by decide +kernel
theorem dJ6_bitCount_0f7a4_39 : decode cJ6_bitCount_0f7a4 39 = .ok (.iadd, 1) := by decide +kernel
theorem dJ6_bitCount_0f7a4_40 : decode cJ6_bitCount_0f7a4 40 = .ok (.istore_n 0, 1) := by decide +kernel
theorem dJ6_bitCount_0f7a4_41 : decode cJ6_bitCount_0f7a4 41 = .ok (.iload_n 0, 1) := by decide +kernel
theorem dJ6_bitCount_0f7a4_42 : decode cJ6_bitCount_0f7a4 42 = .ok (.iload_n 0, 1) := by decide +kernel
theorem dJ6_bitCount_0f7a4_43 : decode cJ6_bitCount_0f7a4 43 = .ok (.bipush 16, 2) := by decide +kernel
theorem dJ6_bitCount_0f7a4_45 : decode cJ6_bitCount_0f7a4 45 = .ok (.iushr, 1) := by decide +kernel
theorem dJ6_bitCount_0f7a4_46 : decode cJ6_bitCount_0f7a4 46 = .ok (.iadd, 1) := by decide +kernel
theorem dJ6_bitCount_0f7a4_47 : decode cJ6_bitCount_0f7a4 47 = .ok (.istore_n 0, 1) := by decide +kernel
theorem dJ6_bitCount_0f7a4_48 : decode cJ6_bitCount_0f7a4 48 = .ok (.iload_n 0, 1) := by decide +kernel
theorem dJ6_bitCount_0f7a4_49 : decode cJ6_bitCount_0f7a4 49 = .ok (.bipush 63, 2) := by decide +kernel
theorem dJ6_bitCount_0f7a4_51 : decode cJ6_bitCount_0f7a4 51 = .ok (.iand, 1) := by decide +kernel
theorem dJ6_bitCount_0f7a4_52 : decode cJ6_bitCount_0f7a4 52 = .ok (.ireturn, 1) := by decide +kernel
theorem dJ9_abs_0f7a4_0 : decode cJ9_abs_0f7a4 0 = .ok (.iload_n 0, 1) := by decide +kernel
theorem dJ9_abs_0f7a4_1 : decode cJ9_abs_0f7a4 1 = .ok (.ifCond .ge 8, 3) := by decide +kernel
theorem dJ9_abs_0f7a4_4 : decode cJ9_abs_0f7a4 4 = .ok (.iload_n 0, 1) := by decide +kernel
theorem dJ9_abs_0f7a4_5 : decode cJ9_abs_0f7a4 5 = .ok (.ineg, 1) := by decide +kernel
theorem dJ9_abs_0f7a4_6 : decode cJ9_abs_0f7a4 6 = .ok (.goto 4, 3) := by decide +kernel
theorem dJ9_abs_0f7a4_9 : decode cJ9_abs_0f7a4 9 = .ok (.iload_n 0, 1) := by decide +kernel
theorem dJ9_abs_0f7a4_10 : decode cJ9_abs_0f7a4 10 = .ok (.ireturn, 1) := by decide +kernel
theorem dJ9_max_7cf53_0 : decode cJ9_max_7cf53 0 = .ok (.iload_n 0, 1) := by decide +kernel
theorem dJ9_max_7cf53_1 : decode cJ9_max_7cf53 1 = .ok (.iload_n 1, 1) := by decide +kernel
theorem dJ9_max_7cf53_2 : decode cJ9_max_7cf53 2 = .ok (.if_icmp .lt 7, 3) := by decide +kernel
theorem dJ9_max_7cf53_5 : decode cJ9_max_7cf53 5 = .ok (.iload_n 0, 1) := by decide +kernel
theorem dJ9_max_7cf53_6 : decode cJ9_max_7cf53 6 = .ok (.goto 4, 3) := by decide +kernel
theorem dJ9_max_7cf53_9 : decode cJ9_max_7cf53 9 = .ok (.iload_n 1, 1) := by decide +kernel
theorem dJ9_max_7cf53_10 : decode cJ9_max_7cf53 10 = .ok (.ireturn, 1) := by decide +kernel
theorem dX1_isMember_0 : decode cX1_isMember 0 = .ok (.iload_n 0, 1) := by decide +kernel
theorem dX1_isMember_1 : decode cX1_isMember 1 = .ok (.ifCond .lt 13, 3) := by decide +kernel
theorem dX1_isMember_4 : decode cX1_isMember 4 = .ok (.iload_n 0, 1) := by decide +kernel
theorem dX1_isMember_5 : decode cX1_isMember 5 = .ok (.bipush 6, 2) := by decide +kernel
theorem dX1_isMember_7 : decode cX1_isMember 7 = .ok (.if_icmp .ge 7, 3) := by decide +kernel
theorem dX1_isMember_10 : decode cX1_isMember 10 = .ok (.iconst 1, 1) := by decide +kernel
theorem dX1_isMember_11 : decode cX1_isMember 11 = .ok (.goto 4, 3) := by decide +kernel
theorem dX1_isMember_14 : decode cX1_isMember 14 = .ok (.iconst 0, 1) := by decide +kernel
theorem dX1_isMember_15 : decode cX1_isMember 15 = .ok (.ireturn, 1) := by decide +kernel

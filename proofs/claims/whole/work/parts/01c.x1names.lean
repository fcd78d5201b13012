set_option maxRecDepth 20000 in
theorem ggX1_init_X0_init : GoodIn wsX1_init wsX0_init := goodIn_r _ [22, 23, 2, 3, 24, 25, 26, 27, 28, 29, 30, 13, 31, 32, 33, 34, 35, 36, 37, 38, 39, 40, 41, 42, 43, 44, 45, 46, 47, 48, 49, 50, 51] (by decide +kernel) (by decide +kernel)
set_option maxRecDepth 20000 in
theorem gX1_init_X0_init_n9 : GoodIn wsX1_init (wsX0_init) := ggX1_init_X0_init
theorem dX1_init_0 : decode cX1_init 0 = .ok (.aload_n 0, 1) := by decide +kernel
theorem dX1_init_1 : decode cX1_init 1 = .ok (.invokespecial 1, 3) := by decide +kernel
theorem dX1_init_4 : decode cX1_init 4 = .ok (.aload_n 0, 1) := by decide +kernel
theorem dX1_init_5 : decode cX1_init 5 = .ok (.new 7, 3) := by decide +kernel
theorem dX1_init_8 : decode cX1_init 8 = .ok (.dup, 1) := by decide +kernel
theorem dX1_init_9 : decode cX1_init 9 = .ok (.invokespecial 9, 3) := by decide +kernel
theorem dX1_init_12 : decode cX1_init 12 = .ok (.putfield 10, 3) := by decide +kernel
theorem dX1_init_15 : decode cX1_init 15 = .ok (.aload_n 0, 1) := by decide +kernel
theorem dX1_init_16 : decode cX1_init 16 = .ok (.new 7, 3) := by decide +kernel
theorem dX1_init_19 : decode cX1_init 19 = .ok (.dup, 1) := by decide +kernel
theorem dX1_init_20 : decode cX1_init 20 = .ok (.invokespecial 9, 3) := by decide +kernel
theorem dX1_init_23 : decode cX1_init 23 = .ok (.putfield 16, 3) := by decide +kernel
theorem dX1_init_26 : decode cX1_init 26 = .ok (.aload_n 0, 1) := by decide +kernel
theorem dX1_init_27 : decode cX1_init 27 = .ok (.bipush 14, 2) := by decide +kernel
theorem dX1_init_29 : decode cX1_init 29 = .ok (.anewarray 7, 3) := by decide +kernel
theorem dX1_init_32 : decode cX1_init 32 = .ok (.putfield 19, 3) := by decide +kernel
theorem dX1_init_35 : decode cX1_init 35 = .ok (.aload_n 0, 1) := by decide +kernel
theorem dX1_init_36 : decode cX1_init 36 = .ok (.iconst 0, 1) := by decide +kernel
theorem dX1_init_37 : decode cX1_init 37 = .ok (.putfield 23, 3) := by decide +kernel
theorem dX1_init_40 : decode cX1_init 40 = .ok (.aload_n 0, 1) := by decide +kernel
theorem dX1_init_41 : decode cX1_init 41 = .ok (.iconst 2, 1) := by decide +kernel
theorem dX1_init_42 : decode cX1_init 42 = .ok (.anewarray 7, 3) := by decide +kernel
theorem dX1_init_45 : decode cX1_init 45 = .ok (.putfield 27, 3) := by decide +kernel
theorem dX1_init_48 : decode cX1_init 48 = .ok (.aload_n 0, 1) := by decide +kernel
theorem dX1_init_49 : decode cX1_init 49 = .ok (.iconst 0, 1) := by decide +kernel
theorem dX1_init_50 : decode cX1_init 50 = .ok (.putfield 30, 3) := by decide +kernel
theorem dX1_init_53 : decode cX1_init 53 = .ok (.aload_n 0, 1) := by decide +kernel
theorem dX1_init_54 : decode cX1_init 54 = .ok (.bipush 60, 2) := by decide +kernel
theorem dX1_init_56 : decode cX1_init 56 = .ok (.newarray .int, 2) := by decide +kernel
theorem dX1_init_58 : decode cX1_init 58 = .ok (.putfield 33, 3) := by decide +kernel
theorem dX1_init_61 : decode cX1_init 61 = .ok (.aload_n 0, 1) := by decide +kernel
theorem dX1_init_62 : decode cX1_init 62 = .ok (.iconst 0, 1) := by decide +kernel
theorem dX1_init_63 : decode cX1_init 63 = .ok (.putfield 37, 3) := by decide +kernel
theorem dX1_init_66 : decode cX1_init 66 = .ok (.aload_n 0, 1) := by decide +kernel
theorem dX1_init_67 : decode cX1_init 67 = .ok (.bipush 6, 2) := by decide +kernel
theorem dX1_init_69 : decode cX1_init 69 = .ok (.newarray .int, 2) := by decide +kernel
theorem dX1_init_71 : decode cX1_init 71 = .ok (.putfield 40, 3) := by decide +kernel
theorem dX1_init_74 : decode cX1_init 74 = .ok (.aload_n 0, 1) := by decide +kernel
theorem dX1_init_75 : decode cX1_init 75 = .ok (.bipush 6, 2) := by decide +kernel
theorem dX1_init_77 : decode cX1_init 77 = .ok (.newarray .int, 2) := by decide +kernel
theorem dX1_init_79 : decode cX1_init 79 = .ok (.putfield 43, 3) := by decide +kernel
theorem dX1_init_82 : decode cX1_init 82 = .ok (.aload_n 0, 1) := by decide +kernel
theorem dX1_init_83 : decode cX1_init 83 = .ok (.iconst 0, 1) := by decide +kernel
theorem dX1_init_84 : decode cX1_init 84 = .ok (.putfield 46, 3) := by decide +kernel
theorem dX1_init_87 : decode cX1_init 87 = .ok (.aload_n 0, 1) := by decide +kernel
theorem dX1_init_88 : decode cX1_init 88 = .ok (.lconst 0, 1) := by decide +kernel
theorem dX1_init_89 : decode cX1_init 89 = .ok (.putfield 49, 3) := by decide +kernel
theorem dX1_init_92 : decode cX1_init 92 = .ok (.aload_n 0, 1) := by decide +kernel
theorem dX1_init_93 : decode cX1_init 93 = .ok (.bipush 64, 2) := by decide +kernel
theorem dX1_init_95 : decode cX1_init 95 = .ok (.newarray .int, 2) := by decide +kernel
theorem dX1_init_97 : decode cX1_init 97 = .ok (.putfield 53, 3) := by decide +kernel
theorem dX1_init_100 : decode cX1_init 100 = .ok (.iconst 0, 1) := by decide +kernel
theorem dX1_init_101 : decode cX1_init 101 = .ok (.istore_n 1, 1) := by decide +kernel
theorem dX1_init_102 : decode cX1_init 102 = .ok (.iload_n 1, 1) := by decide +kernel
theorem dX1_init_103 : decode cX1_init 103 = .ok (.bipush 14, 2) := by decide +kernel
theorem dX1_init_105 : decode cX1_init 105 = .ok (.if_icmp .ge 22, 3) := by decide +kernel
theorem dX1_init_108 : decode cX1_init 108 = .ok (.aload_n 0, 1) := by decide +kernel
theorem dX1_init_109 : decode cX1_init 109 = .ok (.getfield 19, 3) := by decide +kernel
theorem dX1_init_112 : decode cX1_init 112 = .ok (.iload_n 1, 1) := by decide +kernel
theorem dX1_init_113 : decode cX1_init 113 = .ok (.new 7, 3) := by decide +kernel
theorem dX1_init_116 : decode cX1_init 116 = .ok (.dup, 1) := by decide +kernel
theorem dX1_init_117 : decode cX1_init 117 = .ok (.invokespecial 9, 3) := by decide +kernel
theorem dX1_init_120 : decode cX1_init 120 = .ok (.aastore, 1) := by decide +kernel
theorem dX1_init_121 : decode cX1_init 121 = .ok (.iinc 1 1, 3) := by decide +kernel
theorem dX1_init_124 : decode cX1_init 124 = .ok (.goto (-22), 3) := by decide +kernel
theorem dX1_init_127 : decode cX1_init 127 = .ok (.iconst 0, 1) := by decide +kernel
theorem dX1_init_128 : decode cX1_init 128 = .ok (.istore_n 1, 1) := by decide +kernel
theorem dX1_init_129 : decode cX1_init 129 = .ok (.iload_n 1, 1) := by decide +kernel
theorem dX1_init_130 : decode cX1_init 130 = .ok (.iconst 2, 1) := by decide +kernel
theorem dX1_init_131 : decode cX1_init 131 = .ok (.if_icmp .ge 22, 3) := by decide +kernel
theorem dX1_init_134 : decode cX1_init 134 = .ok (.aload_n 0, 1) := by decide +kernel
theorem dX1_init_135 : decode cX1_init 135 = .ok (.getfield 27, 3) := by decide +kernel
theorem dX1_init_138 : decode cX1_init 138 = .ok (.iload_n 1, 1) := by decide +kernel
theorem dX1_init_139 : decode cX1_init 139 = .ok (.new 7, 3) := by decide +kernel
theorem dX1_init_142 : decode cX1_init 142 = .ok (.dup, 1) := by decide +kernel
theorem dX1_init_143 : decode cX1_init 143 = .ok (.invokespecial 9, 3) := by decide +kernel
theorem dX1_init_146 : decode cX1_init 146 = .ok (.aastore, 1) := by decide +kernel
theorem dX1_init_147 : decode cX1_init 147 = .ok (.iinc 1 1, 3) := by decide +kernel
theorem dX1_init_150 : decode cX1_init 150 = .ok (.goto (-21), 3) := by decide +kernel
theorem dX1_init_153 : decode cX1_init 153 = .ok (.return_, 1) := by decide +kernel
theorem dX1_write_0 : decode cX1_write 0 = .ok (.iload_n 1, 1) := by decide +kernel
theorem dX1_write_1 : decode cX1_write 1 = .ok (.ifCond .lt 10, 3) := by decide +kernel
theorem dX1_write_4 : decode cX1_write 4 = .ok (.iload_n 1, 1) := by decide +kernel
theorem dX1_write_5 : decode cX1_write 5 = .ok (.sipush 255, 3) := by decide +kernel
theorem dX1_write_8 : decode cX1_write 8 = .ok (.if_icmp .le 6, 3) := by decide +kernel
theorem dX1_write_11 : decode cX1_write 11 = .ok (.bipush (-2), 2) := by decide +kernel
theorem dX1_write_13 : decode cX1_write 13 = .ok (.ireturn, 1) := by decide +kernel
theorem dX1_write_14 : decode cX1_write 14 = .ok (.aload_n 0, 1) := by decide +kernel
theorem dX1_write_15 : decode cX1_write 15 = .ok (.getfield 37, 3) := by decide +kernel
theorem dX1_write_18 : decode cX1_write 18 = .ok (.bipush 60, 2) := by decide +kernel
theorem dX1_write_20 : decode cX1_write 20 = .ok (.if_icmp .lt 6, 3) := by decide +kernel
theorem dX1_write_23 : decode cX1_write 23 = .ok (.bipush (-4), 2) := by decide +kernel
theorem dX1_write_25 : decode cX1_write 25 = .ok (.ireturn, 1) := by decide +kernel
theorem dX1_write_26 : decode cX1_write 26 = .ok (.aload_n 0, 1) := by decide +kernel
theorem dX1_write_27 : decode cX1_write 27 = .ok (.getfield 33, 3) := by decide +kernel
theorem dX1_write_30 : decode cX1_write 30 = .ok (.aload_n 0, 1) := by decide +kernel
theorem dX1_write_31 : decode cX1_write 31 = .ok (.getfield 37, 3) := by decide +kernel
theorem dX1_write_34 : decode cX1_write 34 = .ok (.iload_n 1, 1) := by decide +kernel
theorem dX1_write_35 : decode cX1_write 35 = .ok (.iastore, 1) := by decide +kernel
theorem dX1_write_36 : decode cX1_write 36 = .ok (.aload_n 0, 1) := by decide +kernel
theorem dX1_write_37 : decode cX1_write 37 = .ok (.dup, 1) := by decide +kernel
theorem dX1_write_38 : decode cX1_write 38 = .ok (.getfield 37, 3) := by decide +kernel
theorem dX1_write_41 : decode cX1_write 41 = .ok (.iconst 1, 1) := by decide +kernel
theorem dX1_write_42 : decode cX1_write 42 = .ok (.iadd, 1) := by decide +kernel
theorem dX1_write_43 : decode cX1_write 43 = .ok (.putfield 37, 3) := by decide +kernel
theorem dX1_write_46 : decode cX1_write 46 = .ok (.aload_n 0, 1) := by decide +kernel
theorem dX1_write_47 : decode cX1_write 47 = .ok (.getfield 37, 3) := by decide +kernel
theorem dX1_write_50 : decode cX1_write 50 = .ok (.ireturn, 1) := by decide +kernel
theorem dX1_wipe_0 : decode cX1_wipe 0 = .ok (.aload_n 0, 1) := by decide +kernel
theorem dX1_wipe_1 : decode cX1_wipe 1 = .ok (.getfield 37, 3) := by decide +kernel
theorem dX1_wipe_4 : decode cX1_wipe 4 = .ok (.istore_n 1, 1) := by decide +kernel
theorem dX1_wipe_5 : decode cX1_wipe 5 = .ok (.aload_n 0, 1) := by decide +kernel
theorem dX1_wipe_6 : decode cX1_wipe 6 = .ok (.iconst 0, 1) := by decide +kernel
theorem dX1_wipe_7 : decode cX1_wipe 7 = .ok (.putfield 37, 3) := by decide +kernel
theorem dX1_wipe_10 : decode cX1_wipe 10 = .ok (.iload_n 1, 1) := by decide +kernel
theorem dX1_wipe_11 : decode cX1_wipe 11 = .ok (.ireturn, 1) := by decide +kernel
set_option maxRecDepth 20000 in
theorem ggX1_fault_X1_readText : GoodIn wsX1_fault wsX1_readText := goodIn_r _ [5, 6, 7, 8, 9, 10, 11, 4, 12, 13, 14, 15, 16, 17, 18, 19, 20, 21, 22, 23, 24, 25, 26, 27, 28, 29, 30, 31, 32, 33, 34, 35, 36, 37, 38, 39, 40, 41, 42, 43, 44, 45, 46, 47, 48, 49, 50, 51, 52, 53, 54, 55, 56, 57, 58, 59, 60, 61, 62, 63, 64, 65, 66, 67, 68, 69, 70, 71, 72, 73, 74, 75, 76, 77, 78, 79, 80, 81, 82, 83, 84, 85, 86, 87, 88, 89, 90, 91, 92, 93, 94, 95, 96, 97, 98, 99, 100, 101, 102, 103, 104, 105, 106, 107, 108, 109, 110, 111, 112, 113, 114, 115, 116, 117, 118, 119, 120, 121, 122, 123, 124, 125, 126, 127, 128, 129, 130, 131, 132, 133, 134, 135, 136, 137, 138, 139, 140, 141, 142, 143, 144, 145, 146, 147, 148, 149, 150, 151, 152, 153, 154, 155] (by decide +kernel) (by decide +kernel)
set_option maxRecDepth 20000 in
theorem gX1_fault_X1_readText : GoodIn wsX1_fault (wsV RX1 56 RX1 yX1_readText wsX1_readText) := goodIn_app (goodIn_of _ (by decide +kernel)) ggX1_fault_X1_readText
theorem dX1_fault_0 : decode cX1_fault 0 = .ok (.aload_n 0, 1) := by decide +kernel
theorem dX1_fault_1 : decode cX1_fault 1 = .ok (.invokevirtual 56, 3) := by decide +kernel
theorem dX1_fault_4 : decode cX1_fault 4 = .ok (.ireturn, 1) := by decide +kernel
set_option maxRecDepth 20000 in
theorem ggX1_meeting_X1_readText : GoodIn wsX1_meeting wsX1_readText := goodIn_r _ [10, 11, 12, 2, 13, 14, 15, 9, 16, 17, 18, 19, 20, 21, 22, 23, 24, 25, 26, 27, 28, 29, 30, 31, 32, 33, 34, 35, 36, 37, 38, 39, 40, 41, 42, 43, 44, 45, 46, 47, 48, 49, 50, 51, 52, 53, 54, 55, 56, 57, 58, 59, 60, 61, 62, 63, 64, 65, 66, 67, 68, 69, 70, 71, 72, 73, 74, 75, 76, 77, 78, 79, 80, 81, 82, 83, 84, 85, 86, 87, 88, 89, 90, 91, 92, 93, 94, 95, 96, 97, 98, 99, 100, 101, 102, 103, 104, 105, 106, 107, 108, 109, 110, 111, 112, 113, 114, 115, 116, 117, 118, 119, 120, 121, 122, 123, 124, 125, 126, 127, 128, 129, 130, 131, 132, 141, 142, 143, 144, 145, 146, 147, 148, 149, 150, 151, 152, 153, 154, 155, 156, 157, 158, 159, 160, 161, 162, 163, 164, 165, 166, 167] (by decide +kernel) (by decide +kernel)
set_option maxRecDepth 20000 in
theorem gX1_meeting_X1_readText : GoodIn wsX1_meeting (wsV RX1 56 RX1 yX1_readText wsX1_readText) := goodIn_app (goodIn_of _ (by decide +kernel)) ggX1_meeting_X1_readText
set_option maxRecDepth 20000 in
theorem ggX1_meeting_X0_takeFrom : GoodIn wsX1_meeting wsX0_takeFrom := goodIn_r _ [136, 68, 66, 67, 29, 56, 30, 31, 37, 137, 138, 139, 140, 38, 39, 40, 41, 32, 120, 154, 155, 156, 157, 158, 159, 160, 161, 162, 163, 164, 165, 166, 167] (by decide +kernel) (by decide +kernel)
set_option maxRecDepth 20000 in
theorem gX1_meeting_X0_takeFrom : GoodIn wsX1_meeting (wsV RX1 60 RX0 yX0_takeFrom wsX0_takeFrom) := goodIn_app (goodIn_of _ (by decide +kernel)) ggX1_meeting_X0_takeFrom
theorem dX1_meeting_0 : decode cX1_meeting 0 = .ok (.aload_n 0, 1) := by decide +kernel
theorem dX1_meeting_1 : decode cX1_meeting 1 = .ok (.invokevirtual 56, 3) := by decide +kernel
theorem dX1_meeting_4 : decode cX1_meeting 4 = .ok (.bipush (-9), 2) := by decide +kernel
theorem dX1_meeting_6 : decode cX1_meeting 6 = .ok (.if_icmp .eq 6, 3) := by decide +kernel
theorem dX1_meeting_9 : decode cX1_meeting 9 = .ok (.bipush (-3), 2) := by decide +kernel
theorem dX1_meeting_11 : decode cX1_meeting 11 = .ok (.ireturn, 1) := by decide +kernel
theorem dX1_meeting_12 : decode cX1_meeting 12 = .ok (.aload_n 0, 1) := by decide +kernel
theorem dX1_meeting_13 : decode cX1_meeting 13 = .ok (.getfield 10, 3) := by decide +kernel
theorem dX1_meeting_16 : decode cX1_meeting 16 = .ok (.aload_n 0, 1) := by decide +kernel
theorem dX1_meeting_17 : decode cX1_meeting 17 = .ok (.getfield 16, 3) := by decide +kernel
theorem dX1_meeting_20 : decode cX1_meeting 20 = .ok (.invokevirtual 60, 3) := by decide +kernel
theorem dX1_meeting_23 : decode cX1_meeting 23 = .ok (.aload_n 0, 1) := by decide +kernel
theorem dX1_meeting_24 : decode cX1_meeting 24 = .ok (.iconst 0, 1) := by decide +kernel
theorem dX1_meeting_25 : decode cX1_meeting 25 = .ok (.putfield 23, 3) := by decide +kernel
theorem dX1_meeting_28 : decode cX1_meeting 28 = .ok (.aload_n 0, 1) := by decide +kernel
theorem dX1_meeting_29 : decode cX1_meeting 29 = .ok (.iconst 0, 1) := by decide +kernel
theorem dX1_meeting_30 : decode cX1_meeting 30 = .ok (.putfield 30, 3) := by decide +kernel
theorem dX1_meeting_33 : decode cX1_meeting 33 = .ok (.aload_n 0, 1) := by decide +kernel
theorem dX1_meeting_34 : decode cX1_meeting 34 = .ok (.getfield 10, 3) := by decide +kernel
theorem dX1_meeting_37 : decode cX1_meeting 37 = .ok (.getfield 64, 3) := by decide +kernel
theorem dX1_meeting_40 : decode cX1_meeting 40 = .ok (.ireturn, 1) := by decide +kernel
set_option maxRecDepth 20000 in
theorem ggX1_about_X0_bitsOf : GoodIn wsX1_about wsX0_bitsOf := goodIn_r _ [16, 17, 131, 132, 133, 134, 135, 136, 137, 138, 139, 140, 141, 142, 143, 144] (by decide +kernel) (by decide +kernel)
set_option maxRecDepth 20000 in
theorem gX1_about_X0_bitsOf : GoodIn wsX1_about (wsV RX1 85 RX0 yX0_bitsOf wsX0_bitsOf) := goodIn_app (goodIn_of _ (by decide +kernel)) ggX1_about_X0_bitsOf
set_option maxRecDepth 20000 in
theorem ggX1_about_X1_restAt : GoodIn wsX1_about wsX1_restAt := goodIn_r _ [22, 23, 1, 24, 25, 26, 15, 27, 28, 29, 30, 31, 32, 33, 34, 17, 35, 36, 37, 38, 39, 40, 41, 42, 43, 44, 45, 46, 47, 48, 49, 13, 14, 16, 50, 51, 52, 53, 54, 55, 56, 57, 58, 59, 60, 61, 62, 63, 64, 65, 66, 67, 68, 69, 70, 71, 72, 73, 74, 75, 76, 77, 78, 79, 80, 81, 82, 83, 84, 85, 86, 87, 88, 89, 90, 91, 92, 93, 94, 95, 96, 97, 98, 99, 100, 101, 102, 103, 104, 105, 106, 107, 108, 109, 110, 111, 112, 113, 114, 115, 116, 117, 118, 119, 120, 121, 122, 123, 124, 125, 126, 127, 128, 129, 130, 131, 132, 133, 134, 135, 136, 137, 138, 139, 140, 141, 142, 143, 144] (by decide +kernel) (by decide +kernel)
set_option maxRecDepth 20000 in
theorem gX1_about_X1_restAt : GoodIn wsX1_about (wsV RX1 89 RX1 yX1_restAt wsX1_restAt) := goodIn_app (goodIn_of _ (by decide +kernel)) ggX1_about_X1_restAt
theorem dX1_about_0 : decode cX1_about 0 = .ok (.iload_n 1, 1) := by decide +kernel
theorem dX1_about_1 : decode cX1_about 1 = .ok (.tableswitch 161 0 12 #[67, 75, 83, 91, 99, 107, 115, 123, 132, 141, 146, 151, 156], 67) := by decide +kernel
theorem dX1_about_68 : decode cX1_about 68 = .ok (.aload_n 0, 1) := by decide +kernel
theorem dX1_about_69 : decode cX1_about 69 = .ok (.getfield 10, 3) := by decide +kernel
theorem dX1_about_72 : decode cX1_about 72 = .ok (.getfield 67, 3) := by decide +kernel
theorem dX1_about_75 : decode cX1_about 75 = .ok (.ireturn, 1) := by decide +kernel
theorem dX1_about_76 : decode cX1_about 76 = .ok (.aload_n 0, 1) := by decide +kernel
theorem dX1_about_77 : decode cX1_about 77 = .ok (.getfield 10, 3) := by decide +kernel
theorem dX1_about_80 : decode cX1_about 80 = .ok (.getfield 70, 3) := by decide +kernel
theorem dX1_about_83 : decode cX1_about 83 = .ok (.ireturn, 1) := by decide +kernel
theorem dX1_about_84 : decode cX1_about 84 = .ok (.aload_n 0, 1) := by decide +kernel
theorem dX1_about_85 : decode cX1_about 85 = .ok (.getfield 10, 3) := by decide +kernel
theorem dX1_about_88 : decode cX1_about 88 = .ok (.getfield 73, 3) := by decide +kernel
theorem dX1_about_91 : decode cX1_about 91 = .ok (.ireturn, 1) := by decide +kernel
theorem dX1_about_92 : decode cX1_about 92 = .ok (.aload_n 0, 1) := by decide +kernel
theorem dX1_about_93 : decode cX1_about 93 = .ok (.getfield 10, 3) := by decide +kernel
theorem dX1_about_96 : decode cX1_about 96 = .ok (.getfield 64, 3) := by decide +kernel
theorem dX1_about_99 : decode cX1_about 99 = .ok (.ireturn, 1) := by decide +kernel
theorem dX1_about_100 : decode cX1_about 100 = .ok (.aload_n 0, 1) := by decide +kernel
theorem dX1_about_101 : decode cX1_about 101 = .ok (.getfield 10, 3) := by decide +kernel
theorem dX1_about_104 : decode cX1_about 104 = .ok (.getfield 76, 3) := by decide +kernel
theorem dX1_about_107 : decode cX1_about 107 = .ok (.ireturn, 1) := by decide +kernel
theorem dX1_about_108 : decode cX1_about 108 = .ok (.aload_n 0, 1) := by decide +kernel
theorem dX1_about_109 : decode cX1_about 109 = .ok (.getfield 10, 3) := by decide +kernel
theorem dX1_about_112 : decode cX1_about 112 = .ok (.getfield 79, 3) := by decide +kernel
theorem dX1_about_115 : decode cX1_about 115 = .ok (.ireturn, 1) := by decide +kernel
theorem dX1_about_116 : decode cX1_about 116 = .ok (.aload_n 0, 1) := by decide +kernel
theorem dX1_about_117 : decode cX1_about 117 = .ok (.getfield 10, 3) := by decide +kernel
theorem dX1_about_120 : decode cX1_about 120 = .ok (.getfield 82, 3) := by decide +kernel
theorem dX1_about_123 : decode cX1_about 123 = .ok (.ireturn, 1) := by decide +kernel
theorem dX1_about_124 : decode cX1_about 124 = .ok (.aload_n 0, 1) := by decide +kernel
theorem dX1_about_125 : decode cX1_about 125 = .ok (.getfield 10, 3) := by decide +kernel
theorem dX1_about_128 : decode cX1_about 128 = .ok (.iconst 1, 1) := by decide +kernel
theorem dX1_about_129 : decode cX1_about 129 = .ok (.invokevirtual 85, 3) := by decide +kernel
theorem dX1_about_132 : decode cX1_about 132 = .ok (.ireturn, 1) := by decide +kernel
theorem dX1_about_133 : decode cX1_about 133 = .ok (.aload_n 0, 1) := by decide +kernel
theorem dX1_about_134 : decode cX1_about 134 = .ok (.getfield 10, 3) := by decide +kernel
theorem dX1_about_137 : decode cX1_about 137 = .ok (.iconst 2, 1) := by decide +kernel
theorem dX1_about_138 : decode cX1_about 138 = .ok (.invokevirtual 85, 3) := by decide +kernel
theorem dX1_about_141 : decode cX1_about 141 = .ok (.ireturn, 1) := by decide +kernel
theorem dX1_about_142 : decode cX1_about 142 = .ok (.aload_n 0, 1) := by decide +kernel
theorem dX1_about_143 : decode cX1_about 143 = .ok (.invokevirtual 89, 3) := by decide +kernel
theorem dX1_about_146 : decode cX1_about 146 = .ok (.ireturn, 1) := by decide +kernel
theorem dX1_about_147 : decode cX1_about 147 = .ok (.aload_n 0, 1) := by decide +kernel
theorem dX1_about_148 : decode cX1_about 148 = .ok (.getfield 23, 3) := by decide +kernel
theorem dX1_about_151 : decode cX1_about 151 = .ok (.ireturn, 1) := by decide +kernel
theorem dX1_about_152 : decode cX1_about 152 = .ok (.aload_n 0, 1) := by decide +kernel
theorem dX1_about_153 : decode cX1_about 153 = .ok (.getfield 46, 3) := by decide +kernel
theorem dX1_about_156 : decode cX1_about 156 = .ok (.ireturn, 1) := by decide +kernel
theorem dX1_about_157 : decode cX1_about 157 = .ok (.aload_n 0, 1) := by decide +kernel
theorem dX1_about_158 : decode cX1_about 158 = .ok (.getfield 37, 3) := by decide +kernel
theorem dX1_about_161 : decode cX1_about 161 = .ok (.ireturn, 1) := by decide +kernel
theorem dX1_about_162 : decode cX1_about 162 = .ok (.bipush (-2), 2) := by decide +kernel
theorem dX1_about_164 : decode cX1_about 164 = .ok (.ireturn, 1) := by decide +kernel
set_option maxRecDepth 20000 in
theorem ggX1_member_X1_isMember : GoodIn wsX1_member wsX1_isMember := goodIn_r _ [10] (by decide +kernel) (by decide +kernel)
set_option maxRecDepth 20000 in
theorem gX1_member_X1_isMember : GoodIn wsX1_member (va_wsS RX1 92 yX1_isMember wsX1_isMember) := goodIn_app (goodIn_of _ (by decide +kernel)) ggX1_member_X1_isMember
set_option maxRecDepth 20000 in
theorem ggX1_member_X0_countTold : GoodIn wsX1_member wsX0_countTold := goodIn_r _ [15, 16, 17, 18, 19, 14, 20, 21, 22, 23, 24, 25, 26, 27, 28, 42, 43, 44, 45, 46, 47, 48, 49, 50, 51, 52, 53, 54, 55] (by decide +kernel) (by decide +kernel)
set_option maxRecDepth 20000 in
theorem gX1_member_X0_countTold : GoodIn wsX1_member (wsV RX1 102 RX0 yX0_countTold wsX0_countTold) := goodIn_app (goodIn_of _ (by decide +kernel)) ggX1_member_X0_countTold
theorem dX1_member_0 : decode cX1_member 0 = .ok (.iload_n 1, 1) := by decide +kernel
theorem dX1_member_1 : decode cX1_member 1 = .ok (.invokestatic 92, 3) := by decide +kernel
theorem dX1_member_4 : decode cX1_member 4 = .ok (.ifCond .ne 5, 3) := by decide +kernel
theorem dX1_member_7 : decode cX1_member 7 = .ok (.iconst (-1), 1) := by decide +kernel
theorem dX1_member_8 : decode cX1_member 8 = .ok (.ireturn, 1) := by decide +kernel
theorem dX1_member_9 : decode cX1_member 9 = .ok (.iload_n 2, 1) := by decide +kernel
theorem dX1_member_10 : decode cX1_member 10 = .ok (.tableswitch 97 0 5 #[38, 48, 58, 67, 77, 87], 38) := by decide +kernel
theorem dX1_member_48 : decode cX1_member 48 = .ok (.aload_n 0, 1) := by decide +kernel
theorem dX1_member_49 : decode cX1_member 49 = .ok (.getfield 10, 3) := by decide +kernel
theorem dX1_member_52 : decode cX1_member 52 = .ok (.getfield 96, 3) := by decide +kernel
theorem dX1_member_55 : decode cX1_member 55 = .ok (.iload_n 1, 1) := by decide +kernel
theorem dX1_member_56 : decode cX1_member 56 = .ok (.iaload, 1) := by decide +kernel
theorem dX1_member_57 : decode cX1_member 57 = .ok (.ireturn, 1) := by decide +kernel
theorem dX1_member_58 : decode cX1_member 58 = .ok (.aload_n 0, 1) := by decide +kernel
theorem dX1_member_59 : decode cX1_member 59 = .ok (.getfield 10, 3) := by decide +kernel
theorem dX1_member_62 : decode cX1_member 62 = .ok (.getfield 99, 3) := by decide +kernel
theorem dX1_member_65 : decode cX1_member 65 = .ok (.iload_n 1, 1) := by decide +kernel
theorem dX1_member_66 : decode cX1_member 66 = .ok (.iaload, 1) := by decide +kernel
theorem dX1_member_67 : decode cX1_member 67 = .ok (.ireturn, 1) := by decide +kernel
theorem dX1_member_68 : decode cX1_member 68 = .ok (.aload_n 0, 1) := by decide +kernel
theorem dX1_member_69 : decode cX1_member 69 = .ok (.getfield 10, 3) := by decide +kernel
theorem dX1_member_72 : decode cX1_member 72 = .ok (.iload_n 1, 1) := by decide +kernel
theorem dX1_member_73 : decode cX1_member 73 = .ok (.invokevirtual 102, 3) := by decide +kernel
theorem dX1_member_76 : decode cX1_member 76 = .ok (.ireturn, 1) := by decide +kernel
theorem dX1_member_77 : decode cX1_member 77 = .ok (.aload_n 0, 1) := by decide +kernel
theorem dX1_member_78 : decode cX1_member 78 = .ok (.getfield 10, 3) := by decide +kernel
theorem dX1_member_81 : decode cX1_member 81 = .ok (.getfield 105, 3) := by decide +kernel
theorem dX1_member_84 : decode cX1_member 84 = .ok (.iload_n 1, 1) := by decide +kernel
theorem dX1_member_85 : decode cX1_member 85 = .ok (.iaload, 1) := by decide +kernel
theorem dX1_member_86 : decode cX1_member 86 = .ok (.ireturn, 1) := by decide +kernel
theorem dX1_member_87 : decode cX1_member 87 = .ok (.aload_n 0, 1) := by decide +kernel
theorem dX1_member_88 : decode cX1_member 88 = .ok (.getfield 10, 3) := by decide +kernel
theorem dX1_member_91 : decode cX1_member 91 = .ok (.getfield 108, 3) := by decide +kernel
theorem dX1_member_94 : decode cX1_member 94 = .ok (.iload_n 1, 1) := by decide +kernel
theorem dX1_member_95 : decode cX1_member 95 = .ok (.iaload, 1) := by decide +kernel
theorem dX1_member_96 : decode cX1_member 96 = .ok (.ireturn, 1) := by decide +kernel
theorem dX1_member_97 : decode cX1_member 97 = .ok (.aload_n 0, 1) := by decide +kernel
theorem dX1_member_98 : decode cX1_member 98 = .ok (.getfield 10, 3) := by decide +kernel
theorem dX1_member_101 : decode cX1_member 101 = .ok (.getfield 111, 3) := by decide +kernel
theorem dX1_member_104 : decode cX1_member 104 = .ok (.iload_n 1, 1) := by decide +kernel
theorem dX1_member_105 : decode cX1_member 105 = .ok (.iaload, 1) := by decide +kernel
theorem dX1_member_106 : decode cX1_member 106 = .ok (.ireturn, 1) := by decide +kernel
theorem dX1_member_107 : decode cX1_member 107 = .ok (.bipush (-2), 2) := by decide +kernel
theorem dX1_member_109 : decode cX1_member 109 = .ok (.ireturn, 1) := by decide +kernel
set_option maxRecDepth 20000 in
theorem ggX1_heard_X1_isMember : GoodIn wsX1_heard wsX1_isMember := goodIn_r _ [6] (by decide +kernel) (by decide +kernel)
set_option maxRecDepth 20000 in
theorem gX1_heard_X1_isMember : GoodIn wsX1_heard (va_wsS RX1 92 yX1_isMember wsX1_isMember) := goodIn_app (goodIn_of _ (by decide +kernel)) ggX1_heard_X1_isMember
set_option maxRecDepth 20000 in
theorem ggX1_heard_X0_knows : GoodIn wsX1_heard wsX0_knows := goodIn_r _ [11, 12, 26, 27, 28, 29, 30, 31, 32, 33, 34, 35, 36, 37, 38, 39] (by decide +kernel) (by decide +kernel)
set_option maxRecDepth 20000 in
theorem gX1_heard_X0_knows : GoodIn wsX1_heard (wsV RX1 114 RX0 yX0_knows wsX0_knows) := goodIn_app (goodIn_of _ (by decide +kernel)) ggX1_heard_X0_knows
theorem dX1_heard_0 : decode cX1_heard 0 = .ok (.iload_n 1, 1) := by decide +kernel
theorem dX1_heard_1 : decode cX1_heard 1 = .ok (.invokestatic 92, 3) := by decide +kernel
theorem dX1_heard_4 : decode cX1_heard 4 = .ok (.ifCond .eq 10, 3) := by decide +kernel
theorem dX1_heard_7 : decode cX1_heard 7 = .ok (.iload_n 2, 1) := by decide +kernel
theorem dX1_heard_8 : decode cX1_heard 8 = .ok (.invokestatic 92, 3) := by decide +kernel
theorem dX1_heard_11 : decode cX1_heard 11 = .ok (.ifCond .ne 5, 3) := by decide +kernel
theorem dX1_heard_14 : decode cX1_heard 14 = .ok (.iconst (-1), 1) := by decide +kernel
theorem dX1_heard_15 : decode cX1_heard 15 = .ok (.ireturn, 1) := by decide +kernel
theorem dX1_heard_16 : decode cX1_heard 16 = .ok (.aload_n 0, 1) := by decide +kernel
theorem dX1_heard_17 : decode cX1_heard 17 = .ok (.getfield 10, 3) := by decide +kernel
theorem dX1_heard_20 : decode cX1_heard 20 = .ok (.iload_n 1, 1) := by decide +kernel
theorem dX1_heard_21 : decode cX1_heard 21 = .ok (.iload_n 2, 1) := by decide +kernel
theorem dX1_heard_22 : decode cX1_heard 22 = .ok (.invokevirtual 114, 3) := by decide +kernel
theorem dX1_heard_25 : decode cX1_heard 25 = .ok (.ifCond .eq 20, 3) := by decide +kernel
theorem dX1_heard_28 : decode cX1_heard 28 = .ok (.aload_n 0, 1) := by decide +kernel
theorem dX1_heard_29 : decode cX1_heard 29 = .ok (.getfield 10, 3) := by decide +kernel
theorem dX1_heard_32 : decode cX1_heard 32 = .ok (.getfield 118, 3) := by decide +kernel
theorem dX1_heard_35 : decode cX1_heard 35 = .ok (.iload_n 1, 1) := by decide +kernel
theorem dX1_heard_36 : decode cX1_heard 36 = .ok (.bipush 6, 2) := by decide +kernel
theorem dX1_heard_38 : decode cX1_heard 38 = .ok (.imul, 1) := by decide +kernel
theorem dX1_heard_39 : decode cX1_heard 39 = .ok (.iload_n 2, 1) := by decide +kernel
theorem dX1_heard_40 : decode cX1_heard 40 = .ok (.iadd, 1) := by decide +kernel
theorem dX1_heard_41 : decode cX1_heard 41 = .ok (.iaload, 1) := by decide +kernel
theorem dX1_heard_42 : decode cX1_heard 42 = .ok (.goto 5, 3) := by decide +kernel
theorem dX1_heard_45 : decode cX1_heard 45 = .ok (.bipush (-9), 2) := by decide +kernel
theorem dX1_heard_47 : decode cX1_heard 47 = .ok (.ireturn, 1) := by decide +kernel
set_option maxRecDepth 20000 in
theorem ggX1_way_X1_isMember : GoodIn wsX1_way wsX1_isMember := goodIn_r _ [5] (by decide +kernel) (by decide +kernel)
set_option maxRecDepth 20000 in
theorem gX1_way_X1_isMember : GoodIn wsX1_way (va_wsS RX1 92 yX1_isMember wsX1_isMember) := goodIn_app (goodIn_of _ (by decide +kernel)) ggX1_way_X1_isMember
set_option maxRecDepth 20000 in
theorem ggX1_way_X0_isOpen : GoodIn wsX1_way wsX0_isOpen := goodIn_r _ [10, 11, 25, 26, 27, 28, 29, 30, 31, 32, 33, 34, 35, 36, 37, 38] (by decide +kernel) (by decide +kernel)
set_option maxRecDepth 20000 in
theorem gX1_way_X0_isOpen : GoodIn wsX1_way (wsV RX1 121 RX0 yX0_isOpen wsX0_isOpen) := goodIn_app (goodIn_of _ (by decide +kernel)) ggX1_way_X0_isOpen
theorem dX1_way_0 : decode cX1_way 0 = .ok (.iload_n 1, 1) := by decide +kernel
theorem dX1_way_1 : decode cX1_way 1 = .ok (.invokestatic 92, 3) := by decide +kernel
theorem dX1_way_4 : decode cX1_way 4 = .ok (.ifCond .eq 10, 3) := by decide +kernel
theorem dX1_way_7 : decode cX1_way 7 = .ok (.iload_n 2, 1) := by decide +kernel
theorem dX1_way_8 : decode cX1_way 8 = .ok (.invokestatic 92, 3) := by decide +kernel
theorem dX1_way_11 : decode cX1_way 11 = .ok (.ifCond .ne 5, 3) := by decide +kernel
theorem dX1_way_14 : decode cX1_way 14 = .ok (.iconst (-1), 1) := by decide +kernel
theorem dX1_way_15 : decode cX1_way 15 = .ok (.ireturn, 1) := by decide +kernel
theorem dX1_way_16 : decode cX1_way 16 = .ok (.iload_n 1, 1) := by decide +kernel
theorem dX1_way_17 : decode cX1_way 17 = .ok (.iload_n 2, 1) := by decide +kernel
theorem dX1_way_18 : decode cX1_way 18 = .ok (.if_icmp .ne 6, 3) := by decide +kernel
theorem dX1_way_21 : decode cX1_way 21 = .ok (.bipush (-2), 2) := by decide +kernel
theorem dX1_way_23 : decode cX1_way 23 = .ok (.ireturn, 1) := by decide +kernel
theorem dX1_way_24 : decode cX1_way 24 = .ok (.aload_n 0, 1) := by decide +kernel
theorem dX1_way_25 : decode cX1_way 25 = .ok (.getfield 10, 3) := by decide +kernel
theorem dX1_way_28 : decode cX1_way 28 = .ok (.iload_n 1, 1) := by decide +kernel
theorem dX1_way_29 : decode cX1_way 29 = .ok (.iload_n 2, 1) := by decide +kernel
theorem dX1_way_30 : decode cX1_way 30 = .ok (.invokevirtual 121, 3) := by decide +kernel
theorem dX1_way_33 : decode cX1_way 33 = .ok (.ifCond .eq 7, 3) := by decide +kernel
theorem dX1_way_36 : decode cX1_way 36 = .ok (.iconst 1, 1) := by decide +kernel
theorem dX1_way_37 : decode cX1_way 37 = .ok (.goto 4, 3) := by decide +kernel
theorem dX1_way_40 : decode cX1_way 40 = .ok (.iconst 0, 1) := by decide +kernel
theorem dX1_way_41 : decode cX1_way 41 = .ok (.ireturn, 1) := by decide +kernel
set_option maxRecDepth 20000 in
theorem ggX1_join_X1_isMember : GoodIn wsX1_join wsX1_isMember := goodIn_r _ [7] (by decide +kernel) (by decide +kernel)
set_option maxRecDepth 20000 in
theorem gX1_join_X1_isMember : GoodIn wsX1_join (va_wsS RX1 92 yX1_isMember wsX1_isMember) := goodIn_app (goodIn_of _ (by decide +kernel)) ggX1_join_X1_isMember
set_option maxRecDepth 20000 in
theorem ggX1_join_X1_remember : GoodIn wsX1_join wsX1_remember := goodIn_r _ [11, 12, 13, 1, 14, 15, 16, 17, 18, 19, 20, 21, 22, 23, 24, 25, 26, 27, 28, 29, 30, 31, 32, 33, 34, 35, 36, 58, 59, 60, 61, 62, 63, 64, 65, 66, 67, 68, 69, 70, 71, 72, 73, 74, 75, 76, 77, 78, 79, 80, 81, 82, 83, 84] (by decide +kernel) (by decide +kernel)
set_option maxRecDepth 20000 in
theorem gX1_join_X1_remember : GoodIn wsX1_join (wsV RX1 124 RX1 yX1_remember wsX1_remember) := goodIn_app (goodIn_of _ (by decide +kernel)) ggX1_join_X1_remember
set_option maxRecDepth 20000 in
theorem ggX1_join_X0_enter : GoodIn wsX1_join wsX0_enter := goodIn_r _ [40, 26, 5, 6, 7, 41, 42, 43, 17, 44, 32, 22, 33, 45, 46, 47, 48, 23, 49, 50, 51, 52, 53, 54, 55, 56, 57, 20, 21, 19, 71, 72, 73, 74, 75, 76, 77, 78, 79, 80, 81, 82, 83, 84] (by decide +kernel) (by decide +kernel)
set_option maxRecDepth 20000 in
theorem gX1_join_X0_enter : GoodIn wsX1_join (wsV RX1 127 RX0 yX0_enter wsX0_enter) := goodIn_app (goodIn_of _ (by decide +kernel)) ggX1_join_X0_enter
theorem dX1_join_0 : decode cX1_join 0 = .ok (.iload_n 1, 1) := by decide +kernel
theorem dX1_join_1 : decode cX1_join 1 = .ok (.invokestatic 92, 3) := by decide +kernel
theorem dX1_join_4 : decode cX1_join 4 = .ok (.ifCond .ne 5, 3) := by decide +kernel
theorem dX1_join_7 : decode cX1_join 7 = .ok (.iconst (-1), 1) := by decide +kernel
theorem dX1_join_8 : decode cX1_join 8 = .ok (.ireturn, 1) := by decide +kernel
theorem dX1_join_9 : decode cX1_join 9 = .ok (.aload_n 0, 1) := by decide +kernel
theorem dX1_join_10 : decode cX1_join 10 = .ok (.getfield 10, 3) := by decide +kernel
theorem dX1_join_13 : decode cX1_join 13 = .ok (.getfield 96, 3) := by decide +kernel
theorem dX1_join_16 : decode cX1_join 16 = .ok (.iload_n 1, 1) := by decide +kernel
theorem dX1_join_17 : decode cX1_join 17 = .ok (.iaload, 1) := by decide +kernel
theorem dX1_join_18 : decode cX1_join 18 = .ok (.ifCond .eq 6, 3) := by decide +kernel
theorem dX1_join_21 : decode cX1_join 21 = .ok (.bipush (-3), 2) := by decide +kernel
theorem dX1_join_23 : decode cX1_join 23 = .ok (.ireturn, 1) := by decide +kernel
theorem dX1_join_24 : decode cX1_join 24 = .ok (.aload_n 0, 1) := by decide +kernel
theorem dX1_join_25 : decode cX1_join 25 = .ok (.invokevirtual 124, 3) := by decide +kernel
theorem dX1_join_28 : decode cX1_join 28 = .ok (.aload_n 0, 1) := by decide +kernel
theorem dX1_join_29 : decode cX1_join 29 = .ok (.getfield 10, 3) := by decide +kernel
theorem dX1_join_32 : decode cX1_join 32 = .ok (.iload_n 1, 1) := by decide +kernel
theorem dX1_join_33 : decode cX1_join 33 = .ok (.invokevirtual 127, 3) := by decide +kernel
theorem dX1_join_36 : decode cX1_join 36 = .ok (.pop, 1) := by decide +kernel
theorem dX1_join_37 : decode cX1_join 37 = .ok (.aload_n 0, 1) := by decide +kernel
theorem dX1_join_38 : decode cX1_join 38 = .ok (.getfield 10, 3) := by decide +kernel
theorem dX1_join_41 : decode cX1_join 41 = .ok (.getfield 108, 3) := by decide +kernel
theorem dX1_join_44 : decode cX1_join 44 = .ok (.iload_n 1, 1) := by decide +kernel
theorem dX1_join_45 : decode cX1_join 45 = .ok (.iaload, 1) := by decide +kernel
theorem dX1_join_46 : decode cX1_join 46 = .ok (.ireturn, 1) := by decide +kernel
set_option maxRecDepth 20000 in
theorem ggX1_leave_X1_isMember : GoodIn wsX1_leave wsX1_isMember := goodIn_r _ [7] (by decide +kernel) (by decide +kernel)
set_option maxRecDepth 20000 in
theorem gX1_leave_X1_isMember : GoodIn wsX1_leave (va_wsS RX1 92 yX1_isMember wsX1_isMember) := goodIn_app (goodIn_of _ (by decide +kernel)) ggX1_leave_X1_isMember
set_option maxRecDepth 20000 in
theorem ggX1_leave_X1_remember : GoodIn wsX1_leave wsX1_remember := goodIn_r _ [11, 12, 13, 1, 14, 15, 16, 17, 18, 19, 20, 21, 22, 23, 24, 25, 26, 27, 28, 29, 30, 31, 32, 33, 34, 35, 36, 93, 94, 95, 96, 97, 98, 99, 100, 101, 102, 103, 104, 105, 106, 107, 108, 109, 110, 111, 112, 113, 114, 115, 116, 117, 118, 119] (by decide +kernel) (by decide +kernel)
set_option maxRecDepth 20000 in
theorem gX1_leave_X1_remember : GoodIn wsX1_leave (wsV RX1 124 RX1 yX1_remember wsX1_remember) := goodIn_app (goodIn_of _ (by decide +kernel)) ggX1_leave_X1_remember
set_option maxRecDepth 20000 in
theorem ggX1_leave_X0_depart : GoodIn wsX1_leave wsX0_depart := goodIn_r _ [40, 26, 34, 5, 6, 7, 41, 42, 43, 17, 44, 31, 45, 46, 47, 48, 49, 50, 51, 52, 53, 54, 55, 25, 56, 57, 58, 59, 32, 33, 60, 61, 62, 63, 64, 65, 66, 67, 35, 68, 69, 70, 71, 22, 72, 73, 74, 75, 76, 77, 78, 79, 80, 81, 82, 83, 84, 85, 86, 87, 23, 88, 89, 90, 91, 92, 20, 21, 19, 106, 107, 108, 109, 110, 111, 112, 113, 114, 115, 116, 117, 118, 119] (by decide +kernel) (by decide +kernel)
set_option maxRecDepth 20000 in
theorem gX1_leave_X0_depart : GoodIn wsX1_leave (wsV RX1 130 RX0 yX0_depart wsX0_depart) := goodIn_app (goodIn_of _ (by decide +kernel)) ggX1_leave_X0_depart
theorem dX1_leave_0 : decode cX1_leave 0 = .ok (.iload_n 1, 1) := by decide +kernel
theorem dX1_leave_1 : decode cX1_leave 1 = .ok (.invokestatic 92, 3) := by decide +kernel
theorem dX1_leave_4 : decode cX1_leave 4 = .ok (.ifCond .ne 5, 3) := by decide +kernel
theorem dX1_leave_7 : decode cX1_leave 7 = .ok (.iconst (-1), 1) := by decide +kernel
theorem dX1_leave_8 : decode cX1_leave 8 = .ok (.ireturn, 1) := by decide +kernel
theorem dX1_leave_9 : decode cX1_leave 9 = .ok (.aload_n 0, 1) := by decide +kernel
theorem dX1_leave_10 : decode cX1_leave 10 = .ok (.getfield 10, 3) := by decide +kernel
theorem dX1_leave_13 : decode cX1_leave 13 = .ok (.getfield 96, 3) := by decide +kernel
theorem dX1_leave_16 : decode cX1_leave 16 = .ok (.iload_n 1, 1) := by decide +kernel
theorem dX1_leave_17 : decode cX1_leave 17 = .ok (.iaload, 1) := by decide +kernel
theorem dX1_leave_18 : decode cX1_leave 18 = .ok (.iconst 1, 1) := by decide +kernel
theorem dX1_leave_19 : decode cX1_leave 19 = .ok (.if_icmp .eq 6, 3) := by decide +kernel
theorem dX1_leave_22 : decode cX1_leave 22 = .ok (.bipush (-3), 2) := by decide +kernel
theorem dX1_leave_24 : decode cX1_leave 24 = .ok (.ireturn, 1) := by decide +kernel
theorem dX1_leave_25 : decode cX1_leave 25 = .ok (.aload_n 0, 1) := by decide +kernel
theorem dX1_leave_26 : decode cX1_leave 26 = .ok (.invokevirtual 124, 3) := by decide +kernel
theorem dX1_leave_29 : decode cX1_leave 29 = .ok (.aload_n 0, 1) := by decide +kernel
theorem dX1_leave_30 : decode cX1_leave 30 = .ok (.getfield 10, 3) := by decide +kernel
theorem dX1_leave_33 : decode cX1_leave 33 = .ok (.iload_n 1, 1) := by decide +kernel
theorem dX1_leave_34 : decode cX1_leave 34 = .ok (.invokevirtual 130, 3) := by decide +kernel
theorem dX1_leave_37 : decode cX1_leave 37 = .ok (.pop, 1) := by decide +kernel
theorem dX1_leave_38 : decode cX1_leave 38 = .ok (.aload_n 0, 1) := by decide +kernel
theorem dX1_leave_39 : decode cX1_leave 39 = .ok (.getfield 10, 3) := by decide +kernel
theorem dX1_leave_42 : decode cX1_leave 42 = .ok (.getfield 108, 3) := by decide +kernel
theorem dX1_leave_45 : decode cX1_leave 45 = .ok (.iload_n 1, 1) := by decide +kernel
theorem dX1_leave_46 : decode cX1_leave 46 = .ok (.iaload, 1) := by decide +kernel
theorem dX1_leave_47 : decode cX1_leave 47 = .ok (.ireturn, 1) := by decide +kernel
set_option maxRecDepth 20000 in
theorem ggX1_pass_X1_remember : GoodIn wsX1_pass wsX1_remember := goodIn_r _ [6, 7, 8, 1, 9, 10, 11, 12, 13, 14, 15, 16, 17, 18, 19, 20, 21, 22, 23, 24, 25, 26, 27, 28, 29, 30, 31, 100, 101, 102, 103, 104, 105, 106, 107, 108, 109, 110, 111, 112, 113, 114, 115, 116, 117, 118, 119, 120, 121, 122, 123, 124, 125, 126] (by decide +kernel) (by decide +kernel)
set_option maxRecDepth 20000 in
theorem gX1_pass_X1_remember : GoodIn wsX1_pass (wsV RX1 124 RX1 yX1_remember wsX1_remember) := goodIn_app (goodIn_of _ (by decide +kernel)) ggX1_pass_X1_remember
set_option maxRecDepth 20000 in
theorem ggX1_pass_X0_run : GoodIn wsX1_pass wsX0_run := goodIn_r _ [35, 17, 21, 28, 26, 36, 37, 38, 12, 39, 19, 20, 40, 41, 42, 43, 29, 27, 44, 45, 46, 47, 48, 49, 50, 51, 52, 53, 54, 55, 56, 57, 58, 18, 59, 60, 61, 62, 63, 64, 65, 66, 67, 15, 16, 14, 68, 69, 70, 71, 72, 73, 74, 75, 76, 77, 78, 79, 80, 81, 82, 83, 30, 84, 85, 86, 87, 88, 89, 90, 91, 92, 93, 94, 95, 31, 96, 97, 98, 99, 113, 114, 115, 116, 117, 118, 119, 120, 121, 122, 123, 124, 125, 126] (by decide +kernel) (by decide +kernel)
set_option maxRecDepth 20000 in
theorem gX1_pass_X0_run : GoodIn wsX1_pass (wsV RX1 133 RX0 yX0_run wsX0_run) := goodIn_app (goodIn_of _ (by decide +kernel)) ggX1_pass_X0_run
theorem dX1_pass_0 : decode cX1_pass 0 = .ok (.iload_n 1, 1) := by decide +kernel
theorem dX1_pass_1 : decode cX1_pass 1 = .ok (.iconst 1, 1) := by decide +kernel
theorem dX1_pass_2 : decode cX1_pass 2 = .ok (.if_icmp .lt 9, 3) := by decide +kernel
theorem dX1_pass_5 : decode cX1_pass 5 = .ok (.iload_n 1, 1) := by decide +kernel
theorem dX1_pass_6 : decode cX1_pass 6 = .ok (.bipush 30, 2) := by decide +kernel
theorem dX1_pass_8 : decode cX1_pass 8 = .ok (.if_icmp .le 6, 3) := by decide +kernel
theorem dX1_pass_11 : decode cX1_pass 11 = .ok (.bipush (-2), 2) := by decide +kernel
theorem dX1_pass_13 : decode cX1_pass 13 = .ok (.ireturn, 1) := by decide +kernel
theorem dX1_pass_14 : decode cX1_pass 14 = .ok (.aload_n 0, 1) := by decide +kernel
theorem dX1_pass_15 : decode cX1_pass 15 = .ok (.invokevirtual 124, 3) := by decide +kernel
theorem dX1_pass_18 : decode cX1_pass 18 = .ok (.aload_n 0, 1) := by decide +kernel
theorem dX1_pass_19 : decode cX1_pass 19 = .ok (.getfield 10, 3) := by decide +kernel
theorem dX1_pass_22 : decode cX1_pass 22 = .ok (.iload_n 1, 1) := by decide +kernel
theorem dX1_pass_23 : decode cX1_pass 23 = .ok (.invokevirtual 133, 3) := by decide +kernel
theorem dX1_pass_26 : decode cX1_pass 26 = .ok (.ireturn, 1) := by decide +kernel
set_option maxRecDepth 20000 in
theorem ggX1_turn_X1_isMember : GoodIn wsX1_turn wsX1_isMember := goodIn_r _ [5] (by decide +kernel) (by decide +kernel)
set_option maxRecDepth 20000 in
theorem gX1_turn_X1_isMember : GoodIn wsX1_turn (va_wsS RX1 92 yX1_isMember wsX1_isMember) := goodIn_app (goodIn_of _ (by decide +kernel)) ggX1_turn_X1_isMember
set_option maxRecDepth 20000 in
theorem ggX1_turn_X1_remember : GoodIn wsX1_turn wsX1_remember := goodIn_r _ [9, 10, 11, 1, 12, 13, 14, 15, 16, 17, 18, 19, 20, 21, 22, 23, 24, 25, 26, 27, 28, 29, 30, 31, 32, 33, 34, 43, 44, 45, 46, 47, 48, 49, 50, 51, 52, 53, 54, 55, 56, 57, 58, 59, 60, 61, 62, 63, 64, 65, 66, 67, 68, 69] (by decide +kernel) (by decide +kernel)
set_option maxRecDepth 20000 in
theorem gX1_turn_X1_remember : GoodIn wsX1_turn (wsV RX1 124 RX1 yX1_remember wsX1_remember) := goodIn_app (goodIn_of _ (by decide +kernel)) ggX1_turn_X1_remember
set_option maxRecDepth 20000 in
theorem ggX1_turn_X0_turnWay : GoodIn wsX1_turn wsX0_turnWay := goodIn_r _ [38, 33, 56, 57, 58, 59, 60, 61, 62, 63, 64, 65, 66, 67, 68, 69] (by decide +kernel) (by decide +kernel)
set_option maxRecDepth 20000 in
theorem gX1_turn_X0_turnWay : GoodIn wsX1_turn (wsV RX1 136 RX0 yX0_turnWay wsX0_turnWay) := goodIn_app (goodIn_of _ (by decide +kernel)) ggX1_turn_X0_turnWay
set_option maxRecDepth 20000 in
theorem ggX1_turn_X0_isOpen : GoodIn wsX1_turn wsX0_isOpen := goodIn_r _ [42, 33, 56, 57, 58, 59, 60, 61, 62, 63, 64, 65, 66, 67, 68, 69] (by decide +kernel) (by decide +kernel)
set_option maxRecDepth 20000 in
theorem gX1_turn_X0_isOpen : GoodIn wsX1_turn (wsV RX1 121 RX0 yX0_isOpen wsX0_isOpen) := goodIn_app (goodIn_of _ (by decide +kernel)) ggX1_turn_X0_isOpen
theorem dX1_turn_0 : decode cX1_turn 0 = .ok (.iload_n 1, 1) := by decide +kernel
theorem dX1_turn_1 : decode cX1_turn 1 = .ok (.invokestatic 92, 3) := by decide +kernel
theorem dX1_turn_4 : decode cX1_turn 4 = .ok (.ifCond .eq 10, 3) := by decide +kernel
theorem dX1_turn_7 : decode cX1_turn 7 = .ok (.iload_n 2, 1) := by decide +kernel
theorem dX1_turn_8 : decode cX1_turn 8 = .ok (.invokestatic 92, 3) := by decide +kernel
theorem dX1_turn_11 : decode cX1_turn 11 = .ok (.ifCond .ne 5, 3) := by decide +kernel
theorem dX1_turn_14 : decode cX1_turn 14 = .ok (.iconst (-1), 1) := by decide +kernel
theorem dX1_turn_15 : decode cX1_turn 15 = .ok (.ireturn, 1) := by decide +kernel
theorem dX1_turn_16 : decode cX1_turn 16 = .ok (.iload_n 1, 1) := by decide +kernel
theorem dX1_turn_17 : decode cX1_turn 17 = .ok (.iload_n 2, 1) := by decide +kernel
theorem dX1_turn_18 : decode cX1_turn 18 = .ok (.if_icmp .ne 6, 3) := by decide +kernel
theorem dX1_turn_21 : decode cX1_turn 21 = .ok (.bipush (-2), 2) := by decide +kernel
theorem dX1_turn_23 : decode cX1_turn 23 = .ok (.ireturn, 1) := by decide +kernel
theorem dX1_turn_24 : decode cX1_turn 24 = .ok (.aload_n 0, 1) := by decide +kernel
theorem dX1_turn_25 : decode cX1_turn 25 = .ok (.invokevirtual 124, 3) := by decide +kernel
theorem dX1_turn_28 : decode cX1_turn 28 = .ok (.aload_n 0, 1) := by decide +kernel
theorem dX1_turn_29 : decode cX1_turn 29 = .ok (.getfield 10, 3) := by decide +kernel
theorem dX1_turn_32 : decode cX1_turn 32 = .ok (.iload_n 1, 1) := by decide +kernel
theorem dX1_turn_33 : decode cX1_turn 33 = .ok (.iload_n 2, 1) := by decide +kernel
theorem dX1_turn_34 : decode cX1_turn 34 = .ok (.invokevirtual 136, 3) := by decide +kernel
theorem dX1_turn_37 : decode cX1_turn 37 = .ok (.pop, 1) := by decide +kernel
theorem dX1_turn_38 : decode cX1_turn 38 = .ok (.aload_n 0, 1) := by decide +kernel
theorem dX1_turn_39 : decode cX1_turn 39 = .ok (.getfield 10, 3) := by decide +kernel
theorem dX1_turn_42 : decode cX1_turn 42 = .ok (.iload_n 1, 1) := by decide +kernel
theorem dX1_turn_43 : decode cX1_turn 43 = .ok (.iload_n 2, 1) := by decide +kernel
theorem dX1_turn_44 : decode cX1_turn 44 = .ok (.invokevirtual 121, 3) := by decide +kernel
theorem dX1_turn_47 : decode cX1_turn 47 = .ok (.ifCond .eq 7, 3) := by decide +kernel
theorem dX1_turn_50 : decode cX1_turn 50 = .ok (.iconst 1, 1) := by decide +kernel
theorem dX1_turn_51 : decode cX1_turn 51 = .ok (.goto 4, 3) := by decide +kernel
theorem dX1_turn_54 : decode cX1_turn 54 = .ok (.iconst 0, 1) := by decide +kernel
theorem dX1_turn_55 : decode cX1_turn 55 = .ok (.ireturn, 1) := by decide +kernel
set_option maxRecDepth 20000 in
theorem ggX1_set_X1_remember : GoodIn wsX1_set wsX1_remember := goodIn_r _ [6, 7, 8, 1, 9, 10, 11, 12, 13, 14, 15, 16, 17, 18, 19, 20, 21, 22, 23, 24, 25, 26, 27, 28, 29, 30, 31, 36, 37, 38, 39, 40, 41, 42, 43, 44, 45, 46, 47, 48, 49, 50, 51, 52, 53, 54, 55, 56, 57, 58, 59, 60, 61, 62] (by decide +kernel) (by decide +kernel)
set_option maxRecDepth 20000 in
theorem gX1_set_X1_remember : GoodIn wsX1_set (wsV RX1 124 RX1 yX1_remember wsX1_remember) := goodIn_app (goodIn_of _ (by decide +kernel)) ggX1_set_X1_remember
set_option maxRecDepth 20000 in
theorem ggX1_set_X0_tellAnew : GoodIn wsX1_set wsX0_tellAnew := goodIn_r _ [35, 14, 15, 16, 49, 50, 51, 52, 53, 54, 55, 56, 57, 58, 59, 60, 61, 62] (by decide +kernel) (by decide +kernel)
set_option maxRecDepth 20000 in
theorem gX1_set_X0_tellAnew : GoodIn wsX1_set (wsV RX1 139 RX0 yX0_tellAnew wsX0_tellAnew) := goodIn_app (goodIn_of _ (by decide +kernel)) ggX1_set_X0_tellAnew
theorem dX1_set_0 : decode cX1_set 0 = .ok (.iload_n 1, 1) := by decide +kernel
theorem dX1_set_1 : decode cX1_set 1 = .ok (.ifCond .lt 19, 3) := by decide +kernel
theorem dX1_set_4 : decode cX1_set 4 = .ok (.iload_n 1, 1) := by decide +kernel
theorem dX1_set_5 : decode cX1_set 5 = .ok (.iconst 2, 1) := by decide +kernel
theorem dX1_set_6 : decode cX1_set 6 = .ok (.if_icmp .gt 14, 3) := by decide +kernel
theorem dX1_set_9 : decode cX1_set 9 = .ok (.iload_n 2, 1) := by decide +kernel
theorem dX1_set_10 : decode cX1_set 10 = .ok (.iconst 1, 1) := by decide +kernel
theorem dX1_set_11 : decode cX1_set 11 = .ok (.if_icmp .lt 9, 3) := by decide +kernel
theorem dX1_set_14 : decode cX1_set 14 = .ok (.iload_n 2, 1) := by decide +kernel
theorem dX1_set_15 : decode cX1_set 15 = .ok (.bipush 9, 2) := by decide +kernel
theorem dX1_set_17 : decode cX1_set 17 = .ok (.if_icmp .le 6, 3) := by decide +kernel
theorem dX1_set_20 : decode cX1_set 20 = .ok (.bipush (-2), 2) := by decide +kernel
theorem dX1_set_22 : decode cX1_set 22 = .ok (.ireturn, 1) := by decide +kernel
theorem dX1_set_23 : decode cX1_set 23 = .ok (.aload_n 0, 1) := by decide +kernel
theorem dX1_set_24 : decode cX1_set 24 = .ok (.invokevirtual 124, 3) := by decide +kernel
theorem dX1_set_27 : decode cX1_set 27 = .ok (.aload_n 0, 1) := by decide +kernel
theorem dX1_set_28 : decode cX1_set 28 = .ok (.getfield 10, 3) := by decide +kernel
theorem dX1_set_31 : decode cX1_set 31 = .ok (.iload_n 1, 1) := by decide +kernel
theorem dX1_set_32 : decode cX1_set 32 = .ok (.iload_n 2, 1) := by decide +kernel
theorem dX1_set_33 : decode cX1_set 33 = .ok (.invokevirtual 139, 3) := by decide +kernel
theorem dX1_set_36 : decode cX1_set 36 = .ok (.ireturn, 1) := by decide +kernel
set_option maxRecDepth 20000 in
theorem ggX1_undo_X0_takeFrom : GoodIn wsX1_undo wsX0_takeFrom := goodIn_r _ [8, 9, 10, 11, 12, 13, 14, 15, 16, 17, 18, 19, 20, 21, 22, 23, 24, 25, 26, 40, 41, 42, 43, 44, 45, 46, 47, 48, 49, 50, 51, 52, 53] (by decide +kernel) (by decide +kernel)
set_option maxRecDepth 20000 in
theorem gX1_undo_X0_takeFrom : GoodIn wsX1_undo (wsV RX1 60 RX0 yX0_takeFrom wsX0_takeFrom) := goodIn_app (goodIn_of _ (by decide +kernel)) ggX1_undo_X0_takeFrom
theorem dX1_undo_0 : decode cX1_undo 0 = .ok (.aload_n 0, 1) := by decide +kernel
theorem dX1_undo_1 : decode cX1_undo 1 = .ok (.getfield 23, 3) := by decide +kernel
theorem dX1_undo_4 : decode cX1_undo 4 = .ok (.iconst 1, 1) := by decide +kernel
theorem dX1_undo_5 : decode cX1_undo 5 = .ok (.if_icmp .lt 12, 3) := by decide +kernel
theorem dX1_undo_8 : decode cX1_undo 8 = .ok (.aload_n 0, 1) := by decide +kernel
theorem dX1_undo_9 : decode cX1_undo 9 = .ok (.getfield 23, 3) := by decide +kernel
theorem dX1_undo_12 : decode cX1_undo 12 = .ok (.bipush 14, 2) := by decide +kernel
theorem dX1_undo_14 : decode cX1_undo 14 = .ok (.if_icmp .le 6, 3) := by decide +kernel
theorem dX1_undo_17 : decode cX1_undo 17 = .ok (.bipush (-3), 2) := by decide +kernel
theorem dX1_undo_19 : decode cX1_undo 19 = .ok (.ireturn, 1) := by decide +kernel
theorem dX1_undo_20 : decode cX1_undo 20 = .ok (.aload_n 0, 1) := by decide +kernel
theorem dX1_undo_21 : decode cX1_undo 21 = .ok (.dup, 1) := by decide +kernel
theorem dX1_undo_22 : decode cX1_undo 22 = .ok (.getfield 23, 3) := by decide +kernel
theorem dX1_undo_25 : decode cX1_undo 25 = .ok (.iconst 1, 1) := by decide +kernel
theorem dX1_undo_26 : decode cX1_undo 26 = .ok (.isub, 1) := by decide +kernel
theorem dX1_undo_27 : decode cX1_undo 27 = .ok (.putfield 23, 3) := by decide +kernel
theorem dX1_undo_30 : decode cX1_undo 30 = .ok (.aload_n 0, 1) := by decide +kernel
theorem dX1_undo_31 : decode cX1_undo 31 = .ok (.getfield 10, 3) := by decide +kernel
theorem dX1_undo_34 : decode cX1_undo 34 = .ok (.aload_n 0, 1) := by decide +kernel
theorem dX1_undo_35 : decode cX1_undo 35 = .ok (.getfield 19, 3) := by decide +kernel
theorem dX1_undo_38 : decode cX1_undo 38 = .ok (.aload_n 0, 1) := by decide +kernel
theorem dX1_undo_39 : decode cX1_undo 39 = .ok (.getfield 23, 3) := by decide +kernel
theorem dX1_undo_42 : decode cX1_undo 42 = .ok (.aaload, 1) := by decide +kernel
theorem dX1_undo_43 : decode cX1_undo 43 = .ok (.invokevirtual 60, 3) := by decide +kernel
theorem dX1_undo_46 : decode cX1_undo 46 = .ok (.aload_n 0, 1) := by decide +kernel
theorem dX1_undo_47 : decode cX1_undo 47 = .ok (.getfield 23, 3) := by decide +kernel
theorem dX1_undo_50 : decode cX1_undo 50 = .ok (.ireturn, 1) := by decide +kernel
set_option maxRecDepth 20000 in
theorem ggX1_ahead_X0_takeFrom : GoodIn wsX1_ahead wsX0_takeFrom := goodIn_r _ [10, 11, 12, 13, 14, 15, 16, 17, 18, 19, 20, 21, 22, 23, 24, 25, 26, 27, 28, 114, 115, 116, 117, 118, 119, 120, 121, 122, 123, 124, 125, 126, 127] (by decide +kernel) (by decide +kernel)
set_option maxRecDepth 20000 in
theorem gX1_ahead_X0_takeFrom : GoodIn wsX1_ahead (wsV RX1 60 RX0 yX0_takeFrom wsX0_takeFrom) := goodIn_app (goodIn_of _ (by decide +kernel)) ggX1_ahead_X0_takeFrom
set_option maxRecDepth 20000 in
theorem ggX1_ahead_X0_run : GoodIn wsX1_ahead wsX0_run := goodIn_r _ [32, 14, 18, 25, 23, 33, 34, 35, 9, 36, 16, 17, 37, 38, 39, 40, 26, 24, 41, 42, 43, 44, 45, 46, 47, 48, 49, 50, 51, 52, 53, 54, 55, 15, 56, 57, 58, 59, 60, 61, 62, 63, 64, 12, 13, 11, 65, 66, 67, 68, 69, 70, 71, 72, 73, 74, 75, 76, 77, 78, 79, 80, 27, 81, 82, 83, 84, 85, 86, 87, 88, 89, 90, 91, 92, 28, 93, 94, 95, 96, 114, 115, 116, 117, 118, 119, 120, 121, 122, 123, 124, 125, 126, 127] (by decide +kernel) (by decide +kernel)
set_option maxRecDepth 20000 in
theorem gX1_ahead_X0_run : GoodIn wsX1_ahead (wsV RX1 133 RX0 yX0_run wsX0_run) := goodIn_app (goodIn_of _ (by decide +kernel)) ggX1_ahead_X0_run
set_option maxRecDepth 20000 in
theorem ggX1_ahead_X0_bitsOf : GoodIn wsX1_ahead wsX0_bitsOf := goodIn_r _ [100, 18, 114, 115, 116, 117, 118, 119, 120, 121, 122, 123, 124, 125, 126, 127] (by decide +kernel) (by decide +kernel)
set_option maxRecDepth 20000 in
theorem gX1_ahead_X0_bitsOf : GoodIn wsX1_ahead (wsV RX1 85 RX0 yX0_bitsOf wsX0_bitsOf) := goodIn_app (goodIn_of _ (by decide +kernel)) ggX1_ahead_X0_bitsOf
theorem dX1_ahead_0 : decode cX1_ahead 0 = .ok (.iload_n 1, 1) := by decide +kernel
theorem dX1_ahead_1 : decode cX1_ahead 1 = .ok (.ifCond .lt 18, 3) := by decide +kernel
theorem dX1_ahead_4 : decode cX1_ahead 4 = .ok (.iload_n 1, 1) := by decide +kernel
theorem dX1_ahead_5 : decode cX1_ahead 5 = .ok (.bipush 99, 2) := by decide +kernel
theorem dX1_ahead_7 : decode cX1_ahead 7 = .ok (.if_icmp .gt 12, 3) := by decide +kernel
theorem dX1_ahead_10 : decode cX1_ahead 10 = .ok (.iload_n 2, 1) := by decide +kernel
theorem dX1_ahead_11 : decode cX1_ahead 11 = .ok (.ifCond .lt 8, 3) := by decide +kernel
theorem dX1_ahead_14 : decode cX1_ahead 14 = .ok (.iload_n 2, 1) := by decide +kernel
theorem dX1_ahead_15 : decode cX1_ahead 15 = .ok (.iconst 3, 1) := by decide +kernel
theorem dX1_ahead_16 : decode cX1_ahead 16 = .ok (.if_icmp .le 6, 3) := by decide +kernel
theorem dX1_ahead_19 : decode cX1_ahead 19 = .ok (.bipush (-2), 2) := by decide +kernel
theorem dX1_ahead_21 : decode cX1_ahead 21 = .ok (.ireturn, 1) := by decide +kernel
theorem dX1_ahead_22 : decode cX1_ahead 22 = .ok (.aload_n 0, 1) := by decide +kernel
theorem dX1_ahead_23 : decode cX1_ahead 23 = .ok (.getfield 16, 3) := by decide +kernel
theorem dX1_ahead_26 : decode cX1_ahead 26 = .ok (.aload_n 0, 1) := by decide +kernel
theorem dX1_ahead_27 : decode cX1_ahead 27 = .ok (.getfield 10, 3) := by decide +kernel
theorem dX1_ahead_30 : decode cX1_ahead 30 = .ok (.invokevirtual 60, 3) := by decide +kernel
theorem dX1_ahead_33 : decode cX1_ahead 33 = .ok (.aload_n 0, 1) := by decide +kernel
theorem dX1_ahead_34 : decode cX1_ahead 34 = .ok (.getfield 16, 3) := by decide +kernel
theorem dX1_ahead_37 : decode cX1_ahead 37 = .ok (.iload_n 1, 1) := by decide +kernel
theorem dX1_ahead_38 : decode cX1_ahead 38 = .ok (.invokevirtual 133, 3) := by decide +kernel
theorem dX1_ahead_41 : decode cX1_ahead 41 = .ok (.pop, 1) := by decide +kernel
theorem dX1_ahead_42 : decode cX1_ahead 42 = .ok (.iload_n 2, 1) := by decide +kernel
theorem dX1_ahead_43 : decode cX1_ahead 43 = .ok (.tableswitch 50 0 2 #[25, 33, 41], 25) := by decide +kernel
theorem dX1_ahead_68 : decode cX1_ahead 68 = .ok (.aload_n 0, 1) := by decide +kernel
theorem dX1_ahead_69 : decode cX1_ahead 69 = .ok (.getfield 16, 3) := by decide +kernel
theorem dX1_ahead_72 : decode cX1_ahead 72 = .ok (.getfield 79, 3) := by decide +kernel
theorem dX1_ahead_75 : decode cX1_ahead 75 = .ok (.ireturn, 1) := by decide +kernel
theorem dX1_ahead_76 : decode cX1_ahead 76 = .ok (.aload_n 0, 1) := by decide +kernel
theorem dX1_ahead_77 : decode cX1_ahead 77 = .ok (.getfield 16, 3) := by decide +kernel
theorem dX1_ahead_80 : decode cX1_ahead 80 = .ok (.getfield 82, 3) := by decide +kernel
theorem dX1_ahead_83 : decode cX1_ahead 83 = .ok (.ireturn, 1) := by decide +kernel
theorem dX1_ahead_84 : decode cX1_ahead 84 = .ok (.aload_n 0, 1) := by decide +kernel
theorem dX1_ahead_85 : decode cX1_ahead 85 = .ok (.getfield 16, 3) := by decide +kernel
theorem dX1_ahead_88 : decode cX1_ahead 88 = .ok (.iconst 1, 1) := by decide +kernel
theorem dX1_ahead_89 : decode cX1_ahead 89 = .ok (.invokevirtual 85, 3) := by decide +kernel
theorem dX1_ahead_92 : decode cX1_ahead 92 = .ok (.ireturn, 1) := by decide +kernel
theorem dX1_ahead_93 : decode cX1_ahead 93 = .ok (.aload_n 0, 1) := by decide +kernel
theorem dX1_ahead_94 : decode cX1_ahead 94 = .ok (.getfield 16, 3) := by decide +kernel
theorem dX1_ahead_97 : decode cX1_ahead 97 = .ok (.getfield 76, 3) := by decide +kernel
theorem dX1_ahead_100 : decode cX1_ahead 100 = .ok (.ireturn, 1) := by decide +kernel
set_option maxRecDepth 20000 in
theorem ggX1_crowd_X0_takeFrom : GoodIn wsX1_crowd wsX0_takeFrom := goodIn_r _ [11, 12, 13, 14, 15, 16, 17, 18, 19, 20, 21, 22, 23, 24, 25, 26, 27, 28, 29, 108, 109, 110, 111, 112, 113, 114, 115, 116, 117, 118, 119, 120, 121] (by decide +kernel) (by decide +kernel)
set_option maxRecDepth 20000 in
theorem gX1_crowd_X0_takeFrom : GoodIn wsX1_crowd (wsV RX1 60 RX0 yX0_takeFrom wsX0_takeFrom) := goodIn_app (goodIn_of _ (by decide +kernel)) ggX1_crowd_X0_takeFrom
set_option maxRecDepth 20000 in
theorem ggX1_crowd_X0_run : GoodIn wsX1_crowd wsX0_run := goodIn_r _ [33, 15, 19, 26, 24, 34, 35, 36, 10, 37, 17, 18, 38, 39, 40, 41, 27, 25, 42, 43, 44, 45, 46, 47, 48, 49, 50, 51, 52, 53, 54, 55, 56, 16, 57, 58, 4, 5, 6, 59, 60, 61, 62, 13, 14, 12, 63, 64, 65, 66, 67, 68, 69, 70, 71, 72, 73, 74, 75, 76, 77, 78, 28, 79, 80, 81, 82, 83, 84, 85, 86, 87, 88, 89, 90, 29, 91, 92, 93, 94, 108, 109, 110, 111, 112, 113, 114, 115, 116, 117, 118, 119, 120, 121] (by decide +kernel) (by decide +kernel)
set_option maxRecDepth 20000 in
theorem gX1_crowd_X0_run : GoodIn wsX1_crowd (wsV RX1 133 RX0 yX0_run wsX0_run) := goodIn_app (goodIn_of _ (by decide +kernel)) ggX1_crowd_X0_run
theorem dX1_crowd_0 : decode cX1_crowd 0 = .ok (.iload_n 1, 1) := by decide +kernel
theorem dX1_crowd_1 : decode cX1_crowd 1 = .ok (.iconst 1, 1) := by decide +kernel
theorem dX1_crowd_2 : decode cX1_crowd 2 = .ok (.if_icmp .lt 9, 3) := by decide +kernel
theorem dX1_crowd_5 : decode cX1_crowd 5 = .ok (.iload_n 1, 1) := by decide +kernel
theorem dX1_crowd_6 : decode cX1_crowd 6 = .ok (.bipush 99, 2) := by decide +kernel
theorem dX1_crowd_8 : decode cX1_crowd 8 = .ok (.if_icmp .le 6, 3) := by decide +kernel
theorem dX1_crowd_11 : decode cX1_crowd 11 = .ok (.bipush (-2), 2) := by decide +kernel
theorem dX1_crowd_13 : decode cX1_crowd 13 = .ok (.ireturn, 1) := by decide +kernel
theorem dX1_crowd_14 : decode cX1_crowd 14 = .ok (.aload_n 0, 1) := by decide +kernel
theorem dX1_crowd_15 : decode cX1_crowd 15 = .ok (.getfield 16, 3) := by decide +kernel
theorem dX1_crowd_18 : decode cX1_crowd 18 = .ok (.aload_n 0, 1) := by decide +kernel
theorem dX1_crowd_19 : decode cX1_crowd 19 = .ok (.getfield 10, 3) := by decide +kernel
theorem dX1_crowd_22 : decode cX1_crowd 22 = .ok (.invokevirtual 60, 3) := by decide +kernel
theorem dX1_crowd_25 : decode cX1_crowd 25 = .ok (.iconst 0, 1) := by decide +kernel
theorem dX1_crowd_26 : decode cX1_crowd 26 = .ok (.istore_n 2, 1) := by decide +kernel
theorem dX1_crowd_27 : decode cX1_crowd 27 = .ok (.iconst 0, 1) := by decide +kernel
theorem dX1_crowd_28 : decode cX1_crowd 28 = .ok (.istore_n 3, 1) := by decide +kernel
theorem dX1_crowd_29 : decode cX1_crowd 29 = .ok (.iload_n 3, 1) := by decide +kernel
theorem dX1_crowd_30 : decode cX1_crowd 30 = .ok (.iload_n 1, 1) := by decide +kernel
theorem dX1_crowd_31 : decode cX1_crowd 31 = .ok (.if_icmp .ge 22, 3) := by decide +kernel
theorem dX1_crowd_34 : decode cX1_crowd 34 = .ok (.iload_n 2, 1) := by decide +kernel
theorem dX1_crowd_35 : decode cX1_crowd 35 = .ok (.aload_n 0, 1) := by decide +kernel
theorem dX1_crowd_36 : decode cX1_crowd 36 = .ok (.getfield 16, 3) := by decide +kernel
theorem dX1_crowd_39 : decode cX1_crowd 39 = .ok (.iconst 1, 1) := by decide +kernel
theorem dX1_crowd_40 : decode cX1_crowd 40 = .ok (.invokevirtual 133, 3) := by decide +kernel
theorem dX1_crowd_43 : decode cX1_crowd 43 = .ok (.invokestatic 143, 3) := by decide +kernel
theorem dX1_crowd_46 : decode cX1_crowd 46 = .ok (.istore_n 2, 1) := by decide +kernel
theorem dX1_crowd_47 : decode cX1_crowd 47 = .ok (.iinc 3 1, 3) := by decide +kernel
theorem dX1_crowd_50 : decode cX1_crowd 50 = .ok (.goto (-21), 3) := by decide +kernel
theorem dX1_crowd_53 : decode cX1_crowd 53 = .ok (.iload_n 2, 1) := by decide +kernel
theorem dX1_crowd_54 : decode cX1_crowd 54 = .ok (.ireturn, 1) := by decide +kernel
set_option maxRecDepth 20000 in
theorem ggX1_jitter_X1_tenTo : GoodIn wsX1_jitter wsX1_tenTo := goodIn_r _ [8, 9] (by decide +kernel) (by decide +kernel)
set_option maxRecDepth 20000 in
theorem gX1_jitter_X1_tenTo : GoodIn wsX1_jitter (va_wsS RX1 148 yX1_tenTo wsX1_tenTo) := goodIn_app (goodIn_of _ (by decide +kernel)) ggX1_jitter_X1_tenTo
set_option maxRecDepth 20000 in
theorem ggX1_jitter_X1_part : GoodIn wsX1_jitter wsX1_part := goodIn_r _ [12, 5, 6, 7, 8, 9] (by decide +kernel) (by decide +kernel)
set_option maxRecDepth 20000 in
theorem gX1_jitter_X1_part : GoodIn wsX1_jitter (va_wsS RX1 152 yX1_part wsX1_part) := goodIn_app (goodIn_of _ (by decide +kernel)) ggX1_jitter_X1_part
theorem dX1_jitter_0 : decode cX1_jitter 0 = .ok (.iload_n 1, 1) := by decide +kernel
theorem dX1_jitter_1 : decode cX1_jitter 1 = .ok (.iconst 1, 1) := by decide +kernel
theorem dX1_jitter_2 : decode cX1_jitter 2 = .ok (.if_icmp .lt 26, 3) := by decide +kernel
theorem dX1_jitter_5 : decode cX1_jitter 5 = .ok (.iload_n 1, 1) := by decide +kernel
theorem dX1_jitter_6 : decode cX1_jitter 6 = .ok (.bipush 6, 2) := by decide +kernel
theorem dX1_jitter_8 : decode cX1_jitter 8 = .ok (.if_icmp .gt 20, 3) := by decide +kernel
theorem dX1_jitter_11 : decode cX1_jitter 11 = .ok (.lload_n 2, 1) := by decide +kernel
theorem dX1_jitter_12 : decode cX1_jitter 12 = .ok (.lconst 0, 1) := by decide +kernel
theorem dX1_jitter_13 : decode cX1_jitter 13 = .ok (.lcmp, 1) := by decide +kernel
theorem dX1_jitter_14 : decode cX1_jitter 14 = .ok (.ifCond .lt 14, 3) := by decide +kernel
theorem dX1_jitter_17 : decode cX1_jitter 17 = .ok (.lload_n 2, 1) := by decide +kernel
theorem dX1_jitter_18 : decode cX1_jitter 18 = .ok (.iconst 2, 1) := by decide +kernel
theorem dX1_jitter_19 : decode cX1_jitter 19 = .ok (.iload_n 1, 1) := by decide +kernel
theorem dX1_jitter_20 : decode cX1_jitter 20 = .ok (.imul, 1) := by decide +kernel
theorem dX1_jitter_21 : decode cX1_jitter 21 = .ok (.invokestatic 148, 3) := by decide +kernel
theorem dX1_jitter_24 : decode cX1_jitter 24 = .ok (.lcmp, 1) := by decide +kernel
theorem dX1_jitter_25 : decode cX1_jitter 25 = .ok (.ifCond .lt 6, 3) := by decide +kernel
theorem dX1_jitter_28 : decode cX1_jitter 28 = .ok (.bipush (-2), 2) := by decide +kernel
theorem dX1_jitter_30 : decode cX1_jitter 30 = .ok (.ireturn, 1) := by decide +kernel
theorem dX1_jitter_31 : decode cX1_jitter 31 = .ok (.iconst 0, 1) := by decide +kernel
theorem dX1_jitter_32 : decode cX1_jitter 32 = .ok (.istore 4, 2) := by decide +kernel
theorem dX1_jitter_34 : decode cX1_jitter 34 = .ok (.iconst 1, 1) := by decide +kernel
theorem dX1_jitter_35 : decode cX1_jitter 35 = .ok (.istore 5, 2) := by decide +kernel
theorem dX1_jitter_37 : decode cX1_jitter 37 = .ok (.iload 5, 2) := by decide +kernel
theorem dX1_jitter_39 : decode cX1_jitter 39 = .ok (.iload_n 1, 1) := by decide +kernel
theorem dX1_jitter_40 : decode cX1_jitter 40 = .ok (.if_icmp .ge 51, 3) := by decide +kernel
theorem dX1_jitter_43 : decode cX1_jitter 43 = .ok (.lload_n 2, 1) := by decide +kernel
theorem dX1_jitter_44 : decode cX1_jitter 44 = .ok (.iload_n 1, 1) := by decide +kernel
theorem dX1_jitter_45 : decode cX1_jitter 45 = .ok (.iconst 1, 1) := by decide +kernel
theorem dX1_jitter_46 : decode cX1_jitter 46 = .ok (.isub, 1) := by decide +kernel
theorem dX1_jitter_47 : decode cX1_jitter 47 = .ok (.iload 5, 2) := by decide +kernel
theorem dX1_jitter_49 : decode cX1_jitter 49 = .ok (.isub, 1) := by decide +kernel
theorem dX1_jitter_50 : decode cX1_jitter 50 = .ok (.iconst 2, 1) := by decide +kernel
theorem dX1_jitter_51 : decode cX1_jitter 51 = .ok (.invokestatic 152, 3) := by decide +kernel
theorem dX1_jitter_54 : decode cX1_jitter 54 = .ok (.lload_n 2, 1) := by decide +kernel
theorem dX1_jitter_55 : decode cX1_jitter 55 = .ok (.iload_n 1, 1) := by decide +kernel
theorem dX1_jitter_56 : decode cX1_jitter 56 = .ok (.iload 5, 2) := by decide +kernel
theorem dX1_jitter_58 : decode cX1_jitter 58 = .ok (.isub, 1) := by decide +kernel
theorem dX1_jitter_59 : decode cX1_jitter 59 = .ok (.iconst 2, 1) := by decide +kernel
theorem dX1_jitter_60 : decode cX1_jitter 60 = .ok (.invokestatic 152, 3) := by decide +kernel
theorem dX1_jitter_63 : decode cX1_jitter 63 = .ok (.isub, 1) := by decide +kernel
theorem dX1_jitter_64 : decode cX1_jitter 64 = .ok (.invokestatic 156, 3) := by decide +kernel
theorem dX1_jitter_67 : decode cX1_jitter 67 = .ok (.istore 6, 2) := by decide +kernel
theorem dX1_jitter_69 : decode cX1_jitter 69 = .ok (.iload 4, 2) := by decide +kernel
theorem dX1_jitter_71 : decode cX1_jitter 71 = .ok (.iload 6, 2) := by decide +kernel
theorem dX1_jitter_73 : decode cX1_jitter 73 = .ok (.iload 4, 2) := by decide +kernel
theorem dX1_jitter_75 : decode cX1_jitter 75 = .ok (.bipush 8, 2) := by decide +kernel
theorem dX1_jitter_77 : decode cX1_jitter 77 = .ok (.iadd, 1) := by decide +kernel
theorem dX1_jitter_78 : decode cX1_jitter 78 = .ok (.bipush 16, 2) := by decide +kernel
theorem dX1_jitter_80 : decode cX1_jitter 80 = .ok (.idiv, 1) := by decide +kernel
theorem dX1_jitter_81 : decode cX1_jitter 81 = .ok (.isub, 1) := by decide +kernel
theorem dX1_jitter_82 : decode cX1_jitter 82 = .ok (.iadd, 1) := by decide +kernel
theorem dX1_jitter_83 : decode cX1_jitter 83 = .ok (.istore 4, 2) := by decide +kernel
theorem dX1_jitter_85 : decode cX1_jitter 85 = .ok (.iinc 5 1, 3) := by decide +kernel
theorem dX1_jitter_88 : decode cX1_jitter 88 = .ok (.goto (-51), 3) := by decide +kernel
theorem dX1_jitter_91 : decode cX1_jitter 91 = .ok (.iload 4, 2) := by decide +kernel
theorem dX1_jitter_93 : decode cX1_jitter 93 = .ok (.ireturn, 1) := by decide +kernel
set_option maxRecDepth 20000 in
theorem ggX1_round_X1_isTime : GoodIn wsX1_round wsX1_isTime := goodIn_r _ [4] (by decide +kernel) (by decide +kernel)
set_option maxRecDepth 20000 in
theorem gX1_round_X1_isTime : GoodIn wsX1_round (va_wsS RX1 159 yX1_isTime wsX1_isTime) := goodIn_app (goodIn_of _ (by decide +kernel)) ggX1_round_X1_isTime
theorem dX1_round_0 : decode cX1_round 0 = .ok (.iload_n 1, 1) := by decide +kernel
theorem dX1_round_1 : decode cX1_round 1 = .ok (.invokestatic 159, 3) := by decide +kernel
theorem dX1_round_4 : decode cX1_round 4 = .ok (.ifCond .eq 17, 3) := by decide +kernel
theorem dX1_round_7 : decode cX1_round 7 = .ok (.iload_n 2, 1) := by decide +kernel
theorem dX1_round_8 : decode cX1_round 8 = .ok (.invokestatic 159, 3) := by decide +kernel
theorem dX1_round_11 : decode cX1_round 11 = .ok (.ifCond .eq 10, 3) := by decide +kernel
theorem dX1_round_14 : decode cX1_round 14 = .ok (.iload_n 3, 1) := by decide +kernel
theorem dX1_round_15 : decode cX1_round 15 = .ok (.invokestatic 159, 3) := by decide +kernel
theorem dX1_round_18 : decode cX1_round 18 = .ok (.ifCond .ne 6, 3) := by decide +kernel
theorem dX1_round_21 : decode cX1_round 21 = .ok (.bipush (-2), 2) := by decide +kernel
theorem dX1_round_23 : decode cX1_round 23 = .ok (.ireturn, 1) := by decide +kernel
theorem dX1_round_24 : decode cX1_round 24 = .ok (.iload_n 1, 1) := by decide +kernel
theorem dX1_round_25 : decode cX1_round 25 = .ok (.iload_n 2, 1) := by decide +kernel
theorem dX1_round_26 : decode cX1_round 26 = .ok (.isub, 1) := by decide +kernel
theorem dX1_round_27 : decode cX1_round 27 = .ok (.iload_n 3, 1) := by decide +kernel
theorem dX1_round_28 : decode cX1_round 28 = .ok (.isub, 1) := by decide +kernel
theorem dX1_round_29 : decode cX1_round 29 = .ok (.istore 4, 2) := by decide +kernel
theorem dX1_round_31 : decode cX1_round 31 = .ok (.iload 4, 2) := by decide +kernel
theorem dX1_round_33 : decode cX1_round 33 = .ok (.ifCond .ge 8, 3) := by decide +kernel
theorem dX1_round_36 : decode cX1_round 36 = .ok (.bipush (-3), 2) := by decide +kernel
theorem dX1_round_38 : decode cX1_round 38 = .ok (.goto 5, 3) := by decide +kernel
theorem dX1_round_41 : decode cX1_round 41 = .ok (.iload 4, 2) := by decide +kernel
theorem dX1_round_43 : decode cX1_round 43 = .ok (.ireturn, 1) := by decide +kernel
set_option maxRecDepth 20000 in
theorem ggX1_judge_X1_tenTo : GoodIn wsX1_judge wsX1_tenTo := goodIn_r _ [6, 7] (by decide +kernel) (by decide +kernel)
set_option maxRecDepth 20000 in
theorem gX1_judge_X1_tenTo : GoodIn wsX1_judge (va_wsS RX1 148 yX1_tenTo wsX1_tenTo) := goodIn_app (goodIn_of _ (by decide +kernel)) ggX1_judge_X1_tenTo
set_option maxRecDepth 20000 in
theorem ggX1_judge_X0_takeFrom : GoodIn wsX1_judge wsX0_takeFrom := goodIn_r _ [12, 13, 14, 15, 16, 17, 18, 19, 20, 21, 22, 23, 24, 25, 26, 27, 28, 29, 30, 144, 145, 146, 147, 148, 149, 150, 151, 152, 153, 154, 155, 156, 157] (by decide +kernel) (by decide +kernel)
set_option maxRecDepth 20000 in
theorem gX1_judge_X0_takeFrom : GoodIn wsX1_judge (wsV RX1 60 RX0 yX0_takeFrom wsX0_takeFrom) := goodIn_app (goodIn_of _ (by decide +kernel)) ggX1_judge_X0_takeFrom
set_option maxRecDepth 20000 in
theorem ggX1_judge_X1_part : GoodIn wsX1_judge wsX1_part := goodIn_r _ [33, 3, 4, 5, 6, 7] (by decide +kernel) (by decide +kernel)
set_option maxRecDepth 20000 in
theorem gX1_judge_X1_part : GoodIn wsX1_judge (va_wsS RX1 152 yX1_part wsX1_part) := goodIn_app (goodIn_of _ (by decide +kernel)) ggX1_judge_X1_part
set_option maxRecDepth 20000 in
theorem ggX1_judge_X1_canBe : GoodIn wsX1_judge wsX1_canBe := goodIn_r _ [37, 1, 38, 39, 40, 41, 11, 42, 20, 43, 5, 44, 45, 46, 47, 48, 26, 16, 27, 49, 50, 51, 52, 17, 53, 54, 55, 56, 57, 58, 59, 60, 61, 14, 15, 13, 62, 63, 64, 65, 28, 66, 67, 68, 69, 25, 70, 71, 72, 73, 74, 75, 76, 77, 78, 79, 80, 19, 81, 82, 83, 84, 85, 86, 87, 88, 89, 90, 91, 92, 29, 93, 94, 95, 96, 97, 98, 99, 100, 101, 102, 103, 104, 105, 106, 107, 108, 18, 109, 110, 111, 112, 113, 114, 115, 116, 30, 117, 118, 119, 120, 121, 122, 123, 124, 125, 126, 127, 128, 129, 130, 131, 132, 133, 134, 135, 136, 137, 138, 139, 140, 141, 142, 143, 144, 145, 146, 147, 148, 149, 150, 151, 152, 153, 154, 155, 156, 157] (by decide +kernel) (by decide +kernel)
set_option maxRecDepth 20000 in
theorem gX1_judge_X1_canBe : GoodIn wsX1_judge (wsV RX1 162 RX1 yX1_canBe wsX1_canBe) := goodIn_app (goodIn_of _ (by decide +kernel)) ggX1_judge_X1_canBe
theorem dX1_judge_0 : decode cX1_judge 0 = .ok (.iload_n 1, 1) := by decide +kernel
theorem dX1_judge_1 : decode cX1_judge 1 = .ok (.iconst 1, 1) := by decide +kernel
theorem dX1_judge_2 : decode cX1_judge 2 = .ok (.if_icmp .lt 25, 3) := by decide +kernel
theorem dX1_judge_5 : decode cX1_judge 5 = .ok (.iload_n 1, 1) := by decide +kernel
theorem dX1_judge_6 : decode cX1_judge 6 = .ok (.iconst 4, 1) := by decide +kernel
theorem dX1_judge_7 : decode cX1_judge 7 = .ok (.if_icmp .gt 20, 3) := by decide +kernel
theorem dX1_judge_10 : decode cX1_judge 10 = .ok (.lload_n 2, 1) := by decide +kernel
theorem dX1_judge_11 : decode cX1_judge 11 = .ok (.lconst 0, 1) := by decide +kernel
theorem dX1_judge_12 : decode cX1_judge 12 = .ok (.lcmp, 1) := by decide +kernel
theorem dX1_judge_13 : decode cX1_judge 13 = .ok (.ifCond .lt 14, 3) := by decide +kernel
theorem dX1_judge_16 : decode cX1_judge 16 = .ok (.lload_n 2, 1) := by decide +kernel
theorem dX1_judge_17 : decode cX1_judge 17 = .ok (.iconst 3, 1) := by decide +kernel
theorem dX1_judge_18 : decode cX1_judge 18 = .ok (.iload_n 1, 1) := by decide +kernel
theorem dX1_judge_19 : decode cX1_judge 19 = .ok (.imul, 1) := by decide +kernel
theorem dX1_judge_20 : decode cX1_judge 20 = .ok (.invokestatic 148, 3) := by decide +kernel
theorem dX1_judge_23 : decode cX1_judge 23 = .ok (.lcmp, 1) := by decide +kernel
theorem dX1_judge_24 : decode cX1_judge 24 = .ok (.ifCond .lt 6, 3) := by decide +kernel
theorem dX1_judge_27 : decode cX1_judge 27 = .ok (.bipush (-2), 2) := by decide +kernel
theorem dX1_judge_29 : decode cX1_judge 29 = .ok (.ireturn, 1) := by decide +kernel
theorem dX1_judge_30 : decode cX1_judge 30 = .ok (.aload_n 0, 1) := by decide +kernel
theorem dX1_judge_31 : decode cX1_judge 31 = .ok (.getfield 16, 3) := by decide +kernel
theorem dX1_judge_34 : decode cX1_judge 34 = .ok (.aload_n 0, 1) := by decide +kernel
theorem dX1_judge_35 : decode cX1_judge 35 = .ok (.getfield 10, 3) := by decide +kernel
theorem dX1_judge_38 : decode cX1_judge 38 = .ok (.invokevirtual 60, 3) := by decide +kernel
theorem dX1_judge_41 : decode cX1_judge 41 = .ok (.iconst 0, 1) := by decide +kernel
theorem dX1_judge_42 : decode cX1_judge 42 = .ok (.istore 4, 2) := by decide +kernel
theorem dX1_judge_44 : decode cX1_judge 44 = .ok (.iload 4, 2) := by decide +kernel
theorem dX1_judge_46 : decode cX1_judge 46 = .ok (.iload_n 1, 1) := by decide +kernel
theorem dX1_judge_47 : decode cX1_judge 47 = .ok (.if_icmp .ge 30, 3) := by decide +kernel
theorem dX1_judge_50 : decode cX1_judge 50 = .ok (.aload_n 0, 1) := by decide +kernel
theorem dX1_judge_51 : decode cX1_judge 51 = .ok (.lload_n 2, 1) := by decide +kernel
theorem dX1_judge_52 : decode cX1_judge 52 = .ok (.iload_n 1, 1) := by decide +kernel
theorem dX1_judge_53 : decode cX1_judge 53 = .ok (.iconst 1, 1) := by decide +kernel
theorem dX1_judge_54 : decode cX1_judge 54 = .ok (.isub, 1) := by decide +kernel
theorem dX1_judge_55 : decode cX1_judge 55 = .ok (.iload 4, 2) := by decide +kernel
theorem dX1_judge_57 : decode cX1_judge 57 = .ok (.isub, 1) := by decide +kernel
theorem dX1_judge_58 : decode cX1_judge 58 = .ok (.iconst 3, 1) := by decide +kernel
theorem dX1_judge_59 : decode cX1_judge 59 = .ok (.invokestatic 152, 3) := by decide +kernel
theorem dX1_judge_62 : decode cX1_judge 62 = .ok (.invokevirtual 162, 3) := by decide +kernel
theorem dX1_judge_65 : decode cX1_judge 65 = .ok (.ifCond .ne 6, 3) := by decide +kernel
theorem dX1_judge_68 : decode cX1_judge 68 = .ok (.iload 4, 2) := by decide +kernel
theorem dX1_judge_70 : decode cX1_judge 70 = .ok (.ireturn, 1) := by decide +kernel
theorem dX1_judge_71 : decode cX1_judge 71 = .ok (.iinc 4 1, 3) := by decide +kernel
theorem dX1_judge_74 : decode cX1_judge 74 = .ok (.goto (-30), 3) := by decide +kernel
theorem dX1_judge_77 : decode cX1_judge 77 = .ok (.bipush (-9), 2) := by decide +kernel
theorem dX1_judge_79 : decode cX1_judge 79 = .ok (.ireturn, 1) := by decide +kernel
theorem dX1_see_0 : decode cX1_see 0 = .ok (.iload_n 1, 1) := by decide +kernel
theorem dX1_see_1 : decode cX1_see 1 = .ok (.ifCond .lt 19, 3) := by decide +kernel
theorem dX1_see_4 : decode cX1_see 4 = .ok (.iload_n 1, 1) := by decide +kernel
theorem dX1_see_5 : decode cX1_see 5 = .ok (.bipush 60, 2) := by decide +kernel
theorem dX1_see_7 : decode cX1_see 7 = .ok (.if_icmp .gt 13, 3) := by decide +kernel
theorem dX1_see_10 : decode cX1_see 10 = .ok (.iload_n 2, 1) := by decide +kernel
theorem dX1_see_11 : decode cX1_see 11 = .ok (.ifCond .lt 9, 3) := by decide +kernel
theorem dX1_see_14 : decode cX1_see 14 = .ok (.iload_n 2, 1) := by decide +kernel
theorem dX1_see_15 : decode cX1_see 15 = .ok (.bipush 99, 2) := by decide +kernel
theorem dX1_see_17 : decode cX1_see 17 = .ok (.if_icmp .le 6, 3) := by decide +kernel
theorem dX1_see_20 : decode cX1_see 20 = .ok (.bipush (-2), 2) := by decide +kernel
theorem dX1_see_22 : decode cX1_see 22 = .ok (.ireturn, 1) := by decide +kernel
theorem dX1_see_23 : decode cX1_see 23 = .ok (.aload_n 0, 1) := by decide +kernel
theorem dX1_see_24 : decode cX1_see 24 = .ok (.getfield 46, 3) := by decide +kernel
theorem dX1_see_27 : decode cX1_see 27 = .ok (.bipush 6, 2) := by decide +kernel
theorem dX1_see_29 : decode cX1_see 29 = .ok (.if_icmp .lt 6, 3) := by decide +kernel
theorem dX1_see_32 : decode cX1_see 32 = .ok (.bipush (-4), 2) := by decide +kernel
theorem dX1_see_34 : decode cX1_see 34 = .ok (.ireturn, 1) := by decide +kernel
theorem dX1_see_35 : decode cX1_see 35 = .ok (.aload_n 0, 1) := by decide +kernel
theorem dX1_see_36 : decode cX1_see 36 = .ok (.getfield 40, 3) := by decide +kernel
theorem dX1_see_39 : decode cX1_see 39 = .ok (.aload_n 0, 1) := by decide +kernel
theorem dX1_see_40 : decode cX1_see 40 = .ok (.getfield 46, 3) := by decide +kernel
theorem dX1_see_43 : decode cX1_see 43 = .ok (.iload_n 1, 1) := by decide +kernel
theorem dX1_see_44 : decode cX1_see 44 = .ok (.iastore, 1) := by decide +kernel
theorem dX1_see_45 : decode cX1_see 45 = .ok (.aload_n 0, 1) := by decide +kernel
theorem dX1_see_46 : decode cX1_see 46 = .ok (.getfield 43, 3) := by decide +kernel
theorem dX1_see_49 : decode cX1_see 49 = .ok (.aload_n 0, 1) := by decide +kernel
theorem dX1_see_50 : decode cX1_see 50 = .ok (.getfield 46, 3) := by decide +kernel
theorem dX1_see_53 : decode cX1_see 53 = .ok (.iload_n 2, 1) := by decide +kernel
theorem dX1_see_54 : decode cX1_see 54 = .ok (.iastore, 1) := by decide +kernel
theorem dX1_see_55 : decode cX1_see 55 = .ok (.aload_n 0, 1) := by decide +kernel
theorem dX1_see_56 : decode cX1_see 56 = .ok (.dup, 1) := by decide +kernel
theorem dX1_see_57 : decode cX1_see 57 = .ok (.getfield 46, 3) := by decide +kernel
theorem dX1_see_60 : decode cX1_see 60 = .ok (.iconst 1, 1) := by decide +kernel
theorem dX1_see_61 : decode cX1_see 61 = .ok (.iadd, 1) := by decide +kernel
theorem dX1_see_62 : decode cX1_see 62 = .ok (.putfield 46, 3) := by decide +kernel
theorem dX1_see_65 : decode cX1_see 65 = .ok (.aload_n 0, 1) := by decide +kernel
theorem dX1_see_66 : decode cX1_see 66 = .ok (.getfield 46, 3) := by decide +kernel
theorem dX1_see_69 : decode cX1_see 69 = .ok (.ireturn, 1) := by decide +kernel
theorem dX1_unsee_0 : decode cX1_unsee 0 = .ok (.aload_n 0, 1) := by decide +kernel
theorem dX1_unsee_1 : decode cX1_unsee 1 = .ok (.getfield 46, 3) := by decide +kernel
theorem dX1_unsee_4 : decode cX1_unsee 4 = .ok (.istore_n 1, 1) := by decide +kernel
theorem dX1_unsee_5 : decode cX1_unsee 5 = .ok (.aload_n 0, 1) := by decide +kernel
theorem dX1_unsee_6 : decode cX1_unsee 6 = .ok (.iconst 0, 1) := by decide +kernel
theorem dX1_unsee_7 : decode cX1_unsee 7 = .ok (.putfield 46, 3) := by decide +kernel
theorem dX1_unsee_10 : decode cX1_unsee 10 = .ok (.iload_n 1, 1) := by decide +kernel
theorem dX1_unsee_11 : decode cX1_unsee 11 = .ok (.ireturn, 1) := by decide +kernel
set_option maxRecDepth 20000 in
theorem ggX1_which_X1_fitsSeen : GoodIn wsX1_which wsX1_fitsSeen := goodIn_r _ [5, 6, 7, 8, 9, 10, 11, 12, 13, 14, 15, 16, 17, 18, 19, 20, 21, 22, 23, 24, 25, 26, 27, 28, 29, 30, 31, 32, 33, 34, 35, 36, 37, 38, 39, 40, 41, 42, 43, 44, 45, 46, 47, 48, 49, 50, 51, 52, 53, 54, 55, 56, 57, 58, 59, 60, 61, 62, 63, 64, 65, 66, 67, 68, 69, 70, 71, 72, 73, 74, 75, 76, 77, 78, 79, 80, 81, 82, 83, 84, 85, 86, 87, 88, 89, 90, 91, 92, 93, 94, 95, 96, 97, 98, 99, 100, 101, 102, 103, 104, 105, 106, 107, 108, 109, 110, 111, 112, 113, 114, 115, 116, 117, 118, 119, 120, 121, 122, 123, 124, 125, 126, 127, 128, 129] (by decide +kernel) (by decide +kernel)
set_option maxRecDepth 20000 in
theorem gX1_which_X1_fitsSeen : GoodIn wsX1_which (wsV RX1 165 RX1 yX1_fitsSeen wsX1_fitsSeen) := goodIn_app (goodIn_of _ (by decide +kernel)) ggX1_which_X1_fitsSeen
theorem dX1_which_0 : decode cX1_which 0 = .ok (.iconst 0, 1) := by decide +kernel
theorem dX1_which_1 : decode cX1_which 1 = .ok (.istore_n 1, 1) := by decide +kernel
theorem dX1_which_2 : decode cX1_which 2 = .ok (.iconst 1, 1) := by decide +kernel
theorem dX1_which_3 : decode cX1_which 3 = .ok (.istore_n 2, 1) := by decide +kernel
theorem dX1_which_4 : decode cX1_which 4 = .ok (.iload_n 2, 1) := by decide +kernel
theorem dX1_which_5 : decode cX1_which 5 = .ok (.bipush 9, 2) := by decide +kernel
theorem dX1_which_7 : decode cX1_which 7 = .ok (.if_icmp .gt 23, 3) := by decide +kernel
theorem dX1_which_10 : decode cX1_which 10 = .ok (.aload_n 0, 1) := by decide +kernel
theorem dX1_which_11 : decode cX1_which 11 = .ok (.iload_n 2, 1) := by decide +kernel
theorem dX1_which_12 : decode cX1_which 12 = .ok (.invokevirtual 165, 3) := by decide +kernel
theorem dX1_which_15 : decode cX1_which 15 = .ok (.ifCond .eq 9, 3) := by decide +kernel
theorem dX1_which_18 : decode cX1_which 18 = .ok (.iload_n 1, 1) := by decide +kernel
theorem dX1_which_19 : decode cX1_which 19 = .ok (.iconst 1, 1) := by decide +kernel
theorem dX1_which_20 : decode cX1_which 20 = .ok (.iload_n 2, 1) := by decide +kernel
theorem dX1_which_21 : decode cX1_which 21 = .ok (.ishl, 1) := by decide +kernel
theorem dX1_which_22 : decode cX1_which 22 = .ok (.ior, 1) := by decide +kernel
theorem dX1_which_23 : decode cX1_which 23 = .ok (.istore_n 1, 1) := by decide +kernel
theorem dX1_which_24 : decode cX1_which 24 = .ok (.iinc 2 1, 3) := by decide +kernel
theorem dX1_which_27 : decode cX1_which 27 = .ok (.goto (-23), 3) := by decide +kernel
theorem dX1_which_30 : decode cX1_which 30 = .ok (.iload_n 1, 1) := by decide +kernel
theorem dX1_which_31 : decode cX1_which 31 = .ok (.ireturn, 1) := by decide +kernel
set_option maxRecDepth 20000 in
theorem ggX1_share_X1_isMember : GoodIn wsX1_share wsX1_isMember := goodIn_r _ [6] (by decide +kernel) (by decide +kernel)
set_option maxRecDepth 20000 in
theorem gX1_share_X1_isMember : GoodIn wsX1_share (va_wsS RX1 92 yX1_isMember wsX1_isMember) := goodIn_app (goodIn_of _ (by decide +kernel)) ggX1_share_X1_isMember
set_option maxRecDepth 20000 in
theorem ggX1_share_X1_runSubsets : GoodIn wsX1_share wsX1_runSubsets := goodIn_r _ [10, 11, 1, 12, 13, 14, 15, 16, 17, 18, 19, 20, 21, 22, 23, 24, 25, 26, 27, 28, 29, 30, 31, 32, 33, 34, 35, 36, 37, 38, 39, 40, 41, 42, 43, 44, 45, 46, 47, 48, 49, 50, 51, 52, 53, 54, 55, 56, 57, 58, 59, 60, 61, 62, 63, 64, 65, 66, 67, 68, 69, 70, 71, 72, 73, 74, 75, 76, 77, 78, 79, 80, 81, 82, 83, 84, 85, 86, 87, 88, 89, 90, 91, 92, 93, 94, 95, 96, 97, 98, 99, 100, 101, 102, 103, 104, 105, 106, 107, 108, 109, 110, 111, 123, 124, 125, 126, 127, 128, 129, 130, 131, 132, 133, 134, 135, 136, 137, 138, 139, 140, 141, 142, 143, 144, 145, 146, 147, 148, 149] (by decide +kernel) (by decide +kernel)
set_option maxRecDepth 20000 in
theorem gX1_share_X1_runSubsets : GoodIn wsX1_share (wsV RX1 168 RX1 yX1_runSubsets wsX1_runSubsets) := goodIn_app (goodIn_of _ (by decide +kernel)) ggX1_share_X1_runSubsets
set_option maxRecDepth 20000 in
theorem ggX1_share_J6_bitCount_0f7a4 : GoodIn wsX1_share wsJ6_bitCount_0f7a4 := goodIn_r _ [67, 68, 69, 70] (by decide +kernel) (by decide +kernel)
set_option maxRecDepth 20000 in
theorem gX1_share_J6_bitCount_0f7a4 : GoodIn wsX1_share (va_wsS RX1 175 yJ6_bitCount_0f7a4 wsJ6_bitCount_0f7a4) := goodIn_app (goodIn_of _ (by decide +kernel)) ggX1_share_J6_bitCount_0f7a4
set_option maxRecDepth 20000 in
theorem ggX1_share_X1_fraction : GoodIn wsX1_share wsX1_fraction := goodIn_r _ [115, 116, 117, 78, 118, 119, 120, 5, 121, 122, 77, 79] (by decide +kernel) (by decide +kernel)
set_option maxRecDepth 20000 in
theorem gX1_share_X1_fraction : GoodIn wsX1_share (va_wsS RX1 180 yX1_fraction wsX1_fraction) := goodIn_app (goodIn_of _ (by decide +kernel)) ggX1_share_X1_fraction
theorem dX1_share_0 : decode cX1_share 0 = .ok (.iload_n 1, 1) := by decide +kernel
theorem dX1_share_1 : decode cX1_share 1 = .ok (.invokestatic 92, 3) := by decide +kernel
theorem dX1_share_4 : decode cX1_share 4 = .ok (.ifCond .ne 5, 3) := by decide +kernel
theorem dX1_share_7 : decode cX1_share 7 = .ok (.iconst (-1), 1) := by decide +kernel
theorem dX1_share_8 : decode cX1_share 8 = .ok (.ireturn, 1) := by decide +kernel
theorem dX1_share_9 : decode cX1_share 9 = .ok (.aload_n 0, 1) := by decide +kernel
theorem dX1_share_10 : decode cX1_share 10 = .ok (.bipush 30, 2) := by decide +kernel
theorem dX1_share_12 : decode cX1_share 12 = .ok (.invokevirtual 168, 3) := by decide +kernel
theorem dX1_share_15 : decode cX1_share 15 = .ok (.iconst 0, 1) := by decide +kernel
theorem dX1_share_16 : decode cX1_share 16 = .ok (.istore_n 3, 1) := by decide +kernel
theorem dX1_share_17 : decode cX1_share 17 = .ok (.iconst 0, 1) := by decide +kernel
theorem dX1_share_18 : decode cX1_share 18 = .ok (.istore 4, 2) := by decide +kernel
theorem dX1_share_20 : decode cX1_share 20 = .ok (.iload 4, 2) := by decide +kernel
theorem dX1_share_22 : decode cX1_share 22 = .ok (.bipush 64, 2) := by decide +kernel
theorem dX1_share_24 : decode cX1_share 24 = .ok (.if_icmp .ge 54, 3) := by decide +kernel
theorem dX1_share_27 : decode cX1_share 27 = .ok (.iload 4, 2) := by decide +kernel
theorem dX1_share_29 : decode cX1_share 29 = .ok (.iload_n 1, 1) := by decide +kernel
theorem dX1_share_30 : decode cX1_share 30 = .ok (.ishr, 1) := by decide +kernel
theorem dX1_share_31 : decode cX1_share 31 = .ok (.iconst 1, 1) := by decide +kernel
theorem dX1_share_32 : decode cX1_share 32 = .ok (.iand, 1) := by decide +kernel
theorem dX1_share_33 : decode cX1_share 33 = .ok (.ifCond .ne 39, 3) := by decide +kernel
theorem dX1_share_36 : decode cX1_share 36 = .ok (.aload_n 0, 1) := by decide +kernel
theorem dX1_share_37 : decode cX1_share 37 = .ok (.getfield 53, 3) := by decide +kernel
theorem dX1_share_40 : decode cX1_share 40 = .ok (.iload 4, 2) := by decide +kernel
theorem dX1_share_42 : decode cX1_share 42 = .ok (.iconst 1, 1) := by decide +kernel
theorem dX1_share_43 : decode cX1_share 43 = .ok (.iload_n 1, 1) := by decide +kernel
theorem dX1_share_44 : decode cX1_share 44 = .ok (.ishl, 1) := by decide +kernel
theorem dX1_share_45 : decode cX1_share 45 = .ok (.ior, 1) := by decide +kernel
theorem dX1_share_46 : decode cX1_share 46 = .ok (.iaload, 1) := by decide +kernel
theorem dX1_share_47 : decode cX1_share 47 = .ok (.aload_n 0, 1) := by decide +kernel
theorem dX1_share_48 : decode cX1_share 48 = .ok (.getfield 53, 3) := by decide +kernel
theorem dX1_share_51 : decode cX1_share 51 = .ok (.iload 4, 2) := by decide +kernel
theorem dX1_share_53 : decode cX1_share 53 = .ok (.iaload, 1) := by decide +kernel
theorem dX1_share_54 : decode cX1_share 54 = .ok (.isub, 1) := by decide +kernel
theorem dX1_share_55 : decode cX1_share 55 = .ok (.istore 5, 2) := by decide +kernel
theorem dX1_share_57 : decode cX1_share 57 = .ok (.iload_n 3, 1) := by decide +kernel
theorem dX1_share_58 : decode cX1_share 58 = .ok (.iload 5, 2) := by decide +kernel
theorem dX1_share_60 : decode cX1_share 60 = .ok (.getstatic 172, 3) := by decide +kernel
theorem dX1_share_63 : decode cX1_share 63 = .ok (.iload 4, 2) := by decide +kernel
theorem dX1_share_65 : decode cX1_share 65 = .ok (.invokestatic 175, 3) := by decide +kernel
theorem dX1_share_68 : decode cX1_share 68 = .ok (.iaload, 1) := by decide +kernel
theorem dX1_share_69 : decode cX1_share 69 = .ok (.imul, 1) := by decide +kernel
theorem dX1_share_70 : decode cX1_share 70 = .ok (.iadd, 1) := by decide +kernel
theorem dX1_share_71 : decode cX1_share 71 = .ok (.istore_n 3, 1) := by decide +kernel
theorem dX1_share_72 : decode cX1_share 72 = .ok (.iinc 4 1, 3) := by decide +kernel
theorem dX1_share_75 : decode cX1_share 75 = .ok (.goto (-55), 3) := by decide +kernel
theorem dX1_share_78 : decode cX1_share 78 = .ok (.iload_n 3, 1) := by decide +kernel
theorem dX1_share_79 : decode cX1_share 79 = .ok (.sipush 720, 3) := by decide +kernel
theorem dX1_share_82 : decode cX1_share 82 = .ok (.iload_n 2, 1) := by decide +kernel
theorem dX1_share_83 : decode cX1_share 83 = .ok (.invokestatic 180, 3) := by decide +kernel
theorem dX1_share_86 : decode cX1_share 86 = .ok (.ireturn, 1) := by decide +kernel
set_option maxRecDepth 20000 in
theorem ggX1_chance_X1_runSubsets : GoodIn wsX1_chance wsX1_runSubsets := goodIn_r _ [7, 8, 1, 9, 10, 11, 12, 13, 14, 15, 16, 17, 18, 19, 20, 21, 22, 23, 24, 25, 26, 27, 28, 29, 30, 31, 32, 33, 34, 35, 36, 37, 38, 39, 40, 41, 42, 43, 44, 45, 46, 47, 48, 49, 50, 51, 52, 53, 54, 55, 56, 57, 58, 59, 60, 61, 62, 63, 64, 65, 66, 67, 68, 69, 70, 71, 72, 73, 74, 75, 76, 77, 78, 79, 80, 81, 82, 83, 84, 85, 86, 87, 88, 89, 90, 91, 92, 93, 94, 95, 96, 97, 98, 99, 100, 101, 102, 103, 104, 105, 106, 107, 108, 122, 123, 124, 125, 126, 127, 128, 129, 130, 131, 132, 133, 134, 135, 136, 137, 138, 139, 140, 141, 142, 143, 144, 145, 146, 147, 148] (by decide +kernel) (by decide +kernel)
set_option maxRecDepth 20000 in
theorem gX1_chance_X1_runSubsets : GoodIn wsX1_chance (wsV RX1 168 RX1 yX1_runSubsets wsX1_runSubsets) := goodIn_app (goodIn_of _ (by decide +kernel)) ggX1_chance_X1_runSubsets
set_option maxRecDepth 20000 in
theorem ggX1_chance_X1_likelihood : GoodIn wsX1_chance wsX1_likelihood := goodIn_r _ [111] (by decide +kernel) (by decide +kernel)
set_option maxRecDepth 20000 in
theorem gX1_chance_X1_likelihood : GoodIn wsX1_chance (va_wsS RX1 184 yX1_likelihood wsX1_likelihood) := goodIn_app (goodIn_of _ (by decide +kernel)) ggX1_chance_X1_likelihood
set_option maxRecDepth 20000 in
theorem ggX1_chance_X1_fraction : GoodIn wsX1_chance wsX1_fraction := goodIn_r _ [114, 115, 116, 75, 117, 118, 119, 6, 120, 121, 74, 76] (by decide +kernel) (by decide +kernel)
set_option maxRecDepth 20000 in
theorem gX1_chance_X1_fraction : GoodIn wsX1_chance (va_wsS RX1 180 yX1_fraction wsX1_fraction) := goodIn_app (goodIn_of _ (by decide +kernel)) ggX1_chance_X1_fraction
theorem dX1_chance_0 : decode cX1_chance 0 = .ok (.iload_n 1, 1) := by decide +kernel
theorem dX1_chance_1 : decode cX1_chance 1 = .ok (.ifCond .lt 19, 3) := by decide +kernel
theorem dX1_chance_4 : decode cX1_chance 4 = .ok (.iload_n 1, 1) := by decide +kernel
theorem dX1_chance_5 : decode cX1_chance 5 = .ok (.bipush 99, 2) := by decide +kernel
theorem dX1_chance_7 : decode cX1_chance 7 = .ok (.if_icmp .gt 13, 3) := by decide +kernel
theorem dX1_chance_10 : decode cX1_chance 10 = .ok (.iload_n 2, 1) := by decide +kernel
theorem dX1_chance_11 : decode cX1_chance 11 = .ok (.ifCond .lt 9, 3) := by decide +kernel
theorem dX1_chance_14 : decode cX1_chance 14 = .ok (.iload_n 2, 1) := by decide +kernel
theorem dX1_chance_15 : decode cX1_chance 15 = .ok (.bipush 10, 2) := by decide +kernel
theorem dX1_chance_17 : decode cX1_chance 17 = .ok (.if_icmp .le 6, 3) := by decide +kernel
theorem dX1_chance_20 : decode cX1_chance 20 = .ok (.bipush (-2), 2) := by decide +kernel
theorem dX1_chance_22 : decode cX1_chance 22 = .ok (.ireturn, 1) := by decide +kernel
theorem dX1_chance_23 : decode cX1_chance 23 = .ok (.aload_n 0, 1) := by decide +kernel
theorem dX1_chance_24 : decode cX1_chance 24 = .ok (.bipush 20, 2) := by decide +kernel
theorem dX1_chance_26 : decode cX1_chance 26 = .ok (.invokevirtual 168, 3) := by decide +kernel
theorem dX1_chance_29 : decode cX1_chance 29 = .ok (.iconst 0, 1) := by decide +kernel
theorem dX1_chance_30 : decode cX1_chance 30 = .ok (.istore 4, 2) := by decide +kernel
theorem dX1_chance_32 : decode cX1_chance 32 = .ok (.iconst 0, 1) := by decide +kernel
theorem dX1_chance_33 : decode cX1_chance 33 = .ok (.istore 5, 2) := by decide +kernel
theorem dX1_chance_35 : decode cX1_chance 35 = .ok (.iload 5, 2) := by decide +kernel
theorem dX1_chance_37 : decode cX1_chance 37 = .ok (.bipush 64, 2) := by decide +kernel
theorem dX1_chance_39 : decode cX1_chance 39 = .ok (.if_icmp .ge 31, 3) := by decide +kernel
theorem dX1_chance_42 : decode cX1_chance 42 = .ok (.aload_n 0, 1) := by decide +kernel
theorem dX1_chance_43 : decode cX1_chance 43 = .ok (.getfield 53, 3) := by decide +kernel
theorem dX1_chance_46 : decode cX1_chance 46 = .ok (.iload 5, 2) := by decide +kernel
theorem dX1_chance_48 : decode cX1_chance 48 = .ok (.iaload, 1) := by decide +kernel
theorem dX1_chance_49 : decode cX1_chance 49 = .ok (.iload_n 1, 1) := by decide +kernel
theorem dX1_chance_50 : decode cX1_chance 50 = .ok (.if_icmp .lt 14, 3) := by decide +kernel
theorem dX1_chance_53 : decode cX1_chance 53 = .ok (.iload 4, 2) := by decide +kernel
theorem dX1_chance_55 : decode cX1_chance 55 = .ok (.iload 5, 2) := by decide +kernel
theorem dX1_chance_57 : decode cX1_chance 57 = .ok (.iload_n 2, 1) := by decide +kernel
theorem dX1_chance_58 : decode cX1_chance 58 = .ok (.invokestatic 184, 3) := by decide +kernel
theorem dX1_chance_61 : decode cX1_chance 61 = .ok (.iadd, 1) := by decide +kernel
theorem dX1_chance_62 : decode cX1_chance 62 = .ok (.istore 4, 2) := by decide +kernel
theorem dX1_chance_64 : decode cX1_chance 64 = .ok (.iinc 5 1, 3) := by decide +kernel
theorem dX1_chance_67 : decode cX1_chance 67 = .ok (.goto (-32), 3) := by decide +kernel
theorem dX1_chance_70 : decode cX1_chance 70 = .ok (.iload 4, 2) := by decide +kernel
theorem dX1_chance_72 : decode cX1_chance 72 = .ok (.ldc 187, 2) := by decide +kernel
theorem dX1_chance_74 : decode cX1_chance 74 = .ok (.iload_n 3, 1) := by decide +kernel
theorem dX1_chance_75 : decode cX1_chance 75 = .ok (.invokestatic 180, 3) := by decide +kernel
theorem dX1_chance_78 : decode cX1_chance 78 = .ok (.ireturn, 1) := by decide +kernel
theorem dX1_seed_0 : decode cX1_seed 0 = .ok (.aload_n 0, 1) := by decide +kernel
theorem dX1_seed_1 : decode cX1_seed 1 = .ok (.getfield 49, 3) := by decide +kernel
theorem dX1_seed_4 : decode cX1_seed 4 = .ok (.lstore_n 3, 1) := by decide +kernel
theorem dX1_seed_5 : decode cX1_seed 5 = .ok (.aload_n 0, 1) := by decide +kernel
theorem dX1_seed_6 : decode cX1_seed 6 = .ok (.lload_n 1, 1) := by decide +kernel
theorem dX1_seed_7 : decode cX1_seed 7 = .ok (.putfield 49, 3) := by decide +kernel
theorem dX1_seed_10 : decode cX1_seed 10 = .ok (.lload_n 3, 1) := by decide +kernel
theorem dX1_seed_11 : decode cX1_seed 11 = .ok (.lreturn, 1) := by decide +kernel
set_option maxRecDepth 20000 in
theorem ggX1_drawn_X0_takeFrom : GoodIn wsX1_drawn wsX0_takeFrom := goodIn_r _ [10, 11, 12, 13, 14, 15, 16, 17, 18, 19, 20, 21, 22, 23, 24, 25, 26, 27, 28, 130, 131, 132, 133, 134, 135, 136, 137, 138, 139, 140, 141, 142, 143] (by decide +kernel) (by decide +kernel)
set_option maxRecDepth 20000 in
theorem gX1_drawn_X0_takeFrom : GoodIn wsX1_drawn (wsV RX1 60 RX0 yX0_takeFrom wsX0_takeFrom) := goodIn_app (goodIn_of _ (by decide +kernel)) ggX1_drawn_X0_takeFrom
set_option maxRecDepth 20000 in
theorem ggX1_drawn_X0_sent : GoodIn wsX1_drawn wsX0_sent := goodIn_r _ [32, 16, 17, 130, 131, 132, 133, 134, 135, 136, 137, 138, 139, 140, 141, 142, 143] (by decide +kernel) (by decide +kernel)
set_option maxRecDepth 20000 in
theorem gX1_drawn_X0_sent : GoodIn wsX1_drawn (wsV RX1 188 RX0 yX0_sent wsX0_sent) := goodIn_app (goodIn_of _ (by decide +kernel)) ggX1_drawn_X0_sent
set_option maxRecDepth 20000 in
theorem ggX1_drawn_X0_enterOrDepart : GoodIn wsX1_drawn wsX0_enterOrDepart := goodIn_r _ [36, 37, 38, 39, 9, 40, 18, 41, 42, 43, 44, 45, 46, 47, 24, 14, 25, 48, 49, 50, 51, 15, 52, 53, 54, 55, 56, 57, 58, 59, 60, 12, 13, 11, 61, 62, 63, 64, 26, 65, 66, 67, 68, 23, 69, 70, 71, 72, 73, 74, 75, 76, 77, 78, 79, 17, 80, 81, 82, 83, 84, 85, 86, 87, 88, 89, 90, 91, 27, 92, 93, 94, 95, 96, 97, 98, 99, 130, 131, 132, 133, 134, 135, 136, 137, 138, 139, 140, 141, 142, 143] (by decide +kernel) (by decide +kernel)
set_option maxRecDepth 20000 in
theorem gX1_drawn_X0_enterOrDepart : GoodIn wsX1_drawn (wsV RX1 195 RX0 yX0_enterOrDepart wsX0_enterOrDepart) := goodIn_app (goodIn_of _ (by decide +kernel)) ggX1_drawn_X0_enterOrDepart
set_option maxRecDepth 20000 in
theorem ggX1_drawn_X0_run : GoodIn wsX1_drawn wsX0_run := goodIn_r _ [103, 14, 18, 25, 23, 104, 30, 31, 9, 32, 16, 17, 105, 106, 107, 108, 26, 24, 65, 66, 67, 68, 69, 70, 71, 72, 73, 74, 75, 48, 49, 50, 51, 15, 52, 53, 54, 55, 56, 57, 58, 59, 60, 12, 13, 11, 76, 77, 78, 79, 80, 81, 82, 83, 84, 85, 86, 87, 88, 89, 90, 91, 27, 92, 93, 94, 95, 96, 97, 98, 99, 109, 110, 111, 112, 28, 113, 114, 115, 116, 130, 131, 132, 133, 134, 135, 136, 137, 138, 139, 140, 141, 142, 143] (by decide +kernel) (by decide +kernel)
set_option maxRecDepth 20000 in
theorem gX1_drawn_X0_run : GoodIn wsX1_drawn (wsV RX1 133 RX0 yX0_run wsX0_run) := goodIn_app (goodIn_of _ (by decide +kernel)) ggX1_drawn_X0_run
theorem dX1_drawn_0 : decode cX1_drawn 0 = .ok (.iload_n 1, 1) := by decide +kernel
theorem dX1_drawn_1 : decode cX1_drawn 1 = .ok (.iconst 1, 1) := by decide +kernel
theorem dX1_drawn_2 : decode cX1_drawn 2 = .ok (.if_icmp .lt 9, 3) := by decide +kernel
theorem dX1_drawn_5 : decode cX1_drawn 5 = .ok (.iload_n 1, 1) := by decide +kernel
theorem dX1_drawn_6 : decode cX1_drawn 6 = .ok (.bipush 40, 2) := by decide +kernel
theorem dX1_drawn_8 : decode cX1_drawn 8 = .ok (.if_icmp .le 6, 3) := by decide +kernel
theorem dX1_drawn_11 : decode cX1_drawn 11 = .ok (.bipush (-2), 2) := by decide +kernel
theorem dX1_drawn_13 : decode cX1_drawn 13 = .ok (.ireturn, 1) := by decide +kernel
theorem dX1_drawn_14 : decode cX1_drawn 14 = .ok (.aload_n 0, 1) := by decide +kernel
theorem dX1_drawn_15 : decode cX1_drawn 15 = .ok (.getfield 16, 3) := by decide +kernel
theorem dX1_drawn_18 : decode cX1_drawn 18 = .ok (.aload_n 0, 1) := by decide +kernel
theorem dX1_drawn_19 : decode cX1_drawn 19 = .ok (.getfield 10, 3) := by decide +kernel
theorem dX1_drawn_22 : decode cX1_drawn 22 = .ok (.invokevirtual 60, 3) := by decide +kernel
theorem dX1_drawn_25 : decode cX1_drawn 25 = .ok (.aload_n 0, 1) := by decide +kernel
theorem dX1_drawn_26 : decode cX1_drawn 26 = .ok (.getfield 16, 3) := by decide +kernel
theorem dX1_drawn_29 : decode cX1_drawn 29 = .ok (.invokevirtual 188, 3) := by decide +kernel
theorem dX1_drawn_32 : decode cX1_drawn 32 = .ok (.istore_n 2, 1) := by decide +kernel
theorem dX1_drawn_33 : decode cX1_drawn 33 = .ok (.iconst 0, 1) := by decide +kernel
theorem dX1_drawn_34 : decode cX1_drawn 34 = .ok (.istore_n 3, 1) := by decide +kernel
theorem dX1_drawn_35 : decode cX1_drawn 35 = .ok (.iload_n 3, 1) := by decide +kernel
theorem dX1_drawn_36 : decode cX1_drawn 36 = .ok (.iload_n 1, 1) := by decide +kernel
theorem dX1_drawn_37 : decode cX1_drawn 37 = .ok (.if_icmp .ge 67, 3) := by decide +kernel
theorem dX1_drawn_40 : decode cX1_drawn 40 = .ok (.aload_n 0, 1) := by decide +kernel
theorem dX1_drawn_41 : decode cX1_drawn 41 = .ok (.aload_n 0, 1) := by decide +kernel
theorem dX1_drawn_42 : decode cX1_drawn 42 = .ok (.getfield 49, 3) := by decide +kernel
theorem dX1_drawn_45 : decode cX1_drawn 45 = .ok (.ldc2_w 191, 3) := by decide +kernel
theorem dX1_drawn_48 : decode cX1_drawn 48 = .ok (.lmul, 1) := by decide +kernel
theorem dX1_drawn_49 : decode cX1_drawn 49 = .ok (.ldc2_w 193, 3) := by decide +kernel
theorem dX1_drawn_52 : decode cX1_drawn 52 = .ok (.ladd, 1) := by decide +kernel
theorem dX1_drawn_53 : decode cX1_drawn 53 = .ok (.putfield 49, 3) := by decide +kernel
theorem dX1_drawn_56 : decode cX1_drawn 56 = .ok (.aload_n 0, 1) := by decide +kernel
theorem dX1_drawn_57 : decode cX1_drawn 57 = .ok (.getfield 49, 3) := by decide +kernel
theorem dX1_drawn_60 : decode cX1_drawn 60 = .ok (.bipush 33, 2) := by decide +kernel
theorem dX1_drawn_62 : decode cX1_drawn 62 = .ok (.lushr, 1) := by decide +kernel
theorem dX1_drawn_63 : decode cX1_drawn 63 = .ok (.l2i, 1) := by decide +kernel
theorem dX1_drawn_64 : decode cX1_drawn 64 = .ok (.istore 4, 2) := by decide +kernel
theorem dX1_drawn_66 : decode cX1_drawn 66 = .ok (.iload 4, 2) := by decide +kernel
theorem dX1_drawn_68 : decode cX1_drawn 68 = .ok (.bipush 8, 2) := by decide +kernel
theorem dX1_drawn_70 : decode cX1_drawn 70 = .ok (.irem, 1) := by decide +kernel
theorem dX1_drawn_71 : decode cX1_drawn 71 = .ok (.ifCond .ne 18, 3) := by decide +kernel
theorem dX1_drawn_74 : decode cX1_drawn 74 = .ok (.aload_n 0, 1) := by decide +kernel
theorem dX1_drawn_75 : decode cX1_drawn 75 = .ok (.getfield 16, 3) := by decide +kernel
theorem dX1_drawn_78 : decode cX1_drawn 78 = .ok (.iload 4, 2) := by decide +kernel
theorem dX1_drawn_80 : decode cX1_drawn 80 = .ok (.bipush 8, 2) := by decide +kernel
theorem dX1_drawn_82 : decode cX1_drawn 82 = .ok (.idiv, 1) := by decide +kernel
theorem dX1_drawn_83 : decode cX1_drawn 83 = .ok (.bipush 6, 2) := by decide +kernel
theorem dX1_drawn_85 : decode cX1_drawn 85 = .ok (.irem, 1) := by decide +kernel
theorem dX1_drawn_86 : decode cX1_drawn 86 = .ok (.invokevirtual 195, 3) := by decide +kernel
theorem dX1_drawn_89 : decode cX1_drawn 89 = .ok (.aload_n 0, 1) := by decide +kernel
theorem dX1_drawn_90 : decode cX1_drawn 90 = .ok (.getfield 16, 3) := by decide +kernel
theorem dX1_drawn_93 : decode cX1_drawn 93 = .ok (.iconst 1, 1) := by decide +kernel
theorem dX1_drawn_94 : decode cX1_drawn 94 = .ok (.invokevirtual 133, 3) := by decide +kernel
theorem dX1_drawn_97 : decode cX1_drawn 97 = .ok (.pop, 1) := by decide +kernel
theorem dX1_drawn_98 : decode cX1_drawn 98 = .ok (.iinc 3 1, 3) := by decide +kernel
theorem dX1_drawn_101 : decode cX1_drawn 101 = .ok (.goto (-66), 3) := by decide +kernel
theorem dX1_drawn_104 : decode cX1_drawn 104 = .ok (.aload_n 0, 1) := by decide +kernel
theorem dX1_drawn_105 : decode cX1_drawn 105 = .ok (.getfield 16, 3) := by decide +kernel
theorem dX1_drawn_108 : decode cX1_drawn 108 = .ok (.invokevirtual 188, 3) := by decide +kernel
theorem dX1_drawn_111 : decode cX1_drawn 111 = .ok (.iload_n 2, 1) := by decide +kernel
theorem dX1_drawn_112 : decode cX1_drawn 112 = .ok (.isub, 1) := by decide +kernel
theorem dX1_drawn_113 : decode cX1_drawn 113 = .ok (.ireturn, 1) := by decide +kernel
set_option maxRecDepth 20000 in
theorem ggX1_keep_X0_takeFrom : GoodIn wsX1_keep wsX0_takeFrom := goodIn_r _ [9, 10, 11, 12, 13, 14, 15, 16, 17, 18, 19, 20, 21, 22, 23, 24, 25, 26, 27, 41, 42, 43, 44, 45, 46, 47, 48, 49, 50, 51, 52, 53, 54] (by decide +kernel) (by decide +kernel)
set_option maxRecDepth 20000 in
theorem gX1_keep_X0_takeFrom : GoodIn wsX1_keep (wsV RX1 60 RX0 yX0_takeFrom wsX0_takeFrom) := goodIn_app (goodIn_of _ (by decide +kernel)) ggX1_keep_X0_takeFrom
theorem dX1_keep_0 : decode cX1_keep 0 = .ok (.iload_n 1, 1) := by decide +kernel
theorem dX1_keep_1 : decode cX1_keep 1 = .ok (.ifCond .lt 8, 3) := by decide +kernel
theorem dX1_keep_4 : decode cX1_keep 4 = .ok (.iload_n 1, 1) := by decide +kernel
theorem dX1_keep_5 : decode cX1_keep 5 = .ok (.iconst 2, 1) := by decide +kernel
theorem dX1_keep_6 : decode cX1_keep 6 = .ok (.if_icmp .lt 5, 3) := by decide +kernel
theorem dX1_keep_9 : decode cX1_keep 9 = .ok (.iconst (-1), 1) := by decide +kernel
theorem dX1_keep_10 : decode cX1_keep 10 = .ok (.ireturn, 1) := by decide +kernel
theorem dX1_keep_11 : decode cX1_keep 11 = .ok (.aload_n 0, 1) := by decide +kernel
theorem dX1_keep_12 : decode cX1_keep 12 = .ok (.getfield 27, 3) := by decide +kernel
theorem dX1_keep_15 : decode cX1_keep 15 = .ok (.iload_n 1, 1) := by decide +kernel
theorem dX1_keep_16 : decode cX1_keep 16 = .ok (.aaload, 1) := by decide +kernel
theorem dX1_keep_17 : decode cX1_keep 17 = .ok (.aload_n 0, 1) := by decide +kernel
theorem dX1_keep_18 : decode cX1_keep 18 = .ok (.getfield 10, 3) := by decide +kernel
theorem dX1_keep_21 : decode cX1_keep 21 = .ok (.invokevirtual 60, 3) := by decide +kernel
theorem dX1_keep_24 : decode cX1_keep 24 = .ok (.aload_n 0, 1) := by decide +kernel
theorem dX1_keep_25 : decode cX1_keep 25 = .ok (.dup, 1) := by decide +kernel
theorem dX1_keep_26 : decode cX1_keep 26 = .ok (.getfield 30, 3) := by decide +kernel
theorem dX1_keep_29 : decode cX1_keep 29 = .ok (.iconst 1, 1) := by decide +kernel
theorem dX1_keep_30 : decode cX1_keep 30 = .ok (.iload_n 1, 1) := by decide +kernel
theorem dX1_keep_31 : decode cX1_keep 31 = .ok (.ishl, 1) := by decide +kernel
theorem dX1_keep_32 : decode cX1_keep 32 = .ok (.ior, 1) := by decide +kernel
theorem dX1_keep_33 : decode cX1_keep 33 = .ok (.putfield 30, 3) := by decide +kernel
theorem dX1_keep_36 : decode cX1_keep 36 = .ok (.aload_n 0, 1) := by decide +kernel
theorem dX1_keep_37 : decode cX1_keep 37 = .ok (.getfield 10, 3) := by decide +kernel
theorem dX1_keep_40 : decode cX1_keep 40 = .ok (.getfield 64, 3) := by decide +kernel
theorem dX1_keep_43 : decode cX1_keep 43 = .ok (.ireturn, 1) := by decide +kernel
set_option maxRecDepth 20000 in
theorem ggX1_again_X0_takeFrom : GoodIn wsX1_again wsX0_takeFrom := goodIn_r _ [10, 11, 12, 13, 14, 15, 16, 17, 18, 19, 20, 21, 22, 23, 24, 25, 26, 27, 28, 42, 43, 44, 45, 46, 47, 48, 49, 50, 51, 52, 53, 54, 55] (by decide +kernel) (by decide +kernel)
set_option maxRecDepth 20000 in
theorem gX1_again_X0_takeFrom : GoodIn wsX1_again (wsV RX1 60 RX0 yX0_takeFrom wsX0_takeFrom) := goodIn_app (goodIn_of _ (by decide +kernel)) ggX1_again_X0_takeFrom
theorem dX1_again_0 : decode cX1_again 0 = .ok (.iload_n 1, 1) := by decide +kernel
theorem dX1_again_1 : decode cX1_again 1 = .ok (.ifCond .lt 8, 3) := by decide +kernel
theorem dX1_again_4 : decode cX1_again 4 = .ok (.iload_n 1, 1) := by decide +kernel
theorem dX1_again_5 : decode cX1_again 5 = .ok (.iconst 2, 1) := by decide +kernel
theorem dX1_again_6 : decode cX1_again 6 = .ok (.if_icmp .lt 5, 3) := by decide +kernel
theorem dX1_again_9 : decode cX1_again 9 = .ok (.iconst (-1), 1) := by decide +kernel
theorem dX1_again_10 : decode cX1_again 10 = .ok (.ireturn, 1) := by decide +kernel
theorem dX1_again_11 : decode cX1_again 11 = .ok (.aload_n 0, 1) := by decide +kernel
theorem dX1_again_12 : decode cX1_again 12 = .ok (.getfield 30, 3) := by decide +kernel
theorem dX1_again_15 : decode cX1_again 15 = .ok (.iload_n 1, 1) := by decide +kernel
theorem dX1_again_16 : decode cX1_again 16 = .ok (.ishr, 1) := by decide +kernel
theorem dX1_again_17 : decode cX1_again 17 = .ok (.iconst 1, 1) := by decide +kernel
theorem dX1_again_18 : decode cX1_again 18 = .ok (.iand, 1) := by decide +kernel
theorem dX1_again_19 : decode cX1_again 19 = .ok (.ifCond .ne 6, 3) := by decide +kernel
theorem dX1_again_22 : decode cX1_again 22 = .ok (.bipush (-3), 2) := by decide +kernel
theorem dX1_again_24 : decode cX1_again 24 = .ok (.ireturn, 1) := by decide +kernel
theorem dX1_again_25 : decode cX1_again 25 = .ok (.aload_n 0, 1) := by decide +kernel
theorem dX1_again_26 : decode cX1_again 26 = .ok (.getfield 10, 3) := by decide +kernel
theorem dX1_again_29 : decode cX1_again 29 = .ok (.aload_n 0, 1) := by decide +kernel
theorem dX1_again_30 : decode cX1_again 30 = .ok (.getfield 27, 3) := by decide +kernel
theorem dX1_again_33 : decode cX1_again 33 = .ok (.iload_n 1, 1) := by decide +kernel
theorem dX1_again_34 : decode cX1_again 34 = .ok (.aaload, 1) := by decide +kernel
theorem dX1_again_35 : decode cX1_again 35 = .ok (.invokevirtual 60, 3) := by decide +kernel
theorem dX1_again_38 : decode cX1_again 38 = .ok (.aload_n 0, 1) := by decide +kernel
theorem dX1_again_39 : decode cX1_again 39 = .ok (.iconst 0, 1) := by decide +kernel
theorem dX1_again_40 : decode cX1_again 40 = .ok (.putfield 23, 3) := by decide +kernel
theorem dX1_again_43 : decode cX1_again 43 = .ok (.aload_n 0, 1) := by decide +kernel
theorem dX1_again_44 : decode cX1_again 44 = .ok (.getfield 10, 3) := by decide +kernel
theorem dX1_again_47 : decode cX1_again 47 = .ok (.getfield 64, 3) := by decide +kernel
theorem dX1_again_50 : decode cX1_again 50 = .ok (.ireturn, 1) := by decide +kernel
theorem dX1_isTime_0 : decode cX1_isTime 0 = .ok (.iload_n 0, 1) := by decide +kernel
theorem dX1_isTime_1 : decode cX1_isTime 1 = .ok (.ifCond .lt 14, 3) := by decide +kernel
theorem dX1_isTime_4 : decode cX1_isTime 4 = .ok (.iload_n 0, 1) := by decide +kernel
theorem dX1_isTime_5 : decode cX1_isTime 5 = .ok (.sipush 9999, 3) := by decide +kernel
theorem dX1_isTime_8 : decode cX1_isTime 8 = .ok (.if_icmp .gt 7, 3) := by decide +kernel
theorem dX1_isTime_11 : decode cX1_isTime 11 = .ok (.iconst 1, 1) := by decide +kernel
theorem dX1_isTime_12 : decode cX1_isTime 12 = .ok (.goto 4, 3) := by decide +kernel
theorem dX1_isTime_15 : decode cX1_isTime 15 = .ok (.iconst 0, 1) := by decide +kernel
theorem dX1_isTime_16 : decode cX1_isTime 16 = .ok (.ireturn, 1) := by decide +kernel
theorem dX1_isFigure_0 : decode cX1_isFigure 0 = .ok (.iload_n 0, 1) := by decide +kernel
theorem dX1_isFigure_1 : decode cX1_isFigure 1 = .ok (.bipush 48, 2) := by decide +kernel
theorem dX1_isFigure_3 : decode cX1_isFigure 3 = .ok (.iload_n 1, 1) := by decide +kernel
theorem dX1_isFigure_4 : decode cX1_isFigure 4 = .ok (.iadd, 1) := by decide +kernel
theorem dX1_isFigure_5 : decode cX1_isFigure 5 = .ok (.if_icmp .lt 13, 3) := by decide +kernel
theorem dX1_isFigure_8 : decode cX1_isFigure 8 = .ok (.iload_n 0, 1) := by decide +kernel
theorem dX1_isFigure_9 : decode cX1_isFigure 9 = .ok (.bipush 57, 2) := by decide +kernel
theorem dX1_isFigure_11 : decode cX1_isFigure 11 = .ok (.if_icmp .gt 7, 3) := by decide +kernel
theorem dX1_isFigure_14 : decode cX1_isFigure 14 = .ok (.iconst 1, 1) := by decide +kernel
theorem dX1_isFigure_15 : decode cX1_isFigure 15 = .ok (.goto 4, 3) := by decide +kernel
theorem dX1_isFigure_18 : decode cX1_isFigure 18 = .ok (.iconst 0, 1) := by decide +kernel
theorem dX1_isFigure_19 : decode cX1_isFigure 19 = .ok (.ireturn, 1) := by decide +kernel
theorem dX1_tenTo_0 : decode cX1_tenTo 0 = .ok (.lconst 1, 1) := by decide +kernel
theorem dX1_tenTo_1 : decode cX1_tenTo 1 = .ok (.lstore_n 1, 1) := by decide +kernel
theorem dX1_tenTo_2 : decode cX1_tenTo 2 = .ok (.iconst 0, 1) := by decide +kernel
theorem dX1_tenTo_3 : decode cX1_tenTo 3 = .ok (.istore_n 3, 1) := by decide +kernel
theorem dX1_tenTo_4 : decode cX1_tenTo 4 = .ok (.iload_n 3, 1) := by decide +kernel
theorem dX1_tenTo_5 : decode cX1_tenTo 5 = .ok (.iload_n 0, 1) := by decide +kernel
theorem dX1_tenTo_6 : decode cX1_tenTo 6 = .ok (.if_icmp .ge 15, 3) := by decide +kernel
theorem dX1_tenTo_9 : decode cX1_tenTo 9 = .ok (.lload_n 1, 1) := by decide +kernel
theorem dX1_tenTo_10 : decode cX1_tenTo 10 = .ok (.ldc2_w 198, 3) := by decide +kernel
theorem dX1_tenTo_13 : decode cX1_tenTo 13 = .ok (.lmul, 1) := by decide +kernel
theorem dX1_tenTo_14 : decode cX1_tenTo 14 = .ok (.lstore_n 1, 1) := by decide +kernel
theorem dX1_tenTo_15 : decode cX1_tenTo 15 = .ok (.iinc 3 1, 3) := by decide +kernel
theorem dX1_tenTo_18 : decode cX1_tenTo 18 = .ok (.goto (-14), 3) := by decide +kernel
theorem dX1_tenTo_21 : decode cX1_tenTo 21 = .ok (.lload_n 1, 1) := by decide +kernel
theorem dX1_tenTo_22 : decode cX1_tenTo 22 = .ok (.lreturn, 1) := by decide +kernel
set_option maxRecDepth 20000 in
theorem ggX1_part_X1_tenTo : GoodIn wsX1_part wsX1_tenTo := goodIn_r _ [4, 5] (by decide +kernel) (by decide +kernel)
set_option maxRecDepth 20000 in
theorem gX1_part_X1_tenTo : GoodIn wsX1_part (va_wsS RX1 148 yX1_tenTo wsX1_tenTo) := goodIn_app (goodIn_of _ (by decide +kernel)) ggX1_part_X1_tenTo
theorem dX1_part_0 : decode cX1_part 0 = .ok (.lload_n 0, 1) := by decide +kernel
theorem dX1_part_1 : decode cX1_part 1 = .ok (.iload_n 2, 1) := by decide +kernel
theorem dX1_part_2 : decode cX1_part 2 = .ok (.iload_n 3, 1) := by decide +kernel
theorem dX1_part_3 : decode cX1_part 3 = .ok (.imul, 1) := by decide +kernel
theorem dX1_part_4 : decode cX1_part 4 = .ok (.invokestatic 148, 3) := by decide +kernel
theorem dX1_part_7 : decode cX1_part 7 = .ok (.ldiv, 1) := by decide +kernel
theorem dX1_part_8 : decode cX1_part 8 = .ok (.iload_n 3, 1) := by decide +kernel
theorem dX1_part_9 : decode cX1_part 9 = .ok (.invokestatic 148, 3) := by decide +kernel
theorem dX1_part_12 : decode cX1_part 12 = .ok (.lrem, 1) := by decide +kernel
theorem dX1_part_13 : decode cX1_part 13 = .ok (.l2i, 1) := by decide +kernel
theorem dX1_part_14 : decode cX1_part 14 = .ok (.ireturn, 1) := by decide +kernel
theorem dX1_greatestDivisor_0 : decode cX1_greatestDivisor 0 = .ok (.iload_n 0, 1) := by decide +kernel
theorem dX1_greatestDivisor_1 : decode cX1_greatestDivisor 1 = .ok (.istore_n 2, 1) := by decide +kernel
theorem dX1_greatestDivisor_2 : decode cX1_greatestDivisor 2 = .ok (.iload_n 1, 1) := by decide +kernel
theorem dX1_greatestDivisor_3 : decode cX1_greatestDivisor 3 = .ok (.istore_n 3, 1) := by decide +kernel
theorem dX1_greatestDivisor_4 : decode cX1_greatestDivisor 4 = .ok (.iconst 0, 1) := by decide +kernel
theorem dX1_greatestDivisor_5 : decode cX1_greatestDivisor 5 = .ok (.istore 4, 2) := by decide +kernel
theorem dX1_greatestDivisor_7 : decode cX1_greatestDivisor 7 = .ok (.iload 4, 2) := by decide +kernel
theorem dX1_greatestDivisor_9 : decode cX1_greatestDivisor 9 = .ok (.bipush 64, 2) := by decide +kernel
theorem dX1_greatestDivisor_11 : decode cX1_greatestDivisor 11 = .ok (.if_icmp .ge 23, 3) := by decide +kernel
theorem dX1_greatestDivisor_14 : decode cX1_greatestDivisor 14 = .ok (.iload_n 3, 1) := by decide +kernel
theorem dX1_greatestDivisor_15 : decode cX1_greatestDivisor 15 = .ok (.ifCond .eq 19, 3) := by decide +kernel
theorem dX1_greatestDivisor_18 : decode cX1_greatestDivisor 18 = .ok (.iload_n 2, 1) := by decide +kernel
theorem dX1_greatestDivisor_19 : decode cX1_greatestDivisor 19 = .ok (.iload_n 3, 1) := by decide +kernel
theorem dX1_greatestDivisor_20 : decode cX1_greatestDivisor 20 = .ok (.irem, 1) := by decide +kernel
theorem dX1_greatestDivisor_21 : decode cX1_greatestDivisor 21 = .ok (.istore 5, 2) := by decide +kernel
theorem dX1_greatestDivisor_23 : decode cX1_greatestDivisor 23 = .ok (.iload_n 3, 1) := by decide +kernel
theorem dX1_greatestDivisor_24 : decode cX1_greatestDivisor 24 = .ok (.istore_n 2, 1) := by decide +kernel
theorem dX1_greatestDivisor_25 : decode cX1_greatestDivisor 25 = .ok (.iload 5, 2) := by decide +kernel
theorem dX1_greatestDivisor_27 : decode cX1_greatestDivisor 27 = .ok (.istore_n 3, 1) := by decide +kernel
theorem dX1_greatestDivisor_28 : decode cX1_greatestDivisor 28 = .ok (.iinc 4 1, 3) := by decide +kernel
theorem dX1_greatestDivisor_31 : decode cX1_greatestDivisor 31 = .ok (.goto (-24), 3) := by decide +kernel
theorem dX1_greatestDivisor_34 : decode cX1_greatestDivisor 34 = .ok (.iconst 1, 1) := by decide +kernel
theorem dX1_greatestDivisor_35 : decode cX1_greatestDivisor 35 = .ok (.iload_n 2, 1) := by decide +kernel
theorem dX1_greatestDivisor_36 : decode cX1_greatestDivisor 36 = .ok (.invokestatic 143, 3) := by decide +kernel
theorem dX1_greatestDivisor_39 : decode cX1_greatestDivisor 39 = .ok (.ireturn, 1) := by decide +kernel
set_option maxRecDepth 20000 in
theorem ggX1_fraction_X1_greatestDivisor : GoodIn wsX1_fraction wsX1_greatestDivisor := goodIn_r _ [8, 9, 10, 3, 11] (by decide +kernel) (by decide +kernel)
set_option maxRecDepth 20000 in
theorem gX1_fraction_X1_greatestDivisor : GoodIn wsX1_fraction (va_wsS RX1 200 yX1_greatestDivisor wsX1_greatestDivisor) := goodIn_app (goodIn_of _ (by decide +kernel)) ggX1_fraction_X1_greatestDivisor
theorem dX1_fraction_0 : decode cX1_fraction 0 = .ok (.iload_n 0, 1) := by decide +kernel
theorem dX1_fraction_1 : decode cX1_fraction 1 = .ok (.invokestatic 156, 3) := by decide +kernel
theorem dX1_fraction_4 : decode cX1_fraction 4 = .ok (.iload_n 1, 1) := by decide +kernel
theorem dX1_fraction_5 : decode cX1_fraction 5 = .ok (.invokestatic 200, 3) := by decide +kernel
theorem dX1_fraction_8 : decode cX1_fraction 8 = .ok (.istore_n 3, 1) := by decide +kernel
theorem dX1_fraction_9 : decode cX1_fraction 9 = .ok (.iload_n 2, 1) := by decide +kernel
theorem dX1_fraction_10 : decode cX1_fraction 10 = .ok (.ifCond .eq 9, 3) := by decide +kernel
theorem dX1_fraction_13 : decode cX1_fraction 13 = .ok (.iload_n 0, 1) := by decide +kernel
theorem dX1_fraction_14 : decode cX1_fraction 14 = .ok (.iload_n 3, 1) := by decide +kernel
theorem dX1_fraction_15 : decode cX1_fraction 15 = .ok (.idiv, 1) := by decide +kernel
theorem dX1_fraction_16 : decode cX1_fraction 16 = .ok (.goto 6, 3) := by decide +kernel
theorem dX1_fraction_19 : decode cX1_fraction 19 = .ok (.iload_n 1, 1) := by decide +kernel
theorem dX1_fraction_20 : decode cX1_fraction 20 = .ok (.iload_n 3, 1) := by decide +kernel
theorem dX1_fraction_21 : decode cX1_fraction 21 = .ok (.idiv, 1) := by decide +kernel
theorem dX1_fraction_22 : decode cX1_fraction 22 = .ok (.ireturn, 1) := by decide +kernel
theorem dX1_likelihood_0 : decode cX1_likelihood 0 = .ok (.iconst 1, 1) := by decide +kernel
theorem dX1_likelihood_1 : decode cX1_likelihood 1 = .ok (.istore_n 2, 1) := by decide +kernel
theorem dX1_likelihood_2 : decode cX1_likelihood 2 = .ok (.iconst 0, 1) := by decide +kernel
theorem dX1_likelihood_3 : decode cX1_likelihood 3 = .ok (.istore_n 3, 1) := by decide +kernel
theorem dX1_likelihood_4 : decode cX1_likelihood 4 = .ok (.iload_n 3, 1) := by decide +kernel
theorem dX1_likelihood_5 : decode cX1_likelihood 5 = .ok (.bipush 6, 2) := by decide +kernel
theorem dX1_likelihood_7 : decode cX1_likelihood 7 = .ok (.if_icmp .ge 28, 3) := by decide +kernel
theorem dX1_likelihood_10 : decode cX1_likelihood 10 = .ok (.iload_n 2, 1) := by decide +kernel
theorem dX1_likelihood_11 : decode cX1_likelihood 11 = .ok (.iload_n 0, 1) := by decide +kernel
theorem dX1_likelihood_12 : decode cX1_likelihood 12 = .ok (.iload_n 3, 1) := by decide +kernel
theorem dX1_likelihood_13 : decode cX1_likelihood 13 = .ok (.ishr, 1) := by decide +kernel
theorem dX1_likelihood_14 : decode cX1_likelihood 14 = .ok (.iconst 1, 1) := by decide +kernel
theorem dX1_likelihood_15 : decode cX1_likelihood 15 = .ok (.iand, 1) := by decide +kernel
theorem dX1_likelihood_16 : decode cX1_likelihood 16 = .ok (.ifCond .ne 7, 3) := by decide +kernel
theorem dX1_likelihood_19 : decode cX1_likelihood 19 = .ok (.iload_n 1, 1) := by decide +kernel
theorem dX1_likelihood_20 : decode cX1_likelihood 20 = .ok (.goto 7, 3) := by decide +kernel
theorem dX1_likelihood_23 : decode cX1_likelihood 23 = .ok (.bipush 10, 2) := by decide +kernel
theorem dX1_likelihood_25 : decode cX1_likelihood 25 = .ok (.iload_n 1, 1) := by decide +kernel
theorem dX1_likelihood_26 : decode cX1_likelihood 26 = .ok (.isub, 1) := by decide +kernel
theorem dX1_likelihood_27 : decode cX1_likelihood 27 = .ok (.imul, 1) := by decide +kernel
theorem dX1_likelihood_28 : decode cX1_likelihood 28 = .ok (.istore_n 2, 1) := by decide +kernel
theorem dX1_likelihood_29 : decode cX1_likelihood 29 = .ok (.iinc 3 1, 3) := by decide +kernel
theorem dX1_likelihood_32 : decode cX1_likelihood 32 = .ok (.goto (-28), 3) := by decide +kernel
theorem dX1_likelihood_35 : decode cX1_likelihood 35 = .ok (.iload_n 2, 1) := by decide +kernel
theorem dX1_likelihood_36 : decode cX1_likelihood 36 = .ok (.ireturn, 1) := by decide +kernel
set_option maxRecDepth 20000 in
theorem ggX1_remember_X0_takeFrom : GoodIn wsX1_remember wsX0_takeFrom := goodIn_r _ [8, 9, 10, 11, 12, 13, 14, 15, 16, 17, 18, 19, 20, 21, 22, 23, 24, 25, 26, 40, 41, 42, 43, 44, 45, 46, 47, 48, 49, 50, 51, 52, 53] (by decide +kernel) (by decide +kernel)
set_option maxRecDepth 20000 in
theorem gX1_remember_X0_takeFrom : GoodIn wsX1_remember (wsV RX1 60 RX0 yX0_takeFrom wsX0_takeFrom) := goodIn_app (goodIn_of _ (by decide +kernel)) ggX1_remember_X0_takeFrom
theorem dX1_remember_0 : decode cX1_remember 0 = .ok (.aload_n 0, 1) := by decide +kernel
theorem dX1_remember_1 : decode cX1_remember 1 = .ok (.getfield 23, 3) := by decide +kernel
theorem dX1_remember_4 : decode cX1_remember 4 = .ok (.bipush 14, 2) := by decide +kernel
theorem dX1_remember_6 : decode cX1_remember 6 = .ok (.if_icmp .lt 52, 3) := by decide +kernel
theorem dX1_remember_9 : decode cX1_remember 9 = .ok (.aload_n 0, 1) := by decide +kernel
theorem dX1_remember_10 : decode cX1_remember 10 = .ok (.getfield 19, 3) := by decide +kernel
theorem dX1_remember_13 : decode cX1_remember 13 = .ok (.iconst 0, 1) := by decide +kernel
theorem dX1_remember_14 : decode cX1_remember 14 = .ok (.aaload, 1) := by decide +kernel
theorem dX1_remember_15 : decode cX1_remember 15 = .ok (.astore_n 1, 1) := by decide +kernel
theorem dX1_remember_16 : decode cX1_remember 16 = .ok (.iconst 1, 1) := by decide +kernel
theorem dX1_remember_17 : decode cX1_remember 17 = .ok (.istore_n 2, 1) := by decide +kernel
theorem dX1_remember_18 : decode cX1_remember 18 = .ok (.iload_n 2, 1) := by decide +kernel
theorem dX1_remember_19 : decode cX1_remember 19 = .ok (.bipush 14, 2) := by decide +kernel
theorem dX1_remember_21 : decode cX1_remember 21 = .ok (.if_icmp .ge 23, 3) := by decide +kernel
theorem dX1_remember_24 : decode cX1_remember 24 = .ok (.aload_n 0, 1) := by decide +kernel
theorem dX1_remember_25 : decode cX1_remember 25 = .ok (.getfield 19, 3) := by decide +kernel
theorem dX1_remember_28 : decode cX1_remember 28 = .ok (.iload_n 2, 1) := by decide +kernel
theorem dX1_remember_29 : decode cX1_remember 29 = .ok (.iconst 1, 1) := by decide +kernel
theorem dX1_remember_30 : decode cX1_remember 30 = .ok (.isub, 1) := by decide +kernel
theorem dX1_remember_31 : decode cX1_remember 31 = .ok (.aload_n 0, 1) := by decide +kernel
theorem dX1_remember_32 : decode cX1_remember 32 = .ok (.getfield 19, 3) := by decide +kernel
theorem dX1_remember_35 : decode cX1_remember 35 = .ok (.iload_n 2, 1) := by decide +kernel
theorem dX1_remember_36 : decode cX1_remember 36 = .ok (.aaload, 1) := by decide +kernel
theorem dX1_remember_37 : decode cX1_remember 37 = .ok (.aastore, 1) := by decide +kernel
theorem dX1_remember_38 : decode cX1_remember 38 = .ok (.iinc 2 1, 3) := by decide +kernel
theorem dX1_remember_41 : decode cX1_remember 41 = .ok (.goto (-23), 3) := by decide +kernel
theorem dX1_remember_44 : decode cX1_remember 44 = .ok (.aload_n 0, 1) := by decide +kernel
theorem dX1_remember_45 : decode cX1_remember 45 = .ok (.getfield 19, 3) := by decide +kernel
theorem dX1_remember_48 : decode cX1_remember 48 = .ok (.bipush 13, 2) := by decide +kernel
theorem dX1_remember_50 : decode cX1_remember 50 = .ok (.aload_n 1, 1) := by decide +kernel
theorem dX1_remember_51 : decode cX1_remember 51 = .ok (.aastore, 1) := by decide +kernel
theorem dX1_remember_52 : decode cX1_remember 52 = .ok (.aload_n 0, 1) := by decide +kernel
theorem dX1_remember_53 : decode cX1_remember 53 = .ok (.bipush 13, 2) := by decide +kernel
theorem dX1_remember_55 : decode cX1_remember 55 = .ok (.putfield 23, 3) := by decide +kernel
theorem dX1_remember_58 : decode cX1_remember 58 = .ok (.aload_n 0, 1) := by decide +kernel
theorem dX1_remember_59 : decode cX1_remember 59 = .ok (.getfield 19, 3) := by decide +kernel
theorem dX1_remember_62 : decode cX1_remember 62 = .ok (.aload_n 0, 1) := by decide +kernel
theorem dX1_remember_63 : decode cX1_remember 63 = .ok (.getfield 23, 3) := by decide +kernel
theorem dX1_remember_66 : decode cX1_remember 66 = .ok (.aaload, 1) := by decide +kernel
theorem dX1_remember_67 : decode cX1_remember 67 = .ok (.aload_n 0, 1) := by decide +kernel
theorem dX1_remember_68 : decode cX1_remember 68 = .ok (.getfield 10, 3) := by decide +kernel
theorem dX1_remember_71 : decode cX1_remember 71 = .ok (.invokevirtual 60, 3) := by decide +kernel
theorem dX1_remember_74 : decode cX1_remember 74 = .ok (.aload_n 0, 1) := by decide +kernel
theorem dX1_remember_75 : decode cX1_remember 75 = .ok (.dup, 1) := by decide +kernel
theorem dX1_remember_76 : decode cX1_remember 76 = .ok (.getfield 23, 3) := by decide +kernel
theorem dX1_remember_79 : decode cX1_remember 79 = .ok (.iconst 1, 1) := by decide +kernel
theorem dX1_remember_80 : decode cX1_remember 80 = .ok (.iadd, 1) := by decide +kernel
theorem dX1_remember_81 : decode cX1_remember 81 = .ok (.putfield 23, 3) := by decide +kernel
theorem dX1_remember_84 : decode cX1_remember 84 = .ok (.return_, 1) := by decide +kernel
set_option maxRecDepth 20000 in
theorem ggX1_readText_X1_readHead : GoodIn wsX1_readText wsX1_readHead := goodIn_r _ [8, 1, 2, 3, 9, 10, 11, 12, 13, 14, 7, 15, 16, 17, 18, 19, 20, 21, 22, 23, 24, 25, 26, 27, 28, 29, 30, 31, 32, 33, 125, 126, 127, 128, 129, 130, 131, 132, 133, 134, 135, 136, 137, 138, 139, 140, 141, 142, 143, 144, 145, 146, 147, 148, 149, 150, 151] (by decide +kernel) (by decide +kernel)
set_option maxRecDepth 20000 in
theorem gX1_readText_X1_readHead : GoodIn wsX1_readText (wsV RX1 203 RX1 yX1_readHead wsX1_readHead) := goodIn_app (goodIn_of _ (by decide +kernel)) ggX1_readText_X1_readHead
set_option maxRecDepth 20000 in
theorem ggX1_readText_X0_enter : GoodIn wsX1_readText wsX0_enter := goodIn_r _ [37, 29, 38, 7, 39, 40, 41, 42, 19, 43, 31, 21, 32, 44, 45, 46, 47, 48, 49, 50, 51, 52, 53, 54, 55, 56, 57, 58, 59, 60, 138, 139, 140, 141, 142, 143, 144, 145, 146, 147, 148, 149, 150, 151] (by decide +kernel) (by decide +kernel)
set_option maxRecDepth 20000 in
theorem gX1_readText_X0_enter : GoodIn wsX1_readText (wsV RX1 127 RX0 yX0_enter wsX0_enter) := goodIn_app (goodIn_of _ (by decide +kernel)) ggX1_readText_X0_enter
set_option maxRecDepth 20000 in
theorem ggX1_readText_X0_depart : GoodIn wsX1_readText wsX0_depart := goodIn_r _ [64, 29, 33, 38, 7, 39, 65, 66, 67, 19, 68, 30, 69, 70, 71, 72, 73, 74, 75, 76, 77, 78, 79, 23, 25, 26, 27, 28, 31, 32, 80, 81, 82, 83, 84, 85, 86, 87, 24, 88, 89, 90, 91, 21, 50, 51, 52, 53, 92, 93, 94, 95, 40, 41, 42, 43, 44, 45, 46, 47, 48, 49, 54, 55, 56, 57, 58, 59, 60, 138, 139, 140, 141, 142, 143, 144, 145, 146, 147, 148, 149, 150, 151] (by decide +kernel) (by decide +kernel)
set_option maxRecDepth 20000 in
theorem gX1_readText_X0_depart : GoodIn wsX1_readText (wsV RX1 130 RX0 yX0_depart wsX0_depart) := goodIn_app (goodIn_of _ (by decide +kernel)) ggX1_readText_X0_depart
set_option maxRecDepth 20000 in
theorem ggX1_readText_X1_isFigure : GoodIn wsX1_readText wsX1_isFigure := goodIn_r _ [15] (by decide +kernel) (by decide +kernel)
set_option maxRecDepth 20000 in
theorem gX1_readText_X1_isFigure : GoodIn wsX1_readText (va_wsS RX1 206 yX1_isFigure wsX1_isFigure) := goodIn_app (goodIn_of _ (by decide +kernel)) ggX1_readText_X1_isFigure
set_option maxRecDepth 20000 in
theorem ggX1_readText_X0_run : GoodIn wsX1_readText wsX0_run := goodIn_r _ [99, 21, 29, 32, 30, 100, 101, 102, 19, 103, 22, 23, 104, 105, 106, 107, 33, 31, 65, 66, 67, 68, 69, 70, 71, 72, 73, 74, 75, 44, 45, 46, 47, 48, 49, 50, 51, 52, 53, 54, 55, 56, 57, 58, 59, 60, 76, 77, 78, 79, 25, 26, 27, 28, 80, 81, 82, 83, 84, 85, 86, 87, 24, 88, 89, 90, 91, 92, 93, 94, 95, 108, 109, 110, 111, 112, 113, 114, 115, 116, 138, 139, 140, 141, 142, 143, 144, 145, 146, 147, 148, 149, 150, 151] (by decide +kernel) (by decide +kernel)
set_option maxRecDepth 20000 in
theorem gX1_readText_X0_run : GoodIn wsX1_readText (wsV RX1 133 RX0 yX0_run wsX0_run) := goodIn_app (goodIn_of _ (by decide +kernel)) ggX1_readText_X0_run
set_option maxRecDepth 20000 in
theorem ggX1_readText_X1_canBegin : GoodIn wsX1_readText wsX1_canBegin := goodIn_r _ [120, 3, 121, 122, 123, 19, 124, 29, 125, 126, 127, 128, 129, 130, 131, 132, 133, 134, 135, 136, 137, 138, 139, 140, 141, 142, 143, 144, 145, 146, 147, 148, 149, 150, 151] (by decide +kernel) (by decide +kernel)
set_option maxRecDepth 20000 in
theorem gX1_readText_X1_canBegin : GoodIn wsX1_readText (wsV RX1 209 RX1 yX1_canBegin wsX1_canBegin) := goodIn_app (goodIn_of _ (by decide +kernel)) ggX1_readText_X1_canBegin
theorem dX1_readText_0 : decode cX1_readText 0 = .ok (.aload_n 0, 1) := by decide +kernel
theorem dX1_readText_1 : decode cX1_readText 1 = .ok (.invokevirtual 203, 3) := by decide +kernel
theorem dX1_readText_4 : decode cX1_readText 4 = .ok (.istore_n 1, 1) := by decide +kernel
theorem dX1_readText_5 : decode cX1_readText 5 = .ok (.iload_n 1, 1) := by decide +kernel
theorem dX1_readText_6 : decode cX1_readText 6 = .ok (.bipush (-9), 2) := by decide +kernel
theorem dX1_readText_8 : decode cX1_readText 8 = .ok (.if_icmp .eq 5, 3) := by decide +kernel
theorem dX1_readText_11 : decode cX1_readText 11 = .ok (.iload_n 1, 1) := by decide +kernel
theorem dX1_readText_12 : decode cX1_readText 12 = .ok (.ireturn, 1) := by decide +kernel
theorem dX1_readText_13 : decode cX1_readText 13 = .ok (.iconst 0, 1) := by decide +kernel
theorem dX1_readText_14 : decode cX1_readText 14 = .ok (.istore_n 2, 1) := by decide +kernel
theorem dX1_readText_15 : decode cX1_readText 15 = .ok (.bipush 7, 2) := by decide +kernel
theorem dX1_readText_17 : decode cX1_readText 17 = .ok (.istore_n 3, 1) := by decide +kernel
theorem dX1_readText_18 : decode cX1_readText 18 = .ok (.iload_n 3, 1) := by decide +kernel
theorem dX1_readText_19 : decode cX1_readText 19 = .ok (.aload_n 0, 1) := by decide +kernel
theorem dX1_readText_20 : decode cX1_readText 20 = .ok (.getfield 37, 3) := by decide +kernel
theorem dX1_readText_23 : decode cX1_readText 23 = .ok (.if_icmp .ge 111, 3) := by decide +kernel
theorem dX1_readText_26 : decode cX1_readText 26 = .ok (.aload_n 0, 1) := by decide +kernel
theorem dX1_readText_27 : decode cX1_readText 27 = .ok (.getfield 33, 3) := by decide +kernel
theorem dX1_readText_30 : decode cX1_readText 30 = .ok (.iload_n 3, 1) := by decide +kernel
theorem dX1_readText_31 : decode cX1_readText 31 = .ok (.iaload, 1) := by decide +kernel
theorem dX1_readText_32 : decode cX1_readText 32 = .ok (.istore 4, 2) := by decide +kernel
theorem dX1_readText_34 : decode cX1_readText 34 = .ok (.iload_n 2, 1) := by decide +kernel
theorem dX1_readText_35 : decode cX1_readText 35 = .ok (.ifCond .eq 51, 3) := by decide +kernel
theorem dX1_readText_38 : decode cX1_readText 38 = .ok (.iload 4, 2) := by decide +kernel
theorem dX1_readText_40 : decode cX1_readText 40 = .ok (.bipush 48, 2) := by decide +kernel
theorem dX1_readText_42 : decode cX1_readText 42 = .ok (.isub, 1) := by decide +kernel
theorem dX1_readText_43 : decode cX1_readText 43 = .ok (.istore 5, 2) := by decide +kernel
theorem dX1_readText_45 : decode cX1_readText 45 = .ok (.iload_n 2, 1) := by decide +kernel
theorem dX1_readText_46 : decode cX1_readText 46 = .ok (.bipush 106, 2) := by decide +kernel
theorem dX1_readText_48 : decode cX1_readText 48 = .ok (.if_icmp .ne 15, 3) := by decide +kernel
theorem dX1_readText_51 : decode cX1_readText 51 = .ok (.aload_n 0, 1) := by decide +kernel
theorem dX1_readText_52 : decode cX1_readText 52 = .ok (.getfield 16, 3) := by decide +kernel
theorem dX1_readText_55 : decode cX1_readText 55 = .ok (.iload 5, 2) := by decide +kernel
theorem dX1_readText_57 : decode cX1_readText 57 = .ok (.invokevirtual 127, 3) := by decide +kernel
theorem dX1_readText_60 : decode cX1_readText 60 = .ok (.goto 12, 3) := by decide +kernel
theorem dX1_readText_63 : decode cX1_readText 63 = .ok (.aload_n 0, 1) := by decide +kernel
theorem dX1_readText_64 : decode cX1_readText 64 = .ok (.getfield 16, 3) := by decide +kernel
theorem dX1_readText_67 : decode cX1_readText 67 = .ok (.iload 5, 2) := by decide +kernel
theorem dX1_readText_69 : decode cX1_readText 69 = .ok (.invokevirtual 130, 3) := by decide +kernel
theorem dX1_readText_72 : decode cX1_readText 72 = .ok (.istore 6, 2) := by decide +kernel
theorem dX1_readText_74 : decode cX1_readText 74 = .ok (.iload 6, 2) := by decide +kernel
theorem dX1_readText_76 : decode cX1_readText 76 = .ok (.ifCond .ne 5, 3) := by decide +kernel
theorem dX1_readText_79 : decode cX1_readText 79 = .ok (.iload_n 3, 1) := by decide +kernel
theorem dX1_readText_80 : decode cX1_readText 80 = .ok (.ireturn, 1) := by decide +kernel
theorem dX1_readText_81 : decode cX1_readText 81 = .ok (.iconst 0, 1) := by decide +kernel
theorem dX1_readText_82 : decode cX1_readText 82 = .ok (.istore_n 2, 1) := by decide +kernel
theorem dX1_readText_83 : decode cX1_readText 83 = .ok (.goto 45, 3) := by decide +kernel
theorem dX1_readText_86 : decode cX1_readText 86 = .ok (.iload 4, 2) := by decide +kernel
theorem dX1_readText_88 : decode cX1_readText 88 = .ok (.iconst 1, 1) := by decide +kernel
theorem dX1_readText_89 : decode cX1_readText 89 = .ok (.invokestatic 206, 3) := by decide +kernel
theorem dX1_readText_92 : decode cX1_readText 92 = .ok (.ifCond .eq 19, 3) := by decide +kernel
theorem dX1_readText_95 : decode cX1_readText 95 = .ok (.aload_n 0, 1) := by decide +kernel
theorem dX1_readText_96 : decode cX1_readText 96 = .ok (.getfield 16, 3) := by decide +kernel
theorem dX1_readText_99 : decode cX1_readText 99 = .ok (.iload 4, 2) := by decide +kernel
theorem dX1_readText_101 : decode cX1_readText 101 = .ok (.bipush 48, 2) := by decide +kernel
theorem dX1_readText_103 : decode cX1_readText 103 = .ok (.isub, 1) := by decide +kernel
theorem dX1_readText_104 : decode cX1_readText 104 = .ok (.invokevirtual 133, 3) := by decide +kernel
theorem dX1_readText_107 : decode cX1_readText 107 = .ok (.pop, 1) := by decide +kernel
theorem dX1_readText_108 : decode cX1_readText 108 = .ok (.goto 20, 3) := by decide +kernel
theorem dX1_readText_111 : decode cX1_readText 111 = .ok (.aload_n 0, 1) := by decide +kernel
theorem dX1_readText_112 : decode cX1_readText 112 = .ok (.iload 4, 2) := by decide +kernel
theorem dX1_readText_114 : decode cX1_readText 114 = .ok (.invokevirtual 209, 3) := by decide +kernel
theorem dX1_readText_117 : decode cX1_readText 117 = .ok (.ifCond .eq 9, 3) := by decide +kernel
theorem dX1_readText_120 : decode cX1_readText 120 = .ok (.iload 4, 2) := by decide +kernel
theorem dX1_readText_122 : decode cX1_readText 122 = .ok (.istore_n 2, 1) := by decide +kernel
theorem dX1_readText_123 : decode cX1_readText 123 = .ok (.goto 5, 3) := by decide +kernel
theorem dX1_readText_126 : decode cX1_readText 126 = .ok (.iload_n 3, 1) := by decide +kernel
theorem dX1_readText_127 : decode cX1_readText 127 = .ok (.ireturn, 1) := by decide +kernel
theorem dX1_readText_128 : decode cX1_readText 128 = .ok (.iinc 3 1, 3) := by decide +kernel
theorem dX1_readText_131 : decode cX1_readText 131 = .ok (.goto (-113), 3) := by decide +kernel
theorem dX1_readText_134 : decode cX1_readText 134 = .ok (.iload_n 2, 1) := by decide +kernel
theorem dX1_readText_135 : decode cX1_readText 135 = .ok (.ifCond .ne 8, 3) := by decide +kernel
theorem dX1_readText_138 : decode cX1_readText 138 = .ok (.bipush (-9), 2) := by decide +kernel
theorem dX1_readText_140 : decode cX1_readText 140 = .ok (.goto 7, 3) := by decide +kernel
theorem dX1_readText_143 : decode cX1_readText 143 = .ok (.aload_n 0, 1) := by decide +kernel
theorem dX1_readText_144 : decode cX1_readText 144 = .ok (.getfield 37, 3) := by decide +kernel
theorem dX1_readText_147 : decode cX1_readText 147 = .ok (.ireturn, 1) := by decide +kernel
set_option maxRecDepth 20000 in
theorem ggX1_readHead_X1_isFigure : GoodIn wsX1_readHead wsX1_isFigure := goodIn_r _ [11] (by decide +kernel) (by decide +kernel)
set_option maxRecDepth 20000 in
theorem gX1_readHead_X1_isFigure : GoodIn wsX1_readHead (va_wsS RX1 206 yX1_isFigure wsX1_isFigure) := goodIn_app (goodIn_of _ (by decide +kernel)) ggX1_readHead_X1_isFigure
set_option maxRecDepth 20000 in
theorem ggX1_readHead_X0_restart : GoodIn wsX1_readHead wsX0_restart := goodIn_r _ [16, 17, 18, 19, 20, 21, 22, 23, 15, 24, 25, 26, 27, 28, 29, 43, 44, 45, 46, 47, 48, 49, 50, 51, 52, 53, 54, 55, 56] (by decide +kernel) (by decide +kernel)
set_option maxRecDepth 20000 in
theorem gX1_readHead_X0_restart : GoodIn wsX1_readHead (wsV RX1 212 RX0 yX0_restart wsX0_restart) := goodIn_app (goodIn_of _ (by decide +kernel)) ggX1_readHead_X0_restart
theorem dX1_readHead_0 : decode cX1_readHead 0 = .ok (.iconst 0, 1) := by decide +kernel
theorem dX1_readHead_1 : decode cX1_readHead 1 = .ok (.istore_n 1, 1) := by decide +kernel
theorem dX1_readHead_2 : decode cX1_readHead 2 = .ok (.iload_n 1, 1) := by decide +kernel
theorem dX1_readHead_3 : decode cX1_readHead 3 = .ok (.bipush 7, 2) := by decide +kernel
theorem dX1_readHead_5 : decode cX1_readHead 5 = .ok (.if_icmp .ge 71, 3) := by decide +kernel
theorem dX1_readHead_8 : decode cX1_readHead 8 = .ok (.iload_n 1, 1) := by decide +kernel
theorem dX1_readHead_9 : decode cX1_readHead 9 = .ok (.aload_n 0, 1) := by decide +kernel
theorem dX1_readHead_10 : decode cX1_readHead 10 = .ok (.getfield 37, 3) := by decide +kernel
theorem dX1_readHead_13 : decode cX1_readHead 13 = .ok (.if_icmp .lt 8, 3) := by decide +kernel
theorem dX1_readHead_16 : decode cX1_readHead 16 = .ok (.aload_n 0, 1) := by decide +kernel
theorem dX1_readHead_17 : decode cX1_readHead 17 = .ok (.getfield 37, 3) := by decide +kernel
theorem dX1_readHead_20 : decode cX1_readHead 20 = .ok (.ireturn, 1) := by decide +kernel
theorem dX1_readHead_21 : decode cX1_readHead 21 = .ok (.iload_n 1, 1) := by decide +kernel
theorem dX1_readHead_22 : decode cX1_readHead 22 = .ok (.ifCond .ne 22, 3) := by decide +kernel
theorem dX1_readHead_25 : decode cX1_readHead 25 = .ok (.aload_n 0, 1) := by decide +kernel
theorem dX1_readHead_26 : decode cX1_readHead 26 = .ok (.getfield 33, 3) := by decide +kernel
theorem dX1_readHead_29 : decode cX1_readHead 29 = .ok (.iconst 0, 1) := by decide +kernel
theorem dX1_readHead_30 : decode cX1_readHead 30 = .ok (.iaload, 1) := by decide +kernel
theorem dX1_readHead_31 : decode cX1_readHead 31 = .ok (.bipush 77, 2) := by decide +kernel
theorem dX1_readHead_33 : decode cX1_readHead 33 = .ok (.if_icmp .ne 7, 3) := by decide +kernel
theorem dX1_readHead_36 : decode cX1_readHead 36 = .ok (.iconst 1, 1) := by decide +kernel
theorem dX1_readHead_37 : decode cX1_readHead 37 = .ok (.goto 26, 3) := by decide +kernel
theorem dX1_readHead_40 : decode cX1_readHead 40 = .ok (.iconst 0, 1) := by decide +kernel
theorem dX1_readHead_41 : decode cX1_readHead 41 = .ok (.goto 22, 3) := by decide +kernel
theorem dX1_readHead_44 : decode cX1_readHead 44 = .ok (.aload_n 0, 1) := by decide +kernel
theorem dX1_readHead_45 : decode cX1_readHead 45 = .ok (.getfield 33, 3) := by decide +kernel
theorem dX1_readHead_48 : decode cX1_readHead 48 = .ok (.iload_n 1, 1) := by decide +kernel
theorem dX1_readHead_49 : decode cX1_readHead 49 = .ok (.iaload, 1) := by decide +kernel
theorem dX1_readHead_50 : decode cX1_readHead 50 = .ok (.iload_n 1, 1) := by decide +kernel
theorem dX1_readHead_51 : decode cX1_readHead 51 = .ok (.iconst 4, 1) := by decide +kernel
theorem dX1_readHead_52 : decode cX1_readHead 52 = .ok (.if_icmp .ge 7, 3) := by decide +kernel
theorem dX1_readHead_55 : decode cX1_readHead 55 = .ok (.iconst 1, 1) := by decide +kernel
theorem dX1_readHead_56 : decode cX1_readHead 56 = .ok (.goto 4, 3) := by decide +kernel
theorem dX1_readHead_59 : decode cX1_readHead 59 = .ok (.iconst 0, 1) := by decide +kernel
theorem dX1_readHead_60 : decode cX1_readHead 60 = .ok (.invokestatic 206, 3) := by decide +kernel
theorem dX1_readHead_63 : decode cX1_readHead 63 = .ok (.istore_n 2, 1) := by decide +kernel
theorem dX1_readHead_64 : decode cX1_readHead 64 = .ok (.iload_n 2, 1) := by decide +kernel
theorem dX1_readHead_65 : decode cX1_readHead 65 = .ok (.ifCond .ne 5, 3) := by decide +kernel
theorem dX1_readHead_68 : decode cX1_readHead 68 = .ok (.iload_n 1, 1) := by decide +kernel
theorem dX1_readHead_69 : decode cX1_readHead 69 = .ok (.ireturn, 1) := by decide +kernel
theorem dX1_readHead_70 : decode cX1_readHead 70 = .ok (.iinc 1 1, 3) := by decide +kernel
theorem dX1_readHead_73 : decode cX1_readHead 73 = .ok (.goto (-71), 3) := by decide +kernel
theorem dX1_readHead_76 : decode cX1_readHead 76 = .ok (.aload_n 0, 1) := by decide +kernel
theorem dX1_readHead_77 : decode cX1_readHead 77 = .ok (.getfield 16, 3) := by decide +kernel
theorem dX1_readHead_80 : decode cX1_readHead 80 = .ok (.invokevirtual 212, 3) := by decide +kernel
theorem dX1_readHead_83 : decode cX1_readHead 83 = .ok (.aload_n 0, 1) := by decide +kernel
theorem dX1_readHead_84 : decode cX1_readHead 84 = .ok (.getfield 16, 3) := by decide +kernel
theorem dX1_readHead_87 : decode cX1_readHead 87 = .ok (.aload_n 0, 1) := by decide +kernel
theorem dX1_readHead_88 : decode cX1_readHead 88 = .ok (.getfield 33, 3) := by decide +kernel
theorem dX1_readHead_91 : decode cX1_readHead 91 = .ok (.iconst 1, 1) := by decide +kernel
theorem dX1_readHead_92 : decode cX1_readHead 92 = .ok (.iaload, 1) := by decide +kernel
theorem dX1_readHead_93 : decode cX1_readHead 93 = .ok (.bipush 48, 2) := by decide +kernel
theorem dX1_readHead_95 : decode cX1_readHead 95 = .ok (.isub, 1) := by decide +kernel
theorem dX1_readHead_96 : decode cX1_readHead 96 = .ok (.putfield 67, 3) := by decide +kernel
theorem dX1_readHead_99 : decode cX1_readHead 99 = .ok (.aload_n 0, 1) := by decide +kernel
theorem dX1_readHead_100 : decode cX1_readHead 100 = .ok (.getfield 16, 3) := by decide +kernel
theorem dX1_readHead_103 : decode cX1_readHead 103 = .ok (.aload_n 0, 1) := by decide +kernel
theorem dX1_readHead_104 : decode cX1_readHead 104 = .ok (.getfield 33, 3) := by decide +kernel
theorem dX1_readHead_107 : decode cX1_readHead 107 = .ok (.iconst 2, 1) := by decide +kernel
theorem dX1_readHead_108 : decode cX1_readHead 108 = .ok (.iaload, 1) := by decide +kernel
theorem dX1_readHead_109 : decode cX1_readHead 109 = .ok (.bipush 48, 2) := by decide +kernel
theorem dX1_readHead_111 : decode cX1_readHead 111 = .ok (.isub, 1) := by decide +kernel
theorem dX1_readHead_112 : decode cX1_readHead 112 = .ok (.putfield 70, 3) := by decide +kernel
theorem dX1_readHead_115 : decode cX1_readHead 115 = .ok (.aload_n 0, 1) := by decide +kernel
theorem dX1_readHead_116 : decode cX1_readHead 116 = .ok (.getfield 16, 3) := by decide +kernel
theorem dX1_readHead_119 : decode cX1_readHead 119 = .ok (.aload_n 0, 1) := by decide +kernel
theorem dX1_readHead_120 : decode cX1_readHead 120 = .ok (.getfield 33, 3) := by decide +kernel
theorem dX1_readHead_123 : decode cX1_readHead 123 = .ok (.iconst 3, 1) := by decide +kernel
theorem dX1_readHead_124 : decode cX1_readHead 124 = .ok (.iaload, 1) := by decide +kernel
theorem dX1_readHead_125 : decode cX1_readHead 125 = .ok (.bipush 48, 2) := by decide +kernel
theorem dX1_readHead_127 : decode cX1_readHead 127 = .ok (.isub, 1) := by decide +kernel
theorem dX1_readHead_128 : decode cX1_readHead 128 = .ok (.putfield 73, 3) := by decide +kernel
theorem dX1_readHead_131 : decode cX1_readHead 131 = .ok (.aload_n 0, 1) := by decide +kernel
theorem dX1_readHead_132 : decode cX1_readHead 132 = .ok (.getfield 16, 3) := by decide +kernel
theorem dX1_readHead_135 : decode cX1_readHead 135 = .ok (.aload_n 0, 1) := by decide +kernel
theorem dX1_readHead_136 : decode cX1_readHead 136 = .ok (.getfield 33, 3) := by decide +kernel
theorem dX1_readHead_139 : decode cX1_readHead 139 = .ok (.iconst 4, 1) := by decide +kernel
theorem dX1_readHead_140 : decode cX1_readHead 140 = .ok (.iaload, 1) := by decide +kernel
theorem dX1_readHead_141 : decode cX1_readHead 141 = .ok (.bipush 48, 2) := by decide +kernel
theorem dX1_readHead_143 : decode cX1_readHead 143 = .ok (.isub, 1) := by decide +kernel
theorem dX1_readHead_144 : decode cX1_readHead 144 = .ok (.bipush 100, 2) := by decide +kernel
theorem dX1_readHead_146 : decode cX1_readHead 146 = .ok (.imul, 1) := by decide +kernel
theorem dX1_readHead_147 : decode cX1_readHead 147 = .ok (.aload_n 0, 1) := by decide +kernel
theorem dX1_readHead_148 : decode cX1_readHead 148 = .ok (.getfield 33, 3) := by decide +kernel
theorem dX1_readHead_151 : decode cX1_readHead 151 = .ok (.iconst 5, 1) := by decide +kernel
theorem dX1_readHead_152 : decode cX1_readHead 152 = .ok (.iaload, 1) := by decide +kernel
theorem dX1_readHead_153 : decode cX1_readHead 153 = .ok (.bipush 48, 2) := by decide +kernel
theorem dX1_readHead_155 : decode cX1_readHead 155 = .ok (.isub, 1) := by decide +kernel
theorem dX1_readHead_156 : decode cX1_readHead 156 = .ok (.bipush 10, 2) := by decide +kernel
theorem dX1_readHead_158 : decode cX1_readHead 158 = .ok (.imul, 1) := by decide +kernel
theorem dX1_readHead_159 : decode cX1_readHead 159 = .ok (.iadd, 1) := by decide +kernel
theorem dX1_readHead_160 : decode cX1_readHead 160 = .ok (.aload_n 0, 1) := by decide +kernel
theorem dX1_readHead_161 : decode cX1_readHead 161 = .ok (.getfield 33, 3) := by decide +kernel
theorem dX1_readHead_164 : decode cX1_readHead 164 = .ok (.bipush 6, 2) := by decide +kernel
theorem dX1_readHead_166 : decode cX1_readHead 166 = .ok (.iaload, 1) := by decide +kernel
theorem dX1_readHead_167 : decode cX1_readHead 167 = .ok (.bipush 48, 2) := by decide +kernel
theorem dX1_readHead_169 : decode cX1_readHead 169 = .ok (.isub, 1) := by decide +kernel
theorem dX1_readHead_170 : decode cX1_readHead 170 = .ok (.iadd, 1) := by decide +kernel
theorem dX1_readHead_171 : decode cX1_readHead 171 = .ok (.putfield 76, 3) := by decide +kernel
theorem dX1_readHead_174 : decode cX1_readHead 174 = .ok (.bipush (-9), 2) := by decide +kernel
theorem dX1_readHead_176 : decode cX1_readHead 176 = .ok (.ireturn, 1) := by decide +kernel
set_option maxRecDepth 20000 in
theorem ggX1_canBegin_X0_bitsOf : GoodIn wsX1_canBegin wsX0_bitsOf := goodIn_r _ [6, 7, 21, 22, 23, 24, 25, 26, 27, 28, 29, 30, 31, 32, 33, 34] (by decide +kernel) (by decide +kernel)
set_option maxRecDepth 20000 in
theorem gX1_canBegin_X0_bitsOf : GoodIn wsX1_canBegin (wsV RX1 85 RX0 yX0_bitsOf wsX0_bitsOf) := goodIn_app (goodIn_of _ (by decide +kernel)) ggX1_canBegin_X0_bitsOf
theorem dX1_canBegin_0 : decode cX1_canBegin 0 = .ok (.iload_n 1, 1) := by decide +kernel
theorem dX1_canBegin_1 : decode cX1_canBegin 1 = .ok (.bipush 106, 2) := by decide +kernel
theorem dX1_canBegin_3 : decode cX1_canBegin 3 = .ok (.if_icmp .ne 14, 3) := by decide +kernel
theorem dX1_canBegin_6 : decode cX1_canBegin 6 = .ok (.aload_n 0, 1) := by decide +kernel
theorem dX1_canBegin_7 : decode cX1_canBegin 7 = .ok (.getfield 16, 3) := by decide +kernel
theorem dX1_canBegin_10 : decode cX1_canBegin 10 = .ok (.iconst 0, 1) := by decide +kernel
theorem dX1_canBegin_11 : decode cX1_canBegin 11 = .ok (.invokevirtual 85, 3) := by decide +kernel
theorem dX1_canBegin_14 : decode cX1_canBegin 14 = .ok (.ifCond .ne 20, 3) := by decide +kernel
theorem dX1_canBegin_17 : decode cX1_canBegin 17 = .ok (.iload_n 1, 1) := by decide +kernel
theorem dX1_canBegin_18 : decode cX1_canBegin 18 = .ok (.bipush 108, 2) := by decide +kernel
theorem dX1_canBegin_20 : decode cX1_canBegin 20 = .ok (.if_icmp .ne 18, 3) := by decide +kernel
theorem dX1_canBegin_23 : decode cX1_canBegin 23 = .ok (.aload_n 0, 1) := by decide +kernel
theorem dX1_canBegin_24 : decode cX1_canBegin 24 = .ok (.getfield 16, 3) := by decide +kernel
theorem dX1_canBegin_27 : decode cX1_canBegin 27 = .ok (.iconst 1, 1) := by decide +kernel
theorem dX1_canBegin_28 : decode cX1_canBegin 28 = .ok (.invokevirtual 85, 3) := by decide +kernel
theorem dX1_canBegin_31 : decode cX1_canBegin 31 = .ok (.ifCond .eq 7, 3) := by decide +kernel
theorem dX1_canBegin_34 : decode cX1_canBegin 34 = .ok (.iconst 1, 1) := by decide +kernel
theorem dX1_canBegin_35 : decode cX1_canBegin 35 = .ok (.goto 4, 3) := by decide +kernel
theorem dX1_canBegin_38 : decode cX1_canBegin 38 = .ok (.iconst 0, 1) := by decide +kernel
theorem dX1_canBegin_39 : decode cX1_canBegin 39 = .ok (.ireturn, 1) := by decide +kernel
set_option maxRecDepth 20000 in
theorem ggX1_restAt_X0_takeFrom : GoodIn wsX1_restAt wsX0_takeFrom := goodIn_r _ [7, 8, 9, 10, 11, 12, 13, 14, 15, 16, 17, 18, 19, 20, 21, 22, 23, 24, 25, 115, 116, 117, 118, 119, 120, 121, 122, 123, 124, 125, 126, 127, 128] (by decide +kernel) (by decide +kernel)
set_option maxRecDepth 20000 in
theorem gX1_restAt_X0_takeFrom : GoodIn wsX1_restAt (wsV RX1 60 RX0 yX0_takeFrom wsX0_takeFrom) := goodIn_app (goodIn_of _ (by decide +kernel)) ggX1_restAt_X0_takeFrom
set_option maxRecDepth 20000 in
theorem ggX1_restAt_X0_isAtRest : GoodIn wsX1_restAt wsX0_isAtRest := goodIn_r _ [29, 15, 20, 30, 31, 32, 6, 33, 115, 116, 117, 118, 119, 120, 121, 122, 123, 124, 125, 126, 127, 128] (by decide +kernel) (by decide +kernel)
set_option maxRecDepth 20000 in
theorem gX1_restAt_X0_isAtRest : GoodIn wsX1_restAt (wsV RX1 215 RX0 yX0_isAtRest wsX0_isAtRest) := goodIn_app (goodIn_of _ (by decide +kernel)) ggX1_restAt_X0_isAtRest
set_option maxRecDepth 20000 in
theorem ggX1_restAt_X0_run : GoodIn wsX1_restAt wsX0_run := goodIn_r _ [37, 11, 15, 22, 20, 38, 39, 40, 6, 41, 13, 14, 42, 43, 44, 45, 23, 21, 46, 47, 48, 49, 50, 51, 52, 53, 54, 55, 56, 57, 58, 59, 60, 12, 61, 62, 63, 64, 65, 66, 67, 68, 69, 9, 10, 8, 70, 71, 72, 73, 74, 75, 76, 77, 78, 79, 80, 81, 82, 83, 84, 85, 24, 86, 87, 88, 89, 90, 91, 92, 93, 94, 95, 96, 97, 25, 98, 99, 100, 101, 115, 116, 117, 118, 119, 120, 121, 122, 123, 124, 125, 126, 127, 128] (by decide +kernel) (by decide +kernel)
set_option maxRecDepth 20000 in
theorem gX1_restAt_X0_run : GoodIn wsX1_restAt (wsV RX1 133 RX0 yX0_run wsX0_run) := goodIn_app (goodIn_of _ (by decide +kernel)) ggX1_restAt_X0_run
theorem dX1_restAt_0 : decode cX1_restAt 0 = .ok (.aload_n 0, 1) := by decide +kernel
theorem dX1_restAt_1 : decode cX1_restAt 1 = .ok (.getfield 16, 3) := by decide +kernel
theorem dX1_restAt_4 : decode cX1_restAt 4 = .ok (.aload_n 0, 1) := by decide +kernel
theorem dX1_restAt_5 : decode cX1_restAt 5 = .ok (.getfield 10, 3) := by decide +kernel
theorem dX1_restAt_8 : decode cX1_restAt 8 = .ok (.invokevirtual 60, 3) := by decide +kernel
theorem dX1_restAt_11 : decode cX1_restAt 11 = .ok (.iconst 0, 1) := by decide +kernel
theorem dX1_restAt_12 : decode cX1_restAt 12 = .ok (.istore_n 1, 1) := by decide +kernel
theorem dX1_restAt_13 : decode cX1_restAt 13 = .ok (.iload_n 1, 1) := by decide +kernel
theorem dX1_restAt_14 : decode cX1_restAt 14 = .ok (.bipush 99, 2) := by decide +kernel
theorem dX1_restAt_16 : decode cX1_restAt 16 = .ok (.if_icmp .gt 30, 3) := by decide +kernel
theorem dX1_restAt_19 : decode cX1_restAt 19 = .ok (.aload_n 0, 1) := by decide +kernel
theorem dX1_restAt_20 : decode cX1_restAt 20 = .ok (.getfield 16, 3) := by decide +kernel
theorem dX1_restAt_23 : decode cX1_restAt 23 = .ok (.invokevirtual 215, 3) := by decide +kernel
theorem dX1_restAt_26 : decode cX1_restAt 26 = .ok (.ifCond .eq 5, 3) := by decide +kernel
theorem dX1_restAt_29 : decode cX1_restAt 29 = .ok (.iload_n 1, 1) := by decide +kernel
theorem dX1_restAt_30 : decode cX1_restAt 30 = .ok (.ireturn, 1) := by decide +kernel
theorem dX1_restAt_31 : decode cX1_restAt 31 = .ok (.aload_n 0, 1) := by decide +kernel
theorem dX1_restAt_32 : decode cX1_restAt 32 = .ok (.getfield 16, 3) := by decide +kernel
theorem dX1_restAt_35 : decode cX1_restAt 35 = .ok (.iconst 1, 1) := by decide +kernel
theorem dX1_restAt_36 : decode cX1_restAt 36 = .ok (.invokevirtual 133, 3) := by decide +kernel
theorem dX1_restAt_39 : decode cX1_restAt 39 = .ok (.pop, 1) := by decide +kernel
theorem dX1_restAt_40 : decode cX1_restAt 40 = .ok (.iinc 1 1, 3) := by decide +kernel
theorem dX1_restAt_43 : decode cX1_restAt 43 = .ok (.goto (-30), 3) := by decide +kernel
theorem dX1_restAt_46 : decode cX1_restAt 46 = .ok (.bipush (-9), 2) := by decide +kernel
theorem dX1_restAt_48 : decode cX1_restAt 48 = .ok (.ireturn, 1) := by decide +kernel
set_option maxRecDepth 20000 in
theorem ggX1_canBe_X0_enter : GoodIn wsX1_canBe wsX0_enter := goodIn_r _ [7, 8, 9, 10, 11, 12, 13, 14, 6, 15, 16, 17, 18, 19, 20, 21, 22, 23, 24, 25, 26, 27, 28, 29, 30, 31, 32, 33, 34, 35, 124, 125, 126, 127, 128, 129, 130, 131, 132, 133, 134, 135, 136, 137] (by decide +kernel) (by decide +kernel)
set_option maxRecDepth 20000 in
theorem gX1_canBe_X0_enter : GoodIn wsX1_canBe (wsV RX1 127 RX0 yX0_enter wsX0_enter) := goodIn_app (goodIn_of _ (by decide +kernel)) ggX1_canBe_X0_enter
set_option maxRecDepth 20000 in
theorem ggX1_canBe_X0_depart : GoodIn wsX1_canBe wsX0_depart := goodIn_r _ [39, 8, 40, 9, 10, 11, 41, 42, 43, 6, 44, 45, 46, 47, 48, 49, 50, 51, 52, 53, 54, 55, 56, 57, 58, 59, 60, 61, 16, 18, 62, 63, 64, 65, 66, 67, 68, 69, 70, 71, 72, 73, 74, 17, 25, 26, 27, 28, 75, 76, 77, 78, 12, 13, 14, 15, 19, 20, 21, 22, 23, 24, 29, 30, 31, 32, 33, 34, 35, 124, 125, 126, 127, 128, 129, 130, 131, 132, 133, 134, 135, 136, 137] (by decide +kernel) (by decide +kernel)
set_option maxRecDepth 20000 in
theorem gX1_canBe_X0_depart : GoodIn wsX1_canBe (wsV RX1 130 RX0 yX0_depart wsX0_depart) := goodIn_app (goodIn_of _ (by decide +kernel)) ggX1_canBe_X0_depart
set_option maxRecDepth 20000 in
theorem ggX1_canBe_X0_run : GoodIn wsX1_canBe wsX0_run := goodIn_r _ [82, 17, 8, 18, 45, 83, 84, 85, 6, 86, 87, 57, 88, 89, 90, 91, 40, 16, 41, 42, 43, 44, 46, 47, 48, 49, 50, 51, 52, 19, 20, 21, 22, 23, 24, 25, 26, 27, 28, 29, 30, 31, 32, 33, 34, 35, 53, 54, 55, 56, 58, 59, 60, 61, 62, 63, 64, 65, 66, 67, 68, 69, 70, 71, 72, 73, 74, 75, 76, 77, 78, 92, 93, 94, 95, 96, 97, 98, 99, 100, 124, 125, 126, 127, 128, 129, 130, 131, 132, 133, 134, 135, 136, 137] (by decide +kernel) (by decide +kernel)
set_option maxRecDepth 20000 in
theorem gX1_canBe_X0_run : GoodIn wsX1_canBe (wsV RX1 133 RX0 yX0_run wsX0_run) := goodIn_app (goodIn_of _ (by decide +kernel)) ggX1_canBe_X0_run
set_option maxRecDepth 20000 in
theorem ggX1_canBe_X1_isMember : GoodIn wsX1_canBe wsX1_isMember := goodIn_r _ [11] (by decide +kernel) (by decide +kernel)
set_option maxRecDepth 20000 in
theorem gX1_canBe_X1_isMember : GoodIn wsX1_canBe (va_wsS RX1 92 yX1_isMember wsX1_isMember) := goodIn_app (goodIn_of _ (by decide +kernel)) ggX1_canBe_X1_isMember
set_option maxRecDepth 20000 in
theorem ggX1_canBe_X0_knows : GoodIn wsX1_canBe wsX0_knows := goodIn_r _ [78, 45, 124, 125, 126, 127, 128, 129, 130, 131, 132, 133, 134, 135, 136, 137] (by decide +kernel) (by decide +kernel)
set_option maxRecDepth 20000 in
theorem gX1_canBe_X0_knows : GoodIn wsX1_canBe (wsV RX1 114 RX0 yX0_knows wsX0_knows) := goodIn_app (goodIn_of _ (by decide +kernel)) ggX1_canBe_X0_knows
set_option maxRecDepth 20000 in
theorem ggX1_canBe_X0_countTold : GoodIn wsX1_canBe wsX0_countTold := goodIn_r _ [106, 8, 41, 42, 43, 6, 44, 45, 46, 47, 48, 49, 50, 51, 52, 124, 125, 126, 127, 128, 129, 130, 131, 132, 133, 134, 135, 136, 137] (by decide +kernel) (by decide +kernel)
set_option maxRecDepth 20000 in
theorem gX1_canBe_X0_countTold : GoodIn wsX1_canBe (wsV RX1 102 RX0 yX0_countTold wsX0_countTold) := goodIn_app (goodIn_of _ (by decide +kernel)) ggX1_canBe_X0_countTold
set_option maxRecDepth 20000 in
theorem ggX1_canBe_X0_turnWay : GoodIn wsX1_canBe wsX0_turnWay := goodIn_r _ [110, 70, 124, 125, 126, 127, 128, 129, 130, 131, 132, 133, 134, 135, 136, 137] (by decide +kernel) (by decide +kernel)
set_option maxRecDepth 20000 in
theorem gX1_canBe_X0_turnWay : GoodIn wsX1_canBe (wsV RX1 136 RX0 yX0_turnWay wsX0_turnWay) := goodIn_app (goodIn_of _ (by decide +kernel)) ggX1_canBe_X0_turnWay
theorem dX1_canBe_0 : decode cX1_canBe 0 = .ok (.iload_n 1, 1) := by decide +kernel
theorem dX1_canBe_1 : decode cX1_canBe 1 = .ok (.bipush 10, 2) := by decide +kernel
theorem dX1_canBe_3 : decode cX1_canBe 3 = .ok (.idiv, 1) := by decide +kernel
theorem dX1_canBe_4 : decode cX1_canBe 4 = .ok (.bipush 10, 2) := by decide +kernel
theorem dX1_canBe_6 : decode cX1_canBe 6 = .ok (.irem, 1) := by decide +kernel
theorem dX1_canBe_7 : decode cX1_canBe 7 = .ok (.istore_n 2, 1) := by decide +kernel
theorem dX1_canBe_8 : decode cX1_canBe 8 = .ok (.iload_n 1, 1) := by decide +kernel
theorem dX1_canBe_9 : decode cX1_canBe 9 = .ok (.bipush 10, 2) := by decide +kernel
theorem dX1_canBe_11 : decode cX1_canBe 11 = .ok (.irem, 1) := by decide +kernel
theorem dX1_canBe_12 : decode cX1_canBe 12 = .ok (.istore_n 3, 1) := by decide +kernel
theorem dX1_canBe_13 : decode cX1_canBe 13 = .ok (.iload_n 1, 1) := by decide +kernel
theorem dX1_canBe_14 : decode cX1_canBe 14 = .ok (.bipush 100, 2) := by decide +kernel
theorem dX1_canBe_16 : decode cX1_canBe 16 = .ok (.irem, 1) := by decide +kernel
theorem dX1_canBe_17 : decode cX1_canBe 17 = .ok (.istore 4, 2) := by decide +kernel
theorem dX1_canBe_19 : decode cX1_canBe 19 = .ok (.iload_n 1, 1) := by decide +kernel
theorem dX1_canBe_20 : decode cX1_canBe 20 = .ok (.bipush 100, 2) := by decide +kernel
theorem dX1_canBe_22 : decode cX1_canBe 22 = .ok (.idiv, 1) := by decide +kernel
theorem dX1_canBe_23 : decode cX1_canBe 23 = .ok (.tableswitch 229 1 7 #[41, 62, 83, 114, 140, 172, 197], 41) := by decide +kernel
theorem dX1_canBe_64 : decode cX1_canBe 64 = .ok (.iload_n 2, 1) := by decide +kernel
theorem dX1_canBe_65 : decode cX1_canBe 65 = .ok (.ifCond .ne 18, 3) := by decide +kernel
theorem dX1_canBe_68 : decode cX1_canBe 68 = .ok (.aload_n 0, 1) := by decide +kernel
theorem dX1_canBe_69 : decode cX1_canBe 69 = .ok (.getfield 16, 3) := by decide +kernel
theorem dX1_canBe_72 : decode cX1_canBe 72 = .ok (.iload_n 3, 1) := by decide +kernel
theorem dX1_canBe_73 : decode cX1_canBe 73 = .ok (.invokevirtual 127, 3) := by decide +kernel
theorem dX1_canBe_76 : decode cX1_canBe 76 = .ok (.ifCond .eq 7, 3) := by decide +kernel
theorem dX1_canBe_79 : decode cX1_canBe 79 = .ok (.iconst 1, 1) := by decide +kernel
theorem dX1_canBe_80 : decode cX1_canBe 80 = .ok (.goto 4, 3) := by decide +kernel
theorem dX1_canBe_83 : decode cX1_canBe 83 = .ok (.iconst 0, 1) := by decide +kernel
theorem dX1_canBe_84 : decode cX1_canBe 84 = .ok (.ireturn, 1) := by decide +kernel
theorem dX1_canBe_85 : decode cX1_canBe 85 = .ok (.iload_n 2, 1) := by decide +kernel
theorem dX1_canBe_86 : decode cX1_canBe 86 = .ok (.ifCond .ne 18, 3) := by decide +kernel
theorem dX1_canBe_89 : decode cX1_canBe 89 = .ok (.aload_n 0, 1) := by decide +kernel
theorem dX1_canBe_90 : decode cX1_canBe 90 = .ok (.getfield 16, 3) := by decide +kernel
theorem dX1_canBe_93 : decode cX1_canBe 93 = .ok (.iload_n 3, 1) := by decide +kernel
theorem dX1_canBe_94 : decode cX1_canBe 94 = .ok (.invokevirtual 130, 3) := by decide +kernel
theorem dX1_canBe_97 : decode cX1_canBe 97 = .ok (.ifCond .eq 7, 3) := by decide +kernel
theorem dX1_canBe_100 : decode cX1_canBe 100 = .ok (.iconst 1, 1) := by decide +kernel
theorem dX1_canBe_101 : decode cX1_canBe 101 = .ok (.goto 4, 3) := by decide +kernel
theorem dX1_canBe_104 : decode cX1_canBe 104 = .ok (.iconst 0, 1) := by decide +kernel
theorem dX1_canBe_105 : decode cX1_canBe 105 = .ok (.ireturn, 1) := by decide +kernel
theorem dX1_canBe_106 : decode cX1_canBe 106 = .ok (.iload 4, 2) := by decide +kernel
theorem dX1_canBe_108 : decode cX1_canBe 108 = .ok (.iconst 1, 1) := by decide +kernel
theorem dX1_canBe_109 : decode cX1_canBe 109 = .ok (.if_icmp .lt 26, 3) := by decide +kernel
theorem dX1_canBe_112 : decode cX1_canBe 112 = .ok (.iload 4, 2) := by decide +kernel
theorem dX1_canBe_114 : decode cX1_canBe 114 = .ok (.bipush 30, 2) := by decide +kernel
theorem dX1_canBe_116 : decode cX1_canBe 116 = .ok (.if_icmp .gt 19, 3) := by decide +kernel
theorem dX1_canBe_119 : decode cX1_canBe 119 = .ok (.aload_n 0, 1) := by decide +kernel
theorem dX1_canBe_120 : decode cX1_canBe 120 = .ok (.getfield 16, 3) := by decide +kernel
theorem dX1_canBe_123 : decode cX1_canBe 123 = .ok (.iload 4, 2) := by decide +kernel
theorem dX1_canBe_125 : decode cX1_canBe 125 = .ok (.invokevirtual 133, 3) := by decide +kernel
theorem dX1_canBe_128 : decode cX1_canBe 128 = .ok (.ifCond .lt 7, 3) := by decide +kernel
theorem dX1_canBe_131 : decode cX1_canBe 131 = .ok (.iconst 1, 1) := by decide +kernel
theorem dX1_canBe_132 : decode cX1_canBe 132 = .ok (.goto 4, 3) := by decide +kernel
theorem dX1_canBe_135 : decode cX1_canBe 135 = .ok (.iconst 0, 1) := by decide +kernel
theorem dX1_canBe_136 : decode cX1_canBe 136 = .ok (.ireturn, 1) := by decide +kernel
theorem dX1_canBe_137 : decode cX1_canBe 137 = .ok (.iload_n 2, 1) := by decide +kernel
theorem dX1_canBe_138 : decode cX1_canBe 138 = .ok (.invokestatic 92, 3) := by decide +kernel
theorem dX1_canBe_141 : decode cX1_canBe 141 = .ok (.ifCond .eq 20, 3) := by decide +kernel
theorem dX1_canBe_144 : decode cX1_canBe 144 = .ok (.aload_n 0, 1) := by decide +kernel
theorem dX1_canBe_145 : decode cX1_canBe 145 = .ok (.getfield 16, 3) := by decide +kernel
theorem dX1_canBe_148 : decode cX1_canBe 148 = .ok (.getfield 96, 3) := by decide +kernel
theorem dX1_canBe_151 : decode cX1_canBe 151 = .ok (.iload_n 2, 1) := by decide +kernel
theorem dX1_canBe_152 : decode cX1_canBe 152 = .ok (.iaload, 1) := by decide +kernel
theorem dX1_canBe_153 : decode cX1_canBe 153 = .ok (.iload_n 3, 1) := by decide +kernel
theorem dX1_canBe_154 : decode cX1_canBe 154 = .ok (.if_icmp .ne 7, 3) := by decide +kernel
theorem dX1_canBe_157 : decode cX1_canBe 157 = .ok (.iconst 1, 1) := by decide +kernel
theorem dX1_canBe_158 : decode cX1_canBe 158 = .ok (.goto 4, 3) := by decide +kernel
theorem dX1_canBe_161 : decode cX1_canBe 161 = .ok (.iconst 0, 1) := by decide +kernel
theorem dX1_canBe_162 : decode cX1_canBe 162 = .ok (.ireturn, 1) := by decide +kernel
theorem dX1_canBe_163 : decode cX1_canBe 163 = .ok (.iload_n 2, 1) := by decide +kernel
theorem dX1_canBe_164 : decode cX1_canBe 164 = .ok (.invokestatic 92, 3) := by decide +kernel
theorem dX1_canBe_167 : decode cX1_canBe 167 = .ok (.ifCond .eq 26, 3) := by decide +kernel
theorem dX1_canBe_170 : decode cX1_canBe 170 = .ok (.iload_n 3, 1) := by decide +kernel
theorem dX1_canBe_171 : decode cX1_canBe 171 = .ok (.invokestatic 92, 3) := by decide +kernel
theorem dX1_canBe_174 : decode cX1_canBe 174 = .ok (.ifCond .eq 19, 3) := by decide +kernel
theorem dX1_canBe_177 : decode cX1_canBe 177 = .ok (.aload_n 0, 1) := by decide +kernel
theorem dX1_canBe_178 : decode cX1_canBe 178 = .ok (.getfield 16, 3) := by decide +kernel
theorem dX1_canBe_181 : decode cX1_canBe 181 = .ok (.iload_n 2, 1) := by decide +kernel
theorem dX1_canBe_182 : decode cX1_canBe 182 = .ok (.iload_n 3, 1) := by decide +kernel
theorem dX1_canBe_183 : decode cX1_canBe 183 = .ok (.invokevirtual 114, 3) := by decide +kernel
theorem dX1_canBe_186 : decode cX1_canBe 186 = .ok (.ifCond .eq 7, 3) := by decide +kernel
theorem dX1_canBe_189 : decode cX1_canBe 189 = .ok (.iconst 1, 1) := by decide +kernel
theorem dX1_canBe_190 : decode cX1_canBe 190 = .ok (.goto 4, 3) := by decide +kernel
theorem dX1_canBe_193 : decode cX1_canBe 193 = .ok (.iconst 0, 1) := by decide +kernel
theorem dX1_canBe_194 : decode cX1_canBe 194 = .ok (.ireturn, 1) := by decide +kernel
theorem dX1_canBe_195 : decode cX1_canBe 195 = .ok (.iload_n 2, 1) := by decide +kernel
theorem dX1_canBe_196 : decode cX1_canBe 196 = .ok (.invokestatic 92, 3) := by decide +kernel
theorem dX1_canBe_199 : decode cX1_canBe 199 = .ok (.ifCond .eq 19, 3) := by decide +kernel
theorem dX1_canBe_202 : decode cX1_canBe 202 = .ok (.aload_n 0, 1) := by decide +kernel
theorem dX1_canBe_203 : decode cX1_canBe 203 = .ok (.getfield 16, 3) := by decide +kernel
theorem dX1_canBe_206 : decode cX1_canBe 206 = .ok (.iload_n 2, 1) := by decide +kernel
theorem dX1_canBe_207 : decode cX1_canBe 207 = .ok (.invokevirtual 102, 3) := by decide +kernel
theorem dX1_canBe_210 : decode cX1_canBe 210 = .ok (.iload_n 3, 1) := by decide +kernel
theorem dX1_canBe_211 : decode cX1_canBe 211 = .ok (.if_icmp .ne 7, 3) := by decide +kernel
theorem dX1_canBe_214 : decode cX1_canBe 214 = .ok (.iconst 1, 1) := by decide +kernel
theorem dX1_canBe_215 : decode cX1_canBe 215 = .ok (.goto 4, 3) := by decide +kernel
theorem dX1_canBe_218 : decode cX1_canBe 218 = .ok (.iconst 0, 1) := by decide +kernel
theorem dX1_canBe_219 : decode cX1_canBe 219 = .ok (.ireturn, 1) := by decide +kernel
theorem dX1_canBe_220 : decode cX1_canBe 220 = .ok (.iload_n 2, 1) := by decide +kernel
theorem dX1_canBe_221 : decode cX1_canBe 221 = .ok (.invokestatic 92, 3) := by decide +kernel
theorem dX1_canBe_224 : decode cX1_canBe 224 = .ok (.ifCond .eq 26, 3) := by decide +kernel
theorem dX1_canBe_227 : decode cX1_canBe 227 = .ok (.iload_n 3, 1) := by decide +kernel
theorem dX1_canBe_228 : decode cX1_canBe 228 = .ok (.invokestatic 92, 3) := by decide +kernel
theorem dX1_canBe_231 : decode cX1_canBe 231 = .ok (.ifCond .eq 19, 3) := by decide +kernel
theorem dX1_canBe_234 : decode cX1_canBe 234 = .ok (.aload_n 0, 1) := by decide +kernel
theorem dX1_canBe_235 : decode cX1_canBe 235 = .ok (.getfield 16, 3) := by decide +kernel
theorem dX1_canBe_238 : decode cX1_canBe 238 = .ok (.iload_n 2, 1) := by decide +kernel
theorem dX1_canBe_239 : decode cX1_canBe 239 = .ok (.iload_n 3, 1) := by decide +kernel
theorem dX1_canBe_240 : decode cX1_canBe 240 = .ok (.invokevirtual 136, 3) := by decide +kernel
theorem dX1_canBe_243 : decode cX1_canBe 243 = .ok (.ifCond .eq 7, 3) := by decide +kernel
theorem dX1_canBe_246 : decode cX1_canBe 246 = .ok (.iconst 1, 1) := by decide +kernel
theorem dX1_canBe_247 : decode cX1_canBe 247 = .ok (.goto 4, 3) := by decide +kernel
theorem dX1_canBe_250 : decode cX1_canBe 250 = .ok (.iconst 0, 1) := by decide +kernel
theorem dX1_canBe_251 : decode cX1_canBe 251 = .ok (.ireturn, 1) := by decide +kernel
theorem dX1_canBe_252 : decode cX1_canBe 252 = .ok (.iconst 0, 1) := by decide +kernel
theorem dX1_canBe_253 : decode cX1_canBe 253 = .ok (.ireturn, 1) := by decide +kernel
set_option maxRecDepth 20000 in
theorem ggX1_fitsSeen_X0_takeFrom : GoodIn wsX1_fitsSeen wsX0_takeFrom := goodIn_r _ [11, 12, 13, 14, 15, 16, 17, 18, 19, 20, 21, 22, 23, 24, 25, 26, 27, 28, 29, 111, 112, 113, 114, 115, 116, 117, 118, 119, 120, 121, 122, 123, 124] (by decide +kernel) (by decide +kernel)
set_option maxRecDepth 20000 in
theorem gX1_fitsSeen_X0_takeFrom : GoodIn wsX1_fitsSeen (wsV RX1 60 RX0 yX0_takeFrom wsX0_takeFrom) := goodIn_app (goodIn_of _ (by decide +kernel)) ggX1_fitsSeen_X0_takeFrom
set_option maxRecDepth 20000 in
theorem ggX1_fitsSeen_X0_run : GoodIn wsX1_fitsSeen wsX0_run := goodIn_r _ [33, 15, 19, 26, 24, 34, 35, 36, 10, 37, 17, 18, 38, 39, 40, 41, 27, 25, 42, 43, 44, 45, 46, 47, 48, 49, 50, 51, 52, 53, 54, 55, 56, 16, 57, 58, 59, 60, 61, 62, 63, 64, 65, 13, 14, 12, 66, 67, 68, 69, 70, 71, 72, 73, 74, 75, 76, 77, 78, 79, 80, 81, 28, 82, 83, 84, 85, 86, 87, 88, 89, 90, 91, 92, 93, 29, 94, 95, 96, 97, 111, 112, 113, 114, 115, 116, 117, 118, 119, 120, 121, 122, 123, 124] (by decide +kernel) (by decide +kernel)
set_option maxRecDepth 20000 in
theorem gX1_fitsSeen_X0_run : GoodIn wsX1_fitsSeen (wsV RX1 133 RX0 yX0_run wsX0_run) := goodIn_app (goodIn_of _ (by decide +kernel)) ggX1_fitsSeen_X0_run
theorem dX1_fitsSeen_0 : decode cX1_fitsSeen 0 = .ok (.aload_n 0, 1) := by decide +kernel
theorem dX1_fitsSeen_1 : decode cX1_fitsSeen 1 = .ok (.getfield 16, 3) := by decide +kernel
theorem dX1_fitsSeen_4 : decode cX1_fitsSeen 4 = .ok (.aload_n 0, 1) := by decide +kernel
theorem dX1_fitsSeen_5 : decode cX1_fitsSeen 5 = .ok (.getfield 10, 3) := by decide +kernel
theorem dX1_fitsSeen_8 : decode cX1_fitsSeen 8 = .ok (.invokevirtual 60, 3) := by decide +kernel
theorem dX1_fitsSeen_11 : decode cX1_fitsSeen 11 = .ok (.aload_n 0, 1) := by decide +kernel
theorem dX1_fitsSeen_12 : decode cX1_fitsSeen 12 = .ok (.getfield 16, 3) := by decide +kernel
theorem dX1_fitsSeen_15 : decode cX1_fitsSeen 15 = .ok (.iload_n 1, 1) := by decide +kernel
theorem dX1_fitsSeen_16 : decode cX1_fitsSeen 16 = .ok (.putfield 70, 3) := by decide +kernel
theorem dX1_fitsSeen_19 : decode cX1_fitsSeen 19 = .ok (.iconst 0, 1) := by decide +kernel
theorem dX1_fitsSeen_20 : decode cX1_fitsSeen 20 = .ok (.istore_n 2, 1) := by decide +kernel
theorem dX1_fitsSeen_21 : decode cX1_fitsSeen 21 = .ok (.iconst 0, 1) := by decide +kernel
theorem dX1_fitsSeen_22 : decode cX1_fitsSeen 22 = .ok (.istore_n 3, 1) := by decide +kernel
theorem dX1_fitsSeen_23 : decode cX1_fitsSeen 23 = .ok (.iload_n 3, 1) := by decide +kernel
theorem dX1_fitsSeen_24 : decode cX1_fitsSeen 24 = .ok (.bipush 60, 2) := by decide +kernel
theorem dX1_fitsSeen_26 : decode cX1_fitsSeen 26 = .ok (.if_icmp .gt 69, 3) := by decide +kernel
theorem dX1_fitsSeen_29 : decode cX1_fitsSeen 29 = .ok (.iconst 0, 1) := by decide +kernel
theorem dX1_fitsSeen_30 : decode cX1_fitsSeen 30 = .ok (.istore 4, 2) := by decide +kernel
theorem dX1_fitsSeen_32 : decode cX1_fitsSeen 32 = .ok (.iload 4, 2) := by decide +kernel
theorem dX1_fitsSeen_34 : decode cX1_fitsSeen 34 = .ok (.aload_n 0, 1) := by decide +kernel
theorem dX1_fitsSeen_35 : decode cX1_fitsSeen 35 = .ok (.getfield 46, 3) := by decide +kernel
theorem dX1_fitsSeen_38 : decode cX1_fitsSeen 38 = .ok (.if_icmp .ge 40, 3) := by decide +kernel
theorem dX1_fitsSeen_41 : decode cX1_fitsSeen 41 = .ok (.iload 4, 2) := by decide +kernel
theorem dX1_fitsSeen_43 : decode cX1_fitsSeen 43 = .ok (.bipush 6, 2) := by decide +kernel
theorem dX1_fitsSeen_45 : decode cX1_fitsSeen 45 = .ok (.if_icmp .ge 33, 3) := by decide +kernel
theorem dX1_fitsSeen_48 : decode cX1_fitsSeen 48 = .ok (.aload_n 0, 1) := by decide +kernel
theorem dX1_fitsSeen_49 : decode cX1_fitsSeen 49 = .ok (.getfield 40, 3) := by decide +kernel
theorem dX1_fitsSeen_52 : decode cX1_fitsSeen 52 = .ok (.iload 4, 2) := by decide +kernel
theorem dX1_fitsSeen_54 : decode cX1_fitsSeen 54 = .ok (.iaload, 1) := by decide +kernel
theorem dX1_fitsSeen_55 : decode cX1_fitsSeen 55 = .ok (.iload_n 3, 1) := by decide +kernel
theorem dX1_fitsSeen_56 : decode cX1_fitsSeen 56 = .ok (.if_icmp .ne 16, 3) := by decide +kernel
theorem dX1_fitsSeen_59 : decode cX1_fitsSeen 59 = .ok (.aload_n 0, 1) := by decide +kernel
theorem dX1_fitsSeen_60 : decode cX1_fitsSeen 60 = .ok (.getfield 43, 3) := by decide +kernel
theorem dX1_fitsSeen_63 : decode cX1_fitsSeen 63 = .ok (.iload 4, 2) := by decide +kernel
theorem dX1_fitsSeen_65 : decode cX1_fitsSeen 65 = .ok (.iaload, 1) := by decide +kernel
theorem dX1_fitsSeen_66 : decode cX1_fitsSeen 66 = .ok (.iload_n 2, 1) := by decide +kernel
theorem dX1_fitsSeen_67 : decode cX1_fitsSeen 67 = .ok (.if_icmp .eq 5, 3) := by decide +kernel
theorem dX1_fitsSeen_70 : decode cX1_fitsSeen 70 = .ok (.iconst 0, 1) := by decide +kernel
theorem dX1_fitsSeen_71 : decode cX1_fitsSeen 71 = .ok (.ireturn, 1) := by decide +kernel
theorem dX1_fitsSeen_72 : decode cX1_fitsSeen 72 = .ok (.iinc 4 1, 3) := by decide +kernel
theorem dX1_fitsSeen_75 : decode cX1_fitsSeen 75 = .ok (.goto (-43), 3) := by decide +kernel
theorem dX1_fitsSeen_78 : decode cX1_fitsSeen 78 = .ok (.iload_n 2, 1) := by decide +kernel
theorem dX1_fitsSeen_79 : decode cX1_fitsSeen 79 = .ok (.aload_n 0, 1) := by decide +kernel
theorem dX1_fitsSeen_80 : decode cX1_fitsSeen 80 = .ok (.getfield 16, 3) := by decide +kernel
theorem dX1_fitsSeen_83 : decode cX1_fitsSeen 83 = .ok (.iconst 1, 1) := by decide +kernel
theorem dX1_fitsSeen_84 : decode cX1_fitsSeen 84 = .ok (.invokevirtual 133, 3) := by decide +kernel
theorem dX1_fitsSeen_87 : decode cX1_fitsSeen 87 = .ok (.iadd, 1) := by decide +kernel
theorem dX1_fitsSeen_88 : decode cX1_fitsSeen 88 = .ok (.istore_n 2, 1) := by decide +kernel
theorem dX1_fitsSeen_89 : decode cX1_fitsSeen 89 = .ok (.iinc 3 1, 3) := by decide +kernel
theorem dX1_fitsSeen_92 : decode cX1_fitsSeen 92 = .ok (.goto (-69), 3) := by decide +kernel
theorem dX1_fitsSeen_95 : decode cX1_fitsSeen 95 = .ok (.iconst 1, 1) := by decide +kernel
theorem dX1_fitsSeen_96 : decode cX1_fitsSeen 96 = .ok (.ireturn, 1) := by decide +kernel
set_option maxRecDepth 20000 in
theorem ggX1_runSubsets_X0_feltBits : GoodIn wsX1_runSubsets wsX0_feltBits := goodIn_r _ [8, 9, 10, 116, 117, 118, 119, 120, 121, 122, 123, 124, 125, 126, 127, 128, 129] (by decide +kernel) (by decide +kernel)
set_option maxRecDepth 20000 in
theorem gX1_runSubsets_X0_feltBits : GoodIn wsX1_runSubsets (wsV RX1 219 RX0 yX0_feltBits wsX0_feltBits) := goodIn_app (goodIn_of _ (by decide +kernel)) ggX1_runSubsets_X0_feltBits
set_option maxRecDepth 20000 in
theorem ggX1_runSubsets_X0_takeFrom : GoodIn wsX1_runSubsets wsX0_takeFrom := goodIn_r _ [14, 15, 16, 17, 18, 19, 20, 21, 10, 22, 23, 24, 25, 9, 26, 27, 28, 29, 30, 116, 117, 118, 119, 120, 121, 122, 123, 124, 125, 126, 127, 128, 129] (by decide +kernel) (by decide +kernel)
set_option maxRecDepth 20000 in
theorem gX1_runSubsets_X0_takeFrom : GoodIn wsX1_runSubsets (wsV RX1 60 RX0 yX0_takeFrom wsX0_takeFrom) := goodIn_app (goodIn_of _ (by decide +kernel)) ggX1_runSubsets_X0_takeFrom
set_option maxRecDepth 20000 in
theorem ggX1_runSubsets_X0_leaveOnly : GoodIn wsX1_runSubsets wsX0_leaveOnly := goodIn_r _ [34, 9, 35, 36, 37, 7, 38, 10, 26, 27, 28, 116, 117, 118, 119, 120, 121, 122, 123, 124, 125, 126, 127, 128, 129] (by decide +kernel) (by decide +kernel)
set_option maxRecDepth 20000 in
theorem gX1_runSubsets_X0_leaveOnly : GoodIn wsX1_runSubsets (wsV RX1 222 RX0 yX0_leaveOnly wsX0_leaveOnly) := goodIn_app (goodIn_of _ (by decide +kernel)) ggX1_runSubsets_X0_leaveOnly
set_option maxRecDepth 20000 in
theorem ggX1_runSubsets_X0_run : GoodIn wsX1_runSubsets wsX0_run := goodIn_r _ [42, 18, 10, 27, 9, 43, 44, 45, 7, 46, 20, 21, 47, 48, 49, 50, 28, 26, 51, 52, 53, 54, 55, 56, 57, 58, 59, 60, 61, 62, 63, 64, 65, 19, 66, 67, 68, 69, 70, 71, 72, 73, 74, 16, 17, 15, 75, 76, 77, 78, 35, 36, 37, 38, 79, 80, 81, 82, 83, 84, 85, 86, 29, 87, 88, 89, 90, 91, 92, 93, 94, 95, 96, 97, 98, 30, 99, 100, 101, 102, 116, 117, 118, 119, 120, 121, 122, 123, 124, 125, 126, 127, 128, 129] (by decide +kernel) (by decide +kernel)
set_option maxRecDepth 20000 in
theorem gX1_runSubsets_X0_run : GoodIn wsX1_runSubsets (wsV RX1 133 RX0 yX0_run wsX0_run) := goodIn_app (goodIn_of _ (by decide +kernel)) ggX1_runSubsets_X0_run
theorem dX1_runSubsets_0 : decode cX1_runSubsets 0 = .ok (.aload_n 0, 1) := by decide +kernel
theorem dX1_runSubsets_1 : decode cX1_runSubsets 1 = .ok (.getfield 10, 3) := by decide +kernel
theorem dX1_runSubsets_4 : decode cX1_runSubsets 4 = .ok (.invokevirtual 219, 3) := by decide +kernel
theorem dX1_runSubsets_7 : decode cX1_runSubsets 7 = .ok (.istore_n 2, 1) := by decide +kernel
theorem dX1_runSubsets_8 : decode cX1_runSubsets 8 = .ok (.iconst 0, 1) := by decide +kernel
theorem dX1_runSubsets_9 : decode cX1_runSubsets 9 = .ok (.istore_n 3, 1) := by decide +kernel
theorem dX1_runSubsets_10 : decode cX1_runSubsets 10 = .ok (.iload_n 3, 1) := by decide +kernel
theorem dX1_runSubsets_11 : decode cX1_runSubsets 11 = .ok (.bipush 64, 2) := by decide +kernel
theorem dX1_runSubsets_13 : decode cX1_runSubsets 13 = .ok (.if_icmp .ge 69, 3) := by decide +kernel
theorem dX1_runSubsets_16 : decode cX1_runSubsets 16 = .ok (.iload_n 3, 1) := by decide +kernel
theorem dX1_runSubsets_17 : decode cX1_runSubsets 17 = .ok (.iload_n 2, 1) := by decide +kernel
theorem dX1_runSubsets_18 : decode cX1_runSubsets 18 = .ok (.iand, 1) := by decide +kernel
theorem dX1_runSubsets_19 : decode cX1_runSubsets 19 = .ok (.istore 4, 2) := by decide +kernel
theorem dX1_runSubsets_21 : decode cX1_runSubsets 21 = .ok (.iload 4, 2) := by decide +kernel
theorem dX1_runSubsets_23 : decode cX1_runSubsets 23 = .ok (.iload_n 3, 1) := by decide +kernel
theorem dX1_runSubsets_24 : decode cX1_runSubsets 24 = .ok (.if_icmp .eq 19, 3) := by decide +kernel
theorem dX1_runSubsets_27 : decode cX1_runSubsets 27 = .ok (.aload_n 0, 1) := by decide +kernel
theorem dX1_runSubsets_28 : decode cX1_runSubsets 28 = .ok (.getfield 53, 3) := by decide +kernel
theorem dX1_runSubsets_31 : decode cX1_runSubsets 31 = .ok (.iload_n 3, 1) := by decide +kernel
theorem dX1_runSubsets_32 : decode cX1_runSubsets 32 = .ok (.aload_n 0, 1) := by decide +kernel
theorem dX1_runSubsets_33 : decode cX1_runSubsets 33 = .ok (.getfield 53, 3) := by decide +kernel
theorem dX1_runSubsets_36 : decode cX1_runSubsets 36 = .ok (.iload 4, 2) := by decide +kernel
theorem dX1_runSubsets_38 : decode cX1_runSubsets 38 = .ok (.iaload, 1) := by decide +kernel
theorem dX1_runSubsets_39 : decode cX1_runSubsets 39 = .ok (.iastore, 1) := by decide +kernel
theorem dX1_runSubsets_40 : decode cX1_runSubsets 40 = .ok (.goto 36, 3) := by decide +kernel
theorem dX1_runSubsets_43 : decode cX1_runSubsets 43 = .ok (.aload_n 0, 1) := by decide +kernel
theorem dX1_runSubsets_44 : decode cX1_runSubsets 44 = .ok (.getfield 16, 3) := by decide +kernel
theorem dX1_runSubsets_47 : decode cX1_runSubsets 47 = .ok (.aload_n 0, 1) := by decide +kernel
theorem dX1_runSubsets_48 : decode cX1_runSubsets 48 = .ok (.getfield 10, 3) := by decide +kernel
theorem dX1_runSubsets_51 : decode cX1_runSubsets 51 = .ok (.invokevirtual 60, 3) := by decide +kernel
theorem dX1_runSubsets_54 : decode cX1_runSubsets 54 = .ok (.aload_n 0, 1) := by decide +kernel
theorem dX1_runSubsets_55 : decode cX1_runSubsets 55 = .ok (.getfield 16, 3) := by decide +kernel
theorem dX1_runSubsets_58 : decode cX1_runSubsets 58 = .ok (.iload_n 3, 1) := by decide +kernel
theorem dX1_runSubsets_59 : decode cX1_runSubsets 59 = .ok (.invokevirtual 222, 3) := by decide +kernel
theorem dX1_runSubsets_62 : decode cX1_runSubsets 62 = .ok (.aload_n 0, 1) := by decide +kernel
theorem dX1_runSubsets_63 : decode cX1_runSubsets 63 = .ok (.getfield 53, 3) := by decide +kernel
theorem dX1_runSubsets_66 : decode cX1_runSubsets 66 = .ok (.iload_n 3, 1) := by decide +kernel
theorem dX1_runSubsets_67 : decode cX1_runSubsets 67 = .ok (.aload_n 0, 1) := by decide +kernel
theorem dX1_runSubsets_68 : decode cX1_runSubsets 68 = .ok (.getfield 16, 3) := by decide +kernel
theorem dX1_runSubsets_71 : decode cX1_runSubsets 71 = .ok (.iload_n 1, 1) := by decide +kernel
theorem dX1_runSubsets_72 : decode cX1_runSubsets 72 = .ok (.invokevirtual 133, 3) := by decide +kernel
theorem dX1_runSubsets_75 : decode cX1_runSubsets 75 = .ok (.iastore, 1) := by decide +kernel
theorem dX1_runSubsets_76 : decode cX1_runSubsets 76 = .ok (.iinc 3 1, 3) := by decide +kernel
theorem dX1_runSubsets_79 : decode cX1_runSubsets 79 = .ok (.goto (-69), 3) := by decide +kernel
theorem dX1_runSubsets_82 : decode cX1_runSubsets 82 = .ok (.return_, 1) := by decide +kernel

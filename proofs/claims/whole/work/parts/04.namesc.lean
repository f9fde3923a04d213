theorem dX6_without_29 : decode cX6_without 29 = .ok (.goto 4, 3) := by decide +kernel
theorem dX6_without_32 : decode cX6_without 32 = .ok (.iload_n 2, 1) := by decide +kernel
theorem dX6_without_33 : decode cX6_without 33 = .ok (.istore_n 2, 1) := by decide +kernel
theorem dX6_without_34 : decode cX6_without 34 = .ok (.iinc 3 1, 3) := by decide +kernel
theorem dX6_without_37 : decode cX6_without 37 = .ok (.goto (-33), 3) := by decide +kernel
theorem dX6_without_40 : decode cX6_without 40 = .ok (.iload_n 2, 1) := by decide +kernel
theorem dX6_without_41 : decode cX6_without 41 = .ok (.ireturn, 1) := by decide +kernel
set_option maxRecDepth 20000 in
theorem ggX6_pass_X6_in : GoodIn wsX6_pass wsX6_in := goodIn_r _ [8] (by decide +kernel) (by decide +kernel)
set_option maxRecDepth 20000 in
theorem gX6_pass_X6_in : GoodIn wsX6_pass (va_wsS RX6 69 yX6_in wsX6_in) := goodIn_app (goodIn_of _ (by decide +kernel)) ggX6_pass_X6_in
theorem dX6_pass_0 : decode cX6_pass 0 = .ok (.iload_n 1, 1) := by decide +kernel
theorem dX6_pass_1 : decode cX6_pass 1 = .ok (.i2l, 1) := by decide +kernel
theorem dX6_pass_2 : decode cX6_pass 2 = .ok (.lconst 1, 1) := by decide +kernel
theorem dX6_pass_3 : decode cX6_pass 3 = .ok (.ldc2_w 79, 3) := by decide +kernel
theorem dX6_pass_6 : decode cX6_pass 6 = .ok (.invokestatic 69, 3) := by decide +kernel
theorem dX6_pass_9 : decode cX6_pass 9 = .ok (.ifCond .ne 6, 3) := by decide +kernel
theorem dX6_pass_12 : decode cX6_pass 12 = .ok (.bipush (-2), 2) := by decide +kernel
theorem dX6_pass_14 : decode cX6_pass 14 = .ok (.ireturn, 1) := by decide +kernel
theorem dX6_pass_15 : decode cX6_pass 15 = .ok (.aload_n 0, 1) := by decide +kernel
theorem dX6_pass_16 : decode cX6_pass 16 = .ok (.getfield 65, 3) := by decide +kernel
theorem dX6_pass_19 : decode cX6_pass 19 = .ok (.iload_n 1, 1) := by decide +kernel
theorem dX6_pass_20 : decode cX6_pass 20 = .ok (.iadd, 1) := by decide +kernel
theorem dX6_pass_21 : decode cX6_pass 21 = .ok (.sipush 199, 3) := by decide +kernel
theorem dX6_pass_24 : decode cX6_pass 24 = .ok (.if_icmp .le 6, 3) := by decide +kernel
theorem dX6_pass_27 : decode cX6_pass 27 = .ok (.bipush (-4), 2) := by decide +kernel
theorem dX6_pass_29 : decode cX6_pass 29 = .ok (.ireturn, 1) := by decide +kernel
theorem dX6_pass_30 : decode cX6_pass 30 = .ok (.iconst 0, 1) := by decide +kernel
theorem dX6_pass_31 : decode cX6_pass 31 = .ok (.istore_n 2, 1) := by decide +kernel
theorem dX6_pass_32 : decode cX6_pass 32 = .ok (.iload_n 2, 1) := by decide +kernel
theorem dX6_pass_33 : decode cX6_pass 33 = .ok (.iload_n 1, 1) := by decide +kernel
theorem dX6_pass_34 : decode cX6_pass 34 = .ok (.if_icmp .ge 107, 3) := by decide +kernel
theorem dX6_pass_37 : decode cX6_pass 37 = .ok (.iconst 0, 1) := by decide +kernel
theorem dX6_pass_38 : decode cX6_pass 38 = .ok (.istore_n 3, 1) := by decide +kernel
theorem dX6_pass_39 : decode cX6_pass 39 = .ok (.iload_n 3, 1) := by decide +kernel
theorem dX6_pass_40 : decode cX6_pass 40 = .ok (.bipush 6, 2) := by decide +kernel
theorem dX6_pass_42 : decode cX6_pass 42 = .ok (.if_icmp .ge 39, 3) := by decide +kernel
theorem dX6_pass_45 : decode cX6_pass 45 = .ok (.aload_n 0, 1) := by decide +kernel
theorem dX6_pass_46 : decode cX6_pass 46 = .ok (.getfield 7, 3) := by decide +kernel
theorem dX6_pass_49 : decode cX6_pass 49 = .ok (.bipush 6, 2) := by decide +kernel
theorem dX6_pass_51 : decode cX6_pass 51 = .ok (.aload_n 0, 1) := by decide +kernel
theorem dX6_pass_52 : decode cX6_pass 52 = .ok (.getfield 65, 3) := by decide +kernel
theorem dX6_pass_55 : decode cX6_pass 55 = .ok (.iconst 1, 1) := by decide +kernel
theorem dX6_pass_56 : decode cX6_pass 56 = .ok (.iadd, 1) := by decide +kernel
theorem dX6_pass_57 : decode cX6_pass 57 = .ok (.imul, 1) := by decide +kernel
theorem dX6_pass_58 : decode cX6_pass 58 = .ok (.iload_n 3, 1) := by decide +kernel
theorem dX6_pass_59 : decode cX6_pass 59 = .ok (.iadd, 1) := by decide +kernel
theorem dX6_pass_60 : decode cX6_pass 60 = .ok (.aload_n 0, 1) := by decide +kernel
theorem dX6_pass_61 : decode cX6_pass 61 = .ok (.getfield 7, 3) := by decide +kernel
theorem dX6_pass_64 : decode cX6_pass 64 = .ok (.bipush 6, 2) := by decide +kernel
theorem dX6_pass_66 : decode cX6_pass 66 = .ok (.aload_n 0, 1) := by decide +kernel
theorem dX6_pass_67 : decode cX6_pass 67 = .ok (.getfield 65, 3) := by decide +kernel
theorem dX6_pass_70 : decode cX6_pass 70 = .ok (.imul, 1) := by decide +kernel
theorem dX6_pass_71 : decode cX6_pass 71 = .ok (.iload_n 3, 1) := by decide +kernel
theorem dX6_pass_72 : decode cX6_pass 72 = .ok (.iadd, 1) := by decide +kernel
theorem dX6_pass_73 : decode cX6_pass 73 = .ok (.baload, 1) := by decide +kernel
theorem dX6_pass_74 : decode cX6_pass 74 = .ok (.bastore, 1) := by decide +kernel
theorem dX6_pass_75 : decode cX6_pass 75 = .ok (.iinc 3 1, 3) := by decide +kernel
theorem dX6_pass_78 : decode cX6_pass 78 = .ok (.goto (-39), 3) := by decide +kernel
theorem dX6_pass_81 : decode cX6_pass 81 = .ok (.iconst 0, 1) := by decide +kernel
theorem dX6_pass_82 : decode cX6_pass 82 = .ok (.istore_n 3, 1) := by decide +kernel
theorem dX6_pass_83 : decode cX6_pass 83 = .ok (.iload_n 3, 1) := by decide +kernel
theorem dX6_pass_84 : decode cX6_pass 84 = .ok (.bipush 48, 2) := by decide +kernel
theorem dX6_pass_86 : decode cX6_pass 86 = .ok (.if_icmp .ge 39, 3) := by decide +kernel
theorem dX6_pass_89 : decode cX6_pass 89 = .ok (.aload_n 0, 1) := by decide +kernel
theorem dX6_pass_90 : decode cX6_pass 90 = .ok (.getfield 13, 3) := by decide +kernel
theorem dX6_pass_93 : decode cX6_pass 93 = .ok (.bipush 48, 2) := by decide +kernel
theorem dX6_pass_95 : decode cX6_pass 95 = .ok (.aload_n 0, 1) := by decide +kernel
theorem dX6_pass_96 : decode cX6_pass 96 = .ok (.getfield 65, 3) := by decide +kernel
theorem dX6_pass_99 : decode cX6_pass 99 = .ok (.iconst 1, 1) := by decide +kernel
theorem dX6_pass_100 : decode cX6_pass 100 = .ok (.iadd, 1) := by decide +kernel
theorem dX6_pass_101 : decode cX6_pass 101 = .ok (.imul, 1) := by decide +kernel
theorem dX6_pass_102 : decode cX6_pass 102 = .ok (.iload_n 3, 1) := by decide +kernel
theorem dX6_pass_103 : decode cX6_pass 103 = .ok (.iadd, 1) := by decide +kernel
theorem dX6_pass_104 : decode cX6_pass 104 = .ok (.aload_n 0, 1) := by decide +kernel
theorem dX6_pass_105 : decode cX6_pass 105 = .ok (.getfield 13, 3) := by decide +kernel
theorem dX6_pass_108 : decode cX6_pass 108 = .ok (.bipush 48, 2) := by decide +kernel
theorem dX6_pass_110 : decode cX6_pass 110 = .ok (.aload_n 0, 1) := by decide +kernel
theorem dX6_pass_111 : decode cX6_pass 111 = .ok (.getfield 65, 3) := by decide +kernel
theorem dX6_pass_114 : decode cX6_pass 114 = .ok (.imul, 1) := by decide +kernel
theorem dX6_pass_115 : decode cX6_pass 115 = .ok (.iload_n 3, 1) := by decide +kernel
theorem dX6_pass_116 : decode cX6_pass 116 = .ok (.iadd, 1) := by decide +kernel
theorem dX6_pass_117 : decode cX6_pass 117 = .ok (.iaload, 1) := by decide +kernel
theorem dX6_pass_118 : decode cX6_pass 118 = .ok (.iastore, 1) := by decide +kernel
theorem dX6_pass_119 : decode cX6_pass 119 = .ok (.iinc 3 1, 3) := by decide +kernel
theorem dX6_pass_122 : decode cX6_pass 122 = .ok (.goto (-39), 3) := by decide +kernel
theorem dX6_pass_125 : decode cX6_pass 125 = .ok (.aload_n 0, 1) := by decide +kernel
theorem dX6_pass_126 : decode cX6_pass 126 = .ok (.dup, 1) := by decide +kernel
theorem dX6_pass_127 : decode cX6_pass 127 = .ok (.getfield 65, 3) := by decide +kernel
theorem dX6_pass_130 : decode cX6_pass 130 = .ok (.iconst 1, 1) := by decide +kernel
theorem dX6_pass_131 : decode cX6_pass 131 = .ok (.iadd, 1) := by decide +kernel
theorem dX6_pass_132 : decode cX6_pass 132 = .ok (.putfield 65, 3) := by decide +kernel
theorem dX6_pass_135 : decode cX6_pass 135 = .ok (.iinc 2 1, 3) := by decide +kernel
theorem dX6_pass_138 : decode cX6_pass 138 = .ok (.goto (-106), 3) := by decide +kernel
theorem dX6_pass_141 : decode cX6_pass 141 = .ok (.aload_n 0, 1) := by decide +kernel
theorem dX6_pass_142 : decode cX6_pass 142 = .ok (.getfield 65, 3) := by decide +kernel
theorem dX6_pass_145 : decode cX6_pass 145 = .ok (.ireturn, 1) := by decide +kernel
theorem dX6_place_0 : decode cX6_place 0 = .ok (.iconst 0, 1) := by decide +kernel
theorem dX6_place_1 : decode cX6_place 1 = .ok (.istore_n 2, 1) := by decide +kernel
theorem dX6_place_2 : decode cX6_place 2 = .ok (.iload_n 2, 1) := by decide +kernel
theorem dX6_place_3 : decode cX6_place 3 = .ok (.aload_n 0, 1) := by decide +kernel
theorem dX6_place_4 : decode cX6_place 4 = .ok (.getfield 81, 3) := by decide +kernel
theorem dX6_place_7 : decode cX6_place 7 = .ok (.if_icmp .ge 21, 3) := by decide +kernel
theorem dX6_place_10 : decode cX6_place 10 = .ok (.aload_n 0, 1) := by decide +kernel
theorem dX6_place_11 : decode cX6_place 11 = .ok (.getfield 17, 3) := by decide +kernel
theorem dX6_place_14 : decode cX6_place 14 = .ok (.iload_n 2, 1) := by decide +kernel
theorem dX6_place_15 : decode cX6_place 15 = .ok (.iaload, 1) := by decide +kernel
theorem dX6_place_16 : decode cX6_place 16 = .ok (.iload_n 1, 1) := by decide +kernel
theorem dX6_place_17 : decode cX6_place 17 = .ok (.if_icmp .ne 5, 3) := by decide +kernel
theorem dX6_place_20 : decode cX6_place 20 = .ok (.iload_n 2, 1) := by decide +kernel
theorem dX6_place_21 : decode cX6_place 21 = .ok (.ireturn, 1) := by decide +kernel
theorem dX6_place_22 : decode cX6_place 22 = .ok (.iinc 2 1, 3) := by decide +kernel
theorem dX6_place_25 : decode cX6_place 25 = .ok (.goto (-23), 3) := by decide +kernel
theorem dX6_place_28 : decode cX6_place 28 = .ok (.bipush (-9), 2) := by decide +kernel
theorem dX6_place_30 : decode cX6_place 30 = .ok (.ireturn, 1) := by decide +kernel
set_option maxRecDepth 20000 in
theorem ggX6_tell_X6_isName : GoodIn wsX6_tell wsX6_isName := goodIn_r _ [17, 18, 19, 20, 16, 21] (by decide +kernel) (by decide +kernel)
set_option maxRecDepth 20000 in
theorem gX6_tell_X6_isName : GoodIn wsX6_tell (va_wsS RX6 84 yX6_isName wsX6_isName) := goodIn_app (goodIn_of _ (by decide +kernel)) ggX6_tell_X6_isName
set_option maxRecDepth 20000 in
theorem ggX6_tell_X6_in : GoodIn wsX6_tell wsX6_in := goodIn_r _ [21] (by decide +kernel) (by decide +kernel)
set_option maxRecDepth 20000 in
theorem gX6_tell_X6_in : GoodIn wsX6_tell (va_wsS RX6 69 yX6_in wsX6_in) := goodIn_app (goodIn_of _ (by decide +kernel)) ggX6_tell_X6_in
set_option maxRecDepth 20000 in
theorem ggX6_tell_X6_place : GoodIn wsX6_tell wsX6_place := goodIn_r _ [25, 4, 6, 26, 27, 28, 29, 30, 31, 32, 33, 34, 35, 36, 37, 38, 39, 40, 41, 42, 43, 44, 45, 46, 47, 48] (by decide +kernel) (by decide +kernel)
set_option maxRecDepth 20000 in
theorem gX6_tell_X6_place : GoodIn wsX6_tell (wsV RX6 90 RX6 yX6_place wsX6_place) := goodIn_app (goodIn_of _ (by decide +kernel)) ggX6_tell_X6_place
theorem dX6_tell_0 : decode cX6_tell 0 = .ok (.iload_n 1, 1) := by decide +kernel
theorem dX6_tell_1 : decode cX6_tell 1 = .ok (.invokestatic 84, 3) := by decide +kernel
theorem dX6_tell_4 : decode cX6_tell 4 = .ok (.ifCond .eq 15, 3) := by decide +kernel
theorem dX6_tell_7 : decode cX6_tell 7 = .ok (.iload_n 2, 1) := by decide +kernel
theorem dX6_tell_8 : decode cX6_tell 8 = .ok (.i2l, 1) := by decide +kernel
theorem dX6_tell_9 : decode cX6_tell 9 = .ok (.lconst 0, 1) := by decide +kernel
theorem dX6_tell_10 : decode cX6_tell 10 = .ok (.ldc2_w 88, 3) := by decide +kernel
theorem dX6_tell_13 : decode cX6_tell 13 = .ok (.invokestatic 69, 3) := by decide +kernel
theorem dX6_tell_16 : decode cX6_tell 16 = .ok (.ifCond .ne 6, 3) := by decide +kernel
theorem dX6_tell_19 : decode cX6_tell 19 = .ok (.bipush (-2), 2) := by decide +kernel
theorem dX6_tell_21 : decode cX6_tell 21 = .ok (.ireturn, 1) := by decide +kernel
theorem dX6_tell_22 : decode cX6_tell 22 = .ok (.aload_n 0, 1) := by decide +kernel
theorem dX6_tell_23 : decode cX6_tell 23 = .ok (.iload_n 1, 1) := by decide +kernel
theorem dX6_tell_24 : decode cX6_tell 24 = .ok (.invokevirtual 90, 3) := by decide +kernel
theorem dX6_tell_27 : decode cX6_tell 27 = .ok (.istore_n 3, 1) := by decide +kernel
theorem dX6_tell_28 : decode cX6_tell 28 = .ok (.iload_n 3, 1) := by decide +kernel
theorem dX6_tell_29 : decode cX6_tell 29 = .ok (.bipush (-9), 2) := by decide +kernel
theorem dX6_tell_31 : decode cX6_tell 31 = .ok (.if_icmp .eq 19, 3) := by decide +kernel
theorem dX6_tell_34 : decode cX6_tell 34 = .ok (.aload_n 0, 1) := by decide +kernel
theorem dX6_tell_35 : decode cX6_tell 35 = .ok (.getfield 29, 3) := by decide +kernel
theorem dX6_tell_38 : decode cX6_tell 38 = .ok (.iload_n 3, 1) := by decide +kernel
theorem dX6_tell_39 : decode cX6_tell 39 = .ok (.iaload, 1) := by decide +kernel
theorem dX6_tell_40 : decode cX6_tell 40 = .ok (.aload_n 0, 1) := by decide +kernel
theorem dX6_tell_41 : decode cX6_tell 41 = .ok (.getfield 65, 3) := by decide +kernel
theorem dX6_tell_44 : decode cX6_tell 44 = .ok (.if_icmp .ne 6, 3) := by decide +kernel
theorem dX6_tell_47 : decode cX6_tell 47 = .ok (.bipush (-3), 2) := by decide +kernel
theorem dX6_tell_49 : decode cX6_tell 49 = .ok (.ireturn, 1) := by decide +kernel
theorem dX6_tell_50 : decode cX6_tell 50 = .ok (.iload_n 3, 1) := by decide +kernel
theorem dX6_tell_51 : decode cX6_tell 51 = .ok (.bipush (-9), 2) := by decide +kernel
theorem dX6_tell_53 : decode cX6_tell 53 = .ok (.if_icmp .ne 12, 3) := by decide +kernel
theorem dX6_tell_56 : decode cX6_tell 56 = .ok (.aload_n 0, 1) := by decide +kernel
theorem dX6_tell_57 : decode cX6_tell 57 = .ok (.getfield 81, 3) := by decide +kernel
theorem dX6_tell_60 : decode cX6_tell 60 = .ok (.bipush 120, 2) := by decide +kernel
theorem dX6_tell_62 : decode cX6_tell 62 = .ok (.if_icmp .eq 13, 3) := by decide +kernel
theorem dX6_tell_65 : decode cX6_tell 65 = .ok (.aload_n 0, 1) := by decide +kernel
theorem dX6_tell_66 : decode cX6_tell 66 = .ok (.getfield 94, 3) := by decide +kernel
theorem dX6_tell_69 : decode cX6_tell 69 = .ok (.sipush 2000, 3) := by decide +kernel
theorem dX6_tell_72 : decode cX6_tell 72 = .ok (.if_icmp .ne 6, 3) := by decide +kernel
theorem dX6_tell_75 : decode cX6_tell 75 = .ok (.bipush (-4), 2) := by decide +kernel
theorem dX6_tell_77 : decode cX6_tell 77 = .ok (.ireturn, 1) := by decide +kernel
theorem dX6_tell_78 : decode cX6_tell 78 = .ok (.iload_n 3, 1) := by decide +kernel
theorem dX6_tell_79 : decode cX6_tell 79 = .ok (.bipush (-9), 2) := by decide +kernel
theorem dX6_tell_81 : decode cX6_tell 81 = .ok (.if_icmp .ne 35, 3) := by decide +kernel
theorem dX6_tell_84 : decode cX6_tell 84 = .ok (.aload_n 0, 1) := by decide +kernel
theorem dX6_tell_85 : decode cX6_tell 85 = .ok (.getfield 81, 3) := by decide +kernel
theorem dX6_tell_88 : decode cX6_tell 88 = .ok (.istore_n 3, 1) := by decide +kernel
theorem dX6_tell_89 : decode cX6_tell 89 = .ok (.aload_n 0, 1) := by decide +kernel
theorem dX6_tell_90 : decode cX6_tell 90 = .ok (.dup, 1) := by decide +kernel
theorem dX6_tell_91 : decode cX6_tell 91 = .ok (.getfield 81, 3) := by decide +kernel
theorem dX6_tell_94 : decode cX6_tell 94 = .ok (.iconst 1, 1) := by decide +kernel
theorem dX6_tell_95 : decode cX6_tell 95 = .ok (.iadd, 1) := by decide +kernel
theorem dX6_tell_96 : decode cX6_tell 96 = .ok (.putfield 81, 3) := by decide +kernel
theorem dX6_tell_99 : decode cX6_tell 99 = .ok (.aload_n 0, 1) := by decide +kernel
theorem dX6_tell_100 : decode cX6_tell 100 = .ok (.getfield 17, 3) := by decide +kernel
theorem dX6_tell_103 : decode cX6_tell 103 = .ok (.iload_n 3, 1) := by decide +kernel
theorem dX6_tell_104 : decode cX6_tell 104 = .ok (.iload_n 1, 1) := by decide +kernel
theorem dX6_tell_105 : decode cX6_tell 105 = .ok (.iastore, 1) := by decide +kernel
theorem dX6_tell_106 : decode cX6_tell 106 = .ok (.aload_n 0, 1) := by decide +kernel
theorem dX6_tell_107 : decode cX6_tell 107 = .ok (.getfield 26, 3) := by decide +kernel
theorem dX6_tell_110 : decode cX6_tell 110 = .ok (.iload_n 3, 1) := by decide +kernel
theorem dX6_tell_111 : decode cX6_tell 111 = .ok (.aload_n 0, 1) := by decide +kernel
theorem dX6_tell_112 : decode cX6_tell 112 = .ok (.getfield 65, 3) := by decide +kernel
theorem dX6_tell_115 : decode cX6_tell 115 = .ok (.iastore, 1) := by decide +kernel
theorem dX6_tell_116 : decode cX6_tell 116 = .ok (.aload_n 0, 1) := by decide +kernel
theorem dX6_tell_117 : decode cX6_tell 117 = .ok (.getfield 20, 3) := by decide +kernel
theorem dX6_tell_120 : decode cX6_tell 120 = .ok (.iload_n 3, 1) := by decide +kernel
theorem dX6_tell_121 : decode cX6_tell 121 = .ok (.iaload, 1) := by decide +kernel
theorem dX6_tell_122 : decode cX6_tell 122 = .ok (.ifCond .le 17, 3) := by decide +kernel
theorem dX6_tell_125 : decode cX6_tell 125 = .ok (.iload_n 2, 1) := by decide +kernel
theorem dX6_tell_126 : decode cX6_tell 126 = .ok (.aload_n 0, 1) := by decide +kernel
theorem dX6_tell_127 : decode cX6_tell 127 = .ok (.getfield 23, 3) := by decide +kernel
theorem dX6_tell_130 : decode cX6_tell 130 = .ok (.iload_n 3, 1) := by decide +kernel
theorem dX6_tell_131 : decode cX6_tell 131 = .ok (.iaload, 1) := by decide +kernel
theorem dX6_tell_132 : decode cX6_tell 132 = .ok (.if_icmp .ge 7, 3) := by decide +kernel
theorem dX6_tell_135 : decode cX6_tell 135 = .ok (.iconst 1, 1) := by decide +kernel
theorem dX6_tell_136 : decode cX6_tell 136 = .ok (.goto 4, 3) := by decide +kernel
theorem dX6_tell_139 : decode cX6_tell 139 = .ok (.iconst 0, 1) := by decide +kernel
theorem dX6_tell_140 : decode cX6_tell 140 = .ok (.istore 4, 2) := by decide +kernel
theorem dX6_tell_142 : decode cX6_tell 142 = .ok (.aload_n 0, 1) := by decide +kernel
theorem dX6_tell_143 : decode cX6_tell 143 = .ok (.getfield 35, 3) := by decide +kernel
theorem dX6_tell_146 : decode cX6_tell 146 = .ok (.aload_n 0, 1) := by decide +kernel
theorem dX6_tell_147 : decode cX6_tell 147 = .ok (.getfield 94, 3) := by decide +kernel
theorem dX6_tell_150 : decode cX6_tell 150 = .ok (.iload_n 3, 1) := by decide +kernel
theorem dX6_tell_151 : decode cX6_tell 151 = .ok (.iastore, 1) := by decide +kernel
theorem dX6_tell_152 : decode cX6_tell 152 = .ok (.aload_n 0, 1) := by decide +kernel
theorem dX6_tell_153 : decode cX6_tell 153 = .ok (.getfield 38, 3) := by decide +kernel
theorem dX6_tell_156 : decode cX6_tell 156 = .ok (.aload_n 0, 1) := by decide +kernel
theorem dX6_tell_157 : decode cX6_tell 157 = .ok (.getfield 94, 3) := by decide +kernel
theorem dX6_tell_160 : decode cX6_tell 160 = .ok (.aload_n 0, 1) := by decide +kernel
theorem dX6_tell_161 : decode cX6_tell 161 = .ok (.getfield 65, 3) := by decide +kernel
theorem dX6_tell_164 : decode cX6_tell 164 = .ok (.iastore, 1) := by decide +kernel
theorem dX6_tell_165 : decode cX6_tell 165 = .ok (.aload_n 0, 1) := by decide +kernel
theorem dX6_tell_166 : decode cX6_tell 166 = .ok (.getfield 41, 3) := by decide +kernel
theorem dX6_tell_169 : decode cX6_tell 169 = .ok (.aload_n 0, 1) := by decide +kernel
theorem dX6_tell_170 : decode cX6_tell 170 = .ok (.getfield 94, 3) := by decide +kernel
theorem dX6_tell_173 : decode cX6_tell 173 = .ok (.aload_n 0, 1) := by decide +kernel
theorem dX6_tell_174 : decode cX6_tell 174 = .ok (.getfield 20, 3) := by decide +kernel
theorem dX6_tell_177 : decode cX6_tell 177 = .ok (.iload_n 3, 1) := by decide +kernel
theorem dX6_tell_178 : decode cX6_tell 178 = .ok (.iaload, 1) := by decide +kernel
theorem dX6_tell_179 : decode cX6_tell 179 = .ok (.ifCond .eq 8, 3) := by decide +kernel
theorem dX6_tell_182 : decode cX6_tell 182 = .ok (.iload 4, 2) := by decide +kernel
theorem dX6_tell_184 : decode cX6_tell 184 = .ok (.ifCond .eq 7, 3) := by decide +kernel
theorem dX6_tell_187 : decode cX6_tell 187 = .ok (.iload_n 2, 1) := by decide +kernel
theorem dX6_tell_188 : decode cX6_tell 188 = .ok (.goto 11, 3) := by decide +kernel
theorem dX6_tell_191 : decode cX6_tell 191 = .ok (.iload_n 2, 1) := by decide +kernel
theorem dX6_tell_192 : decode cX6_tell 192 = .ok (.aload_n 0, 1) := by decide +kernel
theorem dX6_tell_193 : decode cX6_tell 193 = .ok (.getfield 23, 3) := by decide +kernel
theorem dX6_tell_196 : decode cX6_tell 196 = .ok (.iload_n 3, 1) := by decide +kernel
theorem dX6_tell_197 : decode cX6_tell 197 = .ok (.iaload, 1) := by decide +kernel
theorem dX6_tell_198 : decode cX6_tell 198 = .ok (.isub, 1) := by decide +kernel
theorem dX6_tell_199 : decode cX6_tell 199 = .ok (.iastore, 1) := by decide +kernel
theorem dX6_tell_200 : decode cX6_tell 200 = .ok (.aload_n 0, 1) := by decide +kernel
theorem dX6_tell_201 : decode cX6_tell 201 = .ok (.dup, 1) := by decide +kernel
theorem dX6_tell_202 : decode cX6_tell 202 = .ok (.getfield 94, 3) := by decide +kernel
theorem dX6_tell_205 : decode cX6_tell 205 = .ok (.iconst 1, 1) := by decide +kernel
theorem dX6_tell_206 : decode cX6_tell 206 = .ok (.iadd, 1) := by decide +kernel
theorem dX6_tell_207 : decode cX6_tell 207 = .ok (.putfield 94, 3) := by decide +kernel
theorem dX6_tell_210 : decode cX6_tell 210 = .ok (.aload_n 0, 1) := by decide +kernel
theorem dX6_tell_211 : decode cX6_tell 211 = .ok (.getfield 32, 3) := by decide +kernel
theorem dX6_tell_214 : decode cX6_tell 214 = .ok (.iload_n 3, 1) := by decide +kernel
theorem dX6_tell_215 : decode cX6_tell 215 = .ok (.dup2, 1) := by decide +kernel
theorem dX6_tell_216 : decode cX6_tell 216 = .ok (.iaload, 1) := by decide +kernel
theorem dX6_tell_217 : decode cX6_tell 217 = .ok (.iload 4, 2) := by decide +kernel
theorem dX6_tell_219 : decode cX6_tell 219 = .ok (.ifCond .eq 7, 3) := by decide +kernel
theorem dX6_tell_222 : decode cX6_tell 222 = .ok (.iconst 1, 1) := by decide +kernel
theorem dX6_tell_223 : decode cX6_tell 223 = .ok (.goto 4, 3) := by decide +kernel
theorem dX6_tell_226 : decode cX6_tell 226 = .ok (.iconst 0, 1) := by decide +kernel
theorem dX6_tell_227 : decode cX6_tell 227 = .ok (.iadd, 1) := by decide +kernel
theorem dX6_tell_228 : decode cX6_tell 228 = .ok (.iastore, 1) := by decide +kernel
theorem dX6_tell_229 : decode cX6_tell 229 = .ok (.aload_n 0, 1) := by decide +kernel
theorem dX6_tell_230 : decode cX6_tell 230 = .ok (.getfield 20, 3) := by decide +kernel
theorem dX6_tell_233 : decode cX6_tell 233 = .ok (.iload_n 3, 1) := by decide +kernel
theorem dX6_tell_234 : decode cX6_tell 234 = .ok (.dup2, 1) := by decide +kernel
theorem dX6_tell_235 : decode cX6_tell 235 = .ok (.iaload, 1) := by decide +kernel
theorem dX6_tell_236 : decode cX6_tell 236 = .ok (.iconst 1, 1) := by decide +kernel
theorem dX6_tell_237 : decode cX6_tell 237 = .ok (.iadd, 1) := by decide +kernel
theorem dX6_tell_238 : decode cX6_tell 238 = .ok (.iastore, 1) := by decide +kernel
theorem dX6_tell_239 : decode cX6_tell 239 = .ok (.aload_n 0, 1) := by decide +kernel
theorem dX6_tell_240 : decode cX6_tell 240 = .ok (.getfield 23, 3) := by decide +kernel
theorem dX6_tell_243 : decode cX6_tell 243 = .ok (.iload_n 3, 1) := by decide +kernel
theorem dX6_tell_244 : decode cX6_tell 244 = .ok (.iload_n 2, 1) := by decide +kernel
theorem dX6_tell_245 : decode cX6_tell 245 = .ok (.iastore, 1) := by decide +kernel
theorem dX6_tell_246 : decode cX6_tell 246 = .ok (.aload_n 0, 1) := by decide +kernel
theorem dX6_tell_247 : decode cX6_tell 247 = .ok (.getfield 29, 3) := by decide +kernel
theorem dX6_tell_250 : decode cX6_tell 250 = .ok (.iload_n 3, 1) := by decide +kernel
theorem dX6_tell_251 : decode cX6_tell 251 = .ok (.aload_n 0, 1) := by decide +kernel
theorem dX6_tell_252 : decode cX6_tell 252 = .ok (.getfield 65, 3) := by decide +kernel
theorem dX6_tell_255 : decode cX6_tell 255 = .ok (.iastore, 1) := by decide +kernel
theorem dX6_tell_256 : decode cX6_tell 256 = .ok (.iload_n 3, 1) := by decide +kernel
theorem dX6_tell_257 : decode cX6_tell 257 = .ok (.ireturn, 1) := by decide +kernel
set_option maxRecDepth 20000 in
theorem ggX6_series_X6_in : GoodIn wsX6_series wsX6_in := goodIn_r _ [11] (by decide +kernel) (by decide +kernel)
set_option maxRecDepth 20000 in
theorem gX6_series_X6_in : GoodIn wsX6_series (va_wsS RX6 69 yX6_in wsX6_in) := goodIn_app (goodIn_of _ (by decide +kernel)) ggX6_series_X6_in
theorem dX6_series_0 : decode cX6_series 0 = .ok (.iload_n 1, 1) := by decide +kernel
theorem dX6_series_1 : decode cX6_series 1 = .ok (.i2l, 1) := by decide +kernel
theorem dX6_series_2 : decode cX6_series 2 = .ok (.lconst 0, 1) := by decide +kernel
theorem dX6_series_3 : decode cX6_series 3 = .ok (.aload_n 0, 1) := by decide +kernel
theorem dX6_series_4 : decode cX6_series 4 = .ok (.getfield 81, 3) := by decide +kernel
theorem dX6_series_7 : decode cX6_series 7 = .ok (.iconst 1, 1) := by decide +kernel
theorem dX6_series_8 : decode cX6_series 8 = .ok (.isub, 1) := by decide +kernel
theorem dX6_series_9 : decode cX6_series 9 = .ok (.i2l, 1) := by decide +kernel
theorem dX6_series_10 : decode cX6_series 10 = .ok (.invokestatic 69, 3) := by decide +kernel
theorem dX6_series_13 : decode cX6_series 13 = .ok (.ifCond .ne 5, 3) := by decide +kernel
theorem dX6_series_16 : decode cX6_series 16 = .ok (.iconst (-1), 1) := by decide +kernel
theorem dX6_series_17 : decode cX6_series 17 = .ok (.ireturn, 1) := by decide +kernel
theorem dX6_series_18 : decode cX6_series 18 = .ok (.iload_n 2, 1) := by decide +kernel
theorem dX6_series_19 : decode cX6_series 19 = .ok (.tableswitch 79 0 5 #[37, 44, 51, 58, 65, 72], 37) := by decide +kernel
theorem dX6_series_56 : decode cX6_series 56 = .ok (.aload_n 0, 1) := by decide +kernel
theorem dX6_series_57 : decode cX6_series 57 = .ok (.getfield 17, 3) := by decide +kernel
theorem dX6_series_60 : decode cX6_series 60 = .ok (.iload_n 1, 1) := by decide +kernel
theorem dX6_series_61 : decode cX6_series 61 = .ok (.iaload, 1) := by decide +kernel
theorem dX6_series_62 : decode cX6_series 62 = .ok (.ireturn, 1) := by decide +kernel
theorem dX6_series_63 : decode cX6_series 63 = .ok (.aload_n 0, 1) := by decide +kernel
theorem dX6_series_64 : decode cX6_series 64 = .ok (.getfield 20, 3) := by decide +kernel
theorem dX6_series_67 : decode cX6_series 67 = .ok (.iload_n 1, 1) := by decide +kernel
theorem dX6_series_68 : decode cX6_series 68 = .ok (.iaload, 1) := by decide +kernel
theorem dX6_series_69 : decode cX6_series 69 = .ok (.ireturn, 1) := by decide +kernel
theorem dX6_series_70 : decode cX6_series 70 = .ok (.aload_n 0, 1) := by decide +kernel
theorem dX6_series_71 : decode cX6_series 71 = .ok (.getfield 23, 3) := by decide +kernel
theorem dX6_series_74 : decode cX6_series 74 = .ok (.iload_n 1, 1) := by decide +kernel
theorem dX6_series_75 : decode cX6_series 75 = .ok (.iaload, 1) := by decide +kernel
theorem dX6_series_76 : decode cX6_series 76 = .ok (.ireturn, 1) := by decide +kernel
theorem dX6_series_77 : decode cX6_series 77 = .ok (.aload_n 0, 1) := by decide +kernel
theorem dX6_series_78 : decode cX6_series 78 = .ok (.getfield 26, 3) := by decide +kernel
theorem dX6_series_81 : decode cX6_series 81 = .ok (.iload_n 1, 1) := by decide +kernel
theorem dX6_series_82 : decode cX6_series 82 = .ok (.iaload, 1) := by decide +kernel
theorem dX6_series_83 : decode cX6_series 83 = .ok (.ireturn, 1) := by decide +kernel
theorem dX6_series_84 : decode cX6_series 84 = .ok (.aload_n 0, 1) := by decide +kernel
theorem dX6_series_85 : decode cX6_series 85 = .ok (.getfield 29, 3) := by decide +kernel
theorem dX6_series_88 : decode cX6_series 88 = .ok (.iload_n 1, 1) := by decide +kernel
theorem dX6_series_89 : decode cX6_series 89 = .ok (.iaload, 1) := by decide +kernel
theorem dX6_series_90 : decode cX6_series 90 = .ok (.ireturn, 1) := by decide +kernel
theorem dX6_series_91 : decode cX6_series 91 = .ok (.aload_n 0, 1) := by decide +kernel
theorem dX6_series_92 : decode cX6_series 92 = .ok (.getfield 32, 3) := by decide +kernel
theorem dX6_series_95 : decode cX6_series 95 = .ok (.iload_n 1, 1) := by decide +kernel
theorem dX6_series_96 : decode cX6_series 96 = .ok (.iaload, 1) := by decide +kernel
theorem dX6_series_97 : decode cX6_series 97 = .ok (.ireturn, 1) := by decide +kernel
theorem dX6_series_98 : decode cX6_series 98 = .ok (.bipush (-2), 2) := by decide +kernel
theorem dX6_series_100 : decode cX6_series 100 = .ok (.ireturn, 1) := by decide +kernel
set_option maxRecDepth 20000 in
theorem ggX6_find_X6_isName : GoodIn wsX6_find wsX6_isName := goodIn_r _ [4, 5, 6, 7, 3, 8] (by decide +kernel) (by decide +kernel)
set_option maxRecDepth 20000 in
theorem gX6_find_X6_isName : GoodIn wsX6_find (va_wsS RX6 84 yX6_isName wsX6_isName) := goodIn_app (goodIn_of _ (by decide +kernel)) ggX6_find_X6_isName
set_option maxRecDepth 20000 in
theorem ggX6_find_X6_place : GoodIn wsX6_find wsX6_place := goodIn_r _ [12, 13, 14, 15, 16, 17, 18, 19, 20, 21, 22, 23, 24, 25, 26, 27, 28, 29, 30, 31, 32, 33, 34, 35, 36, 37] (by decide +kernel) (by decide +kernel)
set_option maxRecDepth 20000 in
theorem gX6_find_X6_place : GoodIn wsX6_find (wsV RX6 90 RX6 yX6_place wsX6_place) := goodIn_app (goodIn_of _ (by decide +kernel)) ggX6_find_X6_place
theorem dX6_find_0 : decode cX6_find 0 = .ok (.iload_n 1, 1) := by decide +kernel
theorem dX6_find_1 : decode cX6_find 1 = .ok (.invokestatic 84, 3) := by decide +kernel
theorem dX6_find_4 : decode cX6_find 4 = .ok (.ifCond .eq 11, 3) := by decide +kernel
theorem dX6_find_7 : decode cX6_find 7 = .ok (.aload_n 0, 1) := by decide +kernel
theorem dX6_find_8 : decode cX6_find 8 = .ok (.iload_n 1, 1) := by decide +kernel
theorem dX6_find_9 : decode cX6_find 9 = .ok (.invokevirtual 90, 3) := by decide +kernel
theorem dX6_find_12 : decode cX6_find 12 = .ok (.goto 5, 3) := by decide +kernel
theorem dX6_find_15 : decode cX6_find 15 = .ok (.bipush (-2), 2) := by decide +kernel
theorem dX6_find_17 : decode cX6_find 17 = .ok (.ireturn, 1) := by decide +kernel
theorem dX6_growthOf_0 : decode cX6_growthOf 0 = .ok (.lconst 0, 1) := by decide +kernel
theorem dX6_growthOf_1 : decode cX6_growthOf 1 = .ok (.lstore 4, 2) := by decide +kernel
theorem dX6_growthOf_3 : decode cX6_growthOf 3 = .ok (.iconst 0, 1) := by decide +kernel
theorem dX6_growthOf_4 : decode cX6_growthOf 4 = .ok (.istore 6, 2) := by decide +kernel
theorem dX6_growthOf_6 : decode cX6_growthOf 6 = .ok (.iload 6, 2) := by decide +kernel
theorem dX6_growthOf_8 : decode cX6_growthOf 8 = .ok (.aload_n 0, 1) := by decide +kernel
theorem dX6_growthOf_9 : decode cX6_growthOf 9 = .ok (.getfield 94, 3) := by decide +kernel
theorem dX6_growthOf_12 : decode cX6_growthOf 12 = .ok (.if_icmp .ge 59, 3) := by decide +kernel
theorem dX6_growthOf_15 : decode cX6_growthOf 15 = .ok (.lload 4, 2) := by decide +kernel
theorem dX6_growthOf_17 : decode cX6_growthOf 17 = .ok (.aload_n 0, 1) := by decide +kernel
theorem dX6_growthOf_18 : decode cX6_growthOf 18 = .ok (.getfield 35, 3) := by decide +kernel
theorem dX6_growthOf_21 : decode cX6_growthOf 21 = .ok (.iload 6, 2) := by decide +kernel
theorem dX6_growthOf_23 : decode cX6_growthOf 23 = .ok (.iaload, 1) := by decide +kernel
theorem dX6_growthOf_24 : decode cX6_growthOf 24 = .ok (.iload_n 1, 1) := by decide +kernel
theorem dX6_growthOf_25 : decode cX6_growthOf 25 = .ok (.if_icmp .ne 36, 3) := by decide +kernel
theorem dX6_growthOf_28 : decode cX6_growthOf 28 = .ok (.aload_n 0, 1) := by decide +kernel
theorem dX6_growthOf_29 : decode cX6_growthOf 29 = .ok (.getfield 38, 3) := by decide +kernel
theorem dX6_growthOf_32 : decode cX6_growthOf 32 = .ok (.iload 6, 2) := by decide +kernel
theorem dX6_growthOf_34 : decode cX6_growthOf 34 = .ok (.iaload, 1) := by decide +kernel
theorem dX6_growthOf_35 : decode cX6_growthOf 35 = .ok (.iload_n 2, 1) := by decide +kernel
theorem dX6_growthOf_36 : decode cX6_growthOf 36 = .ok (.if_icmp .lt 25, 3) := by decide +kernel
theorem dX6_growthOf_39 : decode cX6_growthOf 39 = .ok (.aload_n 0, 1) := by decide +kernel
theorem dX6_growthOf_40 : decode cX6_growthOf 40 = .ok (.getfield 38, 3) := by decide +kernel
theorem dX6_growthOf_43 : decode cX6_growthOf 43 = .ok (.iload 6, 2) := by decide +kernel
theorem dX6_growthOf_45 : decode cX6_growthOf 45 = .ok (.iaload, 1) := by decide +kernel
theorem dX6_growthOf_46 : decode cX6_growthOf 46 = .ok (.iload_n 3, 1) := by decide +kernel
theorem dX6_growthOf_47 : decode cX6_growthOf 47 = .ok (.if_icmp .gt 14, 3) := by decide +kernel
theorem dX6_growthOf_50 : decode cX6_growthOf 50 = .ok (.aload_n 0, 1) := by decide +kernel
theorem dX6_growthOf_51 : decode cX6_growthOf 51 = .ok (.getfield 41, 3) := by decide +kernel
theorem dX6_growthOf_54 : decode cX6_growthOf 54 = .ok (.iload 6, 2) := by decide +kernel
theorem dX6_growthOf_56 : decode cX6_growthOf 56 = .ok (.iaload, 1) := by decide +kernel
theorem dX6_growthOf_57 : decode cX6_growthOf 57 = .ok (.i2l, 1) := by decide +kernel
theorem dX6_growthOf_58 : decode cX6_growthOf 58 = .ok (.goto 4, 3) := by decide +kernel
theorem dX6_growthOf_61 : decode cX6_growthOf 61 = .ok (.lconst 0, 1) := by decide +kernel
theorem dX6_growthOf_62 : decode cX6_growthOf 62 = .ok (.ladd, 1) := by decide +kernel
theorem dX6_growthOf_63 : decode cX6_growthOf 63 = .ok (.lstore 4, 2) := by decide +kernel
theorem dX6_growthOf_65 : decode cX6_growthOf 65 = .ok (.iinc 6 1, 3) := by decide +kernel
theorem dX6_growthOf_68 : decode cX6_growthOf 68 = .ok (.goto (-62), 3) := by decide +kernel
theorem dX6_growthOf_71 : decode cX6_growthOf 71 = .ok (.lload 4, 2) := by decide +kernel
theorem dX6_growthOf_73 : decode cX6_growthOf 73 = .ok (.lreturn, 1) := by decide +kernel
set_option maxRecDepth 20000 in
theorem ggX6_growth_X6_in : GoodIn wsX6_growth wsX6_in := goodIn_r _ [7] (by decide +kernel) (by decide +kernel)
set_option maxRecDepth 20000 in
theorem gX6_growth_X6_in : GoodIn wsX6_growth (va_wsS RX6 69 yX6_in wsX6_in) := goodIn_app (goodIn_of _ (by decide +kernel)) ggX6_growth_X6_in
set_option maxRecDepth 20000 in
theorem ggX6_growth_X6_isSpan : GoodIn wsX6_growth wsX6_isSpan := goodIn_r _ [11, 12, 4, 5, 6, 7, 21, 22, 23, 24, 25, 26, 27, 28, 29, 30, 31, 32, 33, 34, 35, 36, 37, 38, 39, 40, 41, 42, 43] (by decide +kernel) (by decide +kernel)
set_option maxRecDepth 20000 in
theorem gX6_growth_X6_isSpan : GoodIn wsX6_growth (wsV RX6 99 RX6 yX6_isSpan wsX6_isSpan) := goodIn_app (goodIn_of _ (by decide +kernel)) ggX6_growth_X6_isSpan
set_option maxRecDepth 20000 in
theorem ggX6_growth_X6_growthOf : GoodIn wsX6_growth wsX6_growthOf := goodIn_r _ [16, 17, 18, 19, 20, 21, 22, 23, 24, 25, 26, 27, 28, 29, 30, 31, 32, 33, 34, 35, 36, 37, 38, 39, 40, 41, 42, 43] (by decide +kernel) (by decide +kernel)
set_option maxRecDepth 20000 in
theorem gX6_growth_X6_growthOf : GoodIn wsX6_growth (wsV RX6 103 RX6 yX6_growthOf wsX6_growthOf) := goodIn_app (goodIn_of _ (by decide +kernel)) ggX6_growth_X6_growthOf
theorem dX6_growth_0 : decode cX6_growth 0 = .ok (.iload_n 1, 1) := by decide +kernel
theorem dX6_growth_1 : decode cX6_growth 1 = .ok (.i2l, 1) := by decide +kernel
theorem dX6_growth_2 : decode cX6_growth 2 = .ok (.lconst 0, 1) := by decide +kernel
theorem dX6_growth_3 : decode cX6_growth 3 = .ok (.aload_n 0, 1) := by decide +kernel
theorem dX6_growth_4 : decode cX6_growth 4 = .ok (.getfield 81, 3) := by decide +kernel
theorem dX6_growth_7 : decode cX6_growth 7 = .ok (.iconst 1, 1) := by decide +kernel
theorem dX6_growth_8 : decode cX6_growth 8 = .ok (.isub, 1) := by decide +kernel
theorem dX6_growth_9 : decode cX6_growth 9 = .ok (.i2l, 1) := by decide +kernel
theorem dX6_growth_10 : decode cX6_growth 10 = .ok (.invokestatic 69, 3) := by decide +kernel
theorem dX6_growth_13 : decode cX6_growth 13 = .ok (.ifCond .ne 7, 3) := by decide +kernel
theorem dX6_growth_16 : decode cX6_growth 16 = .ok (.ldc2_w 97, 3) := by decide +kernel
theorem dX6_growth_19 : decode cX6_growth 19 = .ok (.lreturn, 1) := by decide +kernel
theorem dX6_growth_20 : decode cX6_growth 20 = .ok (.aload_n 0, 1) := by decide +kernel
theorem dX6_growth_21 : decode cX6_growth 21 = .ok (.iload_n 2, 1) := by decide +kernel
theorem dX6_growth_22 : decode cX6_growth 22 = .ok (.iload_n 3, 1) := by decide +kernel
theorem dX6_growth_23 : decode cX6_growth 23 = .ok (.invokevirtual 99, 3) := by decide +kernel
theorem dX6_growth_26 : decode cX6_growth 26 = .ok (.ifCond .eq 13, 3) := by decide +kernel
theorem dX6_growth_29 : decode cX6_growth 29 = .ok (.aload_n 0, 1) := by decide +kernel
theorem dX6_growth_30 : decode cX6_growth 30 = .ok (.iload_n 1, 1) := by decide +kernel
theorem dX6_growth_31 : decode cX6_growth 31 = .ok (.iload_n 2, 1) := by decide +kernel
theorem dX6_growth_32 : decode cX6_growth 32 = .ok (.iload_n 3, 1) := by decide +kernel
theorem dX6_growth_33 : decode cX6_growth 33 = .ok (.invokevirtual 103, 3) := by decide +kernel
theorem dX6_growth_36 : decode cX6_growth 36 = .ok (.goto 6, 3) := by decide +kernel
theorem dX6_growth_39 : decode cX6_growth 39 = .ok (.ldc2_w 107, 3) := by decide +kernel
theorem dX6_growth_42 : decode cX6_growth 42 = .ok (.lreturn, 1) := by decide +kernel
theorem dX6_look_0 : decode cX6_look 0 = .ok (.iconst 0, 1) := by decide +kernel
theorem dX6_look_1 : decode cX6_look 1 = .ok (.istore_n 3, 1) := by decide +kernel
theorem dX6_look_2 : decode cX6_look 2 = .ok (.iconst 0, 1) := by decide +kernel
theorem dX6_look_3 : decode cX6_look 3 = .ok (.istore 4, 2) := by decide +kernel
theorem dX6_look_5 : decode cX6_look 5 = .ok (.iload 4, 2) := by decide +kernel
theorem dX6_look_7 : decode cX6_look 7 = .ok (.aload_n 0, 1) := by decide +kernel
theorem dX6_look_8 : decode cX6_look 8 = .ok (.getfield 81, 3) := by decide +kernel
theorem dX6_look_11 : decode cX6_look 11 = .ok (.if_icmp .ge 17, 3) := by decide +kernel
theorem dX6_look_14 : decode cX6_look 14 = .ok (.aload_n 0, 1) := by decide +kernel
theorem dX6_look_15 : decode cX6_look 15 = .ok (.getfield 44, 3) := by decide +kernel
theorem dX6_look_18 : decode cX6_look 18 = .ok (.iload 4, 2) := by decide +kernel
theorem dX6_look_20 : decode cX6_look 20 = .ok (.iconst 0, 1) := by decide +kernel
theorem dX6_look_21 : decode cX6_look 21 = .ok (.bastore, 1) := by decide +kernel
theorem dX6_look_22 : decode cX6_look 22 = .ok (.iinc 4 1, 3) := by decide +kernel
theorem dX6_look_25 : decode cX6_look 25 = .ok (.goto (-20), 3) := by decide +kernel
theorem dX6_look_28 : decode cX6_look 28 = .ok (.iconst 0, 1) := by decide +kernel
theorem dX6_look_29 : decode cX6_look 29 = .ok (.istore 4, 2) := by decide +kernel
theorem dX6_look_31 : decode cX6_look 31 = .ok (.iload 4, 2) := by decide +kernel
theorem dX6_look_33 : decode cX6_look 33 = .ok (.aload_n 0, 1) := by decide +kernel
theorem dX6_look_34 : decode cX6_look 34 = .ok (.getfield 94, 3) := by decide +kernel
theorem dX6_look_37 : decode cX6_look 37 = .ok (.if_icmp .ge 62, 3) := by decide +kernel
theorem dX6_look_40 : decode cX6_look 40 = .ok (.aload_n 0, 1) := by decide +kernel
theorem dX6_look_41 : decode cX6_look 41 = .ok (.getfield 38, 3) := by decide +kernel
theorem dX6_look_44 : decode cX6_look 44 = .ok (.iload 4, 2) := by decide +kernel
theorem dX6_look_46 : decode cX6_look 46 = .ok (.iaload, 1) := by decide +kernel
theorem dX6_look_47 : decode cX6_look 47 = .ok (.iload_n 1, 1) := by decide +kernel
theorem dX6_look_48 : decode cX6_look 48 = .ok (.if_icmp .lt 45, 3) := by decide +kernel
theorem dX6_look_51 : decode cX6_look 51 = .ok (.aload_n 0, 1) := by decide +kernel
theorem dX6_look_52 : decode cX6_look 52 = .ok (.getfield 38, 3) := by decide +kernel
theorem dX6_look_55 : decode cX6_look 55 = .ok (.iload 4, 2) := by decide +kernel
theorem dX6_look_57 : decode cX6_look 57 = .ok (.iaload, 1) := by decide +kernel
theorem dX6_look_58 : decode cX6_look 58 = .ok (.iload_n 2, 1) := by decide +kernel
theorem dX6_look_59 : decode cX6_look 59 = .ok (.if_icmp .gt 34, 3) := by decide +kernel
theorem dX6_look_62 : decode cX6_look 62 = .ok (.aload_n 0, 1) := by decide +kernel
theorem dX6_look_63 : decode cX6_look 63 = .ok (.getfield 44, 3) := by decide +kernel
theorem dX6_look_66 : decode cX6_look 66 = .ok (.aload_n 0, 1) := by decide +kernel
theorem dX6_look_67 : decode cX6_look 67 = .ok (.getfield 35, 3) := by decide +kernel
theorem dX6_look_70 : decode cX6_look 70 = .ok (.iload 4, 2) := by decide +kernel
theorem dX6_look_72 : decode cX6_look 72 = .ok (.iaload, 1) := by decide +kernel
theorem dX6_look_73 : decode cX6_look 73 = .ok (.baload, 1) := by decide +kernel
theorem dX6_look_74 : decode cX6_look 74 = .ok (.ifCond .ne 19, 3) := by decide +kernel
theorem dX6_look_77 : decode cX6_look 77 = .ok (.aload_n 0, 1) := by decide +kernel
theorem dX6_look_78 : decode cX6_look 78 = .ok (.getfield 44, 3) := by decide +kernel
theorem dX6_look_81 : decode cX6_look 81 = .ok (.aload_n 0, 1) := by decide +kernel
theorem dX6_look_82 : decode cX6_look 82 = .ok (.getfield 35, 3) := by decide +kernel
theorem dX6_look_85 : decode cX6_look 85 = .ok (.iload 4, 2) := by decide +kernel
theorem dX6_look_87 : decode cX6_look 87 = .ok (.iaload, 1) := by decide +kernel
theorem dX6_look_88 : decode cX6_look 88 = .ok (.iconst 1, 1) := by decide +kernel
theorem dX6_look_89 : decode cX6_look 89 = .ok (.bastore, 1) := by decide +kernel
theorem dX6_look_90 : decode cX6_look 90 = .ok (.iinc 3 1, 3) := by decide +kernel
theorem dX6_look_93 : decode cX6_look 93 = .ok (.iinc 4 1, 3) := by decide +kernel
theorem dX6_look_96 : decode cX6_look 96 = .ok (.goto (-65), 3) := by decide +kernel
theorem dX6_look_99 : decode cX6_look 99 = .ok (.iload_n 3, 1) := by decide +kernel
theorem dX6_look_100 : decode cX6_look 100 = .ok (.ireturn, 1) := by decide +kernel
theorem dX6_note_0 : decode cX6_note 0 = .ok (.aload_n 0, 1) := by decide +kernel
theorem dX6_note_1 : decode cX6_note 1 = .ok (.getfield 109, 3) := by decide +kernel
theorem dX6_note_4 : decode cX6_note 4 = .ok (.istore_n 2, 1) := by decide +kernel
theorem dX6_note_5 : decode cX6_note 5 = .ok (.iload_n 2, 1) := by decide +kernel
theorem dX6_note_6 : decode cX6_note 6 = .ok (.ifCond .le 21, 3) := by decide +kernel
theorem dX6_note_9 : decode cX6_note 9 = .ok (.aload_n 0, 1) := by decide +kernel
theorem dX6_note_10 : decode cX6_note 10 = .ok (.getfield 47, 3) := by decide +kernel
theorem dX6_note_13 : decode cX6_note 13 = .ok (.iload_n 2, 1) := by decide +kernel
theorem dX6_note_14 : decode cX6_note 14 = .ok (.iconst 1, 1) := by decide +kernel
theorem dX6_note_15 : decode cX6_note 15 = .ok (.isub, 1) := by decide +kernel
theorem dX6_note_16 : decode cX6_note 16 = .ok (.iaload, 1) := by decide +kernel
theorem dX6_note_17 : decode cX6_note 17 = .ok (.iload_n 1, 1) := by decide +kernel
theorem dX6_note_18 : decode cX6_note 18 = .ok (.if_icmp .le 9, 3) := by decide +kernel
theorem dX6_note_21 : decode cX6_note 21 = .ok (.iinc 2 (-1), 3) := by decide +kernel
theorem dX6_note_24 : decode cX6_note 24 = .ok (.goto (-19), 3) := by decide +kernel
theorem dX6_note_27 : decode cX6_note 27 = .ok (.iload_n 2, 1) := by decide +kernel
theorem dX6_note_28 : decode cX6_note 28 = .ok (.ifCond .le 16, 3) := by decide +kernel
theorem dX6_note_31 : decode cX6_note 31 = .ok (.aload_n 0, 1) := by decide +kernel
theorem dX6_note_32 : decode cX6_note 32 = .ok (.getfield 47, 3) := by decide +kernel
theorem dX6_note_35 : decode cX6_note 35 = .ok (.iload_n 2, 1) := by decide +kernel
theorem dX6_note_36 : decode cX6_note 36 = .ok (.iconst 1, 1) := by decide +kernel
theorem dX6_note_37 : decode cX6_note 37 = .ok (.isub, 1) := by decide +kernel
theorem dX6_note_38 : decode cX6_note 38 = .ok (.iaload, 1) := by decide +kernel
theorem dX6_note_39 : decode cX6_note 39 = .ok (.iload_n 1, 1) := by decide +kernel
theorem dX6_note_40 : decode cX6_note 40 = .ok (.if_icmp .ne 4, 3) := by decide +kernel
theorem dX6_note_43 : decode cX6_note 43 = .ok (.return_, 1) := by decide +kernel
theorem dX6_note_44 : decode cX6_note 44 = .ok (.aload_n 0, 1) := by decide +kernel
theorem dX6_note_45 : decode cX6_note 45 = .ok (.getfield 109, 3) := by decide +kernel
theorem dX6_note_48 : decode cX6_note 48 = .ok (.istore_n 3, 1) := by decide +kernel
theorem dX6_note_49 : decode cX6_note 49 = .ok (.iload_n 3, 1) := by decide +kernel
theorem dX6_note_50 : decode cX6_note 50 = .ok (.iload_n 2, 1) := by decide +kernel
theorem dX6_note_51 : decode cX6_note 51 = .ok (.if_icmp .le 23, 3) := by decide +kernel
theorem dX6_note_54 : decode cX6_note 54 = .ok (.aload_n 0, 1) := by decide +kernel
theorem dX6_note_55 : decode cX6_note 55 = .ok (.getfield 47, 3) := by decide +kernel
theorem dX6_note_58 : decode cX6_note 58 = .ok (.iload_n 3, 1) := by decide +kernel
theorem dX6_note_59 : decode cX6_note 59 = .ok (.aload_n 0, 1) := by decide +kernel
theorem dX6_note_60 : decode cX6_note 60 = .ok (.getfield 47, 3) := by decide +kernel
theorem dX6_note_63 : decode cX6_note 63 = .ok (.iload_n 3, 1) := by decide +kernel
theorem dX6_note_64 : decode cX6_note 64 = .ok (.iconst 1, 1) := by decide +kernel
theorem dX6_note_65 : decode cX6_note 65 = .ok (.isub, 1) := by decide +kernel
theorem dX6_note_66 : decode cX6_note 66 = .ok (.iaload, 1) := by decide +kernel
theorem dX6_note_67 : decode cX6_note 67 = .ok (.iastore, 1) := by decide +kernel
theorem dX6_note_68 : decode cX6_note 68 = .ok (.iinc 3 (-1), 3) := by decide +kernel
theorem dX6_note_71 : decode cX6_note 71 = .ok (.goto (-22), 3) := by decide +kernel
theorem dX6_note_74 : decode cX6_note 74 = .ok (.aload_n 0, 1) := by decide +kernel
theorem dX6_note_75 : decode cX6_note 75 = .ok (.getfield 47, 3) := by decide +kernel
theorem dX6_note_78 : decode cX6_note 78 = .ok (.iload_n 2, 1) := by decide +kernel
theorem dX6_note_79 : decode cX6_note 79 = .ok (.iload_n 1, 1) := by decide +kernel
theorem dX6_note_80 : decode cX6_note 80 = .ok (.iastore, 1) := by decide +kernel
theorem dX6_note_81 : decode cX6_note 81 = .ok (.aload_n 0, 1) := by decide +kernel
theorem dX6_note_82 : decode cX6_note 82 = .ok (.dup, 1) := by decide +kernel
theorem dX6_note_83 : decode cX6_note 83 = .ok (.getfield 109, 3) := by decide +kernel
theorem dX6_note_86 : decode cX6_note 86 = .ok (.iconst 1, 1) := by decide +kernel
theorem dX6_note_87 : decode cX6_note 87 = .ok (.iadd, 1) := by decide +kernel
theorem dX6_note_88 : decode cX6_note 88 = .ok (.putfield 109, 3) := by decide +kernel
theorem dX6_note_91 : decode cX6_note 91 = .ok (.return_, 1) := by decide +kernel
set_option maxRecDepth 20000 in
theorem ggX6_seen_X6_isSpan : GoodIn wsX6_seen wsX6_isSpan := goodIn_r _ [5, 6, 7, 8, 4, 9, 19, 20, 21, 22, 23, 24, 25, 26, 27, 28, 29, 30, 31, 32, 33, 34, 35, 36, 37, 38, 39, 40, 41] (by decide +kernel) (by decide +kernel)
set_option maxRecDepth 20000 in
theorem gX6_seen_X6_isSpan : GoodIn wsX6_seen (wsV RX6 99 RX6 yX6_isSpan wsX6_isSpan) := goodIn_app (goodIn_of _ (by decide +kernel)) ggX6_seen_X6_isSpan
set_option maxRecDepth 20000 in
theorem ggX6_seen_X6_look : GoodIn wsX6_seen wsX6_look := goodIn_r _ [13, 14, 15, 16, 17, 18, 19, 20, 21, 22, 23, 24, 25, 26, 27, 28, 29, 30, 31, 32, 33, 34, 35, 36, 37, 38, 39, 40, 41] (by decide +kernel) (by decide +kernel)
set_option maxRecDepth 20000 in
theorem gX6_seen_X6_look : GoodIn wsX6_seen (wsV RX6 112 RX6 yX6_look wsX6_look) := goodIn_app (goodIn_of _ (by decide +kernel)) ggX6_seen_X6_look
theorem dX6_seen_0 : decode cX6_seen 0 = .ok (.aload_n 0, 1) := by decide +kernel
theorem dX6_seen_1 : decode cX6_seen 1 = .ok (.iload_n 1, 1) := by decide +kernel
theorem dX6_seen_2 : decode cX6_seen 2 = .ok (.iload_n 2, 1) := by decide +kernel
theorem dX6_seen_3 : decode cX6_seen 3 = .ok (.invokevirtual 99, 3) := by decide +kernel
theorem dX6_seen_6 : decode cX6_seen 6 = .ok (.ifCond .eq 12, 3) := by decide +kernel
theorem dX6_seen_9 : decode cX6_seen 9 = .ok (.aload_n 0, 1) := by decide +kernel
theorem dX6_seen_10 : decode cX6_seen 10 = .ok (.iload_n 1, 1) := by decide +kernel
theorem dX6_seen_11 : decode cX6_seen 11 = .ok (.iload_n 2, 1) := by decide +kernel
theorem dX6_seen_12 : decode cX6_seen 12 = .ok (.invokevirtual 112, 3) := by decide +kernel
theorem dX6_seen_15 : decode cX6_seen 15 = .ok (.goto 5, 3) := by decide +kernel
theorem dX6_seen_18 : decode cX6_seen 18 = .ok (.bipush (-2), 2) := by decide +kernel
theorem dX6_seen_20 : decode cX6_seen 20 = .ok (.ireturn, 1) := by decide +kernel
set_option maxRecDepth 20000 in
theorem ggX6_values_X6_isMark : GoodIn wsX6_values wsX6_isMark := goodIn_r _ [8, 9, 10, 11, 7, 12] (by decide +kernel) (by decide +kernel)
set_option maxRecDepth 20000 in
theorem gX6_values_X6_isMark : GoodIn wsX6_values (va_wsS RX6 116 yX6_isMark wsX6_isMark) := goodIn_app (goodIn_of _ (by decide +kernel)) ggX6_values_X6_isMark
set_option maxRecDepth 20000 in
theorem ggX6_values_X6_isSpan : GoodIn wsX6_values wsX6_isSpan := goodIn_r _ [16, 17, 10, 11, 7, 12, 33, 34, 35, 36, 37, 38, 39, 40, 41, 42, 43, 44, 45, 46, 47, 48, 49, 50, 51, 52, 53, 54, 55] (by decide +kernel) (by decide +kernel)
set_option maxRecDepth 20000 in
theorem gX6_values_X6_isSpan : GoodIn wsX6_values (wsV RX6 99 RX6 yX6_isSpan wsX6_isSpan) := goodIn_app (goodIn_of _ (by decide +kernel)) ggX6_values_X6_isSpan
set_option maxRecDepth 20000 in
theorem ggX6_values_X6_look : GoodIn wsX6_values wsX6_look := goodIn_r _ [21, 2, 3, 22, 23, 24, 33, 34, 35, 36, 37, 38, 39, 40, 41, 42, 43, 44, 45, 46, 47, 48, 49, 50, 51, 52, 53, 54, 55] (by decide +kernel) (by decide +kernel)
set_option maxRecDepth 20000 in
theorem gX6_values_X6_look : GoodIn wsX6_values (wsV RX6 112 RX6 yX6_look wsX6_look) := goodIn_app (goodIn_of _ (by decide +kernel)) ggX6_values_X6_look
set_option maxRecDepth 20000 in
theorem ggX6_values_X6_digit : GoodIn wsX6_values wsX6_digit := goodIn_r _ [27] (by decide +kernel) (by decide +kernel)
set_option maxRecDepth 20000 in
theorem gX6_values_X6_digit : GoodIn wsX6_values (va_wsS RX6 119 yX6_digit wsX6_digit) := goodIn_app (goodIn_of _ (by decide +kernel)) ggX6_values_X6_digit
set_option maxRecDepth 20000 in
theorem ggX6_values_X6_note : GoodIn wsX6_values wsX6_note := goodIn_r _ [31, 1, 32, 33, 34, 35, 36, 37, 38, 39, 40, 41, 42, 43, 44, 45, 46, 47, 48, 49, 50, 51, 52, 53, 54, 55] (by decide +kernel) (by decide +kernel)
set_option maxRecDepth 20000 in
theorem gX6_values_X6_note : GoodIn wsX6_values (wsV RX6 122 RX6 yX6_note wsX6_note) := goodIn_app (goodIn_of _ (by decide +kernel)) ggX6_values_X6_note
theorem dX6_values_0 : decode cX6_values 0 = .ok (.iload_n 1, 1) := by decide +kernel
theorem dX6_values_1 : decode cX6_values 1 = .ok (.invokestatic 116, 3) := by decide +kernel
theorem dX6_values_4 : decode cX6_values 4 = .ok (.ifCond .ne 5, 3) := by decide +kernel
theorem dX6_values_7 : decode cX6_values 7 = .ok (.iconst (-1), 1) := by decide +kernel
theorem dX6_values_8 : decode cX6_values 8 = .ok (.ireturn, 1) := by decide +kernel
theorem dX6_values_9 : decode cX6_values 9 = .ok (.aload_n 0, 1) := by decide +kernel
theorem dX6_values_10 : decode cX6_values 10 = .ok (.iload_n 2, 1) := by decide +kernel
theorem dX6_values_11 : decode cX6_values 11 = .ok (.iload_n 3, 1) := by decide +kernel
theorem dX6_values_12 : decode cX6_values 12 = .ok (.invokevirtual 99, 3) := by decide +kernel
theorem dX6_values_15 : decode cX6_values 15 = .ok (.ifCond .ne 6, 3) := by decide +kernel
theorem dX6_values_18 : decode cX6_values 18 = .ok (.bipush (-2), 2) := by decide +kernel
theorem dX6_values_20 : decode cX6_values 20 = .ok (.ireturn, 1) := by decide +kernel
theorem dX6_values_21 : decode cX6_values 21 = .ok (.aload_n 0, 1) := by decide +kernel
theorem dX6_values_22 : decode cX6_values 22 = .ok (.iload_n 2, 1) := by decide +kernel
theorem dX6_values_23 : decode cX6_values 23 = .ok (.iload_n 3, 1) := by decide +kernel
theorem dX6_values_24 : decode cX6_values 24 = .ok (.invokevirtual 112, 3) := by decide +kernel
theorem dX6_values_27 : decode cX6_values 27 = .ok (.istore 4, 2) := by decide +kernel
theorem dX6_values_29 : decode cX6_values 29 = .ok (.aload_n 0, 1) := by decide +kernel
theorem dX6_values_30 : decode cX6_values 30 = .ok (.iconst 0, 1) := by decide +kernel
theorem dX6_values_31 : decode cX6_values 31 = .ok (.putfield 109, 3) := by decide +kernel
theorem dX6_values_34 : decode cX6_values 34 = .ok (.iconst 0, 1) := by decide +kernel
theorem dX6_values_35 : decode cX6_values 35 = .ok (.istore 5, 2) := by decide +kernel
theorem dX6_values_37 : decode cX6_values 37 = .ok (.iload 5, 2) := by decide +kernel
theorem dX6_values_39 : decode cX6_values 39 = .ok (.aload_n 0, 1) := by decide +kernel
theorem dX6_values_40 : decode cX6_values 40 = .ok (.getfield 81, 3) := by decide +kernel
theorem dX6_values_43 : decode cX6_values 43 = .ok (.if_icmp .ge 34, 3) := by decide +kernel
theorem dX6_values_46 : decode cX6_values 46 = .ok (.aload_n 0, 1) := by decide +kernel
theorem dX6_values_47 : decode cX6_values 47 = .ok (.getfield 44, 3) := by decide +kernel
theorem dX6_values_50 : decode cX6_values 50 = .ok (.iload 5, 2) := by decide +kernel
theorem dX6_values_52 : decode cX6_values 52 = .ok (.baload, 1) := by decide +kernel
theorem dX6_values_53 : decode cX6_values 53 = .ok (.ifCond .eq 18, 3) := by decide +kernel
theorem dX6_values_56 : decode cX6_values 56 = .ok (.aload_n 0, 1) := by decide +kernel
theorem dX6_values_57 : decode cX6_values 57 = .ok (.aload_n 0, 1) := by decide +kernel
theorem dX6_values_58 : decode cX6_values 58 = .ok (.getfield 17, 3) := by decide +kernel
theorem dX6_values_61 : decode cX6_values 61 = .ok (.iload 5, 2) := by decide +kernel
theorem dX6_values_63 : decode cX6_values 63 = .ok (.iaload, 1) := by decide +kernel
theorem dX6_values_64 : decode cX6_values 64 = .ok (.iload_n 1, 1) := by decide +kernel
theorem dX6_values_65 : decode cX6_values 65 = .ok (.invokestatic 119, 3) := by decide +kernel
theorem dX6_values_68 : decode cX6_values 68 = .ok (.invokevirtual 122, 3) := by decide +kernel
theorem dX6_values_71 : decode cX6_values 71 = .ok (.iinc 5 1, 3) := by decide +kernel
theorem dX6_values_74 : decode cX6_values 74 = .ok (.goto (-37), 3) := by decide +kernel
theorem dX6_values_77 : decode cX6_values 77 = .ok (.aload_n 0, 1) := by decide +kernel
theorem dX6_values_78 : decode cX6_values 78 = .ok (.getfield 109, 3) := by decide +kernel
theorem dX6_values_81 : decode cX6_values 81 = .ok (.ireturn, 1) := by decide +kernel
set_option maxRecDepth 20000 in
theorem ggX6_unlikeWithout_X6_without : GoodIn wsX6_unlikeWithout wsX6_without := goodIn_r _ [8] (by decide +kernel) (by decide +kernel)
set_option maxRecDepth 20000 in
theorem gX6_unlikeWithout_X6_without : GoodIn wsX6_unlikeWithout (va_wsS RX6 126 yX6_without wsX6_without) := goodIn_app (goodIn_of _ (by decide +kernel)) ggX6_unlikeWithout_X6_without
set_option maxRecDepth 20000 in
theorem ggX6_unlikeWithout_X6_note : GoodIn wsX6_unlikeWithout wsX6_note := goodIn_r _ [12, 1, 13, 14, 15, 16, 17, 18, 19, 20, 21, 22, 23, 24, 25, 26, 27, 28, 29, 30, 31, 32, 33, 34, 35, 36] (by decide +kernel) (by decide +kernel)
set_option maxRecDepth 20000 in
theorem gX6_unlikeWithout_X6_note : GoodIn wsX6_unlikeWithout (wsV RX6 122 RX6 yX6_note wsX6_note) := goodIn_app (goodIn_of _ (by decide +kernel)) ggX6_unlikeWithout_X6_note
theorem dX6_unlikeWithout_0 : decode cX6_unlikeWithout 0 = .ok (.aload_n 0, 1) := by decide +kernel
theorem dX6_unlikeWithout_1 : decode cX6_unlikeWithout 1 = .ok (.iconst 0, 1) := by decide +kernel
theorem dX6_unlikeWithout_2 : decode cX6_unlikeWithout 2 = .ok (.putfield 109, 3) := by decide +kernel
theorem dX6_unlikeWithout_5 : decode cX6_unlikeWithout 5 = .ok (.iconst 0, 1) := by decide +kernel
theorem dX6_unlikeWithout_6 : decode cX6_unlikeWithout 6 = .ok (.istore_n 2, 1) := by decide +kernel
theorem dX6_unlikeWithout_7 : decode cX6_unlikeWithout 7 = .ok (.iload_n 2, 1) := by decide +kernel
theorem dX6_unlikeWithout_8 : decode cX6_unlikeWithout 8 = .ok (.aload_n 0, 1) := by decide +kernel
theorem dX6_unlikeWithout_9 : decode cX6_unlikeWithout 9 = .ok (.getfield 81, 3) := by decide +kernel
theorem dX6_unlikeWithout_12 : decode cX6_unlikeWithout 12 = .ok (.if_icmp .ge 32, 3) := by decide +kernel
theorem dX6_unlikeWithout_15 : decode cX6_unlikeWithout 15 = .ok (.aload_n 0, 1) := by decide +kernel
theorem dX6_unlikeWithout_16 : decode cX6_unlikeWithout 16 = .ok (.getfield 44, 3) := by decide +kernel
theorem dX6_unlikeWithout_19 : decode cX6_unlikeWithout 19 = .ok (.iload_n 2, 1) := by decide +kernel
theorem dX6_unlikeWithout_20 : decode cX6_unlikeWithout 20 = .ok (.baload, 1) := by decide +kernel
theorem dX6_unlikeWithout_21 : decode cX6_unlikeWithout 21 = .ok (.ifCond .eq 17, 3) := by decide +kernel
theorem dX6_unlikeWithout_24 : decode cX6_unlikeWithout 24 = .ok (.aload_n 0, 1) := by decide +kernel
theorem dX6_unlikeWithout_25 : decode cX6_unlikeWithout 25 = .ok (.aload_n 0, 1) := by decide +kernel
theorem dX6_unlikeWithout_26 : decode cX6_unlikeWithout 26 = .ok (.getfield 17, 3) := by decide +kernel
theorem dX6_unlikeWithout_29 : decode cX6_unlikeWithout 29 = .ok (.iload_n 2, 1) := by decide +kernel
theorem dX6_unlikeWithout_30 : decode cX6_unlikeWithout 30 = .ok (.iaload, 1) := by decide +kernel
theorem dX6_unlikeWithout_31 : decode cX6_unlikeWithout 31 = .ok (.iload_n 1, 1) := by decide +kernel
theorem dX6_unlikeWithout_32 : decode cX6_unlikeWithout 32 = .ok (.invokestatic 126, 3) := by decide +kernel
theorem dX6_unlikeWithout_35 : decode cX6_unlikeWithout 35 = .ok (.invokevirtual 122, 3) := by decide +kernel
theorem dX6_unlikeWithout_38 : decode cX6_unlikeWithout 38 = .ok (.iinc 2 1, 3) := by decide +kernel
theorem dX6_unlikeWithout_41 : decode cX6_unlikeWithout 41 = .ok (.goto (-34), 3) := by decide +kernel
theorem dX6_unlikeWithout_44 : decode cX6_unlikeWithout 44 = .ok (.aload_n 0, 1) := by decide +kernel
theorem dX6_unlikeWithout_45 : decode cX6_unlikeWithout 45 = .ok (.getfield 109, 3) := by decide +kernel
theorem dX6_unlikeWithout_48 : decode cX6_unlikeWithout 48 = .ok (.ireturn, 1) := by decide +kernel
set_option maxRecDepth 20000 in
theorem ggX6_unlike_X6_in : GoodIn wsX6_unlike wsX6_in := goodIn_r _ [5] (by decide +kernel) (by decide +kernel)
set_option maxRecDepth 20000 in
theorem gX6_unlike_X6_in : GoodIn wsX6_unlike (va_wsS RX6 69 yX6_in wsX6_in) := goodIn_app (goodIn_of _ (by decide +kernel)) ggX6_unlike_X6_in
set_option maxRecDepth 20000 in
theorem ggX6_unlike_X6_isSpan : GoodIn wsX6_unlike wsX6_isSpan := goodIn_r _ [9, 10, 2, 3, 4, 5, 34, 35, 36, 37, 38, 39, 40, 41, 42, 43, 44, 45, 46, 47, 48, 49, 50, 51, 52, 53, 54, 55, 56] (by decide +kernel) (by decide +kernel)
set_option maxRecDepth 20000 in
theorem gX6_unlike_X6_isSpan : GoodIn wsX6_unlike (wsV RX6 99 RX6 yX6_isSpan wsX6_isSpan) := goodIn_app (goodIn_of _ (by decide +kernel)) ggX6_unlike_X6_isSpan
set_option maxRecDepth 20000 in
theorem ggX6_unlike_X6_look : GoodIn wsX6_unlike wsX6_look := goodIn_r _ [14, 15, 16, 17, 18, 19, 34, 35, 36, 37, 38, 39, 40, 41, 42, 43, 44, 45, 46, 47, 48, 49, 50, 51, 52, 53, 54, 55, 56] (by decide +kernel) (by decide +kernel)
set_option maxRecDepth 20000 in
theorem gX6_unlike_X6_look : GoodIn wsX6_unlike (wsV RX6 112 RX6 yX6_look wsX6_look) := goodIn_app (goodIn_of _ (by decide +kernel)) ggX6_unlike_X6_look
set_option maxRecDepth 20000 in
theorem ggX6_unlike_X6_unlikeWithout : GoodIn wsX6_unlike wsX6_unlikeWithout := goodIn_r _ [23, 24, 15, 16, 25, 26, 27, 4, 28, 29, 30, 31, 32, 33, 34, 35, 36, 37, 38, 39, 40, 41, 42, 43, 44, 45, 46, 47, 48, 49, 50, 51, 52, 53, 54, 55, 56] (by decide +kernel) (by decide +kernel)
set_option maxRecDepth 20000 in
theorem gX6_unlike_X6_unlikeWithout : GoodIn wsX6_unlike (wsV RX6 131 RX6 yX6_unlikeWithout wsX6_unlikeWithout) := goodIn_app (goodIn_of _ (by decide +kernel)) ggX6_unlike_X6_unlikeWithout
theorem dX6_unlike_0 : decode cX6_unlike 0 = .ok (.iload_n 1, 1) := by decide +kernel
theorem dX6_unlike_1 : decode cX6_unlike 1 = .ok (.i2l, 1) := by decide +kernel
theorem dX6_unlike_2 : decode cX6_unlike 2 = .ok (.lconst 0, 1) := by decide +kernel
theorem dX6_unlike_3 : decode cX6_unlike 3 = .ok (.ldc2_w 129, 3) := by decide +kernel
theorem dX6_unlike_6 : decode cX6_unlike 6 = .ok (.invokestatic 69, 3) := by decide +kernel
theorem dX6_unlike_9 : decode cX6_unlike 9 = .ok (.ifCond .eq 12, 3) := by decide +kernel
theorem dX6_unlike_12 : decode cX6_unlike 12 = .ok (.aload_n 0, 1) := by decide +kernel
theorem dX6_unlike_13 : decode cX6_unlike 13 = .ok (.iload_n 2, 1) := by decide +kernel
theorem dX6_unlike_14 : decode cX6_unlike 14 = .ok (.iload_n 3, 1) := by decide +kernel
theorem dX6_unlike_15 : decode cX6_unlike 15 = .ok (.invokevirtual 99, 3) := by decide +kernel
theorem dX6_unlike_18 : decode cX6_unlike 18 = .ok (.ifCond .ne 6, 3) := by decide +kernel
theorem dX6_unlike_21 : decode cX6_unlike 21 = .ok (.bipush (-2), 2) := by decide +kernel
theorem dX6_unlike_23 : decode cX6_unlike 23 = .ok (.ireturn, 1) := by decide +kernel
theorem dX6_unlike_24 : decode cX6_unlike 24 = .ok (.aload_n 0, 1) := by decide +kernel
theorem dX6_unlike_25 : decode cX6_unlike 25 = .ok (.iload_n 2, 1) := by decide +kernel
theorem dX6_unlike_26 : decode cX6_unlike 26 = .ok (.iload_n 3, 1) := by decide +kernel
theorem dX6_unlike_27 : decode cX6_unlike 27 = .ok (.invokevirtual 112, 3) := by decide +kernel
theorem dX6_unlike_30 : decode cX6_unlike 30 = .ok (.istore 4, 2) := by decide +kernel
theorem dX6_unlike_32 : decode cX6_unlike 32 = .ok (.aload_n 0, 1) := by decide +kernel
theorem dX6_unlike_33 : decode cX6_unlike 33 = .ok (.iload_n 1, 1) := by decide +kernel
theorem dX6_unlike_34 : decode cX6_unlike 34 = .ok (.invokevirtual 131, 3) := by decide +kernel
theorem dX6_unlike_37 : decode cX6_unlike 37 = .ok (.ireturn, 1) := by decide +kernel
set_option maxRecDepth 20000 in
theorem ggX6_shorted_X6_digit : GoodIn wsX6_shorted wsX6_digit := goodIn_r _ [6] (by decide +kernel) (by decide +kernel)
set_option maxRecDepth 20000 in
theorem gX6_shorted_X6_digit : GoodIn wsX6_shorted (va_wsS RX6 119 yX6_digit wsX6_digit) := goodIn_app (goodIn_of _ (by decide +kernel)) ggX6_shorted_X6_digit
theorem dX6_shorted_0 : decode cX6_shorted 0 = .ok (.iconst 0, 1) := by decide +kernel
theorem dX6_shorted_1 : decode cX6_shorted 1 = .ok (.istore_n 3, 1) := by decide +kernel
theorem dX6_shorted_2 : decode cX6_shorted 2 = .ok (.iconst 0, 1) := by decide +kernel
theorem dX6_shorted_3 : decode cX6_shorted 3 = .ok (.istore 4, 2) := by decide +kernel
theorem dX6_shorted_5 : decode cX6_shorted 5 = .ok (.iload 4, 2) := by decide +kernel
theorem dX6_shorted_7 : decode cX6_shorted 7 = .ok (.bipush 6, 2) := by decide +kernel
theorem dX6_shorted_9 : decode cX6_shorted 9 = .ok (.if_icmp .ge 62, 3) := by decide +kernel
theorem dX6_shorted_12 : decode cX6_shorted 12 = .ok (.aload_n 0, 1) := by decide +kernel
theorem dX6_shorted_13 : decode cX6_shorted 13 = .ok (.getfield 7, 3) := by decide +kernel
theorem dX6_shorted_16 : decode cX6_shorted 16 = .ok (.bipush 6, 2) := by decide +kernel
theorem dX6_shorted_18 : decode cX6_shorted 18 = .ok (.iload_n 2, 1) := by decide +kernel
theorem dX6_shorted_19 : decode cX6_shorted 19 = .ok (.imul, 1) := by decide +kernel
theorem dX6_shorted_20 : decode cX6_shorted 20 = .ok (.iload 4, 2) := by decide +kernel
theorem dX6_shorted_22 : decode cX6_shorted 22 = .ok (.iadd, 1) := by decide +kernel
theorem dX6_shorted_23 : decode cX6_shorted 23 = .ok (.baload, 1) := by decide +kernel
theorem dX6_shorted_24 : decode cX6_shorted 24 = .ok (.ifCond .eq 7, 3) := by decide +kernel
theorem dX6_shorted_27 : decode cX6_shorted 27 = .ok (.iconst 0, 1) := by decide +kernel
theorem dX6_shorted_28 : decode cX6_shorted 28 = .ok (.goto 25, 3) := by decide +kernel
theorem dX6_shorted_31 : decode cX6_shorted 31 = .ok (.aload_n 0, 1) := by decide +kernel
theorem dX6_shorted_32 : decode cX6_shorted 32 = .ok (.getfield 13, 3) := by decide +kernel
theorem dX6_shorted_35 : decode cX6_shorted 35 = .ok (.bipush 48, 2) := by decide +kernel
theorem dX6_shorted_37 : decode cX6_shorted 37 = .ok (.iload_n 2, 1) := by decide +kernel
theorem dX6_shorted_38 : decode cX6_shorted 38 = .ok (.imul, 1) := by decide +kernel
theorem dX6_shorted_39 : decode cX6_shorted 39 = .ok (.bipush 8, 2) := by decide +kernel
theorem dX6_shorted_41 : decode cX6_shorted 41 = .ok (.iload 4, 2) := by decide +kernel
theorem dX6_shorted_43 : decode cX6_shorted 43 = .ok (.imul, 1) := by decide +kernel
theorem dX6_shorted_44 : decode cX6_shorted 44 = .ok (.iadd, 1) := by decide +kernel
theorem dX6_shorted_45 : decode cX6_shorted 45 = .ok (.iload_n 1, 1) := by decide +kernel
theorem dX6_shorted_46 : decode cX6_shorted 46 = .ok (.iload 4, 2) := by decide +kernel
theorem dX6_shorted_48 : decode cX6_shorted 48 = .ok (.invokestatic 119, 3) := by decide +kernel
theorem dX6_shorted_51 : decode cX6_shorted 51 = .ok (.iadd, 1) := by decide +kernel
theorem dX6_shorted_52 : decode cX6_shorted 52 = .ok (.iaload, 1) := by decide +kernel
theorem dX6_shorted_53 : decode cX6_shorted 53 = .ok (.istore 5, 2) := by decide +kernel
theorem dX6_shorted_55 : decode cX6_shorted 55 = .ok (.iload_n 3, 1) := by decide +kernel
theorem dX6_shorted_56 : decode cX6_shorted 56 = .ok (.iload 5, 2) := by decide +kernel
theorem dX6_shorted_58 : decode cX6_shorted 58 = .ok (.iconst 3, 1) := by decide +kernel
theorem dX6_shorted_59 : decode cX6_shorted 59 = .ok (.iload 4, 2) := by decide +kernel
theorem dX6_shorted_61 : decode cX6_shorted 61 = .ok (.imul, 1) := by decide +kernel
theorem dX6_shorted_62 : decode cX6_shorted 62 = .ok (.ishl, 1) := by decide +kernel
theorem dX6_shorted_63 : decode cX6_shorted 63 = .ok (.ior, 1) := by decide +kernel
theorem dX6_shorted_64 : decode cX6_shorted 64 = .ok (.istore_n 3, 1) := by decide +kernel
theorem dX6_shorted_65 : decode cX6_shorted 65 = .ok (.iinc 4 1, 3) := by decide +kernel
theorem dX6_shorted_68 : decode cX6_shorted 68 = .ok (.goto (-63), 3) := by decide +kernel
theorem dX6_shorted_71 : decode cX6_shorted 71 = .ok (.iload_n 3, 1) := by decide +kernel
theorem dX6_shorted_72 : decode cX6_shorted 72 = .ok (.ireturn, 1) := by decide +kernel
set_option maxRecDepth 20000 in
theorem ggX6_kept_X6_isSpan : GoodIn wsX6_kept wsX6_isSpan := goodIn_r _ [10, 11, 12, 13, 9, 14, 29, 30, 31, 32, 33, 34, 35, 36, 37, 38, 39, 40, 41, 42, 43, 44, 45, 46, 47, 48, 49, 50, 51] (by decide +kernel) (by decide +kernel)
set_option maxRecDepth 20000 in
theorem gX6_kept_X6_isSpan : GoodIn wsX6_kept (wsV RX6 99 RX6 yX6_isSpan wsX6_isSpan) := goodIn_app (goodIn_of _ (by decide +kernel)) ggX6_kept_X6_isSpan
set_option maxRecDepth 20000 in
theorem ggX6_kept_X6_shorted : GoodIn wsX6_kept wsX6_shorted := goodIn_r _ [18, 19, 20, 21, 22, 9, 23, 29, 30, 31, 32, 33, 34, 35, 36, 37, 38, 39, 40, 41, 42, 43, 44, 45, 46, 47, 48, 49, 50, 51] (by decide +kernel) (by decide +kernel)
set_option maxRecDepth 20000 in
theorem gX6_kept_X6_shorted : GoodIn wsX6_kept (wsV RX6 134 RX6 yX6_shorted wsX6_shorted) := goodIn_app (goodIn_of _ (by decide +kernel)) ggX6_kept_X6_shorted
set_option maxRecDepth 20000 in
theorem ggX6_kept_X6_note : GoodIn wsX6_kept wsX6_note := goodIn_r _ [27, 1, 28, 29, 30, 31, 32, 33, 34, 35, 36, 37, 38, 39, 40, 41, 42, 43, 44, 45, 46, 47, 48, 49, 50, 51] (by decide +kernel) (by decide +kernel)
set_option maxRecDepth 20000 in
theorem gX6_kept_X6_note : GoodIn wsX6_kept (wsV RX6 122 RX6 yX6_note wsX6_note) := goodIn_app (goodIn_of _ (by decide +kernel)) ggX6_kept_X6_note
theorem dX6_kept_0 : decode cX6_kept 0 = .ok (.aload_n 0, 1) := by decide +kernel
theorem dX6_kept_1 : decode cX6_kept 1 = .ok (.iload_n 1, 1) := by decide +kernel
theorem dX6_kept_2 : decode cX6_kept 2 = .ok (.iload_n 2, 1) := by decide +kernel
theorem dX6_kept_3 : decode cX6_kept 3 = .ok (.invokevirtual 99, 3) := by decide +kernel
theorem dX6_kept_6 : decode cX6_kept 6 = .ok (.ifCond .ne 6, 3) := by decide +kernel
theorem dX6_kept_9 : decode cX6_kept 9 = .ok (.bipush (-2), 2) := by decide +kernel
theorem dX6_kept_11 : decode cX6_kept 11 = .ok (.ireturn, 1) := by decide +kernel
theorem dX6_kept_12 : decode cX6_kept 12 = .ok (.aload_n 0, 1) := by decide +kernel
theorem dX6_kept_13 : decode cX6_kept 13 = .ok (.iconst 0, 1) := by decide +kernel
theorem dX6_kept_14 : decode cX6_kept 14 = .ok (.putfield 109, 3) := by decide +kernel
theorem dX6_kept_17 : decode cX6_kept 17 = .ok (.iconst 0, 1) := by decide +kernel
theorem dX6_kept_18 : decode cX6_kept 18 = .ok (.istore_n 3, 1) := by decide +kernel
theorem dX6_kept_19 : decode cX6_kept 19 = .ok (.iload_n 3, 1) := by decide +kernel
theorem dX6_kept_20 : decode cX6_kept 20 = .ok (.aload_n 0, 1) := by decide +kernel
theorem dX6_kept_21 : decode cX6_kept 21 = .ok (.getfield 94, 3) := by decide +kernel
theorem dX6_kept_24 : decode cX6_kept 24 = .ok (.if_icmp .ge 54, 3) := by decide +kernel
theorem dX6_kept_27 : decode cX6_kept 27 = .ok (.aload_n 0, 1) := by decide +kernel
theorem dX6_kept_28 : decode cX6_kept 28 = .ok (.getfield 38, 3) := by decide +kernel
theorem dX6_kept_31 : decode cX6_kept 31 = .ok (.iload_n 3, 1) := by decide +kernel
theorem dX6_kept_32 : decode cX6_kept 32 = .ok (.iaload, 1) := by decide +kernel
theorem dX6_kept_33 : decode cX6_kept 33 = .ok (.iload_n 1, 1) := by decide +kernel
theorem dX6_kept_34 : decode cX6_kept 34 = .ok (.if_icmp .lt 38, 3) := by decide +kernel
theorem dX6_kept_37 : decode cX6_kept 37 = .ok (.aload_n 0, 1) := by decide +kernel
theorem dX6_kept_38 : decode cX6_kept 38 = .ok (.getfield 38, 3) := by decide +kernel
theorem dX6_kept_41 : decode cX6_kept 41 = .ok (.iload_n 3, 1) := by decide +kernel
theorem dX6_kept_42 : decode cX6_kept 42 = .ok (.iaload, 1) := by decide +kernel
theorem dX6_kept_43 : decode cX6_kept 43 = .ok (.iload_n 2, 1) := by decide +kernel
theorem dX6_kept_44 : decode cX6_kept 44 = .ok (.if_icmp .gt 28, 3) := by decide +kernel
theorem dX6_kept_47 : decode cX6_kept 47 = .ok (.aload_n 0, 1) := by decide +kernel
theorem dX6_kept_48 : decode cX6_kept 48 = .ok (.aload_n 0, 1) := by decide +kernel
theorem dX6_kept_49 : decode cX6_kept 49 = .ok (.aload_n 0, 1) := by decide +kernel
theorem dX6_kept_50 : decode cX6_kept 50 = .ok (.getfield 17, 3) := by decide +kernel
theorem dX6_kept_53 : decode cX6_kept 53 = .ok (.aload_n 0, 1) := by decide +kernel
theorem dX6_kept_54 : decode cX6_kept 54 = .ok (.getfield 35, 3) := by decide +kernel
theorem dX6_kept_57 : decode cX6_kept 57 = .ok (.iload_n 3, 1) := by decide +kernel
theorem dX6_kept_58 : decode cX6_kept 58 = .ok (.iaload, 1) := by decide +kernel
theorem dX6_kept_59 : decode cX6_kept 59 = .ok (.iaload, 1) := by decide +kernel
theorem dX6_kept_60 : decode cX6_kept 60 = .ok (.aload_n 0, 1) := by decide +kernel
theorem dX6_kept_61 : decode cX6_kept 61 = .ok (.getfield 38, 3) := by decide +kernel
theorem dX6_kept_64 : decode cX6_kept 64 = .ok (.iload_n 3, 1) := by decide +kernel
theorem dX6_kept_65 : decode cX6_kept 65 = .ok (.iaload, 1) := by decide +kernel
theorem dX6_kept_66 : decode cX6_kept 66 = .ok (.invokevirtual 134, 3) := by decide +kernel
theorem dX6_kept_69 : decode cX6_kept 69 = .ok (.invokevirtual 122, 3) := by decide +kernel
theorem dX6_kept_72 : decode cX6_kept 72 = .ok (.iinc 3 1, 3) := by decide +kernel
theorem dX6_kept_75 : decode cX6_kept 75 = .ok (.goto (-56), 3) := by decide +kernel
theorem dX6_kept_78 : decode cX6_kept 78 = .ok (.aload_n 0, 1) := by decide +kernel
theorem dX6_kept_79 : decode cX6_kept 79 = .ok (.getfield 109, 3) := by decide +kernel
theorem dX6_kept_82 : decode cX6_kept 82 = .ok (.ireturn, 1) := by decide +kernel
set_option maxRecDepth 20000 in
theorem ggX6_worst_X6_isSpan : GoodIn wsX6_worst wsX6_isSpan := goodIn_r _ [5, 6, 7, 8, 4, 9, 33, 34, 35, 36, 37, 38, 39, 40, 41, 42, 43, 44, 45, 46, 47, 48, 49, 50, 51, 52, 53, 54, 55] (by decide +kernel) (by decide +kernel)
set_option maxRecDepth 20000 in
theorem gX6_worst_X6_isSpan : GoodIn wsX6_worst (wsV RX6 99 RX6 yX6_isSpan wsX6_isSpan) := goodIn_app (goodIn_of _ (by decide +kernel)) ggX6_worst_X6_isSpan
set_option maxRecDepth 20000 in
theorem ggX6_worst_X6_look : GoodIn wsX6_worst wsX6_look := goodIn_r _ [13, 14, 15, 16, 17, 18, 33, 34, 35, 36, 37, 38, 39, 40, 41, 42, 43, 44, 45, 46, 47, 48, 49, 50, 51, 52, 53, 54, 55] (by decide +kernel) (by decide +kernel)
set_option maxRecDepth 20000 in
theorem gX6_worst_X6_look : GoodIn wsX6_worst (wsV RX6 112 RX6 yX6_look wsX6_look) := goodIn_app (goodIn_of _ (by decide +kernel)) ggX6_worst_X6_look
set_option maxRecDepth 20000 in
theorem ggX6_worst_X6_unlikeWithout : GoodIn wsX6_worst wsX6_unlikeWithout := goodIn_r _ [22, 23, 14, 15, 24, 25, 26, 4, 27, 28, 29, 30, 31, 32, 33, 34, 35, 36, 37, 38, 39, 40, 41, 42, 43, 44, 45, 46, 47, 48, 49, 50, 51, 52, 53, 54, 55] (by decide +kernel) (by decide +kernel)
set_option maxRecDepth 20000 in
theorem gX6_worst_X6_unlikeWithout : GoodIn wsX6_worst (wsV RX6 131 RX6 yX6_unlikeWithout wsX6_unlikeWithout) := goodIn_app (goodIn_of _ (by decide +kernel)) ggX6_worst_X6_unlikeWithout
theorem dX6_worst_0 : decode cX6_worst 0 = .ok (.aload_n 0, 1) := by decide +kernel
theorem dX6_worst_1 : decode cX6_worst 1 = .ok (.iload_n 1, 1) := by decide +kernel
theorem dX6_worst_2 : decode cX6_worst 2 = .ok (.iload_n 2, 1) := by decide +kernel
theorem dX6_worst_3 : decode cX6_worst 3 = .ok (.invokevirtual 99, 3) := by decide +kernel
theorem dX6_worst_6 : decode cX6_worst 6 = .ok (.ifCond .ne 6, 3) := by decide +kernel
theorem dX6_worst_9 : decode cX6_worst 9 = .ok (.bipush (-2), 2) := by decide +kernel
theorem dX6_worst_11 : decode cX6_worst 11 = .ok (.ireturn, 1) := by decide +kernel
theorem dX6_worst_12 : decode cX6_worst 12 = .ok (.aload_n 0, 1) := by decide +kernel
theorem dX6_worst_13 : decode cX6_worst 13 = .ok (.iload_n 1, 1) := by decide +kernel
theorem dX6_worst_14 : decode cX6_worst 14 = .ok (.iload_n 2, 1) := by decide +kernel
theorem dX6_worst_15 : decode cX6_worst 15 = .ok (.invokevirtual 112, 3) := by decide +kernel
theorem dX6_worst_18 : decode cX6_worst 18 = .ok (.istore_n 3, 1) := by decide +kernel
theorem dX6_worst_19 : decode cX6_worst 19 = .ok (.iconst 0, 1) := by decide +kernel
theorem dX6_worst_20 : decode cX6_worst 20 = .ok (.istore 4, 2) := by decide +kernel
theorem dX6_worst_22 : decode cX6_worst 22 = .ok (.sipush 9999, 3) := by decide +kernel
theorem dX6_worst_25 : decode cX6_worst 25 = .ok (.istore 5, 2) := by decide +kernel
theorem dX6_worst_27 : decode cX6_worst 27 = .ok (.iconst 0, 1) := by decide +kernel
theorem dX6_worst_28 : decode cX6_worst 28 = .ok (.istore 6, 2) := by decide +kernel
theorem dX6_worst_30 : decode cX6_worst 30 = .ok (.iload 6, 2) := by decide +kernel
theorem dX6_worst_32 : decode cX6_worst 32 = .ok (.bipush 6, 2) := by decide +kernel
theorem dX6_worst_34 : decode cX6_worst 34 = .ok (.if_icmp .ge 34, 3) := by decide +kernel
theorem dX6_worst_37 : decode cX6_worst 37 = .ok (.aload_n 0, 1) := by decide +kernel
theorem dX6_worst_38 : decode cX6_worst 38 = .ok (.iconst 1, 1) := by decide +kernel
theorem dX6_worst_39 : decode cX6_worst 39 = .ok (.iload 6, 2) := by decide +kernel
theorem dX6_worst_41 : decode cX6_worst 41 = .ok (.ishl, 1) := by decide +kernel
theorem dX6_worst_42 : decode cX6_worst 42 = .ok (.invokevirtual 131, 3) := by decide +kernel
theorem dX6_worst_45 : decode cX6_worst 45 = .ok (.istore 7, 2) := by decide +kernel
theorem dX6_worst_47 : decode cX6_worst 47 = .ok (.iload 7, 2) := by decide +kernel
theorem dX6_worst_49 : decode cX6_worst 49 = .ok (.iload 5, 2) := by decide +kernel
theorem dX6_worst_51 : decode cX6_worst 51 = .ok (.if_icmp .ge 11, 3) := by decide +kernel
theorem dX6_worst_54 : decode cX6_worst 54 = .ok (.iload 7, 2) := by decide +kernel
theorem dX6_worst_56 : decode cX6_worst 56 = .ok (.istore 5, 2) := by decide +kernel
theorem dX6_worst_58 : decode cX6_worst 58 = .ok (.iload 6, 2) := by decide +kernel
theorem dX6_worst_60 : decode cX6_worst 60 = .ok (.istore 4, 2) := by decide +kernel
theorem dX6_worst_62 : decode cX6_worst 62 = .ok (.iinc 6 1, 3) := by decide +kernel
theorem dX6_worst_65 : decode cX6_worst 65 = .ok (.goto (-35), 3) := by decide +kernel
theorem dX6_worst_68 : decode cX6_worst 68 = .ok (.iload 4, 2) := by decide +kernel
theorem dX6_worst_70 : decode cX6_worst 70 = .ok (.ireturn, 1) := by decide +kernel
set_option maxRecDepth 20000 in
theorem ggX6_drop_X6_isMark : GoodIn wsX6_drop wsX6_isMark := goodIn_r _ [6, 7, 8, 9, 5, 10] (by decide +kernel) (by decide +kernel)
set_option maxRecDepth 20000 in
theorem gX6_drop_X6_isMark : GoodIn wsX6_drop (va_wsS RX6 116 yX6_isMark wsX6_isMark) := goodIn_app (goodIn_of _ (by decide +kernel)) ggX6_drop_X6_isMark
theorem dX6_drop_0 : decode cX6_drop 0 = .ok (.iload_n 1, 1) := by decide +kernel
theorem dX6_drop_1 : decode cX6_drop 1 = .ok (.invokestatic 116, 3) := by decide +kernel
theorem dX6_drop_4 : decode cX6_drop 4 = .ok (.ifCond .ne 5, 3) := by decide +kernel
theorem dX6_drop_7 : decode cX6_drop 7 = .ok (.iconst (-1), 1) := by decide +kernel
theorem dX6_drop_8 : decode cX6_drop 8 = .ok (.ireturn, 1) := by decide +kernel
theorem dX6_drop_9 : decode cX6_drop 9 = .ok (.aload_n 0, 1) := by decide +kernel
theorem dX6_drop_10 : decode cX6_drop 10 = .ok (.getfield 7, 3) := by decide +kernel
theorem dX6_drop_13 : decode cX6_drop 13 = .ok (.bipush 6, 2) := by decide +kernel
theorem dX6_drop_15 : decode cX6_drop 15 = .ok (.aload_n 0, 1) := by decide +kernel
theorem dX6_drop_16 : decode cX6_drop 16 = .ok (.getfield 65, 3) := by decide +kernel
theorem dX6_drop_19 : decode cX6_drop 19 = .ok (.imul, 1) := by decide +kernel
theorem dX6_drop_20 : decode cX6_drop 20 = .ok (.iload_n 1, 1) := by decide +kernel
theorem dX6_drop_21 : decode cX6_drop 21 = .ok (.iadd, 1) := by decide +kernel
theorem dX6_drop_22 : decode cX6_drop 22 = .ok (.baload, 1) := by decide +kernel
theorem dX6_drop_23 : decode cX6_drop 23 = .ok (.ifCond .eq 7, 3) := by decide +kernel
theorem dX6_drop_26 : decode cX6_drop 26 = .ok (.iconst 1, 1) := by decide +kernel
theorem dX6_drop_27 : decode cX6_drop 27 = .ok (.goto 4, 3) := by decide +kernel
theorem dX6_drop_30 : decode cX6_drop 30 = .ok (.iconst 0, 1) := by decide +kernel
theorem dX6_drop_31 : decode cX6_drop 31 = .ok (.istore_n 3, 1) := by decide +kernel
theorem dX6_drop_32 : decode cX6_drop 32 = .ok (.aload_n 0, 1) := by decide +kernel
theorem dX6_drop_33 : decode cX6_drop 33 = .ok (.getfield 7, 3) := by decide +kernel
theorem dX6_drop_36 : decode cX6_drop 36 = .ok (.bipush 6, 2) := by decide +kernel
theorem dX6_drop_38 : decode cX6_drop 38 = .ok (.aload_n 0, 1) := by decide +kernel
theorem dX6_drop_39 : decode cX6_drop 39 = .ok (.getfield 65, 3) := by decide +kernel
theorem dX6_drop_42 : decode cX6_drop 42 = .ok (.imul, 1) := by decide +kernel
theorem dX6_drop_43 : decode cX6_drop 43 = .ok (.iload_n 1, 1) := by decide +kernel
theorem dX6_drop_44 : decode cX6_drop 44 = .ok (.iadd, 1) := by decide +kernel
theorem dX6_drop_45 : decode cX6_drop 45 = .ok (.iload_n 2, 1) := by decide +kernel
theorem dX6_drop_46 : decode cX6_drop 46 = .ok (.bastore, 1) := by decide +kernel
theorem dX6_drop_47 : decode cX6_drop 47 = .ok (.iload_n 3, 1) := by decide +kernel
theorem dX6_drop_48 : decode cX6_drop 48 = .ok (.ireturn, 1) := by decide +kernel
set_option maxRecDepth 20000 in
theorem ggX6_fold_X6_isMark : GoodIn wsX6_fold wsX6_isMark := goodIn_r _ [6, 7, 8, 9, 5, 10] (by decide +kernel) (by decide +kernel)
set_option maxRecDepth 20000 in
theorem gX6_fold_X6_isMark : GoodIn wsX6_fold (va_wsS RX6 116 yX6_isMark wsX6_isMark) := goodIn_app (goodIn_of _ (by decide +kernel)) ggX6_fold_X6_isMark
set_option maxRecDepth 20000 in
theorem ggX6_fold_X6_isValue : GoodIn wsX6_fold wsX6_isValue := goodIn_r _ [13, 14, 8, 9, 5, 10] (by decide +kernel) (by decide +kernel)
set_option maxRecDepth 20000 in
theorem gX6_fold_X6_isValue : GoodIn wsX6_fold (va_wsS RX6 137 yX6_isValue wsX6_isValue) := goodIn_app (goodIn_of _ (by decide +kernel)) ggX6_fold_X6_isValue
theorem dX6_fold_0 : decode cX6_fold 0 = .ok (.iload_n 1, 1) := by decide +kernel
theorem dX6_fold_1 : decode cX6_fold 1 = .ok (.invokestatic 116, 3) := by decide +kernel
theorem dX6_fold_4 : decode cX6_fold 4 = .ok (.ifCond .eq 17, 3) := by decide +kernel
theorem dX6_fold_7 : decode cX6_fold 7 = .ok (.iload_n 2, 1) := by decide +kernel
theorem dX6_fold_8 : decode cX6_fold 8 = .ok (.invokestatic 137, 3) := by decide +kernel
theorem dX6_fold_11 : decode cX6_fold 11 = .ok (.ifCond .eq 10, 3) := by decide +kernel
theorem dX6_fold_14 : decode cX6_fold 14 = .ok (.iload_n 3, 1) := by decide +kernel
theorem dX6_fold_15 : decode cX6_fold 15 = .ok (.invokestatic 137, 3) := by decide +kernel
theorem dX6_fold_18 : decode cX6_fold 18 = .ok (.ifCond .ne 5, 3) := by decide +kernel
theorem dX6_fold_21 : decode cX6_fold 21 = .ok (.iconst (-1), 1) := by decide +kernel
theorem dX6_fold_22 : decode cX6_fold 22 = .ok (.ireturn, 1) := by decide +kernel
theorem dX6_fold_23 : decode cX6_fold 23 = .ok (.bipush 48, 2) := by decide +kernel
theorem dX6_fold_25 : decode cX6_fold 25 = .ok (.aload_n 0, 1) := by decide +kernel
theorem dX6_fold_26 : decode cX6_fold 26 = .ok (.getfield 65, 3) := by decide +kernel
theorem dX6_fold_29 : decode cX6_fold 29 = .ok (.imul, 1) := by decide +kernel
theorem dX6_fold_30 : decode cX6_fold 30 = .ok (.bipush 8, 2) := by decide +kernel
theorem dX6_fold_32 : decode cX6_fold 32 = .ok (.iload_n 1, 1) := by decide +kernel
theorem dX6_fold_33 : decode cX6_fold 33 = .ok (.imul, 1) := by decide +kernel
theorem dX6_fold_34 : decode cX6_fold 34 = .ok (.iadd, 1) := by decide +kernel
theorem dX6_fold_35 : decode cX6_fold 35 = .ok (.istore 4, 2) := by decide +kernel
theorem dX6_fold_37 : decode cX6_fold 37 = .ok (.aload_n 0, 1) := by decide +kernel
theorem dX6_fold_38 : decode cX6_fold 38 = .ok (.getfield 13, 3) := by decide +kernel
theorem dX6_fold_41 : decode cX6_fold 41 = .ok (.iload 4, 2) := by decide +kernel
theorem dX6_fold_43 : decode cX6_fold 43 = .ok (.iload_n 2, 1) := by decide +kernel
theorem dX6_fold_44 : decode cX6_fold 44 = .ok (.iadd, 1) := by decide +kernel
theorem dX6_fold_45 : decode cX6_fold 45 = .ok (.iaload, 1) := by decide +kernel
theorem dX6_fold_46 : decode cX6_fold 46 = .ok (.istore 5, 2) := by decide +kernel
theorem dX6_fold_48 : decode cX6_fold 48 = .ok (.aload_n 0, 1) := by decide +kernel
theorem dX6_fold_49 : decode cX6_fold 49 = .ok (.getfield 13, 3) := by decide +kernel
theorem dX6_fold_52 : decode cX6_fold 52 = .ok (.iload 4, 2) := by decide +kernel
theorem dX6_fold_54 : decode cX6_fold 54 = .ok (.iload_n 3, 1) := by decide +kernel
theorem dX6_fold_55 : decode cX6_fold 55 = .ok (.iadd, 1) := by decide +kernel
theorem dX6_fold_56 : decode cX6_fold 56 = .ok (.iaload, 1) := by decide +kernel
theorem dX6_fold_57 : decode cX6_fold 57 = .ok (.istore 6, 2) := by decide +kernel
theorem dX6_fold_59 : decode cX6_fold 59 = .ok (.iload 5, 2) := by decide +kernel
theorem dX6_fold_61 : decode cX6_fold 61 = .ok (.iload 6, 2) := by decide +kernel
theorem dX6_fold_63 : decode cX6_fold 63 = .ok (.if_icmp .ge 8, 3) := by decide +kernel
theorem dX6_fold_66 : decode cX6_fold 66 = .ok (.iload 5, 2) := by decide +kernel
theorem dX6_fold_68 : decode cX6_fold 68 = .ok (.goto 5, 3) := by decide +kernel
theorem dX6_fold_71 : decode cX6_fold 71 = .ok (.iload 6, 2) := by decide +kernel
theorem dX6_fold_73 : decode cX6_fold 73 = .ok (.istore 7, 2) := by decide +kernel
theorem dX6_fold_75 : decode cX6_fold 75 = .ok (.iconst 0, 1) := by decide +kernel
theorem dX6_fold_76 : decode cX6_fold 76 = .ok (.istore 8, 2) := by decide +kernel
theorem dX6_fold_78 : decode cX6_fold 78 = .ok (.iload 8, 2) := by decide +kernel
theorem dX6_fold_80 : decode cX6_fold 80 = .ok (.bipush 8, 2) := by decide +kernel
theorem dX6_fold_82 : decode cX6_fold 82 = .ok (.if_icmp .ge 51, 3) := by decide +kernel
theorem dX6_fold_85 : decode cX6_fold 85 = .ok (.aload_n 0, 1) := by decide +kernel
theorem dX6_fold_86 : decode cX6_fold 86 = .ok (.getfield 13, 3) := by decide +kernel
theorem dX6_fold_89 : decode cX6_fold 89 = .ok (.iload 4, 2) := by decide +kernel
theorem dX6_fold_91 : decode cX6_fold 91 = .ok (.iload 8, 2) := by decide +kernel
theorem dX6_fold_93 : decode cX6_fold 93 = .ok (.iadd, 1) := by decide +kernel
theorem dX6_fold_94 : decode cX6_fold 94 = .ok (.iaload, 1) := by decide +kernel
theorem dX6_fold_95 : decode cX6_fold 95 = .ok (.iload 5, 2) := by decide +kernel
theorem dX6_fold_97 : decode cX6_fold 97 = .ok (.if_icmp .eq 18, 3) := by decide +kernel
theorem dX6_fold_100 : decode cX6_fold 100 = .ok (.aload_n 0, 1) := by decide +kernel
theorem dX6_fold_101 : decode cX6_fold 101 = .ok (.getfield 13, 3) := by decide +kernel
theorem dX6_fold_104 : decode cX6_fold 104 = .ok (.iload 4, 2) := by decide +kernel
theorem dX6_fold_106 : decode cX6_fold 106 = .ok (.iload 8, 2) := by decide +kernel
theorem dX6_fold_108 : decode cX6_fold 108 = .ok (.iadd, 1) := by decide +kernel
theorem dX6_fold_109 : decode cX6_fold 109 = .ok (.iaload, 1) := by decide +kernel
theorem dX6_fold_110 : decode cX6_fold 110 = .ok (.iload 6, 2) := by decide +kernel
theorem dX6_fold_112 : decode cX6_fold 112 = .ok (.if_icmp .ne 15, 3) := by decide +kernel
theorem dX6_fold_115 : decode cX6_fold 115 = .ok (.aload_n 0, 1) := by decide +kernel
theorem dX6_fold_116 : decode cX6_fold 116 = .ok (.getfield 13, 3) := by decide +kernel
theorem dX6_fold_119 : decode cX6_fold 119 = .ok (.iload 4, 2) := by decide +kernel
theorem dX6_fold_121 : decode cX6_fold 121 = .ok (.iload 8, 2) := by decide +kernel
theorem dX6_fold_123 : decode cX6_fold 123 = .ok (.iadd, 1) := by decide +kernel
theorem dX6_fold_124 : decode cX6_fold 124 = .ok (.iload 7, 2) := by decide +kernel
theorem dX6_fold_126 : decode cX6_fold 126 = .ok (.iastore, 1) := by decide +kernel
theorem dX6_fold_127 : decode cX6_fold 127 = .ok (.iinc 8 1, 3) := by decide +kernel
theorem dX6_fold_130 : decode cX6_fold 130 = .ok (.goto (-52), 3) := by decide +kernel
theorem dX6_fold_133 : decode cX6_fold 133 = .ok (.iload 7, 2) := by decide +kernel
theorem dX6_fold_135 : decode cX6_fold 135 = .ok (.ireturn, 1) := by decide +kernel
set_option maxRecDepth 20000 in
theorem ggX6_dropped_X6_isMark : GoodIn wsX6_dropped wsX6_isMark := goodIn_r _ [6, 7, 8, 9, 5, 10] (by decide +kernel) (by decide +kernel)
set_option maxRecDepth 20000 in
theorem gX6_dropped_X6_isMark : GoodIn wsX6_dropped (va_wsS RX6 116 yX6_isMark wsX6_isMark) := goodIn_app (goodIn_of _ (by decide +kernel)) ggX6_dropped_X6_isMark
set_option maxRecDepth 20000 in
theorem ggX6_dropped_X6_in : GoodIn wsX6_dropped wsX6_in := goodIn_r _ [10] (by decide +kernel) (by decide +kernel)
set_option maxRecDepth 20000 in
theorem gX6_dropped_X6_in : GoodIn wsX6_dropped (va_wsS RX6 69 yX6_in wsX6_in) := goodIn_app (goodIn_of _ (by decide +kernel)) ggX6_dropped_X6_in
theorem dX6_dropped_0 : decode cX6_dropped 0 = .ok (.iload_n 1, 1) := by decide +kernel
theorem dX6_dropped_1 : decode cX6_dropped 1 = .ok (.invokestatic 116, 3) := by decide +kernel
theorem dX6_dropped_4 : decode cX6_dropped 4 = .ok (.ifCond .ne 5, 3) := by decide +kernel
theorem dX6_dropped_7 : decode cX6_dropped 7 = .ok (.iconst (-1), 1) := by decide +kernel
theorem dX6_dropped_8 : decode cX6_dropped 8 = .ok (.ireturn, 1) := by decide +kernel
theorem dX6_dropped_9 : decode cX6_dropped 9 = .ok (.iload_n 2, 1) := by decide +kernel
theorem dX6_dropped_10 : decode cX6_dropped 10 = .ok (.i2l, 1) := by decide +kernel
theorem dX6_dropped_11 : decode cX6_dropped 11 = .ok (.lconst 0, 1) := by decide +kernel
theorem dX6_dropped_12 : decode cX6_dropped 12 = .ok (.aload_n 0, 1) := by decide +kernel
theorem dX6_dropped_13 : decode cX6_dropped 13 = .ok (.getfield 65, 3) := by decide +kernel
theorem dX6_dropped_16 : decode cX6_dropped 16 = .ok (.i2l, 1) := by decide +kernel
theorem dX6_dropped_17 : decode cX6_dropped 17 = .ok (.invokestatic 69, 3) := by decide +kernel
theorem dX6_dropped_20 : decode cX6_dropped 20 = .ok (.ifCond .ne 8, 3) := by decide +kernel
theorem dX6_dropped_23 : decode cX6_dropped 23 = .ok (.bipush (-2), 2) := by decide +kernel
theorem dX6_dropped_25 : decode cX6_dropped 25 = .ok (.goto 22, 3) := by decide +kernel
theorem dX6_dropped_28 : decode cX6_dropped 28 = .ok (.aload_n 0, 1) := by decide +kernel
theorem dX6_dropped_29 : decode cX6_dropped 29 = .ok (.getfield 7, 3) := by decide +kernel
theorem dX6_dropped_32 : decode cX6_dropped 32 = .ok (.bipush 6, 2) := by decide +kernel
theorem dX6_dropped_34 : decode cX6_dropped 34 = .ok (.iload_n 2, 1) := by decide +kernel
theorem dX6_dropped_35 : decode cX6_dropped 35 = .ok (.imul, 1) := by decide +kernel
theorem dX6_dropped_36 : decode cX6_dropped 36 = .ok (.iload_n 1, 1) := by decide +kernel
theorem dX6_dropped_37 : decode cX6_dropped 37 = .ok (.iadd, 1) := by decide +kernel
theorem dX6_dropped_38 : decode cX6_dropped 38 = .ok (.baload, 1) := by decide +kernel
theorem dX6_dropped_39 : decode cX6_dropped 39 = .ok (.ifCond .eq 7, 3) := by decide +kernel
theorem dX6_dropped_42 : decode cX6_dropped 42 = .ok (.iconst 1, 1) := by decide +kernel
theorem dX6_dropped_43 : decode cX6_dropped 43 = .ok (.goto 4, 3) := by decide +kernel
theorem dX6_dropped_46 : decode cX6_dropped 46 = .ok (.iconst 0, 1) := by decide +kernel
theorem dX6_dropped_47 : decode cX6_dropped 47 = .ok (.ireturn, 1) := by decide +kernel
set_option maxRecDepth 20000 in
theorem ggX6_chief_X6_isMark : GoodIn wsX6_chief wsX6_isMark := goodIn_r _ [6, 7, 8, 9, 5, 10] (by decide +kernel) (by decide +kernel)
set_option maxRecDepth 20000 in
theorem gX6_chief_X6_isMark : GoodIn wsX6_chief (va_wsS RX6 116 yX6_isMark wsX6_isMark) := goodIn_app (goodIn_of _ (by decide +kernel)) ggX6_chief_X6_isMark
set_option maxRecDepth 20000 in
theorem ggX6_chief_X6_isValue : GoodIn wsX6_chief wsX6_isValue := goodIn_r _ [13, 14, 8, 9, 5, 10] (by decide +kernel) (by decide +kernel)
set_option maxRecDepth 20000 in
theorem gX6_chief_X6_isValue : GoodIn wsX6_chief (va_wsS RX6 137 yX6_isValue wsX6_isValue) := goodIn_app (goodIn_of _ (by decide +kernel)) ggX6_chief_X6_isValue
set_option maxRecDepth 20000 in
theorem ggX6_chief_X6_in : GoodIn wsX6_chief wsX6_in := goodIn_r _ [10] (by decide +kernel) (by decide +kernel)
set_option maxRecDepth 20000 in
theorem gX6_chief_X6_in : GoodIn wsX6_chief (va_wsS RX6 69 yX6_in wsX6_in) := goodIn_app (goodIn_of _ (by decide +kernel)) ggX6_chief_X6_in
theorem dX6_chief_0 : decode cX6_chief 0 = .ok (.iload_n 1, 1) := by decide +kernel
theorem dX6_chief_1 : decode cX6_chief 1 = .ok (.invokestatic 116, 3) := by decide +kernel
theorem dX6_chief_4 : decode cX6_chief 4 = .ok (.ifCond .eq 10, 3) := by decide +kernel
theorem dX6_chief_7 : decode cX6_chief 7 = .ok (.iload_n 2, 1) := by decide +kernel
theorem dX6_chief_8 : decode cX6_chief 8 = .ok (.invokestatic 137, 3) := by decide +kernel
theorem dX6_chief_11 : decode cX6_chief 11 = .ok (.ifCond .ne 5, 3) := by decide +kernel
theorem dX6_chief_14 : decode cX6_chief 14 = .ok (.iconst (-1), 1) := by decide +kernel
theorem dX6_chief_15 : decode cX6_chief 15 = .ok (.ireturn, 1) := by decide +kernel
theorem dX6_chief_16 : decode cX6_chief 16 = .ok (.iload_n 3, 1) := by decide +kernel
theorem dX6_chief_17 : decode cX6_chief 17 = .ok (.i2l, 1) := by decide +kernel
theorem dX6_chief_18 : decode cX6_chief 18 = .ok (.lconst 0, 1) := by decide +kernel
theorem dX6_chief_19 : decode cX6_chief 19 = .ok (.aload_n 0, 1) := by decide +kernel
theorem dX6_chief_20 : decode cX6_chief 20 = .ok (.getfield 65, 3) := by decide +kernel
theorem dX6_chief_23 : decode cX6_chief 23 = .ok (.i2l, 1) := by decide +kernel
theorem dX6_chief_24 : decode cX6_chief 24 = .ok (.invokestatic 69, 3) := by decide +kernel
theorem dX6_chief_27 : decode cX6_chief 27 = .ok (.ifCond .eq 22, 3) := by decide +kernel
theorem dX6_chief_30 : decode cX6_chief 30 = .ok (.aload_n 0, 1) := by decide +kernel
theorem dX6_chief_31 : decode cX6_chief 31 = .ok (.getfield 13, 3) := by decide +kernel
theorem dX6_chief_34 : decode cX6_chief 34 = .ok (.bipush 48, 2) := by decide +kernel
theorem dX6_chief_36 : decode cX6_chief 36 = .ok (.iload_n 3, 1) := by decide +kernel
theorem dX6_chief_37 : decode cX6_chief 37 = .ok (.imul, 1) := by decide +kernel
theorem dX6_chief_38 : decode cX6_chief 38 = .ok (.bipush 8, 2) := by decide +kernel
theorem dX6_chief_40 : decode cX6_chief 40 = .ok (.iload_n 1, 1) := by decide +kernel
theorem dX6_chief_41 : decode cX6_chief 41 = .ok (.imul, 1) := by decide +kernel
theorem dX6_chief_42 : decode cX6_chief 42 = .ok (.iadd, 1) := by decide +kernel
theorem dX6_chief_43 : decode cX6_chief 43 = .ok (.iload_n 2, 1) := by decide +kernel
theorem dX6_chief_44 : decode cX6_chief 44 = .ok (.iadd, 1) := by decide +kernel
theorem dX6_chief_45 : decode cX6_chief 45 = .ok (.iaload, 1) := by decide +kernel
theorem dX6_chief_46 : decode cX6_chief 46 = .ok (.goto 5, 3) := by decide +kernel
theorem dX6_chief_49 : decode cX6_chief 49 = .ok (.bipush (-2), 2) := by decide +kernel
theorem dX6_chief_51 : decode cX6_chief 51 = .ok (.ireturn, 1) := by decide +kernel
set_option maxRecDepth 20000 in
theorem ggX6_shortAt_X6_isName : GoodIn wsX6_shortAt wsX6_isName := goodIn_r _ [5, 6, 7, 8, 4, 9] (by decide +kernel) (by decide +kernel)
set_option maxRecDepth 20000 in
theorem gX6_shortAt_X6_isName : GoodIn wsX6_shortAt (va_wsS RX6 84 yX6_isName wsX6_isName) := goodIn_app (goodIn_of _ (by decide +kernel)) ggX6_shortAt_X6_isName
set_option maxRecDepth 20000 in
theorem ggX6_shortAt_X6_in : GoodIn wsX6_shortAt wsX6_in := goodIn_r _ [9] (by decide +kernel) (by decide +kernel)
set_option maxRecDepth 20000 in
theorem gX6_shortAt_X6_in : GoodIn wsX6_shortAt (va_wsS RX6 69 yX6_in wsX6_in) := goodIn_app (goodIn_of _ (by decide +kernel)) ggX6_shortAt_X6_in
set_option maxRecDepth 20000 in
theorem ggX6_shortAt_X6_shorted : GoodIn wsX6_shortAt wsX6_shorted := goodIn_r _ [13, 14, 15, 16, 17, 4, 18, 19, 20, 21, 22, 23, 24, 25, 26, 27, 28, 29, 30, 31, 32, 33, 34, 35, 36, 37, 38, 39, 40, 41] (by decide +kernel) (by decide +kernel)
set_option maxRecDepth 20000 in
theorem gX6_shortAt_X6_shorted : GoodIn wsX6_shortAt (wsV RX6 134 RX6 yX6_shorted wsX6_shorted) := goodIn_app (goodIn_of _ (by decide +kernel)) ggX6_shortAt_X6_shorted
theorem dX6_shortAt_0 : decode cX6_shortAt 0 = .ok (.iload_n 1, 1) := by decide +kernel
theorem dX6_shortAt_1 : decode cX6_shortAt 1 = .ok (.invokestatic 84, 3) := by decide +kernel
theorem dX6_shortAt_4 : decode cX6_shortAt 4 = .ok (.ifCond .eq 26, 3) := by decide +kernel
theorem dX6_shortAt_7 : decode cX6_shortAt 7 = .ok (.iload_n 2, 1) := by decide +kernel
theorem dX6_shortAt_8 : decode cX6_shortAt 8 = .ok (.i2l, 1) := by decide +kernel
theorem dX6_shortAt_9 : decode cX6_shortAt 9 = .ok (.lconst 0, 1) := by decide +kernel
theorem dX6_shortAt_10 : decode cX6_shortAt 10 = .ok (.aload_n 0, 1) := by decide +kernel
theorem dX6_shortAt_11 : decode cX6_shortAt 11 = .ok (.getfield 65, 3) := by decide +kernel
theorem dX6_shortAt_14 : decode cX6_shortAt 14 = .ok (.i2l, 1) := by decide +kernel
theorem dX6_shortAt_15 : decode cX6_shortAt 15 = .ok (.invokestatic 69, 3) := by decide +kernel
theorem dX6_shortAt_18 : decode cX6_shortAt 18 = .ok (.ifCond .eq 12, 3) := by decide +kernel
theorem dX6_shortAt_21 : decode cX6_shortAt 21 = .ok (.aload_n 0, 1) := by decide +kernel
theorem dX6_shortAt_22 : decode cX6_shortAt 22 = .ok (.iload_n 1, 1) := by decide +kernel
theorem dX6_shortAt_23 : decode cX6_shortAt 23 = .ok (.iload_n 2, 1) := by decide +kernel
theorem dX6_shortAt_24 : decode cX6_shortAt 24 = .ok (.invokevirtual 134, 3) := by decide +kernel
theorem dX6_shortAt_27 : decode cX6_shortAt 27 = .ok (.goto 5, 3) := by decide +kernel
theorem dX6_shortAt_30 : decode cX6_shortAt 30 = .ok (.bipush (-2), 2) := by decide +kernel
theorem dX6_shortAt_32 : decode cX6_shortAt 32 = .ok (.ireturn, 1) := by decide +kernel
set_option maxRecDepth 20000 in
theorem ggX6_ask_X6_in : GoodIn wsX6_ask wsX6_in := goodIn_r _ [10] (by decide +kernel) (by decide +kernel)
set_option maxRecDepth 20000 in
theorem gX6_ask_X6_in : GoodIn wsX6_ask (va_wsS RX6 69 yX6_in wsX6_in) := goodIn_app (goodIn_of _ (by decide +kernel)) ggX6_ask_X6_in
set_option maxRecDepth 20000 in
theorem ggX6_ask_X6_isMark : GoodIn wsX6_ask wsX6_isMark := goodIn_r _ [13, 14, 7, 8, 9, 10] (by decide +kernel) (by decide +kernel)
set_option maxRecDepth 20000 in
theorem gX6_ask_X6_isMark : GoodIn wsX6_ask (va_wsS RX6 116 yX6_isMark wsX6_isMark) := goodIn_app (goodIn_of _ (by decide +kernel)) ggX6_ask_X6_isMark
set_option maxRecDepth 20000 in
theorem ggX6_ask_X6_isValue : GoodIn wsX6_ask wsX6_isValue := goodIn_r _ [17, 18, 7, 8, 9, 10] (by decide +kernel) (by decide +kernel)
set_option maxRecDepth 20000 in
theorem gX6_ask_X6_isValue : GoodIn wsX6_ask (va_wsS RX6 137 yX6_isValue wsX6_isValue) := goodIn_app (goodIn_of _ (by decide +kernel)) ggX6_ask_X6_isValue
theorem dX6_ask_0 : decode cX6_ask 0 = .ok (.iload_n 1, 1) := by decide +kernel
theorem dX6_ask_1 : decode cX6_ask 1 = .ok (.i2l, 1) := by decide +kernel
theorem dX6_ask_2 : decode cX6_ask 2 = .ok (.lconst 0, 1) := by decide +kernel
theorem dX6_ask_3 : decode cX6_ask 3 = .ok (.ldc2_w 129, 3) := by decide +kernel
theorem dX6_ask_6 : decode cX6_ask 6 = .ok (.invokestatic 69, 3) := by decide +kernel
theorem dX6_ask_9 : decode cX6_ask 9 = .ok (.ifCond .ne 6, 3) := by decide +kernel
theorem dX6_ask_12 : decode cX6_ask 12 = .ok (.bipush (-2), 2) := by decide +kernel
theorem dX6_ask_14 : decode cX6_ask 14 = .ok (.ireturn, 1) := by decide +kernel
theorem dX6_ask_15 : decode cX6_ask 15 = .ok (.iload_n 2, 1) := by decide +kernel
theorem dX6_ask_16 : decode cX6_ask 16 = .ok (.bipush (-9), 2) := by decide +kernel
theorem dX6_ask_18 : decode cX6_ask 18 = .ok (.if_icmp .eq 19, 3) := by decide +kernel
theorem dX6_ask_21 : decode cX6_ask 21 = .ok (.iload_n 2, 1) := by decide +kernel
theorem dX6_ask_22 : decode cX6_ask 22 = .ok (.invokestatic 116, 3) := by decide +kernel
theorem dX6_ask_25 : decode cX6_ask 25 = .ok (.ifCond .eq 10, 3) := by decide +kernel
theorem dX6_ask_28 : decode cX6_ask 28 = .ok (.iload_n 3, 1) := by decide +kernel
theorem dX6_ask_29 : decode cX6_ask 29 = .ok (.invokestatic 137, 3) := by decide +kernel
theorem dX6_ask_32 : decode cX6_ask 32 = .ok (.ifCond .ne 5, 3) := by decide +kernel
theorem dX6_ask_35 : decode cX6_ask 35 = .ok (.iconst (-1), 1) := by decide +kernel
theorem dX6_ask_36 : decode cX6_ask 36 = .ok (.ireturn, 1) := by decide +kernel
theorem dX6_ask_37 : decode cX6_ask 37 = .ok (.iload_n 2, 1) := by decide +kernel
theorem dX6_ask_38 : decode cX6_ask 38 = .ok (.bipush (-9), 2) := by decide +kernel
theorem dX6_ask_40 : decode cX6_ask 40 = .ok (.if_icmp .eq 14, 3) := by decide +kernel
theorem dX6_ask_43 : decode cX6_ask 43 = .ok (.iload_n 1, 1) := by decide +kernel
theorem dX6_ask_44 : decode cX6_ask 44 = .ok (.iload_n 2, 1) := by decide +kernel
theorem dX6_ask_45 : decode cX6_ask 45 = .ok (.ishr, 1) := by decide +kernel
theorem dX6_ask_46 : decode cX6_ask 46 = .ok (.iconst 1, 1) := by decide +kernel
theorem dX6_ask_47 : decode cX6_ask 47 = .ok (.iand, 1) := by decide +kernel
theorem dX6_ask_48 : decode cX6_ask 48 = .ok (.ifCond .ne 6, 3) := by decide +kernel
theorem dX6_ask_51 : decode cX6_ask 51 = .ok (.bipush (-3), 2) := by decide +kernel
theorem dX6_ask_53 : decode cX6_ask 53 = .ok (.ireturn, 1) := by decide +kernel
theorem dX6_ask_54 : decode cX6_ask 54 = .ok (.aload_n 0, 1) := by decide +kernel
theorem dX6_ask_55 : decode cX6_ask 55 = .ok (.getfield 140, 3) := by decide +kernel
theorem dX6_ask_58 : decode cX6_ask 58 = .ok (.bipush 10, 2) := by decide +kernel
theorem dX6_ask_60 : decode cX6_ask 60 = .ok (.if_icmp .ne 6, 3) := by decide +kernel
theorem dX6_ask_63 : decode cX6_ask 63 = .ok (.bipush (-4), 2) := by decide +kernel
theorem dX6_ask_65 : decode cX6_ask 65 = .ok (.ireturn, 1) := by decide +kernel
theorem dX6_ask_66 : decode cX6_ask 66 = .ok (.aload_n 0, 1) := by decide +kernel
theorem dX6_ask_67 : decode cX6_ask 67 = .ok (.getfield 50, 3) := by decide +kernel
theorem dX6_ask_70 : decode cX6_ask 70 = .ok (.aload_n 0, 1) := by decide +kernel
theorem dX6_ask_71 : decode cX6_ask 71 = .ok (.getfield 140, 3) := by decide +kernel
theorem dX6_ask_74 : decode cX6_ask 74 = .ok (.iload_n 1, 1) := by decide +kernel
theorem dX6_ask_75 : decode cX6_ask 75 = .ok (.iastore, 1) := by decide +kernel
theorem dX6_ask_76 : decode cX6_ask 76 = .ok (.aload_n 0, 1) := by decide +kernel
theorem dX6_ask_77 : decode cX6_ask 77 = .ok (.getfield 53, 3) := by decide +kernel
theorem dX6_ask_80 : decode cX6_ask 80 = .ok (.aload_n 0, 1) := by decide +kernel
theorem dX6_ask_81 : decode cX6_ask 81 = .ok (.getfield 140, 3) := by decide +kernel
theorem dX6_ask_84 : decode cX6_ask 84 = .ok (.iload_n 2, 1) := by decide +kernel
theorem dX6_ask_85 : decode cX6_ask 85 = .ok (.iastore, 1) := by decide +kernel
theorem dX6_ask_86 : decode cX6_ask 86 = .ok (.aload_n 0, 1) := by decide +kernel
theorem dX6_ask_87 : decode cX6_ask 87 = .ok (.getfield 56, 3) := by decide +kernel
theorem dX6_ask_90 : decode cX6_ask 90 = .ok (.aload_n 0, 1) := by decide +kernel
theorem dX6_ask_91 : decode cX6_ask 91 = .ok (.getfield 140, 3) := by decide +kernel
theorem dX6_ask_94 : decode cX6_ask 94 = .ok (.iload_n 2, 1) := by decide +kernel
theorem dX6_ask_95 : decode cX6_ask 95 = .ok (.bipush (-9), 2) := by decide +kernel
theorem dX6_ask_97 : decode cX6_ask 97 = .ok (.if_icmp .ne 7, 3) := by decide +kernel
theorem dX6_ask_100 : decode cX6_ask 100 = .ok (.iconst 0, 1) := by decide +kernel
theorem dX6_ask_101 : decode cX6_ask 101 = .ok (.goto 4, 3) := by decide +kernel
theorem dX6_ask_104 : decode cX6_ask 104 = .ok (.iload_n 3, 1) := by decide +kernel
theorem dX6_ask_105 : decode cX6_ask 105 = .ok (.iastore, 1) := by decide +kernel
theorem dX6_ask_106 : decode cX6_ask 106 = .ok (.aload_n 0, 1) := by decide +kernel
theorem dX6_ask_107 : decode cX6_ask 107 = .ok (.getfield 59, 3) := by decide +kernel
theorem dX6_ask_110 : decode cX6_ask 110 = .ok (.aload_n 0, 1) := by decide +kernel
theorem dX6_ask_111 : decode cX6_ask 111 = .ok (.getfield 140, 3) := by decide +kernel
theorem dX6_ask_114 : decode cX6_ask 114 = .ok (.iconst 0, 1) := by decide +kernel
theorem dX6_ask_115 : decode cX6_ask 115 = .ok (.iastore, 1) := by decide +kernel
theorem dX6_ask_116 : decode cX6_ask 116 = .ok (.aload_n 0, 1) := by decide +kernel
theorem dX6_ask_117 : decode cX6_ask 117 = .ok (.dup, 1) := by decide +kernel
theorem dX6_ask_118 : decode cX6_ask 118 = .ok (.getfield 140, 3) := by decide +kernel
theorem dX6_ask_121 : decode cX6_ask 121 = .ok (.iconst 1, 1) := by decide +kernel
theorem dX6_ask_122 : decode cX6_ask 122 = .ok (.iadd, 1) := by decide +kernel
theorem dX6_ask_123 : decode cX6_ask 123 = .ok (.putfield 140, 3) := by decide +kernel
theorem dX6_ask_126 : decode cX6_ask 126 = .ok (.aload_n 0, 1) := by decide +kernel
theorem dX6_ask_127 : decode cX6_ask 127 = .ok (.getfield 140, 3) := by decide +kernel
theorem dX6_ask_130 : decode cX6_ask 130 = .ok (.iconst 1, 1) := by decide +kernel
theorem dX6_ask_131 : decode cX6_ask 131 = .ok (.isub, 1) := by decide +kernel
theorem dX6_ask_132 : decode cX6_ask 132 = .ok (.ireturn, 1) := by decide +kernel
set_option maxRecDepth 20000 in
theorem ggX6_isAsking_X6_in : GoodIn wsX6_isAsking wsX6_in := goodIn_r _ [5] (by decide +kernel) (by decide +kernel)
set_option maxRecDepth 20000 in
theorem gX6_isAsking_X6_in : GoodIn wsX6_isAsking (va_wsS RX6 69 yX6_in wsX6_in) := goodIn_app (goodIn_of _ (by decide +kernel)) ggX6_isAsking_X6_in
theorem dX6_isAsking_0 : decode cX6_isAsking 0 = .ok (.iload_n 1, 1) := by decide +kernel
theorem dX6_isAsking_1 : decode cX6_isAsking 1 = .ok (.i2l, 1) := by decide +kernel
theorem dX6_isAsking_2 : decode cX6_isAsking 2 = .ok (.lconst 0, 1) := by decide +kernel
theorem dX6_isAsking_3 : decode cX6_isAsking 3 = .ok (.aload_n 0, 1) := by decide +kernel
theorem dX6_isAsking_4 : decode cX6_isAsking 4 = .ok (.getfield 140, 3) := by decide +kernel
theorem dX6_isAsking_7 : decode cX6_isAsking 7 = .ok (.iconst 1, 1) := by decide +kernel
theorem dX6_isAsking_8 : decode cX6_isAsking 8 = .ok (.isub, 1) := by decide +kernel
theorem dX6_isAsking_9 : decode cX6_isAsking 9 = .ok (.i2l, 1) := by decide +kernel
theorem dX6_isAsking_10 : decode cX6_isAsking 10 = .ok (.invokestatic 69, 3) := by decide +kernel
theorem dX6_isAsking_13 : decode cX6_isAsking 13 = .ok (.ireturn, 1) := by decide +kernel
set_option maxRecDepth 20000 in
theorem ggX6_isWanted_X6_digit : GoodIn wsX6_isWanted wsX6_digit := goodIn_r _ [6] (by decide +kernel) (by decide +kernel)
set_option maxRecDepth 20000 in
theorem gX6_isWanted_X6_digit : GoodIn wsX6_isWanted (va_wsS RX6 119 yX6_digit wsX6_digit) := goodIn_app (goodIn_of _ (by decide +kernel)) ggX6_isWanted_X6_digit
theorem dX6_isWanted_0 : decode cX6_isWanted 0 = .ok (.aload_n 0, 1) := by decide +kernel
theorem dX6_isWanted_1 : decode cX6_isWanted 1 = .ok (.getfield 53, 3) := by decide +kernel
theorem dX6_isWanted_4 : decode cX6_isWanted 4 = .ok (.iload_n 1, 1) := by decide +kernel
theorem dX6_isWanted_5 : decode cX6_isWanted 5 = .ok (.iaload, 1) := by decide +kernel
theorem dX6_isWanted_6 : decode cX6_isWanted 6 = .ok (.bipush (-9), 2) := by decide +kernel
theorem dX6_isWanted_8 : decode cX6_isWanted 8 = .ok (.if_icmp .eq 22, 3) := by decide +kernel
theorem dX6_isWanted_11 : decode cX6_isWanted 11 = .ok (.iload_n 2, 1) := by decide +kernel
theorem dX6_isWanted_12 : decode cX6_isWanted 12 = .ok (.aload_n 0, 1) := by decide +kernel
theorem dX6_isWanted_13 : decode cX6_isWanted 13 = .ok (.getfield 53, 3) := by decide +kernel
theorem dX6_isWanted_16 : decode cX6_isWanted 16 = .ok (.iload_n 1, 1) := by decide +kernel
theorem dX6_isWanted_17 : decode cX6_isWanted 17 = .ok (.iaload, 1) := by decide +kernel
theorem dX6_isWanted_18 : decode cX6_isWanted 18 = .ok (.invokestatic 119, 3) := by decide +kernel
theorem dX6_isWanted_21 : decode cX6_isWanted 21 = .ok (.aload_n 0, 1) := by decide +kernel
theorem dX6_isWanted_22 : decode cX6_isWanted 22 = .ok (.getfield 56, 3) := by decide +kernel
theorem dX6_isWanted_25 : decode cX6_isWanted 25 = .ok (.iload_n 1, 1) := by decide +kernel
theorem dX6_isWanted_26 : decode cX6_isWanted 26 = .ok (.iaload, 1) := by decide +kernel
theorem dX6_isWanted_27 : decode cX6_isWanted 27 = .ok (.if_icmp .ne 7, 3) := by decide +kernel
theorem dX6_isWanted_30 : decode cX6_isWanted 30 = .ok (.iconst 1, 1) := by decide +kernel
theorem dX6_isWanted_31 : decode cX6_isWanted 31 = .ok (.goto 4, 3) := by decide +kernel
theorem dX6_isWanted_34 : decode cX6_isWanted 34 = .ok (.iconst 0, 1) := by decide +kernel
theorem dX6_isWanted_35 : decode cX6_isWanted 35 = .ok (.ireturn, 1) := by decide +kernel
set_option maxRecDepth 20000 in
theorem ggX6_keyOf_X6_without : GoodIn wsX6_keyOf wsX6_without := goodIn_r _ [5] (by decide +kernel) (by decide +kernel)
set_option maxRecDepth 20000 in
theorem gX6_keyOf_X6_without : GoodIn wsX6_keyOf (va_wsS RX6 126 yX6_without wsX6_without) := goodIn_app (goodIn_of _ (by decide +kernel)) ggX6_keyOf_X6_without
theorem dX6_keyOf_0 : decode cX6_keyOf 0 = .ok (.iload_n 2, 1) := by decide +kernel
theorem dX6_keyOf_1 : decode cX6_keyOf 1 = .ok (.bipush 63, 2) := by decide +kernel
theorem dX6_keyOf_3 : decode cX6_keyOf 3 = .ok (.aload_n 0, 1) := by decide +kernel
theorem dX6_keyOf_4 : decode cX6_keyOf 4 = .ok (.getfield 50, 3) := by decide +kernel
theorem dX6_keyOf_7 : decode cX6_keyOf 7 = .ok (.iload_n 1, 1) := by decide +kernel
theorem dX6_keyOf_8 : decode cX6_keyOf 8 = .ok (.iaload, 1) := by decide +kernel
theorem dX6_keyOf_9 : decode cX6_keyOf 9 = .ok (.iconst (-1), 1) := by decide +kernel
theorem dX6_keyOf_10 : decode cX6_keyOf 10 = .ok (.ixor, 1) := by decide +kernel
theorem dX6_keyOf_11 : decode cX6_keyOf 11 = .ok (.iand, 1) := by decide +kernel
theorem dX6_keyOf_12 : decode cX6_keyOf 12 = .ok (.invokestatic 126, 3) := by decide +kernel
theorem dX6_keyOf_15 : decode cX6_keyOf 15 = .ok (.ireturn, 1) := by decide +kernel
set_option maxRecDepth 20000 in
theorem ggX6_answer_X6_isAsking : GoodIn wsX6_answer wsX6_isAsking := goodIn_r _ [12, 13, 14, 15, 11, 16, 43, 44, 45, 46, 47, 48, 49, 50, 51, 52, 53, 54, 55, 56, 57, 58, 59, 60, 61, 62, 63, 64, 65] (by decide +kernel) (by decide +kernel)
set_option maxRecDepth 20000 in
theorem gX6_answer_X6_isAsking : GoodIn wsX6_answer (wsV RX6 143 RX6 yX6_isAsking wsX6_isAsking) := goodIn_app (goodIn_of _ (by decide +kernel)) ggX6_answer_X6_isAsking
set_option maxRecDepth 20000 in
theorem ggX6_answer_X6_isName : GoodIn wsX6_answer wsX6_isName := goodIn_r _ [19, 20, 14, 15, 11, 16] (by decide +kernel) (by decide +kernel)
set_option maxRecDepth 20000 in
theorem gX6_answer_X6_isName : GoodIn wsX6_answer (va_wsS RX6 84 yX6_isName wsX6_isName) := goodIn_app (goodIn_of _ (by decide +kernel)) ggX6_answer_X6_isName
set_option maxRecDepth 20000 in
theorem ggX6_answer_X6_keyOf : GoodIn wsX6_answer wsX6_keyOf := goodIn_r _ [24, 25, 26, 27, 11, 28, 43, 44, 45, 46, 47, 48, 49, 50, 51, 52, 53, 54, 55, 56, 57, 58, 59, 60, 61, 62, 63, 64, 65] (by decide +kernel) (by decide +kernel)
set_option maxRecDepth 20000 in
theorem gX6_answer_X6_keyOf : GoodIn wsX6_answer (wsV RX6 146 RX6 yX6_keyOf wsX6_keyOf) := goodIn_app (goodIn_of _ (by decide +kernel)) ggX6_answer_X6_keyOf
set_option maxRecDepth 20000 in
theorem ggX6_answer_X6_isWanted : GoodIn wsX6_answer wsX6_isWanted := goodIn_r _ [32, 33, 34, 35, 36, 11, 37, 43, 44, 45, 46, 47, 48, 49, 50, 51, 52, 53, 54, 55, 56, 57, 58, 59, 60, 61, 62, 63, 64, 65] (by decide +kernel) (by decide +kernel)
set_option maxRecDepth 20000 in
theorem gX6_answer_X6_isWanted : GoodIn wsX6_answer (wsV RX6 149 RX6 yX6_isWanted wsX6_isWanted) := goodIn_app (goodIn_of _ (by decide +kernel)) ggX6_answer_X6_isWanted
set_option maxRecDepth 20000 in
theorem ggX6_answer_X6_isSpan : GoodIn wsX6_answer wsX6_isSpan := goodIn_r _ [41, 42, 14, 15, 11, 16, 43, 44, 45, 46, 47, 48, 49, 50, 51, 52, 53, 54, 55, 56, 57, 58, 59, 60, 61, 62, 63, 64, 65] (by decide +kernel) (by decide +kernel)
set_option maxRecDepth 20000 in
theorem gX6_answer_X6_isSpan : GoodIn wsX6_answer (wsV RX6 99 RX6 yX6_isSpan wsX6_isSpan) := goodIn_app (goodIn_of _ (by decide +kernel)) ggX6_answer_X6_isSpan
theorem dX6_answer_0 : decode cX6_answer 0 = .ok (.aload_n 0, 1) := by decide +kernel
theorem dX6_answer_1 : decode cX6_answer 1 = .ok (.iload_n 1, 1) := by decide +kernel
theorem dX6_answer_2 : decode cX6_answer 2 = .ok (.invokevirtual 143, 3) := by decide +kernel
theorem dX6_answer_5 : decode cX6_answer 5 = .ok (.ifCond .ne 7, 3) := by decide +kernel
theorem dX6_answer_8 : decode cX6_answer 8 = .ok (.ldc2_w 97, 3) := by decide +kernel
theorem dX6_answer_11 : decode cX6_answer 11 = .ok (.lreturn, 1) := by decide +kernel
theorem dX6_answer_12 : decode cX6_answer 12 = .ok (.iload_n 2, 1) := by decide +kernel
theorem dX6_answer_13 : decode cX6_answer 13 = .ok (.invokestatic 84, 3) := by decide +kernel
theorem dX6_answer_16 : decode cX6_answer 16 = .ok (.ifCond .eq 32, 3) := by decide +kernel
theorem dX6_answer_19 : decode cX6_answer 19 = .ok (.aload_n 0, 1) := by decide +kernel
theorem dX6_answer_20 : decode cX6_answer 20 = .ok (.iload_n 1, 1) := by decide +kernel
theorem dX6_answer_21 : decode cX6_answer 21 = .ok (.iload_n 2, 1) := by decide +kernel
theorem dX6_answer_22 : decode cX6_answer 22 = .ok (.invokevirtual 146, 3) := by decide +kernel
theorem dX6_answer_25 : decode cX6_answer 25 = .ok (.iload_n 2, 1) := by decide +kernel
theorem dX6_answer_26 : decode cX6_answer 26 = .ok (.if_icmp .ne 22, 3) := by decide +kernel
theorem dX6_answer_29 : decode cX6_answer 29 = .ok (.aload_n 0, 1) := by decide +kernel
theorem dX6_answer_30 : decode cX6_answer 30 = .ok (.iload_n 1, 1) := by decide +kernel
theorem dX6_answer_31 : decode cX6_answer 31 = .ok (.iload_n 2, 1) := by decide +kernel
theorem dX6_answer_32 : decode cX6_answer 32 = .ok (.invokevirtual 149, 3) := by decide +kernel
theorem dX6_answer_35 : decode cX6_answer 35 = .ok (.ifCond .eq 13, 3) := by decide +kernel
theorem dX6_answer_38 : decode cX6_answer 38 = .ok (.aload_n 0, 1) := by decide +kernel
theorem dX6_answer_39 : decode cX6_answer 39 = .ok (.iload_n 3, 1) := by decide +kernel
theorem dX6_answer_40 : decode cX6_answer 40 = .ok (.iload 4, 2) := by decide +kernel
theorem dX6_answer_42 : decode cX6_answer 42 = .ok (.invokevirtual 99, 3) := by decide +kernel
theorem dX6_answer_45 : decode cX6_answer 45 = .ok (.ifCond .ne 7, 3) := by decide +kernel
theorem dX6_answer_48 : decode cX6_answer 48 = .ok (.ldc2_w 107, 3) := by decide +kernel
theorem dX6_answer_51 : decode cX6_answer 51 = .ok (.lreturn, 1) := by decide +kernel
theorem dX6_answer_52 : decode cX6_answer 52 = .ok (.lconst 0, 1) := by decide +kernel
theorem dX6_answer_53 : decode cX6_answer 53 = .ok (.lstore 5, 2) := by decide +kernel
theorem dX6_answer_55 : decode cX6_answer 55 = .ok (.iconst 0, 1) := by decide +kernel
theorem dX6_answer_56 : decode cX6_answer 56 = .ok (.istore 7, 2) := by decide +kernel
theorem dX6_answer_58 : decode cX6_answer 58 = .ok (.iload 7, 2) := by decide +kernel
theorem dX6_answer_60 : decode cX6_answer 60 = .ok (.aload_n 0, 1) := by decide +kernel
theorem dX6_answer_61 : decode cX6_answer 61 = .ok (.getfield 94, 3) := by decide +kernel
theorem dX6_answer_64 : decode cX6_answer 64 = .ok (.if_icmp .ge 82, 3) := by decide +kernel
theorem dX6_answer_67 : decode cX6_answer 67 = .ok (.aload_n 0, 1) := by decide +kernel
theorem dX6_answer_68 : decode cX6_answer 68 = .ok (.getfield 38, 3) := by decide +kernel
theorem dX6_answer_71 : decode cX6_answer 71 = .ok (.iload 7, 2) := by decide +kernel
theorem dX6_answer_73 : decode cX6_answer 73 = .ok (.iaload, 1) := by decide +kernel
theorem dX6_answer_74 : decode cX6_answer 74 = .ok (.iload_n 3, 1) := by decide +kernel
theorem dX6_answer_75 : decode cX6_answer 75 = .ok (.if_icmp .lt 40, 3) := by decide +kernel
theorem dX6_answer_78 : decode cX6_answer 78 = .ok (.aload_n 0, 1) := by decide +kernel
theorem dX6_answer_79 : decode cX6_answer 79 = .ok (.getfield 38, 3) := by decide +kernel
theorem dX6_answer_82 : decode cX6_answer 82 = .ok (.iload 7, 2) := by decide +kernel
theorem dX6_answer_84 : decode cX6_answer 84 = .ok (.iaload, 1) := by decide +kernel
theorem dX6_answer_85 : decode cX6_answer 85 = .ok (.iload 4, 2) := by decide +kernel
theorem dX6_answer_87 : decode cX6_answer 87 = .ok (.if_icmp .gt 28, 3) := by decide +kernel
theorem dX6_answer_90 : decode cX6_answer 90 = .ok (.aload_n 0, 1) := by decide +kernel
theorem dX6_answer_91 : decode cX6_answer 91 = .ok (.iload_n 1, 1) := by decide +kernel
theorem dX6_answer_92 : decode cX6_answer 92 = .ok (.aload_n 0, 1) := by decide +kernel
theorem dX6_answer_93 : decode cX6_answer 93 = .ok (.getfield 17, 3) := by decide +kernel
theorem dX6_answer_96 : decode cX6_answer 96 = .ok (.aload_n 0, 1) := by decide +kernel
theorem dX6_answer_97 : decode cX6_answer 97 = .ok (.getfield 35, 3) := by decide +kernel
theorem dX6_answer_100 : decode cX6_answer 100 = .ok (.iload 7, 2) := by decide +kernel
theorem dX6_answer_102 : decode cX6_answer 102 = .ok (.iaload, 1) := by decide +kernel
theorem dX6_answer_103 : decode cX6_answer 103 = .ok (.iaload, 1) := by decide +kernel
theorem dX6_answer_104 : decode cX6_answer 104 = .ok (.invokevirtual 146, 3) := by decide +kernel
theorem dX6_answer_107 : decode cX6_answer 107 = .ok (.iload_n 2, 1) := by decide +kernel
theorem dX6_answer_108 : decode cX6_answer 108 = .ok (.if_icmp .ne 7, 3) := by decide +kernel
theorem dX6_answer_111 : decode cX6_answer 111 = .ok (.iconst 1, 1) := by decide +kernel
theorem dX6_answer_112 : decode cX6_answer 112 = .ok (.goto 4, 3) := by decide +kernel
theorem dX6_answer_115 : decode cX6_answer 115 = .ok (.iconst 0, 1) := by decide +kernel
theorem dX6_answer_116 : decode cX6_answer 116 = .ok (.istore 8, 2) := by decide +kernel
theorem dX6_answer_118 : decode cX6_answer 118 = .ok (.lload 5, 2) := by decide +kernel
theorem dX6_answer_120 : decode cX6_answer 120 = .ok (.iload 8, 2) := by decide +kernel
theorem dX6_answer_122 : decode cX6_answer 122 = .ok (.ifCond .eq 14, 3) := by decide +kernel
theorem dX6_answer_125 : decode cX6_answer 125 = .ok (.aload_n 0, 1) := by decide +kernel
theorem dX6_answer_126 : decode cX6_answer 126 = .ok (.getfield 41, 3) := by decide +kernel
theorem dX6_answer_129 : decode cX6_answer 129 = .ok (.iload 7, 2) := by decide +kernel
theorem dX6_answer_131 : decode cX6_answer 131 = .ok (.iaload, 1) := by decide +kernel
theorem dX6_answer_132 : decode cX6_answer 132 = .ok (.i2l, 1) := by decide +kernel
theorem dX6_answer_133 : decode cX6_answer 133 = .ok (.goto 4, 3) := by decide +kernel
theorem dX6_answer_136 : decode cX6_answer 136 = .ok (.lconst 0, 1) := by decide +kernel
theorem dX6_answer_137 : decode cX6_answer 137 = .ok (.ladd, 1) := by decide +kernel
theorem dX6_answer_138 : decode cX6_answer 138 = .ok (.lstore 5, 2) := by decide +kernel
theorem dX6_answer_140 : decode cX6_answer 140 = .ok (.iinc 7 1, 3) := by decide +kernel
theorem dX6_answer_143 : decode cX6_answer 143 = .ok (.goto (-85), 3) := by decide +kernel
theorem dX6_answer_146 : decode cX6_answer 146 = .ok (.lload 5, 2) := by decide +kernel
theorem dX6_answer_148 : decode cX6_answer 148 = .ok (.lreturn, 1) := by decide +kernel
set_option maxRecDepth 20000 in
theorem ggX6_findKeys_X6_look : GoodIn wsX6_findKeys wsX6_look := goodIn_r _ [9, 2, 3, 10, 11, 12, 35, 36, 37, 38, 39, 40, 41, 42, 43, 44, 45, 46, 47, 48, 49, 50, 51, 52, 53, 54, 55, 56, 57] (by decide +kernel) (by decide +kernel)
set_option maxRecDepth 20000 in
theorem gX6_findKeys_X6_look : GoodIn wsX6_findKeys (wsV RX6 112 RX6 yX6_look wsX6_look) := goodIn_app (goodIn_of _ (by decide +kernel)) ggX6_findKeys_X6_look
set_option maxRecDepth 20000 in
theorem ggX6_findKeys_X6_isWanted : GoodIn wsX6_findKeys wsX6_isWanted := goodIn_r _ [16, 17, 18, 19, 20, 8, 21, 35, 36, 37, 38, 39, 40, 41, 42, 43, 44, 45, 46, 47, 48, 49, 50, 51, 52, 53, 54, 55, 56, 57] (by decide +kernel) (by decide +kernel)
set_option maxRecDepth 20000 in
theorem gX6_findKeys_X6_isWanted : GoodIn wsX6_findKeys (wsV RX6 149 RX6 yX6_isWanted wsX6_isWanted) := goodIn_app (goodIn_of _ (by decide +kernel)) ggX6_findKeys_X6_isWanted
set_option maxRecDepth 20000 in
theorem ggX6_findKeys_X6_keyOf : GoodIn wsX6_findKeys wsX6_keyOf := goodIn_r _ [25, 26, 27, 28, 8, 29, 35, 36, 37, 38, 39, 40, 41, 42, 43, 44, 45, 46, 47, 48, 49, 50, 51, 52, 53, 54, 55, 56, 57] (by decide +kernel) (by decide +kernel)
set_option maxRecDepth 20000 in
theorem gX6_findKeys_X6_keyOf : GoodIn wsX6_findKeys (wsV RX6 146 RX6 yX6_keyOf wsX6_keyOf) := goodIn_app (goodIn_of _ (by decide +kernel)) ggX6_findKeys_X6_keyOf
set_option maxRecDepth 20000 in
theorem ggX6_findKeys_X6_note : GoodIn wsX6_findKeys wsX6_note := goodIn_r _ [33, 1, 34, 35, 36, 37, 38, 39, 40, 41, 42, 43, 44, 45, 46, 47, 48, 49, 50, 51, 52, 53, 54, 55, 56, 57] (by decide +kernel) (by decide +kernel)
set_option maxRecDepth 20000 in
theorem gX6_findKeys_X6_note : GoodIn wsX6_findKeys (wsV RX6 122 RX6 yX6_note wsX6_note) := goodIn_app (goodIn_of _ (by decide +kernel)) ggX6_findKeys_X6_note
theorem dX6_findKeys_0 : decode cX6_findKeys 0 = .ok (.aload_n 0, 1) := by decide +kernel
theorem dX6_findKeys_1 : decode cX6_findKeys 1 = .ok (.iload_n 2, 1) := by decide +kernel
theorem dX6_findKeys_2 : decode cX6_findKeys 2 = .ok (.iload_n 3, 1) := by decide +kernel
theorem dX6_findKeys_3 : decode cX6_findKeys 3 = .ok (.invokevirtual 112, 3) := by decide +kernel
theorem dX6_findKeys_6 : decode cX6_findKeys 6 = .ok (.istore 4, 2) := by decide +kernel
theorem dX6_findKeys_8 : decode cX6_findKeys 8 = .ok (.aload_n 0, 1) := by decide +kernel
theorem dX6_findKeys_9 : decode cX6_findKeys 9 = .ok (.iconst 0, 1) := by decide +kernel
theorem dX6_findKeys_10 : decode cX6_findKeys 10 = .ok (.putfield 109, 3) := by decide +kernel
theorem dX6_findKeys_13 : decode cX6_findKeys 13 = .ok (.iconst 0, 1) := by decide +kernel
theorem dX6_findKeys_14 : decode cX6_findKeys 14 = .ok (.istore 5, 2) := by decide +kernel
theorem dX6_findKeys_16 : decode cX6_findKeys 16 = .ok (.iload 5, 2) := by decide +kernel
theorem dX6_findKeys_18 : decode cX6_findKeys 18 = .ok (.aload_n 0, 1) := by decide +kernel
theorem dX6_findKeys_19 : decode cX6_findKeys 19 = .ok (.getfield 81, 3) := by decide +kernel
theorem dX6_findKeys_22 : decode cX6_findKeys 22 = .ok (.if_icmp .ge 50, 3) := by decide +kernel
theorem dX6_findKeys_25 : decode cX6_findKeys 25 = .ok (.aload_n 0, 1) := by decide +kernel
theorem dX6_findKeys_26 : decode cX6_findKeys 26 = .ok (.getfield 44, 3) := by decide +kernel
theorem dX6_findKeys_29 : decode cX6_findKeys 29 = .ok (.iload 5, 2) := by decide +kernel
theorem dX6_findKeys_31 : decode cX6_findKeys 31 = .ok (.baload, 1) := by decide +kernel
theorem dX6_findKeys_32 : decode cX6_findKeys 32 = .ok (.ifCond .eq 34, 3) := by decide +kernel
theorem dX6_findKeys_35 : decode cX6_findKeys 35 = .ok (.aload_n 0, 1) := by decide +kernel
theorem dX6_findKeys_36 : decode cX6_findKeys 36 = .ok (.iload_n 1, 1) := by decide +kernel
theorem dX6_findKeys_37 : decode cX6_findKeys 37 = .ok (.aload_n 0, 1) := by decide +kernel
theorem dX6_findKeys_38 : decode cX6_findKeys 38 = .ok (.getfield 17, 3) := by decide +kernel
theorem dX6_findKeys_41 : decode cX6_findKeys 41 = .ok (.iload 5, 2) := by decide +kernel
theorem dX6_findKeys_43 : decode cX6_findKeys 43 = .ok (.iaload, 1) := by decide +kernel
theorem dX6_findKeys_44 : decode cX6_findKeys 44 = .ok (.invokevirtual 149, 3) := by decide +kernel
theorem dX6_findKeys_47 : decode cX6_findKeys 47 = .ok (.ifCond .eq 19, 3) := by decide +kernel
theorem dX6_findKeys_50 : decode cX6_findKeys 50 = .ok (.aload_n 0, 1) := by decide +kernel
theorem dX6_findKeys_51 : decode cX6_findKeys 51 = .ok (.aload_n 0, 1) := by decide +kernel
theorem dX6_findKeys_52 : decode cX6_findKeys 52 = .ok (.iload_n 1, 1) := by decide +kernel
theorem dX6_findKeys_53 : decode cX6_findKeys 53 = .ok (.aload_n 0, 1) := by decide +kernel
theorem dX6_findKeys_54 : decode cX6_findKeys 54 = .ok (.getfield 17, 3) := by decide +kernel
theorem dX6_findKeys_57 : decode cX6_findKeys 57 = .ok (.iload 5, 2) := by decide +kernel
theorem dX6_findKeys_59 : decode cX6_findKeys 59 = .ok (.iaload, 1) := by decide +kernel
theorem dX6_findKeys_60 : decode cX6_findKeys 60 = .ok (.invokevirtual 146, 3) := by decide +kernel
theorem dX6_findKeys_63 : decode cX6_findKeys 63 = .ok (.invokevirtual 122, 3) := by decide +kernel
theorem dX6_findKeys_66 : decode cX6_findKeys 66 = .ok (.iinc 5 1, 3) := by decide +kernel
theorem dX6_findKeys_69 : decode cX6_findKeys 69 = .ok (.goto (-53), 3) := by decide +kernel
theorem dX6_findKeys_72 : decode cX6_findKeys 72 = .ok (.aload_n 0, 1) := by decide +kernel
theorem dX6_findKeys_73 : decode cX6_findKeys 73 = .ok (.getfield 109, 3) := by decide +kernel
theorem dX6_findKeys_76 : decode cX6_findKeys 76 = .ok (.ireturn, 1) := by decide +kernel
set_option maxRecDepth 20000 in
theorem ggX6_keys_X6_isAsking : GoodIn wsX6_keys wsX6_isAsking := goodIn_r _ [5, 6, 7, 8, 4, 9, 52, 53, 54, 55, 56, 57, 58, 59, 60, 61, 62, 63, 64, 65, 66, 67, 68, 69, 70, 71, 72, 73, 74] (by decide +kernel) (by decide +kernel)
set_option maxRecDepth 20000 in
theorem gX6_keys_X6_isAsking : GoodIn wsX6_keys (wsV RX6 143 RX6 yX6_isAsking wsX6_isAsking) := goodIn_app (goodIn_of _ (by decide +kernel)) ggX6_keys_X6_isAsking
set_option maxRecDepth 20000 in
theorem ggX6_keys_X6_isSpan : GoodIn wsX6_keys wsX6_isSpan := goodIn_r _ [13, 14, 7, 8, 4, 9, 52, 53, 54, 55, 56, 57, 58, 59, 60, 61, 62, 63, 64, 65, 66, 67, 68, 69, 70, 71, 72, 73, 74] (by decide +kernel) (by decide +kernel)
set_option maxRecDepth 20000 in
theorem gX6_keys_X6_isSpan : GoodIn wsX6_keys (wsV RX6 99 RX6 yX6_isSpan wsX6_isSpan) := goodIn_app (goodIn_of _ (by decide +kernel)) ggX6_keys_X6_isSpan
set_option maxRecDepth 20000 in
theorem ggX6_keys_X6_findKeys : GoodIn wsX6_keys wsX6_findKeys := goodIn_r _ [18, 19, 20, 21, 22, 23, 24, 25, 4, 26, 27, 28, 29, 30, 31, 32, 33, 34, 35, 36, 37, 38, 39, 40, 41, 42, 43, 44, 45, 46, 47, 48, 49, 50, 51, 52, 53, 54, 55, 56, 57, 58, 59, 60, 61, 62, 63, 64, 65, 66, 67, 68, 69, 70, 71, 72, 73, 74] (by decide +kernel) (by decide +kernel)
set_option maxRecDepth 20000 in
theorem gX6_keys_X6_findKeys : GoodIn wsX6_keys (wsV RX6 152 RX6 yX6_findKeys wsX6_findKeys) := goodIn_app (goodIn_of _ (by decide +kernel)) ggX6_keys_X6_findKeys
theorem dX6_keys_0 : decode cX6_keys 0 = .ok (.aload_n 0, 1) := by decide +kernel
theorem dX6_keys_1 : decode cX6_keys 1 = .ok (.iload_n 1, 1) := by decide +kernel
theorem dX6_keys_2 : decode cX6_keys 2 = .ok (.invokevirtual 143, 3) := by decide +kernel
theorem dX6_keys_5 : decode cX6_keys 5 = .ok (.ifCond .ne 5, 3) := by decide +kernel
theorem dX6_keys_8 : decode cX6_keys 8 = .ok (.iconst (-1), 1) := by decide +kernel
theorem dX6_keys_9 : decode cX6_keys 9 = .ok (.ireturn, 1) := by decide +kernel
theorem dX6_keys_10 : decode cX6_keys 10 = .ok (.aload_n 0, 1) := by decide +kernel
theorem dX6_keys_11 : decode cX6_keys 11 = .ok (.iload_n 2, 1) := by decide +kernel
theorem dX6_keys_12 : decode cX6_keys 12 = .ok (.iload_n 3, 1) := by decide +kernel
theorem dX6_keys_13 : decode cX6_keys 13 = .ok (.invokevirtual 99, 3) := by decide +kernel
theorem dX6_keys_16 : decode cX6_keys 16 = .ok (.ifCond .eq 13, 3) := by decide +kernel
theorem dX6_keys_19 : decode cX6_keys 19 = .ok (.aload_n 0, 1) := by decide +kernel
theorem dX6_keys_20 : decode cX6_keys 20 = .ok (.iload_n 1, 1) := by decide +kernel
theorem dX6_keys_21 : decode cX6_keys 21 = .ok (.iload_n 2, 1) := by decide +kernel
theorem dX6_keys_22 : decode cX6_keys 22 = .ok (.iload_n 3, 1) := by decide +kernel
theorem dX6_keys_23 : decode cX6_keys 23 = .ok (.invokevirtual 152, 3) := by decide +kernel
theorem dX6_keys_26 : decode cX6_keys 26 = .ok (.goto 5, 3) := by decide +kernel
theorem dX6_keys_29 : decode cX6_keys 29 = .ok (.bipush (-2), 2) := by decide +kernel
theorem dX6_keys_31 : decode cX6_keys 31 = .ok (.ireturn, 1) := by decide +kernel
set_option maxRecDepth 20000 in
theorem ggX6_key_X6_isAsking : GoodIn wsX6_key wsX6_isAsking := goodIn_r _ [6, 7, 8, 9, 5, 10, 52, 53, 54, 55, 56, 57, 58, 59, 60, 61, 62, 63, 64, 65, 66, 67, 68, 69, 70, 71, 72, 73, 74] (by decide +kernel) (by decide +kernel)
set_option maxRecDepth 20000 in
theorem gX6_key_X6_isAsking : GoodIn wsX6_key (wsV RX6 143 RX6 yX6_isAsking wsX6_isAsking) := goodIn_app (goodIn_of _ (by decide +kernel)) ggX6_key_X6_isAsking
set_option maxRecDepth 20000 in
theorem ggX6_key_X6_isSpan : GoodIn wsX6_key wsX6_isSpan := goodIn_r _ [14, 15, 8, 9, 5, 10, 52, 53, 54, 55, 56, 57, 58, 59, 60, 61, 62, 63, 64, 65, 66, 67, 68, 69, 70, 71, 72, 73, 74] (by decide +kernel) (by decide +kernel)
set_option maxRecDepth 20000 in
theorem gX6_key_X6_isSpan : GoodIn wsX6_key (wsV RX6 99 RX6 yX6_isSpan wsX6_isSpan) := goodIn_app (goodIn_of _ (by decide +kernel)) ggX6_key_X6_isSpan
set_option maxRecDepth 20000 in
theorem ggX6_key_X6_findKeys : GoodIn wsX6_key wsX6_findKeys := goodIn_r _ [19, 20, 21, 22, 23, 24, 25, 26, 5, 27, 28, 29, 30, 31, 32, 33, 34, 35, 36, 37, 38, 39, 40, 41, 42, 43, 44, 45, 46, 47, 48, 49, 50, 51, 1, 52, 53, 54, 55, 56, 57, 58, 59, 60, 61, 62, 63, 64, 65, 66, 67, 68, 69, 70, 71, 72, 73, 74] (by decide +kernel) (by decide +kernel)
set_option maxRecDepth 20000 in
theorem gX6_key_X6_findKeys : GoodIn wsX6_key (wsV RX6 152 RX6 yX6_findKeys wsX6_findKeys) := goodIn_app (goodIn_of _ (by decide +kernel)) ggX6_key_X6_findKeys
set_option maxRecDepth 20000 in
theorem ggX6_key_X6_in : GoodIn wsX6_key wsX6_in := goodIn_r _ [10] (by decide +kernel) (by decide +kernel)
set_option maxRecDepth 20000 in
theorem gX6_key_X6_in : GoodIn wsX6_key (va_wsS RX6 69 yX6_in wsX6_in) := goodIn_app (goodIn_of _ (by decide +kernel)) ggX6_key_X6_in
theorem dX6_key_0 : decode cX6_key 0 = .ok (.aload_n 0, 1) := by decide +kernel
theorem dX6_key_1 : decode cX6_key 1 = .ok (.iload_n 1, 1) := by decide +kernel
theorem dX6_key_2 : decode cX6_key 2 = .ok (.invokevirtual 143, 3) := by decide +kernel
theorem dX6_key_5 : decode cX6_key 5 = .ok (.ifCond .ne 5, 3) := by decide +kernel
theorem dX6_key_8 : decode cX6_key 8 = .ok (.iconst (-1), 1) := by decide +kernel
theorem dX6_key_9 : decode cX6_key 9 = .ok (.ireturn, 1) := by decide +kernel
theorem dX6_key_10 : decode cX6_key 10 = .ok (.aload_n 0, 1) := by decide +kernel
theorem dX6_key_11 : decode cX6_key 11 = .ok (.iload_n 3, 1) := by decide +kernel
theorem dX6_key_12 : decode cX6_key 12 = .ok (.iload 4, 2) := by decide +kernel
theorem dX6_key_14 : decode cX6_key 14 = .ok (.invokevirtual 99, 3) := by decide +kernel
theorem dX6_key_17 : decode cX6_key 17 = .ok (.ifCond .ne 6, 3) := by decide +kernel
theorem dX6_key_20 : decode cX6_key 20 = .ok (.bipush (-2), 2) := by decide +kernel
theorem dX6_key_22 : decode cX6_key 22 = .ok (.ireturn, 1) := by decide +kernel
theorem dX6_key_23 : decode cX6_key 23 = .ok (.aload_n 0, 1) := by decide +kernel
theorem dX6_key_24 : decode cX6_key 24 = .ok (.iload_n 1, 1) := by decide +kernel
theorem dX6_key_25 : decode cX6_key 25 = .ok (.iload_n 3, 1) := by decide +kernel
theorem dX6_key_26 : decode cX6_key 26 = .ok (.iload 4, 2) := by decide +kernel
theorem dX6_key_28 : decode cX6_key 28 = .ok (.invokevirtual 152, 3) := by decide +kernel
theorem dX6_key_31 : decode cX6_key 31 = .ok (.istore 5, 2) := by decide +kernel
theorem dX6_key_33 : decode cX6_key 33 = .ok (.iload_n 2, 1) := by decide +kernel
theorem dX6_key_34 : decode cX6_key 34 = .ok (.i2l, 1) := by decide +kernel
theorem dX6_key_35 : decode cX6_key 35 = .ok (.lconst 0, 1) := by decide +kernel
theorem dX6_key_36 : decode cX6_key 36 = .ok (.iload 5, 2) := by decide +kernel
theorem dX6_key_38 : decode cX6_key 38 = .ok (.iconst 1, 1) := by decide +kernel
theorem dX6_key_39 : decode cX6_key 39 = .ok (.isub, 1) := by decide +kernel
theorem dX6_key_40 : decode cX6_key 40 = .ok (.i2l, 1) := by decide +kernel
theorem dX6_key_41 : decode cX6_key 41 = .ok (.invokestatic 69, 3) := by decide +kernel
theorem dX6_key_44 : decode cX6_key 44 = .ok (.ifCond .eq 12, 3) := by decide +kernel
theorem dX6_key_47 : decode cX6_key 47 = .ok (.aload_n 0, 1) := by decide +kernel
theorem dX6_key_48 : decode cX6_key 48 = .ok (.getfield 47, 3) := by decide +kernel
theorem dX6_key_51 : decode cX6_key 51 = .ok (.iload_n 2, 1) := by decide +kernel
theorem dX6_key_52 : decode cX6_key 52 = .ok (.iaload, 1) := by decide +kernel
theorem dX6_key_53 : decode cX6_key 53 = .ok (.goto 5, 3) := by decide +kernel
theorem dX6_key_56 : decode cX6_key 56 = .ok (.bipush (-9), 2) := by decide +kernel
theorem dX6_key_58 : decode cX6_key 58 = .ok (.ireturn, 1) := by decide +kernel
theorem dX6_lacksAt_0 : decode cX6_lacksAt 0 = .ok (.iconst 0, 1) := by decide +kernel
theorem dX6_lacksAt_1 : decode cX6_lacksAt 1 = .ok (.istore_n 3, 1) := by decide +kernel
theorem dX6_lacksAt_2 : decode cX6_lacksAt 2 = .ok (.iconst 0, 1) := by decide +kernel
theorem dX6_lacksAt_3 : decode cX6_lacksAt 3 = .ok (.istore 4, 2) := by decide +kernel
theorem dX6_lacksAt_5 : decode cX6_lacksAt 5 = .ok (.iload 4, 2) := by decide +kernel
theorem dX6_lacksAt_7 : decode cX6_lacksAt 7 = .ok (.bipush 6, 2) := by decide +kernel
theorem dX6_lacksAt_9 : decode cX6_lacksAt 9 = .ok (.if_icmp .ge 49, 3) := by decide +kernel
theorem dX6_lacksAt_12 : decode cX6_lacksAt 12 = .ok (.iload_n 3, 1) := by decide +kernel
theorem dX6_lacksAt_13 : decode cX6_lacksAt 13 = .ok (.ifCond .ne 33, 3) := by decide +kernel
theorem dX6_lacksAt_16 : decode cX6_lacksAt 16 = .ok (.aload_n 0, 1) := by decide +kernel
theorem dX6_lacksAt_17 : decode cX6_lacksAt 17 = .ok (.getfield 50, 3) := by decide +kernel
theorem dX6_lacksAt_20 : decode cX6_lacksAt 20 = .ok (.iload_n 1, 1) := by decide +kernel
theorem dX6_lacksAt_21 : decode cX6_lacksAt 21 = .ok (.iaload, 1) := by decide +kernel
theorem dX6_lacksAt_22 : decode cX6_lacksAt 22 = .ok (.iload 4, 2) := by decide +kernel
theorem dX6_lacksAt_24 : decode cX6_lacksAt 24 = .ok (.ishr, 1) := by decide +kernel
theorem dX6_lacksAt_25 : decode cX6_lacksAt 25 = .ok (.iconst 1, 1) := by decide +kernel
theorem dX6_lacksAt_26 : decode cX6_lacksAt 26 = .ok (.iand, 1) := by decide +kernel
theorem dX6_lacksAt_27 : decode cX6_lacksAt 27 = .ok (.iconst 1, 1) := by decide +kernel
theorem dX6_lacksAt_28 : decode cX6_lacksAt 28 = .ok (.if_icmp .ne 22, 3) := by decide +kernel
theorem dX6_lacksAt_31 : decode cX6_lacksAt 31 = .ok (.aload_n 0, 1) := by decide +kernel
theorem dX6_lacksAt_32 : decode cX6_lacksAt 32 = .ok (.getfield 7, 3) := by decide +kernel
theorem dX6_lacksAt_35 : decode cX6_lacksAt 35 = .ok (.bipush 6, 2) := by decide +kernel
theorem dX6_lacksAt_37 : decode cX6_lacksAt 37 = .ok (.iload_n 2, 1) := by decide +kernel
theorem dX6_lacksAt_38 : decode cX6_lacksAt 38 = .ok (.imul, 1) := by decide +kernel
theorem dX6_lacksAt_39 : decode cX6_lacksAt 39 = .ok (.iload 4, 2) := by decide +kernel
theorem dX6_lacksAt_41 : decode cX6_lacksAt 41 = .ok (.iadd, 1) := by decide +kernel
theorem dX6_lacksAt_42 : decode cX6_lacksAt 42 = .ok (.baload, 1) := by decide +kernel
theorem dX6_lacksAt_43 : decode cX6_lacksAt 43 = .ok (.ifCond .eq 7, 3) := by decide +kernel
theorem dX6_lacksAt_46 : decode cX6_lacksAt 46 = .ok (.iconst 1, 1) := by decide +kernel
theorem dX6_lacksAt_47 : decode cX6_lacksAt 47 = .ok (.goto 4, 3) := by decide +kernel
theorem dX6_lacksAt_50 : decode cX6_lacksAt 50 = .ok (.iconst 0, 1) := by decide +kernel
theorem dX6_lacksAt_51 : decode cX6_lacksAt 51 = .ok (.istore_n 3, 1) := by decide +kernel
theorem dX6_lacksAt_52 : decode cX6_lacksAt 52 = .ok (.iinc 4 1, 3) := by decide +kernel
theorem dX6_lacksAt_55 : decode cX6_lacksAt 55 = .ok (.goto (-50), 3) := by decide +kernel
theorem dX6_lacksAt_58 : decode cX6_lacksAt 58 = .ok (.iload_n 3, 1) := by decide +kernel
theorem dX6_lacksAt_59 : decode cX6_lacksAt 59 = .ok (.ireturn, 1) := by decide +kernel
theorem dX6_isFolded_0 : decode cX6_isFolded 0 = .ok (.iconst 0, 1) := by decide +kernel
theorem dX6_isFolded_1 : decode cX6_isFolded 1 = .ok (.istore_n 3, 1) := by decide +kernel
theorem dX6_isFolded_2 : decode cX6_isFolded 2 = .ok (.iconst 0, 1) := by decide +kernel
theorem dX6_isFolded_3 : decode cX6_isFolded 3 = .ok (.istore 4, 2) := by decide +kernel
theorem dX6_isFolded_5 : decode cX6_isFolded 5 = .ok (.iload 4, 2) := by decide +kernel
theorem dX6_isFolded_7 : decode cX6_isFolded 7 = .ok (.bipush 48, 2) := by decide +kernel
theorem dX6_isFolded_9 : decode cX6_isFolded 9 = .ok (.if_icmp .ge 57, 3) := by decide +kernel
theorem dX6_isFolded_12 : decode cX6_isFolded 12 = .ok (.iload_n 3, 1) := by decide +kernel
theorem dX6_isFolded_13 : decode cX6_isFolded 13 = .ok (.ifCond .ne 41, 3) := by decide +kernel
theorem dX6_isFolded_16 : decode cX6_isFolded 16 = .ok (.aload_n 0, 1) := by decide +kernel
theorem dX6_isFolded_17 : decode cX6_isFolded 17 = .ok (.getfield 50, 3) := by decide +kernel
theorem dX6_isFolded_20 : decode cX6_isFolded 20 = .ok (.iload_n 1, 1) := by decide +kernel
theorem dX6_isFolded_21 : decode cX6_isFolded 21 = .ok (.iaload, 1) := by decide +kernel
theorem dX6_isFolded_22 : decode cX6_isFolded 22 = .ok (.iload 4, 2) := by decide +kernel
theorem dX6_isFolded_24 : decode cX6_isFolded 24 = .ok (.bipush 8, 2) := by decide +kernel
theorem dX6_isFolded_26 : decode cX6_isFolded 26 = .ok (.idiv, 1) := by decide +kernel
theorem dX6_isFolded_27 : decode cX6_isFolded 27 = .ok (.ishr, 1) := by decide +kernel
theorem dX6_isFolded_28 : decode cX6_isFolded 28 = .ok (.iconst 1, 1) := by decide +kernel
theorem dX6_isFolded_29 : decode cX6_isFolded 29 = .ok (.iand, 1) := by decide +kernel
theorem dX6_isFolded_30 : decode cX6_isFolded 30 = .ok (.iconst 1, 1) := by decide +kernel
theorem dX6_isFolded_31 : decode cX6_isFolded 31 = .ok (.if_icmp .ne 27, 3) := by decide +kernel
theorem dX6_isFolded_34 : decode cX6_isFolded 34 = .ok (.aload_n 0, 1) := by decide +kernel
theorem dX6_isFolded_35 : decode cX6_isFolded 35 = .ok (.getfield 13, 3) := by decide +kernel
theorem dX6_isFolded_38 : decode cX6_isFolded 38 = .ok (.bipush 48, 2) := by decide +kernel
theorem dX6_isFolded_40 : decode cX6_isFolded 40 = .ok (.iload_n 2, 1) := by decide +kernel
theorem dX6_isFolded_41 : decode cX6_isFolded 41 = .ok (.imul, 1) := by decide +kernel
theorem dX6_isFolded_42 : decode cX6_isFolded 42 = .ok (.iload 4, 2) := by decide +kernel
theorem dX6_isFolded_44 : decode cX6_isFolded 44 = .ok (.iadd, 1) := by decide +kernel
theorem dX6_isFolded_45 : decode cX6_isFolded 45 = .ok (.iaload, 1) := by decide +kernel
theorem dX6_isFolded_46 : decode cX6_isFolded 46 = .ok (.iload 4, 2) := by decide +kernel
theorem dX6_isFolded_48 : decode cX6_isFolded 48 = .ok (.bipush 8, 2) := by decide +kernel
theorem dX6_isFolded_50 : decode cX6_isFolded 50 = .ok (.irem, 1) := by decide +kernel
theorem dX6_isFolded_51 : decode cX6_isFolded 51 = .ok (.if_icmp .eq 7, 3) := by decide +kernel
theorem dX6_isFolded_54 : decode cX6_isFolded 54 = .ok (.iconst 1, 1) := by decide +kernel
theorem dX6_isFolded_55 : decode cX6_isFolded 55 = .ok (.goto 4, 3) := by decide +kernel
theorem dX6_isFolded_58 : decode cX6_isFolded 58 = .ok (.iconst 0, 1) := by decide +kernel
theorem dX6_isFolded_59 : decode cX6_isFolded 59 = .ok (.istore_n 3, 1) := by decide +kernel
theorem dX6_isFolded_60 : decode cX6_isFolded 60 = .ok (.iinc 4 1, 3) := by decide +kernel
theorem dX6_isFolded_63 : decode cX6_isFolded 63 = .ok (.goto (-58), 3) := by decide +kernel
theorem dX6_isFolded_66 : decode cX6_isFolded 66 = .ok (.iload_n 3, 1) := by decide +kernel
theorem dX6_isFolded_67 : decode cX6_isFolded 67 = .ok (.ireturn, 1) := by decide +kernel
set_option maxRecDepth 20000 in
theorem ggX6_lacks_X6_isAsking : GoodIn wsX6_lacks wsX6_isAsking := goodIn_r _ [5, 6, 7, 8, 4, 9, 21, 22, 23, 24, 25, 26, 27, 28, 29, 30, 31, 32, 33, 34, 35, 36, 37, 38, 39, 40, 41, 42, 43] (by decide +kernel) (by decide +kernel)
set_option maxRecDepth 20000 in
theorem gX6_lacks_X6_isAsking : GoodIn wsX6_lacks (wsV RX6 143 RX6 yX6_isAsking wsX6_isAsking) := goodIn_app (goodIn_of _ (by decide +kernel)) ggX6_lacks_X6_isAsking
set_option maxRecDepth 20000 in
theorem ggX6_lacks_X6_isSpan : GoodIn wsX6_lacks wsX6_isSpan := goodIn_r _ [13, 14, 7, 8, 4, 9, 21, 22, 23, 24, 25, 26, 27, 28, 29, 30, 31, 32, 33, 34, 35, 36, 37, 38, 39, 40, 41, 42, 43] (by decide +kernel) (by decide +kernel)
set_option maxRecDepth 20000 in
theorem gX6_lacks_X6_isSpan : GoodIn wsX6_lacks (wsV RX6 99 RX6 yX6_isSpan wsX6_isSpan) := goodIn_app (goodIn_of _ (by decide +kernel)) ggX6_lacks_X6_isSpan
set_option maxRecDepth 20000 in
theorem ggX6_lacks_X6_lacksAt : GoodIn wsX6_lacks wsX6_lacksAt := goodIn_r _ [18, 19, 20, 21, 22, 23, 24, 25, 26, 27, 28, 29, 30, 31, 32, 33, 34, 35, 36, 37, 38, 39, 40, 41, 42, 43] (by decide +kernel) (by decide +kernel)
set_option maxRecDepth 20000 in
theorem gX6_lacks_X6_lacksAt : GoodIn wsX6_lacks (wsV RX6 156 RX6 yX6_lacksAt wsX6_lacksAt) := goodIn_app (goodIn_of _ (by decide +kernel)) ggX6_lacks_X6_lacksAt
theorem dX6_lacks_0 : decode cX6_lacks 0 = .ok (.aload_n 0, 1) := by decide +kernel
theorem dX6_lacks_1 : decode cX6_lacks 1 = .ok (.iload_n 1, 1) := by decide +kernel
theorem dX6_lacks_2 : decode cX6_lacks 2 = .ok (.invokevirtual 143, 3) := by decide +kernel
theorem dX6_lacks_5 : decode cX6_lacks 5 = .ok (.ifCond .ne 5, 3) := by decide +kernel
theorem dX6_lacks_8 : decode cX6_lacks 8 = .ok (.iconst (-1), 1) := by decide +kernel
theorem dX6_lacks_9 : decode cX6_lacks 9 = .ok (.ireturn, 1) := by decide +kernel
theorem dX6_lacks_10 : decode cX6_lacks 10 = .ok (.aload_n 0, 1) := by decide +kernel
theorem dX6_lacks_11 : decode cX6_lacks 11 = .ok (.iload_n 2, 1) := by decide +kernel
theorem dX6_lacks_12 : decode cX6_lacks 12 = .ok (.iload_n 3, 1) := by decide +kernel
theorem dX6_lacks_13 : decode cX6_lacks 13 = .ok (.invokevirtual 99, 3) := by decide +kernel
theorem dX6_lacks_16 : decode cX6_lacks 16 = .ok (.ifCond .ne 6, 3) := by decide +kernel
theorem dX6_lacks_19 : decode cX6_lacks 19 = .ok (.bipush (-2), 2) := by decide +kernel
theorem dX6_lacks_21 : decode cX6_lacks 21 = .ok (.ireturn, 1) := by decide +kernel
theorem dX6_lacks_22 : decode cX6_lacks 22 = .ok (.iload_n 2, 1) := by decide +kernel
theorem dX6_lacks_23 : decode cX6_lacks 23 = .ok (.istore 4, 2) := by decide +kernel
theorem dX6_lacks_25 : decode cX6_lacks 25 = .ok (.iload 4, 2) := by decide +kernel
theorem dX6_lacks_27 : decode cX6_lacks 27 = .ok (.iload_n 3, 1) := by decide +kernel
theorem dX6_lacks_28 : decode cX6_lacks 28 = .ok (.if_icmp .gt 22, 3) := by decide +kernel
theorem dX6_lacks_31 : decode cX6_lacks 31 = .ok (.aload_n 0, 1) := by decide +kernel
theorem dX6_lacks_32 : decode cX6_lacks 32 = .ok (.iload_n 1, 1) := by decide +kernel
theorem dX6_lacks_33 : decode cX6_lacks 33 = .ok (.iload 4, 2) := by decide +kernel
theorem dX6_lacks_35 : decode cX6_lacks 35 = .ok (.invokevirtual 156, 3) := by decide +kernel
theorem dX6_lacks_38 : decode cX6_lacks 38 = .ok (.ifCond .eq 6, 3) := by decide +kernel
theorem dX6_lacks_41 : decode cX6_lacks 41 = .ok (.iload 4, 2) := by decide +kernel
theorem dX6_lacks_43 : decode cX6_lacks 43 = .ok (.ireturn, 1) := by decide +kernel
theorem dX6_lacks_44 : decode cX6_lacks 44 = .ok (.iinc 4 1, 3) := by decide +kernel
theorem dX6_lacks_47 : decode cX6_lacks 47 = .ok (.goto (-22), 3) := by decide +kernel
theorem dX6_lacks_50 : decode cX6_lacks 50 = .ok (.bipush (-9), 2) := by decide +kernel
theorem dX6_lacks_52 : decode cX6_lacks 52 = .ok (.ireturn, 1) := by decide +kernel
set_option maxRecDepth 20000 in
theorem ggX6_works_X6_lacks : GoodIn wsX6_works wsX6_lacks := goodIn_r _ [5, 6, 7, 8, 4, 9, 10, 11, 12, 13, 14, 15, 16, 17, 18, 19, 20, 21, 22, 23, 24, 30, 31, 32, 33, 34, 35, 36, 37, 38, 39, 40, 41, 42, 43, 44, 45, 46, 47, 48, 49, 50, 51, 52] (by decide +kernel) (by decide +kernel)
set_option maxRecDepth 20000 in
theorem gX6_works_X6_lacks : GoodIn wsX6_works (wsV RX6 159 RX6 yX6_lacks wsX6_lacks) := goodIn_app (goodIn_of _ (by decide +kernel)) ggX6_works_X6_lacks
set_option maxRecDepth 20000 in
theorem ggX6_works_X6_isFolded : GoodIn wsX6_works wsX6_isFolded := goodIn_r _ [28, 23, 29, 30, 31, 32, 33, 34, 35, 36, 37, 38, 39, 40, 41, 42, 43, 44, 45, 46, 47, 48, 49, 50, 51, 52] (by decide +kernel) (by decide +kernel)
set_option maxRecDepth 20000 in
theorem gX6_works_X6_isFolded : GoodIn wsX6_works (wsV RX6 162 RX6 yX6_isFolded wsX6_isFolded) := goodIn_app (goodIn_of _ (by decide +kernel)) ggX6_works_X6_isFolded
theorem dX6_works_0 : decode cX6_works 0 = .ok (.aload_n 0, 1) := by decide +kernel
theorem dX6_works_1 : decode cX6_works 1 = .ok (.iload_n 1, 1) := by decide +kernel
theorem dX6_works_2 : decode cX6_works 2 = .ok (.iload_n 2, 1) := by decide +kernel
theorem dX6_works_3 : decode cX6_works 3 = .ok (.iload_n 3, 1) := by decide +kernel
theorem dX6_works_4 : decode cX6_works 4 = .ok (.invokevirtual 159, 3) := by decide +kernel
theorem dX6_works_7 : decode cX6_works 7 = .ok (.istore 4, 2) := by decide +kernel
theorem dX6_works_9 : decode cX6_works 9 = .ok (.iload 4, 2) := by decide +kernel
theorem dX6_works_11 : decode cX6_works 11 = .ok (.iconst (-1), 1) := by decide +kernel
theorem dX6_works_12 : decode cX6_works 12 = .ok (.if_icmp .eq 10, 3) := by decide +kernel
theorem dX6_works_15 : decode cX6_works 15 = .ok (.iload 4, 2) := by decide +kernel
theorem dX6_works_17 : decode cX6_works 17 = .ok (.bipush (-2), 2) := by decide +kernel
theorem dX6_works_19 : decode cX6_works 19 = .ok (.if_icmp .ne 6, 3) := by decide +kernel
theorem dX6_works_22 : decode cX6_works 22 = .ok (.iload 4, 2) := by decide +kernel
theorem dX6_works_24 : decode cX6_works 24 = .ok (.ireturn, 1) := by decide +kernel
theorem dX6_works_25 : decode cX6_works 25 = .ok (.iload 4, 2) := by decide +kernel
theorem dX6_works_27 : decode cX6_works 27 = .ok (.bipush (-9), 2) := by decide +kernel
theorem dX6_works_29 : decode cX6_works 29 = .ok (.if_icmp .eq 5, 3) := by decide +kernel
theorem dX6_works_32 : decode cX6_works 32 = .ok (.iconst 0, 1) := by decide +kernel
theorem dX6_works_33 : decode cX6_works 33 = .ok (.ireturn, 1) := by decide +kernel
theorem dX6_works_34 : decode cX6_works 34 = .ok (.iconst 0, 1) := by decide +kernel
theorem dX6_works_35 : decode cX6_works 35 = .ok (.istore 5, 2) := by decide +kernel
theorem dX6_works_37 : decode cX6_works 37 = .ok (.iload_n 2, 1) := by decide +kernel
theorem dX6_works_38 : decode cX6_works 38 = .ok (.istore 6, 2) := by decide +kernel
theorem dX6_works_40 : decode cX6_works 40 = .ok (.iload 6, 2) := by decide +kernel
theorem dX6_works_42 : decode cX6_works 42 = .ok (.iload_n 3, 1) := by decide +kernel
theorem dX6_works_43 : decode cX6_works 43 = .ok (.if_icmp .gt 31, 3) := by decide +kernel
theorem dX6_works_46 : decode cX6_works 46 = .ok (.iload 5, 2) := by decide +kernel
theorem dX6_works_48 : decode cX6_works 48 = .ok (.ifCond .ne 13, 3) := by decide +kernel
theorem dX6_works_51 : decode cX6_works 51 = .ok (.aload_n 0, 1) := by decide +kernel
theorem dX6_works_52 : decode cX6_works 52 = .ok (.iload_n 1, 1) := by decide +kernel
theorem dX6_works_53 : decode cX6_works 53 = .ok (.iload 6, 2) := by decide +kernel
theorem dX6_works_55 : decode cX6_works 55 = .ok (.invokevirtual 162, 3) := by decide +kernel
theorem dX6_works_58 : decode cX6_works 58 = .ok (.ifCond .eq 7, 3) := by decide +kernel
theorem dX6_works_61 : decode cX6_works 61 = .ok (.iconst 1, 1) := by decide +kernel
theorem dX6_works_62 : decode cX6_works 62 = .ok (.goto 4, 3) := by decide +kernel
theorem dX6_works_65 : decode cX6_works 65 = .ok (.iconst 0, 1) := by decide +kernel
theorem dX6_works_66 : decode cX6_works 66 = .ok (.istore 5, 2) := by decide +kernel
theorem dX6_works_68 : decode cX6_works 68 = .ok (.iinc 6 1, 3) := by decide +kernel
theorem dX6_works_71 : decode cX6_works 71 = .ok (.goto (-31), 3) := by decide +kernel
theorem dX6_works_74 : decode cX6_works 74 = .ok (.iload 5, 2) := by decide +kernel
theorem dX6_works_76 : decode cX6_works 76 = .ok (.ifCond .eq 7, 3) := by decide +kernel
theorem dX6_works_79 : decode cX6_works 79 = .ok (.iconst 1, 1) := by decide +kernel
theorem dX6_works_80 : decode cX6_works 80 = .ok (.goto 4, 3) := by decide +kernel
theorem dX6_works_83 : decode cX6_works 83 = .ok (.iconst 2, 1) := by decide +kernel
theorem dX6_works_84 : decode cX6_works 84 = .ok (.ireturn, 1) := by decide +kernel
set_option maxRecDepth 20000 in
theorem ggX6_weigh_X6_isAsking : GoodIn wsX6_weigh wsX6_isAsking := goodIn_r _ [8, 9, 10, 11, 7, 12, 17, 18, 19, 20, 21, 22, 23, 24, 25, 26, 27, 28, 29, 30, 31, 32, 33, 34, 35, 36, 37, 38, 39] (by decide +kernel) (by decide +kernel)
set_option maxRecDepth 20000 in
theorem gX6_weigh_X6_isAsking : GoodIn wsX6_weigh (wsV RX6 143 RX6 yX6_isAsking wsX6_isAsking) := goodIn_app (goodIn_of _ (by decide +kernel)) ggX6_weigh_X6_isAsking
set_option maxRecDepth 20000 in
theorem ggX6_weigh_X6_isMark : GoodIn wsX6_weigh wsX6_isMark := goodIn_r _ [15, 16, 10, 11, 7, 12] (by decide +kernel) (by decide +kernel)
set_option maxRecDepth 20000 in
theorem gX6_weigh_X6_isMark : GoodIn wsX6_weigh (va_wsS RX6 116 yX6_isMark wsX6_isMark) := goodIn_app (goodIn_of _ (by decide +kernel)) ggX6_weigh_X6_isMark
set_option maxRecDepth 20000 in
theorem ggX6_weigh_X6_in : GoodIn wsX6_weigh wsX6_in := goodIn_r _ [12] (by decide +kernel) (by decide +kernel)
set_option maxRecDepth 20000 in
theorem gX6_weigh_X6_in : GoodIn wsX6_weigh (va_wsS RX6 69 yX6_in wsX6_in) := goodIn_app (goodIn_of _ (by decide +kernel)) ggX6_weigh_X6_in
theorem dX6_weigh_0 : decode cX6_weigh 0 = .ok (.iload_n 1, 1) := by decide +kernel
theorem dX6_weigh_1 : decode cX6_weigh 1 = .ok (.ifCond .eq 14, 3) := by decide +kernel
theorem dX6_weigh_4 : decode cX6_weigh 4 = .ok (.aload_n 0, 1) := by decide +kernel
theorem dX6_weigh_5 : decode cX6_weigh 5 = .ok (.iload_n 2, 1) := by decide +kernel
theorem dX6_weigh_6 : decode cX6_weigh 6 = .ok (.invokevirtual 143, 3) := by decide +kernel
theorem dX6_weigh_9 : decode cX6_weigh 9 = .ok (.ifCond .ne 15, 3) := by decide +kernel
theorem dX6_weigh_12 : decode cX6_weigh 12 = .ok (.goto 10, 3) := by decide +kernel
theorem dX6_weigh_15 : decode cX6_weigh 15 = .ok (.iload_n 2, 1) := by decide +kernel
theorem dX6_weigh_16 : decode cX6_weigh 16 = .ok (.invokestatic 116, 3) := by decide +kernel
theorem dX6_weigh_19 : decode cX6_weigh 19 = .ok (.ifCond .ne 5, 3) := by decide +kernel
theorem dX6_weigh_22 : decode cX6_weigh 22 = .ok (.iconst (-1), 1) := by decide +kernel
theorem dX6_weigh_23 : decode cX6_weigh 23 = .ok (.ireturn, 1) := by decide +kernel
theorem dX6_weigh_24 : decode cX6_weigh 24 = .ok (.iload_n 3, 1) := by decide +kernel
theorem dX6_weigh_25 : decode cX6_weigh 25 = .ok (.i2l, 1) := by decide +kernel
theorem dX6_weigh_26 : decode cX6_weigh 26 = .ok (.lconst 0, 1) := by decide +kernel
theorem dX6_weigh_27 : decode cX6_weigh 27 = .ok (.ldc2_w 165, 3) := by decide +kernel
theorem dX6_weigh_30 : decode cX6_weigh 30 = .ok (.invokestatic 69, 3) := by decide +kernel
theorem dX6_weigh_33 : decode cX6_weigh 33 = .ok (.ifCond .ne 6, 3) := by decide +kernel
theorem dX6_weigh_36 : decode cX6_weigh 36 = .ok (.bipush (-2), 2) := by decide +kernel
theorem dX6_weigh_38 : decode cX6_weigh 38 = .ok (.ireturn, 1) := by decide +kernel
theorem dX6_weigh_39 : decode cX6_weigh 39 = .ok (.iload_n 1, 1) := by decide +kernel
theorem dX6_weigh_40 : decode cX6_weigh 40 = .ok (.ifCond .eq 12, 3) := by decide +kernel
theorem dX6_weigh_43 : decode cX6_weigh 43 = .ok (.aload_n 0, 1) := by decide +kernel
theorem dX6_weigh_44 : decode cX6_weigh 44 = .ok (.getfield 59, 3) := by decide +kernel
theorem dX6_weigh_47 : decode cX6_weigh 47 = .ok (.iload_n 2, 1) := by decide +kernel
theorem dX6_weigh_48 : decode cX6_weigh 48 = .ok (.iaload, 1) := by decide +kernel
theorem dX6_weigh_49 : decode cX6_weigh 49 = .ok (.goto 9, 3) := by decide +kernel
theorem dX6_weigh_52 : decode cX6_weigh 52 = .ok (.aload_n 0, 1) := by decide +kernel
theorem dX6_weigh_53 : decode cX6_weigh 53 = .ok (.getfield 62, 3) := by decide +kernel
theorem dX6_weigh_56 : decode cX6_weigh 56 = .ok (.iload_n 2, 1) := by decide +kernel
theorem dX6_weigh_57 : decode cX6_weigh 57 = .ok (.iaload, 1) := by decide +kernel
theorem dX6_weigh_58 : decode cX6_weigh 58 = .ok (.istore 4, 2) := by decide +kernel
theorem dX6_weigh_60 : decode cX6_weigh 60 = .ok (.iload_n 1, 1) := by decide +kernel
theorem dX6_weigh_61 : decode cX6_weigh 61 = .ok (.ifCond .eq 13, 3) := by decide +kernel
theorem dX6_weigh_64 : decode cX6_weigh 64 = .ok (.aload_n 0, 1) := by decide +kernel
theorem dX6_weigh_65 : decode cX6_weigh 65 = .ok (.getfield 59, 3) := by decide +kernel
theorem dX6_weigh_68 : decode cX6_weigh 68 = .ok (.iload_n 2, 1) := by decide +kernel
theorem dX6_weigh_69 : decode cX6_weigh 69 = .ok (.iload_n 3, 1) := by decide +kernel
theorem dX6_weigh_70 : decode cX6_weigh 70 = .ok (.iastore, 1) := by decide +kernel
theorem dX6_weigh_71 : decode cX6_weigh 71 = .ok (.goto 10, 3) := by decide +kernel
theorem dX6_weigh_74 : decode cX6_weigh 74 = .ok (.aload_n 0, 1) := by decide +kernel
theorem dX6_weigh_75 : decode cX6_weigh 75 = .ok (.getfield 62, 3) := by decide +kernel
theorem dX6_weigh_78 : decode cX6_weigh 78 = .ok (.iload_n 2, 1) := by decide +kernel
theorem dX6_weigh_79 : decode cX6_weigh 79 = .ok (.iload_n 3, 1) := by decide +kernel
theorem dX6_weigh_80 : decode cX6_weigh 80 = .ok (.iastore, 1) := by decide +kernel
theorem dX6_weigh_81 : decode cX6_weigh 81 = .ok (.iload 4, 2) := by decide +kernel
theorem dX6_weigh_83 : decode cX6_weigh 83 = .ok (.ireturn, 1) := by decide +kernel
theorem dX6_lossOf_0 : decode cX6_lossOf 0 = .ok (.iconst 0, 1) := by decide +kernel
theorem dX6_lossOf_1 : decode cX6_lossOf 1 = .ok (.istore_n 2, 1) := by decide +kernel
theorem dX6_lossOf_2 : decode cX6_lossOf 2 = .ok (.iconst 0, 1) := by decide +kernel
theorem dX6_lossOf_3 : decode cX6_lossOf 3 = .ok (.istore_n 3, 1) := by decide +kernel
theorem dX6_lossOf_4 : decode cX6_lossOf 4 = .ok (.iload_n 3, 1) := by decide +kernel
theorem dX6_lossOf_5 : decode cX6_lossOf 5 = .ok (.bipush 6, 2) := by decide +kernel
theorem dX6_lossOf_7 : decode cX6_lossOf 7 = .ok (.if_icmp .ge 31, 3) := by decide +kernel
theorem dX6_lossOf_10 : decode cX6_lossOf 10 = .ok (.iload_n 2, 1) := by decide +kernel
theorem dX6_lossOf_11 : decode cX6_lossOf 11 = .ok (.iload_n 1, 1) := by decide +kernel
theorem dX6_lossOf_12 : decode cX6_lossOf 12 = .ok (.iload_n 3, 1) := by decide +kernel
theorem dX6_lossOf_13 : decode cX6_lossOf 13 = .ok (.ishr, 1) := by decide +kernel
theorem dX6_lossOf_14 : decode cX6_lossOf 14 = .ok (.iconst 1, 1) := by decide +kernel
theorem dX6_lossOf_15 : decode cX6_lossOf 15 = .ok (.iand, 1) := by decide +kernel
theorem dX6_lossOf_16 : decode cX6_lossOf 16 = .ok (.iconst 1, 1) := by decide +kernel
theorem dX6_lossOf_17 : decode cX6_lossOf 17 = .ok (.if_icmp .ne 12, 3) := by decide +kernel
theorem dX6_lossOf_20 : decode cX6_lossOf 20 = .ok (.aload_n 0, 1) := by decide +kernel
theorem dX6_lossOf_21 : decode cX6_lossOf 21 = .ok (.getfield 62, 3) := by decide +kernel
theorem dX6_lossOf_24 : decode cX6_lossOf 24 = .ok (.iload_n 3, 1) := by decide +kernel
theorem dX6_lossOf_25 : decode cX6_lossOf 25 = .ok (.iaload, 1) := by decide +kernel
theorem dX6_lossOf_26 : decode cX6_lossOf 26 = .ok (.goto 4, 3) := by decide +kernel
theorem dX6_lossOf_29 : decode cX6_lossOf 29 = .ok (.iconst 0, 1) := by decide +kernel
theorem dX6_lossOf_30 : decode cX6_lossOf 30 = .ok (.iadd, 1) := by decide +kernel
theorem dX6_lossOf_31 : decode cX6_lossOf 31 = .ok (.istore_n 2, 1) := by decide +kernel
theorem dX6_lossOf_32 : decode cX6_lossOf 32 = .ok (.iinc 3 1, 3) := by decide +kernel
theorem dX6_lossOf_35 : decode cX6_lossOf 35 = .ok (.goto (-31), 3) := by decide +kernel
theorem dX6_lossOf_38 : decode cX6_lossOf 38 = .ok (.iconst 0, 1) := by decide +kernel
theorem dX6_lossOf_39 : decode cX6_lossOf 39 = .ok (.istore_n 3, 1) := by decide +kernel
theorem dX6_lossOf_40 : decode cX6_lossOf 40 = .ok (.iload_n 3, 1) := by decide +kernel
theorem dX6_lossOf_41 : decode cX6_lossOf 41 = .ok (.aload_n 0, 1) := by decide +kernel
theorem dX6_lossOf_42 : decode cX6_lossOf 42 = .ok (.getfield 140, 3) := by decide +kernel
theorem dX6_lossOf_45 : decode cX6_lossOf 45 = .ok (.if_icmp .ge 33, 3) := by decide +kernel
theorem dX6_lossOf_48 : decode cX6_lossOf 48 = .ok (.iload_n 2, 1) := by decide +kernel
theorem dX6_lossOf_49 : decode cX6_lossOf 49 = .ok (.aload_n 0, 1) := by decide +kernel
theorem dX6_lossOf_50 : decode cX6_lossOf 50 = .ok (.getfield 50, 3) := by decide +kernel
theorem dX6_lossOf_53 : decode cX6_lossOf 53 = .ok (.iload_n 3, 1) := by decide +kernel
theorem dX6_lossOf_54 : decode cX6_lossOf 54 = .ok (.iaload, 1) := by decide +kernel
theorem dX6_lossOf_55 : decode cX6_lossOf 55 = .ok (.iload_n 1, 1) := by decide +kernel
theorem dX6_lossOf_56 : decode cX6_lossOf 56 = .ok (.iand, 1) := by decide +kernel
theorem dX6_lossOf_57 : decode cX6_lossOf 57 = .ok (.ifCond .eq 12, 3) := by decide +kernel
theorem dX6_lossOf_60 : decode cX6_lossOf 60 = .ok (.aload_n 0, 1) := by decide +kernel
theorem dX6_lossOf_61 : decode cX6_lossOf 61 = .ok (.getfield 59, 3) := by decide +kernel
theorem dX6_lossOf_64 : decode cX6_lossOf 64 = .ok (.iload_n 3, 1) := by decide +kernel
theorem dX6_lossOf_65 : decode cX6_lossOf 65 = .ok (.iaload, 1) := by decide +kernel
theorem dX6_lossOf_66 : decode cX6_lossOf 66 = .ok (.goto 4, 3) := by decide +kernel
theorem dX6_lossOf_69 : decode cX6_lossOf 69 = .ok (.iconst 0, 1) := by decide +kernel
theorem dX6_lossOf_70 : decode cX6_lossOf 70 = .ok (.iadd, 1) := by decide +kernel
theorem dX6_lossOf_71 : decode cX6_lossOf 71 = .ok (.istore_n 2, 1) := by decide +kernel
theorem dX6_lossOf_72 : decode cX6_lossOf 72 = .ok (.iinc 3 1, 3) := by decide +kernel
theorem dX6_lossOf_75 : decode cX6_lossOf 75 = .ok (.goto (-35), 3) := by decide +kernel
theorem dX6_lossOf_78 : decode cX6_lossOf 78 = .ok (.iload_n 2, 1) := by decide +kernel
theorem dX6_lossOf_79 : decode cX6_lossOf 79 = .ok (.ireturn, 1) := by decide +kernel
set_option maxRecDepth 20000 in
theorem ggX6_loss_X6_in : GoodIn wsX6_loss wsX6_in := goodIn_r _ [5] (by decide +kernel) (by decide +kernel)
set_option maxRecDepth 20000 in
theorem gX6_loss_X6_in : GoodIn wsX6_loss (va_wsS RX6 69 yX6_in wsX6_in) := goodIn_app (goodIn_of _ (by decide +kernel)) ggX6_loss_X6_in
set_option maxRecDepth 20000 in
theorem ggX6_loss_X6_lossOf : GoodIn wsX6_loss wsX6_lossOf := goodIn_r _ [9, 10, 11, 12, 13, 14, 15, 16, 17, 18, 19, 20, 21, 22, 23, 24, 25, 26, 27, 28, 29, 30, 31, 32, 33, 34, 35, 36] (by decide +kernel) (by decide +kernel)
set_option maxRecDepth 20000 in
theorem gX6_loss_X6_lossOf : GoodIn wsX6_loss (wsV RX6 167 RX6 yX6_lossOf wsX6_lossOf) := goodIn_app (goodIn_of _ (by decide +kernel)) ggX6_loss_X6_lossOf
theorem dX6_loss_0 : decode cX6_loss 0 = .ok (.iload_n 1, 1) := by decide +kernel
theorem dX6_loss_1 : decode cX6_loss 1 = .ok (.i2l, 1) := by decide +kernel
theorem dX6_loss_2 : decode cX6_loss 2 = .ok (.lconst 0, 1) := by decide +kernel
theorem dX6_loss_3 : decode cX6_loss 3 = .ok (.ldc2_w 129, 3) := by decide +kernel
theorem dX6_loss_6 : decode cX6_loss 6 = .ok (.invokestatic 69, 3) := by decide +kernel
theorem dX6_loss_9 : decode cX6_loss 9 = .ok (.ifCond .eq 11, 3) := by decide +kernel
theorem dX6_loss_12 : decode cX6_loss 12 = .ok (.aload_n 0, 1) := by decide +kernel
theorem dX6_loss_13 : decode cX6_loss 13 = .ok (.iload_n 1, 1) := by decide +kernel
theorem dX6_loss_14 : decode cX6_loss 14 = .ok (.invokevirtual 167, 3) := by decide +kernel
theorem dX6_loss_17 : decode cX6_loss 17 = .ok (.goto 5, 3) := by decide +kernel
theorem dX6_loss_20 : decode cX6_loss 20 = .ok (.bipush (-2), 2) := by decide +kernel
theorem dX6_loss_22 : decode cX6_loss 22 = .ok (.ireturn, 1) := by decide +kernel
set_option maxRecDepth 20000 in
theorem ggX6_plan_X6_in : GoodIn wsX6_plan wsX6_in := goodIn_r _ [5] (by decide +kernel) (by decide +kernel)
set_option maxRecDepth 20000 in
theorem gX6_plan_X6_in : GoodIn wsX6_plan (va_wsS RX6 69 yX6_in wsX6_in) := goodIn_app (goodIn_of _ (by decide +kernel)) ggX6_plan_X6_in
set_option maxRecDepth 20000 in
theorem ggX6_plan_X6_isSpan : GoodIn wsX6_plan wsX6_isSpan := goodIn_r _ [9, 10, 2, 3, 4, 5, 42, 43, 44, 45, 46, 47, 48, 49, 50, 51, 52, 53, 54, 55, 56, 57, 58, 59, 60, 61, 62, 63, 64] (by decide +kernel) (by decide +kernel)
set_option maxRecDepth 20000 in
theorem gX6_plan_X6_isSpan : GoodIn wsX6_plan (wsV RX6 99 RX6 yX6_isSpan wsX6_isSpan) := goodIn_app (goodIn_of _ (by decide +kernel)) ggX6_plan_X6_isSpan
set_option maxRecDepth 20000 in
theorem ggX6_plan_X6_look : GoodIn wsX6_plan wsX6_look := goodIn_r _ [14, 15, 16, 17, 18, 19, 42, 43, 44, 45, 46, 47, 48, 49, 50, 51, 52, 53, 54, 55, 56, 57, 58, 59, 60, 61, 62, 63, 64] (by decide +kernel) (by decide +kernel)
set_option maxRecDepth 20000 in
theorem gX6_plan_X6_look : GoodIn wsX6_plan (wsV RX6 112 RX6 yX6_look wsX6_look) := goodIn_app (goodIn_of _ (by decide +kernel)) ggX6_plan_X6_look
set_option maxRecDepth 20000 in
theorem ggX6_plan_X6_unlikeWithout : GoodIn wsX6_plan wsX6_unlikeWithout := goodIn_r _ [23, 24, 15, 16, 25, 26, 27, 4, 28, 29, 30, 31, 32, 33, 42, 43, 44, 45, 46, 47, 48, 49, 50, 51, 52, 53, 54, 55, 56, 57, 58, 59, 60, 61, 62, 63, 64] (by decide +kernel) (by decide +kernel)
set_option maxRecDepth 20000 in
theorem gX6_plan_X6_unlikeWithout : GoodIn wsX6_plan (wsV RX6 131 RX6 yX6_unlikeWithout wsX6_unlikeWithout) := goodIn_app (goodIn_of _ (by decide +kernel)) ggX6_plan_X6_unlikeWithout
set_option maxRecDepth 20000 in
theorem ggX6_plan_X6_lossOf : GoodIn wsX6_plan wsX6_lossOf := goodIn_r _ [37, 38, 39, 40, 41, 42, 43, 44, 45, 46, 47, 48, 49, 50, 51, 52, 53, 54, 55, 56, 57, 58, 59, 60, 61, 62, 63, 64] (by decide +kernel) (by decide +kernel)
set_option maxRecDepth 20000 in
theorem gX6_plan_X6_lossOf : GoodIn wsX6_plan (wsV RX6 167 RX6 yX6_lossOf wsX6_lossOf) := goodIn_app (goodIn_of _ (by decide +kernel)) ggX6_plan_X6_lossOf
theorem dX6_plan_0 : decode cX6_plan 0 = .ok (.iload_n 1, 1) := by decide +kernel
theorem dX6_plan_1 : decode cX6_plan 1 = .ok (.i2l, 1) := by decide +kernel
theorem dX6_plan_2 : decode cX6_plan 2 = .ok (.lconst 0, 1) := by decide +kernel
theorem dX6_plan_3 : decode cX6_plan 3 = .ok (.ldc2_w 170, 3) := by decide +kernel
theorem dX6_plan_6 : decode cX6_plan 6 = .ok (.invokestatic 69, 3) := by decide +kernel
theorem dX6_plan_9 : decode cX6_plan 9 = .ok (.ifCond .eq 12, 3) := by decide +kernel
theorem dX6_plan_12 : decode cX6_plan 12 = .ok (.aload_n 0, 1) := by decide +kernel
theorem dX6_plan_13 : decode cX6_plan 13 = .ok (.iload_n 2, 1) := by decide +kernel
theorem dX6_plan_14 : decode cX6_plan 14 = .ok (.iload_n 3, 1) := by decide +kernel
theorem dX6_plan_15 : decode cX6_plan 15 = .ok (.invokevirtual 99, 3) := by decide +kernel
theorem dX6_plan_18 : decode cX6_plan 18 = .ok (.ifCond .ne 6, 3) := by decide +kernel
theorem dX6_plan_21 : decode cX6_plan 21 = .ok (.bipush (-2), 2) := by decide +kernel
theorem dX6_plan_23 : decode cX6_plan 23 = .ok (.ireturn, 1) := by decide +kernel
theorem dX6_plan_24 : decode cX6_plan 24 = .ok (.aload_n 0, 1) := by decide +kernel
theorem dX6_plan_25 : decode cX6_plan 25 = .ok (.iload_n 2, 1) := by decide +kernel
theorem dX6_plan_26 : decode cX6_plan 26 = .ok (.iload_n 3, 1) := by decide +kernel
theorem dX6_plan_27 : decode cX6_plan 27 = .ok (.invokevirtual 112, 3) := by decide +kernel
theorem dX6_plan_30 : decode cX6_plan 30 = .ok (.istore 4, 2) := by decide +kernel
theorem dX6_plan_32 : decode cX6_plan 32 = .ok (.bipush (-9), 2) := by decide +kernel
theorem dX6_plan_34 : decode cX6_plan 34 = .ok (.istore 5, 2) := by decide +kernel
theorem dX6_plan_36 : decode cX6_plan 36 = .ok (.iconst 0, 1) := by decide +kernel
theorem dX6_plan_37 : decode cX6_plan 37 = .ok (.istore 6, 2) := by decide +kernel
theorem dX6_plan_39 : decode cX6_plan 39 = .ok (.iconst 0, 1) := by decide +kernel
theorem dX6_plan_40 : decode cX6_plan 40 = .ok (.istore 7, 2) := by decide +kernel
theorem dX6_plan_42 : decode cX6_plan 42 = .ok (.iconst 0, 1) := by decide +kernel
theorem dX6_plan_43 : decode cX6_plan 43 = .ok (.istore 8, 2) := by decide +kernel
theorem dX6_plan_45 : decode cX6_plan 45 = .ok (.iload 8, 2) := by decide +kernel
theorem dX6_plan_47 : decode cX6_plan 47 = .ok (.bipush 64, 2) := by decide +kernel
theorem dX6_plan_49 : decode cX6_plan 49 = .ok (.if_icmp .ge 71, 3) := by decide +kernel
theorem dX6_plan_52 : decode cX6_plan 52 = .ok (.aload_n 0, 1) := by decide +kernel
theorem dX6_plan_53 : decode cX6_plan 53 = .ok (.iload 8, 2) := by decide +kernel
theorem dX6_plan_55 : decode cX6_plan 55 = .ok (.invokevirtual 131, 3) := by decide +kernel
theorem dX6_plan_58 : decode cX6_plan 58 = .ok (.istore 9, 2) := by decide +kernel
theorem dX6_plan_60 : decode cX6_plan 60 = .ok (.aload_n 0, 1) := by decide +kernel
theorem dX6_plan_61 : decode cX6_plan 61 = .ok (.iload 8, 2) := by decide +kernel
theorem dX6_plan_63 : decode cX6_plan 63 = .ok (.invokevirtual 167, 3) := by decide +kernel
theorem dX6_plan_66 : decode cX6_plan 66 = .ok (.istore 10, 2) := by decide +kernel
theorem dX6_plan_68 : decode cX6_plan 68 = .ok (.iload 9, 2) := by decide +kernel
theorem dX6_plan_70 : decode cX6_plan 70 = .ok (.iload_n 1, 1) := by decide +kernel
theorem dX6_plan_71 : decode cX6_plan 71 = .ok (.if_icmp .gt 43, 3) := by decide +kernel
theorem dX6_plan_74 : decode cX6_plan 74 = .ok (.iload 5, 2) := by decide +kernel
theorem dX6_plan_76 : decode cX6_plan 76 = .ok (.bipush (-9), 2) := by decide +kernel
theorem dX6_plan_78 : decode cX6_plan 78 = .ok (.if_icmp .eq 24, 3) := by decide +kernel
theorem dX6_plan_81 : decode cX6_plan 81 = .ok (.iload 10, 2) := by decide +kernel
theorem dX6_plan_83 : decode cX6_plan 83 = .ok (.iload 6, 2) := by decide +kernel
theorem dX6_plan_85 : decode cX6_plan 85 = .ok (.if_icmp .lt 17, 3) := by decide +kernel
theorem dX6_plan_88 : decode cX6_plan 88 = .ok (.iload 10, 2) := by decide +kernel
theorem dX6_plan_90 : decode cX6_plan 90 = .ok (.iload 6, 2) := by decide +kernel
theorem dX6_plan_92 : decode cX6_plan 92 = .ok (.if_icmp .ne 22, 3) := by decide +kernel
theorem dX6_plan_95 : decode cX6_plan 95 = .ok (.iload 9, 2) := by decide +kernel
theorem dX6_plan_97 : decode cX6_plan 97 = .ok (.iload 7, 2) := by decide +kernel
theorem dX6_plan_99 : decode cX6_plan 99 = .ok (.if_icmp .le 15, 3) := by decide +kernel
theorem dX6_plan_102 : decode cX6_plan 102 = .ok (.iload 8, 2) := by decide +kernel
theorem dX6_plan_104 : decode cX6_plan 104 = .ok (.istore 5, 2) := by decide +kernel
theorem dX6_plan_106 : decode cX6_plan 106 = .ok (.iload 10, 2) := by decide +kernel
theorem dX6_plan_108 : decode cX6_plan 108 = .ok (.istore 6, 2) := by decide +kernel
theorem dX6_plan_110 : decode cX6_plan 110 = .ok (.iload 9, 2) := by decide +kernel
theorem dX6_plan_112 : decode cX6_plan 112 = .ok (.istore 7, 2) := by decide +kernel
theorem dX6_plan_114 : decode cX6_plan 114 = .ok (.iinc 8 1, 3) := by decide +kernel
theorem dX6_plan_117 : decode cX6_plan 117 = .ok (.goto (-72), 3) := by decide +kernel
theorem dX6_plan_120 : decode cX6_plan 120 = .ok (.iload 5, 2) := by decide +kernel
theorem dX6_plan_122 : decode cX6_plan 122 = .ok (.ireturn, 1) := by decide +kernel
set_option maxRecDepth 20000 in
theorem ggX6_bill_X6_isMark : GoodIn wsX6_bill wsX6_isMark := goodIn_r _ [7, 8, 9, 10, 6, 11] (by decide +kernel) (by decide +kernel)
set_option maxRecDepth 20000 in
theorem gX6_bill_X6_isMark : GoodIn wsX6_bill (va_wsS RX6 116 yX6_isMark wsX6_isMark) := goodIn_app (goodIn_of _ (by decide +kernel)) ggX6_bill_X6_isMark
set_option maxRecDepth 20000 in
theorem ggX6_bill_X6_isValue : GoodIn wsX6_bill wsX6_isValue := goodIn_r _ [14, 15, 9, 10, 6, 11] (by decide +kernel) (by decide +kernel)
set_option maxRecDepth 20000 in
theorem gX6_bill_X6_isValue : GoodIn wsX6_bill (va_wsS RX6 137 yX6_isValue wsX6_isValue) := goodIn_app (goodIn_of _ (by decide +kernel)) ggX6_bill_X6_isValue
set_option maxRecDepth 20000 in
theorem ggX6_bill_X6_isSpan : GoodIn wsX6_bill wsX6_isSpan := goodIn_r _ [19, 20, 9, 10, 6, 11, 31, 32, 33, 34, 35, 36, 37, 38, 39, 40, 41, 42, 43, 44, 45, 46, 47, 48, 49, 50, 51, 52, 53] (by decide +kernel) (by decide +kernel)
set_option maxRecDepth 20000 in
theorem gX6_bill_X6_isSpan : GoodIn wsX6_bill (wsV RX6 99 RX6 yX6_isSpan wsX6_isSpan) := goodIn_app (goodIn_of _ (by decide +kernel)) ggX6_bill_X6_isSpan
set_option maxRecDepth 20000 in
theorem ggX6_bill_X6_look : GoodIn wsX6_bill wsX6_look := goodIn_r _ [24, 1, 2, 25, 26, 27, 31, 32, 33, 34, 35, 36, 37, 38, 39, 40, 41, 42, 43, 44, 45, 46, 47, 48, 49, 50, 51, 52, 53] (by decide +kernel) (by decide +kernel)
set_option maxRecDepth 20000 in
theorem gX6_bill_X6_look : GoodIn wsX6_bill (wsV RX6 112 RX6 yX6_look wsX6_look) := goodIn_app (goodIn_of _ (by decide +kernel)) ggX6_bill_X6_look
set_option maxRecDepth 20000 in
theorem ggX6_bill_X6_digit : GoodIn wsX6_bill wsX6_digit := goodIn_r _ [30] (by decide +kernel) (by decide +kernel)
set_option maxRecDepth 20000 in
theorem gX6_bill_X6_digit : GoodIn wsX6_bill (va_wsS RX6 119 yX6_digit wsX6_digit) := goodIn_app (goodIn_of _ (by decide +kernel)) ggX6_bill_X6_digit
theorem dX6_bill_0 : decode cX6_bill 0 = .ok (.iload_n 1, 1) := by decide +kernel
theorem dX6_bill_1 : decode cX6_bill 1 = .ok (.invokestatic 116, 3) := by decide +kernel
theorem dX6_bill_4 : decode cX6_bill 4 = .ok (.ifCond .eq 10, 3) := by decide +kernel
theorem dX6_bill_7 : decode cX6_bill 7 = .ok (.iload_n 2, 1) := by decide +kernel
theorem dX6_bill_8 : decode cX6_bill 8 = .ok (.invokestatic 137, 3) := by decide +kernel
theorem dX6_bill_11 : decode cX6_bill 11 = .ok (.ifCond .ne 5, 3) := by decide +kernel
theorem dX6_bill_14 : decode cX6_bill 14 = .ok (.iconst (-1), 1) := by decide +kernel
theorem dX6_bill_15 : decode cX6_bill 15 = .ok (.ireturn, 1) := by decide +kernel
theorem dX6_bill_16 : decode cX6_bill 16 = .ok (.aload_n 0, 1) := by decide +kernel
theorem dX6_bill_17 : decode cX6_bill 17 = .ok (.iload_n 3, 1) := by decide +kernel
theorem dX6_bill_18 : decode cX6_bill 18 = .ok (.iload 4, 2) := by decide +kernel
theorem dX6_bill_20 : decode cX6_bill 20 = .ok (.invokevirtual 99, 3) := by decide +kernel
theorem dX6_bill_23 : decode cX6_bill 23 = .ok (.ifCond .ne 6, 3) := by decide +kernel
theorem dX6_bill_26 : decode cX6_bill 26 = .ok (.bipush (-2), 2) := by decide +kernel
theorem dX6_bill_28 : decode cX6_bill 28 = .ok (.ireturn, 1) := by decide +kernel
theorem dX6_bill_29 : decode cX6_bill 29 = .ok (.aload_n 0, 1) := by decide +kernel
theorem dX6_bill_30 : decode cX6_bill 30 = .ok (.iload_n 3, 1) := by decide +kernel
theorem dX6_bill_31 : decode cX6_bill 31 = .ok (.iload 4, 2) := by decide +kernel
theorem dX6_bill_33 : decode cX6_bill 33 = .ok (.invokevirtual 112, 3) := by decide +kernel
theorem dX6_bill_36 : decode cX6_bill 36 = .ok (.istore 5, 2) := by decide +kernel
theorem dX6_bill_38 : decode cX6_bill 38 = .ok (.iconst 0, 1) := by decide +kernel
theorem dX6_bill_39 : decode cX6_bill 39 = .ok (.istore 6, 2) := by decide +kernel
theorem dX6_bill_41 : decode cX6_bill 41 = .ok (.iconst 0, 1) := by decide +kernel
theorem dX6_bill_42 : decode cX6_bill 42 = .ok (.istore 7, 2) := by decide +kernel
theorem dX6_bill_44 : decode cX6_bill 44 = .ok (.iload 7, 2) := by decide +kernel
theorem dX6_bill_46 : decode cX6_bill 46 = .ok (.aload_n 0, 1) := by decide +kernel
theorem dX6_bill_47 : decode cX6_bill 47 = .ok (.getfield 81, 3) := by decide +kernel
theorem dX6_bill_50 : decode cX6_bill 50 = .ok (.if_icmp .ge 44, 3) := by decide +kernel
theorem dX6_bill_53 : decode cX6_bill 53 = .ok (.iload 6, 2) := by decide +kernel
theorem dX6_bill_55 : decode cX6_bill 55 = .ok (.aload_n 0, 1) := by decide +kernel
theorem dX6_bill_56 : decode cX6_bill 56 = .ok (.getfield 44, 3) := by decide +kernel
theorem dX6_bill_59 : decode cX6_bill 59 = .ok (.iload 7, 2) := by decide +kernel
theorem dX6_bill_61 : decode cX6_bill 61 = .ok (.baload, 1) := by decide +kernel
theorem dX6_bill_62 : decode cX6_bill 62 = .ok (.ifCond .eq 22, 3) := by decide +kernel
theorem dX6_bill_65 : decode cX6_bill 65 = .ok (.aload_n 0, 1) := by decide +kernel
theorem dX6_bill_66 : decode cX6_bill 66 = .ok (.getfield 17, 3) := by decide +kernel
theorem dX6_bill_69 : decode cX6_bill 69 = .ok (.iload 7, 2) := by decide +kernel
theorem dX6_bill_71 : decode cX6_bill 71 = .ok (.iaload, 1) := by decide +kernel
theorem dX6_bill_72 : decode cX6_bill 72 = .ok (.iload_n 1, 1) := by decide +kernel
theorem dX6_bill_73 : decode cX6_bill 73 = .ok (.invokestatic 119, 3) := by decide +kernel
theorem dX6_bill_76 : decode cX6_bill 76 = .ok (.iload_n 2, 1) := by decide +kernel
theorem dX6_bill_77 : decode cX6_bill 77 = .ok (.if_icmp .ne 7, 3) := by decide +kernel
theorem dX6_bill_80 : decode cX6_bill 80 = .ok (.iconst 1, 1) := by decide +kernel
theorem dX6_bill_81 : decode cX6_bill 81 = .ok (.goto 4, 3) := by decide +kernel
theorem dX6_bill_84 : decode cX6_bill 84 = .ok (.iconst 0, 1) := by decide +kernel
theorem dX6_bill_85 : decode cX6_bill 85 = .ok (.iadd, 1) := by decide +kernel
theorem dX6_bill_86 : decode cX6_bill 86 = .ok (.istore 6, 2) := by decide +kernel
theorem dX6_bill_88 : decode cX6_bill 88 = .ok (.iinc 7 1, 3) := by decide +kernel
theorem dX6_bill_91 : decode cX6_bill 91 = .ok (.goto (-47), 3) := by decide +kernel
theorem dX6_bill_94 : decode cX6_bill 94 = .ok (.iload 6, 2) := by decide +kernel
theorem dX6_bill_96 : decode cX6_bill 96 = .ok (.ireturn, 1) := by decide +kernel
theorem dX6_count_0 : decode cX6_count 0 = .ok (.iconst 0, 1) := by decide +kernel
theorem dX6_count_1 : decode cX6_count 1 = .ok (.istore_n 2, 1) := by decide +kernel
theorem dX6_count_2 : decode cX6_count 2 = .ok (.iload_n 1, 1) := by decide +kernel
theorem dX6_count_3 : decode cX6_count 3 = .ok (.tableswitch 94 0 4 #[33, 38, 43, 48, 53], 33) := by decide +kernel
theorem dX6_count_36 : decode cX6_count 36 = .ok (.aload_n 0, 1) := by decide +kernel
theorem dX6_count_37 : decode cX6_count 37 = .ok (.getfield 65, 3) := by decide +kernel
theorem dX6_count_40 : decode cX6_count 40 = .ok (.ireturn, 1) := by decide +kernel
theorem dX6_count_41 : decode cX6_count 41 = .ok (.aload_n 0, 1) := by decide +kernel
theorem dX6_count_42 : decode cX6_count 42 = .ok (.getfield 81, 3) := by decide +kernel
theorem dX6_count_45 : decode cX6_count 45 = .ok (.ireturn, 1) := by decide +kernel
theorem dX6_count_46 : decode cX6_count 46 = .ok (.aload_n 0, 1) := by decide +kernel
theorem dX6_count_47 : decode cX6_count 47 = .ok (.getfield 94, 3) := by decide +kernel
theorem dX6_count_50 : decode cX6_count 50 = .ok (.ireturn, 1) := by decide +kernel
theorem dX6_count_51 : decode cX6_count 51 = .ok (.aload_n 0, 1) := by decide +kernel
theorem dX6_count_52 : decode cX6_count 52 = .ok (.getfield 140, 3) := by decide +kernel
theorem dX6_count_55 : decode cX6_count 55 = .ok (.ireturn, 1) := by decide +kernel
theorem dX6_count_56 : decode cX6_count 56 = .ok (.iconst 0, 1) := by decide +kernel
theorem dX6_count_57 : decode cX6_count 57 = .ok (.istore_n 3, 1) := by decide +kernel
theorem dX6_count_58 : decode cX6_count 58 = .ok (.iload_n 3, 1) := by decide +kernel
theorem dX6_count_59 : decode cX6_count 59 = .ok (.bipush 6, 2) := by decide +kernel
theorem dX6_count_61 : decode cX6_count 61 = .ok (.if_icmp .ge 34, 3) := by decide +kernel
theorem dX6_count_64 : decode cX6_count 64 = .ok (.iload_n 2, 1) := by decide +kernel
theorem dX6_count_65 : decode cX6_count 65 = .ok (.aload_n 0, 1) := by decide +kernel
theorem dX6_count_66 : decode cX6_count 66 = .ok (.getfield 7, 3) := by decide +kernel
theorem dX6_count_69 : decode cX6_count 69 = .ok (.bipush 6, 2) := by decide +kernel
theorem dX6_count_71 : decode cX6_count 71 = .ok (.aload_n 0, 1) := by decide +kernel
theorem dX6_count_72 : decode cX6_count 72 = .ok (.getfield 65, 3) := by decide +kernel
theorem dX6_count_75 : decode cX6_count 75 = .ok (.imul, 1) := by decide +kernel
theorem dX6_count_76 : decode cX6_count 76 = .ok (.iload_n 3, 1) := by decide +kernel
theorem dX6_count_77 : decode cX6_count 77 = .ok (.iadd, 1) := by decide +kernel
theorem dX6_count_78 : decode cX6_count 78 = .ok (.baload, 1) := by decide +kernel
theorem dX6_count_79 : decode cX6_count 79 = .ok (.ifCond .eq 7, 3) := by decide +kernel
theorem dX6_count_82 : decode cX6_count 82 = .ok (.iconst 1, 1) := by decide +kernel
theorem dX6_count_83 : decode cX6_count 83 = .ok (.goto 4, 3) := by decide +kernel
theorem dX6_count_86 : decode cX6_count 86 = .ok (.iconst 0, 1) := by decide +kernel
theorem dX6_count_87 : decode cX6_count 87 = .ok (.iadd, 1) := by decide +kernel
theorem dX6_count_88 : decode cX6_count 88 = .ok (.istore_n 2, 1) := by decide +kernel
theorem dX6_count_89 : decode cX6_count 89 = .ok (.iinc 3 1, 3) := by decide +kernel
theorem dX6_count_92 : decode cX6_count 92 = .ok (.goto (-34), 3) := by decide +kernel
theorem dX6_count_95 : decode cX6_count 95 = .ok (.iload_n 2, 1) := by decide +kernel
theorem dX6_count_96 : decode cX6_count 96 = .ok (.ireturn, 1) := by decide +kernel
theorem dX6_count_97 : decode cX6_count 97 = .ok (.bipush (-2), 2) := by decide +kernel
theorem dX6_count_99 : decode cX6_count 99 = .ok (.ireturn, 1) := by decide +kernel
set_option maxRecDepth 20000 in
theorem ggJ6_highestOneBit_0f7a4_J6_numberOfLeadingZeros_0f7a4 : GoodIn wsJ6_highestOneBit_0f7a4 wsJ6_numberOfLeadingZeros_0f7a4 := goodIn_r _ [5, 6] (by decide +kernel) (by decide +kernel)
set_option maxRecDepth 20000 in
theorem gJ6_highestOneBit_0f7a4_J6_numberOfLeadingZeros_0f7a4 : GoodIn wsJ6_highestOneBit_0f7a4 (va_wsS RJ6 51 yJ6_numberOfLeadingZeros_0f7a4 wsJ6_numberOfLeadingZeros_0f7a4) := goodIn_app (goodIn_of _ (by decide +kernel)) ggJ6_highestOneBit_0f7a4_J6_numberOfLeadingZeros_0f7a4
theorem dJ6_highestOneBit_0f7a4_0 : decode cJ6_highestOneBit_0f7a4 0 = .ok (.iload_n 0, 1) := by decide +kernel
theorem dJ6_highestOneBit_0f7a4_1 : decode cJ6_highestOneBit_0f7a4 1 = .ok (.ldc 127, 2) := by decide +kernel
theorem dJ6_highestOneBit_0f7a4_3 : decode cJ6_highestOneBit_0f7a4 3 = .ok (.iload_n 0, 1) := by decide +kernel
theorem dJ6_highestOneBit_0f7a4_4 : decode cJ6_highestOneBit_0f7a4 4 = .ok (.invokestatic 51, 3) := by decide +kernel
theorem dJ6_highestOneBit_0f7a4_7 : decode cJ6_highestOneBit_0f7a4 7 = .ok (.iushr, 1) := by decide +kernel
theorem dJ6_highestOneBit_0f7a4_8 : decode cJ6_highestOneBit_0f7a4 8 = .ok (.iand, 1) := by decide +kernel
theorem dJ6_highestOneBit_0f7a4_9 : decode cJ6_highestOneBit_0f7a4 9 = .ok (.ireturn, 1) := by decide +kernel
theorem dJ6_numberOfLeadingZeros_0f7a4_0 : decode cJ6_numberOfLeadingZeros_0f7a4 0 = .ok (.iload_n 0, 1) := by decide +kernel
theorem dJ6_numberOfLeadingZeros_0f7a4_1 : decode cJ6_numberOfLeadingZeros_0f7a4 1 = .ok (.ifCond .gt 14, 3) := by decide +kernel
theorem dJ6_numberOfLeadingZeros_0f7a4_4 : decode cJ6_numberOfLeadingZeros_0f7a4 4 = .ok (.iload_n 0, 1) := by decide +kernel
theorem dJ6_numberOfLeadingZeros_0f7a4_5 : decode cJ6_numberOfLeadingZeros_0f7a4 5 = .ok (.ifCond .ne 8, 3) := by decide +kernel
theorem dJ6_numberOfLeadingZeros_0f7a4_8 : decode cJ6_numberOfLeadingZeros_0f7a4 8 = .ok (.bipush 32, 2) := by decide +kernel
theorem dJ6_numberOfLeadingZeros_0f7a4_10 : decode cJ6_numberOfLeadingZeros_0f7a4 10 = .ok (.goto 4, 3) := by decide +kernel
theorem dJ6_numberOfLeadingZeros_0f7a4_13 : decode cJ6_numberOfLeadingZeros_0f7a4 13 = .ok (.iconst 0, 1) := by decide +kernel
theorem dJ6_numberOfLeadingZeros_0f7a4_14 : decode cJ6_numberOfLeadingZeros_0f7a4 14 = .ok (.ireturn, 1) := by decide +kernel
theorem dJ6_numberOfLeadingZeros_0f7a4_15 : decode cJ6_numberOfLeadingZeros_0f7a4 15 = .ok (.bipush 31, 2) := by decide +kernel
theorem dJ6_numberOfLeadingZeros_0f7a4_17 : decode cJ6_numberOfLeadingZeros_0f7a4 17 = .ok (.istore_n 1, 1) := by decide +kernel
theorem dJ6_numberOfLeadingZeros_0f7a4_18 : decode cJ6_numberOfLeadingZeros_0f7a4 18 = .ok (.iload_n 0, 1) := by decide +kernel
theorem dJ6_numberOfLeadingZeros_0f7a4_19 : decode cJ6_numberOfLeadingZeros_0f7a4 19 = .ok (.ldc_w 264, 3) := by decide +kernel
theorem dJ6_numberOfLeadingZeros_0f7a4_22 : decode cJ6_numberOfLeadingZeros_0f7a4 22 = .ok (.if_icmp .lt 11, 3) := by decide +kernel
theorem dJ6_numberOfLeadingZeros_0f7a4_25 : decode cJ6_numberOfLeadingZeros_0f7a4 25 = .ok (.iinc 1 (-16), 3) := by decide +kernel
theorem dJ6_numberOfLeadingZeros_0f7a4_28 : decode cJ6_numberOfLeadingZeros_0f7a4 28 = .ok (.iload_n 0, 1) := by decide +kernel
theorem dJ6_numberOfLeadingZeros_0f7a4_29 : decode cJ6_numberOfLeadingZeros_0f7a4 29 = .ok (.bipush 16, 2) := by decide +kernel
theorem dJ6_numberOfLeadingZeros_0f7a4_31 : decode cJ6_numberOfLeadingZeros_0f7a4 31 = .ok (.iushr, 1) := by decide +kernel
theorem dJ6_numberOfLeadingZeros_0f7a4_32 : decode cJ6_numberOfLeadingZeros_0f7a4 32 = .ok (.istore_n 0, 1) := by decide +kernel
theorem dJ6_numberOfLeadingZeros_0f7a4_33 : decode cJ6_numberOfLeadingZeros_0f7a4 33 = .ok (.iload_n 0, 1) := by decide +kernel
theorem dJ6_numberOfLeadingZeros_0f7a4_34 : decode cJ6_numberOfLeadingZeros_0f7a4 34 = .ok (.sipush 256, 3) := by decide +kernel
theorem dJ6_numberOfLeadingZeros_0f7a4_37 : decode cJ6_numberOfLeadingZeros_0f7a4 37 = .ok (.if_icmp .lt 11, 3) := by decide +kernel
theorem dJ6_numberOfLeadingZeros_0f7a4_40 : decode cJ6_numberOfLeadingZeros_0f7a4 40 = .ok (.iinc 1 (-8), 3) := by decide +kernel
theorem dJ6_numberOfLeadingZeros_0f7a4_43 : decode cJ6_numberOfLeadingZeros_0f7a4 43 = .ok (.iload_n 0, 1) := by decide +kernel
theorem dJ6_numberOfLeadingZeros_0f7a4_44 : decode cJ6_numberOfLeadingZeros_0f7a4 44 = .ok (.bipush 8, 2) := by decide +kernel
theorem dJ6_numberOfLeadingZeros_0f7a4_46 : decode cJ6_numberOfLeadingZeros_0f7a4 46 = .ok (.iushr, 1) := by decide +kernel
theorem dJ6_numberOfLeadingZeros_0f7a4_47 : decode cJ6_numberOfLeadingZeros_0f7a4 47 = .ok (.istore_n 0, 1) := by decide +kernel
theorem dJ6_numberOfLeadingZeros_0f7a4_48 : decode cJ6_numberOfLeadingZeros_0f7a4 48 = .ok (.iload_n 0, 1) := by decide +kernel
theorem dJ6_numberOfLeadingZeros_0f7a4_49 : decode cJ6_numberOfLeadingZeros_0f7a4 49 = .ok (.bipush 16, 2) := by decide +kernel
theorem dJ6_numberOfLeadingZeros_0f7a4_51 : decode cJ6_numberOfLeadingZeros_0f7a4 51 = .ok (.if_icmp .lt 10, 3) := by decide +kernel
theorem dJ6_numberOfLeadingZeros_0f7a4_54 : decode cJ6_numberOfLeadingZeros_0f7a4 54 = .ok (.iinc 1 (-4), 3) := by decide +kernel
theorem dJ6_numberOfLeadingZeros_0f7a4_57 : decode cJ6_numberOfLeadingZeros_0f7a4 57 = .ok (.iload_n 0, 1) := by decide +kernel
theorem dJ6_numberOfLeadingZeros_0f7a4_58 : decode cJ6_numberOfLeadingZeros_0f7a4 58 = .ok (.iconst 4, 1) := by decide +kernel
theorem dJ6_numberOfLeadingZeros_0f7a4_59 : decode cJ6_numberOfLeadingZeros_0f7a4 59 = .ok (.iushr, 1) := by decide +kernel
theorem dJ6_numberOfLeadingZeros_0f7a4_60 : decode cJ6_numberOfLeadingZeros_0f7a4 60 = .ok (.istore_n 0, 1) := by decide +kernel
theorem dJ6_numberOfLeadingZeros_0f7a4_61 : decode cJ6_numberOfLeadingZeros_0f7a4 61 = .ok (.iload_n 0, 1) := by decide +kernel
theorem dJ6_numberOfLeadingZeros_0f7a4_62 : decode cJ6_numberOfLeadingZeros_0f7a4 62 = .ok (.iconst 4, 1) := by decide +kernel
theorem dJ6_numberOfLeadingZeros_0f7a4_63 : decode cJ6_numberOfLeadingZeros_0f7a4 63 = .ok (.if_icmp .lt 10, 3) := by decide +kernel
theorem dJ6_numberOfLeadingZeros_0f7a4_66 : decode cJ6_numberOfLeadingZeros_0f7a4 66 = .ok (.iinc 1 (-2), 3) := by decide +kernel
theorem dJ6_numberOfLeadingZeros_0f7a4_69 : decode cJ6_numberOfLeadingZeros_0f7a4 69 = .ok (.iload_n 0, 1) := by decide +kernel
theorem dJ6_numberOfLeadingZeros_0f7a4_70 : decode cJ6_numberOfLeadingZeros_0f7a4 70 = .ok (.iconst 2, 1) := by decide +kernel
theorem dJ6_numberOfLeadingZeros_0f7a4_71 : decode cJ6_numberOfLeadingZeros_0f7a4 71 = .ok (.iushr, 1) := by decide +kernel
theorem dJ6_numberOfLeadingZeros_0f7a4_72 : decode cJ6_numberOfLeadingZeros_0f7a4 72 = .ok (.istore_n 0, 1) := by decide +kernel
theorem dJ6_numberOfLeadingZeros_0f7a4_73 : decode cJ6_numberOfLeadingZeros_0f7a4 73 = .ok (.iload_n 1, 1) := by decide +kernel
theorem dJ6_numberOfLeadingZeros_0f7a4_74 : decode cJ6_numberOfLeadingZeros_0f7a4 74 = .ok (.iload_n 0, 1) := by decide +kernel
theorem dJ6_numberOfLeadingZeros_0f7a4_75 : decode cJ6_numberOfLeadingZeros_0f7a4 75 = .ok (.iconst 1, 1) := by decide +kernel
theorem dJ6_numberOfLeadingZeros_0f7a4_76 : decode cJ6_numberOfLeadingZeros_0f7a4 76 = .ok (.iushr, 1) := by decide +kernel
theorem dJ6_numberOfLeadingZeros_0f7a4_77 : decode cJ6_numberOfLeadingZeros_0f7a4 77 = .ok (.isub, 1) := by decide +kernel
theorem dJ6_numberOfLeadingZeros_0f7a4_78 : decode cJ6_numberOfLeadingZeros_0f7a4 78 = .ok (.ireturn, 1) := by decide +kernel
theorem dJ6_bitCount_0f7a4_0 : decode cJ6_bitCount_0f7a4 0 = .ok (.iload_n 0, 1) := by decide +kernel
theorem dJ6_bitCount_0f7a4_1 : decode cJ6_bitCount_0f7a4 1 = .ok (.iload_n 0, 1) := by decide +kernel
theorem dJ6_bitCount_0f7a4_2 : decode cJ6_bitCount_0f7a4 2 = .ok (.iconst 1, 1) := by decide +kernel
theorem dJ6_bitCount_0f7a4_3 : decode cJ6_bitCount_0f7a4 3 = .ok (.iushr, 1) := by decide +kernel
theorem dJ6_bitCount_0f7a4_4 : decode cJ6_bitCount_0f7a4 4 = .ok (.ldc_w 265, 3) := by decide +kernel
theorem dJ6_bitCount_0f7a4_7 : decode cJ6_bitCount_0f7a4 7 = .ok (.iand, 1) := by decide +kernel
theorem dJ6_bitCount_0f7a4_8 : decode cJ6_bitCount_0f7a4 8 = .ok (.isub, 1) := by decide +kernel
theorem dJ6_bitCount_0f7a4_9 : decode cJ6_bitCount_0f7a4 9 = .ok (.istore_n 0, 1) := by decide +kernel
theorem dJ6_bitCount_0f7a4_10 : decode cJ6_bitCount_0f7a4 10 = .ok (.iload_n 0, 1) := by decide +kernel
theorem dJ6_bitCount_0f7a4_11 : decode cJ6_bitCount_0f7a4 11 = .ok (.ldc_w 266, 3) := by decide +kernel
theorem dJ6_bitCount_0f7a4_14 : decode cJ6_bitCount_0f7a4 14 = .ok (.iand, 1) := by decide +kernel
theorem dJ6_bitCount_0f7a4_15 : decode cJ6_bitCount_0f7a4 15 = .ok (.iload_n 0, 1) := by decide +kernel
theorem dJ6_bitCount_0f7a4_16 : decode cJ6_bitCount_0f7a4 16 = .ok (.iconst 2, 1) := by decide +kernel
theorem dJ6_bitCount_0f7a4_17 : decode cJ6_bitCount_0f7a4 17 = .ok (.iushr, 1) := by decide +kernel
theorem dJ6_bitCount_0f7a4_18 : decode cJ6_bitCount_0f7a4 18 = .ok (.ldc_w 266, 3) := by decide +kernel
theorem dJ6_bitCount_0f7a4_21 : decode cJ6_bitCount_0f7a4 21 = .ok (.iand, 1) := by decide +kernel
theorem dJ6_bitCount_0f7a4_22 : decode cJ6_bitCount_0f7a4 22 = .ok (.iadd, 1) := by decide +kernel
theorem dJ6_bitCount_0f7a4_23 : decode cJ6_bitCount_0f7a4 23 = .ok (.istore_n 0, 1) := by decide +kernel
theorem dJ6_bitCount_0f7a4_24 : decode cJ6_bitCount_0f7a4 24 = .ok (.iload_n 0, 1) := by decide +kernel
theorem dJ6_bitCount_0f7a4_25 : decode cJ6_bitCount_0f7a4 25 = .ok (.iload_n 0, 1) := by decide +kernel
theorem dJ6_bitCount_0f7a4_26 : decode cJ6_bitCount_0f7a4 26 = .ok (.iconst 4, 1) := by decide +kernel
theorem dJ6_bitCount_0f7a4_27 : decode cJ6_bitCount_0f7a4 27 = .ok (.iushr, 1) := by decide +kernel
theorem dJ6_bitCount_0f7a4_28 : decode cJ6_bitCount_0f7a4 28 = .ok (.iadd, 1) := by decide +kernel
theorem dJ6_bitCount_0f7a4_29 : decode cJ6_bitCount_0f7a4 29 = .ok (.ldc_w 267, 3) := by decide +kernel
theorem dJ6_bitCount_0f7a4_32 : decode cJ6_bitCount_0f7a4 32 = .ok (.iand, 1) := by decide +kernel
theorem dJ6_bitCount_0f7a4_33 : decode cJ6_bitCount_0f7a4 33 = .ok (.istore_n 0, 1) := by decide +kernel
theorem dJ6_bitCount_0f7a4_34 : decode cJ6_bitCount_0f7a4 34 = .ok (.iload_n 0, 1) := by decide +kernel
theorem dJ6_bitCount_0f7a4_35 : decode cJ6_bitCount_0f7a4 35 = .ok (.iload_n 0, 1) := by decide +kernel
theorem dJ6_bitCount_0f7a4_36 : decode cJ6_bitCount_0f7a4 36 = .ok (.bipush 8, 2) := by decide +kernel
theorem dJ6_bitCount_0f7a4_38 : decode cJ6_bitCount_0f7a4 38 = .ok (.iushr, 1) := by decide +kernel
theorem dJ6_bitCount_0f7a4_39 : decode cJ6_bitCount_0f7a4 39 = .ok (.iadd, 1) := by decide +kernel
theorem dJ6_bitCount_0f7a4_40 : decode cJ6_bitCount_0f7a4 40 = .ok (.istore_n 0, 1) := by decide +kernel
theorem dJ6_bitCount_0f7a4_41 : decode cJ6_bitCount_0f7a4 41 = .ok (.iload_n 0, 1) := by decide +kernel
theorem dJ6_bitCount_0f7a4_42 : decode cJ6_bitCount_0f7a4 42 = .ok (.iload_n 0, 1) := by decide +kernel
theorem dJ6_bitCount_0f7a4_43 : decode cJ6_bitCount_0f7a4 43 = .ok (.bipush 16, 2) := by decide +kernel
theorem dJ6_bitCount_0f7a4_45 : decode cJ6_bitCount_0f7a4 45 = .ok (.iushr, 1) := by decide +kernel
theorem dJ6_bitCount_0f7a4_46 : decode cJ6_bitCount_0f7a4 46 = .ok (.iadd, 1) := by decide +kernel
theorem dJ6_bitCount_0f7a4_47 : decode cJ6_bitCount_0f7a4 47 = .ok (.istore_n 0, 1) := by decide +kernel
theorem dJ6_bitCount_0f7a4_48 : decode cJ6_bitCount_0f7a4 48 = .ok (.iload_n 0, 1) := by decide +kernel
theorem dJ6_bitCount_0f7a4_49 : decode cJ6_bitCount_0f7a4 49 = .ok (.bipush 63, 2) := by decide +kernel
theorem dJ6_bitCount_0f7a4_51 : decode cJ6_bitCount_0f7a4 51 = .ok (.iand, 1) := by decide +kernel
theorem dJ6_bitCount_0f7a4_52 : decode cJ6_bitCount_0f7a4 52 = .ok (.ireturn, 1) := by decide +kernel
theorem dJ9_max_7cf53_0 : decode cJ9_max_7cf53 0 = .ok (.iload_n 0, 1) := by decide +kernel
theorem dJ9_max_7cf53_1 : decode cJ9_max_7cf53 1 = .ok (.iload_n 1, 1) := by decide +kernel
theorem dJ9_max_7cf53_2 : decode cJ9_max_7cf53 2 = .ok (.if_icmp .lt 7, 3) := by decide +kernel
theorem dJ9_max_7cf53_5 : decode cJ9_max_7cf53 5 = .ok (.iload_n 0, 1) := by decide +kernel
theorem dJ9_max_7cf53_6 : decode cJ9_max_7cf53 6 = .ok (.goto 4, 3) := by decide +kernel
theorem dJ9_max_7cf53_9 : decode cJ9_max_7cf53 9 = .ok (.iload_n 1, 1) := by decide +kernel
theorem dJ9_max_7cf53_10 : decode cJ9_max_7cf53 10 = .ok (.ireturn, 1) := by decide +kernel
theorem dJ9_min_7cf53_0 : decode cJ9_min_7cf53 0 = .ok (.iload_n 0, 1) := by decide +kernel
theorem dJ9_min_7cf53_1 : decode cJ9_min_7cf53 1 = .ok (.iload_n 1, 1) := by decide +kernel
theorem dJ9_min_7cf53_2 : decode cJ9_min_7cf53 2 = .ok (.if_icmp .gt 7, 3) := by decide +kernel
theorem dJ9_min_7cf53_5 : decode cJ9_min_7cf53 5 = .ok (.iload_n 0, 1) := by decide +kernel
theorem dJ9_min_7cf53_6 : decode cJ9_min_7cf53 6 = .ok (.goto 4, 3) := by decide +kernel
theorem dJ9_min_7cf53_9 : decode cJ9_min_7cf53 9 = .ok (.iload_n 1, 1) := by decide +kernel
theorem dJ9_min_7cf53_10 : decode cJ9_min_7cf53 10 = .ok (.ireturn, 1) := by decide +kernel
theorem dJxa1e45_init_da8c8_0 : decode cJxa1e45_init_da8c8 0 = .ok (.aload_n 0, 1) := by decide +kernel
theorem dJxa1e45_init_da8c8_1 : decode cJxa1e45_init_da8c8 1 = .ok (.invokespecial 1, 3) := by decide +kernel
theorem dJxa1e45_init_da8c8_4 : decode cJxa1e45_init_da8c8 4 = .ok (.return_, 1) := by decide +kernel
set_option maxRecDepth 20000 in
theorem ggJxc12de_init_da8c8_Jxa1e45_init_da8c8 : GoodIn wsJxc12de_init_da8c8 wsJxa1e45_init_da8c8 := goodIn_r _ [5, 6, 7, 8] (by decide +kernel) (by decide +kernel)
set_option maxRecDepth 20000 in
theorem gJxc12de_init_da8c8_Jxa1e45_init_da8c8 : GoodIn wsJxc12de_init_da8c8 (wsJxa1e45_init_da8c8) := ggJxc12de_init_da8c8_Jxa1e45_init_da8c8
theorem dJxc12de_init_da8c8_0 : decode cJxc12de_init_da8c8 0 = .ok (.aload_n 0, 1) := by decide +kernel
theorem dJxc12de_init_da8c8_1 : decode cJxc12de_init_da8c8 1 = .ok (.invokespecial 1, 3) := by decide +kernel
theorem dJxc12de_init_da8c8_4 : decode cJxc12de_init_da8c8 4 = .ok (.aload_n 0, 1) := by decide +kernel
theorem dJxc12de_init_da8c8_5 : decode cJxc12de_init_da8c8 5 = .ok (.iconst 0, 1) := by decide +kernel
theorem dJxc12de_init_da8c8_6 : decode cJxc12de_init_da8c8 6 = .ok (.putfield 7, 3) := by decide +kernel
theorem dJxc12de_init_da8c8_9 : decode cJxc12de_init_da8c8 9 = .ok (.return_, 1) := by decide +kernel
set_option maxRecDepth 20000 in
theorem ggJx4a65c_init_da8c8_Jxc12de_init_da8c8 : GoodIn wsJx4a65c_init_da8c8 wsJxc12de_init_da8c8 := goodIn_r _ [6, 7, 8, 9, 10, 11, 12, 13, 14, 15, 16, 17] (by decide +kernel) (by decide +kernel)
set_option maxRecDepth 20000 in
theorem gJx4a65c_init_da8c8_Jxc12de_init_da8c8 : GoodIn wsJx4a65c_init_da8c8 (wsJxc12de_init_da8c8) := ggJx4a65c_init_da8c8_Jxc12de_init_da8c8
theorem dJx4a65c_init_da8c8_0 : decode cJx4a65c_init_da8c8 0 = .ok (.aload_n 0, 1) := by decide +kernel
theorem dJx4a65c_init_da8c8_1 : decode cJx4a65c_init_da8c8 1 = .ok (.invokespecial 1, 3) := by decide +kernel
theorem dJx4a65c_init_da8c8_4 : decode cJx4a65c_init_da8c8 4 = .ok (.aload_n 0, 1) := by decide +kernel
theorem dJx4a65c_init_da8c8_5 : decode cJx4a65c_init_da8c8 5 = .ok (.getstatic 39, 3) := by decide +kernel
theorem dJx4a65c_init_da8c8_8 : decode cJx4a65c_init_da8c8 8 = .ok (.putfield 9, 3) := by decide +kernel
theorem dJx4a65c_init_da8c8_11 : decode cJx4a65c_init_da8c8 11 = .ok (.return_, 1) := by decide +kernel
set_option maxRecDepth 20000 in
theorem ggJx4a65c_grow_92f84_J8_newLength_cabcc : GoodIn wsJx4a65c_grow_92f84 wsJ8_newLength_cabcc := goodIn_r _ [11, 12, 4, 5, 6, 13, 14, 15, 10, 16] (by decide +kernel) (by decide +kernel)
set_option maxRecDepth 20000 in
theorem gJx4a65c_grow_92f84_J8_newLength_cabcc : GoodIn wsJx4a65c_grow_92f84 (va_wsS RJx4a65c 73 yJ8_newLength_cabcc wsJ8_newLength_cabcc) := goodIn_app (goodIn_of _ (by decide +kernel)) ggJx4a65c_grow_92f84_J8_newLength_cabcc
set_option maxRecDepth 20000 in
theorem ggJx4a65c_grow_92f84_J7_copyOf_1904c : GoodIn wsJx4a65c_grow_92f84 wsJ7_copyOf_1904c := goodIn_r _ [20, 21, 22, 23, 24, 25, 26, 19, 27, 28, 29, 30, 31, 5, 32, 33, 34, 35, 36] (by decide +kernel) (by decide +kernel)
set_option maxRecDepth 20000 in
theorem gJx4a65c_grow_92f84_J7_copyOf_1904c : GoodIn wsJx4a65c_grow_92f84 (va_wsS RJx4a65c 66 yJ7_copyOf_1904c wsJ7_copyOf_1904c) := goodIn_app (goodIn_of _ (by decide +kernel)) ggJx4a65c_grow_92f84_J7_copyOf_1904c
theorem dJx4a65c_grow_92f84_0 : decode cJx4a65c_grow_92f84 0 = .ok (.aload_n 0, 1) := by decide +kernel
theorem dJx4a65c_grow_92f84_1 : decode cJx4a65c_grow_92f84 1 = .ok (.getfield 9, 3) := by decide +kernel
theorem dJx4a65c_grow_92f84_4 : decode cJx4a65c_grow_92f84 4 = .ok (.arraylength, 1) := by decide +kernel
theorem dJx4a65c_grow_92f84_5 : decode cJx4a65c_grow_92f84 5 = .ok (.istore_n 2, 1) := by decide +kernel
theorem dJx4a65c_grow_92f84_6 : decode cJx4a65c_grow_92f84 6 = .ok (.iload_n 2, 1) := by decide +kernel
theorem dJx4a65c_grow_92f84_7 : decode cJx4a65c_grow_92f84 7 = .ok (.ifCond .gt 13, 3) := by decide +kernel
theorem dJx4a65c_grow_92f84_10 : decode cJx4a65c_grow_92f84 10 = .ok (.aload_n 0, 1) := by decide +kernel
theorem dJx4a65c_grow_92f84_11 : decode cJx4a65c_grow_92f84 11 = .ok (.getfield 9, 3) := by decide +kernel
theorem dJx4a65c_grow_92f84_14 : decode cJx4a65c_grow_92f84 14 = .ok (.getstatic 39, 3) := by decide +kernel
theorem dJx4a65c_grow_92f84_17 : decode cJx4a65c_grow_92f84 17 = .ok (.if_acmp .eq 28, 3) := by decide +kernel
theorem dJx4a65c_grow_92f84_20 : decode cJx4a65c_grow_92f84 20 = .ok (.iload_n 2, 1) := by decide +kernel
theorem dJx4a65c_grow_92f84_21 : decode cJx4a65c_grow_92f84 21 = .ok (.iload_n 1, 1) := by decide +kernel
theorem dJx4a65c_grow_92f84_22 : decode cJx4a65c_grow_92f84 22 = .ok (.iload_n 2, 1) := by decide +kernel
theorem dJx4a65c_grow_92f84_23 : decode cJx4a65c_grow_92f84 23 = .ok (.isub, 1) := by decide +kernel
theorem dJx4a65c_grow_92f84_24 : decode cJx4a65c_grow_92f84 24 = .ok (.iload_n 2, 1) := by decide +kernel
theorem dJx4a65c_grow_92f84_25 : decode cJx4a65c_grow_92f84 25 = .ok (.iconst 1, 1) := by decide +kernel
theorem dJx4a65c_grow_92f84_26 : decode cJx4a65c_grow_92f84 26 = .ok (.ishr, 1) := by decide +kernel
theorem dJx4a65c_grow_92f84_27 : decode cJx4a65c_grow_92f84 27 = .ok (.invokestatic 73, 3) := by decide +kernel
theorem dJx4a65c_grow_92f84_30 : decode cJx4a65c_grow_92f84 30 = .ok (.istore_n 3, 1) := by decide +kernel
theorem dJx4a65c_grow_92f84_31 : decode cJx4a65c_grow_92f84 31 = .ok (.aload_n 0, 1) := by decide +kernel
theorem dJx4a65c_grow_92f84_32 : decode cJx4a65c_grow_92f84 32 = .ok (.aload_n 0, 1) := by decide +kernel
theorem dJx4a65c_grow_92f84_33 : decode cJx4a65c_grow_92f84 33 = .ok (.getfield 9, 3) := by decide +kernel
theorem dJx4a65c_grow_92f84_36 : decode cJx4a65c_grow_92f84 36 = .ok (.iload_n 3, 1) := by decide +kernel
theorem dJx4a65c_grow_92f84_37 : decode cJx4a65c_grow_92f84 37 = .ok (.invokestatic 66, 3) := by decide +kernel
theorem dJx4a65c_grow_92f84_40 : decode cJx4a65c_grow_92f84 40 = .ok (.dup_x1, 1) := by decide +kernel
theorem dJx4a65c_grow_92f84_41 : decode cJx4a65c_grow_92f84 41 = .ok (.putfield 9, 3) := by decide +kernel
theorem dJx4a65c_grow_92f84_44 : decode cJx4a65c_grow_92f84 44 = .ok (.areturn, 1) := by decide +kernel
theorem dJx4a65c_grow_92f84_45 : decode cJx4a65c_grow_92f84 45 = .ok (.aload_n 0, 1) := by decide +kernel
theorem dJx4a65c_grow_92f84_46 : decode cJx4a65c_grow_92f84 46 = .ok (.bipush 10, 2) := by decide +kernel
theorem dJx4a65c_grow_92f84_48 : decode cJx4a65c_grow_92f84 48 = .ok (.iload_n 1, 1) := by decide +kernel
theorem dJx4a65c_grow_92f84_49 : decode cJx4a65c_grow_92f84 49 = .ok (.invokestatic 79, 3) := by decide +kernel
theorem dJx4a65c_grow_92f84_52 : decode cJx4a65c_grow_92f84 52 = .ok (.anewarray 7, 3) := by decide +kernel
theorem dJx4a65c_grow_92f84_55 : decode cJx4a65c_grow_92f84 55 = .ok (.dup_x1, 1) := by decide +kernel
theorem dJx4a65c_grow_92f84_56 : decode cJx4a65c_grow_92f84 56 = .ok (.putfield 9, 3) := by decide +kernel
theorem dJx4a65c_grow_92f84_59 : decode cJx4a65c_grow_92f84 59 = .ok (.areturn, 1) := by decide +kernel
set_option maxRecDepth 20000 in
theorem ggJx4a65c_grow_d5877_Jx4a65c_grow_92f84 : GoodIn wsJx4a65c_grow_d5877 wsJx4a65c_grow_92f84 := goodIn_r _ [6, 7, 8, 9, 10, 11, 12, 13, 14, 15, 16, 17, 18, 19, 20, 21, 22, 23, 24, 25, 26, 27, 28, 29, 30, 31, 32, 33, 34, 35, 36, 37, 38, 39, 40, 41, 42, 43, 44, 45] (by decide +kernel) (by decide +kernel)
set_option maxRecDepth 20000 in
theorem gJx4a65c_grow_d5877_Jx4a65c_grow_92f84 : GoodIn wsJx4a65c_grow_d5877 (wsV RJx4a65c 69 RJx4a65c yJx4a65c_grow_92f84 wsJx4a65c_grow_92f84) := goodIn_app (goodIn_of _ (by decide +kernel)) ggJx4a65c_grow_d5877_Jx4a65c_grow_92f84
theorem dJx4a65c_grow_d5877_0 : decode cJx4a65c_grow_d5877 0 = .ok (.aload_n 0, 1) := by decide +kernel
theorem dJx4a65c_grow_d5877_1 : decode cJx4a65c_grow_d5877 1 = .ok (.aload_n 0, 1) := by decide +kernel
theorem dJx4a65c_grow_d5877_2 : decode cJx4a65c_grow_d5877 2 = .ok (.getfield 48, 3) := by decide +kernel
theorem dJx4a65c_grow_d5877_5 : decode cJx4a65c_grow_d5877 5 = .ok (.iconst 1, 1) := by decide +kernel
theorem dJx4a65c_grow_d5877_6 : decode cJx4a65c_grow_d5877 6 = .ok (.iadd, 1) := by decide +kernel
theorem dJx4a65c_grow_d5877_7 : decode cJx4a65c_grow_d5877 7 = .ok (.invokevirtual 69, 3) := by decide +kernel
theorem dJx4a65c_grow_d5877_10 : decode cJx4a65c_grow_d5877 10 = .ok (.areturn, 1) := by decide +kernel
theorem dJx4a65c_size_8abf5_0 : decode cJx4a65c_size_8abf5 0 = .ok (.aload_n 0, 1) := by decide +kernel
theorem dJx4a65c_size_8abf5_1 : decode cJx4a65c_size_8abf5 1 = .ok (.getfield 48, 3) := by decide +kernel
theorem dJx4a65c_size_8abf5_4 : decode cJx4a65c_size_8abf5 4 = .ok (.ireturn, 1) := by decide +kernel
theorem dJx4a65c_elementData_915e3_0 : decode cJx4a65c_elementData_915e3 0 = .ok (.aload_n 0, 1) := by decide +kernel
theorem dJx4a65c_elementData_915e3_1 : decode cJx4a65c_elementData_915e3 1 = .ok (.getfield 9, 3) := by decide +kernel
theorem dJx4a65c_elementData_915e3_4 : decode cJx4a65c_elementData_915e3 4 = .ok (.iload_n 1, 1) := by decide +kernel
theorem dJx4a65c_elementData_915e3_5 : decode cJx4a65c_elementData_915e3 5 = .ok (.aaload, 1) := by decide +kernel
theorem dJx4a65c_elementData_915e3_6 : decode cJx4a65c_elementData_915e3 6 = .ok (.areturn, 1) := by decide +kernel
set_option maxRecDepth 20000 in
theorem ggJx4a65c_get_915e3_J15_checkIndex_7cf53 : GoodIn wsJx4a65c_get_915e3 wsJ15_checkIndex_7cf53 := goodIn_r _ [5, 6, 7, 8, 9] (by decide +kernel) (by decide +kernel)
set_option maxRecDepth 20000 in
theorem gJx4a65c_get_915e3_J15_checkIndex_7cf53 : GoodIn wsJx4a65c_get_915e3 (va_wsS RJx4a65c 118 yJ15_checkIndex_7cf53 wsJ15_checkIndex_7cf53) := goodIn_app (goodIn_of _ (by decide +kernel)) ggJx4a65c_get_915e3_J15_checkIndex_7cf53
set_option maxRecDepth 20000 in
theorem ggJx4a65c_get_915e3_Jx4a65c_elementData_915e3 : GoodIn wsJx4a65c_get_915e3 wsJx4a65c_elementData_915e3 := goodIn_r _ [14, 15, 16, 17, 18] (by decide +kernel) (by decide +kernel)
set_option maxRecDepth 20000 in
theorem gJx4a65c_get_915e3_Jx4a65c_elementData_915e3 : GoodIn wsJx4a65c_get_915e3 (wsV RJx4a65c 123 RJx4a65c yJx4a65c_elementData_915e3 wsJx4a65c_elementData_915e3) := goodIn_app (goodIn_of _ (by decide +kernel)) ggJx4a65c_get_915e3_Jx4a65c_elementData_915e3
theorem dJx4a65c_get_915e3_0 : decode cJx4a65c_get_915e3 0 = .ok (.iload_n 1, 1) := by decide +kernel
theorem dJx4a65c_get_915e3_1 : decode cJx4a65c_get_915e3 1 = .ok (.aload_n 0, 1) := by decide +kernel
theorem dJx4a65c_get_915e3_2 : decode cJx4a65c_get_915e3 2 = .ok (.getfield 48, 3) := by decide +kernel
theorem dJx4a65c_get_915e3_5 : decode cJx4a65c_get_915e3 5 = .ok (.invokestatic 118, 3) := by decide +kernel
theorem dJx4a65c_get_915e3_8 : decode cJx4a65c_get_915e3 8 = .ok (.pop, 1) := by decide +kernel
theorem dJx4a65c_get_915e3_9 : decode cJx4a65c_get_915e3 9 = .ok (.aload_n 0, 1) := by decide +kernel
theorem dJx4a65c_get_915e3_10 : decode cJx4a65c_get_915e3 10 = .ok (.iload_n 1, 1) := by decide +kernel
theorem dJx4a65c_get_915e3_11 : decode cJx4a65c_get_915e3 11 = .ok (.invokevirtual 123, 3) := by decide +kernel
theorem dJx4a65c_get_915e3_14 : decode cJx4a65c_get_915e3 14 = .ok (.areturn, 1) := by decide +kernel
set_option maxRecDepth 20000 in
theorem ggJx4a65c_add_72be8_Jx4a65c_grow_d5877 : GoodIn wsJx4a65c_add_72be8 wsJx4a65c_grow_d5877 := goodIn_r _ [6, 1, 7, 8, 9, 5, 10, 11, 12, 13, 14, 15, 16, 17, 18, 19, 20, 21, 22, 23, 24, 25, 26, 27, 28, 29, 30, 31, 32, 33, 34, 35, 36, 37, 38, 39, 40, 41, 42, 43, 44, 45, 46, 47, 48, 49] (by decide +kernel) (by decide +kernel)
set_option maxRecDepth 20000 in
theorem gJx4a65c_add_72be8_Jx4a65c_grow_d5877 : GoodIn wsJx4a65c_add_72be8 (wsV RJx4a65c 129 RJx4a65c yJx4a65c_grow_d5877 wsJx4a65c_grow_d5877) := goodIn_app (goodIn_of _ (by decide +kernel)) ggJx4a65c_add_72be8_Jx4a65c_grow_d5877
theorem dJx4a65c_add_72be8_0 : decode cJx4a65c_add_72be8 0 = .ok (.iload_n 3, 1) := by decide +kernel
theorem dJx4a65c_add_72be8_1 : decode cJx4a65c_add_72be8 1 = .ok (.aload_n 2, 1) := by decide +kernel
theorem dJx4a65c_add_72be8_2 : decode cJx4a65c_add_72be8 2 = .ok (.arraylength, 1) := by decide +kernel
theorem dJx4a65c_add_72be8_3 : decode cJx4a65c_add_72be8 3 = .ok (.if_icmp .ne 8, 3) := by decide +kernel
theorem dJx4a65c_add_72be8_6 : decode cJx4a65c_add_72be8 6 = .ok (.aload_n 0, 1) := by decide +kernel
theorem dJx4a65c_add_72be8_7 : decode cJx4a65c_add_72be8 7 = .ok (.invokevirtual 129, 3) := by decide +kernel
theorem dJx4a65c_add_72be8_10 : decode cJx4a65c_add_72be8 10 = .ok (.astore_n 2, 1) := by decide +kernel
theorem dJx4a65c_add_72be8_11 : decode cJx4a65c_add_72be8 11 = .ok (.aload_n 2, 1) := by decide +kernel
theorem dJx4a65c_add_72be8_12 : decode cJx4a65c_add_72be8 12 = .ok (.iload_n 3, 1) := by decide +kernel
theorem dJx4a65c_add_72be8_13 : decode cJx4a65c_add_72be8 13 = .ok (.aload_n 1, 1) := by decide +kernel
theorem dJx4a65c_add_72be8_14 : decode cJx4a65c_add_72be8 14 = .ok (.aastore, 1) := by decide +kernel
theorem dJx4a65c_add_72be8_15 : decode cJx4a65c_add_72be8 15 = .ok (.aload_n 0, 1) := by decide +kernel
theorem dJx4a65c_add_72be8_16 : decode cJx4a65c_add_72be8 16 = .ok (.iload_n 3, 1) := by decide +kernel
theorem dJx4a65c_add_72be8_17 : decode cJx4a65c_add_72be8 17 = .ok (.iconst 1, 1) := by decide +kernel
theorem dJx4a65c_add_72be8_18 : decode cJx4a65c_add_72be8 18 = .ok (.iadd, 1) := by decide +kernel
theorem dJx4a65c_add_72be8_19 : decode cJx4a65c_add_72be8 19 = .ok (.putfield 48, 3) := by decide +kernel
theorem dJx4a65c_add_72be8_22 : decode cJx4a65c_add_72be8 22 = .ok (.return_, 1) := by decide +kernel
set_option maxRecDepth 20000 in
theorem ggJx4a65c_add_9ea2d_Jx4a65c_add_72be8 : GoodIn wsJx4a65c_add_9ea2d wsJx4a65c_add_72be8 := goodIn_r _ [9, 4, 10, 11, 12, 8, 13, 14, 15, 16, 17, 3, 18, 19, 20, 21, 22, 23, 24, 25, 26, 27, 28, 29, 30, 31, 32, 33, 34, 35, 36, 37, 38, 39, 40, 41, 42, 43, 44, 45, 46, 47, 48, 49, 50, 51, 52, 53, 54, 55] (by decide +kernel) (by decide +kernel)
set_option maxRecDepth 20000 in
theorem gJx4a65c_add_9ea2d_Jx4a65c_add_72be8 : GoodIn wsJx4a65c_add_9ea2d (wsV RJx4a65c 131 RJx4a65c yJx4a65c_add_72be8 wsJx4a65c_add_72be8) := goodIn_app (goodIn_of _ (by decide +kernel)) ggJx4a65c_add_9ea2d_Jx4a65c_add_72be8
theorem dJx4a65c_add_9ea2d_0 : decode cJx4a65c_add_9ea2d 0 = .ok (.aload_n 0, 1) := by decide +kernel
theorem dJx4a65c_add_9ea2d_1 : decode cJx4a65c_add_9ea2d 1 = .ok (.dup, 1) := by decide +kernel
theorem dJx4a65c_add_9ea2d_2 : decode cJx4a65c_add_9ea2d 2 = .ok (.getfield 63, 3) := by decide +kernel
theorem dJx4a65c_add_9ea2d_5 : decode cJx4a65c_add_9ea2d 5 = .ok (.iconst 1, 1) := by decide +kernel
theorem dJx4a65c_add_9ea2d_6 : decode cJx4a65c_add_9ea2d 6 = .ok (.iadd, 1) := by decide +kernel
theorem dJx4a65c_add_9ea2d_7 : decode cJx4a65c_add_9ea2d 7 = .ok (.putfield 63, 3) := by decide +kernel
theorem dJx4a65c_add_9ea2d_10 : decode cJx4a65c_add_9ea2d 10 = .ok (.aload_n 0, 1) := by decide +kernel
theorem dJx4a65c_add_9ea2d_11 : decode cJx4a65c_add_9ea2d 11 = .ok (.aload_n 1, 1) := by decide +kernel
theorem dJx4a65c_add_9ea2d_12 : decode cJx4a65c_add_9ea2d 12 = .ok (.aload_n 0, 1) := by decide +kernel
theorem dJx4a65c_add_9ea2d_13 : decode cJx4a65c_add_9ea2d 13 = .ok (.getfield 9, 3) := by decide +kernel
theorem dJx4a65c_add_9ea2d_16 : decode cJx4a65c_add_9ea2d 16 = .ok (.aload_n 0, 1) := by decide +kernel
theorem dJx4a65c_add_9ea2d_17 : decode cJx4a65c_add_9ea2d 17 = .ok (.getfield 48, 3) := by decide +kernel
theorem dJx4a65c_add_9ea2d_20 : decode cJx4a65c_add_9ea2d 20 = .ok (.invokevirtual 131, 3) := by decide +kernel
theorem dJx4a65c_add_9ea2d_23 : decode cJx4a65c_add_9ea2d 23 = .ok (.iconst 1, 1) := by decide +kernel
theorem dJx4a65c_add_9ea2d_24 : decode cJx4a65c_add_9ea2d 24 = .ok (.ireturn, 1) := by decide +kernel
set_option maxRecDepth 20000 in
theorem ggJ7_copyOf_1904c_J7_copyOf_6403c : GoodIn wsJ7_copyOf_1904c wsJ7_copyOf_6403c := goodIn_r _ [8, 9, 10, 11, 12, 13, 14, 15, 16, 17, 18] (by decide +kernel) (by decide +kernel)
set_option maxRecDepth 20000 in
theorem gJ7_copyOf_1904c_J7_copyOf_6403c : GoodIn wsJ7_copyOf_1904c (va_wsS RJ7 300 yJ7_copyOf_6403c wsJ7_copyOf_6403c) := goodIn_app (goodIn_of _ (by decide +kernel)) ggJ7_copyOf_1904c_J7_copyOf_6403c
theorem dJ7_copyOf_1904c_0 : decode cJ7_copyOf_1904c 0 = .ok (.aload_n 0, 1) := by decide +kernel
theorem dJ7_copyOf_1904c_1 : decode cJ7_copyOf_1904c 1 = .ok (.iload_n 1, 1) := by decide +kernel
theorem dJ7_copyOf_1904c_2 : decode cJ7_copyOf_1904c 2 = .ok (.aload_n 0, 1) := by decide +kernel
theorem dJ7_copyOf_1904c_3 : decode cJ7_copyOf_1904c 3 = .ok (.invokevirtual 86, 3) := by decide +kernel
theorem dJ7_copyOf_1904c_6 : decode cJ7_copyOf_1904c 6 = .ok (.invokestatic 300, 3) := by decide +kernel
theorem dJ7_copyOf_1904c_9 : decode cJ7_copyOf_1904c 9 = .ok (.areturn, 1) := by decide +kernel
theorem dJ7_copyOf_6403c_0 : decode cJ7_copyOf_6403c 0 = .ok (.aload_n 2, 1) := by decide +kernel
theorem dJ7_copyOf_6403c_1 : decode cJ7_copyOf_6403c 1 = .ok (.ldc 110, 2) := by decide +kernel
theorem dJ7_copyOf_6403c_3 : decode cJ7_copyOf_6403c 3 = .ok (.if_acmp .ne 10, 3) := by decide +kernel
theorem dJ7_copyOf_6403c_6 : decode cJ7_copyOf_6403c 6 = .ok (.iload_n 1, 1) := by decide +kernel
theorem dJ7_copyOf_6403c_7 : decode cJ7_copyOf_6403c 7 = .ok (.anewarray 2, 3) := by decide +kernel
theorem dJ7_copyOf_6403c_10 : decode cJ7_copyOf_6403c 10 = .ok (.goto 14, 3) := by decide +kernel
theorem dJ7_copyOf_6403c_13 : decode cJ7_copyOf_6403c 13 = .ok (.aload_n 2, 1) := by decide +kernel
theorem dJ7_copyOf_6403c_14 : decode cJ7_copyOf_6403c 14 = .ok (.invokevirtual 90, 3) := by decide +kernel
theorem dJ7_copyOf_6403c_17 : decode cJ7_copyOf_6403c 17 = .ok (.iload_n 1, 1) := by decide +kernel
theorem dJ7_copyOf_6403c_18 : decode cJ7_copyOf_6403c 18 = .ok (.invokestatic 95, 3) := by decide +kernel
theorem dJ7_copyOf_6403c_21 : decode cJ7_copyOf_6403c 21 = .ok (.checkcast 110, 3) := by decide +kernel
theorem dJ7_copyOf_6403c_24 : decode cJ7_copyOf_6403c 24 = .ok (.astore_n 3, 1) := by decide +kernel
theorem dJ7_copyOf_6403c_25 : decode cJ7_copyOf_6403c 25 = .ok (.aload_n 0, 1) := by decide +kernel
theorem dJ7_copyOf_6403c_26 : decode cJ7_copyOf_6403c 26 = .ok (.iconst 0, 1) := by decide +kernel
theorem dJ7_copyOf_6403c_27 : decode cJ7_copyOf_6403c 27 = .ok (.aload_n 3, 1) := by decide +kernel
theorem dJ7_copyOf_6403c_28 : decode cJ7_copyOf_6403c 28 = .ok (.iconst 0, 1) := by decide +kernel
theorem dJ7_copyOf_6403c_29 : decode cJ7_copyOf_6403c 29 = .ok (.aload_n 0, 1) := by decide +kernel
theorem dJ7_copyOf_6403c_30 : decode cJ7_copyOf_6403c 30 = .ok (.arraylength, 1) := by decide +kernel
theorem dJ7_copyOf_6403c_31 : decode cJ7_copyOf_6403c 31 = .ok (.iload_n 1, 1) := by decide +kernel
theorem dJ7_copyOf_6403c_32 : decode cJ7_copyOf_6403c 32 = .ok (.invokestatic 304, 3) := by decide +kernel
theorem dJ7_copyOf_6403c_35 : decode cJ7_copyOf_6403c 35 = .ok (.invokestatic 150, 3) := by decide +kernel
theorem dJ7_copyOf_6403c_38 : decode cJ7_copyOf_6403c 38 = .ok (.aload_n 3, 1) := by decide +kernel
theorem dJ7_copyOf_6403c_39 : decode cJ7_copyOf_6403c 39 = .ok (.areturn, 1) := by decide +kernel
set_option maxRecDepth 20000 in
theorem ggJ15_checkIndex_7cf53_J3_checkIndex_8e157 : GoodIn wsJ15_checkIndex_7cf53 wsJ3_checkIndex_8e157 := goodIn_r _ [4] (by decide +kernel) (by decide +kernel)
set_option maxRecDepth 20000 in
theorem gJ15_checkIndex_7cf53_J3_checkIndex_8e157 : GoodIn wsJ15_checkIndex_7cf53 (va_wsS RJ15 105 yJ3_checkIndex_8e157 wsJ3_checkIndex_8e157) := goodIn_app (goodIn_of _ (by decide +kernel)) ggJ15_checkIndex_7cf53_J3_checkIndex_8e157
theorem dJ15_checkIndex_7cf53_0 : decode cJ15_checkIndex_7cf53 0 = .ok (.iload_n 0, 1) := by decide +kernel
theorem dJ15_checkIndex_7cf53_1 : decode cJ15_checkIndex_7cf53 1 = .ok (.iload_n 1, 1) := by decide +kernel
theorem dJ15_checkIndex_7cf53_2 : decode cJ15_checkIndex_7cf53 2 = .ok (.aconst_null, 1) := by decide +kernel
theorem dJ15_checkIndex_7cf53_3 : decode cJ15_checkIndex_7cf53 3 = .ok (.invokestatic 105, 3) := by decide +kernel
theorem dJ15_checkIndex_7cf53_6 : decode cJ15_checkIndex_7cf53 6 = .ok (.ireturn, 1) := by decide +kernel
set_option maxRecDepth 20000 in
theorem ggJ8_newLength_cabcc_J8_hugeLength_7cf53 : GoodIn wsJ8_newLength_cabcc wsJ8_hugeLength_7cf53 := goodIn_r _ [9, 5] (by decide +kernel) (by decide +kernel)
set_option maxRecDepth 20000 in
theorem gJ8_newLength_cabcc_J8_hugeLength_7cf53 : GoodIn wsJ8_newLength_cabcc (va_wsS RJ8 201 yJ8_hugeLength_7cf53 wsJ8_hugeLength_7cf53) := goodIn_app (goodIn_of _ (by decide +kernel)) ggJ8_newLength_cabcc_J8_hugeLength_7cf53
theorem dJ8_newLength_cabcc_0 : decode cJ8_newLength_cabcc 0 = .ok (.iload_n 0, 1) := by decide +kernel
theorem dJ8_newLength_cabcc_1 : decode cJ8_newLength_cabcc 1 = .ok (.iload_n 1, 1) := by decide +kernel
theorem dJ8_newLength_cabcc_2 : decode cJ8_newLength_cabcc 2 = .ok (.iload_n 2, 1) := by decide +kernel
theorem dJ8_newLength_cabcc_3 : decode cJ8_newLength_cabcc 3 = .ok (.invokestatic 194, 3) := by decide +kernel
theorem dJ8_newLength_cabcc_6 : decode cJ8_newLength_cabcc 6 = .ok (.iadd, 1) := by decide +kernel
theorem dJ8_newLength_cabcc_7 : decode cJ8_newLength_cabcc 7 = .ok (.istore_n 3, 1) := by decide +kernel
theorem dJ8_newLength_cabcc_8 : decode cJ8_newLength_cabcc 8 = .ok (.iconst 0, 1) := by decide +kernel
theorem dJ8_newLength_cabcc_9 : decode cJ8_newLength_cabcc 9 = .ok (.iload_n 3, 1) := by decide +kernel
theorem dJ8_newLength_cabcc_10 : decode cJ8_newLength_cabcc 10 = .ok (.if_icmp .ge 11, 3) := by decide +kernel
theorem dJ8_newLength_cabcc_13 : decode cJ8_newLength_cabcc 13 = .ok (.iload_n 3, 1) := by decide +kernel
theorem dJ8_newLength_cabcc_14 : decode cJ8_newLength_cabcc 14 = .ok (.ldc 200, 2) := by decide +kernel
theorem dJ8_newLength_cabcc_16 : decode cJ8_newLength_cabcc 16 = .ok (.if_icmp .gt 5, 3) := by decide +kernel
theorem dJ8_newLength_cabcc_19 : decode cJ8_newLength_cabcc 19 = .ok (.iload_n 3, 1) := by decide +kernel
theorem dJ8_newLength_cabcc_20 : decode cJ8_newLength_cabcc 20 = .ok (.ireturn, 1) := by decide +kernel
theorem dJ8_newLength_cabcc_21 : decode cJ8_newLength_cabcc 21 = .ok (.iload_n 0, 1) := by decide +kernel
theorem dJ8_newLength_cabcc_22 : decode cJ8_newLength_cabcc 22 = .ok (.iload_n 1, 1) := by decide +kernel
theorem dJ8_newLength_cabcc_23 : decode cJ8_newLength_cabcc 23 = .ok (.invokestatic 201, 3) := by decide +kernel
theorem dJ8_newLength_cabcc_26 : decode cJ8_newLength_cabcc 26 = .ok (.ireturn, 1) := by decide +kernel
theorem dJ8_hugeLength_7cf53_0 : decode cJ8_hugeLength_7cf53 0 = .ok (.iload_n 0, 1) := by decide +kernel
theorem dJ8_hugeLength_7cf53_1 : decode cJ8_hugeLength_7cf53 1 = .ok (.iload_n 1, 1) := by decide +kernel
theorem dJ8_hugeLength_7cf53_2 : decode cJ8_hugeLength_7cf53 2 = .ok (.iadd, 1) := by decide +kernel
theorem dJ8_hugeLength_7cf53_3 : decode cJ8_hugeLength_7cf53 3 = .ok (.istore_n 2, 1) := by decide +kernel
theorem dJ8_hugeLength_7cf53_4 : decode cJ8_hugeLength_7cf53 4 = .ok (.iload_n 2, 1) := by decide +kernel
theorem dJ8_hugeLength_7cf53_5 : decode cJ8_hugeLength_7cf53 5 = .ok (.ifCond .ge 44, 3) := by decide +kernel
theorem dJ8_hugeLength_7cf53_8 : decode cJ8_hugeLength_7cf53 8 = .ok (.new 204, 3) := by decide +kernel
theorem dJ8_hugeLength_7cf53_11 : decode cJ8_hugeLength_7cf53 11 = .ok (.dup, 1) := by decide +kernel
theorem dJ8_hugeLength_7cf53_12 : decode cJ8_hugeLength_7cf53 12 = .ok (.new 89, 3) := by decide +kernel
theorem dJ8_hugeLength_7cf53_15 : decode cJ8_hugeLength_7cf53 15 = .ok (.dup, 1) := by decide +kernel
theorem dJ8_hugeLength_7cf53_16 : decode cJ8_hugeLength_7cf53 16 = .ok (.invokespecial 91, 3) := by decide +kernel
theorem dJ8_hugeLength_7cf53_19 : decode cJ8_hugeLength_7cf53 19 = .ok (.ldc 206, 2) := by decide +kernel
theorem dJ8_hugeLength_7cf53_21 : decode cJ8_hugeLength_7cf53 21 = .ok (.invokevirtual 94, 3) := by decide +kernel
theorem dJ8_hugeLength_7cf53_24 : decode cJ8_hugeLength_7cf53 24 = .ok (.iload_n 0, 1) := by decide +kernel
theorem dJ8_hugeLength_7cf53_25 : decode cJ8_hugeLength_7cf53 25 = .ok (.invokevirtual 98, 3) := by decide +kernel
theorem dJ8_hugeLength_7cf53_28 : decode cJ8_hugeLength_7cf53 28 = .ok (.ldc 208, 2) := by decide +kernel
theorem dJ8_hugeLength_7cf53_30 : decode cJ8_hugeLength_7cf53 30 = .ok (.invokevirtual 94, 3) := by decide +kernel
theorem dJ8_hugeLength_7cf53_33 : decode cJ8_hugeLength_7cf53 33 = .ok (.iload_n 1, 1) := by decide +kernel
theorem dJ8_hugeLength_7cf53_34 : decode cJ8_hugeLength_7cf53 34 = .ok (.invokevirtual 98, 3) := by decide +kernel
theorem dJ8_hugeLength_7cf53_37 : decode cJ8_hugeLength_7cf53 37 = .ok (.ldc 210, 2) := by decide +kernel
theorem dJ8_hugeLength_7cf53_39 : decode cJ8_hugeLength_7cf53 39 = .ok (.invokevirtual 94, 3) := by decide +kernel
theorem dJ8_hugeLength_7cf53_42 : decode cJ8_hugeLength_7cf53 42 = .ok (.invokevirtual 101, 3) := by decide +kernel
theorem dJ8_hugeLength_7cf53_45 : decode cJ8_hugeLength_7cf53 45 = .ok (.invokespecial 212, 3) := by decide +kernel
theorem dJ8_hugeLength_7cf53_48 : decode cJ8_hugeLength_7cf53 48 = .ok (.athrow, 1) := by decide +kernel
theorem dJ8_hugeLength_7cf53_49 : decode cJ8_hugeLength_7cf53 49 = .ok (.iload_n 2, 1) := by decide +kernel
theorem dJ8_hugeLength_7cf53_50 : decode cJ8_hugeLength_7cf53 50 = .ok (.ldc 200, 2) := by decide +kernel
theorem dJ8_hugeLength_7cf53_52 : decode cJ8_hugeLength_7cf53 52 = .ok (.if_icmp .gt 6, 3) := by decide +kernel
theorem dJ8_hugeLength_7cf53_55 : decode cJ8_hugeLength_7cf53 55 = .ok (.ldc 200, 2) := by decide +kernel
theorem dJ8_hugeLength_7cf53_57 : decode cJ8_hugeLength_7cf53 57 = .ok (.ireturn, 1) := by decide +kernel
theorem dJ8_hugeLength_7cf53_58 : decode cJ8_hugeLength_7cf53 58 = .ok (.iload_n 2, 1) := by decide +kernel
theorem dJ8_hugeLength_7cf53_59 : decode cJ8_hugeLength_7cf53 59 = .ok (.ireturn, 1) := by decide +kernel
theorem dJ3_checkIndex_8e157_0 : decode cJ3_checkIndex_8e157 0 = .ok (.iload_n 0, 1) := by decide +kernel
theorem dJ3_checkIndex_8e157_1 : decode cJ3_checkIndex_8e157 1 = .ok (.ifCond .lt 8, 3) := by decide +kernel
theorem dJ3_checkIndex_8e157_4 : decode cJ3_checkIndex_8e157 4 = .ok (.iload_n 0, 1) := by decide +kernel
theorem dJ3_checkIndex_8e157_5 : decode cJ3_checkIndex_8e157 5 = .ok (.iload_n 1, 1) := by decide +kernel
theorem dJ3_checkIndex_8e157_6 : decode cJ3_checkIndex_8e157 6 = .ok (.if_icmp .lt 10, 3) := by decide +kernel
theorem dJ3_checkIndex_8e157_9 : decode cJ3_checkIndex_8e157 9 = .ok (.aload_n 2, 1) := by decide +kernel
theorem dJ3_checkIndex_8e157_10 : decode cJ3_checkIndex_8e157 10 = .ok (.iload_n 0, 1) := by decide +kernel
theorem dJ3_checkIndex_8e157_11 : decode cJ3_checkIndex_8e157 11 = .ok (.iload_n 1, 1) := by decide +kernel
theorem dJ3_checkIndex_8e157_12 : decode cJ3_checkIndex_8e157 12 = .ok (.invokestatic 95, 3) := by decide +kernel
theorem dJ3_checkIndex_8e157_15 : decode cJ3_checkIndex_8e157 15 = .ok (.athrow, 1) := by decide +kernel
theorem dJ3_checkIndex_8e157_16 : decode cJ3_checkIndex_8e157 16 = .ok (.iload_n 0, 1) := by decide +kernel
theorem dJ3_checkIndex_8e157_17 : decode cJ3_checkIndex_8e157 17 = .ok (.ireturn, 1) := by decide +kernel

theorem dX8_init_0 : decode cX8_init 0 = .ok (.aload_n 0, 1) := by decide +kernel
theorem dX8_init_1 : decode cX8_init 1 = .ok (.invokespecial 1, 3) := by decide +kernel
theorem dX8_init_4 : decode cX8_init 4 = .ok (.aload_n 0, 1) := by decide +kernel
theorem dX8_init_5 : decode cX8_init 5 = .ok (.bipush 72, 2) := by decide +kernel
theorem dX8_init_7 : decode cX8_init 7 = .ok (.newarray .int, 2) := by decide +kernel
theorem dX8_init_9 : decode cX8_init 9 = .ok (.putfield 7, 3) := by decide +kernel
theorem dX8_init_12 : decode cX8_init 12 = .ok (.aload_n 0, 1) := by decide +kernel
theorem dX8_init_13 : decode cX8_init 13 = .ok (.bipush 72, 2) := by decide +kernel
theorem dX8_init_15 : decode cX8_init 15 = .ok (.newarray .int, 2) := by decide +kernel
theorem dX8_init_17 : decode cX8_init 17 = .ok (.putfield 13, 3) := by decide +kernel
theorem dX8_init_20 : decode cX8_init 20 = .ok (.aload_n 0, 1) := by decide +kernel
theorem dX8_init_21 : decode cX8_init 21 = .ok (.bipush 72, 2) := by decide +kernel
theorem dX8_init_23 : decode cX8_init 23 = .ok (.newarray .int, 2) := by decide +kernel
theorem dX8_init_25 : decode cX8_init 25 = .ok (.putfield 16, 3) := by decide +kernel
theorem dX8_init_28 : decode cX8_init 28 = .ok (.aload_n 0, 1) := by decide +kernel
theorem dX8_init_29 : decode cX8_init 29 = .ok (.sipush 576, 3) := by decide +kernel
theorem dX8_init_32 : decode cX8_init 32 = .ok (.newarray .int, 2) := by decide +kernel
theorem dX8_init_34 : decode cX8_init 34 = .ok (.putfield 19, 3) := by decide +kernel
theorem dX8_init_37 : decode cX8_init 37 = .ok (.aload_n 0, 1) := by decide +kernel
theorem dX8_init_38 : decode cX8_init 38 = .ok (.sipush 1024, 3) := by decide +kernel
theorem dX8_init_41 : decode cX8_init 41 = .ok (.newarray .int, 2) := by decide +kernel
theorem dX8_init_43 : decode cX8_init 43 = .ok (.putfield 22, 3) := by decide +kernel
theorem dX8_init_46 : decode cX8_init 46 = .ok (.aload_n 0, 1) := by decide +kernel
theorem dX8_init_47 : decode cX8_init 47 = .ok (.bipush 7, 2) := by decide +kernel
theorem dX8_init_49 : decode cX8_init 49 = .ok (.newarray .int, 2) := by decide +kernel
theorem dX8_init_51 : decode cX8_init 51 = .ok (.putfield 25, 3) := by decide +kernel
theorem dX8_init_54 : decode cX8_init 54 = .ok (.aload_n 0, 1) := by decide +kernel
theorem dX8_init_55 : decode cX8_init 55 = .ok (.bipush 12, 2) := by decide +kernel
theorem dX8_init_57 : decode cX8_init 57 = .ok (.newarray .int, 2) := by decide +kernel
theorem dX8_init_59 : decode cX8_init 59 = .ok (.putfield 28, 3) := by decide +kernel
theorem dX8_init_62 : decode cX8_init 62 = .ok (.aload_n 0, 1) := by decide +kernel
theorem dX8_init_63 : decode cX8_init 63 = .ok (.bipush 12, 2) := by decide +kernel
theorem dX8_init_65 : decode cX8_init 65 = .ok (.newarray .int, 2) := by decide +kernel
theorem dX8_init_67 : decode cX8_init 67 = .ok (.putfield 31, 3) := by decide +kernel
theorem dX8_init_70 : decode cX8_init 70 = .ok (.aload_n 0, 1) := by decide +kernel
theorem dX8_init_71 : decode cX8_init 71 = .ok (.bipush 7, 2) := by decide +kernel
theorem dX8_init_73 : decode cX8_init 73 = .ok (.newarray .int, 2) := by decide +kernel
theorem dX8_init_75 : decode cX8_init 75 = .ok (.putfield 34, 3) := by decide +kernel
theorem dX8_init_78 : decode cX8_init 78 = .ok (.aload_n 0, 1) := by decide +kernel
theorem dX8_init_79 : decode cX8_init 79 = .ok (.iconst 0, 1) := by decide +kernel
theorem dX8_init_80 : decode cX8_init 80 = .ok (.putfield 37, 3) := by decide +kernel
theorem dX8_init_83 : decode cX8_init 83 = .ok (.aload_n 0, 1) := by decide +kernel
theorem dX8_init_84 : decode cX8_init 84 = .ok (.iconst 0, 1) := by decide +kernel
theorem dX8_init_85 : decode cX8_init 85 = .ok (.putfield 41, 3) := by decide +kernel
theorem dX8_init_88 : decode cX8_init 88 = .ok (.aload_n 0, 1) := by decide +kernel
theorem dX8_init_89 : decode cX8_init 89 = .ok (.iconst (-1), 1) := by decide +kernel
theorem dX8_init_90 : decode cX8_init 90 = .ok (.putfield 44, 3) := by decide +kernel
theorem dX8_init_93 : decode cX8_init 93 = .ok (.aload_n 0, 1) := by decide +kernel
theorem dX8_init_94 : decode cX8_init 94 = .ok (.iconst (-1), 1) := by decide +kernel
theorem dX8_init_95 : decode cX8_init 95 = .ok (.putfield 47, 3) := by decide +kernel
theorem dX8_init_98 : decode cX8_init 98 = .ok (.aload_n 0, 1) := by decide +kernel
theorem dX8_init_99 : decode cX8_init 99 = .ok (.iconst 0, 1) := by decide +kernel
theorem dX8_init_100 : decode cX8_init 100 = .ok (.putfield 50, 3) := by decide +kernel
theorem dX8_init_103 : decode cX8_init 103 = .ok (.aload_n 0, 1) := by decide +kernel
theorem dX8_init_104 : decode cX8_init 104 = .ok (.bipush 80, 2) := by decide +kernel
theorem dX8_init_106 : decode cX8_init 106 = .ok (.newarray .int, 2) := by decide +kernel
theorem dX8_init_108 : decode cX8_init 108 = .ok (.putfield 54, 3) := by decide +kernel
theorem dX8_init_111 : decode cX8_init 111 = .ok (.aload_n 0, 1) := by decide +kernel
theorem dX8_init_112 : decode cX8_init 112 = .ok (.iconst 0, 1) := by decide +kernel
theorem dX8_init_113 : decode cX8_init 113 = .ok (.putfield 57, 3) := by decide +kernel
theorem dX8_init_116 : decode cX8_init 116 = .ok (.aload_n 0, 1) := by decide +kernel
theorem dX8_init_117 : decode cX8_init 117 = .ok (.bipush 60, 2) := by decide +kernel
theorem dX8_init_119 : decode cX8_init 119 = .ok (.newarray .int, 2) := by decide +kernel
theorem dX8_init_121 : decode cX8_init 121 = .ok (.putfield 60, 3) := by decide +kernel
theorem dX8_init_124 : decode cX8_init 124 = .ok (.aload_n 0, 1) := by decide +kernel
theorem dX8_init_125 : decode cX8_init 125 = .ok (.bipush 32, 2) := by decide +kernel
theorem dX8_init_127 : decode cX8_init 127 = .ok (.newarray .int, 2) := by decide +kernel
theorem dX8_init_129 : decode cX8_init 129 = .ok (.putfield 63, 3) := by decide +kernel
theorem dX8_init_132 : decode cX8_init 132 = .ok (.aload_n 0, 1) := by decide +kernel
theorem dX8_init_133 : decode cX8_init 133 = .ok (.bipush 32, 2) := by decide +kernel
theorem dX8_init_135 : decode cX8_init 135 = .ok (.newarray .int, 2) := by decide +kernel
theorem dX8_init_137 : decode cX8_init 137 = .ok (.putfield 66, 3) := by decide +kernel
theorem dX8_init_140 : decode cX8_init 140 = .ok (.aload_n 0, 1) := by decide +kernel
theorem dX8_init_141 : decode cX8_init 141 = .ok (.bipush 32, 2) := by decide +kernel
theorem dX8_init_143 : decode cX8_init 143 = .ok (.newarray .int, 2) := by decide +kernel
theorem dX8_init_145 : decode cX8_init 145 = .ok (.putfield 69, 3) := by decide +kernel
theorem dX8_init_148 : decode cX8_init 148 = .ok (.aload_n 0, 1) := by decide +kernel
theorem dX8_init_149 : decode cX8_init 149 = .ok (.iconst 0, 1) := by decide +kernel
theorem dX8_init_150 : decode cX8_init 150 = .ok (.putfield 72, 3) := by decide +kernel
theorem dX8_init_153 : decode cX8_init 153 = .ok (.aload_n 0, 1) := by decide +kernel
theorem dX8_init_154 : decode cX8_init 154 = .ok (.iconst 0, 1) := by decide +kernel
theorem dX8_init_155 : decode cX8_init 155 = .ok (.putfield 75, 3) := by decide +kernel
theorem dX8_init_158 : decode cX8_init 158 = .ok (.aload_n 0, 1) := by decide +kernel
theorem dX8_init_159 : decode cX8_init 159 = .ok (.iconst 0, 1) := by decide +kernel
theorem dX8_init_160 : decode cX8_init 160 = .ok (.putfield 78, 3) := by decide +kernel
theorem dX8_init_163 : decode cX8_init 163 = .ok (.aload_n 0, 1) := by decide +kernel
theorem dX8_init_164 : decode cX8_init 164 = .ok (.iconst 0, 1) := by decide +kernel
theorem dX8_init_165 : decode cX8_init 165 = .ok (.putfield 81, 3) := by decide +kernel
theorem dX8_init_168 : decode cX8_init 168 = .ok (.aload_n 0, 1) := by decide +kernel
theorem dX8_init_169 : decode cX8_init 169 = .ok (.iconst 0, 1) := by decide +kernel
theorem dX8_init_170 : decode cX8_init 170 = .ok (.putfield 84, 3) := by decide +kernel
theorem dX8_init_173 : decode cX8_init 173 = .ok (.return_, 1) := by decide +kernel
theorem dX8_thrown_0 : decode cX8_thrown 0 = .ok (.aload_n 0, 1) := by decide +kernel
theorem dX8_thrown_1 : decode cX8_thrown 1 = .ok (.getfield 37, 3) := by decide +kernel
theorem dX8_thrown_4 : decode cX8_thrown 4 = .ok (.ireturn, 1) := by decide +kernel
theorem dX8_in_0 : decode cX8_in 0 = .ok (.iload_n 0, 1) := by decide +kernel
theorem dX8_in_1 : decode cX8_in 1 = .ok (.iload_n 1, 1) := by decide +kernel
theorem dX8_in_2 : decode cX8_in 2 = .ok (.if_icmp .lt 12, 3) := by decide +kernel
theorem dX8_in_5 : decode cX8_in 5 = .ok (.iload_n 0, 1) := by decide +kernel
theorem dX8_in_6 : decode cX8_in 6 = .ok (.iload_n 2, 1) := by decide +kernel
theorem dX8_in_7 : decode cX8_in 7 = .ok (.if_icmp .gt 7, 3) := by decide +kernel
theorem dX8_in_10 : decode cX8_in 10 = .ok (.iconst 1, 1) := by decide +kernel
theorem dX8_in_11 : decode cX8_in 11 = .ok (.goto 4, 3) := by decide +kernel
theorem dX8_in_14 : decode cX8_in 14 = .ok (.iconst 0, 1) := by decide +kernel
theorem dX8_in_15 : decode cX8_in 15 = .ok (.ireturn, 1) := by decide +kernel
theorem dX8_less_0 : decode cX8_less 0 = .ok (.iload_n 0, 1) := by decide +kernel
theorem dX8_less_1 : decode cX8_less 1 = .ok (.iload_n 1, 1) := by decide +kernel
theorem dX8_less_2 : decode cX8_less 2 = .ok (.if_icmp .ge 7, 3) := by decide +kernel
theorem dX8_less_5 : decode cX8_less 5 = .ok (.iload_n 0, 1) := by decide +kernel
theorem dX8_less_6 : decode cX8_less 6 = .ok (.goto 4, 3) := by decide +kernel
theorem dX8_less_9 : decode cX8_less 9 = .ok (.iload_n 1, 1) := by decide +kernel
theorem dX8_less_10 : decode cX8_less 10 = .ok (.ireturn, 1) := by decide +kernel
theorem dX8_copy_0 : decode cX8_copy 0 = .ok (.iconst 0, 1) := by decide +kernel
theorem dX8_copy_1 : decode cX8_copy 1 = .ok (.istore 4, 2) := by decide +kernel
theorem dX8_copy_3 : decode cX8_copy 3 = .ok (.iload 4, 2) := by decide +kernel
theorem dX8_copy_5 : decode cX8_copy 5 = .ok (.bipush 72, 2) := by decide +kernel
theorem dX8_copy_7 : decode cX8_copy 7 = .ok (.if_icmp .ge 21, 3) := by decide +kernel
theorem dX8_copy_10 : decode cX8_copy 10 = .ok (.aload_n 2, 1) := by decide +kernel
theorem dX8_copy_11 : decode cX8_copy 11 = .ok (.iload_n 3, 1) := by decide +kernel
theorem dX8_copy_12 : decode cX8_copy 12 = .ok (.iload 4, 2) := by decide +kernel
theorem dX8_copy_14 : decode cX8_copy 14 = .ok (.iadd, 1) := by decide +kernel
theorem dX8_copy_15 : decode cX8_copy 15 = .ok (.aload_n 0, 1) := by decide +kernel
theorem dX8_copy_16 : decode cX8_copy 16 = .ok (.iload_n 1, 1) := by decide +kernel
theorem dX8_copy_17 : decode cX8_copy 17 = .ok (.iload 4, 2) := by decide +kernel
theorem dX8_copy_19 : decode cX8_copy 19 = .ok (.iadd, 1) := by decide +kernel
theorem dX8_copy_20 : decode cX8_copy 20 = .ok (.iaload, 1) := by decide +kernel
theorem dX8_copy_21 : decode cX8_copy 21 = .ok (.iastore, 1) := by decide +kernel
theorem dX8_copy_22 : decode cX8_copy 22 = .ok (.iinc 4 1, 3) := by decide +kernel
theorem dX8_copy_25 : decode cX8_copy 25 = .ok (.goto (-22), 3) := by decide +kernel
theorem dX8_copy_28 : decode cX8_copy 28 = .ok (.return_, 1) := by decide +kernel
theorem dX8_fail_0 : decode cX8_fail 0 = .ok (.aload_n 0, 1) := by decide +kernel
theorem dX8_fail_1 : decode cX8_fail 1 = .ok (.iload_n 1, 1) := by decide +kernel
theorem dX8_fail_2 : decode cX8_fail 2 = .ok (.putfield 37, 3) := by decide +kernel
theorem dX8_fail_5 : decode cX8_fail 5 = .ok (.iconst 0, 1) := by decide +kernel
theorem dX8_fail_6 : decode cX8_fail 6 = .ok (.ireturn, 1) := by decide +kernel
theorem dX8_begin_0 : decode cX8_begin 0 = .ok (.aload_n 0, 1) := by decide +kernel
theorem dX8_begin_1 : decode cX8_begin 1 = .ok (.iconst 0, 1) := by decide +kernel
theorem dX8_begin_2 : decode cX8_begin 2 = .ok (.putfield 37, 3) := by decide +kernel
theorem dX8_begin_5 : decode cX8_begin 5 = .ok (.aload_n 0, 1) := by decide +kernel
theorem dX8_begin_6 : decode cX8_begin 6 = .ok (.getfield 7, 3) := by decide +kernel
theorem dX8_begin_9 : decode cX8_begin 9 = .ok (.iconst 0, 1) := by decide +kernel
theorem dX8_begin_10 : decode cX8_begin 10 = .ok (.aload_n 0, 1) := by decide +kernel
theorem dX8_begin_11 : decode cX8_begin 11 = .ok (.getfield 13, 3) := by decide +kernel
theorem dX8_begin_14 : decode cX8_begin 14 = .ok (.iconst 0, 1) := by decide +kernel
theorem dX8_begin_15 : decode cX8_begin 15 = .ok (.invokestatic 87, 3) := by decide +kernel
theorem dX8_begin_18 : decode cX8_begin 18 = .ok (.return_, 1) := by decide +kernel
theorem dX8_commit_0 : decode cX8_commit 0 = .ok (.aload_n 0, 1) := by decide +kernel
theorem dX8_commit_1 : decode cX8_commit 1 = .ok (.getfield 41, 3) := by decide +kernel
theorem dX8_commit_4 : decode cX8_commit 4 = .ok (.bipush 8, 2) := by decide +kernel
theorem dX8_commit_6 : decode cX8_commit 6 = .ok (.if_icmp .ne 48, 3) := by decide +kernel
theorem dX8_commit_9 : decode cX8_commit 9 = .ok (.iconst 1, 1) := by decide +kernel
theorem dX8_commit_10 : decode cX8_commit 10 = .ok (.istore_n 2, 1) := by decide +kernel
theorem dX8_commit_11 : decode cX8_commit 11 = .ok (.iload_n 2, 1) := by decide +kernel
theorem dX8_commit_12 : decode cX8_commit 12 = .ok (.bipush 8, 2) := by decide +kernel
theorem dX8_commit_14 : decode cX8_commit 14 = .ok (.if_icmp .ge 30, 3) := by decide +kernel
theorem dX8_commit_17 : decode cX8_commit 17 = .ok (.aload_n 0, 1) := by decide +kernel
theorem dX8_commit_18 : decode cX8_commit 18 = .ok (.getfield 19, 3) := by decide +kernel
theorem dX8_commit_21 : decode cX8_commit 21 = .ok (.bipush 72, 2) := by decide +kernel
theorem dX8_commit_23 : decode cX8_commit 23 = .ok (.iload_n 2, 1) := by decide +kernel
theorem dX8_commit_24 : decode cX8_commit 24 = .ok (.imul, 1) := by decide +kernel
theorem dX8_commit_25 : decode cX8_commit 25 = .ok (.aload_n 0, 1) := by decide +kernel
theorem dX8_commit_26 : decode cX8_commit 26 = .ok (.getfield 19, 3) := by decide +kernel
theorem dX8_commit_29 : decode cX8_commit 29 = .ok (.bipush 72, 2) := by decide +kernel
theorem dX8_commit_31 : decode cX8_commit 31 = .ok (.iload_n 2, 1) := by decide +kernel
theorem dX8_commit_32 : decode cX8_commit 32 = .ok (.iconst 1, 1) := by decide +kernel
theorem dX8_commit_33 : decode cX8_commit 33 = .ok (.isub, 1) := by decide +kernel
theorem dX8_commit_34 : decode cX8_commit 34 = .ok (.imul, 1) := by decide +kernel
theorem dX8_commit_35 : decode cX8_commit 35 = .ok (.invokestatic 87, 3) := by decide +kernel
theorem dX8_commit_38 : decode cX8_commit 38 = .ok (.iinc 2 1, 3) := by decide +kernel
theorem dX8_commit_41 : decode cX8_commit 41 = .ok (.goto (-30), 3) := by decide +kernel
theorem dX8_commit_44 : decode cX8_commit 44 = .ok (.aload_n 0, 1) := by decide +kernel
theorem dX8_commit_45 : decode cX8_commit 45 = .ok (.dup, 1) := by decide +kernel
theorem dX8_commit_46 : decode cX8_commit 46 = .ok (.getfield 41, 3) := by decide +kernel
theorem dX8_commit_49 : decode cX8_commit 49 = .ok (.iconst 1, 1) := by decide +kernel
theorem dX8_commit_50 : decode cX8_commit 50 = .ok (.isub, 1) := by decide +kernel
theorem dX8_commit_51 : decode cX8_commit 51 = .ok (.putfield 41, 3) := by decide +kernel
theorem dX8_commit_54 : decode cX8_commit 54 = .ok (.aload_n 0, 1) := by decide +kernel
theorem dX8_commit_55 : decode cX8_commit 55 = .ok (.getfield 13, 3) := by decide +kernel
theorem dX8_commit_58 : decode cX8_commit 58 = .ok (.iconst 0, 1) := by decide +kernel
theorem dX8_commit_59 : decode cX8_commit 59 = .ok (.aload_n 0, 1) := by decide +kernel
theorem dX8_commit_60 : decode cX8_commit 60 = .ok (.getfield 19, 3) := by decide +kernel
theorem dX8_commit_63 : decode cX8_commit 63 = .ok (.bipush 72, 2) := by decide +kernel
theorem dX8_commit_65 : decode cX8_commit 65 = .ok (.aload_n 0, 1) := by decide +kernel
theorem dX8_commit_66 : decode cX8_commit 66 = .ok (.getfield 41, 3) := by decide +kernel
theorem dX8_commit_69 : decode cX8_commit 69 = .ok (.imul, 1) := by decide +kernel
theorem dX8_commit_70 : decode cX8_commit 70 = .ok (.invokestatic 87, 3) := by decide +kernel
theorem dX8_commit_73 : decode cX8_commit 73 = .ok (.aload_n 0, 1) := by decide +kernel
theorem dX8_commit_74 : decode cX8_commit 74 = .ok (.dup, 1) := by decide +kernel
theorem dX8_commit_75 : decode cX8_commit 75 = .ok (.getfield 41, 3) := by decide +kernel
theorem dX8_commit_78 : decode cX8_commit 78 = .ok (.iconst 1, 1) := by decide +kernel
theorem dX8_commit_79 : decode cX8_commit 79 = .ok (.iadd, 1) := by decide +kernel
theorem dX8_commit_80 : decode cX8_commit 80 = .ok (.putfield 41, 3) := by decide +kernel
theorem dX8_commit_83 : decode cX8_commit 83 = .ok (.iload_n 1, 1) := by decide +kernel
theorem dX8_commit_84 : decode cX8_commit 84 = .ok (.ireturn, 1) := by decide +kernel
theorem dX8_plain_0 : decode cX8_plain 0 = .ok (.aload_n 0, 1) := by decide +kernel
theorem dX8_plain_1 : decode cX8_plain 1 = .ok (.iconst 0, 1) := by decide +kernel
theorem dX8_plain_2 : decode cX8_plain 2 = .ok (.putfield 37, 3) := by decide +kernel
theorem dX8_plain_5 : decode cX8_plain 5 = .ok (.iload_n 1, 1) := by decide +kernel
theorem dX8_plain_6 : decode cX8_plain 6 = .ok (.ireturn, 1) := by decide +kernel
theorem dX8_checked_0 : decode cX8_checked 0 = .ok (.aload_n 0, 1) := by decide +kernel
theorem dX8_checked_1 : decode cX8_checked 1 = .ok (.iload_n 1, 1) := by decide +kernel
theorem dX8_checked_2 : decode cX8_checked 2 = .ok (.ifCond .eq 7, 3) := by decide +kernel
theorem dX8_checked_5 : decode cX8_checked 5 = .ok (.iconst 0, 1) := by decide +kernel
theorem dX8_checked_6 : decode cX8_checked 6 = .ok (.goto 4, 3) := by decide +kernel
theorem dX8_checked_9 : decode cX8_checked 9 = .ok (.iconst 1, 1) := by decide +kernel
theorem dX8_checked_10 : decode cX8_checked 10 = .ok (.putfield 37, 3) := by decide +kernel
theorem dX8_checked_13 : decode cX8_checked 13 = .ok (.aload_n 0, 1) := by decide +kernel
theorem dX8_checked_14 : decode cX8_checked 14 = .ok (.getfield 37, 3) := by decide +kernel
theorem dX8_checked_17 : decode cX8_checked 17 = .ok (.ireturn, 1) := by decide +kernel
theorem dX8_isColour_0 : decode cX8_isColour 0 = .ok (.iload_n 0, 1) := by decide +kernel
theorem dX8_isColour_1 : decode cX8_isColour 1 = .ok (.iconst 0, 1) := by decide +kernel
theorem dX8_isColour_2 : decode cX8_isColour 2 = .ok (.bipush 9, 2) := by decide +kernel
theorem dX8_isColour_4 : decode cX8_isColour 4 = .ok (.invokestatic 91, 3) := by decide +kernel
theorem dX8_isColour_7 : decode cX8_isColour 7 = .ok (.ireturn, 1) := by decide +kernel
theorem dX8_cannotPour_0 : decode cX8_cannotPour 0 = .ok (.iload_n 1, 1) := by decide +kernel
theorem dX8_cannotPour_1 : decode cX8_cannotPour 1 = .ok (.invokestatic 95, 3) := by decide +kernel
theorem dX8_cannotPour_4 : decode cX8_cannotPour 4 = .ok (.ifCond .eq 14, 3) := by decide +kernel
theorem dX8_cannotPour_7 : decode cX8_cannotPour 7 = .ok (.iload_n 2, 1) := by decide +kernel
theorem dX8_cannotPour_8 : decode cX8_cannotPour 8 = .ok (.iconst 1, 1) := by decide +kernel
theorem dX8_cannotPour_9 : decode cX8_cannotPour 9 = .ok (.sipush 999, 3) := by decide +kernel
theorem dX8_cannotPour_12 : decode cX8_cannotPour 12 = .ok (.invokestatic 91, 3) := by decide +kernel
theorem dX8_cannotPour_15 : decode cX8_cannotPour 15 = .ok (.ifCond .ne 5, 3) := by decide +kernel
theorem dX8_cannotPour_18 : decode cX8_cannotPour 18 = .ok (.iconst 1, 1) := by decide +kernel
theorem dX8_cannotPour_19 : decode cX8_cannotPour 19 = .ok (.ireturn, 1) := by decide +kernel
theorem dX8_cannotPour_20 : decode cX8_cannotPour 20 = .ok (.aload_n 0, 1) := by decide +kernel
theorem dX8_cannotPour_21 : decode cX8_cannotPour 21 = .ok (.getfield 7, 3) := by decide +kernel
theorem dX8_cannotPour_24 : decode cX8_cannotPour 24 = .ok (.bipush 8, 2) := by decide +kernel
theorem dX8_cannotPour_26 : decode cX8_cannotPour 26 = .ok (.iload_n 1, 1) := by decide +kernel
theorem dX8_cannotPour_27 : decode cX8_cannotPour 27 = .ok (.iadd, 1) := by decide +kernel
theorem dX8_cannotPour_28 : decode cX8_cannotPour 28 = .ok (.iaload, 1) := by decide +kernel
theorem dX8_cannotPour_29 : decode cX8_cannotPour 29 = .ok (.iload_n 2, 1) := by decide +kernel
theorem dX8_cannotPour_30 : decode cX8_cannotPour 30 = .ok (.iadd, 1) := by decide +kernel
theorem dX8_cannotPour_31 : decode cX8_cannotPour 31 = .ok (.sipush 999, 3) := by decide +kernel
theorem dX8_cannotPour_34 : decode cX8_cannotPour 34 = .ok (.if_icmp .le 7, 3) := by decide +kernel
theorem dX8_cannotPour_37 : decode cX8_cannotPour 37 = .ok (.iconst 2, 1) := by decide +kernel
theorem dX8_cannotPour_38 : decode cX8_cannotPour 38 = .ok (.goto 4, 3) := by decide +kernel
theorem dX8_cannotPour_41 : decode cX8_cannotPour 41 = .ok (.iconst 0, 1) := by decide +kernel
theorem dX8_cannotPour_42 : decode cX8_cannotPour 42 = .ok (.ireturn, 1) := by decide +kernel
theorem dX8_pours_0 : decode cX8_pours 0 = .ok (.aload_n 0, 1) := by decide +kernel
theorem dX8_pours_1 : decode cX8_pours 1 = .ok (.getfield 7, 3) := by decide +kernel
theorem dX8_pours_4 : decode cX8_pours 4 = .ok (.bipush 8, 2) := by decide +kernel
theorem dX8_pours_6 : decode cX8_pours 6 = .ok (.iload_n 1, 1) := by decide +kernel
theorem dX8_pours_7 : decode cX8_pours 7 = .ok (.iadd, 1) := by decide +kernel
theorem dX8_pours_8 : decode cX8_pours 8 = .ok (.dup2, 1) := by decide +kernel
theorem dX8_pours_9 : decode cX8_pours 9 = .ok (.iaload, 1) := by decide +kernel
theorem dX8_pours_10 : decode cX8_pours 10 = .ok (.iload_n 2, 1) := by decide +kernel
theorem dX8_pours_11 : decode cX8_pours 11 = .ok (.iadd, 1) := by decide +kernel
theorem dX8_pours_12 : decode cX8_pours 12 = .ok (.iastore, 1) := by decide +kernel
theorem dX8_pours_13 : decode cX8_pours 13 = .ok (.aload_n 0, 1) := by decide +kernel
theorem dX8_pours_14 : decode cX8_pours 14 = .ok (.getfield 7, 3) := by decide +kernel
theorem dX8_pours_17 : decode cX8_pours 17 = .ok (.bipush 6, 2) := by decide +kernel
theorem dX8_pours_19 : decode cX8_pours 19 = .ok (.dup2, 1) := by decide +kernel
theorem dX8_pours_20 : decode cX8_pours 20 = .ok (.iaload, 1) := by decide +kernel
theorem dX8_pours_21 : decode cX8_pours 21 = .ok (.iload_n 2, 1) := by decide +kernel
theorem dX8_pours_22 : decode cX8_pours 22 = .ok (.iadd, 1) := by decide +kernel
theorem dX8_pours_23 : decode cX8_pours 23 = .ok (.iastore, 1) := by decide +kernel
theorem dX8_pours_24 : decode cX8_pours 24 = .ok (.aload_n 0, 1) := by decide +kernel
theorem dX8_pours_25 : decode cX8_pours 25 = .ok (.getfield 7, 3) := by decide +kernel
theorem dX8_pours_28 : decode cX8_pours 28 = .ok (.bipush 8, 2) := by decide +kernel
theorem dX8_pours_30 : decode cX8_pours 30 = .ok (.iload_n 1, 1) := by decide +kernel
theorem dX8_pours_31 : decode cX8_pours 31 = .ok (.iadd, 1) := by decide +kernel
theorem dX8_pours_32 : decode cX8_pours 32 = .ok (.iaload, 1) := by decide +kernel
theorem dX8_pours_33 : decode cX8_pours 33 = .ok (.ireturn, 1) := by decide +kernel
theorem dX8_addInk_0 : decode cX8_addInk 0 = .ok (.aload_n 0, 1) := by decide +kernel
theorem dX8_addInk_1 : decode cX8_addInk 1 = .ok (.invokevirtual 99, 3) := by decide +kernel
theorem dX8_addInk_4 : decode cX8_addInk 4 = .ok (.aload_n 0, 1) := by decide +kernel
theorem dX8_addInk_5 : decode cX8_addInk 5 = .ok (.iload_n 1, 1) := by decide +kernel
theorem dX8_addInk_6 : decode cX8_addInk 6 = .ok (.iload_n 2, 1) := by decide +kernel
theorem dX8_addInk_7 : decode cX8_addInk 7 = .ok (.invokevirtual 102, 3) := by decide +kernel
theorem dX8_addInk_10 : decode cX8_addInk 10 = .ok (.istore_n 3, 1) := by decide +kernel
theorem dX8_addInk_11 : decode cX8_addInk 11 = .ok (.iload_n 3, 1) := by decide +kernel
theorem dX8_addInk_12 : decode cX8_addInk 12 = .ok (.ifCond .le 11, 3) := by decide +kernel
theorem dX8_addInk_15 : decode cX8_addInk 15 = .ok (.aload_n 0, 1) := by decide +kernel
theorem dX8_addInk_16 : decode cX8_addInk 16 = .ok (.iload_n 3, 1) := by decide +kernel
theorem dX8_addInk_17 : decode cX8_addInk 17 = .ok (.invokevirtual 106, 3) := by decide +kernel
theorem dX8_addInk_20 : decode cX8_addInk 20 = .ok (.goto 13, 3) := by decide +kernel
theorem dX8_addInk_23 : decode cX8_addInk 23 = .ok (.aload_n 0, 1) := by decide +kernel
theorem dX8_addInk_24 : decode cX8_addInk 24 = .ok (.aload_n 0, 1) := by decide +kernel
theorem dX8_addInk_25 : decode cX8_addInk 25 = .ok (.iload_n 1, 1) := by decide +kernel
theorem dX8_addInk_26 : decode cX8_addInk 26 = .ok (.iload_n 2, 1) := by decide +kernel
theorem dX8_addInk_27 : decode cX8_addInk 27 = .ok (.invokevirtual 110, 3) := by decide +kernel
theorem dX8_addInk_30 : decode cX8_addInk 30 = .ok (.invokevirtual 113, 3) := by decide +kernel
theorem dX8_addInk_33 : decode cX8_addInk 33 = .ok (.ireturn, 1) := by decide +kernel
theorem dX8_cannotBuy_0 : decode cX8_cannotBuy 0 = .ok (.iload_n 1, 1) := by decide +kernel
theorem dX8_cannotBuy_1 : decode cX8_cannotBuy 1 = .ok (.iconst 1, 1) := by decide +kernel
theorem dX8_cannotBuy_2 : decode cX8_cannotBuy 2 = .ok (.sipush 999, 3) := by decide +kernel
theorem dX8_cannotBuy_5 : decode cX8_cannotBuy 5 = .ok (.invokestatic 91, 3) := by decide +kernel
theorem dX8_cannotBuy_8 : decode cX8_cannotBuy 8 = .ok (.ifCond .ne 7, 3) := by decide +kernel
theorem dX8_cannotBuy_11 : decode cX8_cannotBuy 11 = .ok (.iconst 1, 1) := by decide +kernel
theorem dX8_cannotBuy_12 : decode cX8_cannotBuy 12 = .ok (.goto 22, 3) := by decide +kernel
theorem dX8_cannotBuy_15 : decode cX8_cannotBuy 15 = .ok (.aload_n 0, 1) := by decide +kernel
theorem dX8_cannotBuy_16 : decode cX8_cannotBuy 16 = .ok (.getfield 7, 3) := by decide +kernel
theorem dX8_cannotBuy_19 : decode cX8_cannotBuy 19 = .ok (.iconst 2, 1) := by decide +kernel
theorem dX8_cannotBuy_20 : decode cX8_cannotBuy 20 = .ok (.iaload, 1) := by decide +kernel
theorem dX8_cannotBuy_21 : decode cX8_cannotBuy 21 = .ok (.iload_n 1, 1) := by decide +kernel
theorem dX8_cannotBuy_22 : decode cX8_cannotBuy 22 = .ok (.iadd, 1) := by decide +kernel
theorem dX8_cannotBuy_23 : decode cX8_cannotBuy 23 = .ok (.sipush 9999, 3) := by decide +kernel
theorem dX8_cannotBuy_26 : decode cX8_cannotBuy 26 = .ok (.if_icmp .le 7, 3) := by decide +kernel
theorem dX8_cannotBuy_29 : decode cX8_cannotBuy 29 = .ok (.iconst 2, 1) := by decide +kernel
theorem dX8_cannotBuy_30 : decode cX8_cannotBuy 30 = .ok (.goto 4, 3) := by decide +kernel
theorem dX8_cannotBuy_33 : decode cX8_cannotBuy 33 = .ok (.iconst 0, 1) := by decide +kernel
theorem dX8_cannotBuy_34 : decode cX8_cannotBuy 34 = .ok (.ireturn, 1) := by decide +kernel
theorem dX8_buys_0 : decode cX8_buys 0 = .ok (.aload_n 0, 1) := by decide +kernel
theorem dX8_buys_1 : decode cX8_buys 1 = .ok (.getfield 7, 3) := by decide +kernel
theorem dX8_buys_4 : decode cX8_buys 4 = .ok (.iconst 2, 1) := by decide +kernel
theorem dX8_buys_5 : decode cX8_buys 5 = .ok (.dup2, 1) := by decide +kernel
theorem dX8_buys_6 : decode cX8_buys 6 = .ok (.iaload, 1) := by decide +kernel
theorem dX8_buys_7 : decode cX8_buys 7 = .ok (.iload_n 1, 1) := by decide +kernel
theorem dX8_buys_8 : decode cX8_buys 8 = .ok (.iadd, 1) := by decide +kernel
theorem dX8_buys_9 : decode cX8_buys 9 = .ok (.iastore, 1) := by decide +kernel
theorem dX8_buys_10 : decode cX8_buys 10 = .ok (.aload_n 0, 1) := by decide +kernel
theorem dX8_buys_11 : decode cX8_buys 11 = .ok (.getfield 7, 3) := by decide +kernel
theorem dX8_buys_14 : decode cX8_buys 14 = .ok (.iconst 2, 1) := by decide +kernel
theorem dX8_buys_15 : decode cX8_buys 15 = .ok (.iaload, 1) := by decide +kernel
theorem dX8_buys_16 : decode cX8_buys 16 = .ok (.ireturn, 1) := by decide +kernel
theorem dX8_addPaper_0 : decode cX8_addPaper 0 = .ok (.aload_n 0, 1) := by decide +kernel
theorem dX8_addPaper_1 : decode cX8_addPaper 1 = .ok (.invokevirtual 99, 3) := by decide +kernel
theorem dX8_addPaper_4 : decode cX8_addPaper 4 = .ok (.aload_n 0, 1) := by decide +kernel
theorem dX8_addPaper_5 : decode cX8_addPaper 5 = .ok (.iload_n 1, 1) := by decide +kernel
theorem dX8_addPaper_6 : decode cX8_addPaper 6 = .ok (.invokevirtual 116, 3) := by decide +kernel
theorem dX8_addPaper_9 : decode cX8_addPaper 9 = .ok (.istore_n 2, 1) := by decide +kernel
theorem dX8_addPaper_10 : decode cX8_addPaper 10 = .ok (.iload_n 2, 1) := by decide +kernel
theorem dX8_addPaper_11 : decode cX8_addPaper 11 = .ok (.ifCond .le 11, 3) := by decide +kernel
theorem dX8_addPaper_14 : decode cX8_addPaper 14 = .ok (.aload_n 0, 1) := by decide +kernel
theorem dX8_addPaper_15 : decode cX8_addPaper 15 = .ok (.iload_n 2, 1) := by decide +kernel
theorem dX8_addPaper_16 : decode cX8_addPaper 16 = .ok (.invokevirtual 106, 3) := by decide +kernel
theorem dX8_addPaper_19 : decode cX8_addPaper 19 = .ok (.goto 12, 3) := by decide +kernel
theorem dX8_addPaper_22 : decode cX8_addPaper 22 = .ok (.aload_n 0, 1) := by decide +kernel
theorem dX8_addPaper_23 : decode cX8_addPaper 23 = .ok (.aload_n 0, 1) := by decide +kernel
theorem dX8_addPaper_24 : decode cX8_addPaper 24 = .ok (.iload_n 1, 1) := by decide +kernel
theorem dX8_addPaper_25 : decode cX8_addPaper 25 = .ok (.invokevirtual 119, 3) := by decide +kernel
theorem dX8_addPaper_28 : decode cX8_addPaper 28 = .ok (.invokevirtual 113, 3) := by decide +kernel
theorem dX8_addPaper_31 : decode cX8_addPaper 31 = .ok (.ireturn, 1) := by decide +kernel
theorem dX8_passes_0 : decode cX8_passes 0 = .ok (.iconst 0, 1) := by decide +kernel
theorem dX8_passes_1 : decode cX8_passes 1 = .ok (.istore_n 2, 1) := by decide +kernel
theorem dX8_passes_2 : decode cX8_passes 2 = .ok (.iconst 0, 1) := by decide +kernel
theorem dX8_passes_3 : decode cX8_passes 3 = .ok (.istore_n 3, 1) := by decide +kernel
theorem dX8_passes_4 : decode cX8_passes 4 = .ok (.iload_n 3, 1) := by decide +kernel
theorem dX8_passes_5 : decode cX8_passes 5 = .ok (.iload_n 1, 1) := by decide +kernel
theorem dX8_passes_6 : decode cX8_passes 6 = .ok (.if_icmp .ge 94, 3) := by decide +kernel
theorem dX8_passes_9 : decode cX8_passes 9 = .ok (.aload_n 0, 1) := by decide +kernel
theorem dX8_passes_10 : decode cX8_passes 10 = .ok (.getfield 7, 3) := by decide +kernel
theorem dX8_passes_13 : decode cX8_passes 13 = .ok (.iconst 3, 1) := by decide +kernel
theorem dX8_passes_14 : decode cX8_passes 14 = .ok (.dup2, 1) := by decide +kernel
theorem dX8_passes_15 : decode cX8_passes 15 = .ok (.iaload, 1) := by decide +kernel
theorem dX8_passes_16 : decode cX8_passes 16 = .ok (.iconst 1, 1) := by decide +kernel
theorem dX8_passes_17 : decode cX8_passes 17 = .ok (.iadd, 1) := by decide +kernel
theorem dX8_passes_18 : decode cX8_passes 18 = .ok (.iastore, 1) := by decide +kernel
theorem dX8_passes_19 : decode cX8_passes 19 = .ok (.iconst 0, 1) := by decide +kernel
theorem dX8_passes_20 : decode cX8_passes 20 = .ok (.istore 4, 2) := by decide +kernel
theorem dX8_passes_22 : decode cX8_passes 22 = .ok (.iload 4, 2) := by decide +kernel
theorem dX8_passes_24 : decode cX8_passes 24 = .ok (.bipush 10, 2) := by decide +kernel
theorem dX8_passes_26 : decode cX8_passes 26 = .ok (.if_icmp .ge 68, 3) := by decide +kernel
theorem dX8_passes_29 : decode cX8_passes 29 = .ok (.aload_n 0, 1) := by decide +kernel
theorem dX8_passes_30 : decode cX8_passes 30 = .ok (.getfield 7, 3) := by decide +kernel
theorem dX8_passes_33 : decode cX8_passes 33 = .ok (.iconst 3, 1) := by decide +kernel
theorem dX8_passes_34 : decode cX8_passes 34 = .ok (.iaload, 1) := by decide +kernel
theorem dX8_passes_35 : decode cX8_passes 35 = .ok (.iload 4, 2) := by decide +kernel
theorem dX8_passes_37 : decode cX8_passes 37 = .ok (.iconst 1, 1) := by decide +kernel
theorem dX8_passes_38 : decode cX8_passes 38 = .ok (.iadd, 1) := by decide +kernel
theorem dX8_passes_39 : decode cX8_passes 39 = .ok (.irem, 1) := by decide +kernel
theorem dX8_passes_40 : decode cX8_passes 40 = .ok (.ifCond .le 6, 3) := by decide +kernel
theorem dX8_passes_43 : decode cX8_passes 43 = .ok (.goto 45, 3) := by decide +kernel
theorem dX8_passes_46 : decode cX8_passes 46 = .ok (.aload_n 0, 1) := by decide +kernel
theorem dX8_passes_47 : decode cX8_passes 47 = .ok (.getfield 7, 3) := by decide +kernel
theorem dX8_passes_50 : decode cX8_passes 50 = .ok (.bipush 8, 2) := by decide +kernel
theorem dX8_passes_52 : decode cX8_passes 52 = .ok (.iload 4, 2) := by decide +kernel
theorem dX8_passes_54 : decode cX8_passes 54 = .ok (.iadd, 1) := by decide +kernel
theorem dX8_passes_55 : decode cX8_passes 55 = .ok (.iaload, 1) := by decide +kernel
theorem dX8_passes_56 : decode cX8_passes 56 = .ok (.iconst 2, 1) := by decide +kernel
theorem dX8_passes_57 : decode cX8_passes 57 = .ok (.idiv, 1) := by decide +kernel
theorem dX8_passes_58 : decode cX8_passes 58 = .ok (.istore 5, 2) := by decide +kernel
theorem dX8_passes_60 : decode cX8_passes 60 = .ok (.iload_n 2, 1) := by decide +kernel
theorem dX8_passes_61 : decode cX8_passes 61 = .ok (.aload_n 0, 1) := by decide +kernel
theorem dX8_passes_62 : decode cX8_passes 62 = .ok (.getfield 7, 3) := by decide +kernel
theorem dX8_passes_65 : decode cX8_passes 65 = .ok (.bipush 8, 2) := by decide +kernel
theorem dX8_passes_67 : decode cX8_passes 67 = .ok (.iload 4, 2) := by decide +kernel
theorem dX8_passes_69 : decode cX8_passes 69 = .ok (.iadd, 1) := by decide +kernel
theorem dX8_passes_70 : decode cX8_passes 70 = .ok (.iaload, 1) := by decide +kernel
theorem dX8_passes_71 : decode cX8_passes 71 = .ok (.iload 5, 2) := by decide +kernel
theorem dX8_passes_73 : decode cX8_passes 73 = .ok (.isub, 1) := by decide +kernel
theorem dX8_passes_74 : decode cX8_passes 74 = .ok (.iadd, 1) := by decide +kernel
theorem dX8_passes_75 : decode cX8_passes 75 = .ok (.istore_n 2, 1) := by decide +kernel
theorem dX8_passes_76 : decode cX8_passes 76 = .ok (.aload_n 0, 1) := by decide +kernel
theorem dX8_passes_77 : decode cX8_passes 77 = .ok (.getfield 7, 3) := by decide +kernel
theorem dX8_passes_80 : decode cX8_passes 80 = .ok (.bipush 8, 2) := by decide +kernel
theorem dX8_passes_82 : decode cX8_passes 82 = .ok (.iload 4, 2) := by decide +kernel
theorem dX8_passes_84 : decode cX8_passes 84 = .ok (.iadd, 1) := by decide +kernel
theorem dX8_passes_85 : decode cX8_passes 85 = .ok (.iload 5, 2) := by decide +kernel
theorem dX8_passes_87 : decode cX8_passes 87 = .ok (.iastore, 1) := by decide +kernel
theorem dX8_passes_88 : decode cX8_passes 88 = .ok (.iinc 4 1, 3) := by decide +kernel
theorem dX8_passes_91 : decode cX8_passes 91 = .ok (.goto (-69), 3) := by decide +kernel
theorem dX8_passes_94 : decode cX8_passes 94 = .ok (.iinc 3 1, 3) := by decide +kernel
theorem dX8_passes_97 : decode cX8_passes 97 = .ok (.goto (-93), 3) := by decide +kernel
theorem dX8_passes_100 : decode cX8_passes 100 = .ok (.aload_n 0, 1) := by decide +kernel
theorem dX8_passes_101 : decode cX8_passes 101 = .ok (.getfield 7, 3) := by decide +kernel
theorem dX8_passes_104 : decode cX8_passes 104 = .ok (.bipush 18, 2) := by decide +kernel
theorem dX8_passes_106 : decode cX8_passes 106 = .ok (.dup2, 1) := by decide +kernel
theorem dX8_passes_107 : decode cX8_passes 107 = .ok (.iaload, 1) := by decide +kernel
theorem dX8_passes_108 : decode cX8_passes 108 = .ok (.iload_n 2, 1) := by decide +kernel
theorem dX8_passes_109 : decode cX8_passes 109 = .ok (.iadd, 1) := by decide +kernel
theorem dX8_passes_110 : decode cX8_passes 110 = .ok (.iastore, 1) := by decide +kernel
theorem dX8_passes_111 : decode cX8_passes 111 = .ok (.iload_n 2, 1) := by decide +kernel
theorem dX8_passes_112 : decode cX8_passes 112 = .ok (.ireturn, 1) := by decide +kernel
theorem dX8_pass_0 : decode cX8_pass 0 = .ok (.aload_n 0, 1) := by decide +kernel
theorem dX8_pass_1 : decode cX8_pass 1 = .ok (.invokevirtual 99, 3) := by decide +kernel
theorem dX8_pass_4 : decode cX8_pass 4 = .ok (.iload_n 1, 1) := by decide +kernel
theorem dX8_pass_5 : decode cX8_pass 5 = .ok (.iconst 1, 1) := by decide +kernel
theorem dX8_pass_6 : decode cX8_pass 6 = .ok (.bipush 48, 2) := by decide +kernel
theorem dX8_pass_8 : decode cX8_pass 8 = .ok (.invokestatic 91, 3) := by decide +kernel
theorem dX8_pass_11 : decode cX8_pass 11 = .ok (.ifCond .eq 15, 3) := by decide +kernel
theorem dX8_pass_14 : decode cX8_pass 14 = .ok (.aload_n 0, 1) := by decide +kernel
theorem dX8_pass_15 : decode cX8_pass 15 = .ok (.aload_n 0, 1) := by decide +kernel
theorem dX8_pass_16 : decode cX8_pass 16 = .ok (.iload_n 1, 1) := by decide +kernel
theorem dX8_pass_17 : decode cX8_pass 17 = .ok (.invokevirtual 122, 3) := by decide +kernel
theorem dX8_pass_20 : decode cX8_pass 20 = .ok (.invokevirtual 113, 3) := by decide +kernel
theorem dX8_pass_23 : decode cX8_pass 23 = .ok (.goto 8, 3) := by decide +kernel
theorem dX8_pass_26 : decode cX8_pass 26 = .ok (.aload_n 0, 1) := by decide +kernel
theorem dX8_pass_27 : decode cX8_pass 27 = .ok (.iconst 1, 1) := by decide +kernel
theorem dX8_pass_28 : decode cX8_pass 28 = .ok (.invokevirtual 106, 3) := by decide +kernel
theorem dX8_pass_31 : decode cX8_pass 31 = .ok (.ireturn, 1) := by decide +kernel
theorem dX8_ink_0 : decode cX8_ink 0 = .ok (.aload_n 0, 1) := by decide +kernel
theorem dX8_ink_1 : decode cX8_ink 1 = .ok (.iload_n 1, 1) := by decide +kernel
theorem dX8_ink_2 : decode cX8_ink 2 = .ok (.invokestatic 95, 3) := by decide +kernel
theorem dX8_ink_5 : decode cX8_ink 5 = .ok (.invokevirtual 125, 3) := by decide +kernel
theorem dX8_ink_8 : decode cX8_ink 8 = .ok (.ifCond .le 7, 3) := by decide +kernel
theorem dX8_ink_11 : decode cX8_ink 11 = .ok (.iconst 0, 1) := by decide +kernel
theorem dX8_ink_12 : decode cX8_ink 12 = .ok (.goto 12, 3) := by decide +kernel
theorem dX8_ink_15 : decode cX8_ink 15 = .ok (.aload_n 0, 1) := by decide +kernel
theorem dX8_ink_16 : decode cX8_ink 16 = .ok (.getfield 7, 3) := by decide +kernel
theorem dX8_ink_19 : decode cX8_ink 19 = .ok (.bipush 8, 2) := by decide +kernel
theorem dX8_ink_21 : decode cX8_ink 21 = .ok (.iload_n 1, 1) := by decide +kernel
theorem dX8_ink_22 : decode cX8_ink 22 = .ok (.iadd, 1) := by decide +kernel
theorem dX8_ink_23 : decode cX8_ink 23 = .ok (.iaload, 1) := by decide +kernel
theorem dX8_ink_24 : decode cX8_ink 24 = .ok (.ireturn, 1) := by decide +kernel
theorem dX8_paper_0 : decode cX8_paper 0 = .ok (.aload_n 0, 1) := by decide +kernel
theorem dX8_paper_1 : decode cX8_paper 1 = .ok (.aload_n 0, 1) := by decide +kernel
theorem dX8_paper_2 : decode cX8_paper 2 = .ok (.getfield 7, 3) := by decide +kernel
theorem dX8_paper_5 : decode cX8_paper 5 = .ok (.iconst 2, 1) := by decide +kernel
theorem dX8_paper_6 : decode cX8_paper 6 = .ok (.iaload, 1) := by decide +kernel
theorem dX8_paper_7 : decode cX8_paper 7 = .ok (.invokevirtual 129, 3) := by decide +kernel
theorem dX8_paper_10 : decode cX8_paper 10 = .ok (.ireturn, 1) := by decide +kernel
theorem dX8_hour_0 : decode cX8_hour 0 = .ok (.aload_n 0, 1) := by decide +kernel
theorem dX8_hour_1 : decode cX8_hour 1 = .ok (.aload_n 0, 1) := by decide +kernel
theorem dX8_hour_2 : decode cX8_hour 2 = .ok (.getfield 7, 3) := by decide +kernel
theorem dX8_hour_5 : decode cX8_hour 5 = .ok (.iconst 3, 1) := by decide +kernel
theorem dX8_hour_6 : decode cX8_hour 6 = .ok (.iaload, 1) := by decide +kernel
theorem dX8_hour_7 : decode cX8_hour 7 = .ok (.invokevirtual 129, 3) := by decide +kernel
theorem dX8_hour_10 : decode cX8_hour 10 = .ok (.ireturn, 1) := by decide +kernel
theorem dX8_leftAfter_0 : decode cX8_leftAfter 0 = .ok (.aload_n 0, 1) := by decide +kernel
theorem dX8_leftAfter_1 : decode cX8_leftAfter 1 = .ok (.getfield 7, 3) := by decide +kernel
theorem dX8_leftAfter_4 : decode cX8_leftAfter 4 = .ok (.bipush 8, 2) := by decide +kernel
theorem dX8_leftAfter_6 : decode cX8_leftAfter 6 = .ok (.iload_n 1, 1) := by decide +kernel
theorem dX8_leftAfter_7 : decode cX8_leftAfter 7 = .ok (.iadd, 1) := by decide +kernel
theorem dX8_leftAfter_8 : decode cX8_leftAfter 8 = .ok (.iaload, 1) := by decide +kernel
theorem dX8_leftAfter_9 : decode cX8_leftAfter 9 = .ok (.istore_n 3, 1) := by decide +kernel
theorem dX8_leftAfter_10 : decode cX8_leftAfter 10 = .ok (.iconst 1, 1) := by decide +kernel
theorem dX8_leftAfter_11 : decode cX8_leftAfter 11 = .ok (.istore 4, 2) := by decide +kernel
theorem dX8_leftAfter_13 : decode cX8_leftAfter 13 = .ok (.iload 4, 2) := by decide +kernel
theorem dX8_leftAfter_15 : decode cX8_leftAfter 15 = .ok (.iload_n 2, 1) := by decide +kernel
theorem dX8_leftAfter_16 : decode cX8_leftAfter 16 = .ok (.if_icmp .gt 33, 3) := by decide +kernel
theorem dX8_leftAfter_19 : decode cX8_leftAfter 19 = .ok (.aload_n 0, 1) := by decide +kernel
theorem dX8_leftAfter_20 : decode cX8_leftAfter 20 = .ok (.getfield 7, 3) := by decide +kernel
theorem dX8_leftAfter_23 : decode cX8_leftAfter 23 = .ok (.iconst 3, 1) := by decide +kernel
theorem dX8_leftAfter_24 : decode cX8_leftAfter 24 = .ok (.iaload, 1) := by decide +kernel
theorem dX8_leftAfter_25 : decode cX8_leftAfter 25 = .ok (.iload 4, 2) := by decide +kernel
theorem dX8_leftAfter_27 : decode cX8_leftAfter 27 = .ok (.iadd, 1) := by decide +kernel
theorem dX8_leftAfter_28 : decode cX8_leftAfter 28 = .ok (.iload_n 1, 1) := by decide +kernel
theorem dX8_leftAfter_29 : decode cX8_leftAfter 29 = .ok (.iconst 1, 1) := by decide +kernel
theorem dX8_leftAfter_30 : decode cX8_leftAfter 30 = .ok (.iadd, 1) := by decide +kernel
theorem dX8_leftAfter_31 : decode cX8_leftAfter 31 = .ok (.irem, 1) := by decide +kernel
theorem dX8_leftAfter_32 : decode cX8_leftAfter 32 = .ok (.ifCond .ne 9, 3) := by decide +kernel
theorem dX8_leftAfter_35 : decode cX8_leftAfter 35 = .ok (.iload_n 3, 1) := by decide +kernel
theorem dX8_leftAfter_36 : decode cX8_leftAfter 36 = .ok (.iconst 2, 1) := by decide +kernel
theorem dX8_leftAfter_37 : decode cX8_leftAfter 37 = .ok (.idiv, 1) := by decide +kernel
theorem dX8_leftAfter_38 : decode cX8_leftAfter 38 = .ok (.goto 4, 3) := by decide +kernel
theorem dX8_leftAfter_41 : decode cX8_leftAfter 41 = .ok (.iload_n 3, 1) := by decide +kernel
theorem dX8_leftAfter_42 : decode cX8_leftAfter 42 = .ok (.istore_n 3, 1) := by decide +kernel
theorem dX8_leftAfter_43 : decode cX8_leftAfter 43 = .ok (.iinc 4 1, 3) := by decide +kernel
theorem dX8_leftAfter_46 : decode cX8_leftAfter 46 = .ok (.goto (-33), 3) := by decide +kernel
theorem dX8_leftAfter_49 : decode cX8_leftAfter 49 = .ok (.iload_n 3, 1) := by decide +kernel
theorem dX8_leftAfter_50 : decode cX8_leftAfter 50 = .ok (.ireturn, 1) := by decide +kernel
theorem dX8_after_0 : decode cX8_after 0 = .ok (.aload_n 0, 1) := by decide +kernel
theorem dX8_after_1 : decode cX8_after 1 = .ok (.iload_n 1, 1) := by decide +kernel
theorem dX8_after_2 : decode cX8_after 2 = .ok (.invokestatic 95, 3) := by decide +kernel
theorem dX8_after_5 : decode cX8_after 5 = .ok (.ifCond .eq 17, 3) := by decide +kernel
theorem dX8_after_8 : decode cX8_after 8 = .ok (.iload_n 2, 1) := by decide +kernel
theorem dX8_after_9 : decode cX8_after 9 = .ok (.iconst 0, 1) := by decide +kernel
theorem dX8_after_10 : decode cX8_after 10 = .ok (.bipush 99, 2) := by decide +kernel
theorem dX8_after_12 : decode cX8_after 12 = .ok (.invokestatic 91, 3) := by decide +kernel
theorem dX8_after_15 : decode cX8_after 15 = .ok (.ifCond .eq 7, 3) := by decide +kernel
theorem dX8_after_18 : decode cX8_after 18 = .ok (.iconst 1, 1) := by decide +kernel
theorem dX8_after_19 : decode cX8_after 19 = .ok (.goto 4, 3) := by decide +kernel
theorem dX8_after_22 : decode cX8_after 22 = .ok (.iconst 0, 1) := by decide +kernel
theorem dX8_after_23 : decode cX8_after 23 = .ok (.invokevirtual 125, 3) := by decide +kernel
theorem dX8_after_26 : decode cX8_after 26 = .ok (.ifCond .le 7, 3) := by decide +kernel
theorem dX8_after_29 : decode cX8_after 29 = .ok (.iconst 0, 1) := by decide +kernel
theorem dX8_after_30 : decode cX8_after 30 = .ok (.goto 9, 3) := by decide +kernel
theorem dX8_after_33 : decode cX8_after 33 = .ok (.aload_n 0, 1) := by decide +kernel
theorem dX8_after_34 : decode cX8_after 34 = .ok (.iload_n 1, 1) := by decide +kernel
theorem dX8_after_35 : decode cX8_after 35 = .ok (.iload_n 2, 1) := by decide +kernel
theorem dX8_after_36 : decode cX8_after 36 = .ok (.invokevirtual 132, 3) := by decide +kernel
theorem dX8_after_39 : decode cX8_after 39 = .ok (.ireturn, 1) := by decide +kernel
theorem dX8_inkAfter_0 : decode cX8_inkAfter 0 = .ok (.aload_n 0, 1) := by decide +kernel
theorem dX8_inkAfter_1 : decode cX8_inkAfter 1 = .ok (.iload_n 1, 1) := by decide +kernel
theorem dX8_inkAfter_2 : decode cX8_inkAfter 2 = .ok (.iload_n 2, 1) := by decide +kernel
theorem dX8_inkAfter_3 : decode cX8_inkAfter 3 = .ok (.invokevirtual 135, 3) := by decide +kernel
theorem dX8_inkAfter_6 : decode cX8_inkAfter 6 = .ok (.ireturn, 1) := by decide +kernel
theorem dX8_inkByHalvings_0 : decode cX8_inkByHalvings 0 = .ok (.aload_n 0, 1) := by decide +kernel
theorem dX8_inkByHalvings_1 : decode cX8_inkByHalvings 1 = .ok (.iload_n 1, 1) := by decide +kernel
theorem dX8_inkByHalvings_2 : decode cX8_inkByHalvings 2 = .ok (.iload_n 2, 1) := by decide +kernel
theorem dX8_inkByHalvings_3 : decode cX8_inkByHalvings 3 = .ok (.invokevirtual 135, 3) := by decide +kernel
theorem dX8_inkByHalvings_6 : decode cX8_inkByHalvings 6 = .ok (.ireturn, 1) := by decide +kernel
theorem dX8_hoursUntilLess_0 : decode cX8_hoursUntilLess 0 = .ok (.aload_n 0, 1) := by decide +kernel
theorem dX8_hoursUntilLess_1 : decode cX8_hoursUntilLess 1 = .ok (.iload_n 1, 1) := by decide +kernel
theorem dX8_hoursUntilLess_2 : decode cX8_hoursUntilLess 2 = .ok (.invokestatic 95, 3) := by decide +kernel
theorem dX8_hoursUntilLess_5 : decode cX8_hoursUntilLess 5 = .ok (.ifCond .eq 18, 3) := by decide +kernel
theorem dX8_hoursUntilLess_8 : decode cX8_hoursUntilLess 8 = .ok (.iload_n 2, 1) := by decide +kernel
theorem dX8_hoursUntilLess_9 : decode cX8_hoursUntilLess 9 = .ok (.iconst 1, 1) := by decide +kernel
theorem dX8_hoursUntilLess_10 : decode cX8_hoursUntilLess 10 = .ok (.sipush 999, 3) := by decide +kernel
theorem dX8_hoursUntilLess_13 : decode cX8_hoursUntilLess 13 = .ok (.invokestatic 91, 3) := by decide +kernel
theorem dX8_hoursUntilLess_16 : decode cX8_hoursUntilLess 16 = .ok (.ifCond .eq 7, 3) := by decide +kernel
theorem dX8_hoursUntilLess_19 : decode cX8_hoursUntilLess 19 = .ok (.iconst 1, 1) := by decide +kernel
theorem dX8_hoursUntilLess_20 : decode cX8_hoursUntilLess 20 = .ok (.goto 4, 3) := by decide +kernel
theorem dX8_hoursUntilLess_23 : decode cX8_hoursUntilLess 23 = .ok (.iconst 0, 1) := by decide +kernel
theorem dX8_hoursUntilLess_24 : decode cX8_hoursUntilLess 24 = .ok (.invokevirtual 125, 3) := by decide +kernel
theorem dX8_hoursUntilLess_27 : decode cX8_hoursUntilLess 27 = .ok (.ifCond .le 5, 3) := by decide +kernel
theorem dX8_hoursUntilLess_30 : decode cX8_hoursUntilLess 30 = .ok (.iconst 0, 1) := by decide +kernel
theorem dX8_hoursUntilLess_31 : decode cX8_hoursUntilLess 31 = .ok (.ireturn, 1) := by decide +kernel
theorem dX8_hoursUntilLess_32 : decode cX8_hoursUntilLess 32 = .ok (.iconst 0, 1) := by decide +kernel
theorem dX8_hoursUntilLess_33 : decode cX8_hoursUntilLess 33 = .ok (.istore_n 3, 1) := by decide +kernel
theorem dX8_hoursUntilLess_34 : decode cX8_hoursUntilLess 34 = .ok (.aload_n 0, 1) := by decide +kernel
theorem dX8_hoursUntilLess_35 : decode cX8_hoursUntilLess 35 = .ok (.iload_n 1, 1) := by decide +kernel
theorem dX8_hoursUntilLess_36 : decode cX8_hoursUntilLess 36 = .ok (.iload_n 3, 1) := by decide +kernel
theorem dX8_hoursUntilLess_37 : decode cX8_hoursUntilLess 37 = .ok (.invokevirtual 132, 3) := by decide +kernel
theorem dX8_hoursUntilLess_40 : decode cX8_hoursUntilLess 40 = .ok (.iload_n 2, 1) := by decide +kernel
theorem dX8_hoursUntilLess_41 : decode cX8_hoursUntilLess 41 = .ok (.if_icmp .lt 9, 3) := by decide +kernel
theorem dX8_hoursUntilLess_44 : decode cX8_hoursUntilLess 44 = .ok (.iinc 3 1, 3) := by decide +kernel
theorem dX8_hoursUntilLess_47 : decode cX8_hoursUntilLess 47 = .ok (.goto (-13), 3) := by decide +kernel
theorem dX8_hoursUntilLess_50 : decode cX8_hoursUntilLess 50 = .ok (.iload_n 3, 1) := by decide +kernel
theorem dX8_hoursUntilLess_51 : decode cX8_hoursUntilLess 51 = .ok (.ireturn, 1) := by decide +kernel
theorem dX8_e_0 : decode cX8_e 0 = .ok (.aload_n 0, 1) := by decide +kernel
theorem dX8_e_1 : decode cX8_e 1 = .ok (.getfield 7, 3) := by decide +kernel
theorem dX8_e_4 : decode cX8_e 4 = .ok (.bipush 20, 2) := by decide +kernel
theorem dX8_e_6 : decode cX8_e 6 = .ok (.iconst 4, 1) := by decide +kernel
theorem dX8_e_7 : decode cX8_e 7 = .ok (.iload_n 1, 1) := by decide +kernel
theorem dX8_e_8 : decode cX8_e 8 = .ok (.imul, 1) := by decide +kernel
theorem dX8_e_9 : decode cX8_e 9 = .ok (.iadd, 1) := by decide +kernel
theorem dX8_e_10 : decode cX8_e 10 = .ok (.iload_n 2, 1) := by decide +kernel
theorem dX8_e_11 : decode cX8_e 11 = .ok (.iadd, 1) := by decide +kernel
theorem dX8_e_12 : decode cX8_e 12 = .ok (.iaload, 1) := by decide +kernel
theorem dX8_e_13 : decode cX8_e 13 = .ok (.ireturn, 1) := by decide +kernel
theorem dX8_isEdition_0 : decode cX8_isEdition 0 = .ok (.iload_n 1, 1) := by decide +kernel
theorem dX8_isEdition_1 : decode cX8_isEdition 1 = .ok (.iconst 0, 1) := by decide +kernel
theorem dX8_isEdition_2 : decode cX8_isEdition 2 = .ok (.aload_n 0, 1) := by decide +kernel
theorem dX8_isEdition_3 : decode cX8_isEdition 3 = .ok (.getfield 7, 3) := by decide +kernel
theorem dX8_isEdition_6 : decode cX8_isEdition 6 = .ok (.iconst 0, 1) := by decide +kernel
theorem dX8_isEdition_7 : decode cX8_isEdition 7 = .ok (.iaload, 1) := by decide +kernel
theorem dX8_isEdition_8 : decode cX8_isEdition 8 = .ok (.iconst 1, 1) := by decide +kernel
theorem dX8_isEdition_9 : decode cX8_isEdition 9 = .ok (.isub, 1) := by decide +kernel
theorem dX8_isEdition_10 : decode cX8_isEdition 10 = .ok (.invokestatic 91, 3) := by decide +kernel
theorem dX8_isEdition_13 : decode cX8_isEdition 13 = .ok (.ireturn, 1) := by decide +kernel
theorem dX8_missing_0 : decode cX8_missing 0 = .ok (.aload_n 0, 1) := by decide +kernel
theorem dX8_missing_1 : decode cX8_missing 1 = .ok (.iload_n 1, 1) := by decide +kernel
theorem dX8_missing_2 : decode cX8_missing 2 = .ok (.iconst 1, 1) := by decide +kernel
theorem dX8_missing_3 : decode cX8_missing 3 = .ok (.invokevirtual 138, 3) := by decide +kernel
theorem dX8_missing_6 : decode cX8_missing 6 = .ok (.aload_n 0, 1) := by decide +kernel
theorem dX8_missing_7 : decode cX8_missing 7 = .ok (.iload_n 1, 1) := by decide +kernel
theorem dX8_missing_8 : decode cX8_missing 8 = .ok (.iconst 2, 1) := by decide +kernel
theorem dX8_missing_9 : decode cX8_missing 9 = .ok (.invokevirtual 138, 3) := by decide +kernel
theorem dX8_missing_12 : decode cX8_missing 12 = .ok (.isub, 1) := by decide +kernel
theorem dX8_missing_13 : decode cX8_missing 13 = .ok (.ireturn, 1) := by decide +kernel
theorem dX8_cannotAdd_0 : decode cX8_cannotAdd 0 = .ok (.iload_n 1, 1) := by decide +kernel
theorem dX8_cannotAdd_1 : decode cX8_cannotAdd 1 = .ok (.invokestatic 95, 3) := by decide +kernel
theorem dX8_cannotAdd_4 : decode cX8_cannotAdd 4 = .ok (.ifCond .eq 13, 3) := by decide +kernel
theorem dX8_cannotAdd_7 : decode cX8_cannotAdd 7 = .ok (.iload_n 2, 1) := by decide +kernel
theorem dX8_cannotAdd_8 : decode cX8_cannotAdd 8 = .ok (.iconst 1, 1) := by decide +kernel
theorem dX8_cannotAdd_9 : decode cX8_cannotAdd 9 = .ok (.bipush 50, 2) := by decide +kernel
theorem dX8_cannotAdd_11 : decode cX8_cannotAdd 11 = .ok (.invokestatic 91, 3) := by decide +kernel
theorem dX8_cannotAdd_14 : decode cX8_cannotAdd 14 = .ok (.ifCond .ne 7, 3) := by decide +kernel
theorem dX8_cannotAdd_17 : decode cX8_cannotAdd 17 = .ok (.iconst 1, 1) := by decide +kernel
theorem dX8_cannotAdd_18 : decode cX8_cannotAdd 18 = .ok (.goto 19, 3) := by decide +kernel
theorem dX8_cannotAdd_21 : decode cX8_cannotAdd 21 = .ok (.aload_n 0, 1) := by decide +kernel
theorem dX8_cannotAdd_22 : decode cX8_cannotAdd 22 = .ok (.getfield 7, 3) := by decide +kernel
theorem dX8_cannotAdd_25 : decode cX8_cannotAdd 25 = .ok (.iconst 0, 1) := by decide +kernel
theorem dX8_cannotAdd_26 : decode cX8_cannotAdd 26 = .ok (.iaload, 1) := by decide +kernel
theorem dX8_cannotAdd_27 : decode cX8_cannotAdd 27 = .ok (.bipush 7, 2) := by decide +kernel
theorem dX8_cannotAdd_29 : decode cX8_cannotAdd 29 = .ok (.if_icmp .ne 7, 3) := by decide +kernel
theorem dX8_cannotAdd_32 : decode cX8_cannotAdd 32 = .ok (.iconst 2, 1) := by decide +kernel
theorem dX8_cannotAdd_33 : decode cX8_cannotAdd 33 = .ok (.goto 4, 3) := by decide +kernel
theorem dX8_cannotAdd_36 : decode cX8_cannotAdd 36 = .ok (.iconst 0, 1) := by decide +kernel
theorem dX8_cannotAdd_37 : decode cX8_cannotAdd 37 = .ok (.ireturn, 1) := by decide +kernel
theorem dX8_adds_0 : decode cX8_adds 0 = .ok (.bipush 20, 2) := by decide +kernel
theorem dX8_adds_2 : decode cX8_adds 2 = .ok (.iconst 4, 1) := by decide +kernel
theorem dX8_adds_3 : decode cX8_adds 3 = .ok (.aload_n 0, 1) := by decide +kernel
theorem dX8_adds_4 : decode cX8_adds 4 = .ok (.getfield 7, 3) := by decide +kernel
theorem dX8_adds_7 : decode cX8_adds 7 = .ok (.iconst 0, 1) := by decide +kernel
theorem dX8_adds_8 : decode cX8_adds 8 = .ok (.iaload, 1) := by decide +kernel
theorem dX8_adds_9 : decode cX8_adds 9 = .ok (.imul, 1) := by decide +kernel
theorem dX8_adds_10 : decode cX8_adds 10 = .ok (.iadd, 1) := by decide +kernel
theorem dX8_adds_11 : decode cX8_adds 11 = .ok (.istore_n 3, 1) := by decide +kernel
theorem dX8_adds_12 : decode cX8_adds 12 = .ok (.aload_n 0, 1) := by decide +kernel
theorem dX8_adds_13 : decode cX8_adds 13 = .ok (.getfield 7, 3) := by decide +kernel
theorem dX8_adds_16 : decode cX8_adds 16 = .ok (.iload_n 3, 1) := by decide +kernel
theorem dX8_adds_17 : decode cX8_adds 17 = .ok (.iconst 0, 1) := by decide +kernel
theorem dX8_adds_18 : decode cX8_adds 18 = .ok (.iadd, 1) := by decide +kernel
theorem dX8_adds_19 : decode cX8_adds 19 = .ok (.iload_n 1, 1) := by decide +kernel
theorem dX8_adds_20 : decode cX8_adds 20 = .ok (.iastore, 1) := by decide +kernel
theorem dX8_adds_21 : decode cX8_adds 21 = .ok (.aload_n 0, 1) := by decide +kernel
theorem dX8_adds_22 : decode cX8_adds 22 = .ok (.getfield 7, 3) := by decide +kernel
theorem dX8_adds_25 : decode cX8_adds 25 = .ok (.iload_n 3, 1) := by decide +kernel
theorem dX8_adds_26 : decode cX8_adds 26 = .ok (.iconst 1, 1) := by decide +kernel
theorem dX8_adds_27 : decode cX8_adds 27 = .ok (.iadd, 1) := by decide +kernel
theorem dX8_adds_28 : decode cX8_adds 28 = .ok (.iload_n 2, 1) := by decide +kernel
theorem dX8_adds_29 : decode cX8_adds 29 = .ok (.iastore, 1) := by decide +kernel
theorem dX8_adds_30 : decode cX8_adds 30 = .ok (.aload_n 0, 1) := by decide +kernel
theorem dX8_adds_31 : decode cX8_adds 31 = .ok (.getfield 7, 3) := by decide +kernel
theorem dX8_adds_34 : decode cX8_adds 34 = .ok (.iload_n 3, 1) := by decide +kernel
theorem dX8_adds_35 : decode cX8_adds 35 = .ok (.iconst 2, 1) := by decide +kernel
theorem dX8_adds_36 : decode cX8_adds 36 = .ok (.iadd, 1) := by decide +kernel
theorem dX8_adds_37 : decode cX8_adds 37 = .ok (.iconst 0, 1) := by decide +kernel
theorem dX8_adds_38 : decode cX8_adds 38 = .ok (.iastore, 1) := by decide +kernel
theorem dX8_adds_39 : decode cX8_adds 39 = .ok (.aload_n 0, 1) := by decide +kernel
theorem dX8_adds_40 : decode cX8_adds 40 = .ok (.getfield 7, 3) := by decide +kernel
theorem dX8_adds_43 : decode cX8_adds 43 = .ok (.iconst 0, 1) := by decide +kernel
theorem dX8_adds_44 : decode cX8_adds 44 = .ok (.dup2, 1) := by decide +kernel
theorem dX8_adds_45 : decode cX8_adds 45 = .ok (.iaload, 1) := by decide +kernel
theorem dX8_adds_46 : decode cX8_adds 46 = .ok (.iconst 1, 1) := by decide +kernel
theorem dX8_adds_47 : decode cX8_adds 47 = .ok (.iadd, 1) := by decide +kernel
theorem dX8_adds_48 : decode cX8_adds 48 = .ok (.iastore, 1) := by decide +kernel
theorem dX8_adds_49 : decode cX8_adds 49 = .ok (.aload_n 0, 1) := by decide +kernel
theorem dX8_adds_50 : decode cX8_adds 50 = .ok (.getfield 7, 3) := by decide +kernel
theorem dX8_adds_53 : decode cX8_adds 53 = .ok (.iconst 0, 1) := by decide +kernel
theorem dX8_adds_54 : decode cX8_adds 54 = .ok (.iaload, 1) := by decide +kernel
theorem dX8_adds_55 : decode cX8_adds 55 = .ok (.iconst 1, 1) := by decide +kernel
theorem dX8_adds_56 : decode cX8_adds 56 = .ok (.isub, 1) := by decide +kernel
theorem dX8_adds_57 : decode cX8_adds 57 = .ok (.ireturn, 1) := by decide +kernel
theorem dX8_addEdition_0 : decode cX8_addEdition 0 = .ok (.aload_n 0, 1) := by decide +kernel
theorem dX8_addEdition_1 : decode cX8_addEdition 1 = .ok (.invokevirtual 99, 3) := by decide +kernel
theorem dX8_addEdition_4 : decode cX8_addEdition 4 = .ok (.aload_n 0, 1) := by decide +kernel
theorem dX8_addEdition_5 : decode cX8_addEdition 5 = .ok (.iload_n 1, 1) := by decide +kernel
theorem dX8_addEdition_6 : decode cX8_addEdition 6 = .ok (.iload_n 2, 1) := by decide +kernel
theorem dX8_addEdition_7 : decode cX8_addEdition 7 = .ok (.invokevirtual 141, 3) := by decide +kernel
theorem dX8_addEdition_10 : decode cX8_addEdition 10 = .ok (.istore_n 3, 1) := by decide +kernel
theorem dX8_addEdition_11 : decode cX8_addEdition 11 = .ok (.iload_n 3, 1) := by decide +kernel
theorem dX8_addEdition_12 : decode cX8_addEdition 12 = .ok (.ifCond .le 11, 3) := by decide +kernel
theorem dX8_addEdition_15 : decode cX8_addEdition 15 = .ok (.aload_n 0, 1) := by decide +kernel
theorem dX8_addEdition_16 : decode cX8_addEdition 16 = .ok (.iload_n 3, 1) := by decide +kernel
theorem dX8_addEdition_17 : decode cX8_addEdition 17 = .ok (.invokevirtual 106, 3) := by decide +kernel
theorem dX8_addEdition_20 : decode cX8_addEdition 20 = .ok (.goto 13, 3) := by decide +kernel
theorem dX8_addEdition_23 : decode cX8_addEdition 23 = .ok (.aload_n 0, 1) := by decide +kernel
theorem dX8_addEdition_24 : decode cX8_addEdition 24 = .ok (.aload_n 0, 1) := by decide +kernel
theorem dX8_addEdition_25 : decode cX8_addEdition 25 = .ok (.iload_n 1, 1) := by decide +kernel
theorem dX8_addEdition_26 : decode cX8_addEdition 26 = .ok (.iload_n 2, 1) := by decide +kernel
theorem dX8_addEdition_27 : decode cX8_addEdition 27 = .ok (.invokevirtual 144, 3) := by decide +kernel
theorem dX8_addEdition_30 : decode cX8_addEdition 30 = .ok (.invokevirtual 113, 3) := by decide +kernel
theorem dX8_addEdition_33 : decode cX8_addEdition 33 = .ok (.ireturn, 1) := by decide +kernel
theorem dX8_removes_0 : decode cX8_removes 0 = .ok (.aload_n 0, 1) := by decide +kernel
theorem dX8_removes_1 : decode cX8_removes 1 = .ok (.getfield 7, 3) := by decide +kernel
theorem dX8_removes_4 : decode cX8_removes 4 = .ok (.iconst 0, 1) := by decide +kernel
theorem dX8_removes_5 : decode cX8_removes 5 = .ok (.dup2, 1) := by decide +kernel
theorem dX8_removes_6 : decode cX8_removes 6 = .ok (.iaload, 1) := by decide +kernel
theorem dX8_removes_7 : decode cX8_removes 7 = .ok (.iconst 1, 1) := by decide +kernel
theorem dX8_removes_8 : decode cX8_removes 8 = .ok (.isub, 1) := by decide +kernel
theorem dX8_removes_9 : decode cX8_removes 9 = .ok (.iastore, 1) := by decide +kernel
theorem dX8_removes_10 : decode cX8_removes 10 = .ok (.bipush 20, 2) := by decide +kernel
theorem dX8_removes_12 : decode cX8_removes 12 = .ok (.iconst 4, 1) := by decide +kernel
theorem dX8_removes_13 : decode cX8_removes 13 = .ok (.iload_n 1, 1) := by decide +kernel
theorem dX8_removes_14 : decode cX8_removes 14 = .ok (.imul, 1) := by decide +kernel
theorem dX8_removes_15 : decode cX8_removes 15 = .ok (.iadd, 1) := by decide +kernel
theorem dX8_removes_16 : decode cX8_removes 16 = .ok (.istore_n 2, 1) := by decide +kernel
theorem dX8_removes_17 : decode cX8_removes 17 = .ok (.iload_n 2, 1) := by decide +kernel
theorem dX8_removes_18 : decode cX8_removes 18 = .ok (.bipush 20, 2) := by decide +kernel
theorem dX8_removes_20 : decode cX8_removes 20 = .ok (.iconst 4, 1) := by decide +kernel
theorem dX8_removes_21 : decode cX8_removes 21 = .ok (.aload_n 0, 1) := by decide +kernel
theorem dX8_removes_22 : decode cX8_removes 22 = .ok (.getfield 7, 3) := by decide +kernel
theorem dX8_removes_25 : decode cX8_removes 25 = .ok (.iconst 0, 1) := by decide +kernel
theorem dX8_removes_26 : decode cX8_removes 26 = .ok (.iaload, 1) := by decide +kernel
theorem dX8_removes_27 : decode cX8_removes 27 = .ok (.imul, 1) := by decide +kernel
theorem dX8_removes_28 : decode cX8_removes 28 = .ok (.iadd, 1) := by decide +kernel
theorem dX8_removes_29 : decode cX8_removes 29 = .ok (.if_icmp .ge 23, 3) := by decide +kernel
theorem dX8_removes_32 : decode cX8_removes 32 = .ok (.aload_n 0, 1) := by decide +kernel
theorem dX8_removes_33 : decode cX8_removes 33 = .ok (.getfield 7, 3) := by decide +kernel
theorem dX8_removes_36 : decode cX8_removes 36 = .ok (.iload_n 2, 1) := by decide +kernel
theorem dX8_removes_37 : decode cX8_removes 37 = .ok (.aload_n 0, 1) := by decide +kernel
theorem dX8_removes_38 : decode cX8_removes 38 = .ok (.getfield 7, 3) := by decide +kernel
theorem dX8_removes_41 : decode cX8_removes 41 = .ok (.iload_n 2, 1) := by decide +kernel
theorem dX8_removes_42 : decode cX8_removes 42 = .ok (.iconst 4, 1) := by decide +kernel
theorem dX8_removes_43 : decode cX8_removes 43 = .ok (.iadd, 1) := by decide +kernel
theorem dX8_removes_44 : decode cX8_removes 44 = .ok (.iaload, 1) := by decide +kernel
theorem dX8_removes_45 : decode cX8_removes 45 = .ok (.iastore, 1) := by decide +kernel
theorem dX8_removes_46 : decode cX8_removes 46 = .ok (.iinc 2 1, 3) := by decide +kernel
theorem dX8_removes_49 : decode cX8_removes 49 = .ok (.goto (-32), 3) := by decide +kernel
theorem dX8_removes_52 : decode cX8_removes 52 = .ok (.aload_n 0, 1) := by decide +kernel
theorem dX8_removes_53 : decode cX8_removes 53 = .ok (.getfield 7, 3) := by decide +kernel
theorem dX8_removes_56 : decode cX8_removes 56 = .ok (.iconst 0, 1) := by decide +kernel
theorem dX8_removes_57 : decode cX8_removes 57 = .ok (.iaload, 1) := by decide +kernel
theorem dX8_removes_58 : decode cX8_removes 58 = .ok (.ireturn, 1) := by decide +kernel
theorem dX8_removeEdition_0 : decode cX8_removeEdition 0 = .ok (.aload_n 0, 1) := by decide +kernel
theorem dX8_removeEdition_1 : decode cX8_removeEdition 1 = .ok (.invokevirtual 99, 3) := by decide +kernel
theorem dX8_removeEdition_4 : decode cX8_removeEdition 4 = .ok (.aload_n 0, 1) := by decide +kernel
theorem dX8_removeEdition_5 : decode cX8_removeEdition 5 = .ok (.iload_n 1, 1) := by decide +kernel
theorem dX8_removeEdition_6 : decode cX8_removeEdition 6 = .ok (.invokevirtual 147, 3) := by decide +kernel
theorem dX8_removeEdition_9 : decode cX8_removeEdition 9 = .ok (.ifCond .eq 15, 3) := by decide +kernel
theorem dX8_removeEdition_12 : decode cX8_removeEdition 12 = .ok (.aload_n 0, 1) := by decide +kernel
theorem dX8_removeEdition_13 : decode cX8_removeEdition 13 = .ok (.aload_n 0, 1) := by decide +kernel
theorem dX8_removeEdition_14 : decode cX8_removeEdition 14 = .ok (.iload_n 1, 1) := by decide +kernel
theorem dX8_removeEdition_15 : decode cX8_removeEdition 15 = .ok (.invokevirtual 150, 3) := by decide +kernel
theorem dX8_removeEdition_18 : decode cX8_removeEdition 18 = .ok (.invokevirtual 113, 3) := by decide +kernel
theorem dX8_removeEdition_21 : decode cX8_removeEdition 21 = .ok (.goto 8, 3) := by decide +kernel
theorem dX8_removeEdition_24 : decode cX8_removeEdition 24 = .ok (.aload_n 0, 1) := by decide +kernel
theorem dX8_removeEdition_25 : decode cX8_removeEdition 25 = .ok (.iconst 1, 1) := by decide +kernel
theorem dX8_removeEdition_26 : decode cX8_removeEdition 26 = .ok (.invokevirtual 106, 3) := by decide +kernel
theorem dX8_removeEdition_29 : decode cX8_removeEdition 29 = .ok (.ireturn, 1) := by decide +kernel
theorem dX8_change_0 : decode cX8_change 0 = .ok (.iload_n 1, 1) := by decide +kernel
theorem dX8_change_1 : decode cX8_change 1 = .ok (.iload_n 0, 1) := by decide +kernel
theorem dX8_change_2 : decode cX8_change 2 = .ok (.if_icmp .lt 9, 3) := by decide +kernel
theorem dX8_change_5 : decode cX8_change 5 = .ok (.iload_n 1, 1) := by decide +kernel
theorem dX8_change_6 : decode cX8_change 6 = .ok (.iload_n 0, 1) := by decide +kernel
theorem dX8_change_7 : decode cX8_change 7 = .ok (.isub, 1) := by decide +kernel
theorem dX8_change_8 : decode cX8_change 8 = .ok (.goto 10, 3) := by decide +kernel
theorem dX8_change_11 : decode cX8_change 11 = .ok (.iconst 2, 1) := by decide +kernel
theorem dX8_change_12 : decode cX8_change 12 = .ok (.iload_n 0, 1) := by decide +kernel
theorem dX8_change_13 : decode cX8_change 13 = .ok (.iload_n 1, 1) := by decide +kernel
theorem dX8_change_14 : decode cX8_change 14 = .ok (.isub, 1) := by decide +kernel
theorem dX8_change_15 : decode cX8_change 15 = .ok (.imul, 1) := by decide +kernel
theorem dX8_change_16 : decode cX8_change 16 = .ok (.iconst 1, 1) := by decide +kernel
theorem dX8_change_17 : decode cX8_change 17 = .ok (.iadd, 1) := by decide +kernel
theorem dX8_change_18 : decode cX8_change 18 = .ok (.ireturn, 1) := by decide +kernel
theorem dX8_ofWell_0 : decode cX8_ofWell 0 = .ok (.aload_n 0, 1) := by decide +kernel
theorem dX8_ofWell_1 : decode cX8_ofWell 1 = .ok (.getfield 7, 3) := by decide +kernel
theorem dX8_ofWell_4 : decode cX8_ofWell 4 = .ok (.bipush 8, 2) := by decide +kernel
theorem dX8_ofWell_6 : decode cX8_ofWell 6 = .ok (.aload_n 0, 1) := by decide +kernel
theorem dX8_ofWell_7 : decode cX8_ofWell 7 = .ok (.iload_n 1, 1) := by decide +kernel
theorem dX8_ofWell_8 : decode cX8_ofWell 8 = .ok (.iconst 0, 1) := by decide +kernel
theorem dX8_ofWell_9 : decode cX8_ofWell 9 = .ok (.invokevirtual 138, 3) := by decide +kernel
theorem dX8_ofWell_12 : decode cX8_ofWell 12 = .ok (.iadd, 1) := by decide +kernel
theorem dX8_ofWell_13 : decode cX8_ofWell 13 = .ok (.iaload, 1) := by decide +kernel
theorem dX8_ofWell_14 : decode cX8_ofWell 14 = .ok (.ireturn, 1) := by decide +kernel
theorem dX8_prints_0 : decode cX8_prints 0 = .ok (.aload_n 0, 1) := by decide +kernel
theorem dX8_prints_1 : decode cX8_prints 1 = .ok (.iload_n 1, 1) := by decide +kernel
theorem dX8_prints_2 : decode cX8_prints 2 = .ok (.iconst 0, 1) := by decide +kernel
theorem dX8_prints_3 : decode cX8_prints 3 = .ok (.invokevirtual 138, 3) := by decide +kernel
theorem dX8_prints_6 : decode cX8_prints 6 = .ok (.istore_n 3, 1) := by decide +kernel
theorem dX8_prints_7 : decode cX8_prints 7 = .ok (.aload_n 0, 1) := by decide +kernel
theorem dX8_prints_8 : decode cX8_prints 8 = .ok (.getfield 7, 3) := by decide +kernel
theorem dX8_prints_11 : decode cX8_prints 11 = .ok (.iconst 5, 1) := by decide +kernel
theorem dX8_prints_12 : decode cX8_prints 12 = .ok (.dup2, 1) := by decide +kernel
theorem dX8_prints_13 : decode cX8_prints 13 = .ok (.iaload, 1) := by decide +kernel
theorem dX8_prints_14 : decode cX8_prints 14 = .ok (.aload_n 0, 1) := by decide +kernel
theorem dX8_prints_15 : decode cX8_prints 15 = .ok (.getfield 7, 3) := by decide +kernel
theorem dX8_prints_18 : decode cX8_prints 18 = .ok (.iconst 4, 1) := by decide +kernel
theorem dX8_prints_19 : decode cX8_prints 19 = .ok (.iaload, 1) := by decide +kernel
theorem dX8_prints_20 : decode cX8_prints 20 = .ok (.iload_n 3, 1) := by decide +kernel
theorem dX8_prints_21 : decode cX8_prints 21 = .ok (.invokestatic 153, 3) := by decide +kernel
theorem dX8_prints_24 : decode cX8_prints 24 = .ok (.iload_n 2, 1) := by decide +kernel
theorem dX8_prints_25 : decode cX8_prints 25 = .ok (.iadd, 1) := by decide +kernel
theorem dX8_prints_26 : decode cX8_prints 26 = .ok (.iadd, 1) := by decide +kernel
theorem dX8_prints_27 : decode cX8_prints 27 = .ok (.iastore, 1) := by decide +kernel
theorem dX8_prints_28 : decode cX8_prints 28 = .ok (.aload_n 0, 1) := by decide +kernel
theorem dX8_prints_29 : decode cX8_prints 29 = .ok (.getfield 7, 3) := by decide +kernel
theorem dX8_prints_32 : decode cX8_prints 32 = .ok (.iconst 4, 1) := by decide +kernel
theorem dX8_prints_33 : decode cX8_prints 33 = .ok (.iload_n 3, 1) := by decide +kernel
theorem dX8_prints_34 : decode cX8_prints 34 = .ok (.iastore, 1) := by decide +kernel
theorem dX8_prints_35 : decode cX8_prints 35 = .ok (.aload_n 0, 1) := by decide +kernel
theorem dX8_prints_36 : decode cX8_prints 36 = .ok (.getfield 7, 3) := by decide +kernel
theorem dX8_prints_39 : decode cX8_prints 39 = .ok (.iconst 2, 1) := by decide +kernel
theorem dX8_prints_40 : decode cX8_prints 40 = .ok (.dup2, 1) := by decide +kernel
theorem dX8_prints_41 : decode cX8_prints 41 = .ok (.iaload, 1) := by decide +kernel
theorem dX8_prints_42 : decode cX8_prints 42 = .ok (.iload_n 2, 1) := by decide +kernel
theorem dX8_prints_43 : decode cX8_prints 43 = .ok (.isub, 1) := by decide +kernel
theorem dX8_prints_44 : decode cX8_prints 44 = .ok (.iastore, 1) := by decide +kernel
theorem dX8_prints_45 : decode cX8_prints 45 = .ok (.aload_n 0, 1) := by decide +kernel
theorem dX8_prints_46 : decode cX8_prints 46 = .ok (.getfield 7, 3) := by decide +kernel
theorem dX8_prints_49 : decode cX8_prints 49 = .ok (.bipush 8, 2) := by decide +kernel
theorem dX8_prints_51 : decode cX8_prints 51 = .ok (.iload_n 3, 1) := by decide +kernel
theorem dX8_prints_52 : decode cX8_prints 52 = .ok (.iadd, 1) := by decide +kernel
theorem dX8_prints_53 : decode cX8_prints 53 = .ok (.dup2, 1) := by decide +kernel
theorem dX8_prints_54 : decode cX8_prints 54 = .ok (.iaload, 1) := by decide +kernel
theorem dX8_prints_55 : decode cX8_prints 55 = .ok (.iload_n 2, 1) := by decide +kernel
theorem dX8_prints_56 : decode cX8_prints 56 = .ok (.isub, 1) := by decide +kernel
theorem dX8_prints_57 : decode cX8_prints 57 = .ok (.iastore, 1) := by decide +kernel
theorem dX8_prints_58 : decode cX8_prints 58 = .ok (.aload_n 0, 1) := by decide +kernel
theorem dX8_prints_59 : decode cX8_prints 59 = .ok (.getfield 7, 3) := by decide +kernel
theorem dX8_prints_62 : decode cX8_prints 62 = .ok (.bipush 7, 2) := by decide +kernel
theorem dX8_prints_64 : decode cX8_prints 64 = .ok (.dup2, 1) := by decide +kernel
theorem dX8_prints_65 : decode cX8_prints 65 = .ok (.iaload, 1) := by decide +kernel
theorem dX8_prints_66 : decode cX8_prints 66 = .ok (.iload_n 2, 1) := by decide +kernel
theorem dX8_prints_67 : decode cX8_prints 67 = .ok (.iadd, 1) := by decide +kernel
theorem dX8_prints_68 : decode cX8_prints 68 = .ok (.iastore, 1) := by decide +kernel
theorem dX8_prints_69 : decode cX8_prints 69 = .ok (.aload_n 0, 1) := by decide +kernel
theorem dX8_prints_70 : decode cX8_prints 70 = .ok (.getfield 7, 3) := by decide +kernel
theorem dX8_prints_73 : decode cX8_prints 73 = .ok (.bipush 20, 2) := by decide +kernel
theorem dX8_prints_75 : decode cX8_prints 75 = .ok (.iconst 4, 1) := by decide +kernel
theorem dX8_prints_76 : decode cX8_prints 76 = .ok (.iload_n 1, 1) := by decide +kernel
theorem dX8_prints_77 : decode cX8_prints 77 = .ok (.imul, 1) := by decide +kernel
theorem dX8_prints_78 : decode cX8_prints 78 = .ok (.iadd, 1) := by decide +kernel
theorem dX8_prints_79 : decode cX8_prints 79 = .ok (.iconst 2, 1) := by decide +kernel
theorem dX8_prints_80 : decode cX8_prints 80 = .ok (.iadd, 1) := by decide +kernel
theorem dX8_prints_81 : decode cX8_prints 81 = .ok (.dup2, 1) := by decide +kernel
theorem dX8_prints_82 : decode cX8_prints 82 = .ok (.iaload, 1) := by decide +kernel
theorem dX8_prints_83 : decode cX8_prints 83 = .ok (.iload_n 2, 1) := by decide +kernel
theorem dX8_prints_84 : decode cX8_prints 84 = .ok (.iadd, 1) := by decide +kernel
theorem dX8_prints_85 : decode cX8_prints 85 = .ok (.iastore, 1) := by decide +kernel
theorem dX8_prints_86 : decode cX8_prints 86 = .ok (.iload_n 2, 1) := by decide +kernel
theorem dX8_prints_87 : decode cX8_prints 87 = .ok (.ireturn, 1) := by decide +kernel
theorem dX8_cannotPrint_0 : decode cX8_cannotPrint 0 = .ok (.aload_n 0, 1) := by decide +kernel
theorem dX8_cannotPrint_1 : decode cX8_cannotPrint 1 = .ok (.iload_n 1, 1) := by decide +kernel
theorem dX8_cannotPrint_2 : decode cX8_cannotPrint 2 = .ok (.invokevirtual 147, 3) := by decide +kernel
theorem dX8_cannotPrint_5 : decode cX8_cannotPrint 5 = .ok (.ifCond .ne 5, 3) := by decide +kernel
theorem dX8_cannotPrint_8 : decode cX8_cannotPrint 8 = .ok (.iconst 1, 1) := by decide +kernel
theorem dX8_cannotPrint_9 : decode cX8_cannotPrint 9 = .ok (.ireturn, 1) := by decide +kernel
theorem dX8_cannotPrint_10 : decode cX8_cannotPrint 10 = .ok (.aload_n 0, 1) := by decide +kernel
theorem dX8_cannotPrint_11 : decode cX8_cannotPrint 11 = .ok (.iload_n 1, 1) := by decide +kernel
theorem dX8_cannotPrint_12 : decode cX8_cannotPrint 12 = .ok (.invokevirtual 156, 3) := by decide +kernel
theorem dX8_cannotPrint_15 : decode cX8_cannotPrint 15 = .ok (.ifCond .ne 7, 3) := by decide +kernel
theorem dX8_cannotPrint_18 : decode cX8_cannotPrint 18 = .ok (.iconst 2, 1) := by decide +kernel
theorem dX8_cannotPrint_19 : decode cX8_cannotPrint 19 = .ok (.goto 25, 3) := by decide +kernel
theorem dX8_cannotPrint_22 : decode cX8_cannotPrint 22 = .ok (.aload_n 0, 1) := by decide +kernel
theorem dX8_cannotPrint_23 : decode cX8_cannotPrint 23 = .ok (.getfield 7, 3) := by decide +kernel
theorem dX8_cannotPrint_26 : decode cX8_cannotPrint 26 = .ok (.iconst 2, 1) := by decide +kernel
theorem dX8_cannotPrint_27 : decode cX8_cannotPrint 27 = .ok (.iaload, 1) := by decide +kernel
theorem dX8_cannotPrint_28 : decode cX8_cannotPrint 28 = .ok (.ifCond .eq 11, 3) := by decide +kernel
theorem dX8_cannotPrint_31 : decode cX8_cannotPrint 31 = .ok (.aload_n 0, 1) := by decide +kernel
theorem dX8_cannotPrint_32 : decode cX8_cannotPrint 32 = .ok (.iload_n 1, 1) := by decide +kernel
theorem dX8_cannotPrint_33 : decode cX8_cannotPrint 33 = .ok (.invokevirtual 159, 3) := by decide +kernel
theorem dX8_cannotPrint_36 : decode cX8_cannotPrint 36 = .ok (.ifCond .ne 7, 3) := by decide +kernel
theorem dX8_cannotPrint_39 : decode cX8_cannotPrint 39 = .ok (.iconst 3, 1) := by decide +kernel
theorem dX8_cannotPrint_40 : decode cX8_cannotPrint 40 = .ok (.goto 4, 3) := by decide +kernel
theorem dX8_cannotPrint_43 : decode cX8_cannotPrint 43 = .ok (.iconst 0, 1) := by decide +kernel
theorem dX8_cannotPrint_44 : decode cX8_cannotPrint 44 = .ok (.ireturn, 1) := by decide +kernel
theorem dX8_printsOne_0 : decode cX8_printsOne 0 = .ok (.aload_n 0, 1) := by decide +kernel
theorem dX8_printsOne_1 : decode cX8_printsOne 1 = .ok (.iload_n 1, 1) := by decide +kernel
theorem dX8_printsOne_2 : decode cX8_printsOne 2 = .ok (.aload_n 0, 1) := by decide +kernel
theorem dX8_printsOne_3 : decode cX8_printsOne 3 = .ok (.iload_n 1, 1) := by decide +kernel
theorem dX8_printsOne_4 : decode cX8_printsOne 4 = .ok (.invokevirtual 156, 3) := by decide +kernel
theorem dX8_printsOne_7 : decode cX8_printsOne 7 = .ok (.aload_n 0, 1) := by decide +kernel
theorem dX8_printsOne_8 : decode cX8_printsOne 8 = .ok (.getfield 7, 3) := by decide +kernel
theorem dX8_printsOne_11 : decode cX8_printsOne 11 = .ok (.iconst 2, 1) := by decide +kernel
theorem dX8_printsOne_12 : decode cX8_printsOne 12 = .ok (.iaload, 1) := by decide +kernel
theorem dX8_printsOne_13 : decode cX8_printsOne 13 = .ok (.aload_n 0, 1) := by decide +kernel
theorem dX8_printsOne_14 : decode cX8_printsOne 14 = .ok (.iload_n 1, 1) := by decide +kernel
theorem dX8_printsOne_15 : decode cX8_printsOne 15 = .ok (.invokevirtual 159, 3) := by decide +kernel
theorem dX8_printsOne_18 : decode cX8_printsOne 18 = .ok (.invokestatic 162, 3) := by decide +kernel
theorem dX8_printsOne_21 : decode cX8_printsOne 21 = .ok (.invokestatic 162, 3) := by decide +kernel
theorem dX8_printsOne_24 : decode cX8_printsOne 24 = .ok (.invokevirtual 165, 3) := by decide +kernel
theorem dX8_printsOne_27 : decode cX8_printsOne 27 = .ok (.ireturn, 1) := by decide +kernel
theorem dX8_print_0 : decode cX8_print 0 = .ok (.aload_n 0, 1) := by decide +kernel
theorem dX8_print_1 : decode cX8_print 1 = .ok (.invokevirtual 99, 3) := by decide +kernel
theorem dX8_print_4 : decode cX8_print 4 = .ok (.aload_n 0, 1) := by decide +kernel
theorem dX8_print_5 : decode cX8_print 5 = .ok (.iload_n 1, 1) := by decide +kernel
theorem dX8_print_6 : decode cX8_print 6 = .ok (.invokevirtual 168, 3) := by decide +kernel
theorem dX8_print_9 : decode cX8_print 9 = .ok (.istore_n 2, 1) := by decide +kernel
theorem dX8_print_10 : decode cX8_print 10 = .ok (.iload_n 2, 1) := by decide +kernel
theorem dX8_print_11 : decode cX8_print 11 = .ok (.ifCond .le 11, 3) := by decide +kernel
theorem dX8_print_14 : decode cX8_print 14 = .ok (.aload_n 0, 1) := by decide +kernel
theorem dX8_print_15 : decode cX8_print 15 = .ok (.iload_n 2, 1) := by decide +kernel
theorem dX8_print_16 : decode cX8_print 16 = .ok (.invokevirtual 106, 3) := by decide +kernel
theorem dX8_print_19 : decode cX8_print 19 = .ok (.goto 12, 3) := by decide +kernel
theorem dX8_print_22 : decode cX8_print 22 = .ok (.aload_n 0, 1) := by decide +kernel
theorem dX8_print_23 : decode cX8_print 23 = .ok (.aload_n 0, 1) := by decide +kernel
theorem dX8_print_24 : decode cX8_print 24 = .ok (.iload_n 1, 1) := by decide +kernel
theorem dX8_print_25 : decode cX8_print 25 = .ok (.invokevirtual 171, 3) := by decide +kernel
theorem dX8_print_28 : decode cX8_print 28 = .ok (.invokevirtual 113, 3) := by decide +kernel
theorem dX8_print_31 : decode cX8_print 31 = .ok (.ireturn, 1) := by decide +kernel
theorem dX8_open_0 : decode cX8_open 0 = .ok (.iconst 0, 1) := by decide +kernel
theorem dX8_open_1 : decode cX8_open 1 = .ok (.istore_n 1, 1) := by decide +kernel
theorem dX8_open_2 : decode cX8_open 2 = .ok (.iconst 0, 1) := by decide +kernel
theorem dX8_open_3 : decode cX8_open 3 = .ok (.istore_n 2, 1) := by decide +kernel
theorem dX8_open_4 : decode cX8_open 4 = .ok (.iload_n 2, 1) := by decide +kernel
theorem dX8_open_5 : decode cX8_open 5 = .ok (.aload_n 0, 1) := by decide +kernel
theorem dX8_open_6 : decode cX8_open 6 = .ok (.getfield 7, 3) := by decide +kernel
theorem dX8_open_9 : decode cX8_open 9 = .ok (.iconst 0, 1) := by decide +kernel
theorem dX8_open_10 : decode cX8_open 10 = .ok (.iaload, 1) := by decide +kernel
theorem dX8_open_11 : decode cX8_open 11 = .ok (.if_icmp .ge 27, 3) := by decide +kernel
theorem dX8_open_14 : decode cX8_open 14 = .ok (.iload_n 1, 1) := by decide +kernel
theorem dX8_open_15 : decode cX8_open 15 = .ok (.aload_n 0, 1) := by decide +kernel
theorem dX8_open_16 : decode cX8_open 16 = .ok (.iload_n 2, 1) := by decide +kernel
theorem dX8_open_17 : decode cX8_open 17 = .ok (.invokevirtual 156, 3) := by decide +kernel
theorem dX8_open_20 : decode cX8_open 20 = .ok (.ifCond .le 9, 3) := by decide +kernel
theorem dX8_open_23 : decode cX8_open 23 = .ok (.iconst 1, 1) := by decide +kernel
theorem dX8_open_24 : decode cX8_open 24 = .ok (.iload_n 2, 1) := by decide +kernel
theorem dX8_open_25 : decode cX8_open 25 = .ok (.ishl, 1) := by decide +kernel
theorem dX8_open_26 : decode cX8_open 26 = .ok (.goto 4, 3) := by decide +kernel
theorem dX8_open_29 : decode cX8_open 29 = .ok (.iconst 0, 1) := by decide +kernel
theorem dX8_open_30 : decode cX8_open 30 = .ok (.ior, 1) := by decide +kernel
theorem dX8_open_31 : decode cX8_open 31 = .ok (.istore_n 1, 1) := by decide +kernel
theorem dX8_open_32 : decode cX8_open 32 = .ok (.iinc 2 1, 3) := by decide +kernel
theorem dX8_open_35 : decode cX8_open 35 = .ok (.goto (-31), 3) := by decide +kernel
theorem dX8_open_38 : decode cX8_open 38 = .ok (.iload_n 1, 1) := by decide +kernel
theorem dX8_open_39 : decode cX8_open 39 = .ok (.ireturn, 1) := by decide +kernel
theorem dX8_changeTo_0 : decode cX8_changeTo 0 = .ok (.iload_n 1, 1) := by decide +kernel
theorem dX8_changeTo_1 : decode cX8_changeTo 1 = .ok (.bipush 7, 2) := by decide +kernel
theorem dX8_changeTo_3 : decode cX8_changeTo 3 = .ok (.if_icmp .ne 12, 3) := by decide +kernel
theorem dX8_changeTo_6 : decode cX8_changeTo 6 = .ok (.aload_n 0, 1) := by decide +kernel
theorem dX8_changeTo_7 : decode cX8_changeTo 7 = .ok (.getfield 7, 3) := by decide +kernel
theorem dX8_changeTo_10 : decode cX8_changeTo 10 = .ok (.iconst 4, 1) := by decide +kernel
theorem dX8_changeTo_11 : decode cX8_changeTo 11 = .ok (.iaload, 1) := by decide +kernel
theorem dX8_changeTo_12 : decode cX8_changeTo 12 = .ok (.goto 9, 3) := by decide +kernel
theorem dX8_changeTo_15 : decode cX8_changeTo 15 = .ok (.aload_n 0, 1) := by decide +kernel
theorem dX8_changeTo_16 : decode cX8_changeTo 16 = .ok (.iload_n 1, 1) := by decide +kernel
theorem dX8_changeTo_17 : decode cX8_changeTo 17 = .ok (.iconst 0, 1) := by decide +kernel
theorem dX8_changeTo_18 : decode cX8_changeTo 18 = .ok (.invokevirtual 138, 3) := by decide +kernel
theorem dX8_changeTo_21 : decode cX8_changeTo 21 = .ok (.aload_n 0, 1) := by decide +kernel
theorem dX8_changeTo_22 : decode cX8_changeTo 22 = .ok (.iload_n 2, 1) := by decide +kernel
theorem dX8_changeTo_23 : decode cX8_changeTo 23 = .ok (.iconst 0, 1) := by decide +kernel
theorem dX8_changeTo_24 : decode cX8_changeTo 24 = .ok (.invokevirtual 138, 3) := by decide +kernel
theorem dX8_changeTo_27 : decode cX8_changeTo 27 = .ok (.invokestatic 153, 3) := by decide +kernel
theorem dX8_changeTo_30 : decode cX8_changeTo 30 = .ok (.ireturn, 1) := by decide +kernel
theorem dX8_with_0 : decode cX8_with 0 = .ok (.aload_n 0, 1) := by decide +kernel
theorem dX8_with_1 : decode cX8_with 1 = .ok (.iload_n 2, 1) := by decide +kernel
theorem dX8_with_2 : decode cX8_with 2 = .ok (.iload_n 3, 1) := by decide +kernel
theorem dX8_with_3 : decode cX8_with 3 = .ok (.invokevirtual 174, 3) := by decide +kernel
theorem dX8_with_6 : decode cX8_with 6 = .ok (.aload_n 0, 1) := by decide +kernel
theorem dX8_with_7 : decode cX8_with 7 = .ok (.getfield 22, 3) := by decide +kernel
theorem dX8_with_10 : decode cX8_with 10 = .ok (.sipush 128, 3) := by decide +kernel
theorem dX8_with_13 : decode cX8_with 13 = .ok (.iload_n 3, 1) := by decide +kernel
theorem dX8_with_14 : decode cX8_with 14 = .ok (.imul, 1) := by decide +kernel
theorem dX8_with_15 : decode cX8_with 15 = .ok (.iload_n 1, 1) := by decide +kernel
theorem dX8_with_16 : decode cX8_with 16 = .ok (.iconst 1, 1) := by decide +kernel
theorem dX8_with_17 : decode cX8_with 17 = .ok (.iload_n 3, 1) := by decide +kernel
theorem dX8_with_18 : decode cX8_with 18 = .ok (.ishl, 1) := by decide +kernel
theorem dX8_with_19 : decode cX8_with 19 = .ok (.iconst (-1), 1) := by decide +kernel
theorem dX8_with_20 : decode cX8_with 20 = .ok (.ixor, 1) := by decide +kernel
theorem dX8_with_21 : decode cX8_with 21 = .ok (.iand, 1) := by decide +kernel
theorem dX8_with_22 : decode cX8_with 22 = .ok (.iadd, 1) := by decide +kernel
theorem dX8_with_23 : decode cX8_with 23 = .ok (.iaload, 1) := by decide +kernel
theorem dX8_with_24 : decode cX8_with 24 = .ok (.iadd, 1) := by decide +kernel
theorem dX8_with_25 : decode cX8_with 25 = .ok (.ireturn, 1) := by decide +kernel
theorem dX8_lay_0 : decode cX8_lay 0 = .ok (.iconst 0, 1) := by decide +kernel
theorem dX8_lay_1 : decode cX8_lay 1 = .ok (.istore_n 1, 1) := by decide +kernel
theorem dX8_lay_2 : decode cX8_lay 2 = .ok (.iload_n 1, 1) := by decide +kernel
theorem dX8_lay_3 : decode cX8_lay 3 = .ok (.iconst 1, 1) := by decide +kernel
theorem dX8_lay_4 : decode cX8_lay 4 = .ok (.aload_n 0, 1) := by decide +kernel
theorem dX8_lay_5 : decode cX8_lay 5 = .ok (.getfield 7, 3) := by decide +kernel
theorem dX8_lay_8 : decode cX8_lay 8 = .ok (.iconst 0, 1) := by decide +kernel
theorem dX8_lay_9 : decode cX8_lay 9 = .ok (.iaload, 1) := by decide +kernel
theorem dX8_lay_10 : decode cX8_lay 10 = .ok (.ishl, 1) := by decide +kernel
theorem dX8_lay_11 : decode cX8_lay 11 = .ok (.if_icmp .ge 113, 3) := by decide +kernel
theorem dX8_lay_14 : decode cX8_lay 14 = .ok (.iconst 0, 1) := by decide +kernel
theorem dX8_lay_15 : decode cX8_lay 15 = .ok (.istore_n 2, 1) := by decide +kernel
theorem dX8_lay_16 : decode cX8_lay 16 = .ok (.iload_n 2, 1) := by decide +kernel
theorem dX8_lay_17 : decode cX8_lay 17 = .ok (.bipush 7, 2) := by decide +kernel
theorem dX8_lay_19 : decode cX8_lay 19 = .ok (.if_icmp .gt 99, 3) := by decide +kernel
theorem dX8_lay_22 : decode cX8_lay 22 = .ok (.iload_n 2, 1) := by decide +kernel
theorem dX8_lay_23 : decode cX8_lay 23 = .ok (.bipush 7, 2) := by decide +kernel
theorem dX8_lay_25 : decode cX8_lay 25 = .ok (.if_icmp .ge 16, 3) := by decide +kernel
theorem dX8_lay_28 : decode cX8_lay 28 = .ok (.iload_n 2, 1) := by decide +kernel
theorem dX8_lay_29 : decode cX8_lay 29 = .ok (.aload_n 0, 1) := by decide +kernel
theorem dX8_lay_30 : decode cX8_lay 30 = .ok (.getfield 7, 3) := by decide +kernel
theorem dX8_lay_33 : decode cX8_lay 33 = .ok (.iconst 0, 1) := by decide +kernel
theorem dX8_lay_34 : decode cX8_lay 34 = .ok (.iaload, 1) := by decide +kernel
theorem dX8_lay_35 : decode cX8_lay 35 = .ok (.if_icmp .lt 6, 3) := by decide +kernel
theorem dX8_lay_38 : decode cX8_lay 38 = .ok (.goto 74, 3) := by decide +kernel
theorem dX8_lay_41 : decode cX8_lay 41 = .ok (.iload_n 1, 1) := by decide +kernel
theorem dX8_lay_42 : decode cX8_lay 42 = .ok (.ifCond .ne 7, 3) := by decide +kernel
theorem dX8_lay_45 : decode cX8_lay 45 = .ok (.iconst 0, 1) := by decide +kernel
theorem dX8_lay_46 : decode cX8_lay 46 = .ok (.goto 5, 3) := by decide +kernel
theorem dX8_lay_49 : decode cX8_lay 49 = .ok (.ldc 177, 2) := by decide +kernel
theorem dX8_lay_51 : decode cX8_lay 51 = .ok (.istore_n 3, 1) := by decide +kernel
theorem dX8_lay_52 : decode cX8_lay 52 = .ok (.iconst 0, 1) := by decide +kernel
theorem dX8_lay_53 : decode cX8_lay 53 = .ok (.istore 4, 2) := by decide +kernel
theorem dX8_lay_55 : decode cX8_lay 55 = .ok (.iload 4, 2) := by decide +kernel
theorem dX8_lay_57 : decode cX8_lay 57 = .ok (.aload_n 0, 1) := by decide +kernel
theorem dX8_lay_58 : decode cX8_lay 58 = .ok (.getfield 7, 3) := by decide +kernel
theorem dX8_lay_61 : decode cX8_lay 61 = .ok (.iconst 0, 1) := by decide +kernel
theorem dX8_lay_62 : decode cX8_lay 62 = .ok (.iaload, 1) := by decide +kernel
theorem dX8_lay_63 : decode cX8_lay 63 = .ok (.if_icmp .ge 36, 3) := by decide +kernel
theorem dX8_lay_66 : decode cX8_lay 66 = .ok (.iload_n 1, 1) := by decide +kernel
theorem dX8_lay_67 : decode cX8_lay 67 = .ok (.iload 4, 2) := by decide +kernel
theorem dX8_lay_69 : decode cX8_lay 69 = .ok (.ishr, 1) := by decide +kernel
theorem dX8_lay_70 : decode cX8_lay 70 = .ok (.iconst 1, 1) := by decide +kernel
theorem dX8_lay_71 : decode cX8_lay 71 = .ok (.iand, 1) := by decide +kernel
theorem dX8_lay_72 : decode cX8_lay 72 = .ok (.iconst 1, 1) := by decide +kernel
theorem dX8_lay_73 : decode cX8_lay 73 = .ok (.if_icmp .ne 18, 3) := by decide +kernel
theorem dX8_lay_76 : decode cX8_lay 76 = .ok (.iload_n 3, 1) := by decide +kernel
theorem dX8_lay_77 : decode cX8_lay 77 = .ok (.aload_n 0, 1) := by decide +kernel
theorem dX8_lay_78 : decode cX8_lay 78 = .ok (.iload_n 1, 1) := by decide +kernel
theorem dX8_lay_79 : decode cX8_lay 79 = .ok (.iload_n 2, 1) := by decide +kernel
theorem dX8_lay_80 : decode cX8_lay 80 = .ok (.iload 4, 2) := by decide +kernel
theorem dX8_lay_82 : decode cX8_lay 82 = .ok (.invokevirtual 178, 3) := by decide +kernel
theorem dX8_lay_85 : decode cX8_lay 85 = .ok (.invokestatic 162, 3) := by decide +kernel
theorem dX8_lay_88 : decode cX8_lay 88 = .ok (.goto 4, 3) := by decide +kernel
theorem dX8_lay_91 : decode cX8_lay 91 = .ok (.iload_n 3, 1) := by decide +kernel
theorem dX8_lay_92 : decode cX8_lay 92 = .ok (.istore_n 3, 1) := by decide +kernel
theorem dX8_lay_93 : decode cX8_lay 93 = .ok (.iinc 4 1, 3) := by decide +kernel
theorem dX8_lay_96 : decode cX8_lay 96 = .ok (.goto (-41), 3) := by decide +kernel
theorem dX8_lay_99 : decode cX8_lay 99 = .ok (.aload_n 0, 1) := by decide +kernel
theorem dX8_lay_100 : decode cX8_lay 100 = .ok (.getfield 22, 3) := by decide +kernel
theorem dX8_lay_103 : decode cX8_lay 103 = .ok (.sipush 128, 3) := by decide +kernel
theorem dX8_lay_106 : decode cX8_lay 106 = .ok (.iload_n 2, 1) := by decide +kernel
theorem dX8_lay_107 : decode cX8_lay 107 = .ok (.imul, 1) := by decide +kernel
theorem dX8_lay_108 : decode cX8_lay 108 = .ok (.iload_n 1, 1) := by decide +kernel
theorem dX8_lay_109 : decode cX8_lay 109 = .ok (.iadd, 1) := by decide +kernel
theorem dX8_lay_110 : decode cX8_lay 110 = .ok (.iload_n 3, 1) := by decide +kernel
theorem dX8_lay_111 : decode cX8_lay 111 = .ok (.iastore, 1) := by decide +kernel
theorem dX8_lay_112 : decode cX8_lay 112 = .ok (.iinc 2 1, 3) := by decide +kernel
theorem dX8_lay_115 : decode cX8_lay 115 = .ok (.goto (-99), 3) := by decide +kernel
theorem dX8_lay_118 : decode cX8_lay 118 = .ok (.iinc 1 1, 3) := by decide +kernel
theorem dX8_lay_121 : decode cX8_lay 121 = .ok (.goto (-119), 3) := by decide +kernel
theorem dX8_lay_124 : decode cX8_lay 124 = .ok (.return_, 1) := by decide +kernel
theorem dX8_laysOrder_0 : decode cX8_laysOrder 0 = .ok (.aload_n 0, 1) := by decide +kernel
theorem dX8_laysOrder_1 : decode cX8_laysOrder 1 = .ok (.invokevirtual 182, 3) := by decide +kernel
theorem dX8_laysOrder_4 : decode cX8_laysOrder 4 = .ok (.aload_n 0, 1) := by decide +kernel
theorem dX8_laysOrder_5 : decode cX8_laysOrder 5 = .ok (.invokevirtual 185, 3) := by decide +kernel
theorem dX8_laysOrder_8 : decode cX8_laysOrder 8 = .ok (.istore_n 1, 1) := by decide +kernel
theorem dX8_laysOrder_9 : decode cX8_laysOrder 9 = .ok (.bipush 7, 2) := by decide +kernel
theorem dX8_laysOrder_11 : decode cX8_laysOrder 11 = .ok (.istore_n 2, 1) := by decide +kernel
theorem dX8_laysOrder_12 : decode cX8_laysOrder 12 = .ok (.iconst 0, 1) := by decide +kernel
theorem dX8_laysOrder_13 : decode cX8_laysOrder 13 = .ok (.istore_n 3, 1) := by decide +kernel
theorem dX8_laysOrder_14 : decode cX8_laysOrder 14 = .ok (.iload_n 1, 1) := by decide +kernel
theorem dX8_laysOrder_15 : decode cX8_laysOrder 15 = .ok (.ifCond .eq 70, 3) := by decide +kernel
theorem dX8_laysOrder_18 : decode cX8_laysOrder 18 = .ok (.iconst 0, 1) := by decide +kernel
theorem dX8_laysOrder_19 : decode cX8_laysOrder 19 = .ok (.istore 4, 2) := by decide +kernel
theorem dX8_laysOrder_21 : decode cX8_laysOrder 21 = .ok (.iload_n 1, 1) := by decide +kernel
theorem dX8_laysOrder_22 : decode cX8_laysOrder 22 = .ok (.iload 4, 2) := by decide +kernel
theorem dX8_laysOrder_24 : decode cX8_laysOrder 24 = .ok (.ishr, 1) := by decide +kernel
theorem dX8_laysOrder_25 : decode cX8_laysOrder 25 = .ok (.iconst 1, 1) := by decide +kernel
theorem dX8_laysOrder_26 : decode cX8_laysOrder 26 = .ok (.iand, 1) := by decide +kernel
theorem dX8_laysOrder_27 : decode cX8_laysOrder 27 = .ok (.ifCond .eq 26, 3) := by decide +kernel
theorem dX8_laysOrder_30 : decode cX8_laysOrder 30 = .ok (.aload_n 0, 1) := by decide +kernel
theorem dX8_laysOrder_31 : decode cX8_laysOrder 31 = .ok (.iload_n 1, 1) := by decide +kernel
theorem dX8_laysOrder_32 : decode cX8_laysOrder 32 = .ok (.iload_n 2, 1) := by decide +kernel
theorem dX8_laysOrder_33 : decode cX8_laysOrder 33 = .ok (.iload 4, 2) := by decide +kernel
theorem dX8_laysOrder_35 : decode cX8_laysOrder 35 = .ok (.invokevirtual 178, 3) := by decide +kernel
theorem dX8_laysOrder_38 : decode cX8_laysOrder 38 = .ok (.aload_n 0, 1) := by decide +kernel
theorem dX8_laysOrder_39 : decode cX8_laysOrder 39 = .ok (.getfield 22, 3) := by decide +kernel
theorem dX8_laysOrder_42 : decode cX8_laysOrder 42 = .ok (.sipush 128, 3) := by decide +kernel
theorem dX8_laysOrder_45 : decode cX8_laysOrder 45 = .ok (.iload_n 2, 1) := by decide +kernel
theorem dX8_laysOrder_46 : decode cX8_laysOrder 46 = .ok (.imul, 1) := by decide +kernel
theorem dX8_laysOrder_47 : decode cX8_laysOrder 47 = .ok (.iload_n 1, 1) := by decide +kernel
theorem dX8_laysOrder_48 : decode cX8_laysOrder 48 = .ok (.iadd, 1) := by decide +kernel
theorem dX8_laysOrder_49 : decode cX8_laysOrder 49 = .ok (.iaload, 1) := by decide +kernel
theorem dX8_laysOrder_50 : decode cX8_laysOrder 50 = .ok (.if_icmp .eq 9, 3) := by decide +kernel
theorem dX8_laysOrder_53 : decode cX8_laysOrder 53 = .ok (.iinc 4 1, 3) := by decide +kernel
theorem dX8_laysOrder_56 : decode cX8_laysOrder 56 = .ok (.goto (-35), 3) := by decide +kernel
theorem dX8_laysOrder_59 : decode cX8_laysOrder 59 = .ok (.aload_n 0, 1) := by decide +kernel
theorem dX8_laysOrder_60 : decode cX8_laysOrder 60 = .ok (.getfield 34, 3) := by decide +kernel
theorem dX8_laysOrder_63 : decode cX8_laysOrder 63 = .ok (.iload_n 3, 1) := by decide +kernel
theorem dX8_laysOrder_64 : decode cX8_laysOrder 64 = .ok (.iload 4, 2) := by decide +kernel
theorem dX8_laysOrder_66 : decode cX8_laysOrder 66 = .ok (.iastore, 1) := by decide +kernel
theorem dX8_laysOrder_67 : decode cX8_laysOrder 67 = .ok (.iinc 3 1, 3) := by decide +kernel
theorem dX8_laysOrder_70 : decode cX8_laysOrder 70 = .ok (.iload_n 1, 1) := by decide +kernel
theorem dX8_laysOrder_71 : decode cX8_laysOrder 71 = .ok (.iconst 1, 1) := by decide +kernel
theorem dX8_laysOrder_72 : decode cX8_laysOrder 72 = .ok (.iload 4, 2) := by decide +kernel
theorem dX8_laysOrder_74 : decode cX8_laysOrder 74 = .ok (.ishl, 1) := by decide +kernel
theorem dX8_laysOrder_75 : decode cX8_laysOrder 75 = .ok (.iconst (-1), 1) := by decide +kernel
theorem dX8_laysOrder_76 : decode cX8_laysOrder 76 = .ok (.ixor, 1) := by decide +kernel
theorem dX8_laysOrder_77 : decode cX8_laysOrder 77 = .ok (.iand, 1) := by decide +kernel
theorem dX8_laysOrder_78 : decode cX8_laysOrder 78 = .ok (.istore_n 1, 1) := by decide +kernel
theorem dX8_laysOrder_79 : decode cX8_laysOrder 79 = .ok (.iload 4, 2) := by decide +kernel
theorem dX8_laysOrder_81 : decode cX8_laysOrder 81 = .ok (.istore_n 2, 1) := by decide +kernel
theorem dX8_laysOrder_82 : decode cX8_laysOrder 82 = .ok (.goto (-68), 3) := by decide +kernel
theorem dX8_laysOrder_85 : decode cX8_laysOrder 85 = .ok (.iload_n 3, 1) := by decide +kernel
theorem dX8_laysOrder_86 : decode cX8_laysOrder 86 = .ok (.ireturn, 1) := by decide +kernel
theorem dX8_minutesOfBest_0 : decode cX8_minutesOfBest 0 = .ok (.aload_n 0, 1) := by decide +kernel
theorem dX8_minutesOfBest_1 : decode cX8_minutesOfBest 1 = .ok (.invokevirtual 182, 3) := by decide +kernel
theorem dX8_minutesOfBest_4 : decode cX8_minutesOfBest 4 = .ok (.aload_n 0, 1) := by decide +kernel
theorem dX8_minutesOfBest_5 : decode cX8_minutesOfBest 5 = .ok (.getfield 22, 3) := by decide +kernel
theorem dX8_minutesOfBest_8 : decode cX8_minutesOfBest 8 = .ok (.sipush 896, 3) := by decide +kernel
theorem dX8_minutesOfBest_11 : decode cX8_minutesOfBest 11 = .ok (.aload_n 0, 1) := by decide +kernel
theorem dX8_minutesOfBest_12 : decode cX8_minutesOfBest 12 = .ok (.invokevirtual 185, 3) := by decide +kernel
theorem dX8_minutesOfBest_15 : decode cX8_minutesOfBest 15 = .ok (.iadd, 1) := by decide +kernel
theorem dX8_minutesOfBest_16 : decode cX8_minutesOfBest 16 = .ok (.iaload, 1) := by decide +kernel
theorem dX8_minutesOfBest_17 : decode cX8_minutesOfBest 17 = .ok (.ireturn, 1) := by decide +kernel
theorem dX8_changeMinutes_0 : decode cX8_changeMinutes 0 = .ok (.aload_n 0, 1) := by decide +kernel
theorem dX8_changeMinutes_1 : decode cX8_changeMinutes 1 = .ok (.iload_n 1, 1) := by decide +kernel
theorem dX8_changeMinutes_2 : decode cX8_changeMinutes 2 = .ok (.invokestatic 95, 3) := by decide +kernel
theorem dX8_changeMinutes_5 : decode cX8_changeMinutes 5 = .ok (.ifCond .eq 14, 3) := by decide +kernel
theorem dX8_changeMinutes_8 : decode cX8_changeMinutes 8 = .ok (.iload_n 2, 1) := by decide +kernel
theorem dX8_changeMinutes_9 : decode cX8_changeMinutes 9 = .ok (.invokestatic 95, 3) := by decide +kernel
theorem dX8_changeMinutes_12 : decode cX8_changeMinutes 12 = .ok (.ifCond .eq 7, 3) := by decide +kernel
theorem dX8_changeMinutes_15 : decode cX8_changeMinutes 15 = .ok (.iconst 1, 1) := by decide +kernel
theorem dX8_changeMinutes_16 : decode cX8_changeMinutes 16 = .ok (.goto 4, 3) := by decide +kernel
theorem dX8_changeMinutes_19 : decode cX8_changeMinutes 19 = .ok (.iconst 0, 1) := by decide +kernel
theorem dX8_changeMinutes_20 : decode cX8_changeMinutes 20 = .ok (.invokevirtual 125, 3) := by decide +kernel
theorem dX8_changeMinutes_23 : decode cX8_changeMinutes 23 = .ok (.ifCond .le 7, 3) := by decide +kernel
theorem dX8_changeMinutes_26 : decode cX8_changeMinutes 26 = .ok (.iconst 0, 1) := by decide +kernel
theorem dX8_changeMinutes_27 : decode cX8_changeMinutes 27 = .ok (.goto 8, 3) := by decide +kernel
theorem dX8_changeMinutes_30 : decode cX8_changeMinutes 30 = .ok (.iload_n 1, 1) := by decide +kernel
theorem dX8_changeMinutes_31 : decode cX8_changeMinutes 31 = .ok (.iload_n 2, 1) := by decide +kernel
theorem dX8_changeMinutes_32 : decode cX8_changeMinutes 32 = .ok (.invokestatic 153, 3) := by decide +kernel
theorem dX8_changeMinutes_35 : decode cX8_changeMinutes 35 = .ok (.ireturn, 1) := by decide +kernel
theorem dX8_pressColour_0 : decode cX8_pressColour 0 = .ok (.aload_n 0, 1) := by decide +kernel
theorem dX8_pressColour_1 : decode cX8_pressColour 1 = .ok (.aload_n 0, 1) := by decide +kernel
theorem dX8_pressColour_2 : decode cX8_pressColour 2 = .ok (.getfield 7, 3) := by decide +kernel
theorem dX8_pressColour_5 : decode cX8_pressColour 5 = .ok (.iconst 4, 1) := by decide +kernel
theorem dX8_pressColour_6 : decode cX8_pressColour 6 = .ok (.iaload, 1) := by decide +kernel
theorem dX8_pressColour_7 : decode cX8_pressColour 7 = .ok (.invokevirtual 129, 3) := by decide +kernel
theorem dX8_pressColour_10 : decode cX8_pressColour 10 = .ok (.ireturn, 1) := by decide +kernel
theorem dX8_fewestMinutes_0 : decode cX8_fewestMinutes 0 = .ok (.aload_n 0, 1) := by decide +kernel
theorem dX8_fewestMinutes_1 : decode cX8_fewestMinutes 1 = .ok (.aload_n 0, 1) := by decide +kernel
theorem dX8_fewestMinutes_2 : decode cX8_fewestMinutes 2 = .ok (.invokevirtual 189, 3) := by decide +kernel
theorem dX8_fewestMinutes_5 : decode cX8_fewestMinutes 5 = .ok (.invokevirtual 129, 3) := by decide +kernel
theorem dX8_fewestMinutes_8 : decode cX8_fewestMinutes 8 = .ok (.ireturn, 1) := by decide +kernel
theorem dX8_minutesByOrders_0 : decode cX8_minutesByOrders 0 = .ok (.aload_n 0, 1) := by decide +kernel
theorem dX8_minutesByOrders_1 : decode cX8_minutesByOrders 1 = .ok (.aload_n 0, 1) := by decide +kernel
theorem dX8_minutesByOrders_2 : decode cX8_minutesByOrders 2 = .ok (.invokevirtual 189, 3) := by decide +kernel
theorem dX8_minutesByOrders_5 : decode cX8_minutesByOrders 5 = .ok (.invokevirtual 129, 3) := by decide +kernel
theorem dX8_minutesByOrders_8 : decode cX8_minutesByOrders 8 = .ok (.ireturn, 1) := by decide +kernel
theorem dX8_editionAt_0 : decode cX8_editionAt 0 = .ok (.aload_n 0, 1) := by decide +kernel
theorem dX8_editionAt_1 : decode cX8_editionAt 1 = .ok (.invokevirtual 192, 3) := by decide +kernel
theorem dX8_editionAt_4 : decode cX8_editionAt 4 = .ok (.istore_n 2, 1) := by decide +kernel
theorem dX8_editionAt_5 : decode cX8_editionAt 5 = .ok (.aload_n 0, 1) := by decide +kernel
theorem dX8_editionAt_6 : decode cX8_editionAt 6 = .ok (.iload_n 1, 1) := by decide +kernel
theorem dX8_editionAt_7 : decode cX8_editionAt 7 = .ok (.iconst 0, 1) := by decide +kernel
theorem dX8_editionAt_8 : decode cX8_editionAt 8 = .ok (.iload_n 2, 1) := by decide +kernel
theorem dX8_editionAt_9 : decode cX8_editionAt 9 = .ok (.iconst 1, 1) := by decide +kernel
theorem dX8_editionAt_10 : decode cX8_editionAt 10 = .ok (.isub, 1) := by decide +kernel
theorem dX8_editionAt_11 : decode cX8_editionAt 11 = .ok (.invokestatic 91, 3) := by decide +kernel
theorem dX8_editionAt_14 : decode cX8_editionAt 14 = .ok (.invokevirtual 125, 3) := by decide +kernel
theorem dX8_editionAt_17 : decode cX8_editionAt 17 = .ok (.ifCond .le 7, 3) := by decide +kernel
theorem dX8_editionAt_20 : decode cX8_editionAt 20 = .ok (.iconst 0, 1) := by decide +kernel
theorem dX8_editionAt_21 : decode cX8_editionAt 21 = .ok (.goto 9, 3) := by decide +kernel
theorem dX8_editionAt_24 : decode cX8_editionAt 24 = .ok (.aload_n 0, 1) := by decide +kernel
theorem dX8_editionAt_25 : decode cX8_editionAt 25 = .ok (.getfield 34, 3) := by decide +kernel
theorem dX8_editionAt_28 : decode cX8_editionAt 28 = .ok (.iload_n 1, 1) := by decide +kernel
theorem dX8_editionAt_29 : decode cX8_editionAt 29 = .ok (.iaload, 1) := by decide +kernel
theorem dX8_editionAt_30 : decode cX8_editionAt 30 = .ok (.ireturn, 1) := by decide +kernel
theorem dX8_nextShare_0 : decode cX8_nextShare 0 = .ok (.iconst (-1), 1) := by decide +kernel
theorem dX8_nextShare_1 : decode cX8_nextShare 1 = .ok (.istore_n 1, 1) := by decide +kernel
theorem dX8_nextShare_2 : decode cX8_nextShare 2 = .ok (.iconst 0, 1) := by decide +kernel
theorem dX8_nextShare_3 : decode cX8_nextShare 3 = .ok (.istore_n 2, 1) := by decide +kernel
theorem dX8_nextShare_4 : decode cX8_nextShare 4 = .ok (.iload_n 2, 1) := by decide +kernel
theorem dX8_nextShare_5 : decode cX8_nextShare 5 = .ok (.aload_n 0, 1) := by decide +kernel
theorem dX8_nextShare_6 : decode cX8_nextShare 6 = .ok (.getfield 7, 3) := by decide +kernel
theorem dX8_nextShare_9 : decode cX8_nextShare 9 = .ok (.iconst 0, 1) := by decide +kernel
theorem dX8_nextShare_10 : decode cX8_nextShare 10 = .ok (.iaload, 1) := by decide +kernel
theorem dX8_nextShare_11 : decode cX8_nextShare 11 = .ok (.if_icmp .ge 44, 3) := by decide +kernel
theorem dX8_nextShare_14 : decode cX8_nextShare 14 = .ok (.aload_n 0, 1) := by decide +kernel
theorem dX8_nextShare_15 : decode cX8_nextShare 15 = .ok (.getfield 25, 3) := by decide +kernel
theorem dX8_nextShare_18 : decode cX8_nextShare 18 = .ok (.iload_n 2, 1) := by decide +kernel
theorem dX8_nextShare_19 : decode cX8_nextShare 19 = .ok (.iaload, 1) := by decide +kernel
theorem dX8_nextShare_20 : decode cX8_nextShare 20 = .ok (.aload_n 0, 1) := by decide +kernel
theorem dX8_nextShare_21 : decode cX8_nextShare 21 = .ok (.iload_n 2, 1) := by decide +kernel
theorem dX8_nextShare_22 : decode cX8_nextShare 22 = .ok (.invokevirtual 156, 3) := by decide +kernel
theorem dX8_nextShare_25 : decode cX8_nextShare 25 = .ok (.if_icmp .ge 24, 3) := by decide +kernel
theorem dX8_nextShare_28 : decode cX8_nextShare 28 = .ok (.iload_n 1, 1) := by decide +kernel
theorem dX8_nextShare_29 : decode cX8_nextShare 29 = .ok (.ifCond .lt 18, 3) := by decide +kernel
theorem dX8_nextShare_32 : decode cX8_nextShare 32 = .ok (.aload_n 0, 1) := by decide +kernel
theorem dX8_nextShare_33 : decode cX8_nextShare 33 = .ok (.getfield 25, 3) := by decide +kernel
theorem dX8_nextShare_36 : decode cX8_nextShare 36 = .ok (.iload_n 2, 1) := by decide +kernel
theorem dX8_nextShare_37 : decode cX8_nextShare 37 = .ok (.iaload, 1) := by decide +kernel
theorem dX8_nextShare_38 : decode cX8_nextShare 38 = .ok (.aload_n 0, 1) := by decide +kernel
theorem dX8_nextShare_39 : decode cX8_nextShare 39 = .ok (.getfield 25, 3) := by decide +kernel
theorem dX8_nextShare_42 : decode cX8_nextShare 42 = .ok (.iload_n 1, 1) := by decide +kernel
theorem dX8_nextShare_43 : decode cX8_nextShare 43 = .ok (.iaload, 1) := by decide +kernel
theorem dX8_nextShare_44 : decode cX8_nextShare 44 = .ok (.if_icmp .ge 5, 3) := by decide +kernel
theorem dX8_nextShare_47 : decode cX8_nextShare 47 = .ok (.iload_n 2, 1) := by decide +kernel
theorem dX8_nextShare_48 : decode cX8_nextShare 48 = .ok (.istore_n 1, 1) := by decide +kernel
theorem dX8_nextShare_49 : decode cX8_nextShare 49 = .ok (.iinc 2 1, 3) := by decide +kernel
theorem dX8_nextShare_52 : decode cX8_nextShare 52 = .ok (.goto (-48), 3) := by decide +kernel
theorem dX8_nextShare_55 : decode cX8_nextShare 55 = .ok (.iload_n 1, 1) := by decide +kernel
theorem dX8_nextShare_56 : decode cX8_nextShare 56 = .ok (.ireturn, 1) := by decide +kernel
theorem dX8_share_0 : decode cX8_share 0 = .ok (.iconst 0, 1) := by decide +kernel
theorem dX8_share_1 : decode cX8_share 1 = .ok (.istore_n 1, 1) := by decide +kernel
theorem dX8_share_2 : decode cX8_share 2 = .ok (.iload_n 1, 1) := by decide +kernel
theorem dX8_share_3 : decode cX8_share 3 = .ok (.bipush 7, 2) := by decide +kernel
theorem dX8_share_5 : decode cX8_share 5 = .ok (.if_icmp .ge 16, 3) := by decide +kernel
theorem dX8_share_8 : decode cX8_share 8 = .ok (.aload_n 0, 1) := by decide +kernel
theorem dX8_share_9 : decode cX8_share 9 = .ok (.getfield 25, 3) := by decide +kernel
theorem dX8_share_12 : decode cX8_share 12 = .ok (.iload_n 1, 1) := by decide +kernel
theorem dX8_share_13 : decode cX8_share 13 = .ok (.iconst 0, 1) := by decide +kernel
theorem dX8_share_14 : decode cX8_share 14 = .ok (.iastore, 1) := by decide +kernel
theorem dX8_share_15 : decode cX8_share 15 = .ok (.iinc 1 1, 3) := by decide +kernel
theorem dX8_share_18 : decode cX8_share 18 = .ok (.goto (-16), 3) := by decide +kernel
theorem dX8_share_21 : decode cX8_share 21 = .ok (.iconst 0, 1) := by decide +kernel
theorem dX8_share_22 : decode cX8_share 22 = .ok (.istore_n 1, 1) := by decide +kernel
theorem dX8_share_23 : decode cX8_share 23 = .ok (.iload_n 1, 1) := by decide +kernel
theorem dX8_share_24 : decode cX8_share 24 = .ok (.aload_n 0, 1) := by decide +kernel
theorem dX8_share_25 : decode cX8_share 25 = .ok (.getfield 7, 3) := by decide +kernel
theorem dX8_share_28 : decode cX8_share 28 = .ok (.iconst 2, 1) := by decide +kernel
theorem dX8_share_29 : decode cX8_share 29 = .ok (.iaload, 1) := by decide +kernel
theorem dX8_share_30 : decode cX8_share 30 = .ok (.if_icmp .ge 29, 3) := by decide +kernel
theorem dX8_share_33 : decode cX8_share 33 = .ok (.aload_n 0, 1) := by decide +kernel
theorem dX8_share_34 : decode cX8_share 34 = .ok (.invokevirtual 195, 3) := by decide +kernel
theorem dX8_share_37 : decode cX8_share 37 = .ok (.ifCond .lt 22, 3) := by decide +kernel
theorem dX8_share_40 : decode cX8_share 40 = .ok (.aload_n 0, 1) := by decide +kernel
theorem dX8_share_41 : decode cX8_share 41 = .ok (.getfield 25, 3) := by decide +kernel
theorem dX8_share_44 : decode cX8_share 44 = .ok (.aload_n 0, 1) := by decide +kernel
theorem dX8_share_45 : decode cX8_share 45 = .ok (.invokevirtual 195, 3) := by decide +kernel
theorem dX8_share_48 : decode cX8_share 48 = .ok (.dup2, 1) := by decide +kernel
theorem dX8_share_49 : decode cX8_share 49 = .ok (.iaload, 1) := by decide +kernel
theorem dX8_share_50 : decode cX8_share 50 = .ok (.iconst 1, 1) := by decide +kernel
theorem dX8_share_51 : decode cX8_share 51 = .ok (.iadd, 1) := by decide +kernel
theorem dX8_share_52 : decode cX8_share 52 = .ok (.iastore, 1) := by decide +kernel
theorem dX8_share_53 : decode cX8_share 53 = .ok (.iinc 1 1, 3) := by decide +kernel
theorem dX8_share_56 : decode cX8_share 56 = .ok (.goto (-33), 3) := by decide +kernel
theorem dX8_share_59 : decode cX8_share 59 = .ok (.return_, 1) := by decide +kernel
theorem dX8_sharing_0 : decode cX8_sharing 0 = .ok (.aload_n 0, 1) := by decide +kernel
theorem dX8_sharing_1 : decode cX8_sharing 1 = .ok (.aload_n 0, 1) := by decide +kernel
theorem dX8_sharing_2 : decode cX8_sharing 2 = .ok (.iload_n 1, 1) := by decide +kernel
theorem dX8_sharing_3 : decode cX8_sharing 3 = .ok (.invokevirtual 147, 3) := by decide +kernel
theorem dX8_sharing_6 : decode cX8_sharing 6 = .ok (.invokevirtual 125, 3) := by decide +kernel
theorem dX8_sharing_9 : decode cX8_sharing 9 = .ok (.ifCond .le 5, 3) := by decide +kernel
theorem dX8_sharing_12 : decode cX8_sharing 12 = .ok (.iconst 0, 1) := by decide +kernel
theorem dX8_sharing_13 : decode cX8_sharing 13 = .ok (.ireturn, 1) := by decide +kernel
theorem dX8_sharing_14 : decode cX8_sharing 14 = .ok (.aload_n 0, 1) := by decide +kernel
theorem dX8_sharing_15 : decode cX8_sharing 15 = .ok (.invokevirtual 198, 3) := by decide +kernel
theorem dX8_sharing_18 : decode cX8_sharing 18 = .ok (.aload_n 0, 1) := by decide +kernel
theorem dX8_sharing_19 : decode cX8_sharing 19 = .ok (.getfield 25, 3) := by decide +kernel
theorem dX8_sharing_22 : decode cX8_sharing 22 = .ok (.iload_n 1, 1) := by decide +kernel
theorem dX8_sharing_23 : decode cX8_sharing 23 = .ok (.iaload, 1) := by decide +kernel
theorem dX8_sharing_24 : decode cX8_sharing 24 = .ok (.ireturn, 1) := by decide +kernel
theorem dX8_shareOf_0 : decode cX8_shareOf 0 = .ok (.aload_n 0, 1) := by decide +kernel
theorem dX8_shareOf_1 : decode cX8_shareOf 1 = .ok (.iload_n 1, 1) := by decide +kernel
theorem dX8_shareOf_2 : decode cX8_shareOf 2 = .ok (.invokevirtual 201, 3) := by decide +kernel
theorem dX8_shareOf_5 : decode cX8_shareOf 5 = .ok (.ireturn, 1) := by decide +kernel
theorem dX8_shareByLevel_0 : decode cX8_shareByLevel 0 = .ok (.aload_n 0, 1) := by decide +kernel
theorem dX8_shareByLevel_1 : decode cX8_shareByLevel 1 = .ok (.iload_n 1, 1) := by decide +kernel
theorem dX8_shareByLevel_2 : decode cX8_shareByLevel 2 = .ok (.invokevirtual 201, 3) := by decide +kernel
theorem dX8_shareByLevel_5 : decode cX8_shareByLevel 5 = .ok (.ireturn, 1) := by decide +kernel
theorem dX8_printsAll_0 : decode cX8_printsAll 0 = .ok (.aload_n 0, 1) := by decide +kernel
theorem dX8_printsAll_1 : decode cX8_printsAll 1 = .ok (.invokevirtual 198, 3) := by decide +kernel
theorem dX8_printsAll_4 : decode cX8_printsAll 4 = .ok (.aload_n 0, 1) := by decide +kernel
theorem dX8_printsAll_5 : decode cX8_printsAll 5 = .ok (.invokevirtual 192, 3) := by decide +kernel
theorem dX8_printsAll_8 : decode cX8_printsAll 8 = .ok (.istore_n 1, 1) := by decide +kernel
theorem dX8_printsAll_9 : decode cX8_printsAll 9 = .ok (.iconst 0, 1) := by decide +kernel
theorem dX8_printsAll_10 : decode cX8_printsAll 10 = .ok (.istore_n 2, 1) := by decide +kernel
theorem dX8_printsAll_11 : decode cX8_printsAll 11 = .ok (.iconst 0, 1) := by decide +kernel
theorem dX8_printsAll_12 : decode cX8_printsAll 12 = .ok (.istore_n 3, 1) := by decide +kernel
theorem dX8_printsAll_13 : decode cX8_printsAll 13 = .ok (.iload_n 3, 1) := by decide +kernel
theorem dX8_printsAll_14 : decode cX8_printsAll 14 = .ok (.iload_n 1, 1) := by decide +kernel
theorem dX8_printsAll_15 : decode cX8_printsAll 15 = .ok (.if_icmp .ge 55, 3) := by decide +kernel
theorem dX8_printsAll_18 : decode cX8_printsAll 18 = .ok (.aload_n 0, 1) := by decide +kernel
theorem dX8_printsAll_19 : decode cX8_printsAll 19 = .ok (.getfield 25, 3) := by decide +kernel
theorem dX8_printsAll_22 : decode cX8_printsAll 22 = .ok (.aload_n 0, 1) := by decide +kernel
theorem dX8_printsAll_23 : decode cX8_printsAll 23 = .ok (.getfield 34, 3) := by decide +kernel
theorem dX8_printsAll_26 : decode cX8_printsAll 26 = .ok (.iload_n 3, 1) := by decide +kernel
theorem dX8_printsAll_27 : decode cX8_printsAll 27 = .ok (.iaload, 1) := by decide +kernel
theorem dX8_printsAll_28 : decode cX8_printsAll 28 = .ok (.iaload, 1) := by decide +kernel
theorem dX8_printsAll_29 : decode cX8_printsAll 29 = .ok (.aload_n 0, 1) := by decide +kernel
theorem dX8_printsAll_30 : decode cX8_printsAll 30 = .ok (.aload_n 0, 1) := by decide +kernel
theorem dX8_printsAll_31 : decode cX8_printsAll 31 = .ok (.getfield 34, 3) := by decide +kernel
theorem dX8_printsAll_34 : decode cX8_printsAll 34 = .ok (.iload_n 3, 1) := by decide +kernel
theorem dX8_printsAll_35 : decode cX8_printsAll 35 = .ok (.iaload, 1) := by decide +kernel
theorem dX8_printsAll_36 : decode cX8_printsAll 36 = .ok (.invokevirtual 159, 3) := by decide +kernel
theorem dX8_printsAll_39 : decode cX8_printsAll 39 = .ok (.invokestatic 162, 3) := by decide +kernel
theorem dX8_printsAll_42 : decode cX8_printsAll 42 = .ok (.istore 4, 2) := by decide +kernel
theorem dX8_printsAll_44 : decode cX8_printsAll 44 = .ok (.iload 4, 2) := by decide +kernel
theorem dX8_printsAll_46 : decode cX8_printsAll 46 = .ok (.ifCond .le 18, 3) := by decide +kernel
theorem dX8_printsAll_49 : decode cX8_printsAll 49 = .ok (.iload_n 2, 1) := by decide +kernel
theorem dX8_printsAll_50 : decode cX8_printsAll 50 = .ok (.aload_n 0, 1) := by decide +kernel
theorem dX8_printsAll_51 : decode cX8_printsAll 51 = .ok (.aload_n 0, 1) := by decide +kernel
theorem dX8_printsAll_52 : decode cX8_printsAll 52 = .ok (.getfield 34, 3) := by decide +kernel
theorem dX8_printsAll_55 : decode cX8_printsAll 55 = .ok (.iload_n 3, 1) := by decide +kernel
theorem dX8_printsAll_56 : decode cX8_printsAll 56 = .ok (.iaload, 1) := by decide +kernel
theorem dX8_printsAll_57 : decode cX8_printsAll 57 = .ok (.iload 4, 2) := by decide +kernel
theorem dX8_printsAll_59 : decode cX8_printsAll 59 = .ok (.invokevirtual 165, 3) := by decide +kernel
theorem dX8_printsAll_62 : decode cX8_printsAll 62 = .ok (.iadd, 1) := by decide +kernel
theorem dX8_printsAll_63 : decode cX8_printsAll 63 = .ok (.istore_n 2, 1) := by decide +kernel
theorem dX8_printsAll_64 : decode cX8_printsAll 64 = .ok (.iinc 3 1, 3) := by decide +kernel
theorem dX8_printsAll_67 : decode cX8_printsAll 67 = .ok (.goto (-54), 3) := by decide +kernel
theorem dX8_printsAll_70 : decode cX8_printsAll 70 = .ok (.iload_n 2, 1) := by decide +kernel
theorem dX8_printsAll_71 : decode cX8_printsAll 71 = .ok (.ireturn, 1) := by decide +kernel
theorem dX8_printAll_0 : decode cX8_printAll 0 = .ok (.aload_n 0, 1) := by decide +kernel
theorem dX8_printAll_1 : decode cX8_printAll 1 = .ok (.invokevirtual 99, 3) := by decide +kernel
theorem dX8_printAll_4 : decode cX8_printAll 4 = .ok (.aload_n 0, 1) := by decide +kernel
theorem dX8_printAll_5 : decode cX8_printAll 5 = .ok (.aload_n 0, 1) := by decide +kernel
theorem dX8_printAll_6 : decode cX8_printAll 6 = .ok (.invokevirtual 204, 3) := by decide +kernel
theorem dX8_printAll_9 : decode cX8_printAll 9 = .ok (.invokevirtual 113, 3) := by decide +kernel
theorem dX8_printAll_12 : decode cX8_printAll 12 = .ok (.ireturn, 1) := by decide +kernel
theorem dX8_editionCount_0 : decode cX8_editionCount 0 = .ok (.aload_n 0, 1) := by decide +kernel
theorem dX8_editionCount_1 : decode cX8_editionCount 1 = .ok (.aload_n 0, 1) := by decide +kernel
theorem dX8_editionCount_2 : decode cX8_editionCount 2 = .ok (.getfield 7, 3) := by decide +kernel
theorem dX8_editionCount_5 : decode cX8_editionCount 5 = .ok (.iconst 0, 1) := by decide +kernel
theorem dX8_editionCount_6 : decode cX8_editionCount 6 = .ok (.iaload, 1) := by decide +kernel
theorem dX8_editionCount_7 : decode cX8_editionCount 7 = .ok (.invokevirtual 129, 3) := by decide +kernel
theorem dX8_editionCount_10 : decode cX8_editionCount 10 = .ok (.ireturn, 1) := by decide +kernel
theorem dX8_of_0 : decode cX8_of 0 = .ok (.aload_n 0, 1) := by decide +kernel
theorem dX8_of_1 : decode cX8_of 1 = .ok (.aload_n 0, 1) := by decide +kernel
theorem dX8_of_2 : decode cX8_of 2 = .ok (.iload_n 1, 1) := by decide +kernel
theorem dX8_of_3 : decode cX8_of 3 = .ok (.invokevirtual 147, 3) := by decide +kernel
theorem dX8_of_6 : decode cX8_of 6 = .ok (.invokevirtual 125, 3) := by decide +kernel
theorem dX8_of_9 : decode cX8_of 9 = .ok (.ifCond .le 7, 3) := by decide +kernel
theorem dX8_of_12 : decode cX8_of 12 = .ok (.iconst 0, 1) := by decide +kernel
theorem dX8_of_13 : decode cX8_of 13 = .ok (.goto 9, 3) := by decide +kernel
theorem dX8_of_16 : decode cX8_of 16 = .ok (.aload_n 0, 1) := by decide +kernel
theorem dX8_of_17 : decode cX8_of 17 = .ok (.iload_n 1, 1) := by decide +kernel
theorem dX8_of_18 : decode cX8_of 18 = .ok (.iload_n 2, 1) := by decide +kernel
theorem dX8_of_19 : decode cX8_of 19 = .ok (.invokevirtual 138, 3) := by decide +kernel
theorem dX8_of_22 : decode cX8_of 22 = .ok (.ireturn, 1) := by decide +kernel
theorem dX8_colourOf_0 : decode cX8_colourOf 0 = .ok (.aload_n 0, 1) := by decide +kernel
theorem dX8_colourOf_1 : decode cX8_colourOf 1 = .ok (.iload_n 1, 1) := by decide +kernel
theorem dX8_colourOf_2 : decode cX8_colourOf 2 = .ok (.iconst 0, 1) := by decide +kernel
theorem dX8_colourOf_3 : decode cX8_colourOf 3 = .ok (.invokevirtual 207, 3) := by decide +kernel
theorem dX8_colourOf_6 : decode cX8_colourOf 6 = .ok (.ireturn, 1) := by decide +kernel
theorem dX8_runOf_0 : decode cX8_runOf 0 = .ok (.aload_n 0, 1) := by decide +kernel
theorem dX8_runOf_1 : decode cX8_runOf 1 = .ok (.iload_n 1, 1) := by decide +kernel
theorem dX8_runOf_2 : decode cX8_runOf 2 = .ok (.iconst 1, 1) := by decide +kernel
theorem dX8_runOf_3 : decode cX8_runOf 3 = .ok (.invokevirtual 207, 3) := by decide +kernel
theorem dX8_runOf_6 : decode cX8_runOf 6 = .ok (.ireturn, 1) := by decide +kernel
theorem dX8_printedOf_0 : decode cX8_printedOf 0 = .ok (.aload_n 0, 1) := by decide +kernel
theorem dX8_printedOf_1 : decode cX8_printedOf 1 = .ok (.iload_n 1, 1) := by decide +kernel
theorem dX8_printedOf_2 : decode cX8_printedOf 2 = .ok (.iconst 2, 1) := by decide +kernel
theorem dX8_printedOf_3 : decode cX8_printedOf 3 = .ok (.invokevirtual 207, 3) := by decide +kernel
theorem dX8_printedOf_6 : decode cX8_printedOf 6 = .ok (.ireturn, 1) := by decide +kernel
theorem dX8_isComplete_0 : decode cX8_isComplete 0 = .ok (.aload_n 0, 1) := by decide +kernel
theorem dX8_isComplete_1 : decode cX8_isComplete 1 = .ok (.aload_n 0, 1) := by decide +kernel
theorem dX8_isComplete_2 : decode cX8_isComplete 2 = .ok (.iload_n 1, 1) := by decide +kernel
theorem dX8_isComplete_3 : decode cX8_isComplete 3 = .ok (.invokevirtual 147, 3) := by decide +kernel
theorem dX8_isComplete_6 : decode cX8_isComplete 6 = .ok (.invokevirtual 125, 3) := by decide +kernel
theorem dX8_isComplete_9 : decode cX8_isComplete 9 = .ok (.ifCond .ne 15, 3) := by decide +kernel
theorem dX8_isComplete_12 : decode cX8_isComplete 12 = .ok (.aload_n 0, 1) := by decide +kernel
theorem dX8_isComplete_13 : decode cX8_isComplete 13 = .ok (.iload_n 1, 1) := by decide +kernel
theorem dX8_isComplete_14 : decode cX8_isComplete 14 = .ok (.invokevirtual 156, 3) := by decide +kernel
theorem dX8_isComplete_17 : decode cX8_isComplete 17 = .ok (.ifCond .ne 7, 3) := by decide +kernel
theorem dX8_isComplete_20 : decode cX8_isComplete 20 = .ok (.iconst 1, 1) := by decide +kernel
theorem dX8_isComplete_21 : decode cX8_isComplete 21 = .ok (.goto 4, 3) := by decide +kernel
theorem dX8_isComplete_24 : decode cX8_isComplete 24 = .ok (.iconst 0, 1) := by decide +kernel
theorem dX8_isComplete_25 : decode cX8_isComplete 25 = .ok (.ireturn, 1) := by decide +kernel
theorem dX8_editionByMissing_0 : decode cX8_editionByMissing 0 = .ok (.aload_n 0, 1) := by decide +kernel
theorem dX8_editionByMissing_1 : decode cX8_editionByMissing 1 = .ok (.iconst 0, 1) := by decide +kernel
theorem dX8_editionByMissing_2 : decode cX8_editionByMissing 2 = .ok (.putfield 37, 3) := by decide +kernel
theorem dX8_editionByMissing_5 : decode cX8_editionByMissing 5 = .ok (.iconst 0, 1) := by decide +kernel
theorem dX8_editionByMissing_6 : decode cX8_editionByMissing 6 = .ok (.istore_n 2, 1) := by decide +kernel
theorem dX8_editionByMissing_7 : decode cX8_editionByMissing 7 = .ok (.iload_n 2, 1) := by decide +kernel
theorem dX8_editionByMissing_8 : decode cX8_editionByMissing 8 = .ok (.aload_n 0, 1) := by decide +kernel
theorem dX8_editionByMissing_9 : decode cX8_editionByMissing 9 = .ok (.getfield 7, 3) := by decide +kernel
theorem dX8_editionByMissing_12 : decode cX8_editionByMissing 12 = .ok (.iconst 0, 1) := by decide +kernel
theorem dX8_editionByMissing_13 : decode cX8_editionByMissing 13 = .ok (.iaload, 1) := by decide +kernel
theorem dX8_editionByMissing_14 : decode cX8_editionByMissing 14 = .ok (.if_icmp .ge 80, 3) := by decide +kernel
theorem dX8_editionByMissing_17 : decode cX8_editionByMissing 17 = .ok (.iconst 0, 1) := by decide +kernel
theorem dX8_editionByMissing_18 : decode cX8_editionByMissing 18 = .ok (.istore_n 3, 1) := by decide +kernel
theorem dX8_editionByMissing_19 : decode cX8_editionByMissing 19 = .ok (.iconst 0, 1) := by decide +kernel
theorem dX8_editionByMissing_20 : decode cX8_editionByMissing 20 = .ok (.istore 4, 2) := by decide +kernel
theorem dX8_editionByMissing_22 : decode cX8_editionByMissing 22 = .ok (.iload 4, 2) := by decide +kernel
theorem dX8_editionByMissing_24 : decode cX8_editionByMissing 24 = .ok (.aload_n 0, 1) := by decide +kernel
theorem dX8_editionByMissing_25 : decode cX8_editionByMissing 25 = .ok (.getfield 7, 3) := by decide +kernel
theorem dX8_editionByMissing_28 : decode cX8_editionByMissing 28 = .ok (.iconst 0, 1) := by decide +kernel
theorem dX8_editionByMissing_29 : decode cX8_editionByMissing 29 = .ok (.iaload, 1) := by decide +kernel
theorem dX8_editionByMissing_30 : decode cX8_editionByMissing 30 = .ok (.if_icmp .ge 51, 3) := by decide +kernel
theorem dX8_editionByMissing_33 : decode cX8_editionByMissing 33 = .ok (.iload_n 3, 1) := by decide +kernel
theorem dX8_editionByMissing_34 : decode cX8_editionByMissing 34 = .ok (.aload_n 0, 1) := by decide +kernel
theorem dX8_editionByMissing_35 : decode cX8_editionByMissing 35 = .ok (.iload 4, 2) := by decide +kernel
theorem dX8_editionByMissing_37 : decode cX8_editionByMissing 37 = .ok (.invokevirtual 156, 3) := by decide +kernel
theorem dX8_editionByMissing_40 : decode cX8_editionByMissing 40 = .ok (.aload_n 0, 1) := by decide +kernel
theorem dX8_editionByMissing_41 : decode cX8_editionByMissing 41 = .ok (.iload_n 2, 1) := by decide +kernel
theorem dX8_editionByMissing_42 : decode cX8_editionByMissing 42 = .ok (.invokevirtual 156, 3) := by decide +kernel
theorem dX8_editionByMissing_45 : decode cX8_editionByMissing 45 = .ok (.if_icmp .gt 23, 3) := by decide +kernel
theorem dX8_editionByMissing_48 : decode cX8_editionByMissing 48 = .ok (.aload_n 0, 1) := by decide +kernel
theorem dX8_editionByMissing_49 : decode cX8_editionByMissing 49 = .ok (.iload 4, 2) := by decide +kernel
theorem dX8_editionByMissing_51 : decode cX8_editionByMissing 51 = .ok (.invokevirtual 156, 3) := by decide +kernel
theorem dX8_editionByMissing_54 : decode cX8_editionByMissing 54 = .ok (.aload_n 0, 1) := by decide +kernel
theorem dX8_editionByMissing_55 : decode cX8_editionByMissing 55 = .ok (.iload_n 2, 1) := by decide +kernel
theorem dX8_editionByMissing_56 : decode cX8_editionByMissing 56 = .ok (.invokevirtual 156, 3) := by decide +kernel
theorem dX8_editionByMissing_59 : decode cX8_editionByMissing 59 = .ok (.if_icmp .ne 13, 3) := by decide +kernel
theorem dX8_editionByMissing_62 : decode cX8_editionByMissing 62 = .ok (.iload 4, 2) := by decide +kernel
theorem dX8_editionByMissing_64 : decode cX8_editionByMissing 64 = .ok (.iload_n 2, 1) := by decide +kernel
theorem dX8_editionByMissing_65 : decode cX8_editionByMissing 65 = .ok (.if_icmp .ge 7, 3) := by decide +kernel
theorem dX8_editionByMissing_68 : decode cX8_editionByMissing 68 = .ok (.iconst 1, 1) := by decide +kernel
theorem dX8_editionByMissing_69 : decode cX8_editionByMissing 69 = .ok (.goto 4, 3) := by decide +kernel
theorem dX8_editionByMissing_72 : decode cX8_editionByMissing 72 = .ok (.iconst 0, 1) := by decide +kernel
theorem dX8_editionByMissing_73 : decode cX8_editionByMissing 73 = .ok (.iadd, 1) := by decide +kernel
theorem dX8_editionByMissing_74 : decode cX8_editionByMissing 74 = .ok (.istore_n 3, 1) := by decide +kernel
theorem dX8_editionByMissing_75 : decode cX8_editionByMissing 75 = .ok (.iinc 4 1, 3) := by decide +kernel
theorem dX8_editionByMissing_78 : decode cX8_editionByMissing 78 = .ok (.goto (-56), 3) := by decide +kernel
theorem dX8_editionByMissing_81 : decode cX8_editionByMissing 81 = .ok (.iload_n 3, 1) := by decide +kernel
theorem dX8_editionByMissing_82 : decode cX8_editionByMissing 82 = .ok (.iload_n 1, 1) := by decide +kernel
theorem dX8_editionByMissing_83 : decode cX8_editionByMissing 83 = .ok (.if_icmp .ne 5, 3) := by decide +kernel
theorem dX8_editionByMissing_86 : decode cX8_editionByMissing 86 = .ok (.iload_n 2, 1) := by decide +kernel
theorem dX8_editionByMissing_87 : decode cX8_editionByMissing 87 = .ok (.ireturn, 1) := by decide +kernel
theorem dX8_editionByMissing_88 : decode cX8_editionByMissing 88 = .ok (.iinc 2 1, 3) := by decide +kernel
theorem dX8_editionByMissing_91 : decode cX8_editionByMissing 91 = .ok (.goto (-84), 3) := by decide +kernel
theorem dX8_editionByMissing_94 : decode cX8_editionByMissing 94 = .ok (.aload_n 0, 1) := by decide +kernel
theorem dX8_editionByMissing_95 : decode cX8_editionByMissing 95 = .ok (.iconst 1, 1) := by decide +kernel
theorem dX8_editionByMissing_96 : decode cX8_editionByMissing 96 = .ok (.invokevirtual 106, 3) := by decide +kernel
theorem dX8_editionByMissing_99 : decode cX8_editionByMissing 99 = .ok (.ireturn, 1) := by decide +kernel
theorem dX8_p_0 : decode cX8_p 0 = .ok (.aload_n 0, 1) := by decide +kernel
theorem dX8_p_1 : decode cX8_p 1 = .ok (.getfield 7, 3) := by decide +kernel
theorem dX8_p_4 : decode cX8_p 4 = .ok (.bipush 48, 2) := by decide +kernel
theorem dX8_p_6 : decode cX8_p 6 = .ok (.iconst 2, 1) := by decide +kernel
theorem dX8_p_7 : decode cX8_p 7 = .ok (.iload_n 1, 1) := by decide +kernel
theorem dX8_p_8 : decode cX8_p 8 = .ok (.imul, 1) := by decide +kernel
theorem dX8_p_9 : decode cX8_p 9 = .ok (.iadd, 1) := by decide +kernel
theorem dX8_p_10 : decode cX8_p 10 = .ok (.iload_n 2, 1) := by decide +kernel
theorem dX8_p_11 : decode cX8_p 11 = .ok (.iadd, 1) := by decide +kernel
theorem dX8_p_12 : decode cX8_p 12 = .ok (.iaload, 1) := by decide +kernel
theorem dX8_p_13 : decode cX8_p 13 = .ok (.ireturn, 1) := by decide +kernel
theorem dX8_isProof_0 : decode cX8_isProof 0 = .ok (.iload_n 1, 1) := by decide +kernel
theorem dX8_isProof_1 : decode cX8_isProof 1 = .ok (.iconst 0, 1) := by decide +kernel
theorem dX8_isProof_2 : decode cX8_isProof 2 = .ok (.aload_n 0, 1) := by decide +kernel
theorem dX8_isProof_3 : decode cX8_isProof 3 = .ok (.getfield 7, 3) := by decide +kernel
theorem dX8_isProof_6 : decode cX8_isProof 6 = .ok (.iconst 1, 1) := by decide +kernel
theorem dX8_isProof_7 : decode cX8_isProof 7 = .ok (.iaload, 1) := by decide +kernel
theorem dX8_isProof_8 : decode cX8_isProof 8 = .ok (.iconst 1, 1) := by decide +kernel
theorem dX8_isProof_9 : decode cX8_isProof 9 = .ok (.isub, 1) := by decide +kernel
theorem dX8_isProof_10 : decode cX8_isProof 10 = .ok (.invokestatic 91, 3) := by decide +kernel
theorem dX8_isProof_13 : decode cX8_isProof 13 = .ok (.ireturn, 1) := by decide +kernel
theorem dX8_cannotProve_0 : decode cX8_cannotProve 0 = .ok (.iload_n 1, 1) := by decide +kernel
theorem dX8_cannotProve_1 : decode cX8_cannotProve 1 = .ok (.iconst 0, 1) := by decide +kernel
theorem dX8_cannotProve_2 : decode cX8_cannotProve 2 = .ok (.bipush 99, 2) := by decide +kernel
theorem dX8_cannotProve_4 : decode cX8_cannotProve 4 = .ok (.invokestatic 91, 3) := by decide +kernel
theorem dX8_cannotProve_7 : decode cX8_cannotProve 7 = .ok (.ifCond .ne 7, 3) := by decide +kernel
theorem dX8_cannotProve_10 : decode cX8_cannotProve 10 = .ok (.iconst 1, 1) := by decide +kernel
theorem dX8_cannotProve_11 : decode cX8_cannotProve 11 = .ok (.goto 19, 3) := by decide +kernel
theorem dX8_cannotProve_14 : decode cX8_cannotProve 14 = .ok (.aload_n 0, 1) := by decide +kernel
theorem dX8_cannotProve_15 : decode cX8_cannotProve 15 = .ok (.getfield 7, 3) := by decide +kernel
theorem dX8_cannotProve_18 : decode cX8_cannotProve 18 = .ok (.iconst 1, 1) := by decide +kernel
theorem dX8_cannotProve_19 : decode cX8_cannotProve 19 = .ok (.iaload, 1) := by decide +kernel
theorem dX8_cannotProve_20 : decode cX8_cannotProve 20 = .ok (.bipush 12, 2) := by decide +kernel
theorem dX8_cannotProve_22 : decode cX8_cannotProve 22 = .ok (.if_icmp .ne 7, 3) := by decide +kernel
theorem dX8_cannotProve_25 : decode cX8_cannotProve 25 = .ok (.iconst 2, 1) := by decide +kernel
theorem dX8_cannotProve_26 : decode cX8_cannotProve 26 = .ok (.goto 4, 3) := by decide +kernel
theorem dX8_cannotProve_29 : decode cX8_cannotProve 29 = .ok (.iconst 0, 1) := by decide +kernel
theorem dX8_cannotProve_30 : decode cX8_cannotProve 30 = .ok (.ireturn, 1) := by decide +kernel
theorem dX8_proves_0 : decode cX8_proves 0 = .ok (.aload_n 0, 1) := by decide +kernel
theorem dX8_proves_1 : decode cX8_proves 1 = .ok (.getfield 7, 3) := by decide +kernel
theorem dX8_proves_4 : decode cX8_proves 4 = .ok (.bipush 48, 2) := by decide +kernel
theorem dX8_proves_6 : decode cX8_proves 6 = .ok (.iconst 2, 1) := by decide +kernel
theorem dX8_proves_7 : decode cX8_proves 7 = .ok (.aload_n 0, 1) := by decide +kernel
theorem dX8_proves_8 : decode cX8_proves 8 = .ok (.getfield 7, 3) := by decide +kernel
theorem dX8_proves_11 : decode cX8_proves 11 = .ok (.iconst 1, 1) := by decide +kernel
theorem dX8_proves_12 : decode cX8_proves 12 = .ok (.iaload, 1) := by decide +kernel
theorem dX8_proves_13 : decode cX8_proves 13 = .ok (.imul, 1) := by decide +kernel
theorem dX8_proves_14 : decode cX8_proves 14 = .ok (.iadd, 1) := by decide +kernel
theorem dX8_proves_15 : decode cX8_proves 15 = .ok (.iconst 0, 1) := by decide +kernel
theorem dX8_proves_16 : decode cX8_proves 16 = .ok (.iadd, 1) := by decide +kernel
theorem dX8_proves_17 : decode cX8_proves 17 = .ok (.iload_n 1, 1) := by decide +kernel
theorem dX8_proves_18 : decode cX8_proves 18 = .ok (.iastore, 1) := by decide +kernel
theorem dX8_proves_19 : decode cX8_proves 19 = .ok (.aload_n 0, 1) := by decide +kernel
theorem dX8_proves_20 : decode cX8_proves 20 = .ok (.getfield 7, 3) := by decide +kernel
theorem dX8_proves_23 : decode cX8_proves 23 = .ok (.bipush 48, 2) := by decide +kernel
theorem dX8_proves_25 : decode cX8_proves 25 = .ok (.iconst 2, 1) := by decide +kernel
theorem dX8_proves_26 : decode cX8_proves 26 = .ok (.aload_n 0, 1) := by decide +kernel
theorem dX8_proves_27 : decode cX8_proves 27 = .ok (.getfield 7, 3) := by decide +kernel
theorem dX8_proves_30 : decode cX8_proves 30 = .ok (.iconst 1, 1) := by decide +kernel
theorem dX8_proves_31 : decode cX8_proves 31 = .ok (.iaload, 1) := by decide +kernel
theorem dX8_proves_32 : decode cX8_proves 32 = .ok (.imul, 1) := by decide +kernel
theorem dX8_proves_33 : decode cX8_proves 33 = .ok (.iadd, 1) := by decide +kernel
theorem dX8_proves_34 : decode cX8_proves 34 = .ok (.iconst 1, 1) := by decide +kernel
theorem dX8_proves_35 : decode cX8_proves 35 = .ok (.iadd, 1) := by decide +kernel
theorem dX8_proves_36 : decode cX8_proves 36 = .ok (.aload_n 0, 1) := by decide +kernel
theorem dX8_proves_37 : decode cX8_proves 37 = .ok (.getfield 7, 3) := by decide +kernel
theorem dX8_proves_40 : decode cX8_proves 40 = .ok (.iconst 3, 1) := by decide +kernel
theorem dX8_proves_41 : decode cX8_proves 41 = .ok (.iaload, 1) := by decide +kernel
theorem dX8_proves_42 : decode cX8_proves 42 = .ok (.iastore, 1) := by decide +kernel
theorem dX8_proves_43 : decode cX8_proves 43 = .ok (.aload_n 0, 1) := by decide +kernel
theorem dX8_proves_44 : decode cX8_proves 44 = .ok (.getfield 7, 3) := by decide +kernel
theorem dX8_proves_47 : decode cX8_proves 47 = .ok (.iconst 1, 1) := by decide +kernel
theorem dX8_proves_48 : decode cX8_proves 48 = .ok (.dup2, 1) := by decide +kernel
theorem dX8_proves_49 : decode cX8_proves 49 = .ok (.iaload, 1) := by decide +kernel
theorem dX8_proves_50 : decode cX8_proves 50 = .ok (.iconst 1, 1) := by decide +kernel
theorem dX8_proves_51 : decode cX8_proves 51 = .ok (.iadd, 1) := by decide +kernel
theorem dX8_proves_52 : decode cX8_proves 52 = .ok (.iastore, 1) := by decide +kernel
theorem dX8_proves_53 : decode cX8_proves 53 = .ok (.aload_n 0, 1) := by decide +kernel
theorem dX8_proves_54 : decode cX8_proves 54 = .ok (.getfield 7, 3) := by decide +kernel
theorem dX8_proves_57 : decode cX8_proves 57 = .ok (.iconst 1, 1) := by decide +kernel
theorem dX8_proves_58 : decode cX8_proves 58 = .ok (.iaload, 1) := by decide +kernel
theorem dX8_proves_59 : decode cX8_proves 59 = .ok (.iconst 1, 1) := by decide +kernel
theorem dX8_proves_60 : decode cX8_proves 60 = .ok (.isub, 1) := by decide +kernel
theorem dX8_proves_61 : decode cX8_proves 61 = .ok (.ireturn, 1) := by decide +kernel
theorem dX8_addProof_0 : decode cX8_addProof 0 = .ok (.aload_n 0, 1) := by decide +kernel
theorem dX8_addProof_1 : decode cX8_addProof 1 = .ok (.invokevirtual 99, 3) := by decide +kernel
theorem dX8_addProof_4 : decode cX8_addProof 4 = .ok (.aload_n 0, 1) := by decide +kernel
theorem dX8_addProof_5 : decode cX8_addProof 5 = .ok (.iload_n 1, 1) := by decide +kernel
theorem dX8_addProof_6 : decode cX8_addProof 6 = .ok (.invokevirtual 210, 3) := by decide +kernel
theorem dX8_addProof_9 : decode cX8_addProof 9 = .ok (.istore_n 2, 1) := by decide +kernel
theorem dX8_addProof_10 : decode cX8_addProof 10 = .ok (.iload_n 2, 1) := by decide +kernel
theorem dX8_addProof_11 : decode cX8_addProof 11 = .ok (.ifCond .le 11, 3) := by decide +kernel
theorem dX8_addProof_14 : decode cX8_addProof 14 = .ok (.aload_n 0, 1) := by decide +kernel
theorem dX8_addProof_15 : decode cX8_addProof 15 = .ok (.iload_n 2, 1) := by decide +kernel
theorem dX8_addProof_16 : decode cX8_addProof 16 = .ok (.invokevirtual 106, 3) := by decide +kernel
theorem dX8_addProof_19 : decode cX8_addProof 19 = .ok (.goto 12, 3) := by decide +kernel
theorem dX8_addProof_22 : decode cX8_addProof 22 = .ok (.aload_n 0, 1) := by decide +kernel
theorem dX8_addProof_23 : decode cX8_addProof 23 = .ok (.aload_n 0, 1) := by decide +kernel
theorem dX8_addProof_24 : decode cX8_addProof 24 = .ok (.iload_n 1, 1) := by decide +kernel
theorem dX8_addProof_25 : decode cX8_addProof 25 = .ok (.invokevirtual 213, 3) := by decide +kernel
theorem dX8_addProof_28 : decode cX8_addProof 28 = .ok (.invokevirtual 113, 3) := by decide +kernel
theorem dX8_addProof_31 : decode cX8_addProof 31 = .ok (.ireturn, 1) := by decide +kernel
theorem dX8_drops_0 : decode cX8_drops 0 = .ok (.aload_n 0, 1) := by decide +kernel
theorem dX8_drops_1 : decode cX8_drops 1 = .ok (.getfield 7, 3) := by decide +kernel
theorem dX8_drops_4 : decode cX8_drops 4 = .ok (.iconst 1, 1) := by decide +kernel
theorem dX8_drops_5 : decode cX8_drops 5 = .ok (.dup2, 1) := by decide +kernel
theorem dX8_drops_6 : decode cX8_drops 6 = .ok (.iaload, 1) := by decide +kernel
theorem dX8_drops_7 : decode cX8_drops 7 = .ok (.iconst 1, 1) := by decide +kernel
theorem dX8_drops_8 : decode cX8_drops 8 = .ok (.isub, 1) := by decide +kernel
theorem dX8_drops_9 : decode cX8_drops 9 = .ok (.iastore, 1) := by decide +kernel
theorem dX8_drops_10 : decode cX8_drops 10 = .ok (.bipush 48, 2) := by decide +kernel
theorem dX8_drops_12 : decode cX8_drops 12 = .ok (.iconst 2, 1) := by decide +kernel
theorem dX8_drops_13 : decode cX8_drops 13 = .ok (.iload_n 1, 1) := by decide +kernel
theorem dX8_drops_14 : decode cX8_drops 14 = .ok (.imul, 1) := by decide +kernel
theorem dX8_drops_15 : decode cX8_drops 15 = .ok (.iadd, 1) := by decide +kernel
theorem dX8_drops_16 : decode cX8_drops 16 = .ok (.istore_n 2, 1) := by decide +kernel
theorem dX8_drops_17 : decode cX8_drops 17 = .ok (.iload_n 2, 1) := by decide +kernel
theorem dX8_drops_18 : decode cX8_drops 18 = .ok (.bipush 48, 2) := by decide +kernel
theorem dX8_drops_20 : decode cX8_drops 20 = .ok (.iconst 2, 1) := by decide +kernel
theorem dX8_drops_21 : decode cX8_drops 21 = .ok (.aload_n 0, 1) := by decide +kernel
theorem dX8_drops_22 : decode cX8_drops 22 = .ok (.getfield 7, 3) := by decide +kernel
theorem dX8_drops_25 : decode cX8_drops 25 = .ok (.iconst 1, 1) := by decide +kernel
theorem dX8_drops_26 : decode cX8_drops 26 = .ok (.iaload, 1) := by decide +kernel
theorem dX8_drops_27 : decode cX8_drops 27 = .ok (.imul, 1) := by decide +kernel
theorem dX8_drops_28 : decode cX8_drops 28 = .ok (.iadd, 1) := by decide +kernel
theorem dX8_drops_29 : decode cX8_drops 29 = .ok (.if_icmp .ge 23, 3) := by decide +kernel
theorem dX8_drops_32 : decode cX8_drops 32 = .ok (.aload_n 0, 1) := by decide +kernel
theorem dX8_drops_33 : decode cX8_drops 33 = .ok (.getfield 7, 3) := by decide +kernel
theorem dX8_drops_36 : decode cX8_drops 36 = .ok (.iload_n 2, 1) := by decide +kernel
theorem dX8_drops_37 : decode cX8_drops 37 = .ok (.aload_n 0, 1) := by decide +kernel
theorem dX8_drops_38 : decode cX8_drops 38 = .ok (.getfield 7, 3) := by decide +kernel
theorem dX8_drops_41 : decode cX8_drops 41 = .ok (.iload_n 2, 1) := by decide +kernel
theorem dX8_drops_42 : decode cX8_drops 42 = .ok (.iconst 2, 1) := by decide +kernel
theorem dX8_drops_43 : decode cX8_drops 43 = .ok (.iadd, 1) := by decide +kernel
theorem dX8_drops_44 : decode cX8_drops 44 = .ok (.iaload, 1) := by decide +kernel
theorem dX8_drops_45 : decode cX8_drops 45 = .ok (.iastore, 1) := by decide +kernel
theorem dX8_drops_46 : decode cX8_drops 46 = .ok (.iinc 2 1, 3) := by decide +kernel
theorem dX8_drops_49 : decode cX8_drops 49 = .ok (.goto (-32), 3) := by decide +kernel
theorem dX8_drops_52 : decode cX8_drops 52 = .ok (.aload_n 0, 1) := by decide +kernel
theorem dX8_drops_53 : decode cX8_drops 53 = .ok (.getfield 7, 3) := by decide +kernel
theorem dX8_drops_56 : decode cX8_drops 56 = .ok (.iconst 1, 1) := by decide +kernel
theorem dX8_drops_57 : decode cX8_drops 57 = .ok (.iaload, 1) := by decide +kernel
theorem dX8_drops_58 : decode cX8_drops 58 = .ok (.ireturn, 1) := by decide +kernel
theorem dX8_dropProof_0 : decode cX8_dropProof 0 = .ok (.aload_n 0, 1) := by decide +kernel
theorem dX8_dropProof_1 : decode cX8_dropProof 1 = .ok (.invokevirtual 99, 3) := by decide +kernel
theorem dX8_dropProof_4 : decode cX8_dropProof 4 = .ok (.aload_n 0, 1) := by decide +kernel
theorem dX8_dropProof_5 : decode cX8_dropProof 5 = .ok (.iload_n 1, 1) := by decide +kernel
theorem dX8_dropProof_6 : decode cX8_dropProof 6 = .ok (.invokevirtual 216, 3) := by decide +kernel
theorem dX8_dropProof_9 : decode cX8_dropProof 9 = .ok (.ifCond .eq 15, 3) := by decide +kernel
theorem dX8_dropProof_12 : decode cX8_dropProof 12 = .ok (.aload_n 0, 1) := by decide +kernel
theorem dX8_dropProof_13 : decode cX8_dropProof 13 = .ok (.aload_n 0, 1) := by decide +kernel
theorem dX8_dropProof_14 : decode cX8_dropProof 14 = .ok (.iload_n 1, 1) := by decide +kernel
theorem dX8_dropProof_15 : decode cX8_dropProof 15 = .ok (.invokevirtual 219, 3) := by decide +kernel
theorem dX8_dropProof_18 : decode cX8_dropProof 18 = .ok (.invokevirtual 113, 3) := by decide +kernel
theorem dX8_dropProof_21 : decode cX8_dropProof 21 = .ok (.goto 8, 3) := by decide +kernel
theorem dX8_dropProof_24 : decode cX8_dropProof 24 = .ok (.aload_n 0, 1) := by decide +kernel
theorem dX8_dropProof_25 : decode cX8_dropProof 25 = .ok (.iconst 1, 1) := by decide +kernel
theorem dX8_dropProof_26 : decode cX8_dropProof 26 = .ok (.invokevirtual 106, 3) := by decide +kernel
theorem dX8_dropProof_29 : decode cX8_dropProof 29 = .ok (.ireturn, 1) := by decide +kernel
theorem dX8_proofCount_0 : decode cX8_proofCount 0 = .ok (.aload_n 0, 1) := by decide +kernel
theorem dX8_proofCount_1 : decode cX8_proofCount 1 = .ok (.aload_n 0, 1) := by decide +kernel
theorem dX8_proofCount_2 : decode cX8_proofCount 2 = .ok (.getfield 7, 3) := by decide +kernel
theorem dX8_proofCount_5 : decode cX8_proofCount 5 = .ok (.iconst 1, 1) := by decide +kernel
theorem dX8_proofCount_6 : decode cX8_proofCount 6 = .ok (.iaload, 1) := by decide +kernel
theorem dX8_proofCount_7 : decode cX8_proofCount 7 = .ok (.invokevirtual 129, 3) := by decide +kernel
theorem dX8_proofCount_10 : decode cX8_proofCount 10 = .ok (.ireturn, 1) := by decide +kernel
theorem dX8_marksOf_0 : decode cX8_marksOf 0 = .ok (.aload_n 0, 1) := by decide +kernel
theorem dX8_marksOf_1 : decode cX8_marksOf 1 = .ok (.aload_n 0, 1) := by decide +kernel
theorem dX8_marksOf_2 : decode cX8_marksOf 2 = .ok (.iload_n 1, 1) := by decide +kernel
theorem dX8_marksOf_3 : decode cX8_marksOf 3 = .ok (.invokevirtual 216, 3) := by decide +kernel
theorem dX8_marksOf_6 : decode cX8_marksOf 6 = .ok (.invokevirtual 125, 3) := by decide +kernel
theorem dX8_marksOf_9 : decode cX8_marksOf 9 = .ok (.ifCond .le 7, 3) := by decide +kernel
theorem dX8_marksOf_12 : decode cX8_marksOf 12 = .ok (.iconst 0, 1) := by decide +kernel
theorem dX8_marksOf_13 : decode cX8_marksOf 13 = .ok (.goto 9, 3) := by decide +kernel
theorem dX8_marksOf_16 : decode cX8_marksOf 16 = .ok (.aload_n 0, 1) := by decide +kernel
theorem dX8_marksOf_17 : decode cX8_marksOf 17 = .ok (.iload_n 1, 1) := by decide +kernel
theorem dX8_marksOf_18 : decode cX8_marksOf 18 = .ok (.iconst 0, 1) := by decide +kernel
theorem dX8_marksOf_19 : decode cX8_marksOf 19 = .ok (.invokevirtual 222, 3) := by decide +kernel
theorem dX8_marksOf_22 : decode cX8_marksOf 22 = .ok (.ireturn, 1) := by decide +kernel
theorem dX8_hourOf_0 : decode cX8_hourOf 0 = .ok (.aload_n 0, 1) := by decide +kernel
theorem dX8_hourOf_1 : decode cX8_hourOf 1 = .ok (.aload_n 0, 1) := by decide +kernel
theorem dX8_hourOf_2 : decode cX8_hourOf 2 = .ok (.iload_n 1, 1) := by decide +kernel
theorem dX8_hourOf_3 : decode cX8_hourOf 3 = .ok (.invokevirtual 216, 3) := by decide +kernel
theorem dX8_hourOf_6 : decode cX8_hourOf 6 = .ok (.invokevirtual 125, 3) := by decide +kernel
theorem dX8_hourOf_9 : decode cX8_hourOf 9 = .ok (.ifCond .le 7, 3) := by decide +kernel
theorem dX8_hourOf_12 : decode cX8_hourOf 12 = .ok (.iconst 0, 1) := by decide +kernel
theorem dX8_hourOf_13 : decode cX8_hourOf 13 = .ok (.goto 9, 3) := by decide +kernel
theorem dX8_hourOf_16 : decode cX8_hourOf 16 = .ok (.aload_n 0, 1) := by decide +kernel
theorem dX8_hourOf_17 : decode cX8_hourOf 17 = .ok (.iload_n 1, 1) := by decide +kernel
theorem dX8_hourOf_18 : decode cX8_hourOf 18 = .ok (.iconst 1, 1) := by decide +kernel
theorem dX8_hourOf_19 : decode cX8_hourOf 19 = .ok (.invokevirtual 222, 3) := by decide +kernel
theorem dX8_hourOf_22 : decode cX8_hourOf 22 = .ok (.ireturn, 1) := by decide +kernel
theorem dX8_rises_0 : decode cX8_rises 0 = .ok (.iconst 0, 1) := by decide +kernel
theorem dX8_rises_1 : decode cX8_rises 1 = .ok (.istore_n 1, 1) := by decide +kernel
theorem dX8_rises_2 : decode cX8_rises 2 = .ok (.iconst 0, 1) := by decide +kernel
theorem dX8_rises_3 : decode cX8_rises 3 = .ok (.istore_n 2, 1) := by decide +kernel
theorem dX8_rises_4 : decode cX8_rises 4 = .ok (.iload_n 2, 1) := by decide +kernel
theorem dX8_rises_5 : decode cX8_rises 5 = .ok (.aload_n 0, 1) := by decide +kernel
theorem dX8_rises_6 : decode cX8_rises 6 = .ok (.getfield 7, 3) := by decide +kernel
theorem dX8_rises_9 : decode cX8_rises 9 = .ok (.iconst 1, 1) := by decide +kernel
theorem dX8_rises_10 : decode cX8_rises 10 = .ok (.iaload, 1) := by decide +kernel
theorem dX8_rises_11 : decode cX8_rises 11 = .ok (.if_icmp .ge 151, 3) := by decide +kernel
theorem dX8_rises_14 : decode cX8_rises 14 = .ok (.aload_n 0, 1) := by decide +kernel
theorem dX8_rises_15 : decode cX8_rises 15 = .ok (.getfield 28, 3) := by decide +kernel
theorem dX8_rises_18 : decode cX8_rises 18 = .ok (.iload_n 2, 1) := by decide +kernel
theorem dX8_rises_19 : decode cX8_rises 19 = .ok (.iconst 1, 1) := by decide +kernel
theorem dX8_rises_20 : decode cX8_rises 20 = .ok (.iastore, 1) := by decide +kernel
theorem dX8_rises_21 : decode cX8_rises 21 = .ok (.aload_n 0, 1) := by decide +kernel
theorem dX8_rises_22 : decode cX8_rises 22 = .ok (.getfield 31, 3) := by decide +kernel
theorem dX8_rises_25 : decode cX8_rises 25 = .ok (.iload_n 2, 1) := by decide +kernel
theorem dX8_rises_26 : decode cX8_rises 26 = .ok (.iconst 1, 1) := by decide +kernel
theorem dX8_rises_27 : decode cX8_rises 27 = .ok (.iastore, 1) := by decide +kernel
theorem dX8_rises_28 : decode cX8_rises 28 = .ok (.iconst 0, 1) := by decide +kernel
theorem dX8_rises_29 : decode cX8_rises 29 = .ok (.istore_n 3, 1) := by decide +kernel
theorem dX8_rises_30 : decode cX8_rises 30 = .ok (.iload_n 3, 1) := by decide +kernel
theorem dX8_rises_31 : decode cX8_rises 31 = .ok (.iload_n 2, 1) := by decide +kernel
theorem dX8_rises_32 : decode cX8_rises 32 = .ok (.if_icmp .ge 103, 3) := by decide +kernel
theorem dX8_rises_35 : decode cX8_rises 35 = .ok (.aload_n 0, 1) := by decide +kernel
theorem dX8_rises_36 : decode cX8_rises 36 = .ok (.iload_n 3, 1) := by decide +kernel
theorem dX8_rises_37 : decode cX8_rises 37 = .ok (.iconst 0, 1) := by decide +kernel
theorem dX8_rises_38 : decode cX8_rises 38 = .ok (.invokevirtual 222, 3) := by decide +kernel
theorem dX8_rises_41 : decode cX8_rises 41 = .ok (.aload_n 0, 1) := by decide +kernel
theorem dX8_rises_42 : decode cX8_rises 42 = .ok (.iload_n 2, 1) := by decide +kernel
theorem dX8_rises_43 : decode cX8_rises 43 = .ok (.iconst 0, 1) := by decide +kernel
theorem dX8_rises_44 : decode cX8_rises 44 = .ok (.invokevirtual 222, 3) := by decide +kernel
theorem dX8_rises_47 : decode cX8_rises 47 = .ok (.if_icmp .ge 82, 3) := by decide +kernel
theorem dX8_rises_50 : decode cX8_rises 50 = .ok (.aload_n 0, 1) := by decide +kernel
theorem dX8_rises_51 : decode cX8_rises 51 = .ok (.getfield 28, 3) := by decide +kernel
theorem dX8_rises_54 : decode cX8_rises 54 = .ok (.iload_n 3, 1) := by decide +kernel
theorem dX8_rises_55 : decode cX8_rises 55 = .ok (.iaload, 1) := by decide +kernel
theorem dX8_rises_56 : decode cX8_rises 56 = .ok (.iconst 1, 1) := by decide +kernel
theorem dX8_rises_57 : decode cX8_rises 57 = .ok (.iadd, 1) := by decide +kernel
theorem dX8_rises_58 : decode cX8_rises 58 = .ok (.aload_n 0, 1) := by decide +kernel
theorem dX8_rises_59 : decode cX8_rises 59 = .ok (.getfield 28, 3) := by decide +kernel
theorem dX8_rises_62 : decode cX8_rises 62 = .ok (.iload_n 2, 1) := by decide +kernel
theorem dX8_rises_63 : decode cX8_rises 63 = .ok (.iaload, 1) := by decide +kernel
theorem dX8_rises_64 : decode cX8_rises 64 = .ok (.if_icmp .ge 6, 3) := by decide +kernel
theorem dX8_rises_67 : decode cX8_rises 67 = .ok (.goto 62, 3) := by decide +kernel
theorem dX8_rises_70 : decode cX8_rises 70 = .ok (.aload_n 0, 1) := by decide +kernel
theorem dX8_rises_71 : decode cX8_rises 71 = .ok (.getfield 31, 3) := by decide +kernel
theorem dX8_rises_74 : decode cX8_rises 74 = .ok (.iload_n 2, 1) := by decide +kernel
theorem dX8_rises_75 : decode cX8_rises 75 = .ok (.aload_n 0, 1) := by decide +kernel
theorem dX8_rises_76 : decode cX8_rises 76 = .ok (.getfield 28, 3) := by decide +kernel
theorem dX8_rises_79 : decode cX8_rises 79 = .ok (.iload_n 3, 1) := by decide +kernel
theorem dX8_rises_80 : decode cX8_rises 80 = .ok (.iaload, 1) := by decide +kernel
theorem dX8_rises_81 : decode cX8_rises 81 = .ok (.iconst 1, 1) := by decide +kernel
theorem dX8_rises_82 : decode cX8_rises 82 = .ok (.iadd, 1) := by decide +kernel
theorem dX8_rises_83 : decode cX8_rises 83 = .ok (.aload_n 0, 1) := by decide +kernel
theorem dX8_rises_84 : decode cX8_rises 84 = .ok (.getfield 28, 3) := by decide +kernel
theorem dX8_rises_87 : decode cX8_rises 87 = .ok (.iload_n 2, 1) := by decide +kernel
theorem dX8_rises_88 : decode cX8_rises 88 = .ok (.iaload, 1) := by decide +kernel
theorem dX8_rises_89 : decode cX8_rises 89 = .ok (.if_icmp .le 12, 3) := by decide +kernel
theorem dX8_rises_92 : decode cX8_rises 92 = .ok (.aload_n 0, 1) := by decide +kernel
theorem dX8_rises_93 : decode cX8_rises 93 = .ok (.getfield 31, 3) := by decide +kernel
theorem dX8_rises_96 : decode cX8_rises 96 = .ok (.iload_n 3, 1) := by decide +kernel
theorem dX8_rises_97 : decode cX8_rises 97 = .ok (.iaload, 1) := by decide +kernel
theorem dX8_rises_98 : decode cX8_rises 98 = .ok (.goto 16, 3) := by decide +kernel
theorem dX8_rises_101 : decode cX8_rises 101 = .ok (.aload_n 0, 1) := by decide +kernel
theorem dX8_rises_102 : decode cX8_rises 102 = .ok (.getfield 31, 3) := by decide +kernel
theorem dX8_rises_105 : decode cX8_rises 105 = .ok (.iload_n 2, 1) := by decide +kernel
theorem dX8_rises_106 : decode cX8_rises 106 = .ok (.iaload, 1) := by decide +kernel
theorem dX8_rises_107 : decode cX8_rises 107 = .ok (.aload_n 0, 1) := by decide +kernel
theorem dX8_rises_108 : decode cX8_rises 108 = .ok (.getfield 31, 3) := by decide +kernel
theorem dX8_rises_111 : decode cX8_rises 111 = .ok (.iload_n 3, 1) := by decide +kernel
theorem dX8_rises_112 : decode cX8_rises 112 = .ok (.iaload, 1) := by decide +kernel
theorem dX8_rises_113 : decode cX8_rises 113 = .ok (.iadd, 1) := by decide +kernel
theorem dX8_rises_114 : decode cX8_rises 114 = .ok (.iastore, 1) := by decide +kernel
theorem dX8_rises_115 : decode cX8_rises 115 = .ok (.aload_n 0, 1) := by decide +kernel
theorem dX8_rises_116 : decode cX8_rises 116 = .ok (.getfield 28, 3) := by decide +kernel
theorem dX8_rises_119 : decode cX8_rises 119 = .ok (.iload_n 2, 1) := by decide +kernel
theorem dX8_rises_120 : decode cX8_rises 120 = .ok (.aload_n 0, 1) := by decide +kernel
theorem dX8_rises_121 : decode cX8_rises 121 = .ok (.getfield 28, 3) := by decide +kernel
theorem dX8_rises_124 : decode cX8_rises 124 = .ok (.iload_n 3, 1) := by decide +kernel
theorem dX8_rises_125 : decode cX8_rises 125 = .ok (.iaload, 1) := by decide +kernel
theorem dX8_rises_126 : decode cX8_rises 126 = .ok (.iconst 1, 1) := by decide +kernel
theorem dX8_rises_127 : decode cX8_rises 127 = .ok (.iadd, 1) := by decide +kernel
theorem dX8_rises_128 : decode cX8_rises 128 = .ok (.iastore, 1) := by decide +kernel
theorem dX8_rises_129 : decode cX8_rises 129 = .ok (.iinc 3 1, 3) := by decide +kernel
theorem dX8_rises_132 : decode cX8_rises 132 = .ok (.goto (-102), 3) := by decide +kernel
theorem dX8_rises_135 : decode cX8_rises 135 = .ok (.aload_n 0, 1) := by decide +kernel
theorem dX8_rises_136 : decode cX8_rises 136 = .ok (.getfield 28, 3) := by decide +kernel
theorem dX8_rises_139 : decode cX8_rises 139 = .ok (.iload_n 2, 1) := by decide +kernel
theorem dX8_rises_140 : decode cX8_rises 140 = .ok (.iaload, 1) := by decide +kernel
theorem dX8_rises_141 : decode cX8_rises 141 = .ok (.iload_n 1, 1) := by decide +kernel
theorem dX8_rises_142 : decode cX8_rises 142 = .ok (.if_icmp .le 12, 3) := by decide +kernel
theorem dX8_rises_145 : decode cX8_rises 145 = .ok (.aload_n 0, 1) := by decide +kernel
theorem dX8_rises_146 : decode cX8_rises 146 = .ok (.getfield 28, 3) := by decide +kernel
theorem dX8_rises_149 : decode cX8_rises 149 = .ok (.iload_n 2, 1) := by decide +kernel
theorem dX8_rises_150 : decode cX8_rises 150 = .ok (.iaload, 1) := by decide +kernel
theorem dX8_rises_151 : decode cX8_rises 151 = .ok (.goto 4, 3) := by decide +kernel
theorem dX8_rises_154 : decode cX8_rises 154 = .ok (.iload_n 1, 1) := by decide +kernel
theorem dX8_rises_155 : decode cX8_rises 155 = .ok (.istore_n 1, 1) := by decide +kernel
theorem dX8_rises_156 : decode cX8_rises 156 = .ok (.iinc 2 1, 3) := by decide +kernel
theorem dX8_rises_159 : decode cX8_rises 159 = .ok (.goto (-155), 3) := by decide +kernel
theorem dX8_rises_162 : decode cX8_rises 162 = .ok (.iload_n 1, 1) := by decide +kernel
theorem dX8_rises_163 : decode cX8_rises 163 = .ok (.ireturn, 1) := by decide +kernel
theorem dX8_longestRise_0 : decode cX8_longestRise 0 = .ok (.aload_n 0, 1) := by decide +kernel
theorem dX8_longestRise_1 : decode cX8_longestRise 1 = .ok (.aload_n 0, 1) := by decide +kernel
theorem dX8_longestRise_2 : decode cX8_longestRise 2 = .ok (.invokevirtual 225, 3) := by decide +kernel
theorem dX8_longestRise_5 : decode cX8_longestRise 5 = .ok (.invokevirtual 129, 3) := by decide +kernel
theorem dX8_longestRise_8 : decode cX8_longestRise 8 = .ok (.ireturn, 1) := by decide +kernel
theorem dX8_riseByEnds_0 : decode cX8_riseByEnds 0 = .ok (.aload_n 0, 1) := by decide +kernel
theorem dX8_riseByEnds_1 : decode cX8_riseByEnds 1 = .ok (.aload_n 0, 1) := by decide +kernel
theorem dX8_riseByEnds_2 : decode cX8_riseByEnds 2 = .ok (.invokevirtual 225, 3) := by decide +kernel
theorem dX8_riseByEnds_5 : decode cX8_riseByEnds 5 = .ok (.invokevirtual 129, 3) := by decide +kernel
theorem dX8_riseByEnds_8 : decode cX8_riseByEnds 8 = .ok (.ireturn, 1) := by decide +kernel
theorem dX8_riseCount_0 : decode cX8_riseCount 0 = .ok (.aload_n 0, 1) := by decide +kernel
theorem dX8_riseCount_1 : decode cX8_riseCount 1 = .ok (.iconst 0, 1) := by decide +kernel
theorem dX8_riseCount_2 : decode cX8_riseCount 2 = .ok (.putfield 37, 3) := by decide +kernel
theorem dX8_riseCount_5 : decode cX8_riseCount 5 = .ok (.aload_n 0, 1) := by decide +kernel
theorem dX8_riseCount_6 : decode cX8_riseCount 6 = .ok (.invokevirtual 225, 3) := by decide +kernel
theorem dX8_riseCount_9 : decode cX8_riseCount 9 = .ok (.istore_n 1, 1) := by decide +kernel
theorem dX8_riseCount_10 : decode cX8_riseCount 10 = .ok (.iload_n 1, 1) := by decide +kernel
theorem dX8_riseCount_11 : decode cX8_riseCount 11 = .ok (.ifCond .ne 7, 3) := by decide +kernel
theorem dX8_riseCount_14 : decode cX8_riseCount 14 = .ok (.iconst 1, 1) := by decide +kernel
theorem dX8_riseCount_15 : decode cX8_riseCount 15 = .ok (.goto 4, 3) := by decide +kernel
theorem dX8_riseCount_18 : decode cX8_riseCount 18 = .ok (.iconst 0, 1) := by decide +kernel
theorem dX8_riseCount_19 : decode cX8_riseCount 19 = .ok (.istore_n 2, 1) := by decide +kernel
theorem dX8_riseCount_20 : decode cX8_riseCount 20 = .ok (.iconst 0, 1) := by decide +kernel
theorem dX8_riseCount_21 : decode cX8_riseCount 21 = .ok (.istore_n 3, 1) := by decide +kernel
theorem dX8_riseCount_22 : decode cX8_riseCount 22 = .ok (.iload_n 3, 1) := by decide +kernel
theorem dX8_riseCount_23 : decode cX8_riseCount 23 = .ok (.aload_n 0, 1) := by decide +kernel
theorem dX8_riseCount_24 : decode cX8_riseCount 24 = .ok (.getfield 7, 3) := by decide +kernel
theorem dX8_riseCount_27 : decode cX8_riseCount 27 = .ok (.iconst 1, 1) := by decide +kernel
theorem dX8_riseCount_28 : decode cX8_riseCount 28 = .ok (.iaload, 1) := by decide +kernel
theorem dX8_riseCount_29 : decode cX8_riseCount 29 = .ok (.if_icmp .ge 32, 3) := by decide +kernel
theorem dX8_riseCount_32 : decode cX8_riseCount 32 = .ok (.iload_n 2, 1) := by decide +kernel
theorem dX8_riseCount_33 : decode cX8_riseCount 33 = .ok (.aload_n 0, 1) := by decide +kernel
theorem dX8_riseCount_34 : decode cX8_riseCount 34 = .ok (.getfield 28, 3) := by decide +kernel
theorem dX8_riseCount_37 : decode cX8_riseCount 37 = .ok (.iload_n 3, 1) := by decide +kernel
theorem dX8_riseCount_38 : decode cX8_riseCount 38 = .ok (.iaload, 1) := by decide +kernel
theorem dX8_riseCount_39 : decode cX8_riseCount 39 = .ok (.iload_n 1, 1) := by decide +kernel
theorem dX8_riseCount_40 : decode cX8_riseCount 40 = .ok (.if_icmp .ne 12, 3) := by decide +kernel
theorem dX8_riseCount_43 : decode cX8_riseCount 43 = .ok (.aload_n 0, 1) := by decide +kernel
theorem dX8_riseCount_44 : decode cX8_riseCount 44 = .ok (.getfield 31, 3) := by decide +kernel
theorem dX8_riseCount_47 : decode cX8_riseCount 47 = .ok (.iload_n 3, 1) := by decide +kernel
theorem dX8_riseCount_48 : decode cX8_riseCount 48 = .ok (.iaload, 1) := by decide +kernel
theorem dX8_riseCount_49 : decode cX8_riseCount 49 = .ok (.goto 4, 3) := by decide +kernel
theorem dX8_riseCount_52 : decode cX8_riseCount 52 = .ok (.iconst 0, 1) := by decide +kernel
theorem dX8_riseCount_53 : decode cX8_riseCount 53 = .ok (.iadd, 1) := by decide +kernel
theorem dX8_riseCount_54 : decode cX8_riseCount 54 = .ok (.istore_n 2, 1) := by decide +kernel
theorem dX8_riseCount_55 : decode cX8_riseCount 55 = .ok (.iinc 3 1, 3) := by decide +kernel
theorem dX8_riseCount_58 : decode cX8_riseCount 58 = .ok (.goto (-36), 3) := by decide +kernel
theorem dX8_riseCount_61 : decode cX8_riseCount 61 = .ok (.iload_n 2, 1) := by decide +kernel
theorem dX8_riseCount_62 : decode cX8_riseCount 62 = .ok (.ireturn, 1) := by decide +kernel
theorem dX8_minutes_0 : decode cX8_minutes 0 = .ok (.aload_n 0, 1) := by decide +kernel
theorem dX8_minutes_1 : decode cX8_minutes 1 = .ok (.aload_n 0, 1) := by decide +kernel
theorem dX8_minutes_2 : decode cX8_minutes 2 = .ok (.getfield 7, 3) := by decide +kernel
theorem dX8_minutes_5 : decode cX8_minutes 5 = .ok (.iconst 5, 1) := by decide +kernel
theorem dX8_minutes_6 : decode cX8_minutes 6 = .ok (.iaload, 1) := by decide +kernel
theorem dX8_minutes_7 : decode cX8_minutes 7 = .ok (.invokevirtual 129, 3) := by decide +kernel
theorem dX8_minutes_10 : decode cX8_minutes 10 = .ok (.ireturn, 1) := by decide +kernel
theorem dX8_poured_0 : decode cX8_poured 0 = .ok (.aload_n 0, 1) := by decide +kernel
theorem dX8_poured_1 : decode cX8_poured 1 = .ok (.aload_n 0, 1) := by decide +kernel
theorem dX8_poured_2 : decode cX8_poured 2 = .ok (.getfield 7, 3) := by decide +kernel
theorem dX8_poured_5 : decode cX8_poured 5 = .ok (.bipush 6, 2) := by decide +kernel
theorem dX8_poured_7 : decode cX8_poured 7 = .ok (.iaload, 1) := by decide +kernel
theorem dX8_poured_8 : decode cX8_poured 8 = .ok (.invokevirtual 129, 3) := by decide +kernel
theorem dX8_poured_11 : decode cX8_poured 11 = .ok (.ireturn, 1) := by decide +kernel
theorem dX8_used_0 : decode cX8_used 0 = .ok (.aload_n 0, 1) := by decide +kernel
theorem dX8_used_1 : decode cX8_used 1 = .ok (.aload_n 0, 1) := by decide +kernel
theorem dX8_used_2 : decode cX8_used 2 = .ok (.getfield 7, 3) := by decide +kernel
theorem dX8_used_5 : decode cX8_used 5 = .ok (.bipush 7, 2) := by decide +kernel
theorem dX8_used_7 : decode cX8_used 7 = .ok (.iaload, 1) := by decide +kernel
theorem dX8_used_8 : decode cX8_used 8 = .ok (.invokevirtual 129, 3) := by decide +kernel
theorem dX8_used_11 : decode cX8_used 11 = .ok (.ireturn, 1) := by decide +kernel
theorem dX8_faded_0 : decode cX8_faded 0 = .ok (.aload_n 0, 1) := by decide +kernel
theorem dX8_faded_1 : decode cX8_faded 1 = .ok (.iconst 0, 1) := by decide +kernel
theorem dX8_faded_2 : decode cX8_faded 2 = .ok (.putfield 37, 3) := by decide +kernel
theorem dX8_faded_5 : decode cX8_faded 5 = .ok (.aload_n 0, 1) := by decide +kernel
theorem dX8_faded_6 : decode cX8_faded 6 = .ok (.getfield 7, 3) := by decide +kernel
theorem dX8_faded_9 : decode cX8_faded 9 = .ok (.bipush 18, 2) := by decide +kernel
theorem dX8_faded_11 : decode cX8_faded 11 = .ok (.iaload, 1) := by decide +kernel
theorem dX8_faded_12 : decode cX8_faded 12 = .ok (.i2l, 1) := by decide +kernel
theorem dX8_faded_13 : decode cX8_faded 13 = .ok (.lreturn, 1) := by decide +kernel
theorem dX8_inkInWells_0 : decode cX8_inkInWells 0 = .ok (.aload_n 0, 1) := by decide +kernel
theorem dX8_inkInWells_1 : decode cX8_inkInWells 1 = .ok (.iconst 0, 1) := by decide +kernel
theorem dX8_inkInWells_2 : decode cX8_inkInWells 2 = .ok (.putfield 37, 3) := by decide +kernel
theorem dX8_inkInWells_5 : decode cX8_inkInWells 5 = .ok (.iconst 0, 1) := by decide +kernel
theorem dX8_inkInWells_6 : decode cX8_inkInWells 6 = .ok (.istore_n 1, 1) := by decide +kernel
theorem dX8_inkInWells_7 : decode cX8_inkInWells 7 = .ok (.iconst 0, 1) := by decide +kernel
theorem dX8_inkInWells_8 : decode cX8_inkInWells 8 = .ok (.istore_n 2, 1) := by decide +kernel
theorem dX8_inkInWells_9 : decode cX8_inkInWells 9 = .ok (.iload_n 2, 1) := by decide +kernel
theorem dX8_inkInWells_10 : decode cX8_inkInWells 10 = .ok (.bipush 10, 2) := by decide +kernel
theorem dX8_inkInWells_12 : decode cX8_inkInWells 12 = .ok (.if_icmp .ge 21, 3) := by decide +kernel
theorem dX8_inkInWells_15 : decode cX8_inkInWells 15 = .ok (.iload_n 1, 1) := by decide +kernel
theorem dX8_inkInWells_16 : decode cX8_inkInWells 16 = .ok (.aload_n 0, 1) := by decide +kernel
theorem dX8_inkInWells_17 : decode cX8_inkInWells 17 = .ok (.getfield 7, 3) := by decide +kernel
theorem dX8_inkInWells_20 : decode cX8_inkInWells 20 = .ok (.bipush 8, 2) := by decide +kernel
theorem dX8_inkInWells_22 : decode cX8_inkInWells 22 = .ok (.iload_n 2, 1) := by decide +kernel
theorem dX8_inkInWells_23 : decode cX8_inkInWells 23 = .ok (.iadd, 1) := by decide +kernel
theorem dX8_inkInWells_24 : decode cX8_inkInWells 24 = .ok (.iaload, 1) := by decide +kernel
theorem dX8_inkInWells_25 : decode cX8_inkInWells 25 = .ok (.iadd, 1) := by decide +kernel
theorem dX8_inkInWells_26 : decode cX8_inkInWells 26 = .ok (.istore_n 1, 1) := by decide +kernel
theorem dX8_inkInWells_27 : decode cX8_inkInWells 27 = .ok (.iinc 2 1, 3) := by decide +kernel
theorem dX8_inkInWells_30 : decode cX8_inkInWells 30 = .ok (.goto (-21), 3) := by decide +kernel
theorem dX8_inkInWells_33 : decode cX8_inkInWells 33 = .ok (.iload_n 1, 1) := by decide +kernel
theorem dX8_inkInWells_34 : decode cX8_inkInWells 34 = .ok (.ireturn, 1) := by decide +kernel
theorem dX8_meanRun_0 : decode cX8_meanRun 0 = .ok (.aload_n 0, 1) := by decide +kernel
theorem dX8_meanRun_1 : decode cX8_meanRun 1 = .ok (.aload_n 0, 1) := by decide +kernel
theorem dX8_meanRun_2 : decode cX8_meanRun 2 = .ok (.getfield 7, 3) := by decide +kernel
theorem dX8_meanRun_5 : decode cX8_meanRun 5 = .ok (.iconst 0, 1) := by decide +kernel
theorem dX8_meanRun_6 : decode cX8_meanRun 6 = .ok (.iaload, 1) := by decide +kernel
theorem dX8_meanRun_7 : decode cX8_meanRun 7 = .ok (.ifCond .le 7, 3) := by decide +kernel
theorem dX8_meanRun_10 : decode cX8_meanRun 10 = .ok (.iconst 1, 1) := by decide +kernel
theorem dX8_meanRun_11 : decode cX8_meanRun 11 = .ok (.goto 4, 3) := by decide +kernel
theorem dX8_meanRun_14 : decode cX8_meanRun 14 = .ok (.iconst 0, 1) := by decide +kernel
theorem dX8_meanRun_15 : decode cX8_meanRun 15 = .ok (.invokevirtual 125, 3) := by decide +kernel
theorem dX8_meanRun_18 : decode cX8_meanRun 18 = .ok (.ifCond .le 5, 3) := by decide +kernel
theorem dX8_meanRun_21 : decode cX8_meanRun 21 = .ok (.dconst 0, 1) := by decide +kernel
theorem dX8_meanRun_22 : decode cX8_meanRun 22 = .ok (.dreturn, 1) := by decide +kernel
theorem dX8_meanRun_23 : decode cX8_meanRun 23 = .ok (.iconst 0, 1) := by decide +kernel
theorem dX8_meanRun_24 : decode cX8_meanRun 24 = .ok (.istore_n 1, 1) := by decide +kernel
theorem dX8_meanRun_25 : decode cX8_meanRun 25 = .ok (.iconst 0, 1) := by decide +kernel
theorem dX8_meanRun_26 : decode cX8_meanRun 26 = .ok (.istore_n 2, 1) := by decide +kernel
theorem dX8_meanRun_27 : decode cX8_meanRun 27 = .ok (.iload_n 2, 1) := by decide +kernel
theorem dX8_meanRun_28 : decode cX8_meanRun 28 = .ok (.aload_n 0, 1) := by decide +kernel
theorem dX8_meanRun_29 : decode cX8_meanRun 29 = .ok (.getfield 7, 3) := by decide +kernel
theorem dX8_meanRun_32 : decode cX8_meanRun 32 = .ok (.iconst 0, 1) := by decide +kernel
theorem dX8_meanRun_33 : decode cX8_meanRun 33 = .ok (.iaload, 1) := by decide +kernel
theorem dX8_meanRun_34 : decode cX8_meanRun 34 = .ok (.if_icmp .ge 18, 3) := by decide +kernel
theorem dX8_meanRun_37 : decode cX8_meanRun 37 = .ok (.iload_n 1, 1) := by decide +kernel
theorem dX8_meanRun_38 : decode cX8_meanRun 38 = .ok (.aload_n 0, 1) := by decide +kernel
theorem dX8_meanRun_39 : decode cX8_meanRun 39 = .ok (.iload_n 2, 1) := by decide +kernel
theorem dX8_meanRun_40 : decode cX8_meanRun 40 = .ok (.iconst 1, 1) := by decide +kernel
theorem dX8_meanRun_41 : decode cX8_meanRun 41 = .ok (.invokevirtual 138, 3) := by decide +kernel
theorem dX8_meanRun_44 : decode cX8_meanRun 44 = .ok (.iadd, 1) := by decide +kernel
theorem dX8_meanRun_45 : decode cX8_meanRun 45 = .ok (.istore_n 1, 1) := by decide +kernel
theorem dX8_meanRun_46 : decode cX8_meanRun 46 = .ok (.iinc 2 1, 3) := by decide +kernel
theorem dX8_meanRun_49 : decode cX8_meanRun 49 = .ok (.goto (-22), 3) := by decide +kernel
theorem dX8_meanRun_52 : decode cX8_meanRun 52 = .ok (.iload_n 1, 1) := by decide +kernel
theorem dX8_meanRun_53 : decode cX8_meanRun 53 = .ok (.i2d, 1) := by decide +kernel
theorem dX8_meanRun_54 : decode cX8_meanRun 54 = .ok (.aload_n 0, 1) := by decide +kernel
theorem dX8_meanRun_55 : decode cX8_meanRun 55 = .ok (.getfield 7, 3) := by decide +kernel
theorem dX8_meanRun_58 : decode cX8_meanRun 58 = .ok (.iconst 0, 1) := by decide +kernel
theorem dX8_meanRun_59 : decode cX8_meanRun 59 = .ok (.iaload, 1) := by decide +kernel
theorem dX8_meanRun_60 : decode cX8_meanRun 60 = .ok (.i2d, 1) := by decide +kernel
theorem dX8_meanRun_61 : decode cX8_meanRun 61 = .ok (.ddiv, 1) := by decide +kernel
theorem dX8_meanRun_62 : decode cX8_meanRun 62 = .ok (.dreturn, 1) := by decide +kernel
theorem dX8_fadedShare_0 : decode cX8_fadedShare 0 = .ok (.aload_n 0, 1) := by decide +kernel
theorem dX8_fadedShare_1 : decode cX8_fadedShare 1 = .ok (.aload_n 0, 1) := by decide +kernel
theorem dX8_fadedShare_2 : decode cX8_fadedShare 2 = .ok (.getfield 7, 3) := by decide +kernel
theorem dX8_fadedShare_5 : decode cX8_fadedShare 5 = .ok (.bipush 6, 2) := by decide +kernel
theorem dX8_fadedShare_7 : decode cX8_fadedShare 7 = .ok (.iaload, 1) := by decide +kernel
theorem dX8_fadedShare_8 : decode cX8_fadedShare 8 = .ok (.ifCond .le 7, 3) := by decide +kernel
theorem dX8_fadedShare_11 : decode cX8_fadedShare 11 = .ok (.iconst 1, 1) := by decide +kernel
theorem dX8_fadedShare_12 : decode cX8_fadedShare 12 = .ok (.goto 4, 3) := by decide +kernel
theorem dX8_fadedShare_15 : decode cX8_fadedShare 15 = .ok (.iconst 0, 1) := by decide +kernel
theorem dX8_fadedShare_16 : decode cX8_fadedShare 16 = .ok (.invokevirtual 125, 3) := by decide +kernel
theorem dX8_fadedShare_19 : decode cX8_fadedShare 19 = .ok (.ifCond .le 7, 3) := by decide +kernel
theorem dX8_fadedShare_22 : decode cX8_fadedShare 22 = .ok (.fconst 0, 1) := by decide +kernel
theorem dX8_fadedShare_23 : decode cX8_fadedShare 23 = .ok (.goto 20, 3) := by decide +kernel
theorem dX8_fadedShare_26 : decode cX8_fadedShare 26 = .ok (.aload_n 0, 1) := by decide +kernel
theorem dX8_fadedShare_27 : decode cX8_fadedShare 27 = .ok (.getfield 7, 3) := by decide +kernel
theorem dX8_fadedShare_30 : decode cX8_fadedShare 30 = .ok (.bipush 18, 2) := by decide +kernel
theorem dX8_fadedShare_32 : decode cX8_fadedShare 32 = .ok (.iaload, 1) := by decide +kernel
theorem dX8_fadedShare_33 : decode cX8_fadedShare 33 = .ok (.i2f, 1) := by decide +kernel
theorem dX8_fadedShare_34 : decode cX8_fadedShare 34 = .ok (.aload_n 0, 1) := by decide +kernel
theorem dX8_fadedShare_35 : decode cX8_fadedShare 35 = .ok (.getfield 7, 3) := by decide +kernel
theorem dX8_fadedShare_38 : decode cX8_fadedShare 38 = .ok (.bipush 6, 2) := by decide +kernel
theorem dX8_fadedShare_40 : decode cX8_fadedShare 40 = .ok (.iaload, 1) := by decide +kernel
theorem dX8_fadedShare_41 : decode cX8_fadedShare 41 = .ok (.i2f, 1) := by decide +kernel
theorem dX8_fadedShare_42 : decode cX8_fadedShare 42 = .ok (.fdiv, 1) := by decide +kernel
theorem dX8_fadedShare_43 : decode cX8_fadedShare 43 = .ok (.freturn, 1) := by decide +kernel
theorem dX8_isConsistent_0 : decode cX8_isConsistent 0 = .ok (.aload_n 0, 1) := by decide +kernel
theorem dX8_isConsistent_1 : decode cX8_isConsistent 1 = .ok (.iconst 1, 1) := by decide +kernel
theorem dX8_isConsistent_2 : decode cX8_isConsistent 2 = .ok (.invokevirtual 129, 3) := by decide +kernel
theorem dX8_isConsistent_5 : decode cX8_isConsistent 5 = .ok (.iconst 1, 1) := by decide +kernel
theorem dX8_isConsistent_6 : decode cX8_isConsistent 6 = .ok (.if_icmp .ne 7, 3) := by decide +kernel
theorem dX8_isConsistent_9 : decode cX8_isConsistent 9 = .ok (.iconst 1, 1) := by decide +kernel
theorem dX8_isConsistent_10 : decode cX8_isConsistent 10 = .ok (.goto 4, 3) := by decide +kernel
theorem dX8_isConsistent_13 : decode cX8_isConsistent 13 = .ok (.iconst 0, 1) := by decide +kernel
theorem dX8_isConsistent_14 : decode cX8_isConsistent 14 = .ok (.ireturn, 1) := by decide +kernel
theorem dX8_write_0 : decode cX8_write 0 = .ok (.aload_n 0, 1) := by decide +kernel
theorem dX8_write_1 : decode cX8_write 1 = .ok (.getfield 54, 3) := by decide +kernel
theorem dX8_write_4 : decode cX8_write 4 = .ok (.aload_n 0, 1) := by decide +kernel
theorem dX8_write_5 : decode cX8_write 5 = .ok (.getfield 57, 3) := by decide +kernel
theorem dX8_write_8 : decode cX8_write 8 = .ok (.iload_n 1, 1) := by decide +kernel
theorem dX8_write_9 : decode cX8_write 9 = .ok (.iastore, 1) := by decide +kernel
theorem dX8_write_10 : decode cX8_write 10 = .ok (.aload_n 0, 1) := by decide +kernel
theorem dX8_write_11 : decode cX8_write 11 = .ok (.dup, 1) := by decide +kernel
theorem dX8_write_12 : decode cX8_write 12 = .ok (.getfield 57, 3) := by decide +kernel
theorem dX8_write_15 : decode cX8_write 15 = .ok (.iconst 1, 1) := by decide +kernel
theorem dX8_write_16 : decode cX8_write 16 = .ok (.iadd, 1) := by decide +kernel
theorem dX8_write_17 : decode cX8_write 17 = .ok (.putfield 57, 3) := by decide +kernel
theorem dX8_write_20 : decode cX8_write 20 = .ok (.return_, 1) := by decide +kernel
theorem dX8_writeNumber_0 : decode cX8_writeNumber 0 = .ok (.iconst 1, 1) := by decide +kernel
theorem dX8_writeNumber_1 : decode cX8_writeNumber 1 = .ok (.istore_n 2, 1) := by decide +kernel
theorem dX8_writeNumber_2 : decode cX8_writeNumber 2 = .ok (.iload_n 1, 1) := by decide +kernel
theorem dX8_writeNumber_3 : decode cX8_writeNumber 3 = .ok (.iload_n 2, 1) := by decide +kernel
theorem dX8_writeNumber_4 : decode cX8_writeNumber 4 = .ok (.idiv, 1) := by decide +kernel
theorem dX8_writeNumber_5 : decode cX8_writeNumber 5 = .ok (.bipush 9, 2) := by decide +kernel
theorem dX8_writeNumber_7 : decode cX8_writeNumber 7 = .ok (.if_icmp .le 11, 3) := by decide +kernel
theorem dX8_writeNumber_10 : decode cX8_writeNumber 10 = .ok (.iload_n 2, 1) := by decide +kernel
theorem dX8_writeNumber_11 : decode cX8_writeNumber 11 = .ok (.bipush 10, 2) := by decide +kernel
theorem dX8_writeNumber_13 : decode cX8_writeNumber 13 = .ok (.imul, 1) := by decide +kernel
theorem dX8_writeNumber_14 : decode cX8_writeNumber 14 = .ok (.istore_n 2, 1) := by decide +kernel
theorem dX8_writeNumber_15 : decode cX8_writeNumber 15 = .ok (.goto (-13), 3) := by decide +kernel
theorem dX8_writeNumber_18 : decode cX8_writeNumber 18 = .ok (.iload_n 2, 1) := by decide +kernel
theorem dX8_writeNumber_19 : decode cX8_writeNumber 19 = .ok (.ifCond .le 24, 3) := by decide +kernel
theorem dX8_writeNumber_22 : decode cX8_writeNumber 22 = .ok (.aload_n 0, 1) := by decide +kernel
theorem dX8_writeNumber_23 : decode cX8_writeNumber 23 = .ok (.bipush 48, 2) := by decide +kernel
theorem dX8_writeNumber_25 : decode cX8_writeNumber 25 = .ok (.iload_n 1, 1) := by decide +kernel
theorem dX8_writeNumber_26 : decode cX8_writeNumber 26 = .ok (.iload_n 2, 1) := by decide +kernel
theorem dX8_writeNumber_27 : decode cX8_writeNumber 27 = .ok (.idiv, 1) := by decide +kernel
theorem dX8_writeNumber_28 : decode cX8_writeNumber 28 = .ok (.bipush 10, 2) := by decide +kernel
theorem dX8_writeNumber_30 : decode cX8_writeNumber 30 = .ok (.irem, 1) := by decide +kernel
theorem dX8_writeNumber_31 : decode cX8_writeNumber 31 = .ok (.iadd, 1) := by decide +kernel
theorem dX8_writeNumber_32 : decode cX8_writeNumber 32 = .ok (.invokevirtual 228, 3) := by decide +kernel
theorem dX8_writeNumber_35 : decode cX8_writeNumber 35 = .ok (.iload_n 2, 1) := by decide +kernel
theorem dX8_writeNumber_36 : decode cX8_writeNumber 36 = .ok (.bipush 10, 2) := by decide +kernel
theorem dX8_writeNumber_38 : decode cX8_writeNumber 38 = .ok (.idiv, 1) := by decide +kernel
theorem dX8_writeNumber_39 : decode cX8_writeNumber 39 = .ok (.istore_n 2, 1) := by decide +kernel
theorem dX8_writeNumber_40 : decode cX8_writeNumber 40 = .ok (.goto (-22), 3) := by decide +kernel
theorem dX8_writeNumber_43 : decode cX8_writeNumber 43 = .ok (.return_, 1) := by decide +kernel
theorem dX8_writeEdition_0 : decode cX8_writeEdition 0 = .ok (.aload_n 0, 1) := by decide +kernel
theorem dX8_writeEdition_1 : decode cX8_writeEdition 1 = .ok (.aload_n 0, 1) := by decide +kernel
theorem dX8_writeEdition_2 : decode cX8_writeEdition 2 = .ok (.iload_n 1, 1) := by decide +kernel
theorem dX8_writeEdition_3 : decode cX8_writeEdition 3 = .ok (.invokevirtual 147, 3) := by decide +kernel
theorem dX8_writeEdition_6 : decode cX8_writeEdition 6 = .ok (.invokevirtual 125, 3) := by decide +kernel
theorem dX8_writeEdition_9 : decode cX8_writeEdition 9 = .ok (.ifCond .le 5, 3) := by decide +kernel
theorem dX8_writeEdition_12 : decode cX8_writeEdition 12 = .ok (.iconst 0, 1) := by decide +kernel
theorem dX8_writeEdition_13 : decode cX8_writeEdition 13 = .ok (.ireturn, 1) := by decide +kernel
theorem dX8_writeEdition_14 : decode cX8_writeEdition 14 = .ok (.aload_n 0, 1) := by decide +kernel
theorem dX8_writeEdition_15 : decode cX8_writeEdition 15 = .ok (.iconst 0, 1) := by decide +kernel
theorem dX8_writeEdition_16 : decode cX8_writeEdition 16 = .ok (.putfield 57, 3) := by decide +kernel
theorem dX8_writeEdition_19 : decode cX8_writeEdition 19 = .ok (.aload_n 0, 1) := by decide +kernel
theorem dX8_writeEdition_20 : decode cX8_writeEdition 20 = .ok (.iload_n 1, 1) := by decide +kernel
theorem dX8_writeEdition_21 : decode cX8_writeEdition 21 = .ok (.invokevirtual 232, 3) := by decide +kernel
theorem dX8_writeEdition_24 : decode cX8_writeEdition 24 = .ok (.aload_n 0, 1) := by decide +kernel
theorem dX8_writeEdition_25 : decode cX8_writeEdition 25 = .ok (.bipush 99, 2) := by decide +kernel
theorem dX8_writeEdition_27 : decode cX8_writeEdition 27 = .ok (.invokevirtual 228, 3) := by decide +kernel
theorem dX8_writeEdition_30 : decode cX8_writeEdition 30 = .ok (.aload_n 0, 1) := by decide +kernel
theorem dX8_writeEdition_31 : decode cX8_writeEdition 31 = .ok (.aload_n 0, 1) := by decide +kernel
theorem dX8_writeEdition_32 : decode cX8_writeEdition 32 = .ok (.iload_n 1, 1) := by decide +kernel
theorem dX8_writeEdition_33 : decode cX8_writeEdition 33 = .ok (.iconst 0, 1) := by decide +kernel
theorem dX8_writeEdition_34 : decode cX8_writeEdition 34 = .ok (.invokevirtual 138, 3) := by decide +kernel
theorem dX8_writeEdition_37 : decode cX8_writeEdition 37 = .ok (.invokevirtual 232, 3) := by decide +kernel
theorem dX8_writeEdition_40 : decode cX8_writeEdition 40 = .ok (.aload_n 0, 1) := by decide +kernel
theorem dX8_writeEdition_41 : decode cX8_writeEdition 41 = .ok (.bipush 58, 2) := by decide +kernel
theorem dX8_writeEdition_43 : decode cX8_writeEdition 43 = .ok (.invokevirtual 228, 3) := by decide +kernel
theorem dX8_writeEdition_46 : decode cX8_writeEdition 46 = .ok (.aload_n 0, 1) := by decide +kernel
theorem dX8_writeEdition_47 : decode cX8_writeEdition 47 = .ok (.aload_n 0, 1) := by decide +kernel
theorem dX8_writeEdition_48 : decode cX8_writeEdition 48 = .ok (.iload_n 1, 1) := by decide +kernel
theorem dX8_writeEdition_49 : decode cX8_writeEdition 49 = .ok (.iconst 2, 1) := by decide +kernel
theorem dX8_writeEdition_50 : decode cX8_writeEdition 50 = .ok (.invokevirtual 138, 3) := by decide +kernel
theorem dX8_writeEdition_53 : decode cX8_writeEdition 53 = .ok (.invokevirtual 232, 3) := by decide +kernel
theorem dX8_writeEdition_56 : decode cX8_writeEdition 56 = .ok (.aload_n 0, 1) := by decide +kernel
theorem dX8_writeEdition_57 : decode cX8_writeEdition 57 = .ok (.bipush 47, 2) := by decide +kernel
theorem dX8_writeEdition_59 : decode cX8_writeEdition 59 = .ok (.invokevirtual 228, 3) := by decide +kernel
theorem dX8_writeEdition_62 : decode cX8_writeEdition 62 = .ok (.aload_n 0, 1) := by decide +kernel
theorem dX8_writeEdition_63 : decode cX8_writeEdition 63 = .ok (.aload_n 0, 1) := by decide +kernel
theorem dX8_writeEdition_64 : decode cX8_writeEdition 64 = .ok (.iload_n 1, 1) := by decide +kernel
theorem dX8_writeEdition_65 : decode cX8_writeEdition 65 = .ok (.iconst 1, 1) := by decide +kernel
theorem dX8_writeEdition_66 : decode cX8_writeEdition 66 = .ok (.invokevirtual 138, 3) := by decide +kernel
theorem dX8_writeEdition_69 : decode cX8_writeEdition 69 = .ok (.invokevirtual 232, 3) := by decide +kernel
theorem dX8_writeEdition_72 : decode cX8_writeEdition 72 = .ok (.aload_n 0, 1) := by decide +kernel
theorem dX8_writeEdition_73 : decode cX8_writeEdition 73 = .ok (.getfield 57, 3) := by decide +kernel
theorem dX8_writeEdition_76 : decode cX8_writeEdition 76 = .ok (.ireturn, 1) := by decide +kernel
theorem dX8_writeWells_0 : decode cX8_writeWells 0 = .ok (.aload_n 0, 1) := by decide +kernel
theorem dX8_writeWells_1 : decode cX8_writeWells 1 = .ok (.iconst 0, 1) := by decide +kernel
theorem dX8_writeWells_2 : decode cX8_writeWells 2 = .ok (.putfield 37, 3) := by decide +kernel
theorem dX8_writeWells_5 : decode cX8_writeWells 5 = .ok (.aload_n 0, 1) := by decide +kernel
theorem dX8_writeWells_6 : decode cX8_writeWells 6 = .ok (.iconst 0, 1) := by decide +kernel
theorem dX8_writeWells_7 : decode cX8_writeWells 7 = .ok (.putfield 57, 3) := by decide +kernel
theorem dX8_writeWells_10 : decode cX8_writeWells 10 = .ok (.iconst 0, 1) := by decide +kernel
theorem dX8_writeWells_11 : decode cX8_writeWells 11 = .ok (.istore_n 1, 1) := by decide +kernel
theorem dX8_writeWells_12 : decode cX8_writeWells 12 = .ok (.iload_n 1, 1) := by decide +kernel
theorem dX8_writeWells_13 : decode cX8_writeWells 13 = .ok (.bipush 10, 2) := by decide +kernel
theorem dX8_writeWells_15 : decode cX8_writeWells 15 = .ok (.if_icmp .ge 32, 3) := by decide +kernel
theorem dX8_writeWells_18 : decode cX8_writeWells 18 = .ok (.iload_n 1, 1) := by decide +kernel
theorem dX8_writeWells_19 : decode cX8_writeWells 19 = .ok (.ifCond .le 9, 3) := by decide +kernel
theorem dX8_writeWells_22 : decode cX8_writeWells 22 = .ok (.aload_n 0, 1) := by decide +kernel
theorem dX8_writeWells_23 : decode cX8_writeWells 23 = .ok (.bipush 32, 2) := by decide +kernel
theorem dX8_writeWells_25 : decode cX8_writeWells 25 = .ok (.invokevirtual 228, 3) := by decide +kernel
theorem dX8_writeWells_28 : decode cX8_writeWells 28 = .ok (.aload_n 0, 1) := by decide +kernel
theorem dX8_writeWells_29 : decode cX8_writeWells 29 = .ok (.aload_n 0, 1) := by decide +kernel
theorem dX8_writeWells_30 : decode cX8_writeWells 30 = .ok (.getfield 7, 3) := by decide +kernel
theorem dX8_writeWells_33 : decode cX8_writeWells 33 = .ok (.bipush 8, 2) := by decide +kernel
theorem dX8_writeWells_35 : decode cX8_writeWells 35 = .ok (.iload_n 1, 1) := by decide +kernel
theorem dX8_writeWells_36 : decode cX8_writeWells 36 = .ok (.iadd, 1) := by decide +kernel
theorem dX8_writeWells_37 : decode cX8_writeWells 37 = .ok (.iaload, 1) := by decide +kernel
theorem dX8_writeWells_38 : decode cX8_writeWells 38 = .ok (.invokevirtual 232, 3) := by decide +kernel
theorem dX8_writeWells_41 : decode cX8_writeWells 41 = .ok (.iinc 1 1, 3) := by decide +kernel
theorem dX8_writeWells_44 : decode cX8_writeWells 44 = .ok (.goto (-32), 3) := by decide +kernel
theorem dX8_writeWells_47 : decode cX8_writeWells 47 = .ok (.aload_n 0, 1) := by decide +kernel
theorem dX8_writeWells_48 : decode cX8_writeWells 48 = .ok (.getfield 57, 3) := by decide +kernel
theorem dX8_writeWells_51 : decode cX8_writeWells 51 = .ok (.ireturn, 1) := by decide +kernel
theorem dX8_lineAt_0 : decode cX8_lineAt 0 = .ok (.aload_n 0, 1) := by decide +kernel
theorem dX8_lineAt_1 : decode cX8_lineAt 1 = .ok (.iload_n 1, 1) := by decide +kernel
theorem dX8_lineAt_2 : decode cX8_lineAt 2 = .ok (.iconst 0, 1) := by decide +kernel
theorem dX8_lineAt_3 : decode cX8_lineAt 3 = .ok (.aload_n 0, 1) := by decide +kernel
theorem dX8_lineAt_4 : decode cX8_lineAt 4 = .ok (.getfield 57, 3) := by decide +kernel
theorem dX8_lineAt_7 : decode cX8_lineAt 7 = .ok (.iconst 1, 1) := by decide +kernel
theorem dX8_lineAt_8 : decode cX8_lineAt 8 = .ok (.isub, 1) := by decide +kernel
theorem dX8_lineAt_9 : decode cX8_lineAt 9 = .ok (.invokestatic 91, 3) := by decide +kernel
theorem dX8_lineAt_12 : decode cX8_lineAt 12 = .ok (.invokevirtual 125, 3) := by decide +kernel
theorem dX8_lineAt_15 : decode cX8_lineAt 15 = .ok (.ifCond .le 8, 3) := by decide +kernel
theorem dX8_lineAt_18 : decode cX8_lineAt 18 = .ok (.bipush 32, 2) := by decide +kernel
theorem dX8_lineAt_20 : decode cX8_lineAt 20 = .ok (.goto 10, 3) := by decide +kernel
theorem dX8_lineAt_23 : decode cX8_lineAt 23 = .ok (.aload_n 0, 1) := by decide +kernel
theorem dX8_lineAt_24 : decode cX8_lineAt 24 = .ok (.getfield 54, 3) := by decide +kernel
theorem dX8_lineAt_27 : decode cX8_lineAt 27 = .ok (.iload_n 1, 1) := by decide +kernel
theorem dX8_lineAt_28 : decode cX8_lineAt 28 = .ok (.iaload, 1) := by decide +kernel
theorem dX8_lineAt_29 : decode cX8_lineAt 29 = .ok (.i2c, 1) := by decide +kernel
theorem dX8_lineAt_30 : decode cX8_lineAt 30 = .ok (.ireturn, 1) := by decide +kernel
theorem dX8_type_0 : decode cX8_type 0 = .ok (.aload_n 0, 1) := by decide +kernel
theorem dX8_type_1 : decode cX8_type 1 = .ok (.iload_n 1, 1) := by decide +kernel
theorem dX8_type_2 : decode cX8_type 2 = .ok (.bipush 32, 2) := by decide +kernel
theorem dX8_type_4 : decode cX8_type 4 = .ok (.bipush 126, 2) := by decide +kernel
theorem dX8_type_6 : decode cX8_type 6 = .ok (.invokestatic 91, 3) := by decide +kernel
theorem dX8_type_9 : decode cX8_type 9 = .ok (.ifCond .ne 7, 3) := by decide +kernel
theorem dX8_type_12 : decode cX8_type 12 = .ok (.iconst 1, 1) := by decide +kernel
theorem dX8_type_13 : decode cX8_type 13 = .ok (.goto 17, 3) := by decide +kernel
theorem dX8_type_16 : decode cX8_type 16 = .ok (.aload_n 0, 1) := by decide +kernel
theorem dX8_type_17 : decode cX8_type 17 = .ok (.getfield 72, 3) := by decide +kernel
theorem dX8_type_20 : decode cX8_type 20 = .ok (.bipush 60, 2) := by decide +kernel
theorem dX8_type_22 : decode cX8_type 22 = .ok (.if_icmp .ne 7, 3) := by decide +kernel
theorem dX8_type_25 : decode cX8_type 25 = .ok (.iconst 2, 1) := by decide +kernel
theorem dX8_type_26 : decode cX8_type 26 = .ok (.goto 4, 3) := by decide +kernel
theorem dX8_type_29 : decode cX8_type 29 = .ok (.iconst 0, 1) := by decide +kernel
theorem dX8_type_30 : decode cX8_type 30 = .ok (.putfield 37, 3) := by decide +kernel
theorem dX8_type_33 : decode cX8_type 33 = .ok (.aload_n 0, 1) := by decide +kernel
theorem dX8_type_34 : decode cX8_type 34 = .ok (.getfield 37, 3) := by decide +kernel
theorem dX8_type_37 : decode cX8_type 37 = .ok (.ifCond .le 5, 3) := by decide +kernel
theorem dX8_type_40 : decode cX8_type 40 = .ok (.iconst 0, 1) := by decide +kernel
theorem dX8_type_41 : decode cX8_type 41 = .ok (.ireturn, 1) := by decide +kernel
theorem dX8_type_42 : decode cX8_type 42 = .ok (.aload_n 0, 1) := by decide +kernel
theorem dX8_type_43 : decode cX8_type 43 = .ok (.getfield 60, 3) := by decide +kernel
theorem dX8_type_46 : decode cX8_type 46 = .ok (.aload_n 0, 1) := by decide +kernel
theorem dX8_type_47 : decode cX8_type 47 = .ok (.getfield 72, 3) := by decide +kernel
theorem dX8_type_50 : decode cX8_type 50 = .ok (.iload_n 1, 1) := by decide +kernel
theorem dX8_type_51 : decode cX8_type 51 = .ok (.iastore, 1) := by decide +kernel
theorem dX8_type_52 : decode cX8_type 52 = .ok (.aload_n 0, 1) := by decide +kernel
theorem dX8_type_53 : decode cX8_type 53 = .ok (.dup, 1) := by decide +kernel
theorem dX8_type_54 : decode cX8_type 54 = .ok (.getfield 72, 3) := by decide +kernel
theorem dX8_type_57 : decode cX8_type 57 = .ok (.iconst 1, 1) := by decide +kernel
theorem dX8_type_58 : decode cX8_type 58 = .ok (.iadd, 1) := by decide +kernel
theorem dX8_type_59 : decode cX8_type 59 = .ok (.putfield 72, 3) := by decide +kernel
theorem dX8_type_62 : decode cX8_type 62 = .ok (.aload_n 0, 1) := by decide +kernel
theorem dX8_type_63 : decode cX8_type 63 = .ok (.getfield 72, 3) := by decide +kernel
theorem dX8_type_66 : decode cX8_type 66 = .ok (.ireturn, 1) := by decide +kernel
theorem dX8_mark_0 : decode cX8_mark 0 = .ok (.aload_n 0, 1) := by decide +kernel
theorem dX8_mark_1 : decode cX8_mark 1 = .ok (.getfield 84, 3) := by decide +kernel
theorem dX8_mark_4 : decode cX8_mark 4 = .ok (.ifCond .ne 26, 3) := by decide +kernel
theorem dX8_mark_7 : decode cX8_mark 7 = .ok (.aload_n 0, 1) := by decide +kernel
theorem dX8_mark_8 : decode cX8_mark 8 = .ok (.getfield 78, 3) := by decide +kernel
theorem dX8_mark_11 : decode cX8_mark 11 = .ok (.aload_n 0, 1) := by decide +kernel
theorem dX8_mark_12 : decode cX8_mark 12 = .ok (.getfield 75, 3) := by decide +kernel
theorem dX8_mark_15 : decode cX8_mark 15 = .ok (.if_icmp .ge 15, 3) := by decide +kernel
theorem dX8_mark_18 : decode cX8_mark 18 = .ok (.aload_n 0, 1) := by decide +kernel
theorem dX8_mark_19 : decode cX8_mark 19 = .ok (.getfield 60, 3) := by decide +kernel
theorem dX8_mark_22 : decode cX8_mark 22 = .ok (.aload_n 0, 1) := by decide +kernel
theorem dX8_mark_23 : decode cX8_mark 23 = .ok (.getfield 78, 3) := by decide +kernel
theorem dX8_mark_26 : decode cX8_mark 26 = .ok (.iaload, 1) := by decide +kernel
theorem dX8_mark_27 : decode cX8_mark 27 = .ok (.goto 4, 3) := by decide +kernel
theorem dX8_mark_30 : decode cX8_mark 30 = .ok (.iconst (-1), 1) := by decide +kernel
theorem dX8_mark_31 : decode cX8_mark 31 = .ok (.ireturn, 1) := by decide +kernel
theorem dX8_number_0 : decode cX8_number 0 = .ok (.aload_n 0, 1) := by decide +kernel
theorem dX8_number_1 : decode cX8_number 1 = .ok (.dup, 1) := by decide +kernel
theorem dX8_number_2 : decode cX8_number 2 = .ok (.getfield 84, 3) := by decide +kernel
theorem dX8_number_5 : decode cX8_number 5 = .ok (.aload_n 0, 1) := by decide +kernel
theorem dX8_number_6 : decode cX8_number 6 = .ok (.invokevirtual 235, 3) := by decide +kernel
theorem dX8_number_9 : decode cX8_number 9 = .ok (.bipush 32, 2) := by decide +kernel
theorem dX8_number_11 : decode cX8_number 11 = .ok (.if_icmp .eq 7, 3) := by decide +kernel
theorem dX8_number_14 : decode cX8_number 14 = .ok (.iconst 1, 1) := by decide +kernel
theorem dX8_number_15 : decode cX8_number 15 = .ok (.goto 4, 3) := by decide +kernel
theorem dX8_number_18 : decode cX8_number 18 = .ok (.iconst 0, 1) := by decide +kernel
theorem dX8_number_19 : decode cX8_number 19 = .ok (.ior, 1) := by decide +kernel
theorem dX8_number_20 : decode cX8_number 20 = .ok (.putfield 84, 3) := by decide +kernel
theorem dX8_number_23 : decode cX8_number 23 = .ok (.aload_n 0, 1) := by decide +kernel
theorem dX8_number_24 : decode cX8_number 24 = .ok (.dup, 1) := by decide +kernel
theorem dX8_number_25 : decode cX8_number 25 = .ok (.getfield 78, 3) := by decide +kernel
theorem dX8_number_28 : decode cX8_number 28 = .ok (.aload_n 0, 1) := by decide +kernel
theorem dX8_number_29 : decode cX8_number 29 = .ok (.getfield 84, 3) := by decide +kernel
theorem dX8_number_32 : decode cX8_number 32 = .ok (.ifCond .eq 7, 3) := by decide +kernel
theorem dX8_number_35 : decode cX8_number 35 = .ok (.iconst 0, 1) := by decide +kernel
theorem dX8_number_36 : decode cX8_number 36 = .ok (.goto 4, 3) := by decide +kernel
theorem dX8_number_39 : decode cX8_number 39 = .ok (.iconst 1, 1) := by decide +kernel
theorem dX8_number_40 : decode cX8_number 40 = .ok (.iadd, 1) := by decide +kernel
theorem dX8_number_41 : decode cX8_number 41 = .ok (.putfield 78, 3) := by decide +kernel
theorem dX8_number_44 : decode cX8_number 44 = .ok (.aload_n 0, 1) := by decide +kernel
theorem dX8_number_45 : decode cX8_number 45 = .ok (.dup, 1) := by decide +kernel
theorem dX8_number_46 : decode cX8_number 46 = .ok (.getfield 84, 3) := by decide +kernel
theorem dX8_number_49 : decode cX8_number 49 = .ok (.aload_n 0, 1) := by decide +kernel
theorem dX8_number_50 : decode cX8_number 50 = .ok (.invokevirtual 235, 3) := by decide +kernel
theorem dX8_number_53 : decode cX8_number 53 = .ok (.bipush 48, 2) := by decide +kernel
theorem dX8_number_55 : decode cX8_number 55 = .ok (.bipush 57, 2) := by decide +kernel
theorem dX8_number_57 : decode cX8_number 57 = .ok (.invokestatic 91, 3) := by decide +kernel
theorem dX8_number_60 : decode cX8_number 60 = .ok (.ifCond .ne 7, 3) := by decide +kernel
theorem dX8_number_63 : decode cX8_number 63 = .ok (.iconst 1, 1) := by decide +kernel
theorem dX8_number_64 : decode cX8_number 64 = .ok (.goto 4, 3) := by decide +kernel
theorem dX8_number_67 : decode cX8_number 67 = .ok (.iconst 0, 1) := by decide +kernel
theorem dX8_number_68 : decode cX8_number 68 = .ok (.ior, 1) := by decide +kernel
theorem dX8_number_69 : decode cX8_number 69 = .ok (.putfield 84, 3) := by decide +kernel
theorem dX8_number_72 : decode cX8_number 72 = .ok (.iconst 0, 1) := by decide +kernel
theorem dX8_number_73 : decode cX8_number 73 = .ok (.istore_n 2, 1) := by decide +kernel
theorem dX8_number_74 : decode cX8_number 74 = .ok (.iconst 0, 1) := by decide +kernel
theorem dX8_number_75 : decode cX8_number 75 = .ok (.istore_n 3, 1) := by decide +kernel
theorem dX8_number_76 : decode cX8_number 76 = .ok (.iload_n 3, 1) := by decide +kernel
theorem dX8_number_77 : decode cX8_number 77 = .ok (.iload_n 1, 1) := by decide +kernel
theorem dX8_number_78 : decode cX8_number 78 = .ok (.if_icmp .ge 51, 3) := by decide +kernel
theorem dX8_number_81 : decode cX8_number 81 = .ok (.aload_n 0, 1) := by decide +kernel
theorem dX8_number_82 : decode cX8_number 82 = .ok (.invokevirtual 235, 3) := by decide +kernel
theorem dX8_number_85 : decode cX8_number 85 = .ok (.bipush 48, 2) := by decide +kernel
theorem dX8_number_87 : decode cX8_number 87 = .ok (.bipush 57, 2) := by decide +kernel
theorem dX8_number_89 : decode cX8_number 89 = .ok (.invokestatic 91, 3) := by decide +kernel
theorem dX8_number_92 : decode cX8_number 92 = .ok (.ifCond .eq 37, 3) := by decide +kernel
theorem dX8_number_95 : decode cX8_number 95 = .ok (.bipush 10, 2) := by decide +kernel
theorem dX8_number_97 : decode cX8_number 97 = .ok (.iload_n 2, 1) := by decide +kernel
theorem dX8_number_98 : decode cX8_number 98 = .ok (.imul, 1) := by decide +kernel
theorem dX8_number_99 : decode cX8_number 99 = .ok (.aload_n 0, 1) := by decide +kernel
theorem dX8_number_100 : decode cX8_number 100 = .ok (.getfield 60, 3) := by decide +kernel
theorem dX8_number_103 : decode cX8_number 103 = .ok (.aload_n 0, 1) := by decide +kernel
theorem dX8_number_104 : decode cX8_number 104 = .ok (.getfield 78, 3) := by decide +kernel
theorem dX8_number_107 : decode cX8_number 107 = .ok (.iaload, 1) := by decide +kernel
theorem dX8_number_108 : decode cX8_number 108 = .ok (.iadd, 1) := by decide +kernel
theorem dX8_number_109 : decode cX8_number 109 = .ok (.bipush 48, 2) := by decide +kernel
theorem dX8_number_111 : decode cX8_number 111 = .ok (.isub, 1) := by decide +kernel
theorem dX8_number_112 : decode cX8_number 112 = .ok (.istore_n 2, 1) := by decide +kernel
theorem dX8_number_113 : decode cX8_number 113 = .ok (.aload_n 0, 1) := by decide +kernel
theorem dX8_number_114 : decode cX8_number 114 = .ok (.dup, 1) := by decide +kernel
theorem dX8_number_115 : decode cX8_number 115 = .ok (.getfield 78, 3) := by decide +kernel
theorem dX8_number_118 : decode cX8_number 118 = .ok (.iconst 1, 1) := by decide +kernel
theorem dX8_number_119 : decode cX8_number 119 = .ok (.iadd, 1) := by decide +kernel
theorem dX8_number_120 : decode cX8_number 120 = .ok (.putfield 78, 3) := by decide +kernel
theorem dX8_number_123 : decode cX8_number 123 = .ok (.iinc 3 1, 3) := by decide +kernel
theorem dX8_number_126 : decode cX8_number 126 = .ok (.goto (-50), 3) := by decide +kernel
theorem dX8_number_129 : decode cX8_number 129 = .ok (.iload_n 2, 1) := by decide +kernel
theorem dX8_number_130 : decode cX8_number 130 = .ok (.ireturn, 1) := by decide +kernel
theorem dX8_pick_0 : decode cX8_pick 0 = .ok (.iload_n 0, 1) := by decide +kernel
theorem dX8_pick_1 : decode cX8_pick 1 = .ok (.tableswitch 61 0 6 #[43, 45, 47, 49, 52, 55, 58], 43) := by decide +kernel
theorem dX8_pick_44 : decode cX8_pick 44 = .ok (.iload_n 1, 1) := by decide +kernel
theorem dX8_pick_45 : decode cX8_pick 45 = .ok (.ireturn, 1) := by decide +kernel
theorem dX8_pick_46 : decode cX8_pick 46 = .ok (.iload_n 2, 1) := by decide +kernel
theorem dX8_pick_47 : decode cX8_pick 47 = .ok (.ireturn, 1) := by decide +kernel
theorem dX8_pick_48 : decode cX8_pick 48 = .ok (.iload_n 3, 1) := by decide +kernel
theorem dX8_pick_49 : decode cX8_pick 49 = .ok (.ireturn, 1) := by decide +kernel
theorem dX8_pick_50 : decode cX8_pick 50 = .ok (.iload 4, 2) := by decide +kernel
theorem dX8_pick_52 : decode cX8_pick 52 = .ok (.ireturn, 1) := by decide +kernel
theorem dX8_pick_53 : decode cX8_pick 53 = .ok (.iload 5, 2) := by decide +kernel
theorem dX8_pick_55 : decode cX8_pick 55 = .ok (.ireturn, 1) := by decide +kernel
theorem dX8_pick_56 : decode cX8_pick 56 = .ok (.iload 6, 2) := by decide +kernel
theorem dX8_pick_58 : decode cX8_pick 58 = .ok (.ireturn, 1) := by decide +kernel
theorem dX8_pick_59 : decode cX8_pick 59 = .ok (.iload 7, 2) := by decide +kernel
theorem dX8_pick_61 : decode cX8_pick 61 = .ok (.ireturn, 1) := by decide +kernel
theorem dX8_pick_62 : decode cX8_pick 62 = .ok (.iconst 0, 1) := by decide +kernel
theorem dX8_pick_63 : decode cX8_pick 63 = .ok (.ireturn, 1) := by decide +kernel
theorem dX8_spelled_0 : decode cX8_spelled 0 = .ok (.iload_n 0, 1) := by decide +kernel
theorem dX8_spelled_1 : decode cX8_spelled 1 = .ok (.tableswitch 182 0 7 #[47, 62, 79, 98, 116, 133, 148, 165], 47) := by decide +kernel
theorem dX8_spelled_48 : decode cX8_spelled 48 = .ok (.iload_n 1, 1) := by decide +kernel
theorem dX8_spelled_49 : decode cX8_spelled 49 = .ok (.bipush 105, 2) := by decide +kernel
theorem dX8_spelled_51 : decode cX8_spelled 51 = .ok (.bipush 110, 2) := by decide +kernel
theorem dX8_spelled_53 : decode cX8_spelled 53 = .ok (.bipush 107, 2) := by decide +kernel
theorem dX8_spelled_55 : decode cX8_spelled 55 = .ok (.iconst 0, 1) := by decide +kernel
theorem dX8_spelled_56 : decode cX8_spelled 56 = .ok (.iconst 0, 1) := by decide +kernel
theorem dX8_spelled_57 : decode cX8_spelled 57 = .ok (.iconst 0, 1) := by decide +kernel
theorem dX8_spelled_58 : decode cX8_spelled 58 = .ok (.iconst 0, 1) := by decide +kernel
theorem dX8_spelled_59 : decode cX8_spelled 59 = .ok (.invokestatic 238, 3) := by decide +kernel
theorem dX8_spelled_62 : decode cX8_spelled 62 = .ok (.ireturn, 1) := by decide +kernel
theorem dX8_spelled_63 : decode cX8_spelled 63 = .ok (.iload_n 1, 1) := by decide +kernel
theorem dX8_spelled_64 : decode cX8_spelled 64 = .ok (.bipush 112, 2) := by decide +kernel
theorem dX8_spelled_66 : decode cX8_spelled 66 = .ok (.bipush 97, 2) := by decide +kernel
theorem dX8_spelled_68 : decode cX8_spelled 68 = .ok (.bipush 112, 2) := by decide +kernel
theorem dX8_spelled_70 : decode cX8_spelled 70 = .ok (.bipush 101, 2) := by decide +kernel
theorem dX8_spelled_72 : decode cX8_spelled 72 = .ok (.bipush 114, 2) := by decide +kernel
theorem dX8_spelled_74 : decode cX8_spelled 74 = .ok (.iconst 0, 1) := by decide +kernel
theorem dX8_spelled_75 : decode cX8_spelled 75 = .ok (.iconst 0, 1) := by decide +kernel
theorem dX8_spelled_76 : decode cX8_spelled 76 = .ok (.invokestatic 238, 3) := by decide +kernel
theorem dX8_spelled_79 : decode cX8_spelled 79 = .ok (.ireturn, 1) := by decide +kernel
theorem dX8_spelled_80 : decode cX8_spelled 80 = .ok (.iload_n 1, 1) := by decide +kernel
theorem dX8_spelled_81 : decode cX8_spelled 81 = .ok (.bipush 101, 2) := by decide +kernel
theorem dX8_spelled_83 : decode cX8_spelled 83 = .ok (.bipush 100, 2) := by decide +kernel
theorem dX8_spelled_85 : decode cX8_spelled 85 = .ok (.bipush 105, 2) := by decide +kernel
theorem dX8_spelled_87 : decode cX8_spelled 87 = .ok (.bipush 116, 2) := by decide +kernel
theorem dX8_spelled_89 : decode cX8_spelled 89 = .ok (.bipush 105, 2) := by decide +kernel
theorem dX8_spelled_91 : decode cX8_spelled 91 = .ok (.bipush 111, 2) := by decide +kernel
theorem dX8_spelled_93 : decode cX8_spelled 93 = .ok (.bipush 110, 2) := by decide +kernel
theorem dX8_spelled_95 : decode cX8_spelled 95 = .ok (.invokestatic 238, 3) := by decide +kernel
theorem dX8_spelled_98 : decode cX8_spelled 98 = .ok (.ireturn, 1) := by decide +kernel
theorem dX8_spelled_99 : decode cX8_spelled 99 = .ok (.iload_n 1, 1) := by decide +kernel
theorem dX8_spelled_100 : decode cX8_spelled 100 = .ok (.bipush 114, 2) := by decide +kernel
theorem dX8_spelled_102 : decode cX8_spelled 102 = .ok (.bipush 101, 2) := by decide +kernel
theorem dX8_spelled_104 : decode cX8_spelled 104 = .ok (.bipush 109, 2) := by decide +kernel
theorem dX8_spelled_106 : decode cX8_spelled 106 = .ok (.bipush 111, 2) := by decide +kernel
theorem dX8_spelled_108 : decode cX8_spelled 108 = .ok (.bipush 118, 2) := by decide +kernel
theorem dX8_spelled_110 : decode cX8_spelled 110 = .ok (.bipush 101, 2) := by decide +kernel
theorem dX8_spelled_112 : decode cX8_spelled 112 = .ok (.iconst 0, 1) := by decide +kernel
theorem dX8_spelled_113 : decode cX8_spelled 113 = .ok (.invokestatic 238, 3) := by decide +kernel
theorem dX8_spelled_116 : decode cX8_spelled 116 = .ok (.ireturn, 1) := by decide +kernel
theorem dX8_spelled_117 : decode cX8_spelled 117 = .ok (.iload_n 1, 1) := by decide +kernel
theorem dX8_spelled_118 : decode cX8_spelled 118 = .ok (.bipush 112, 2) := by decide +kernel
theorem dX8_spelled_120 : decode cX8_spelled 120 = .ok (.bipush 114, 2) := by decide +kernel
theorem dX8_spelled_122 : decode cX8_spelled 122 = .ok (.bipush 105, 2) := by decide +kernel
theorem dX8_spelled_124 : decode cX8_spelled 124 = .ok (.bipush 110, 2) := by decide +kernel
theorem dX8_spelled_126 : decode cX8_spelled 126 = .ok (.bipush 116, 2) := by decide +kernel
theorem dX8_spelled_128 : decode cX8_spelled 128 = .ok (.iconst 0, 1) := by decide +kernel
theorem dX8_spelled_129 : decode cX8_spelled 129 = .ok (.iconst 0, 1) := by decide +kernel
theorem dX8_spelled_130 : decode cX8_spelled 130 = .ok (.invokestatic 238, 3) := by decide +kernel
theorem dX8_spelled_133 : decode cX8_spelled 133 = .ok (.ireturn, 1) := by decide +kernel
theorem dX8_spelled_134 : decode cX8_spelled 134 = .ok (.iload_n 1, 1) := by decide +kernel
theorem dX8_spelled_135 : decode cX8_spelled 135 = .ok (.bipush 97, 2) := by decide +kernel
theorem dX8_spelled_137 : decode cX8_spelled 137 = .ok (.bipush 108, 2) := by decide +kernel
theorem dX8_spelled_139 : decode cX8_spelled 139 = .ok (.bipush 108, 2) := by decide +kernel
theorem dX8_spelled_141 : decode cX8_spelled 141 = .ok (.iconst 0, 1) := by decide +kernel
theorem dX8_spelled_142 : decode cX8_spelled 142 = .ok (.iconst 0, 1) := by decide +kernel
theorem dX8_spelled_143 : decode cX8_spelled 143 = .ok (.iconst 0, 1) := by decide +kernel
theorem dX8_spelled_144 : decode cX8_spelled 144 = .ok (.iconst 0, 1) := by decide +kernel
theorem dX8_spelled_145 : decode cX8_spelled 145 = .ok (.invokestatic 238, 3) := by decide +kernel
theorem dX8_spelled_148 : decode cX8_spelled 148 = .ok (.ireturn, 1) := by decide +kernel
theorem dX8_spelled_149 : decode cX8_spelled 149 = .ok (.iload_n 1, 1) := by decide +kernel
theorem dX8_spelled_150 : decode cX8_spelled 150 = .ok (.bipush 104, 2) := by decide +kernel
theorem dX8_spelled_152 : decode cX8_spelled 152 = .ok (.bipush 111, 2) := by decide +kernel
theorem dX8_spelled_154 : decode cX8_spelled 154 = .ok (.bipush 117, 2) := by decide +kernel
theorem dX8_spelled_156 : decode cX8_spelled 156 = .ok (.bipush 114, 2) := by decide +kernel
theorem dX8_spelled_158 : decode cX8_spelled 158 = .ok (.bipush 115, 2) := by decide +kernel
theorem dX8_spelled_160 : decode cX8_spelled 160 = .ok (.iconst 0, 1) := by decide +kernel
theorem dX8_spelled_161 : decode cX8_spelled 161 = .ok (.iconst 0, 1) := by decide +kernel
theorem dX8_spelled_162 : decode cX8_spelled 162 = .ok (.invokestatic 238, 3) := by decide +kernel
theorem dX8_spelled_165 : decode cX8_spelled 165 = .ok (.ireturn, 1) := by decide +kernel
theorem dX8_spelled_166 : decode cX8_spelled 166 = .ok (.iload_n 1, 1) := by decide +kernel
theorem dX8_spelled_167 : decode cX8_spelled 167 = .ok (.bipush 112, 2) := by decide +kernel
theorem dX8_spelled_169 : decode cX8_spelled 169 = .ok (.bipush 114, 2) := by decide +kernel
theorem dX8_spelled_171 : decode cX8_spelled 171 = .ok (.bipush 111, 2) := by decide +kernel
theorem dX8_spelled_173 : decode cX8_spelled 173 = .ok (.bipush 111, 2) := by decide +kernel
theorem dX8_spelled_175 : decode cX8_spelled 175 = .ok (.bipush 102, 2) := by decide +kernel
theorem dX8_spelled_177 : decode cX8_spelled 177 = .ok (.iconst 0, 1) := by decide +kernel
theorem dX8_spelled_178 : decode cX8_spelled 178 = .ok (.iconst 0, 1) := by decide +kernel
theorem dX8_spelled_179 : decode cX8_spelled 179 = .ok (.invokestatic 238, 3) := by decide +kernel
theorem dX8_spelled_182 : decode cX8_spelled 182 = .ok (.ireturn, 1) := by decide +kernel
theorem dX8_spelled_183 : decode cX8_spelled 183 = .ok (.iload_n 1, 1) := by decide +kernel
theorem dX8_spelled_184 : decode cX8_spelled 184 = .ok (.bipush 100, 2) := by decide +kernel
theorem dX8_spelled_186 : decode cX8_spelled 186 = .ok (.bipush 114, 2) := by decide +kernel
theorem dX8_spelled_188 : decode cX8_spelled 188 = .ok (.bipush 111, 2) := by decide +kernel
theorem dX8_spelled_190 : decode cX8_spelled 190 = .ok (.bipush 112, 2) := by decide +kernel
theorem dX8_spelled_192 : decode cX8_spelled 192 = .ok (.iconst 0, 1) := by decide +kernel
theorem dX8_spelled_193 : decode cX8_spelled 193 = .ok (.iconst 0, 1) := by decide +kernel
theorem dX8_spelled_194 : decode cX8_spelled 194 = .ok (.iconst 0, 1) := by decide +kernel
theorem dX8_spelled_195 : decode cX8_spelled 195 = .ok (.invokestatic 238, 3) := by decide +kernel
theorem dX8_spelled_198 : decode cX8_spelled 198 = .ok (.ireturn, 1) := by decide +kernel
theorem dX8_word_0 : decode cX8_word 0 = .ok (.iconst 0, 1) := by decide +kernel
theorem dX8_word_1 : decode cX8_word 1 = .ok (.istore_n 1, 1) := by decide +kernel
theorem dX8_word_2 : decode cX8_word 2 = .ok (.iconst 0, 1) := by decide +kernel
theorem dX8_word_3 : decode cX8_word 3 = .ok (.istore_n 2, 1) := by decide +kernel
theorem dX8_word_4 : decode cX8_word 4 = .ok (.iload_n 2, 1) := by decide +kernel
theorem dX8_word_5 : decode cX8_word 5 = .ok (.bipush 9, 2) := by decide +kernel
theorem dX8_word_7 : decode cX8_word 7 = .ok (.if_icmp .ge 88, 3) := by decide +kernel
theorem dX8_word_10 : decode cX8_word 10 = .ok (.iconst 0, 1) := by decide +kernel
theorem dX8_word_11 : decode cX8_word 11 = .ok (.istore_n 3, 1) := by decide +kernel
theorem dX8_word_12 : decode cX8_word 12 = .ok (.iload_n 2, 1) := by decide +kernel
theorem dX8_word_13 : decode cX8_word 13 = .ok (.iload_n 3, 1) := by decide +kernel
theorem dX8_word_14 : decode cX8_word 14 = .ok (.invokestatic 242, 3) := by decide +kernel
theorem dX8_word_17 : decode cX8_word 17 = .ok (.ifCond .le 41, 3) := by decide +kernel
theorem dX8_word_20 : decode cX8_word 20 = .ok (.aload_n 0, 1) := by decide +kernel
theorem dX8_word_21 : decode cX8_word 21 = .ok (.getfield 78, 3) := by decide +kernel
theorem dX8_word_24 : decode cX8_word 24 = .ok (.iload_n 3, 1) := by decide +kernel
theorem dX8_word_25 : decode cX8_word 25 = .ok (.iadd, 1) := by decide +kernel
theorem dX8_word_26 : decode cX8_word 26 = .ok (.aload_n 0, 1) := by decide +kernel
theorem dX8_word_27 : decode cX8_word 27 = .ok (.getfield 75, 3) := by decide +kernel
theorem dX8_word_30 : decode cX8_word 30 = .ok (.if_icmp .ge 28, 3) := by decide +kernel
theorem dX8_word_33 : decode cX8_word 33 = .ok (.aload_n 0, 1) := by decide +kernel
theorem dX8_word_34 : decode cX8_word 34 = .ok (.getfield 60, 3) := by decide +kernel
theorem dX8_word_37 : decode cX8_word 37 = .ok (.aload_n 0, 1) := by decide +kernel
theorem dX8_word_38 : decode cX8_word 38 = .ok (.getfield 78, 3) := by decide +kernel
theorem dX8_word_41 : decode cX8_word 41 = .ok (.iload_n 3, 1) := by decide +kernel
theorem dX8_word_42 : decode cX8_word 42 = .ok (.iadd, 1) := by decide +kernel
theorem dX8_word_43 : decode cX8_word 43 = .ok (.iaload, 1) := by decide +kernel
theorem dX8_word_44 : decode cX8_word 44 = .ok (.iload_n 2, 1) := by decide +kernel
theorem dX8_word_45 : decode cX8_word 45 = .ok (.iload_n 3, 1) := by decide +kernel
theorem dX8_word_46 : decode cX8_word 46 = .ok (.invokestatic 242, 3) := by decide +kernel
theorem dX8_word_49 : decode cX8_word 49 = .ok (.if_icmp .ne 9, 3) := by decide +kernel
theorem dX8_word_52 : decode cX8_word 52 = .ok (.iinc 3 1, 3) := by decide +kernel
theorem dX8_word_55 : decode cX8_word 55 = .ok (.goto (-43), 3) := by decide +kernel
theorem dX8_word_58 : decode cX8_word 58 = .ok (.iload_n 2, 1) := by decide +kernel
theorem dX8_word_59 : decode cX8_word 59 = .ok (.iload_n 3, 1) := by decide +kernel
theorem dX8_word_60 : decode cX8_word 60 = .ok (.invokestatic 242, 3) := by decide +kernel
theorem dX8_word_63 : decode cX8_word 63 = .ok (.ifCond .ne 15, 3) := by decide +kernel
theorem dX8_word_66 : decode cX8_word 66 = .ok (.aload_n 0, 1) := by decide +kernel
theorem dX8_word_67 : decode cX8_word 67 = .ok (.dup, 1) := by decide +kernel
theorem dX8_word_68 : decode cX8_word 68 = .ok (.getfield 78, 3) := by decide +kernel
theorem dX8_word_71 : decode cX8_word 71 = .ok (.iload_n 3, 1) := by decide +kernel
theorem dX8_word_72 : decode cX8_word 72 = .ok (.iadd, 1) := by decide +kernel
theorem dX8_word_73 : decode cX8_word 73 = .ok (.putfield 78, 3) := by decide +kernel
theorem dX8_word_76 : decode cX8_word 76 = .ok (.iload_n 2, 1) := by decide +kernel
theorem dX8_word_77 : decode cX8_word 77 = .ok (.ireturn, 1) := by decide +kernel
theorem dX8_word_78 : decode cX8_word 78 = .ok (.iload_n 3, 1) := by decide +kernel
theorem dX8_word_79 : decode cX8_word 79 = .ok (.iload_n 1, 1) := by decide +kernel
theorem dX8_word_80 : decode cX8_word 80 = .ok (.if_icmp .le 7, 3) := by decide +kernel
theorem dX8_word_83 : decode cX8_word 83 = .ok (.iload_n 3, 1) := by decide +kernel
theorem dX8_word_84 : decode cX8_word 84 = .ok (.goto 4, 3) := by decide +kernel
theorem dX8_word_87 : decode cX8_word 87 = .ok (.iload_n 1, 1) := by decide +kernel
theorem dX8_word_88 : decode cX8_word 88 = .ok (.istore_n 1, 1) := by decide +kernel
theorem dX8_word_89 : decode cX8_word 89 = .ok (.iinc 2 1, 3) := by decide +kernel
theorem dX8_word_92 : decode cX8_word 92 = .ok (.goto (-88), 3) := by decide +kernel
theorem dX8_word_95 : decode cX8_word 95 = .ok (.aload_n 0, 1) := by decide +kernel
theorem dX8_word_96 : decode cX8_word 96 = .ok (.dup, 1) := by decide +kernel
theorem dX8_word_97 : decode cX8_word 97 = .ok (.getfield 78, 3) := by decide +kernel
theorem dX8_word_100 : decode cX8_word 100 = .ok (.iload_n 1, 1) := by decide +kernel
theorem dX8_word_101 : decode cX8_word 101 = .ok (.iadd, 1) := by decide +kernel
theorem dX8_word_102 : decode cX8_word 102 = .ok (.putfield 78, 3) := by decide +kernel
theorem dX8_word_105 : decode cX8_word 105 = .ok (.aload_n 0, 1) := by decide +kernel
theorem dX8_word_106 : decode cX8_word 106 = .ok (.iconst 1, 1) := by decide +kernel
theorem dX8_word_107 : decode cX8_word 107 = .ok (.putfield 84, 3) := by decide +kernel
theorem dX8_word_110 : decode cX8_word 110 = .ok (.iconst 0, 1) := by decide +kernel
theorem dX8_word_111 : decode cX8_word 111 = .ok (.ireturn, 1) := by decide +kernel
theorem dX8_firstDigits_0 : decode cX8_firstDigits 0 = .ok (.iload_n 0, 1) := by decide +kernel
theorem dX8_firstDigits_1 : decode cX8_firstDigits 1 = .ok (.iconst 1, 1) := by decide +kernel
theorem dX8_firstDigits_2 : decode cX8_firstDigits 2 = .ok (.if_icmp .ne 7, 3) := by decide +kernel
theorem dX8_firstDigits_5 : decode cX8_firstDigits 5 = .ok (.iconst 3, 1) := by decide +kernel
theorem dX8_firstDigits_6 : decode cX8_firstDigits 6 = .ok (.goto 26, 3) := by decide +kernel
theorem dX8_firstDigits_9 : decode cX8_firstDigits 9 = .ok (.iload_n 0, 1) := by decide +kernel
theorem dX8_firstDigits_10 : decode cX8_firstDigits 10 = .ok (.bipush 6, 2) := by decide +kernel
theorem dX8_firstDigits_12 : decode cX8_firstDigits 12 = .ok (.if_icmp .eq 15, 3) := by decide +kernel
theorem dX8_firstDigits_15 : decode cX8_firstDigits 15 = .ok (.iload_n 0, 1) := by decide +kernel
theorem dX8_firstDigits_16 : decode cX8_firstDigits 16 = .ok (.bipush 7, 2) := by decide +kernel
theorem dX8_firstDigits_18 : decode cX8_firstDigits 18 = .ok (.if_icmp .eq 9, 3) := by decide +kernel
theorem dX8_firstDigits_21 : decode cX8_firstDigits 21 = .ok (.iload_n 0, 1) := by decide +kernel
theorem dX8_firstDigits_22 : decode cX8_firstDigits 22 = .ok (.bipush 8, 2) := by decide +kernel
theorem dX8_firstDigits_24 : decode cX8_firstDigits 24 = .ok (.if_icmp .ne 7, 3) := by decide +kernel
theorem dX8_firstDigits_27 : decode cX8_firstDigits 27 = .ok (.iconst 2, 1) := by decide +kernel
theorem dX8_firstDigits_28 : decode cX8_firstDigits 28 = .ok (.goto 4, 3) := by decide +kernel
theorem dX8_firstDigits_31 : decode cX8_firstDigits 31 = .ok (.iconst 1, 1) := by decide +kernel
theorem dX8_firstDigits_32 : decode cX8_firstDigits 32 = .ok (.ireturn, 1) := by decide +kernel
theorem dX8_command_0 : decode cX8_command 0 = .ok (.aload_n 0, 1) := by decide +kernel
theorem dX8_command_1 : decode cX8_command 1 = .ok (.invokevirtual 245, 3) := by decide +kernel
theorem dX8_command_4 : decode cX8_command 4 = .ok (.istore_n 1, 1) := by decide +kernel
theorem dX8_command_5 : decode cX8_command 5 = .ok (.aload_n 0, 1) := by decide +kernel
theorem dX8_command_6 : decode cX8_command 6 = .ok (.getfield 84, 3) := by decide +kernel
theorem dX8_command_9 : decode cX8_command 9 = .ok (.ifCond .eq 4, 3) := by decide +kernel
theorem dX8_command_12 : decode cX8_command 12 = .ok (.return_, 1) := by decide +kernel
theorem dX8_command_13 : decode cX8_command 13 = .ok (.aload_n 0, 1) := by decide +kernel
theorem dX8_command_14 : decode cX8_command 14 = .ok (.getfield 66, 3) := by decide +kernel
theorem dX8_command_17 : decode cX8_command 17 = .ok (.aload_n 0, 1) := by decide +kernel
theorem dX8_command_18 : decode cX8_command 18 = .ok (.getfield 81, 3) := by decide +kernel
theorem dX8_command_21 : decode cX8_command 21 = .ok (.iload_n 1, 1) := by decide +kernel
theorem dX8_command_22 : decode cX8_command 22 = .ok (.iconst 5, 1) := by decide +kernel
theorem dX8_command_23 : decode cX8_command 23 = .ok (.if_icmp .ne 7, 3) := by decide +kernel
theorem dX8_command_26 : decode cX8_command 26 = .ok (.iconst 0, 1) := by decide +kernel
theorem dX8_command_27 : decode cX8_command 27 = .ok (.goto 11, 3) := by decide +kernel
theorem dX8_command_30 : decode cX8_command 30 = .ok (.aload_n 0, 1) := by decide +kernel
theorem dX8_command_31 : decode cX8_command 31 = .ok (.iload_n 1, 1) := by decide +kernel
theorem dX8_command_32 : decode cX8_command 32 = .ok (.invokestatic 248, 3) := by decide +kernel
theorem dX8_command_35 : decode cX8_command 35 = .ok (.invokevirtual 251, 3) := by decide +kernel
theorem dX8_command_38 : decode cX8_command 38 = .ok (.iastore, 1) := by decide +kernel
theorem dX8_command_39 : decode cX8_command 39 = .ok (.aload_n 0, 1) := by decide +kernel
theorem dX8_command_40 : decode cX8_command 40 = .ok (.getfield 69, 3) := by decide +kernel
theorem dX8_command_43 : decode cX8_command 43 = .ok (.aload_n 0, 1) := by decide +kernel
theorem dX8_command_44 : decode cX8_command 44 = .ok (.getfield 81, 3) := by decide +kernel
theorem dX8_command_47 : decode cX8_command 47 = .ok (.iload_n 1, 1) := by decide +kernel
theorem dX8_command_48 : decode cX8_command 48 = .ok (.ifCond .ne 11, 3) := by decide +kernel
theorem dX8_command_51 : decode cX8_command 51 = .ok (.aload_n 0, 1) := by decide +kernel
theorem dX8_command_52 : decode cX8_command 52 = .ok (.iconst 3, 1) := by decide +kernel
theorem dX8_command_53 : decode cX8_command 53 = .ok (.invokevirtual 251, 3) := by decide +kernel
theorem dX8_command_56 : decode cX8_command 56 = .ok (.goto 17, 3) := by decide +kernel
theorem dX8_command_59 : decode cX8_command 59 = .ok (.iload_n 1, 1) := by decide +kernel
theorem dX8_command_60 : decode cX8_command 60 = .ok (.iconst 2, 1) := by decide +kernel
theorem dX8_command_61 : decode cX8_command 61 = .ok (.if_icmp .ne 11, 3) := by decide +kernel
theorem dX8_command_64 : decode cX8_command 64 = .ok (.aload_n 0, 1) := by decide +kernel
theorem dX8_command_65 : decode cX8_command 65 = .ok (.iconst 2, 1) := by decide +kernel
theorem dX8_command_66 : decode cX8_command 66 = .ok (.invokevirtual 251, 3) := by decide +kernel
theorem dX8_command_69 : decode cX8_command 69 = .ok (.goto 4, 3) := by decide +kernel
theorem dX8_command_72 : decode cX8_command 72 = .ok (.iconst 0, 1) := by decide +kernel
theorem dX8_command_73 : decode cX8_command 73 = .ok (.iastore, 1) := by decide +kernel
theorem dX8_command_74 : decode cX8_command 74 = .ok (.aload_n 0, 1) := by decide +kernel
theorem dX8_command_75 : decode cX8_command 75 = .ok (.getfield 84, 3) := by decide +kernel
theorem dX8_command_78 : decode cX8_command 78 = .ok (.ifCond .eq 4, 3) := by decide +kernel
theorem dX8_command_81 : decode cX8_command 81 = .ok (.return_, 1) := by decide +kernel
theorem dX8_command_82 : decode cX8_command 82 = .ok (.aload_n 0, 1) := by decide +kernel
theorem dX8_command_83 : decode cX8_command 83 = .ok (.getfield 63, 3) := by decide +kernel
theorem dX8_command_86 : decode cX8_command 86 = .ok (.aload_n 0, 1) := by decide +kernel
theorem dX8_command_87 : decode cX8_command 87 = .ok (.getfield 81, 3) := by decide +kernel
theorem dX8_command_90 : decode cX8_command 90 = .ok (.iload_n 1, 1) := by decide +kernel
theorem dX8_command_91 : decode cX8_command 91 = .ok (.iastore, 1) := by decide +kernel
theorem dX8_command_92 : decode cX8_command 92 = .ok (.aload_n 0, 1) := by decide +kernel
theorem dX8_command_93 : decode cX8_command 93 = .ok (.dup, 1) := by decide +kernel
theorem dX8_command_94 : decode cX8_command 94 = .ok (.getfield 81, 3) := by decide +kernel
theorem dX8_command_97 : decode cX8_command 97 = .ok (.iconst 1, 1) := by decide +kernel
theorem dX8_command_98 : decode cX8_command 98 = .ok (.iadd, 1) := by decide +kernel
theorem dX8_command_99 : decode cX8_command 99 = .ok (.putfield 81, 3) := by decide +kernel
theorem dX8_command_102 : decode cX8_command 102 = .ok (.return_, 1) := by decide +kernel
theorem dX8_parse_0 : decode cX8_parse 0 = .ok (.aload_n 0, 1) := by decide +kernel
theorem dX8_parse_1 : decode cX8_parse 1 = .ok (.aload_n 0, 1) := by decide +kernel
theorem dX8_parse_2 : decode cX8_parse 2 = .ok (.getfield 72, 3) := by decide +kernel
theorem dX8_parse_5 : decode cX8_parse 5 = .ok (.putfield 75, 3) := by decide +kernel
theorem dX8_parse_8 : decode cX8_parse 8 = .ok (.aload_n 0, 1) := by decide +kernel
theorem dX8_parse_9 : decode cX8_parse 9 = .ok (.iconst 0, 1) := by decide +kernel
theorem dX8_parse_10 : decode cX8_parse 10 = .ok (.putfield 72, 3) := by decide +kernel
theorem dX8_parse_13 : decode cX8_parse 13 = .ok (.aload_n 0, 1) := by decide +kernel
theorem dX8_parse_14 : decode cX8_parse 14 = .ok (.iconst 0, 1) := by decide +kernel
theorem dX8_parse_15 : decode cX8_parse 15 = .ok (.putfield 78, 3) := by decide +kernel
theorem dX8_parse_18 : decode cX8_parse 18 = .ok (.aload_n 0, 1) := by decide +kernel
theorem dX8_parse_19 : decode cX8_parse 19 = .ok (.iconst 0, 1) := by decide +kernel
theorem dX8_parse_20 : decode cX8_parse 20 = .ok (.putfield 81, 3) := by decide +kernel
theorem dX8_parse_23 : decode cX8_parse 23 = .ok (.aload_n 0, 1) := by decide +kernel
theorem dX8_parse_24 : decode cX8_parse 24 = .ok (.iconst 0, 1) := by decide +kernel
theorem dX8_parse_25 : decode cX8_parse 25 = .ok (.putfield 84, 3) := by decide +kernel
theorem dX8_parse_28 : decode cX8_parse 28 = .ok (.aload_n 0, 1) := by decide +kernel
theorem dX8_parse_29 : decode cX8_parse 29 = .ok (.invokevirtual 254, 3) := by decide +kernel
theorem dX8_parse_32 : decode cX8_parse 32 = .ok (.aload_n 0, 1) := by decide +kernel
theorem dX8_parse_33 : decode cX8_parse 33 = .ok (.invokevirtual 235, 3) := by decide +kernel
theorem dX8_parse_36 : decode cX8_parse 36 = .ok (.bipush 59, 2) := by decide +kernel
theorem dX8_parse_38 : decode cX8_parse 38 = .ok (.if_icmp .ne 20, 3) := by decide +kernel
theorem dX8_parse_41 : decode cX8_parse 41 = .ok (.aload_n 0, 1) := by decide +kernel
theorem dX8_parse_42 : decode cX8_parse 42 = .ok (.dup, 1) := by decide +kernel
theorem dX8_parse_43 : decode cX8_parse 43 = .ok (.getfield 78, 3) := by decide +kernel
theorem dX8_parse_46 : decode cX8_parse 46 = .ok (.iconst 1, 1) := by decide +kernel
theorem dX8_parse_47 : decode cX8_parse 47 = .ok (.iadd, 1) := by decide +kernel
theorem dX8_parse_48 : decode cX8_parse 48 = .ok (.putfield 78, 3) := by decide +kernel
theorem dX8_parse_51 : decode cX8_parse 51 = .ok (.aload_n 0, 1) := by decide +kernel
theorem dX8_parse_52 : decode cX8_parse 52 = .ok (.invokevirtual 254, 3) := by decide +kernel
theorem dX8_parse_55 : decode cX8_parse 55 = .ok (.goto (-23), 3) := by decide +kernel
theorem dX8_parse_58 : decode cX8_parse 58 = .ok (.aload_n 0, 1) := by decide +kernel
theorem dX8_parse_59 : decode cX8_parse 59 = .ok (.dup, 1) := by decide +kernel
theorem dX8_parse_60 : decode cX8_parse 60 = .ok (.getfield 84, 3) := by decide +kernel
theorem dX8_parse_63 : decode cX8_parse 63 = .ok (.aload_n 0, 1) := by decide +kernel
theorem dX8_parse_64 : decode cX8_parse 64 = .ok (.getfield 78, 3) := by decide +kernel
theorem dX8_parse_67 : decode cX8_parse 67 = .ok (.aload_n 0, 1) := by decide +kernel
theorem dX8_parse_68 : decode cX8_parse 68 = .ok (.getfield 75, 3) := by decide +kernel
theorem dX8_parse_71 : decode cX8_parse 71 = .ok (.if_icmp .ge 7, 3) := by decide +kernel
theorem dX8_parse_74 : decode cX8_parse 74 = .ok (.iconst 1, 1) := by decide +kernel
theorem dX8_parse_75 : decode cX8_parse 75 = .ok (.goto 4, 3) := by decide +kernel
theorem dX8_parse_78 : decode cX8_parse 78 = .ok (.iconst 0, 1) := by decide +kernel
theorem dX8_parse_79 : decode cX8_parse 79 = .ok (.ior, 1) := by decide +kernel
theorem dX8_parse_80 : decode cX8_parse 80 = .ok (.putfield 84, 3) := by decide +kernel
theorem dX8_parse_83 : decode cX8_parse 83 = .ok (.return_, 1) := by decide +kernel
theorem dX8_why_0 : decode cX8_why 0 = .ok (.iload_n 1, 1) := by decide +kernel
theorem dX8_why_1 : decode cX8_why 1 = .ok (.tableswitch 111 0 7 #[47, 54, 60, 67, 81, 87, 89, 105], 47) := by decide +kernel
theorem dX8_why_48 : decode cX8_why 48 = .ok (.aload_n 0, 1) := by decide +kernel
theorem dX8_why_49 : decode cX8_why 49 = .ok (.iload_n 2, 1) := by decide +kernel
theorem dX8_why_50 : decode cX8_why 50 = .ok (.iload_n 3, 1) := by decide +kernel
theorem dX8_why_51 : decode cX8_why 51 = .ok (.invokevirtual 102, 3) := by decide +kernel
theorem dX8_why_54 : decode cX8_why 54 = .ok (.ireturn, 1) := by decide +kernel
theorem dX8_why_55 : decode cX8_why 55 = .ok (.aload_n 0, 1) := by decide +kernel
theorem dX8_why_56 : decode cX8_why 56 = .ok (.iload_n 2, 1) := by decide +kernel
theorem dX8_why_57 : decode cX8_why 57 = .ok (.invokevirtual 116, 3) := by decide +kernel
theorem dX8_why_60 : decode cX8_why 60 = .ok (.ireturn, 1) := by decide +kernel
theorem dX8_why_61 : decode cX8_why 61 = .ok (.aload_n 0, 1) := by decide +kernel
theorem dX8_why_62 : decode cX8_why 62 = .ok (.iload_n 2, 1) := by decide +kernel
theorem dX8_why_63 : decode cX8_why 63 = .ok (.iload_n 3, 1) := by decide +kernel
theorem dX8_why_64 : decode cX8_why 64 = .ok (.invokevirtual 141, 3) := by decide +kernel
theorem dX8_why_67 : decode cX8_why 67 = .ok (.ireturn, 1) := by decide +kernel
theorem dX8_why_68 : decode cX8_why 68 = .ok (.aload_n 0, 1) := by decide +kernel
theorem dX8_why_69 : decode cX8_why 69 = .ok (.iload_n 2, 1) := by decide +kernel
theorem dX8_why_70 : decode cX8_why 70 = .ok (.invokevirtual 147, 3) := by decide +kernel
theorem dX8_why_73 : decode cX8_why 73 = .ok (.ifCond .eq 7, 3) := by decide +kernel
theorem dX8_why_76 : decode cX8_why 76 = .ok (.iconst 0, 1) := by decide +kernel
theorem dX8_why_77 : decode cX8_why 77 = .ok (.goto 4, 3) := by decide +kernel
theorem dX8_why_80 : decode cX8_why 80 = .ok (.iconst 1, 1) := by decide +kernel
theorem dX8_why_81 : decode cX8_why 81 = .ok (.ireturn, 1) := by decide +kernel
theorem dX8_why_82 : decode cX8_why 82 = .ok (.aload_n 0, 1) := by decide +kernel
theorem dX8_why_83 : decode cX8_why 83 = .ok (.iload_n 2, 1) := by decide +kernel
theorem dX8_why_84 : decode cX8_why 84 = .ok (.invokevirtual 168, 3) := by decide +kernel
theorem dX8_why_87 : decode cX8_why 87 = .ok (.ireturn, 1) := by decide +kernel
theorem dX8_why_88 : decode cX8_why 88 = .ok (.iconst 0, 1) := by decide +kernel
theorem dX8_why_89 : decode cX8_why 89 = .ok (.ireturn, 1) := by decide +kernel
theorem dX8_why_90 : decode cX8_why 90 = .ok (.iload_n 2, 1) := by decide +kernel
theorem dX8_why_91 : decode cX8_why 91 = .ok (.iconst 1, 1) := by decide +kernel
theorem dX8_why_92 : decode cX8_why 92 = .ok (.bipush 48, 2) := by decide +kernel
theorem dX8_why_94 : decode cX8_why 94 = .ok (.invokestatic 91, 3) := by decide +kernel
theorem dX8_why_97 : decode cX8_why 97 = .ok (.ifCond .eq 7, 3) := by decide +kernel
theorem dX8_why_100 : decode cX8_why 100 = .ok (.iconst 0, 1) := by decide +kernel
theorem dX8_why_101 : decode cX8_why 101 = .ok (.goto 4, 3) := by decide +kernel
theorem dX8_why_104 : decode cX8_why 104 = .ok (.iconst 1, 1) := by decide +kernel
theorem dX8_why_105 : decode cX8_why 105 = .ok (.ireturn, 1) := by decide +kernel
theorem dX8_why_106 : decode cX8_why 106 = .ok (.aload_n 0, 1) := by decide +kernel
theorem dX8_why_107 : decode cX8_why 107 = .ok (.iload_n 2, 1) := by decide +kernel
theorem dX8_why_108 : decode cX8_why 108 = .ok (.invokevirtual 210, 3) := by decide +kernel
theorem dX8_why_111 : decode cX8_why 111 = .ok (.ireturn, 1) := by decide +kernel
theorem dX8_why_112 : decode cX8_why 112 = .ok (.aload_n 0, 1) := by decide +kernel
theorem dX8_why_113 : decode cX8_why 113 = .ok (.iload_n 2, 1) := by decide +kernel
theorem dX8_why_114 : decode cX8_why 114 = .ok (.invokevirtual 216, 3) := by decide +kernel
theorem dX8_why_117 : decode cX8_why 117 = .ok (.ifCond .eq 7, 3) := by decide +kernel
theorem dX8_why_120 : decode cX8_why 120 = .ok (.iconst 0, 1) := by decide +kernel
theorem dX8_why_121 : decode cX8_why 121 = .ok (.goto 4, 3) := by decide +kernel
theorem dX8_why_124 : decode cX8_why 124 = .ok (.iconst 1, 1) := by decide +kernel
theorem dX8_why_125 : decode cX8_why 125 = .ok (.ireturn, 1) := by decide +kernel
theorem dX8_does_0 : decode cX8_does 0 = .ok (.iload_n 1, 1) := by decide +kernel
theorem dX8_does_1 : decode cX8_does 1 = .ok (.tableswitch 96 0 7 #[47, 54, 60, 67, 73, 79, 84, 90], 47) := by decide +kernel
theorem dX8_does_48 : decode cX8_does 48 = .ok (.aload_n 0, 1) := by decide +kernel
theorem dX8_does_49 : decode cX8_does 49 = .ok (.iload_n 2, 1) := by decide +kernel
theorem dX8_does_50 : decode cX8_does 50 = .ok (.iload_n 3, 1) := by decide +kernel
theorem dX8_does_51 : decode cX8_does 51 = .ok (.invokevirtual 110, 3) := by decide +kernel
theorem dX8_does_54 : decode cX8_does 54 = .ok (.ireturn, 1) := by decide +kernel
theorem dX8_does_55 : decode cX8_does 55 = .ok (.aload_n 0, 1) := by decide +kernel
theorem dX8_does_56 : decode cX8_does 56 = .ok (.iload_n 2, 1) := by decide +kernel
theorem dX8_does_57 : decode cX8_does 57 = .ok (.invokevirtual 119, 3) := by decide +kernel
theorem dX8_does_60 : decode cX8_does 60 = .ok (.ireturn, 1) := by decide +kernel
theorem dX8_does_61 : decode cX8_does 61 = .ok (.aload_n 0, 1) := by decide +kernel
theorem dX8_does_62 : decode cX8_does 62 = .ok (.iload_n 2, 1) := by decide +kernel
theorem dX8_does_63 : decode cX8_does 63 = .ok (.iload_n 3, 1) := by decide +kernel
theorem dX8_does_64 : decode cX8_does 64 = .ok (.invokevirtual 144, 3) := by decide +kernel
theorem dX8_does_67 : decode cX8_does 67 = .ok (.ireturn, 1) := by decide +kernel
theorem dX8_does_68 : decode cX8_does 68 = .ok (.aload_n 0, 1) := by decide +kernel
theorem dX8_does_69 : decode cX8_does 69 = .ok (.iload_n 2, 1) := by decide +kernel
theorem dX8_does_70 : decode cX8_does 70 = .ok (.invokevirtual 150, 3) := by decide +kernel
theorem dX8_does_73 : decode cX8_does 73 = .ok (.ireturn, 1) := by decide +kernel
theorem dX8_does_74 : decode cX8_does 74 = .ok (.aload_n 0, 1) := by decide +kernel
theorem dX8_does_75 : decode cX8_does 75 = .ok (.iload_n 2, 1) := by decide +kernel
theorem dX8_does_76 : decode cX8_does 76 = .ok (.invokevirtual 171, 3) := by decide +kernel
theorem dX8_does_79 : decode cX8_does 79 = .ok (.ireturn, 1) := by decide +kernel
theorem dX8_does_80 : decode cX8_does 80 = .ok (.aload_n 0, 1) := by decide +kernel
theorem dX8_does_81 : decode cX8_does 81 = .ok (.invokevirtual 204, 3) := by decide +kernel
theorem dX8_does_84 : decode cX8_does 84 = .ok (.ireturn, 1) := by decide +kernel
theorem dX8_does_85 : decode cX8_does 85 = .ok (.aload_n 0, 1) := by decide +kernel
theorem dX8_does_86 : decode cX8_does 86 = .ok (.iload_n 2, 1) := by decide +kernel
theorem dX8_does_87 : decode cX8_does 87 = .ok (.invokevirtual 122, 3) := by decide +kernel
theorem dX8_does_90 : decode cX8_does 90 = .ok (.ireturn, 1) := by decide +kernel
theorem dX8_does_91 : decode cX8_does 91 = .ok (.aload_n 0, 1) := by decide +kernel
theorem dX8_does_92 : decode cX8_does 92 = .ok (.iload_n 2, 1) := by decide +kernel
theorem dX8_does_93 : decode cX8_does 93 = .ok (.invokevirtual 213, 3) := by decide +kernel
theorem dX8_does_96 : decode cX8_does 96 = .ok (.ireturn, 1) := by decide +kernel
theorem dX8_does_97 : decode cX8_does 97 = .ok (.aload_n 0, 1) := by decide +kernel
theorem dX8_does_98 : decode cX8_does 98 = .ok (.iload_n 2, 1) := by decide +kernel
theorem dX8_does_99 : decode cX8_does 99 = .ok (.invokevirtual 219, 3) := by decide +kernel
theorem dX8_does_102 : decode cX8_does 102 = .ok (.ireturn, 1) := by decide +kernel
theorem dX8_execute_0 : decode cX8_execute 0 = .ok (.aload_n 0, 1) := by decide +kernel
theorem dX8_execute_1 : decode cX8_execute 1 = .ok (.invokevirtual 99, 3) := by decide +kernel
theorem dX8_execute_4 : decode cX8_execute 4 = .ok (.aload_n 0, 1) := by decide +kernel
theorem dX8_execute_5 : decode cX8_execute 5 = .ok (.invokevirtual 257, 3) := by decide +kernel
theorem dX8_execute_8 : decode cX8_execute 8 = .ok (.aload_n 0, 1) := by decide +kernel
theorem dX8_execute_9 : decode cX8_execute 9 = .ok (.getfield 84, 3) := by decide +kernel
theorem dX8_execute_12 : decode cX8_execute 12 = .ok (.ifCond .eq 17, 3) := by decide +kernel
theorem dX8_execute_15 : decode cX8_execute 15 = .ok (.aload_n 0, 1) := by decide +kernel
theorem dX8_execute_16 : decode cX8_execute 16 = .ok (.aload_n 0, 1) := by decide +kernel
theorem dX8_execute_17 : decode cX8_execute 17 = .ok (.getfield 78, 3) := by decide +kernel
theorem dX8_execute_20 : decode cX8_execute 20 = .ok (.putfield 44, 3) := by decide +kernel
theorem dX8_execute_23 : decode cX8_execute 23 = .ok (.aload_n 0, 1) := by decide +kernel
theorem dX8_execute_24 : decode cX8_execute 24 = .ok (.iconst 1, 1) := by decide +kernel
theorem dX8_execute_25 : decode cX8_execute 25 = .ok (.invokevirtual 106, 3) := by decide +kernel
theorem dX8_execute_28 : decode cX8_execute 28 = .ok (.ireturn, 1) := by decide +kernel
theorem dX8_execute_29 : decode cX8_execute 29 = .ok (.iconst 0, 1) := by decide +kernel
theorem dX8_execute_30 : decode cX8_execute 30 = .ok (.istore_n 1, 1) := by decide +kernel
theorem dX8_execute_31 : decode cX8_execute 31 = .ok (.iconst 0, 1) := by decide +kernel
theorem dX8_execute_32 : decode cX8_execute 32 = .ok (.istore_n 2, 1) := by decide +kernel
theorem dX8_execute_33 : decode cX8_execute 33 = .ok (.iload_n 2, 1) := by decide +kernel
theorem dX8_execute_34 : decode cX8_execute 34 = .ok (.aload_n 0, 1) := by decide +kernel
theorem dX8_execute_35 : decode cX8_execute 35 = .ok (.getfield 81, 3) := by decide +kernel
theorem dX8_execute_38 : decode cX8_execute 38 = .ok (.if_icmp .ge 84, 3) := by decide +kernel
theorem dX8_execute_41 : decode cX8_execute 41 = .ok (.aload_n 0, 1) := by decide +kernel
theorem dX8_execute_42 : decode cX8_execute 42 = .ok (.aload_n 0, 1) := by decide +kernel
theorem dX8_execute_43 : decode cX8_execute 43 = .ok (.getfield 63, 3) := by decide +kernel
theorem dX8_execute_46 : decode cX8_execute 46 = .ok (.iload_n 2, 1) := by decide +kernel
theorem dX8_execute_47 : decode cX8_execute 47 = .ok (.iaload, 1) := by decide +kernel
theorem dX8_execute_48 : decode cX8_execute 48 = .ok (.aload_n 0, 1) := by decide +kernel
theorem dX8_execute_49 : decode cX8_execute 49 = .ok (.getfield 66, 3) := by decide +kernel
theorem dX8_execute_52 : decode cX8_execute 52 = .ok (.iload_n 2, 1) := by decide +kernel
theorem dX8_execute_53 : decode cX8_execute 53 = .ok (.iaload, 1) := by decide +kernel
theorem dX8_execute_54 : decode cX8_execute 54 = .ok (.aload_n 0, 1) := by decide +kernel
theorem dX8_execute_55 : decode cX8_execute 55 = .ok (.getfield 69, 3) := by decide +kernel
theorem dX8_execute_58 : decode cX8_execute 58 = .ok (.iload_n 2, 1) := by decide +kernel
theorem dX8_execute_59 : decode cX8_execute 59 = .ok (.iaload, 1) := by decide +kernel
theorem dX8_execute_60 : decode cX8_execute 60 = .ok (.invokevirtual 260, 3) := by decide +kernel
theorem dX8_execute_63 : decode cX8_execute 63 = .ok (.ifCond .ne 29, 3) := by decide +kernel
theorem dX8_execute_66 : decode cX8_execute 66 = .ok (.aload_n 0, 1) := by decide +kernel
theorem dX8_execute_67 : decode cX8_execute 67 = .ok (.aload_n 0, 1) := by decide +kernel
theorem dX8_execute_68 : decode cX8_execute 68 = .ok (.getfield 63, 3) := by decide +kernel
theorem dX8_execute_71 : decode cX8_execute 71 = .ok (.iload_n 2, 1) := by decide +kernel
theorem dX8_execute_72 : decode cX8_execute 72 = .ok (.iaload, 1) := by decide +kernel
theorem dX8_execute_73 : decode cX8_execute 73 = .ok (.aload_n 0, 1) := by decide +kernel
theorem dX8_execute_74 : decode cX8_execute 74 = .ok (.getfield 66, 3) := by decide +kernel
theorem dX8_execute_77 : decode cX8_execute 77 = .ok (.iload_n 2, 1) := by decide +kernel
theorem dX8_execute_78 : decode cX8_execute 78 = .ok (.iaload, 1) := by decide +kernel
theorem dX8_execute_79 : decode cX8_execute 79 = .ok (.aload_n 0, 1) := by decide +kernel
theorem dX8_execute_80 : decode cX8_execute 80 = .ok (.getfield 69, 3) := by decide +kernel
theorem dX8_execute_83 : decode cX8_execute 83 = .ok (.iload_n 2, 1) := by decide +kernel
theorem dX8_execute_84 : decode cX8_execute 84 = .ok (.iaload, 1) := by decide +kernel
theorem dX8_execute_85 : decode cX8_execute 85 = .ok (.invokevirtual 263, 3) := by decide +kernel
theorem dX8_execute_88 : decode cX8_execute 88 = .ok (.istore_n 1, 1) := by decide +kernel
theorem dX8_execute_89 : decode cX8_execute 89 = .ok (.goto 27, 3) := by decide +kernel
theorem dX8_execute_92 : decode cX8_execute 92 = .ok (.aload_n 0, 1) := by decide +kernel
theorem dX8_execute_93 : decode cX8_execute 93 = .ok (.getfield 13, 3) := by decide +kernel
theorem dX8_execute_96 : decode cX8_execute 96 = .ok (.iconst 0, 1) := by decide +kernel
theorem dX8_execute_97 : decode cX8_execute 97 = .ok (.aload_n 0, 1) := by decide +kernel
theorem dX8_execute_98 : decode cX8_execute 98 = .ok (.getfield 7, 3) := by decide +kernel
theorem dX8_execute_101 : decode cX8_execute 101 = .ok (.iconst 0, 1) := by decide +kernel
theorem dX8_execute_102 : decode cX8_execute 102 = .ok (.invokestatic 87, 3) := by decide +kernel
theorem dX8_execute_105 : decode cX8_execute 105 = .ok (.aload_n 0, 1) := by decide +kernel
theorem dX8_execute_106 : decode cX8_execute 106 = .ok (.iload_n 2, 1) := by decide +kernel
theorem dX8_execute_107 : decode cX8_execute 107 = .ok (.putfield 47, 3) := by decide +kernel
theorem dX8_execute_110 : decode cX8_execute 110 = .ok (.aload_n 0, 1) := by decide +kernel
theorem dX8_execute_111 : decode cX8_execute 111 = .ok (.iconst 2, 1) := by decide +kernel
theorem dX8_execute_112 : decode cX8_execute 112 = .ok (.invokevirtual 106, 3) := by decide +kernel
theorem dX8_execute_115 : decode cX8_execute 115 = .ok (.ireturn, 1) := by decide +kernel
theorem dX8_execute_116 : decode cX8_execute 116 = .ok (.iinc 2 1, 3) := by decide +kernel
theorem dX8_execute_119 : decode cX8_execute 119 = .ok (.goto (-86), 3) := by decide +kernel
theorem dX8_execute_122 : decode cX8_execute 122 = .ok (.aload_n 0, 1) := by decide +kernel
theorem dX8_execute_123 : decode cX8_execute 123 = .ok (.aload_n 0, 1) := by decide +kernel
theorem dX8_execute_124 : decode cX8_execute 124 = .ok (.getfield 81, 3) := by decide +kernel
theorem dX8_execute_127 : decode cX8_execute 127 = .ok (.invokevirtual 113, 3) := by decide +kernel
theorem dX8_execute_130 : decode cX8_execute 130 = .ok (.ireturn, 1) := by decide +kernel
theorem dX8_present_0 : decode cX8_present 0 = .ok (.aload_n 0, 1) := by decide +kernel
theorem dX8_present_1 : decode cX8_present 1 = .ok (.iload_n 1, 1) := by decide +kernel
theorem dX8_present_2 : decode cX8_present 2 = .ok (.ifCond .lt 7, 3) := by decide +kernel
theorem dX8_present_5 : decode cX8_present 5 = .ok (.iconst 1, 1) := by decide +kernel
theorem dX8_present_6 : decode cX8_present 6 = .ok (.goto 4, 3) := by decide +kernel
theorem dX8_present_9 : decode cX8_present 9 = .ok (.iconst 0, 1) := by decide +kernel
theorem dX8_present_10 : decode cX8_present 10 = .ok (.invokevirtual 125, 3) := by decide +kernel
theorem dX8_present_13 : decode cX8_present 13 = .ok (.ifCond .le 7, 3) := by decide +kernel
theorem dX8_present_16 : decode cX8_present 16 = .ok (.iconst 0, 1) := by decide +kernel
theorem dX8_present_17 : decode cX8_present 17 = .ok (.goto 4, 3) := by decide +kernel
theorem dX8_present_20 : decode cX8_present 20 = .ok (.iload_n 1, 1) := by decide +kernel
theorem dX8_present_21 : decode cX8_present 21 = .ok (.ireturn, 1) := by decide +kernel
theorem dX8_errorPosition_0 : decode cX8_errorPosition 0 = .ok (.aload_n 0, 1) := by decide +kernel
theorem dX8_errorPosition_1 : decode cX8_errorPosition 1 = .ok (.aload_n 0, 1) := by decide +kernel
theorem dX8_errorPosition_2 : decode cX8_errorPosition 2 = .ok (.getfield 44, 3) := by decide +kernel
theorem dX8_errorPosition_5 : decode cX8_errorPosition 5 = .ok (.invokevirtual 266, 3) := by decide +kernel
theorem dX8_errorPosition_8 : decode cX8_errorPosition 8 = .ok (.ireturn, 1) := by decide +kernel
theorem dX8_failedCommand_0 : decode cX8_failedCommand 0 = .ok (.aload_n 0, 1) := by decide +kernel
theorem dX8_failedCommand_1 : decode cX8_failedCommand 1 = .ok (.aload_n 0, 1) := by decide +kernel
theorem dX8_failedCommand_2 : decode cX8_failedCommand 2 = .ok (.getfield 47, 3) := by decide +kernel
theorem dX8_failedCommand_5 : decode cX8_failedCommand 5 = .ok (.invokevirtual 266, 3) := by decide +kernel
theorem dX8_failedCommand_8 : decode cX8_failedCommand 8 = .ok (.ireturn, 1) := by decide +kernel
theorem dX8_undo_0 : decode cX8_undo 0 = .ok (.aload_n 0, 1) := by decide +kernel
theorem dX8_undo_1 : decode cX8_undo 1 = .ok (.aload_n 0, 1) := by decide +kernel
theorem dX8_undo_2 : decode cX8_undo 2 = .ok (.getfield 41, 3) := by decide +kernel
theorem dX8_undo_5 : decode cX8_undo 5 = .ok (.ifCond .le 7, 3) := by decide +kernel
theorem dX8_undo_8 : decode cX8_undo 8 = .ok (.iconst 1, 1) := by decide +kernel
theorem dX8_undo_9 : decode cX8_undo 9 = .ok (.goto 4, 3) := by decide +kernel
theorem dX8_undo_12 : decode cX8_undo 12 = .ok (.iconst 0, 1) := by decide +kernel
theorem dX8_undo_13 : decode cX8_undo 13 = .ok (.invokevirtual 125, 3) := by decide +kernel
theorem dX8_undo_16 : decode cX8_undo 16 = .ok (.ifCond .le 5, 3) := by decide +kernel
theorem dX8_undo_19 : decode cX8_undo 19 = .ok (.iconst 0, 1) := by decide +kernel
theorem dX8_undo_20 : decode cX8_undo 20 = .ok (.ireturn, 1) := by decide +kernel
theorem dX8_undo_21 : decode cX8_undo 21 = .ok (.aload_n 0, 1) := by decide +kernel
theorem dX8_undo_22 : decode cX8_undo 22 = .ok (.dup, 1) := by decide +kernel
theorem dX8_undo_23 : decode cX8_undo 23 = .ok (.getfield 41, 3) := by decide +kernel
theorem dX8_undo_26 : decode cX8_undo 26 = .ok (.iconst 1, 1) := by decide +kernel
theorem dX8_undo_27 : decode cX8_undo 27 = .ok (.isub, 1) := by decide +kernel
theorem dX8_undo_28 : decode cX8_undo 28 = .ok (.putfield 41, 3) := by decide +kernel
theorem dX8_undo_31 : decode cX8_undo 31 = .ok (.aload_n 0, 1) := by decide +kernel
theorem dX8_undo_32 : decode cX8_undo 32 = .ok (.getfield 19, 3) := by decide +kernel
theorem dX8_undo_35 : decode cX8_undo 35 = .ok (.bipush 72, 2) := by decide +kernel
theorem dX8_undo_37 : decode cX8_undo 37 = .ok (.aload_n 0, 1) := by decide +kernel
theorem dX8_undo_38 : decode cX8_undo 38 = .ok (.getfield 41, 3) := by decide +kernel
theorem dX8_undo_41 : decode cX8_undo 41 = .ok (.imul, 1) := by decide +kernel
theorem dX8_undo_42 : decode cX8_undo 42 = .ok (.aload_n 0, 1) := by decide +kernel
theorem dX8_undo_43 : decode cX8_undo 43 = .ok (.getfield 7, 3) := by decide +kernel
theorem dX8_undo_46 : decode cX8_undo 46 = .ok (.iconst 0, 1) := by decide +kernel
theorem dX8_undo_47 : decode cX8_undo 47 = .ok (.invokestatic 87, 3) := by decide +kernel
theorem dX8_undo_50 : decode cX8_undo 50 = .ok (.aload_n 0, 1) := by decide +kernel
theorem dX8_undo_51 : decode cX8_undo 51 = .ok (.getfield 41, 3) := by decide +kernel
theorem dX8_undo_54 : decode cX8_undo 54 = .ok (.ireturn, 1) := by decide +kernel
theorem dX8_save_0 : decode cX8_save 0 = .ok (.aload_n 0, 1) := by decide +kernel
theorem dX8_save_1 : decode cX8_save 1 = .ok (.iconst 0, 1) := by decide +kernel
theorem dX8_save_2 : decode cX8_save 2 = .ok (.putfield 37, 3) := by decide +kernel
theorem dX8_save_5 : decode cX8_save 5 = .ok (.aload_n 0, 1) := by decide +kernel
theorem dX8_save_6 : decode cX8_save 6 = .ok (.getfield 7, 3) := by decide +kernel
theorem dX8_save_9 : decode cX8_save 9 = .ok (.iconst 0, 1) := by decide +kernel
theorem dX8_save_10 : decode cX8_save 10 = .ok (.aload_n 0, 1) := by decide +kernel
theorem dX8_save_11 : decode cX8_save 11 = .ok (.getfield 16, 3) := by decide +kernel
theorem dX8_save_14 : decode cX8_save 14 = .ok (.iconst 0, 1) := by decide +kernel
theorem dX8_save_15 : decode cX8_save 15 = .ok (.invokestatic 87, 3) := by decide +kernel
theorem dX8_save_18 : decode cX8_save 18 = .ok (.aload_n 0, 1) := by decide +kernel
theorem dX8_save_19 : decode cX8_save 19 = .ok (.iconst 1, 1) := by decide +kernel
theorem dX8_save_20 : decode cX8_save 20 = .ok (.putfield 50, 3) := by decide +kernel
theorem dX8_save_23 : decode cX8_save 23 = .ok (.aload_n 0, 1) := by decide +kernel
theorem dX8_save_24 : decode cX8_save 24 = .ok (.getfield 7, 3) := by decide +kernel
theorem dX8_save_27 : decode cX8_save 27 = .ok (.iconst 0, 1) := by decide +kernel
theorem dX8_save_28 : decode cX8_save 28 = .ok (.iaload, 1) := by decide +kernel
theorem dX8_save_29 : decode cX8_save 29 = .ok (.ireturn, 1) := by decide +kernel
theorem dX8_restore_0 : decode cX8_restore 0 = .ok (.aload_n 0, 1) := by decide +kernel
theorem dX8_restore_1 : decode cX8_restore 1 = .ok (.aload_n 0, 1) := by decide +kernel
theorem dX8_restore_2 : decode cX8_restore 2 = .ok (.getfield 50, 3) := by decide +kernel
theorem dX8_restore_5 : decode cX8_restore 5 = .ok (.invokevirtual 125, 3) := by decide +kernel
theorem dX8_restore_8 : decode cX8_restore 8 = .ok (.ifCond .le 5, 3) := by decide +kernel
theorem dX8_restore_11 : decode cX8_restore 11 = .ok (.iconst 0, 1) := by decide +kernel
theorem dX8_restore_12 : decode cX8_restore 12 = .ok (.ireturn, 1) := by decide +kernel
theorem dX8_restore_13 : decode cX8_restore 13 = .ok (.aload_n 0, 1) := by decide +kernel
theorem dX8_restore_14 : decode cX8_restore 14 = .ok (.getfield 16, 3) := by decide +kernel
theorem dX8_restore_17 : decode cX8_restore 17 = .ok (.iconst 0, 1) := by decide +kernel
theorem dX8_restore_18 : decode cX8_restore 18 = .ok (.aload_n 0, 1) := by decide +kernel
theorem dX8_restore_19 : decode cX8_restore 19 = .ok (.getfield 7, 3) := by decide +kernel
theorem dX8_restore_22 : decode cX8_restore 22 = .ok (.iconst 0, 1) := by decide +kernel
theorem dX8_restore_23 : decode cX8_restore 23 = .ok (.invokestatic 87, 3) := by decide +kernel
theorem dX8_restore_26 : decode cX8_restore 26 = .ok (.aload_n 0, 1) := by decide +kernel
theorem dX8_restore_27 : decode cX8_restore 27 = .ok (.iconst 0, 1) := by decide +kernel
theorem dX8_restore_28 : decode cX8_restore 28 = .ok (.putfield 41, 3) := by decide +kernel
theorem dX8_restore_31 : decode cX8_restore 31 = .ok (.aload_n 0, 1) := by decide +kernel
theorem dX8_restore_32 : decode cX8_restore 32 = .ok (.getfield 7, 3) := by decide +kernel
theorem dX8_restore_35 : decode cX8_restore 35 = .ok (.iconst 0, 1) := by decide +kernel
theorem dX8_restore_36 : decode cX8_restore 36 = .ok (.iaload, 1) := by decide +kernel
theorem dX8_restore_37 : decode cX8_restore 37 = .ok (.ireturn, 1) := by decide +kernel

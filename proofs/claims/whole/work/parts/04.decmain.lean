theorem dX11_init_0 : decode cX11_init 0 = .ok (.aload_n 0, 1) := by decide +kernel
theorem dX11_init_1 : decode cX11_init 1 = .ok (.invokespecial 5, 3) := by decide +kernel
theorem dX11_init_4 : decode cX11_init 4 = .ok (.aload_n 0, 1) := by decide +kernel
theorem dX11_init_5 : decode cX11_init 5 = .ok (.new 11, 3) := by decide +kernel
theorem dX11_init_8 : decode cX11_init 8 = .ok (.dup, 1) := by decide +kernel
theorem dX11_init_9 : decode cX11_init 9 = .ok (.invokespecial 13, 3) := by decide +kernel
theorem dX11_init_12 : decode cX11_init 12 = .ok (.putfield 14, 3) := by decide +kernel
theorem dX11_init_15 : decode cX11_init 15 = .ok (.aload_n 0, 1) := by decide +kernel
theorem dX11_init_16 : decode cX11_init 16 = .ok (.new 18, 3) := by decide +kernel
theorem dX11_init_19 : decode cX11_init 19 = .ok (.dup, 1) := by decide +kernel
theorem dX11_init_20 : decode cX11_init 20 = .ok (.invokespecial 20, 3) := by decide +kernel
theorem dX11_init_23 : decode cX11_init 23 = .ok (.putfield 21, 3) := by decide +kernel
theorem dX11_init_26 : decode cX11_init 26 = .ok (.aload_n 0, 1) := by decide +kernel
theorem dX11_init_27 : decode cX11_init 27 = .ok (.new 18, 3) := by decide +kernel
theorem dX11_init_30 : decode cX11_init 30 = .ok (.dup, 1) := by decide +kernel
theorem dX11_init_31 : decode cX11_init 31 = .ok (.invokespecial 20, 3) := by decide +kernel
theorem dX11_init_34 : decode cX11_init 34 = .ok (.putfield 25, 3) := by decide +kernel
theorem dX11_init_37 : decode cX11_init 37 = .ok (.aload_n 0, 1) := by decide +kernel
theorem dX11_init_38 : decode cX11_init 38 = .ok (.new 28, 3) := by decide +kernel
theorem dX11_init_41 : decode cX11_init 41 = .ok (.dup, 1) := by decide +kernel
theorem dX11_init_42 : decode cX11_init 42 = .ok (.aload_n 0, 1) := by decide +kernel
theorem dX11_init_43 : decode cX11_init 43 = .ok (.getfield 14, 3) := by decide +kernel
theorem dX11_init_46 : decode cX11_init 46 = .ok (.aload_n 0, 1) := by decide +kernel
theorem dX11_init_47 : decode cX11_init 47 = .ok (.getfield 25, 3) := by decide +kernel
theorem dX11_init_50 : decode cX11_init 50 = .ok (.invokespecial 30, 3) := by decide +kernel
theorem dX11_init_53 : decode cX11_init 53 = .ok (.putfield 33, 3) := by decide +kernel
theorem dX11_init_56 : decode cX11_init 56 = .ok (.aload_n 0, 1) := by decide +kernel
theorem dX11_init_57 : decode cX11_init 57 = .ok (.iconst 2, 1) := by decide +kernel
theorem dX11_init_58 : decode cX11_init 58 = .ok (.anewarray 18, 3) := by decide +kernel
theorem dX11_init_61 : decode cX11_init 61 = .ok (.putfield 37, 3) := by decide +kernel
theorem dX11_init_64 : decode cX11_init 64 = .ok (.iconst 0, 1) := by decide +kernel
theorem dX11_init_65 : decode cX11_init 65 = .ok (.istore_n 1, 1) := by decide +kernel
theorem dX11_init_66 : decode cX11_init 66 = .ok (.iload_n 1, 1) := by decide +kernel
theorem dX11_init_67 : decode cX11_init 67 = .ok (.iconst 2, 1) := by decide +kernel
theorem dX11_init_68 : decode cX11_init 68 = .ok (.if_icmp .ge 22, 3) := by decide +kernel
theorem dX11_init_71 : decode cX11_init 71 = .ok (.aload_n 0, 1) := by decide +kernel
theorem dX11_init_72 : decode cX11_init 72 = .ok (.getfield 37, 3) := by decide +kernel
theorem dX11_init_75 : decode cX11_init 75 = .ok (.iload_n 1, 1) := by decide +kernel
theorem dX11_init_76 : decode cX11_init 76 = .ok (.new 18, 3) := by decide +kernel
theorem dX11_init_79 : decode cX11_init 79 = .ok (.dup, 1) := by decide +kernel
theorem dX11_init_80 : decode cX11_init 80 = .ok (.invokespecial 20, 3) := by decide +kernel
theorem dX11_init_83 : decode cX11_init 83 = .ok (.aastore, 1) := by decide +kernel
theorem dX11_init_84 : decode cX11_init 84 = .ok (.iinc 1 1, 3) := by decide +kernel
theorem dX11_init_87 : decode cX11_init 87 = .ok (.goto (-21), 3) := by decide +kernel
theorem dX11_init_90 : decode cX11_init 90 = .ok (.aload_n 0, 1) := by decide +kernel
theorem dX11_init_91 : decode cX11_init 91 = .ok (.new 41, 3) := by decide +kernel
theorem dX11_init_94 : decode cX11_init 94 = .ok (.dup, 1) := by decide +kernel
theorem dX11_init_95 : decode cX11_init 95 = .ok (.invokespecial 43, 3) := by decide +kernel
theorem dX11_init_98 : decode cX11_init 98 = .ok (.putfield 44, 3) := by decide +kernel
theorem dX11_init_101 : decode cX11_init 101 = .ok (.aload_n 0, 1) := by decide +kernel
theorem dX11_init_102 : decode cX11_init 102 = .ok (.new 48, 3) := by decide +kernel
theorem dX11_init_105 : decode cX11_init 105 = .ok (.dup, 1) := by decide +kernel
theorem dX11_init_106 : decode cX11_init 106 = .ok (.aload_n 0, 1) := by decide +kernel
theorem dX11_init_107 : decode cX11_init 107 = .ok (.getfield 21, 3) := by decide +kernel
theorem dX11_init_110 : decode cX11_init 110 = .ok (.aload_n 0, 1) := by decide +kernel
theorem dX11_init_111 : decode cX11_init 111 = .ok (.getfield 44, 3) := by decide +kernel
theorem dX11_init_114 : decode cX11_init 114 = .ok (.invokespecial 50, 3) := by decide +kernel
theorem dX11_init_117 : decode cX11_init 117 = .ok (.putfield 53, 3) := by decide +kernel
theorem dX11_init_120 : decode cX11_init 120 = .ok (.aload_n 0, 1) := by decide +kernel
theorem dX11_init_121 : decode cX11_init 121 = .ok (.bipush 16, 2) := by decide +kernel
theorem dX11_init_123 : decode cX11_init 123 = .ok (.newarray .long, 2) := by decide +kernel
theorem dX11_init_125 : decode cX11_init 125 = .ok (.putfield 57, 3) := by decide +kernel
theorem dX11_init_128 : decode cX11_init 128 = .ok (.aload_n 0, 1) := by decide +kernel
theorem dX11_init_129 : decode cX11_init 129 = .ok (.new 61, 3) := by decide +kernel
theorem dX11_init_132 : decode cX11_init 132 = .ok (.dup, 1) := by decide +kernel
theorem dX11_init_133 : decode cX11_init 133 = .ok (.aload_n 0, 1) := by decide +kernel
theorem dX11_init_134 : decode cX11_init 134 = .ok (.getfield 21, 3) := by decide +kernel
theorem dX11_init_137 : decode cX11_init 137 = .ok (.aload_n 0, 1) := by decide +kernel
theorem dX11_init_138 : decode cX11_init 138 = .ok (.getfield 37, 3) := by decide +kernel
theorem dX11_init_141 : decode cX11_init 141 = .ok (.iconst 0, 1) := by decide +kernel
theorem dX11_init_142 : decode cX11_init 142 = .ok (.aaload, 1) := by decide +kernel
theorem dX11_init_143 : decode cX11_init 143 = .ok (.invokespecial 63, 3) := by decide +kernel
theorem dX11_init_146 : decode cX11_init 146 = .ok (.putfield 66, 3) := by decide +kernel
theorem dX11_init_149 : decode cX11_init 149 = .ok (.aload_n 0, 1) := by decide +kernel
theorem dX11_init_150 : decode cX11_init 150 = .ok (.new 70, 3) := by decide +kernel
theorem dX11_init_153 : decode cX11_init 153 = .ok (.dup, 1) := by decide +kernel
theorem dX11_init_154 : decode cX11_init 154 = .ok (.aload_n 0, 1) := by decide +kernel
theorem dX11_init_155 : decode cX11_init 155 = .ok (.getfield 21, 3) := by decide +kernel
theorem dX11_init_158 : decode cX11_init 158 = .ok (.invokespecial 72, 3) := by decide +kernel
theorem dX11_init_161 : decode cX11_init 161 = .ok (.putfield 75, 3) := by decide +kernel
theorem dX11_init_164 : decode cX11_init 164 = .ok (.aload_n 0, 1) := by decide +kernel
theorem dX11_init_165 : decode cX11_init 165 = .ok (.new 79, 3) := by decide +kernel
theorem dX11_init_168 : decode cX11_init 168 = .ok (.dup, 1) := by decide +kernel
theorem dX11_init_169 : decode cX11_init 169 = .ok (.aload_n 0, 1) := by decide +kernel
theorem dX11_init_170 : decode cX11_init 170 = .ok (.getfield 21, 3) := by decide +kernel
theorem dX11_init_173 : decode cX11_init 173 = .ok (.invokespecial 81, 3) := by decide +kernel
theorem dX11_init_176 : decode cX11_init 176 = .ok (.putfield 82, 3) := by decide +kernel
theorem dX11_init_179 : decode cX11_init 179 = .ok (.aload_n 0, 1) := by decide +kernel
theorem dX11_init_180 : decode cX11_init 180 = .ok (.new 86, 3) := by decide +kernel
theorem dX11_init_183 : decode cX11_init 183 = .ok (.dup, 1) := by decide +kernel
theorem dX11_init_184 : decode cX11_init 184 = .ok (.aload_n 0, 1) := by decide +kernel
theorem dX11_init_185 : decode cX11_init 185 = .ok (.getfield 21, 3) := by decide +kernel
theorem dX11_init_188 : decode cX11_init 188 = .ok (.invokespecial 88, 3) := by decide +kernel
theorem dX11_init_191 : decode cX11_init 191 = .ok (.putfield 89, 3) := by decide +kernel
theorem dX11_init_194 : decode cX11_init 194 = .ok (.aload_n 0, 1) := by decide +kernel
theorem dX11_init_195 : decode cX11_init 195 = .ok (.new 93, 3) := by decide +kernel
theorem dX11_init_198 : decode cX11_init 198 = .ok (.dup, 1) := by decide +kernel
theorem dX11_init_199 : decode cX11_init 199 = .ok (.invokespecial 95, 3) := by decide +kernel
theorem dX11_init_202 : decode cX11_init 202 = .ok (.putfield 96, 3) := by decide +kernel
theorem dX11_init_205 : decode cX11_init 205 = .ok (.aload_n 0, 1) := by decide +kernel
theorem dX11_init_206 : decode cX11_init 206 = .ok (.bipush 16, 2) := by decide +kernel
theorem dX11_init_208 : decode cX11_init 208 = .ok (.newarray .long, 2) := by decide +kernel
theorem dX11_init_210 : decode cX11_init 210 = .ok (.putfield 100, 3) := by decide +kernel
theorem dX11_init_213 : decode cX11_init 213 = .ok (.return_, 1) := by decide +kernel
theorem dX11_feed_0 : decode cX11_feed 0 = .ok (.aload_n 0, 1) := by decide +kernel
theorem dX11_feed_1 : decode cX11_feed 1 = .ok (.getfield 14, 3) := by decide +kernel
theorem dX11_feed_4 : decode cX11_feed 4 = .ok (.getfield 103, 3) := by decide +kernel
theorem dX11_feed_7 : decode cX11_feed 7 = .ok (.bipush 20, 2) := by decide +kernel
theorem dX11_feed_9 : decode cX11_feed 9 = .ok (.iadd, 1) := by decide +kernel
theorem dX11_feed_10 : decode cX11_feed 10 = .ok (.bipush 120, 2) := by decide +kernel
theorem dX11_feed_12 : decode cX11_feed 12 = .ok (.if_icmp .le 5, 3) := by decide +kernel
theorem dX11_feed_15 : decode cX11_feed 15 = .ok (.iconst (-1), 1) := by decide +kernel
theorem dX11_feed_16 : decode cX11_feed 16 = .ok (.ireturn, 1) := by decide +kernel
theorem dX11_feed_17 : decode cX11_feed 17 = .ok (.aload_n 0, 1) := by decide +kernel
theorem dX11_feed_18 : decode cX11_feed 18 = .ok (.getfield 14, 3) := by decide +kernel
theorem dX11_feed_21 : decode cX11_feed 21 = .ok (.iload_n 1, 1) := by decide +kernel
theorem dX11_feed_22 : decode cX11_feed 22 = .ok (.invokevirtual 107, 3) := by decide +kernel
theorem dX11_feed_25 : decode cX11_feed 25 = .ok (.aload_n 0, 1) := by decide +kernel
theorem dX11_feed_26 : decode cX11_feed 26 = .ok (.getfield 14, 3) := by decide +kernel
theorem dX11_feed_29 : decode cX11_feed 29 = .ok (.iload_n 2, 1) := by decide +kernel
theorem dX11_feed_30 : decode cX11_feed 30 = .ok (.invokevirtual 107, 3) := by decide +kernel
theorem dX11_feed_33 : decode cX11_feed 33 = .ok (.aload_n 0, 1) := by decide +kernel
theorem dX11_feed_34 : decode cX11_feed 34 = .ok (.getfield 14, 3) := by decide +kernel
theorem dX11_feed_37 : decode cX11_feed 37 = .ok (.iload_n 3, 1) := by decide +kernel
theorem dX11_feed_38 : decode cX11_feed 38 = .ok (.invokevirtual 107, 3) := by decide +kernel
theorem dX11_feed_41 : decode cX11_feed 41 = .ok (.aload_n 0, 1) := by decide +kernel
theorem dX11_feed_42 : decode cX11_feed 42 = .ok (.getfield 14, 3) := by decide +kernel
theorem dX11_feed_45 : decode cX11_feed 45 = .ok (.iload 4, 2) := by decide +kernel
theorem dX11_feed_47 : decode cX11_feed 47 = .ok (.invokevirtual 107, 3) := by decide +kernel
theorem dX11_feed_50 : decode cX11_feed 50 = .ok (.aload_n 0, 1) := by decide +kernel
theorem dX11_feed_51 : decode cX11_feed 51 = .ok (.getfield 14, 3) := by decide +kernel
theorem dX11_feed_54 : decode cX11_feed 54 = .ok (.iload 5, 2) := by decide +kernel
theorem dX11_feed_56 : decode cX11_feed 56 = .ok (.invokevirtual 107, 3) := by decide +kernel
theorem dX11_feed_59 : decode cX11_feed 59 = .ok (.aload_n 0, 1) := by decide +kernel
theorem dX11_feed_60 : decode cX11_feed 60 = .ok (.getfield 14, 3) := by decide +kernel
theorem dX11_feed_63 : decode cX11_feed 63 = .ok (.getfield 103, 3) := by decide +kernel
theorem dX11_feed_66 : decode cX11_feed 66 = .ok (.ireturn, 1) := by decide +kernel
theorem dX11_end_0 : decode cX11_end 0 = .ok (.iload_n 1, 1) := by decide +kernel
theorem dX11_end_1 : decode cX11_end 1 = .ok (.ifCond .lt 14, 3) := by decide +kernel
theorem dX11_end_4 : decode cX11_end 4 = .ok (.iload_n 1, 1) := by decide +kernel
theorem dX11_end_5 : decode cX11_end 5 = .ok (.aload_n 0, 1) := by decide +kernel
theorem dX11_end_6 : decode cX11_end 6 = .ok (.getfield 14, 3) := by decide +kernel
theorem dX11_end_9 : decode cX11_end 9 = .ok (.getfield 103, 3) := by decide +kernel
theorem dX11_end_12 : decode cX11_end 12 = .ok (.if_icmp .le 5, 3) := by decide +kernel
theorem dX11_end_15 : decode cX11_end 15 = .ok (.iconst (-1), 1) := by decide +kernel
theorem dX11_end_16 : decode cX11_end 16 = .ok (.ireturn, 1) := by decide +kernel
theorem dX11_end_17 : decode cX11_end 17 = .ok (.aload_n 0, 1) := by decide +kernel
theorem dX11_end_18 : decode cX11_end 18 = .ok (.getfield 14, 3) := by decide +kernel
theorem dX11_end_21 : decode cX11_end 21 = .ok (.iload_n 1, 1) := by decide +kernel
theorem dX11_end_22 : decode cX11_end 22 = .ok (.putfield 103, 3) := by decide +kernel
theorem dX11_end_25 : decode cX11_end 25 = .ok (.iload_n 1, 1) := by decide +kernel
theorem dX11_end_26 : decode cX11_end 26 = .ok (.ireturn, 1) := by decide +kernel
theorem dX11_tell_0 : decode cX11_tell 0 = .ok (.aload_n 0, 1) := by decide +kernel
theorem dX11_tell_1 : decode cX11_tell 1 = .ok (.getfield 33, 3) := by decide +kernel
theorem dX11_tell_4 : decode cX11_tell 4 = .ok (.invokevirtual 111, 3) := by decide +kernel
theorem dX11_tell_7 : decode cX11_tell 7 = .ok (.istore_n 1, 1) := by decide +kernel
theorem dX11_tell_8 : decode cX11_tell 8 = .ok (.aload_n 0, 1) := by decide +kernel
theorem dX11_tell_9 : decode cX11_tell 9 = .ok (.getfield 14, 3) := by decide +kernel
theorem dX11_tell_12 : decode cX11_tell 12 = .ok (.iconst 0, 1) := by decide +kernel
theorem dX11_tell_13 : decode cX11_tell 13 = .ok (.putfield 103, 3) := by decide +kernel
theorem dX11_tell_16 : decode cX11_tell 16 = .ok (.iload_n 1, 1) := by decide +kernel
theorem dX11_tell_17 : decode cX11_tell 17 = .ok (.ifCond .eq 8, 3) := by decide +kernel
theorem dX11_tell_20 : decode cX11_tell 20 = .ok (.bipush (-2), 2) := by decide +kernel
theorem dX11_tell_22 : decode cX11_tell 22 = .ok (.iload_n 1, 1) := by decide +kernel
theorem dX11_tell_23 : decode cX11_tell 23 = .ok (.isub, 1) := by decide +kernel
theorem dX11_tell_24 : decode cX11_tell 24 = .ok (.ireturn, 1) := by decide +kernel
theorem dX11_tell_25 : decode cX11_tell 25 = .ok (.aload_n 0, 1) := by decide +kernel
theorem dX11_tell_26 : decode cX11_tell 26 = .ok (.invokevirtual 115, 3) := by decide +kernel
theorem dX11_tell_29 : decode cX11_tell 29 = .ok (.ireturn, 1) := by decide +kernel
theorem dX11_relate_0 : decode cX11_relate 0 = .ok (.aload_n 0, 1) := by decide +kernel
theorem dX11_relate_1 : decode cX11_relate 1 = .ok (.getfield 21, 3) := by decide +kernel
theorem dX11_relate_4 : decode cX11_relate 4 = .ok (.iload_n 1, 1) := by decide +kernel
theorem dX11_relate_5 : decode cX11_relate 5 = .ok (.invokevirtual 118, 3) := by decide +kernel
theorem dX11_relate_8 : decode cX11_relate 8 = .ok (.ifCond .eq 14, 3) := by decide +kernel
theorem dX11_relate_11 : decode cX11_relate 11 = .ok (.aload_n 0, 1) := by decide +kernel
theorem dX11_relate_12 : decode cX11_relate 12 = .ok (.getfield 21, 3) := by decide +kernel
theorem dX11_relate_15 : decode cX11_relate 15 = .ok (.iload_n 2, 1) := by decide +kernel
theorem dX11_relate_16 : decode cX11_relate 16 = .ok (.invokevirtual 118, 3) := by decide +kernel
theorem dX11_relate_19 : decode cX11_relate 19 = .ok (.ifCond .ne 5, 3) := by decide +kernel
theorem dX11_relate_22 : decode cX11_relate 22 = .ok (.iconst (-1), 1) := by decide +kernel
theorem dX11_relate_23 : decode cX11_relate 23 = .ok (.ireturn, 1) := by decide +kernel
theorem dX11_relate_24 : decode cX11_relate 24 = .ok (.aload_n 0, 1) := by decide +kernel
theorem dX11_relate_25 : decode cX11_relate 25 = .ok (.getfield 21, 3) := by decide +kernel
theorem dX11_relate_28 : decode cX11_relate 28 = .ok (.iload_n 1, 1) := by decide +kernel
theorem dX11_relate_29 : decode cX11_relate 29 = .ok (.iload_n 2, 1) := by decide +kernel
theorem dX11_relate_30 : decode cX11_relate 30 = .ok (.invokevirtual 122, 3) := by decide +kernel
theorem dX11_relate_33 : decode cX11_relate 33 = .ok (.ifCond .eq 6, 3) := by decide +kernel
theorem dX11_relate_36 : decode cX11_relate 36 = .ok (.bipush (-2), 2) := by decide +kernel
theorem dX11_relate_38 : decode cX11_relate 38 = .ok (.ireturn, 1) := by decide +kernel
theorem dX11_relate_39 : decode cX11_relate 39 = .ok (.aload_n 0, 1) := by decide +kernel
theorem dX11_relate_40 : decode cX11_relate 40 = .ok (.getfield 21, 3) := by decide +kernel
theorem dX11_relate_43 : decode cX11_relate 43 = .ok (.iload_n 2, 1) := by decide +kernel
theorem dX11_relate_44 : decode cX11_relate 44 = .ok (.iload_n 1, 1) := by decide +kernel
theorem dX11_relate_45 : decode cX11_relate 45 = .ok (.invokevirtual 126, 3) := by decide +kernel
theorem dX11_relate_48 : decode cX11_relate 48 = .ok (.ifCond .eq 6, 3) := by decide +kernel
theorem dX11_relate_51 : decode cX11_relate 51 = .ok (.bipush (-3), 2) := by decide +kernel
theorem dX11_relate_53 : decode cX11_relate 53 = .ok (.ireturn, 1) := by decide +kernel
theorem dX11_relate_54 : decode cX11_relate 54 = .ok (.aload_n 0, 1) := by decide +kernel
theorem dX11_relate_55 : decode cX11_relate 55 = .ok (.getfield 25, 3) := by decide +kernel
theorem dX11_relate_58 : decode cX11_relate 58 = .ok (.aload_n 0, 1) := by decide +kernel
theorem dX11_relate_59 : decode cX11_relate 59 = .ok (.getfield 21, 3) := by decide +kernel
theorem dX11_relate_62 : decode cX11_relate 62 = .ok (.getfield 129, 3) := by decide +kernel
theorem dX11_relate_65 : decode cX11_relate 65 = .ok (.aload_n 0, 1) := by decide +kernel
theorem dX11_relate_66 : decode cX11_relate 66 = .ok (.getfield 21, 3) := by decide +kernel
theorem dX11_relate_69 : decode cX11_relate 69 = .ok (.getfield 130, 3) := by decide +kernel
theorem dX11_relate_72 : decode cX11_relate 72 = .ok (.invokevirtual 134, 3) := by decide +kernel
theorem dX11_relate_75 : decode cX11_relate 75 = .ok (.aload_n 0, 1) := by decide +kernel
theorem dX11_relate_76 : decode cX11_relate 76 = .ok (.getfield 25, 3) := by decide +kernel
theorem dX11_relate_79 : decode cX11_relate 79 = .ok (.iload_n 1, 1) := by decide +kernel
theorem dX11_relate_80 : decode cX11_relate 80 = .ok (.iload_n 2, 1) := by decide +kernel
theorem dX11_relate_81 : decode cX11_relate 81 = .ok (.invokevirtual 138, 3) := by decide +kernel
theorem dX11_relate_84 : decode cX11_relate 84 = .ok (.aload_n 0, 1) := by decide +kernel
theorem dX11_relate_85 : decode cX11_relate 85 = .ok (.invokevirtual 115, 3) := by decide +kernel
theorem dX11_relate_88 : decode cX11_relate 88 = .ok (.pop, 1) := by decide +kernel
theorem dX11_relate_89 : decode cX11_relate 89 = .ok (.aload_n 0, 1) := by decide +kernel
theorem dX11_relate_90 : decode cX11_relate 90 = .ok (.getfield 21, 3) := by decide +kernel
theorem dX11_relate_93 : decode cX11_relate 93 = .ok (.aload_n 0, 1) := by decide +kernel
theorem dX11_relate_94 : decode cX11_relate 94 = .ok (.getfield 21, 3) := by decide +kernel
theorem dX11_relate_97 : decode cX11_relate 97 = .ok (.getfield 142, 3) := by decide +kernel
theorem dX11_relate_100 : decode cX11_relate 100 = .ok (.invokevirtual 145, 3) := by decide +kernel
theorem dX11_relate_103 : decode cX11_relate 103 = .ok (.ireturn, 1) := by decide +kernel
theorem dX11_form_0 : decode cX11_form 0 = .ok (.iload_n 1, 1) := by decide +kernel
theorem dX11_form_1 : decode cX11_form 1 = .ok (.iconst 3, 1) := by decide +kernel
theorem dX11_form_2 : decode cX11_form 2 = .ok (.if_icmp .lt 15, 3) := by decide +kernel
theorem dX11_form_5 : decode cX11_form 5 = .ok (.iload_n 1, 1) := by decide +kernel
theorem dX11_form_6 : decode cX11_form 6 = .ok (.iconst 5, 1) := by decide +kernel
theorem dX11_form_7 : decode cX11_form 7 = .ok (.if_icmp .gt 10, 3) := by decide +kernel
theorem dX11_form_10 : decode cX11_form 10 = .ok (.aload_n 0, 1) := by decide +kernel
theorem dX11_form_11 : decode cX11_form 11 = .ok (.iload_n 1, 1) := by decide +kernel
theorem dX11_form_12 : decode cX11_form 12 = .ok (.iload_n 2, 1) := by decide +kernel
theorem dX11_form_13 : decode cX11_form 13 = .ok (.invokevirtual 149, 3) := by decide +kernel
theorem dX11_form_16 : decode cX11_form 16 = .ok (.ireturn, 1) := by decide +kernel
theorem dX11_form_17 : decode cX11_form 17 = .ok (.iload_n 1, 1) := by decide +kernel
theorem dX11_form_18 : decode cX11_form 18 = .ok (.ifCond .ne 19, 3) := by decide +kernel
theorem dX11_form_21 : decode cX11_form 21 = .ok (.aload_n 0, 1) := by decide +kernel
theorem dX11_form_22 : decode cX11_form 22 = .ok (.getfield 25, 3) := by decide +kernel
theorem dX11_form_25 : decode cX11_form 25 = .ok (.aload_n 0, 1) := by decide +kernel
theorem dX11_form_26 : decode cX11_form 26 = .ok (.getfield 21, 3) := by decide +kernel
theorem dX11_form_29 : decode cX11_form 29 = .ok (.invokevirtual 153, 3) := by decide +kernel
theorem dX11_form_32 : decode cX11_form 32 = .ok (.aload_n 0, 1) := by decide +kernel
theorem dX11_form_33 : decode cX11_form 33 = .ok (.invokevirtual 115, 3) := by decide +kernel
theorem dX11_form_36 : decode cX11_form 36 = .ok (.ireturn, 1) := by decide +kernel
theorem dX11_form_37 : decode cX11_form 37 = .ok (.iload_n 1, 1) := by decide +kernel
theorem dX11_form_38 : decode cX11_form 38 = .ok (.iconst 1, 1) := by decide +kernel
theorem dX11_form_39 : decode cX11_form 39 = .ok (.if_icmp .eq 10, 3) := by decide +kernel
theorem dX11_form_42 : decode cX11_form 42 = .ok (.iload_n 1, 1) := by decide +kernel
theorem dX11_form_43 : decode cX11_form 43 = .ok (.iconst 2, 1) := by decide +kernel
theorem dX11_form_44 : decode cX11_form 44 = .ok (.if_icmp .eq 5, 3) := by decide +kernel
theorem dX11_form_47 : decode cX11_form 47 = .ok (.iconst (-1), 1) := by decide +kernel
theorem dX11_form_48 : decode cX11_form 48 = .ok (.ireturn, 1) := by decide +kernel
theorem dX11_form_49 : decode cX11_form 49 = .ok (.iload_n 1, 1) := by decide +kernel
theorem dX11_form_50 : decode cX11_form 50 = .ok (.iconst 1, 1) := by decide +kernel
theorem dX11_form_51 : decode cX11_form 51 = .ok (.if_icmp .ne 15, 3) := by decide +kernel
theorem dX11_form_54 : decode cX11_form 54 = .ok (.aload_n 0, 1) := by decide +kernel
theorem dX11_form_55 : decode cX11_form 55 = .ok (.getfield 21, 3) := by decide +kernel
theorem dX11_form_58 : decode cX11_form 58 = .ok (.iload_n 2, 1) := by decide +kernel
theorem dX11_form_59 : decode cX11_form 59 = .ok (.iload_n 3, 1) := by decide +kernel
theorem dX11_form_60 : decode cX11_form 60 = .ok (.invokevirtual 156, 3) := by decide +kernel
theorem dX11_form_63 : decode cX11_form 63 = .ok (.goto 4, 3) := by decide +kernel
theorem dX11_form_66 : decode cX11_form 66 = .ok (.iload_n 2, 1) := by decide +kernel
theorem dX11_form_67 : decode cX11_form 67 = .ok (.istore 4, 2) := by decide +kernel
theorem dX11_form_69 : decode cX11_form 69 = .ok (.iload 4, 2) := by decide +kernel
theorem dX11_form_71 : decode cX11_form 71 = .ok (.ifCond .eq 18, 3) := by decide +kernel
theorem dX11_form_74 : decode cX11_form 74 = .ok (.iload 4, 2) := by decide +kernel
theorem dX11_form_76 : decode cX11_form 76 = .ok (.aload_n 0, 1) := by decide +kernel
theorem dX11_form_77 : decode cX11_form 77 = .ok (.getfield 21, 3) := by decide +kernel
theorem dX11_form_80 : decode cX11_form 80 = .ok (.invokevirtual 159, 3) := by decide +kernel
theorem dX11_form_83 : decode cX11_form 83 = .ok (.iconst (-1), 1) := by decide +kernel
theorem dX11_form_84 : decode cX11_form 84 = .ok (.ixor, 1) := by decide +kernel
theorem dX11_form_85 : decode cX11_form 85 = .ok (.iand, 1) := by decide +kernel
theorem dX11_form_86 : decode cX11_form 86 = .ok (.ifCond .eq 5, 3) := by decide +kernel
theorem dX11_form_89 : decode cX11_form 89 = .ok (.iconst (-1), 1) := by decide +kernel
theorem dX11_form_90 : decode cX11_form 90 = .ok (.ireturn, 1) := by decide +kernel
theorem dX11_form_91 : decode cX11_form 91 = .ok (.aload_n 0, 1) := by decide +kernel
theorem dX11_form_92 : decode cX11_form 92 = .ok (.getfield 25, 3) := by decide +kernel
theorem dX11_form_95 : decode cX11_form 95 = .ok (.aload_n 0, 1) := by decide +kernel
theorem dX11_form_96 : decode cX11_form 96 = .ok (.getfield 21, 3) := by decide +kernel
theorem dX11_form_99 : decode cX11_form 99 = .ok (.iload 4, 2) := by decide +kernel
theorem dX11_form_101 : decode cX11_form 101 = .ok (.invokevirtual 162, 3) := by decide +kernel
theorem dX11_form_104 : decode cX11_form 104 = .ok (.aload_n 0, 1) := by decide +kernel
theorem dX11_form_105 : decode cX11_form 105 = .ok (.invokevirtual 115, 3) := by decide +kernel
theorem dX11_form_108 : decode cX11_form 108 = .ok (.ireturn, 1) := by decide +kernel
theorem dX11_formWithKept_0 : decode cX11_formWithKept 0 = .ok (.aload_n 0, 1) := by decide +kernel
theorem dX11_formWithKept_1 : decode cX11_formWithKept 1 = .ok (.iload_n 2, 1) := by decide +kernel
theorem dX11_formWithKept_2 : decode cX11_formWithKept 2 = .ok (.invokevirtual 166, 3) := by decide +kernel
theorem dX11_formWithKept_5 : decode cX11_formWithKept 5 = .ok (.ifCond .ne 5, 3) := by decide +kernel
theorem dX11_formWithKept_8 : decode cX11_formWithKept 8 = .ok (.iconst (-1), 1) := by decide +kernel
theorem dX11_formWithKept_9 : decode cX11_formWithKept 9 = .ok (.ireturn, 1) := by decide +kernel
theorem dX11_formWithKept_10 : decode cX11_formWithKept 10 = .ok (.aload_n 0, 1) := by decide +kernel
theorem dX11_formWithKept_11 : decode cX11_formWithKept 11 = .ok (.getfield 37, 3) := by decide +kernel
theorem dX11_formWithKept_14 : decode cX11_formWithKept 14 = .ok (.iload_n 2, 1) := by decide +kernel
theorem dX11_formWithKept_15 : decode cX11_formWithKept 15 = .ok (.aaload, 1) := by decide +kernel
theorem dX11_formWithKept_16 : decode cX11_formWithKept 16 = .ok (.astore_n 3, 1) := by decide +kernel
theorem dX11_formWithKept_17 : decode cX11_formWithKept 17 = .ok (.iload_n 1, 1) := by decide +kernel
theorem dX11_formWithKept_18 : decode cX11_formWithKept 18 = .ok (.iconst 5, 1) := by decide +kernel
theorem dX11_formWithKept_19 : decode cX11_formWithKept 19 = .ok (.if_icmp .ne 18, 3) := by decide +kernel
theorem dX11_formWithKept_22 : decode cX11_formWithKept 22 = .ok (.aload_n 0, 1) := by decide +kernel
theorem dX11_formWithKept_23 : decode cX11_formWithKept 23 = .ok (.getfield 21, 3) := by decide +kernel
theorem dX11_formWithKept_26 : decode cX11_formWithKept 26 = .ok (.getfield 129, 3) := by decide +kernel
theorem dX11_formWithKept_29 : decode cX11_formWithKept 29 = .ok (.aload_n 3, 1) := by decide +kernel
theorem dX11_formWithKept_30 : decode cX11_formWithKept 30 = .ok (.getfield 129, 3) := by decide +kernel
theorem dX11_formWithKept_33 : decode cX11_formWithKept 33 = .ok (.imul, 1) := by decide +kernel
theorem dX11_formWithKept_34 : decode cX11_formWithKept 34 = .ok (.goto 15, 3) := by decide +kernel
theorem dX11_formWithKept_37 : decode cX11_formWithKept 37 = .ok (.aload_n 0, 1) := by decide +kernel
theorem dX11_formWithKept_38 : decode cX11_formWithKept 38 = .ok (.getfield 21, 3) := by decide +kernel
theorem dX11_formWithKept_41 : decode cX11_formWithKept 41 = .ok (.getfield 129, 3) := by decide +kernel
theorem dX11_formWithKept_44 : decode cX11_formWithKept 44 = .ok (.aload_n 3, 1) := by decide +kernel
theorem dX11_formWithKept_45 : decode cX11_formWithKept 45 = .ok (.getfield 129, 3) := by decide +kernel
theorem dX11_formWithKept_48 : decode cX11_formWithKept 48 = .ok (.iadd, 1) := by decide +kernel
theorem dX11_formWithKept_49 : decode cX11_formWithKept 49 = .ok (.istore 4, 2) := by decide +kernel
theorem dX11_formWithKept_51 : decode cX11_formWithKept 51 = .ok (.iload 4, 2) := by decide +kernel
theorem dX11_formWithKept_53 : decode cX11_formWithKept 53 = .ok (.bipush 16, 2) := by decide +kernel
theorem dX11_formWithKept_55 : decode cX11_formWithKept 55 = .ok (.if_icmp .le 6, 3) := by decide +kernel
theorem dX11_formWithKept_58 : decode cX11_formWithKept 58 = .ok (.bipush (-2), 2) := by decide +kernel
theorem dX11_formWithKept_60 : decode cX11_formWithKept 60 = .ok (.ireturn, 1) := by decide +kernel
theorem dX11_formWithKept_61 : decode cX11_formWithKept 61 = .ok (.iload_n 1, 1) := by decide +kernel
theorem dX11_formWithKept_62 : decode cX11_formWithKept 62 = .ok (.iconst 5, 1) := by decide +kernel
theorem dX11_formWithKept_63 : decode cX11_formWithKept 63 = .ok (.if_icmp .ne 18, 3) := by decide +kernel
theorem dX11_formWithKept_66 : decode cX11_formWithKept 66 = .ok (.aload_n 0, 1) := by decide +kernel
theorem dX11_formWithKept_67 : decode cX11_formWithKept 67 = .ok (.getfield 25, 3) := by decide +kernel
theorem dX11_formWithKept_70 : decode cX11_formWithKept 70 = .ok (.aload_n 0, 1) := by decide +kernel
theorem dX11_formWithKept_71 : decode cX11_formWithKept 71 = .ok (.getfield 21, 3) := by decide +kernel
theorem dX11_formWithKept_74 : decode cX11_formWithKept 74 = .ok (.aload_n 3, 1) := by decide +kernel
theorem dX11_formWithKept_75 : decode cX11_formWithKept 75 = .ok (.invokevirtual 169, 3) := by decide +kernel
theorem dX11_formWithKept_78 : decode cX11_formWithKept 78 = .ok (.goto 25, 3) := by decide +kernel
theorem dX11_formWithKept_81 : decode cX11_formWithKept 81 = .ok (.aload_n 0, 1) := by decide +kernel
theorem dX11_formWithKept_82 : decode cX11_formWithKept 82 = .ok (.getfield 25, 3) := by decide +kernel
theorem dX11_formWithKept_85 : decode cX11_formWithKept 85 = .ok (.aload_n 0, 1) := by decide +kernel
theorem dX11_formWithKept_86 : decode cX11_formWithKept 86 = .ok (.getfield 21, 3) := by decide +kernel
theorem dX11_formWithKept_89 : decode cX11_formWithKept 89 = .ok (.aload_n 3, 1) := by decide +kernel
theorem dX11_formWithKept_90 : decode cX11_formWithKept 90 = .ok (.iload_n 1, 1) := by decide +kernel
theorem dX11_formWithKept_91 : decode cX11_formWithKept 91 = .ok (.iconst 4, 1) := by decide +kernel
theorem dX11_formWithKept_92 : decode cX11_formWithKept 92 = .ok (.if_icmp .ne 7, 3) := by decide +kernel
theorem dX11_formWithKept_95 : decode cX11_formWithKept 95 = .ok (.iconst 1, 1) := by decide +kernel
theorem dX11_formWithKept_96 : decode cX11_formWithKept 96 = .ok (.goto 4, 3) := by decide +kernel
theorem dX11_formWithKept_99 : decode cX11_formWithKept 99 = .ok (.iconst 0, 1) := by decide +kernel
theorem dX11_formWithKept_100 : decode cX11_formWithKept 100 = .ok (.invokevirtual 172, 3) := by decide +kernel
theorem dX11_formWithKept_103 : decode cX11_formWithKept 103 = .ok (.aload_n 0, 1) := by decide +kernel
theorem dX11_formWithKept_104 : decode cX11_formWithKept 104 = .ok (.invokevirtual 115, 3) := by decide +kernel
theorem dX11_formWithKept_107 : decode cX11_formWithKept 107 = .ok (.ireturn, 1) := by decide +kernel
theorem dX11_keep_0 : decode cX11_keep 0 = .ok (.iload_n 1, 1) := by decide +kernel
theorem dX11_keep_1 : decode cX11_keep 1 = .ok (.ifCond .lt 8, 3) := by decide +kernel
theorem dX11_keep_4 : decode cX11_keep 4 = .ok (.iload_n 1, 1) := by decide +kernel
theorem dX11_keep_5 : decode cX11_keep 5 = .ok (.iconst 2, 1) := by decide +kernel
theorem dX11_keep_6 : decode cX11_keep 6 = .ok (.if_icmp .lt 5, 3) := by decide +kernel
theorem dX11_keep_9 : decode cX11_keep 9 = .ok (.iconst (-1), 1) := by decide +kernel
theorem dX11_keep_10 : decode cX11_keep 10 = .ok (.ireturn, 1) := by decide +kernel
theorem dX11_keep_11 : decode cX11_keep 11 = .ok (.aload_n 0, 1) := by decide +kernel
theorem dX11_keep_12 : decode cX11_keep 12 = .ok (.getfield 37, 3) := by decide +kernel
theorem dX11_keep_15 : decode cX11_keep 15 = .ok (.iload_n 1, 1) := by decide +kernel
theorem dX11_keep_16 : decode cX11_keep 16 = .ok (.aaload, 1) := by decide +kernel
theorem dX11_keep_17 : decode cX11_keep 17 = .ok (.aload_n 0, 1) := by decide +kernel
theorem dX11_keep_18 : decode cX11_keep 18 = .ok (.getfield 21, 3) := by decide +kernel
theorem dX11_keep_21 : decode cX11_keep 21 = .ok (.getfield 129, 3) := by decide +kernel
theorem dX11_keep_24 : decode cX11_keep 24 = .ok (.aload_n 0, 1) := by decide +kernel
theorem dX11_keep_25 : decode cX11_keep 25 = .ok (.getfield 21, 3) := by decide +kernel
theorem dX11_keep_28 : decode cX11_keep 28 = .ok (.getfield 130, 3) := by decide +kernel
theorem dX11_keep_31 : decode cX11_keep 31 = .ok (.invokevirtual 134, 3) := by decide +kernel
theorem dX11_keep_34 : decode cX11_keep 34 = .ok (.aload_n 0, 1) := by decide +kernel
theorem dX11_keep_35 : decode cX11_keep 35 = .ok (.getfield 37, 3) := by decide +kernel
theorem dX11_keep_38 : decode cX11_keep 38 = .ok (.iload_n 1, 1) := by decide +kernel
theorem dX11_keep_39 : decode cX11_keep 39 = .ok (.aaload, 1) := by decide +kernel
theorem dX11_keep_40 : decode cX11_keep 40 = .ok (.invokevirtual 176, 3) := by decide +kernel
theorem dX11_keep_43 : decode cX11_keep 43 = .ok (.aload_n 0, 1) := by decide +kernel
theorem dX11_keep_44 : decode cX11_keep 44 = .ok (.dup, 1) := by decide +kernel
theorem dX11_keep_45 : decode cX11_keep 45 = .ok (.getfield 179, 3) := by decide +kernel
theorem dX11_keep_48 : decode cX11_keep 48 = .ok (.iconst 1, 1) := by decide +kernel
theorem dX11_keep_49 : decode cX11_keep 49 = .ok (.iload_n 1, 1) := by decide +kernel
theorem dX11_keep_50 : decode cX11_keep 50 = .ok (.ishl, 1) := by decide +kernel
theorem dX11_keep_51 : decode cX11_keep 51 = .ok (.ior, 1) := by decide +kernel
theorem dX11_keep_52 : decode cX11_keep 52 = .ok (.putfield 179, 3) := by decide +kernel
theorem dX11_keep_55 : decode cX11_keep 55 = .ok (.iload_n 1, 1) := by decide +kernel
theorem dX11_keep_56 : decode cX11_keep 56 = .ok (.ifCond .ne 20, 3) := by decide +kernel
theorem dX11_keep_59 : decode cX11_keep 59 = .ok (.aload_n 0, 1) := by decide +kernel
theorem dX11_keep_60 : decode cX11_keep 60 = .ok (.getfield 66, 3) := by decide +kernel
theorem dX11_keep_63 : decode cX11_keep 63 = .ok (.invokevirtual 182, 3) := by decide +kernel
theorem dX11_keep_66 : decode cX11_keep 66 = .ok (.aload_n 0, 1) := by decide +kernel
theorem dX11_keep_67 : decode cX11_keep 67 = .ok (.dup, 1) := by decide +kernel
theorem dX11_keep_68 : decode cX11_keep 68 = .ok (.getfield 185, 3) := by decide +kernel
theorem dX11_keep_71 : decode cX11_keep 71 = .ok (.iconst 1, 1) := by decide +kernel
theorem dX11_keep_72 : decode cX11_keep 72 = .ok (.iadd, 1) := by decide +kernel
theorem dX11_keep_73 : decode cX11_keep 73 = .ok (.putfield 185, 3) := by decide +kernel
theorem dX11_keep_76 : decode cX11_keep 76 = .ok (.aload_n 0, 1) := by decide +kernel
theorem dX11_keep_77 : decode cX11_keep 77 = .ok (.getfield 21, 3) := by decide +kernel
theorem dX11_keep_80 : decode cX11_keep 80 = .ok (.getfield 129, 3) := by decide +kernel
theorem dX11_keep_83 : decode cX11_keep 83 = .ok (.ireturn, 1) := by decide +kernel
theorem dX11_isKept_0 : decode cX11_isKept 0 = .ok (.iload_n 1, 1) := by decide +kernel
theorem dX11_isKept_1 : decode cX11_isKept 1 = .ok (.ifCond .lt 24, 3) := by decide +kernel
theorem dX11_isKept_4 : decode cX11_isKept 4 = .ok (.iload_n 1, 1) := by decide +kernel
theorem dX11_isKept_5 : decode cX11_isKept 5 = .ok (.iconst 2, 1) := by decide +kernel
theorem dX11_isKept_6 : decode cX11_isKept 6 = .ok (.if_icmp .ge 19, 3) := by decide +kernel
theorem dX11_isKept_9 : decode cX11_isKept 9 = .ok (.aload_n 0, 1) := by decide +kernel
theorem dX11_isKept_10 : decode cX11_isKept 10 = .ok (.getfield 179, 3) := by decide +kernel
theorem dX11_isKept_13 : decode cX11_isKept 13 = .ok (.iload_n 1, 1) := by decide +kernel
theorem dX11_isKept_14 : decode cX11_isKept 14 = .ok (.ishr, 1) := by decide +kernel
theorem dX11_isKept_15 : decode cX11_isKept 15 = .ok (.iconst 1, 1) := by decide +kernel
theorem dX11_isKept_16 : decode cX11_isKept 16 = .ok (.iand, 1) := by decide +kernel
theorem dX11_isKept_17 : decode cX11_isKept 17 = .ok (.iconst 1, 1) := by decide +kernel
theorem dX11_isKept_18 : decode cX11_isKept 18 = .ok (.if_icmp .ne 7, 3) := by decide +kernel
theorem dX11_isKept_21 : decode cX11_isKept 21 = .ok (.iconst 1, 1) := by decide +kernel
theorem dX11_isKept_22 : decode cX11_isKept 22 = .ok (.goto 4, 3) := by decide +kernel
theorem dX11_isKept_25 : decode cX11_isKept 25 = .ok (.iconst 0, 1) := by decide +kernel
theorem dX11_isKept_26 : decode cX11_isKept 26 = .ok (.ireturn, 1) := by decide +kernel
theorem dX11_adoptDraft_0 : decode cX11_adoptDraft 0 = .ok (.aload_n 0, 1) := by decide +kernel
theorem dX11_adoptDraft_1 : decode cX11_adoptDraft 1 = .ok (.invokevirtual 188, 3) := by decide +kernel
theorem dX11_adoptDraft_4 : decode cX11_adoptDraft 4 = .ok (.aload_n 0, 1) := by decide +kernel
theorem dX11_adoptDraft_5 : decode cX11_adoptDraft 5 = .ok (.getfield 21, 3) := by decide +kernel
theorem dX11_adoptDraft_8 : decode cX11_adoptDraft 8 = .ok (.aload_n 0, 1) := by decide +kernel
theorem dX11_adoptDraft_9 : decode cX11_adoptDraft 9 = .ok (.getfield 25, 3) := by decide +kernel
theorem dX11_adoptDraft_12 : decode cX11_adoptDraft 12 = .ok (.getfield 129, 3) := by decide +kernel
theorem dX11_adoptDraft_15 : decode cX11_adoptDraft 15 = .ok (.aload_n 0, 1) := by decide +kernel
theorem dX11_adoptDraft_16 : decode cX11_adoptDraft 16 = .ok (.getfield 25, 3) := by decide +kernel
theorem dX11_adoptDraft_19 : decode cX11_adoptDraft 19 = .ok (.getfield 130, 3) := by decide +kernel
theorem dX11_adoptDraft_22 : decode cX11_adoptDraft 22 = .ok (.invokevirtual 134, 3) := by decide +kernel
theorem dX11_adoptDraft_25 : decode cX11_adoptDraft 25 = .ok (.aload_n 0, 1) := by decide +kernel
theorem dX11_adoptDraft_26 : decode cX11_adoptDraft 26 = .ok (.getfield 21, 3) := by decide +kernel
theorem dX11_adoptDraft_29 : decode cX11_adoptDraft 29 = .ok (.invokevirtual 176, 3) := by decide +kernel
theorem dX11_adoptDraft_32 : decode cX11_adoptDraft 32 = .ok (.aload_n 0, 1) := by decide +kernel
theorem dX11_adoptDraft_33 : decode cX11_adoptDraft 33 = .ok (.invokevirtual 191, 3) := by decide +kernel
theorem dX11_adoptDraft_36 : decode cX11_adoptDraft 36 = .ok (.aload_n 0, 1) := by decide +kernel
theorem dX11_adoptDraft_37 : decode cX11_adoptDraft 37 = .ok (.getfield 53, 3) := by decide +kernel
theorem dX11_adoptDraft_40 : decode cX11_adoptDraft 40 = .ok (.invokevirtual 194, 3) := by decide +kernel
theorem dX11_adoptDraft_43 : decode cX11_adoptDraft 43 = .ok (.aload_n 0, 1) := by decide +kernel
theorem dX11_adoptDraft_44 : decode cX11_adoptDraft 44 = .ok (.getfield 57, 3) := by decide +kernel
theorem dX11_adoptDraft_47 : decode cX11_adoptDraft 47 = .ok (.lconst 0, 1) := by decide +kernel
theorem dX11_adoptDraft_48 : decode cX11_adoptDraft 48 = .ok (.invokestatic 195, 3) := by decide +kernel
theorem dX11_adoptDraft_51 : decode cX11_adoptDraft 51 = .ok (.aload_n 0, 1) := by decide +kernel
theorem dX11_adoptDraft_52 : decode cX11_adoptDraft 52 = .ok (.getfield 66, 3) := by decide +kernel
theorem dX11_adoptDraft_55 : decode cX11_adoptDraft 55 = .ok (.invokevirtual 182, 3) := by decide +kernel
theorem dX11_adoptDraft_58 : decode cX11_adoptDraft 58 = .ok (.aload_n 0, 1) := by decide +kernel
theorem dX11_adoptDraft_59 : decode cX11_adoptDraft 59 = .ok (.getfield 21, 3) := by decide +kernel
theorem dX11_adoptDraft_62 : decode cX11_adoptDraft 62 = .ok (.getfield 129, 3) := by decide +kernel
theorem dX11_adoptDraft_65 : decode cX11_adoptDraft 65 = .ok (.ireturn, 1) := by decide +kernel
theorem dX11_forgetReckoned_0 : decode cX11_forgetReckoned 0 = .ok (.aload_n 0, 1) := by decide +kernel
theorem dX11_forgetReckoned_1 : decode cX11_forgetReckoned 1 = .ok (.getfield 82, 3) := by decide +kernel
theorem dX11_forgetReckoned_4 : decode cX11_forgetReckoned 4 = .ok (.invokevirtual 201, 3) := by decide +kernel
theorem dX11_forgetReckoned_7 : decode cX11_forgetReckoned 7 = .ok (.aload_n 0, 1) := by decide +kernel
theorem dX11_forgetReckoned_8 : decode cX11_forgetReckoned 8 = .ok (.getfield 89, 3) := by decide +kernel
theorem dX11_forgetReckoned_11 : decode cX11_forgetReckoned 11 = .ok (.invokevirtual 204, 3) := by decide +kernel
theorem dX11_forgetReckoned_14 : decode cX11_forgetReckoned 14 = .ok (.return_, 1) := by decide +kernel
theorem dX11_remember_0 : decode cX11_remember 0 = .ok (.aload_n 0, 1) := by decide +kernel
theorem dX11_remember_1 : decode cX11_remember 1 = .ok (.getfield 96, 3) := by decide +kernel
theorem dX11_remember_4 : decode cX11_remember 4 = .ok (.invokevirtual 205, 3) := by decide +kernel
theorem dX11_remember_7 : decode cX11_remember 7 = .ok (.astore_n 1, 1) := by decide +kernel
theorem dX11_remember_8 : decode cX11_remember 8 = .ok (.aload_n 1, 1) := by decide +kernel
theorem dX11_remember_9 : decode cX11_remember 9 = .ok (.aload_n 0, 1) := by decide +kernel
theorem dX11_remember_10 : decode cX11_remember 10 = .ok (.getfield 21, 3) := by decide +kernel
theorem dX11_remember_13 : decode cX11_remember 13 = .ok (.getfield 129, 3) := by decide +kernel
theorem dX11_remember_16 : decode cX11_remember 16 = .ok (.putfield 209, 3) := by decide +kernel
theorem dX11_remember_19 : decode cX11_remember 19 = .ok (.aload_n 1, 1) := by decide +kernel
theorem dX11_remember_20 : decode cX11_remember 20 = .ok (.aload_n 0, 1) := by decide +kernel
theorem dX11_remember_21 : decode cX11_remember 21 = .ok (.getfield 185, 3) := by decide +kernel
theorem dX11_remember_24 : decode cX11_remember 24 = .ok (.putfield 212, 3) := by decide +kernel
theorem dX11_remember_27 : decode cX11_remember 27 = .ok (.aload_n 0, 1) := by decide +kernel
theorem dX11_remember_28 : decode cX11_remember 28 = .ok (.getfield 21, 3) := by decide +kernel
theorem dX11_remember_31 : decode cX11_remember 31 = .ok (.getfield 130, 3) := by decide +kernel
theorem dX11_remember_34 : decode cX11_remember 34 = .ok (.iconst 0, 1) := by decide +kernel
theorem dX11_remember_35 : decode cX11_remember 35 = .ok (.aload_n 1, 1) := by decide +kernel
theorem dX11_remember_36 : decode cX11_remember 36 = .ok (.getfield 213, 3) := by decide +kernel
theorem dX11_remember_39 : decode cX11_remember 39 = .ok (.iconst 0, 1) := by decide +kernel
theorem dX11_remember_40 : decode cX11_remember 40 = .ok (.bipush 16, 2) := by decide +kernel
theorem dX11_remember_42 : decode cX11_remember 42 = .ok (.invokestatic 214, 3) := by decide +kernel
theorem dX11_remember_45 : decode cX11_remember 45 = .ok (.aload_n 0, 1) := by decide +kernel
theorem dX11_remember_46 : decode cX11_remember 46 = .ok (.getfield 53, 3) := by decide +kernel
theorem dX11_remember_49 : decode cX11_remember 49 = .ok (.getfield 220, 3) := by decide +kernel
theorem dX11_remember_52 : decode cX11_remember 52 = .ok (.iconst 0, 1) := by decide +kernel
theorem dX11_remember_53 : decode cX11_remember 53 = .ok (.aload_n 1, 1) := by decide +kernel
theorem dX11_remember_54 : decode cX11_remember 54 = .ok (.getfield 223, 3) := by decide +kernel
theorem dX11_remember_57 : decode cX11_remember 57 = .ok (.iconst 0, 1) := by decide +kernel
theorem dX11_remember_58 : decode cX11_remember 58 = .ok (.sipush 1024, 3) := by decide +kernel
theorem dX11_remember_61 : decode cX11_remember 61 = .ok (.invokestatic 214, 3) := by decide +kernel
theorem dX11_remember_64 : decode cX11_remember 64 = .ok (.aload_n 0, 1) := by decide +kernel
theorem dX11_remember_65 : decode cX11_remember 65 = .ok (.getfield 57, 3) := by decide +kernel
theorem dX11_remember_68 : decode cX11_remember 68 = .ok (.iconst 0, 1) := by decide +kernel
theorem dX11_remember_69 : decode cX11_remember 69 = .ok (.aload_n 1, 1) := by decide +kernel
theorem dX11_remember_70 : decode cX11_remember 70 = .ok (.getfield 224, 3) := by decide +kernel
theorem dX11_remember_73 : decode cX11_remember 73 = .ok (.iconst 0, 1) := by decide +kernel
theorem dX11_remember_74 : decode cX11_remember 74 = .ok (.bipush 16, 2) := by decide +kernel
theorem dX11_remember_76 : decode cX11_remember 76 = .ok (.invokestatic 214, 3) := by decide +kernel
theorem dX11_remember_79 : decode cX11_remember 79 = .ok (.aload_n 0, 1) := by decide +kernel
theorem dX11_remember_80 : decode cX11_remember 80 = .ok (.getfield 66, 3) := by decide +kernel
theorem dX11_remember_83 : decode cX11_remember 83 = .ok (.getfield 225, 3) := by decide +kernel
theorem dX11_remember_86 : decode cX11_remember 86 = .ok (.iconst 0, 1) := by decide +kernel
theorem dX11_remember_87 : decode cX11_remember 87 = .ok (.aload_n 1, 1) := by decide +kernel
theorem dX11_remember_88 : decode cX11_remember 88 = .ok (.getfield 228, 3) := by decide +kernel
theorem dX11_remember_91 : decode cX11_remember 91 = .ok (.iconst 0, 1) := by decide +kernel
theorem dX11_remember_92 : decode cX11_remember 92 = .ok (.bipush 16, 2) := by decide +kernel
theorem dX11_remember_94 : decode cX11_remember 94 = .ok (.invokestatic 214, 3) := by decide +kernel
theorem dX11_remember_97 : decode cX11_remember 97 = .ok (.return_, 1) := by decide +kernel
theorem dX11_undo_0 : decode cX11_undo 0 = .ok (.aload_n 0, 1) := by decide +kernel
theorem dX11_undo_1 : decode cX11_undo 1 = .ok (.getfield 96, 3) := by decide +kernel
theorem dX11_undo_4 : decode cX11_undo 4 = .ok (.invokevirtual 229, 3) := by decide +kernel
theorem dX11_undo_7 : decode cX11_undo 7 = .ok (.astore_n 1, 1) := by decide +kernel
theorem dX11_undo_8 : decode cX11_undo 8 = .ok (.aload_n 1, 1) := by decide +kernel
theorem dX11_undo_9 : decode cX11_undo 9 = .ok (.ifnonnull 5, 3) := by decide +kernel
theorem dX11_undo_12 : decode cX11_undo 12 = .ok (.iconst (-1), 1) := by decide +kernel
theorem dX11_undo_13 : decode cX11_undo 13 = .ok (.ireturn, 1) := by decide +kernel
theorem dX11_undo_14 : decode cX11_undo 14 = .ok (.aload_n 0, 1) := by decide +kernel
theorem dX11_undo_15 : decode cX11_undo 15 = .ok (.getfield 21, 3) := by decide +kernel
theorem dX11_undo_18 : decode cX11_undo 18 = .ok (.aload_n 1, 1) := by decide +kernel
theorem dX11_undo_19 : decode cX11_undo 19 = .ok (.getfield 209, 3) := by decide +kernel
theorem dX11_undo_22 : decode cX11_undo 22 = .ok (.aload_n 1, 1) := by decide +kernel
theorem dX11_undo_23 : decode cX11_undo 23 = .ok (.getfield 213, 3) := by decide +kernel
theorem dX11_undo_26 : decode cX11_undo 26 = .ok (.invokevirtual 232, 3) := by decide +kernel
theorem dX11_undo_29 : decode cX11_undo 29 = .ok (.ifCond .ne 29, 3) := by decide +kernel
theorem dX11_undo_32 : decode cX11_undo 32 = .ok (.aload_n 0, 1) := by decide +kernel
theorem dX11_undo_33 : decode cX11_undo 33 = .ok (.getfield 21, 3) := by decide +kernel
theorem dX11_undo_36 : decode cX11_undo 36 = .ok (.aload_n 1, 1) := by decide +kernel
theorem dX11_undo_37 : decode cX11_undo 37 = .ok (.getfield 209, 3) := by decide +kernel
theorem dX11_undo_40 : decode cX11_undo 40 = .ok (.aload_n 1, 1) := by decide +kernel
theorem dX11_undo_41 : decode cX11_undo 41 = .ok (.getfield 213, 3) := by decide +kernel
theorem dX11_undo_44 : decode cX11_undo 44 = .ok (.invokevirtual 134, 3) := by decide +kernel
theorem dX11_undo_47 : decode cX11_undo 47 = .ok (.aload_n 0, 1) := by decide +kernel
theorem dX11_undo_48 : decode cX11_undo 48 = .ok (.getfield 21, 3) := by decide +kernel
theorem dX11_undo_51 : decode cX11_undo 51 = .ok (.invokevirtual 176, 3) := by decide +kernel
theorem dX11_undo_54 : decode cX11_undo 54 = .ok (.aload_n 0, 1) := by decide +kernel
theorem dX11_undo_55 : decode cX11_undo 55 = .ok (.invokevirtual 191, 3) := by decide +kernel
theorem dX11_undo_58 : decode cX11_undo 58 = .ok (.aload_n 1, 1) := by decide +kernel
theorem dX11_undo_59 : decode cX11_undo 59 = .ok (.getfield 223, 3) := by decide +kernel
theorem dX11_undo_62 : decode cX11_undo 62 = .ok (.iconst 0, 1) := by decide +kernel
theorem dX11_undo_63 : decode cX11_undo 63 = .ok (.aload_n 0, 1) := by decide +kernel
theorem dX11_undo_64 : decode cX11_undo 64 = .ok (.getfield 53, 3) := by decide +kernel
theorem dX11_undo_67 : decode cX11_undo 67 = .ok (.getfield 220, 3) := by decide +kernel
theorem dX11_undo_70 : decode cX11_undo 70 = .ok (.iconst 0, 1) := by decide +kernel
theorem dX11_undo_71 : decode cX11_undo 71 = .ok (.sipush 1024, 3) := by decide +kernel
theorem dX11_undo_74 : decode cX11_undo 74 = .ok (.invokestatic 214, 3) := by decide +kernel
theorem dX11_undo_77 : decode cX11_undo 77 = .ok (.aload_n 1, 1) := by decide +kernel
theorem dX11_undo_78 : decode cX11_undo 78 = .ok (.getfield 224, 3) := by decide +kernel
theorem dX11_undo_81 : decode cX11_undo 81 = .ok (.iconst 0, 1) := by decide +kernel
theorem dX11_undo_82 : decode cX11_undo 82 = .ok (.aload_n 0, 1) := by decide +kernel
theorem dX11_undo_83 : decode cX11_undo 83 = .ok (.getfield 57, 3) := by decide +kernel
theorem dX11_undo_86 : decode cX11_undo 86 = .ok (.iconst 0, 1) := by decide +kernel
theorem dX11_undo_87 : decode cX11_undo 87 = .ok (.bipush 16, 2) := by decide +kernel
theorem dX11_undo_89 : decode cX11_undo 89 = .ok (.invokestatic 214, 3) := by decide +kernel
theorem dX11_undo_92 : decode cX11_undo 92 = .ok (.aload_n 1, 1) := by decide +kernel
theorem dX11_undo_93 : decode cX11_undo 93 = .ok (.getfield 228, 3) := by decide +kernel
theorem dX11_undo_96 : decode cX11_undo 96 = .ok (.iconst 0, 1) := by decide +kernel
theorem dX11_undo_97 : decode cX11_undo 97 = .ok (.aload_n 0, 1) := by decide +kernel
theorem dX11_undo_98 : decode cX11_undo 98 = .ok (.getfield 66, 3) := by decide +kernel
theorem dX11_undo_101 : decode cX11_undo 101 = .ok (.getfield 225, 3) := by decide +kernel
theorem dX11_undo_104 : decode cX11_undo 104 = .ok (.iconst 0, 1) := by decide +kernel
theorem dX11_undo_105 : decode cX11_undo 105 = .ok (.bipush 16, 2) := by decide +kernel
theorem dX11_undo_107 : decode cX11_undo 107 = .ok (.invokestatic 214, 3) := by decide +kernel
theorem dX11_undo_110 : decode cX11_undo 110 = .ok (.aload_n 1, 1) := by decide +kernel
theorem dX11_undo_111 : decode cX11_undo 111 = .ok (.getfield 212, 3) := by decide +kernel
theorem dX11_undo_114 : decode cX11_undo 114 = .ok (.aload_n 0, 1) := by decide +kernel
theorem dX11_undo_115 : decode cX11_undo 115 = .ok (.getfield 185, 3) := by decide +kernel
theorem dX11_undo_118 : decode cX11_undo 118 = .ok (.if_icmp .eq 10, 3) := by decide +kernel
theorem dX11_undo_121 : decode cX11_undo 121 = .ok (.aload_n 0, 1) := by decide +kernel
theorem dX11_undo_122 : decode cX11_undo 122 = .ok (.getfield 66, 3) := by decide +kernel
theorem dX11_undo_125 : decode cX11_undo 125 = .ok (.invokevirtual 182, 3) := by decide +kernel
theorem dX11_undo_128 : decode cX11_undo 128 = .ok (.aload_n 0, 1) := by decide +kernel
theorem dX11_undo_129 : decode cX11_undo 129 = .ok (.getfield 96, 3) := by decide +kernel
theorem dX11_undo_132 : decode cX11_undo 132 = .ok (.getfield 236, 3) := by decide +kernel
theorem dX11_undo_135 : decode cX11_undo 135 = .ok (.ireturn, 1) := by decide +kernel
theorem dX11_isFunction_0 : decode cX11_isFunction 0 = .ok (.iload_n 0, 1) := by decide +kernel
theorem dX11_isFunction_1 : decode cX11_isFunction 1 = .ok (.ifCond .lt 12, 3) := by decide +kernel
theorem dX11_isFunction_4 : decode cX11_isFunction 4 = .ok (.iload_n 0, 1) := by decide +kernel
theorem dX11_isFunction_5 : decode cX11_isFunction 5 = .ok (.iconst 4, 1) := by decide +kernel
theorem dX11_isFunction_6 : decode cX11_isFunction 6 = .ok (.if_icmp .ge 7, 3) := by decide +kernel
theorem dX11_isFunction_9 : decode cX11_isFunction 9 = .ok (.iconst 1, 1) := by decide +kernel
theorem dX11_isFunction_10 : decode cX11_isFunction 10 = .ok (.goto 4, 3) := by decide +kernel
theorem dX11_isFunction_13 : decode cX11_isFunction 13 = .ok (.iconst 0, 1) := by decide +kernel
theorem dX11_isFunction_14 : decode cX11_isFunction 14 = .ok (.ireturn, 1) := by decide +kernel
theorem dX11_make_0 : decode cX11_make 0 = .ok (.iload_n 1, 1) := by decide +kernel
theorem dX11_make_1 : decode cX11_make 1 = .ok (.invokestatic 237, 3) := by decide +kernel
theorem dX11_make_4 : decode cX11_make 4 = .ok (.ifCond .eq 13, 3) := by decide +kernel
theorem dX11_make_7 : decode cX11_make 7 = .ok (.iload_n 2, 1) := by decide +kernel
theorem dX11_make_8 : decode cX11_make 8 = .ok (.ifCond .lt 9, 3) := by decide +kernel
theorem dX11_make_11 : decode cX11_make 11 = .ok (.iload_n 2, 1) := by decide +kernel
theorem dX11_make_12 : decode cX11_make 12 = .ok (.bipush 6, 2) := by decide +kernel
theorem dX11_make_14 : decode cX11_make 14 = .ok (.if_icmp .le 5, 3) := by decide +kernel
theorem dX11_make_17 : decode cX11_make 17 = .ok (.iconst (-1), 1) := by decide +kernel
theorem dX11_make_18 : decode cX11_make 18 = .ok (.ireturn, 1) := by decide +kernel
theorem dX11_make_19 : decode cX11_make 19 = .ok (.aload_n 0, 1) := by decide +kernel
theorem dX11_make_20 : decode cX11_make 20 = .ok (.getfield 53, 3) := by decide +kernel
theorem dX11_make_23 : decode cX11_make 23 = .ok (.iload_n 2, 1) := by decide +kernel
theorem dX11_make_24 : decode cX11_make 24 = .ok (.invokevirtual 240, 3) := by decide +kernel
theorem dX11_make_27 : decode cX11_make 27 = .ok (.aload_n 0, 1) := by decide +kernel
theorem dX11_make_28 : decode cX11_make 28 = .ok (.iload_n 1, 1) := by decide +kernel
theorem dX11_make_29 : decode cX11_make 29 = .ok (.iload_n 2, 1) := by decide +kernel
theorem dX11_make_30 : decode cX11_make 30 = .ok (.invokevirtual 243, 3) := by decide +kernel
theorem dX11_make_33 : decode cX11_make 33 = .ok (.ireturn, 1) := by decide +kernel
theorem dX11_put_0 : decode cX11_put 0 = .ok (.iload_n 1, 1) := by decide +kernel
theorem dX11_put_1 : decode cX11_put 1 = .ok (.invokestatic 237, 3) := by decide +kernel
theorem dX11_put_4 : decode cX11_put 4 = .ok (.ifCond .eq 15, 3) := by decide +kernel
theorem dX11_put_7 : decode cX11_put 7 = .ok (.aload_n 0, 1) := by decide +kernel
theorem dX11_put_8 : decode cX11_put 8 = .ok (.getfield 21, 3) := by decide +kernel
theorem dX11_put_11 : decode cX11_put 11 = .ok (.iload_n 2, 1) := by decide +kernel
theorem dX11_put_12 : decode cX11_put 12 = .ok (.iload_n 3, 1) := by decide +kernel
theorem dX11_put_13 : decode cX11_put 13 = .ok (.invokevirtual 126, 3) := by decide +kernel
theorem dX11_put_16 : decode cX11_put 16 = .ok (.ifCond .ne 5, 3) := by decide +kernel
theorem dX11_put_19 : decode cX11_put 19 = .ok (.iconst (-1), 1) := by decide +kernel
theorem dX11_put_20 : decode cX11_put 20 = .ok (.ireturn, 1) := by decide +kernel
theorem dX11_put_21 : decode cX11_put 21 = .ok (.aload_n 0, 1) := by decide +kernel
theorem dX11_put_22 : decode cX11_put 22 = .ok (.getfield 53, 3) := by decide +kernel
theorem dX11_put_25 : decode cX11_put 25 = .ok (.iload_n 1, 1) := by decide +kernel
theorem dX11_put_26 : decode cX11_put 26 = .ok (.iload_n 2, 1) := by decide +kernel
theorem dX11_put_27 : decode cX11_put 27 = .ok (.iload_n 3, 1) := by decide +kernel
theorem dX11_put_28 : decode cX11_put 28 = .ok (.invokevirtual 246, 3) := by decide +kernel
theorem dX11_put_31 : decode cX11_put 31 = .ok (.iload 4, 2) := by decide +kernel
theorem dX11_put_33 : decode cX11_put 33 = .ok (.i2l, 1) := by decide +kernel
theorem dX11_put_34 : decode cX11_put 34 = .ok (.lcmp, 1) := by decide +kernel
theorem dX11_put_35 : decode cX11_put 35 = .ok (.ifCond .ne 6, 3) := by decide +kernel
theorem dX11_put_38 : decode cX11_put 38 = .ok (.bipush (-2), 2) := by decide +kernel
theorem dX11_put_40 : decode cX11_put 40 = .ok (.ireturn, 1) := by decide +kernel
theorem dX11_put_41 : decode cX11_put 41 = .ok (.aload_n 0, 1) := by decide +kernel
theorem dX11_put_42 : decode cX11_put 42 = .ok (.invokevirtual 188, 3) := by decide +kernel
theorem dX11_put_45 : decode cX11_put 45 = .ok (.aload_n 0, 1) := by decide +kernel
theorem dX11_put_46 : decode cX11_put 46 = .ok (.getfield 53, 3) := by decide +kernel
theorem dX11_put_49 : decode cX11_put 49 = .ok (.getfield 220, 3) := by decide +kernel
theorem dX11_put_52 : decode cX11_put 52 = .ok (.iload_n 1, 1) := by decide +kernel
theorem dX11_put_53 : decode cX11_put 53 = .ok (.iload_n 2, 1) := by decide +kernel
theorem dX11_put_54 : decode cX11_put 54 = .ok (.iload_n 3, 1) := by decide +kernel
theorem dX11_put_55 : decode cX11_put 55 = .ok (.invokestatic 250, 3) := by decide +kernel
theorem dX11_put_58 : decode cX11_put 58 = .ok (.iload 4, 2) := by decide +kernel
theorem dX11_put_60 : decode cX11_put 60 = .ok (.i2l, 1) := by decide +kernel
theorem dX11_put_61 : decode cX11_put 61 = .ok (.lastore, 1) := by decide +kernel
theorem dX11_put_62 : decode cX11_put 62 = .ok (.iconst 1, 1) := by decide +kernel
theorem dX11_put_63 : decode cX11_put 63 = .ok (.ireturn, 1) := by decide +kernel
theorem dX11_reckon_0 : decode cX11_reckon 0 = .ok (.iload_n 1, 1) := by decide +kernel
theorem dX11_reckon_1 : decode cX11_reckon 1 = .ok (.invokestatic 237, 3) := by decide +kernel
theorem dX11_reckon_4 : decode cX11_reckon 4 = .ok (.ifCond .eq 28, 3) := by decide +kernel
theorem dX11_reckon_7 : decode cX11_reckon 7 = .ok (.iload_n 2, 1) := by decide +kernel
theorem dX11_reckon_8 : decode cX11_reckon 8 = .ok (.invokestatic 237, 3) := by decide +kernel
theorem dX11_reckon_11 : decode cX11_reckon 11 = .ok (.ifCond .eq 21, 3) := by decide +kernel
theorem dX11_reckon_14 : decode cX11_reckon 14 = .ok (.iload_n 3, 1) := by decide +kernel
theorem dX11_reckon_15 : decode cX11_reckon 15 = .ok (.invokestatic 237, 3) := by decide +kernel
theorem dX11_reckon_18 : decode cX11_reckon 18 = .ok (.ifCond .eq 14, 3) := by decide +kernel
theorem dX11_reckon_21 : decode cX11_reckon 21 = .ok (.iload 4, 2) := by decide +kernel
theorem dX11_reckon_23 : decode cX11_reckon 23 = .ok (.ifCond .lt 9, 3) := by decide +kernel
theorem dX11_reckon_26 : decode cX11_reckon 26 = .ok (.iload 4, 2) := by decide +kernel
theorem dX11_reckon_28 : decode cX11_reckon 28 = .ok (.iconst 3, 1) := by decide +kernel
theorem dX11_reckon_29 : decode cX11_reckon 29 = .ok (.if_icmp .le 5, 3) := by decide +kernel
theorem dX11_reckon_32 : decode cX11_reckon 32 = .ok (.iconst (-1), 1) := by decide +kernel
theorem dX11_reckon_33 : decode cX11_reckon 33 = .ok (.ireturn, 1) := by decide +kernel
theorem dX11_reckon_34 : decode cX11_reckon 34 = .ok (.aload_n 0, 1) := by decide +kernel
theorem dX11_reckon_35 : decode cX11_reckon 35 = .ok (.getfield 44, 3) := by decide +kernel
theorem dX11_reckon_38 : decode cX11_reckon 38 = .ok (.invokevirtual 254, 3) := by decide +kernel
theorem dX11_reckon_41 : decode cX11_reckon 41 = .ok (.iload 4, 2) := by decide +kernel
theorem dX11_reckon_43 : decode cX11_reckon 43 = .ok (.iconst 2, 1) := by decide +kernel
theorem dX11_reckon_44 : decode cX11_reckon 44 = .ok (.if_icmp .ne 26, 3) := by decide +kernel
theorem dX11_reckon_47 : decode cX11_reckon 47 = .ok (.aload_n 0, 1) := by decide +kernel
theorem dX11_reckon_48 : decode cX11_reckon 48 = .ok (.getfield 53, 3) := by decide +kernel
theorem dX11_reckon_51 : decode cX11_reckon 51 = .ok (.aload_n 0, 1) := by decide +kernel
theorem dX11_reckon_52 : decode cX11_reckon 52 = .ok (.getfield 53, 3) := by decide +kernel
theorem dX11_reckon_55 : decode cX11_reckon 55 = .ok (.getfield 220, 3) := by decide +kernel
theorem dX11_reckon_58 : decode cX11_reckon 58 = .ok (.iload_n 2, 1) := by decide +kernel
theorem dX11_reckon_59 : decode cX11_reckon 59 = .ok (.sipush 256, 3) := by decide +kernel
theorem dX11_reckon_62 : decode cX11_reckon 62 = .ok (.imul, 1) := by decide +kernel
theorem dX11_reckon_63 : decode cX11_reckon 63 = .ok (.iload_n 3, 1) := by decide +kernel
theorem dX11_reckon_64 : decode cX11_reckon 64 = .ok (.invokevirtual 257, 3) := by decide +kernel
theorem dX11_reckon_67 : decode cX11_reckon 67 = .ok (.goto 14, 3) := by decide +kernel
theorem dX11_reckon_70 : decode cX11_reckon 70 = .ok (.aload_n 0, 1) := by decide +kernel
theorem dX11_reckon_71 : decode cX11_reckon 71 = .ok (.getfield 53, 3) := by decide +kernel
theorem dX11_reckon_74 : decode cX11_reckon 74 = .ok (.iload_n 2, 1) := by decide +kernel
theorem dX11_reckon_75 : decode cX11_reckon 75 = .ok (.iload_n 3, 1) := by decide +kernel
theorem dX11_reckon_76 : decode cX11_reckon 76 = .ok (.iload 4, 2) := by decide +kernel
theorem dX11_reckon_78 : decode cX11_reckon 78 = .ok (.invokevirtual 261, 3) := by decide +kernel
theorem dX11_reckon_81 : decode cX11_reckon 81 = .ok (.aload_n 0, 1) := by decide +kernel
theorem dX11_reckon_82 : decode cX11_reckon 82 = .ok (.getfield 44, 3) := by decide +kernel
theorem dX11_reckon_85 : decode cX11_reckon 85 = .ok (.getfield 265, 3) := by decide +kernel
theorem dX11_reckon_88 : decode cX11_reckon 88 = .ok (.ifCond .eq 8, 3) := by decide +kernel
theorem dX11_reckon_91 : decode cX11_reckon 91 = .ok (.bipush (-3), 2) := by decide +kernel
theorem dX11_reckon_93 : decode cX11_reckon 93 = .ok (.goto 9, 3) := by decide +kernel
theorem dX11_reckon_96 : decode cX11_reckon 96 = .ok (.aload_n 0, 1) := by decide +kernel
theorem dX11_reckon_97 : decode cX11_reckon 97 = .ok (.iload_n 1, 1) := by decide +kernel
theorem dX11_reckon_98 : decode cX11_reckon 98 = .ok (.iconst 1, 1) := by decide +kernel
theorem dX11_reckon_99 : decode cX11_reckon 99 = .ok (.invokevirtual 243, 3) := by decide +kernel
theorem dX11_reckon_102 : decode cX11_reckon 102 = .ok (.ireturn, 1) := by decide +kernel
theorem dX11_invert_0 : decode cX11_invert 0 = .ok (.iload_n 1, 1) := by decide +kernel
theorem dX11_invert_1 : decode cX11_invert 1 = .ok (.invokestatic 237, 3) := by decide +kernel
theorem dX11_invert_4 : decode cX11_invert 4 = .ok (.ifCond .eq 10, 3) := by decide +kernel
theorem dX11_invert_7 : decode cX11_invert 7 = .ok (.iload_n 2, 1) := by decide +kernel
theorem dX11_invert_8 : decode cX11_invert 8 = .ok (.invokestatic 237, 3) := by decide +kernel
theorem dX11_invert_11 : decode cX11_invert 11 = .ok (.ifCond .ne 5, 3) := by decide +kernel
theorem dX11_invert_14 : decode cX11_invert 14 = .ok (.iconst (-1), 1) := by decide +kernel
theorem dX11_invert_15 : decode cX11_invert 15 = .ok (.ireturn, 1) := by decide +kernel
theorem dX11_invert_16 : decode cX11_invert 16 = .ok (.aload_n 0, 1) := by decide +kernel
theorem dX11_invert_17 : decode cX11_invert 17 = .ok (.getfield 53, 3) := by decide +kernel
theorem dX11_invert_20 : decode cX11_invert 20 = .ok (.iload_n 2, 1) := by decide +kernel
theorem dX11_invert_21 : decode cX11_invert 21 = .ok (.invokevirtual 269, 3) := by decide +kernel
theorem dX11_invert_24 : decode cX11_invert 24 = .ok (.ifCond .ne 6, 3) := by decide +kernel
theorem dX11_invert_27 : decode cX11_invert 27 = .ok (.bipush (-2), 2) := by decide +kernel
theorem dX11_invert_29 : decode cX11_invert 29 = .ok (.ireturn, 1) := by decide +kernel
theorem dX11_invert_30 : decode cX11_invert 30 = .ok (.aload_n 0, 1) := by decide +kernel
theorem dX11_invert_31 : decode cX11_invert 31 = .ok (.getfield 44, 3) := by decide +kernel
theorem dX11_invert_34 : decode cX11_invert 34 = .ok (.invokevirtual 254, 3) := by decide +kernel
theorem dX11_invert_37 : decode cX11_invert 37 = .ok (.aload_n 0, 1) := by decide +kernel
theorem dX11_invert_38 : decode cX11_invert 38 = .ok (.getfield 53, 3) := by decide +kernel
theorem dX11_invert_41 : decode cX11_invert 41 = .ok (.iload_n 2, 1) := by decide +kernel
theorem dX11_invert_42 : decode cX11_invert 42 = .ok (.invokevirtual 272, 3) := by decide +kernel
theorem dX11_invert_45 : decode cX11_invert 45 = .ok (.aload_n 0, 1) := by decide +kernel
theorem dX11_invert_46 : decode cX11_invert 46 = .ok (.getfield 44, 3) := by decide +kernel
theorem dX11_invert_49 : decode cX11_invert 49 = .ok (.getfield 265, 3) := by decide +kernel
theorem dX11_invert_52 : decode cX11_invert 52 = .ok (.ifCond .eq 8, 3) := by decide +kernel
theorem dX11_invert_55 : decode cX11_invert 55 = .ok (.bipush (-3), 2) := by decide +kernel
theorem dX11_invert_57 : decode cX11_invert 57 = .ok (.goto 9, 3) := by decide +kernel
theorem dX11_invert_60 : decode cX11_invert 60 = .ok (.aload_n 0, 1) := by decide +kernel
theorem dX11_invert_61 : decode cX11_invert 61 = .ok (.iload_n 1, 1) := by decide +kernel
theorem dX11_invert_62 : decode cX11_invert 62 = .ok (.iconst 1, 1) := by decide +kernel
theorem dX11_invert_63 : decode cX11_invert 63 = .ok (.invokevirtual 243, 3) := by decide +kernel
theorem dX11_invert_66 : decode cX11_invert 66 = .ok (.ireturn, 1) := by decide +kernel
theorem dX11_raise_0 : decode cX11_raise 0 = .ok (.iload_n 1, 1) := by decide +kernel
theorem dX11_raise_1 : decode cX11_raise 1 = .ok (.invokestatic 237, 3) := by decide +kernel
theorem dX11_raise_4 : decode cX11_raise 4 = .ok (.ifCond .eq 20, 3) := by decide +kernel
theorem dX11_raise_7 : decode cX11_raise 7 = .ok (.iload_n 2, 1) := by decide +kernel
theorem dX11_raise_8 : decode cX11_raise 8 = .ok (.invokestatic 237, 3) := by decide +kernel
theorem dX11_raise_11 : decode cX11_raise 11 = .ok (.ifCond .eq 13, 3) := by decide +kernel
theorem dX11_raise_14 : decode cX11_raise 14 = .ok (.iload_n 3, 1) := by decide +kernel
theorem dX11_raise_15 : decode cX11_raise 15 = .ok (.ifCond .lt 9, 3) := by decide +kernel
theorem dX11_raise_18 : decode cX11_raise 18 = .ok (.iload_n 3, 1) := by decide +kernel
theorem dX11_raise_19 : decode cX11_raise 19 = .ok (.bipush 20, 2) := by decide +kernel
theorem dX11_raise_21 : decode cX11_raise 21 = .ok (.if_icmp .le 5, 3) := by decide +kernel
theorem dX11_raise_24 : decode cX11_raise 24 = .ok (.iconst (-1), 1) := by decide +kernel
theorem dX11_raise_25 : decode cX11_raise 25 = .ok (.ireturn, 1) := by decide +kernel
theorem dX11_raise_26 : decode cX11_raise 26 = .ok (.aload_n 0, 1) := by decide +kernel
theorem dX11_raise_27 : decode cX11_raise 27 = .ok (.getfield 44, 3) := by decide +kernel
theorem dX11_raise_30 : decode cX11_raise 30 = .ok (.invokevirtual 254, 3) := by decide +kernel
theorem dX11_raise_33 : decode cX11_raise 33 = .ok (.aload_n 0, 1) := by decide +kernel
theorem dX11_raise_34 : decode cX11_raise 34 = .ok (.getfield 53, 3) := by decide +kernel
theorem dX11_raise_37 : decode cX11_raise 37 = .ok (.iload_n 2, 1) := by decide +kernel
theorem dX11_raise_38 : decode cX11_raise 38 = .ok (.iload_n 3, 1) := by decide +kernel
theorem dX11_raise_39 : decode cX11_raise 39 = .ok (.invokevirtual 275, 3) := by decide +kernel
theorem dX11_raise_42 : decode cX11_raise 42 = .ok (.aload_n 0, 1) := by decide +kernel
theorem dX11_raise_43 : decode cX11_raise 43 = .ok (.getfield 44, 3) := by decide +kernel
theorem dX11_raise_46 : decode cX11_raise 46 = .ok (.getfield 265, 3) := by decide +kernel
theorem dX11_raise_49 : decode cX11_raise 49 = .ok (.ifCond .eq 8, 3) := by decide +kernel
theorem dX11_raise_52 : decode cX11_raise 52 = .ok (.bipush (-3), 2) := by decide +kernel
theorem dX11_raise_54 : decode cX11_raise 54 = .ok (.goto 9, 3) := by decide +kernel
theorem dX11_raise_57 : decode cX11_raise 57 = .ok (.aload_n 0, 1) := by decide +kernel
theorem dX11_raise_58 : decode cX11_raise 58 = .ok (.iload_n 1, 1) := by decide +kernel
theorem dX11_raise_59 : decode cX11_raise 59 = .ok (.iconst 1, 1) := by decide +kernel
theorem dX11_raise_60 : decode cX11_raise 60 = .ok (.invokevirtual 243, 3) := by decide +kernel
theorem dX11_raise_63 : decode cX11_raise 63 = .ok (.ireturn, 1) := by decide +kernel
theorem dX11_storeReckoned_0 : decode cX11_storeReckoned 0 = .ok (.aload_n 0, 1) := by decide +kernel
theorem dX11_storeReckoned_1 : decode cX11_storeReckoned 1 = .ok (.invokevirtual 188, 3) := by decide +kernel
theorem dX11_storeReckoned_4 : decode cX11_storeReckoned 4 = .ok (.aload_n 0, 1) := by decide +kernel
theorem dX11_storeReckoned_5 : decode cX11_storeReckoned 5 = .ok (.getfield 53, 3) := by decide +kernel
theorem dX11_storeReckoned_8 : decode cX11_storeReckoned 8 = .ok (.iload_n 1, 1) := by decide +kernel
theorem dX11_storeReckoned_9 : decode cX11_storeReckoned 9 = .ok (.invokevirtual 278, 3) := by decide +kernel
theorem dX11_storeReckoned_12 : decode cX11_storeReckoned 12 = .ok (.iload_n 2, 1) := by decide +kernel
theorem dX11_storeReckoned_13 : decode cX11_storeReckoned 13 = .ok (.ireturn, 1) := by decide +kernel
theorem dX11_value_0 : decode cX11_value 0 = .ok (.iload_n 1, 1) := by decide +kernel
theorem dX11_value_1 : decode cX11_value 1 = .ok (.invokestatic 237, 3) := by decide +kernel
theorem dX11_value_4 : decode cX11_value 4 = .ok (.ifCond .eq 15, 3) := by decide +kernel
theorem dX11_value_7 : decode cX11_value 7 = .ok (.aload_n 0, 1) := by decide +kernel
theorem dX11_value_8 : decode cX11_value 8 = .ok (.getfield 21, 3) := by decide +kernel
theorem dX11_value_11 : decode cX11_value 11 = .ok (.iload_n 2, 1) := by decide +kernel
theorem dX11_value_12 : decode cX11_value 12 = .ok (.iload_n 3, 1) := by decide +kernel
theorem dX11_value_13 : decode cX11_value 13 = .ok (.invokevirtual 126, 3) := by decide +kernel
theorem dX11_value_16 : decode cX11_value 16 = .ok (.ifCond .ne 7, 3) := by decide +kernel
theorem dX11_value_19 : decode cX11_value 19 = .ok (.ldc2_w 281, 3) := by decide +kernel
theorem dX11_value_22 : decode cX11_value 22 = .ok (.lreturn, 1) := by decide +kernel
theorem dX11_value_23 : decode cX11_value 23 = .ok (.aload_n 0, 1) := by decide +kernel
theorem dX11_value_24 : decode cX11_value 24 = .ok (.getfield 53, 3) := by decide +kernel
theorem dX11_value_27 : decode cX11_value 27 = .ok (.iload_n 1, 1) := by decide +kernel
theorem dX11_value_28 : decode cX11_value 28 = .ok (.iload_n 2, 1) := by decide +kernel
theorem dX11_value_29 : decode cX11_value 29 = .ok (.iload_n 3, 1) := by decide +kernel
theorem dX11_value_30 : decode cX11_value 30 = .ok (.invokevirtual 246, 3) := by decide +kernel
theorem dX11_value_33 : decode cX11_value 33 = .ok (.lreturn, 1) := by decide +kernel
theorem dX11_same_0 : decode cX11_same 0 = .ok (.iload_n 1, 1) := by decide +kernel
theorem dX11_same_1 : decode cX11_same 1 = .ok (.invokestatic 237, 3) := by decide +kernel
theorem dX11_same_4 : decode cX11_same 4 = .ok (.ifCond .eq 10, 3) := by decide +kernel
theorem dX11_same_7 : decode cX11_same 7 = .ok (.iload_n 2, 1) := by decide +kernel
theorem dX11_same_8 : decode cX11_same 8 = .ok (.invokestatic 237, 3) := by decide +kernel
theorem dX11_same_11 : decode cX11_same 11 = .ok (.ifCond .ne 5, 3) := by decide +kernel
theorem dX11_same_14 : decode cX11_same 14 = .ok (.iconst (-1), 1) := by decide +kernel
theorem dX11_same_15 : decode cX11_same 15 = .ok (.ireturn, 1) := by decide +kernel
theorem dX11_same_16 : decode cX11_same 16 = .ok (.iconst 0, 1) := by decide +kernel
theorem dX11_same_17 : decode cX11_same 17 = .ok (.istore_n 3, 1) := by decide +kernel
theorem dX11_same_18 : decode cX11_same 18 = .ok (.iload_n 3, 1) := by decide +kernel
theorem dX11_same_19 : decode cX11_same 19 = .ok (.sipush 256, 3) := by decide +kernel
theorem dX11_same_22 : decode cX11_same 22 = .ok (.if_icmp .ge 45, 3) := by decide +kernel
theorem dX11_same_25 : decode cX11_same 25 = .ok (.aload_n 0, 1) := by decide +kernel
theorem dX11_same_26 : decode cX11_same 26 = .ok (.getfield 53, 3) := by decide +kernel
theorem dX11_same_29 : decode cX11_same 29 = .ok (.getfield 220, 3) := by decide +kernel
theorem dX11_same_32 : decode cX11_same 32 = .ok (.iload_n 1, 1) := by decide +kernel
theorem dX11_same_33 : decode cX11_same 33 = .ok (.sipush 256, 3) := by decide +kernel
theorem dX11_same_36 : decode cX11_same 36 = .ok (.imul, 1) := by decide +kernel
theorem dX11_same_37 : decode cX11_same 37 = .ok (.iload_n 3, 1) := by decide +kernel
theorem dX11_same_38 : decode cX11_same 38 = .ok (.iadd, 1) := by decide +kernel
theorem dX11_same_39 : decode cX11_same 39 = .ok (.laload, 1) := by decide +kernel
theorem dX11_same_40 : decode cX11_same 40 = .ok (.aload_n 0, 1) := by decide +kernel
theorem dX11_same_41 : decode cX11_same 41 = .ok (.getfield 53, 3) := by decide +kernel
theorem dX11_same_44 : decode cX11_same 44 = .ok (.getfield 220, 3) := by decide +kernel
theorem dX11_same_47 : decode cX11_same 47 = .ok (.iload_n 2, 1) := by decide +kernel
theorem dX11_same_48 : decode cX11_same 48 = .ok (.sipush 256, 3) := by decide +kernel
theorem dX11_same_51 : decode cX11_same 51 = .ok (.imul, 1) := by decide +kernel
theorem dX11_same_52 : decode cX11_same 52 = .ok (.iload_n 3, 1) := by decide +kernel
theorem dX11_same_53 : decode cX11_same 53 = .ok (.iadd, 1) := by decide +kernel
theorem dX11_same_54 : decode cX11_same 54 = .ok (.laload, 1) := by decide +kernel
theorem dX11_same_55 : decode cX11_same 55 = .ok (.lcmp, 1) := by decide +kernel
theorem dX11_same_56 : decode cX11_same 56 = .ok (.ifCond .eq 5, 3) := by decide +kernel
theorem dX11_same_59 : decode cX11_same 59 = .ok (.iconst 0, 1) := by decide +kernel
theorem dX11_same_60 : decode cX11_same 60 = .ok (.ireturn, 1) := by decide +kernel
theorem dX11_same_61 : decode cX11_same 61 = .ok (.iinc 3 1, 3) := by decide +kernel
theorem dX11_same_64 : decode cX11_same 64 = .ok (.goto (-46), 3) := by decide +kernel
theorem dX11_same_67 : decode cX11_same 67 = .ok (.iconst 1, 1) := by decide +kernel
theorem dX11_same_68 : decode cX11_same 68 = .ok (.ireturn, 1) := by decide +kernel
theorem dX11_about_0 : decode cX11_about 0 = .ok (.aload_n 0, 1) := by decide +kernel
theorem dX11_about_1 : decode cX11_about 1 = .ok (.getfield 21, 3) := by decide +kernel
theorem dX11_about_4 : decode cX11_about 4 = .ok (.iload_n 1, 1) := by decide +kernel
theorem dX11_about_5 : decode cX11_about 5 = .ok (.invokevirtual 118, 3) := by decide +kernel
theorem dX11_about_8 : decode cX11_about 8 = .ok (.ifCond .ne 5, 3) := by decide +kernel
theorem dX11_about_11 : decode cX11_about 11 = .ok (.iconst (-1), 1) := by decide +kernel
theorem dX11_about_12 : decode cX11_about 12 = .ok (.ireturn, 1) := by decide +kernel
theorem dX11_about_13 : decode cX11_about 13 = .ok (.iload_n 2, 1) := by decide +kernel
theorem dX11_about_14 : decode cX11_about 14 = .ok (.tableswitch 113 0 5 #[38, 47, 56, 66, 76, 86], 38) := by decide +kernel
theorem dX11_about_52 : decode cX11_about 52 = .ok (.aload_n 0, 1) := by decide +kernel
theorem dX11_about_53 : decode cX11_about 53 = .ok (.getfield 21, 3) := by decide +kernel
theorem dX11_about_56 : decode cX11_about 56 = .ok (.iload_n 1, 1) := by decide +kernel
theorem dX11_about_57 : decode cX11_about 57 = .ok (.invokevirtual 283, 3) := by decide +kernel
theorem dX11_about_60 : decode cX11_about 60 = .ok (.ireturn, 1) := by decide +kernel
theorem dX11_about_61 : decode cX11_about 61 = .ok (.aload_n 0, 1) := by decide +kernel
theorem dX11_about_62 : decode cX11_about 62 = .ok (.getfield 21, 3) := by decide +kernel
theorem dX11_about_65 : decode cX11_about 65 = .ok (.iload_n 1, 1) := by decide +kernel
theorem dX11_about_66 : decode cX11_about 66 = .ok (.invokevirtual 287, 3) := by decide +kernel
theorem dX11_about_69 : decode cX11_about 69 = .ok (.ireturn, 1) := by decide +kernel
theorem dX11_about_70 : decode cX11_about 70 = .ok (.aload_n 0, 1) := by decide +kernel
theorem dX11_about_71 : decode cX11_about 71 = .ok (.getfield 21, 3) := by decide +kernel
theorem dX11_about_74 : decode cX11_about 74 = .ok (.getfield 142, 3) := by decide +kernel
theorem dX11_about_77 : decode cX11_about 77 = .ok (.iload_n 1, 1) := by decide +kernel
theorem dX11_about_78 : decode cX11_about 78 = .ok (.iaload, 1) := by decide +kernel
theorem dX11_about_79 : decode cX11_about 79 = .ok (.ireturn, 1) := by decide +kernel
theorem dX11_about_80 : decode cX11_about 80 = .ok (.aload_n 0, 1) := by decide +kernel
theorem dX11_about_81 : decode cX11_about 81 = .ok (.getfield 21, 3) := by decide +kernel
theorem dX11_about_84 : decode cX11_about 84 = .ok (.getfield 290, 3) := by decide +kernel
theorem dX11_about_87 : decode cX11_about 87 = .ok (.iload_n 1, 1) := by decide +kernel
theorem dX11_about_88 : decode cX11_about 88 = .ok (.iaload, 1) := by decide +kernel
theorem dX11_about_89 : decode cX11_about 89 = .ok (.ireturn, 1) := by decide +kernel
theorem dX11_about_90 : decode cX11_about 90 = .ok (.aload_n 0, 1) := by decide +kernel
theorem dX11_about_91 : decode cX11_about 91 = .ok (.getfield 21, 3) := by decide +kernel
theorem dX11_about_94 : decode cX11_about 94 = .ok (.getfield 293, 3) := by decide +kernel
theorem dX11_about_97 : decode cX11_about 97 = .ok (.iload_n 1, 1) := by decide +kernel
theorem dX11_about_98 : decode cX11_about 98 = .ok (.iaload, 1) := by decide +kernel
theorem dX11_about_99 : decode cX11_about 99 = .ok (.ireturn, 1) := by decide +kernel
theorem dX11_about_100 : decode cX11_about 100 = .ok (.aload_n 0, 1) := by decide +kernel
theorem dX11_about_101 : decode cX11_about 101 = .ok (.getfield 66, 3) := by decide +kernel
theorem dX11_about_104 : decode cX11_about 104 = .ok (.getfield 225, 3) := by decide +kernel
theorem dX11_about_107 : decode cX11_about 107 = .ok (.iload_n 1, 1) := by decide +kernel
theorem dX11_about_108 : decode cX11_about 108 = .ok (.iaload, 1) := by decide +kernel
theorem dX11_about_109 : decode cX11_about 109 = .ok (.ifCond .ge 8, 3) := by decide +kernel
theorem dX11_about_112 : decode cX11_about 112 = .ok (.bipush (-2), 2) := by decide +kernel
theorem dX11_about_114 : decode cX11_about 114 = .ok (.goto 12, 3) := by decide +kernel
theorem dX11_about_117 : decode cX11_about 117 = .ok (.aload_n 0, 1) := by decide +kernel
theorem dX11_about_118 : decode cX11_about 118 = .ok (.getfield 66, 3) := by decide +kernel
theorem dX11_about_121 : decode cX11_about 121 = .ok (.getfield 225, 3) := by decide +kernel
theorem dX11_about_124 : decode cX11_about 124 = .ok (.iload_n 1, 1) := by decide +kernel
theorem dX11_about_125 : decode cX11_about 125 = .ok (.iaload, 1) := by decide +kernel
theorem dX11_about_126 : decode cX11_about 126 = .ok (.ireturn, 1) := by decide +kernel
theorem dX11_about_127 : decode cX11_about 127 = .ok (.iconst (-1), 1) := by decide +kernel
theorem dX11_about_128 : decode cX11_about 128 = .ok (.ireturn, 1) := by decide +kernel
theorem dX11_bound_0 : decode cX11_bound 0 = .ok (.aload_n 0, 1) := by decide +kernel
theorem dX11_bound_1 : decode cX11_bound 1 = .ok (.getfield 21, 3) := by decide +kernel
theorem dX11_bound_4 : decode cX11_bound 4 = .ok (.iload_n 1, 1) := by decide +kernel
theorem dX11_bound_5 : decode cX11_bound 5 = .ok (.invokevirtual 118, 3) := by decide +kernel
theorem dX11_bound_8 : decode cX11_bound 8 = .ok (.ifCond .eq 14, 3) := by decide +kernel
theorem dX11_bound_11 : decode cX11_bound 11 = .ok (.aload_n 0, 1) := by decide +kernel
theorem dX11_bound_12 : decode cX11_bound 12 = .ok (.getfield 21, 3) := by decide +kernel
theorem dX11_bound_15 : decode cX11_bound 15 = .ok (.iload_n 2, 1) := by decide +kernel
theorem dX11_bound_16 : decode cX11_bound 16 = .ok (.invokevirtual 118, 3) := by decide +kernel
theorem dX11_bound_19 : decode cX11_bound 19 = .ok (.ifCond .ne 5, 3) := by decide +kernel
theorem dX11_bound_22 : decode cX11_bound 22 = .ok (.iconst (-1), 1) := by decide +kernel
theorem dX11_bound_23 : decode cX11_bound 23 = .ok (.ireturn, 1) := by decide +kernel
theorem dX11_bound_24 : decode cX11_bound 24 = .ok (.iload_n 3, 1) := by decide +kernel
theorem dX11_bound_25 : decode cX11_bound 25 = .ok (.tableswitch 87 0 2 #[27, 52, 77], 27) := by decide +kernel
theorem dX11_bound_52 : decode cX11_bound 52 = .ok (.aload_n 0, 1) := by decide +kernel
theorem dX11_bound_53 : decode cX11_bound 53 = .ok (.getfield 21, 3) := by decide +kernel
theorem dX11_bound_56 : decode cX11_bound 56 = .ok (.aload_n 0, 1) := by decide +kernel
theorem dX11_bound_57 : decode cX11_bound 57 = .ok (.getfield 21, 3) := by decide +kernel
theorem dX11_bound_60 : decode cX11_bound 60 = .ok (.iload_n 1, 1) := by decide +kernel
theorem dX11_bound_61 : decode cX11_bound 61 = .ok (.invokevirtual 287, 3) := by decide +kernel
theorem dX11_bound_64 : decode cX11_bound 64 = .ok (.aload_n 0, 1) := by decide +kernel
theorem dX11_bound_65 : decode cX11_bound 65 = .ok (.getfield 21, 3) := by decide +kernel
theorem dX11_bound_68 : decode cX11_bound 68 = .ok (.iload_n 2, 1) := by decide +kernel
theorem dX11_bound_69 : decode cX11_bound 69 = .ok (.invokevirtual 287, 3) := by decide +kernel
theorem dX11_bound_72 : decode cX11_bound 72 = .ok (.iand, 1) := by decide +kernel
theorem dX11_bound_73 : decode cX11_bound 73 = .ok (.invokevirtual 296, 3) := by decide +kernel
theorem dX11_bound_76 : decode cX11_bound 76 = .ok (.ireturn, 1) := by decide +kernel
theorem dX11_bound_77 : decode cX11_bound 77 = .ok (.aload_n 0, 1) := by decide +kernel
theorem dX11_bound_78 : decode cX11_bound 78 = .ok (.getfield 21, 3) := by decide +kernel
theorem dX11_bound_81 : decode cX11_bound 81 = .ok (.aload_n 0, 1) := by decide +kernel
theorem dX11_bound_82 : decode cX11_bound 82 = .ok (.getfield 21, 3) := by decide +kernel
theorem dX11_bound_85 : decode cX11_bound 85 = .ok (.iload_n 1, 1) := by decide +kernel
theorem dX11_bound_86 : decode cX11_bound 86 = .ok (.invokevirtual 283, 3) := by decide +kernel
theorem dX11_bound_89 : decode cX11_bound 89 = .ok (.aload_n 0, 1) := by decide +kernel
theorem dX11_bound_90 : decode cX11_bound 90 = .ok (.getfield 21, 3) := by decide +kernel
theorem dX11_bound_93 : decode cX11_bound 93 = .ok (.iload_n 2, 1) := by decide +kernel
theorem dX11_bound_94 : decode cX11_bound 94 = .ok (.invokevirtual 283, 3) := by decide +kernel
theorem dX11_bound_97 : decode cX11_bound 97 = .ok (.iand, 1) := by decide +kernel
theorem dX11_bound_98 : decode cX11_bound 98 = .ok (.invokevirtual 299, 3) := by decide +kernel
theorem dX11_bound_101 : decode cX11_bound 101 = .ok (.ireturn, 1) := by decide +kernel
theorem dX11_bound_102 : decode cX11_bound 102 = .ok (.aload_n 0, 1) := by decide +kernel
theorem dX11_bound_103 : decode cX11_bound 103 = .ok (.getfield 21, 3) := by decide +kernel
theorem dX11_bound_106 : decode cX11_bound 106 = .ok (.iload_n 1, 1) := by decide +kernel
theorem dX11_bound_107 : decode cX11_bound 107 = .ok (.iload_n 2, 1) := by decide +kernel
theorem dX11_bound_108 : decode cX11_bound 108 = .ok (.invokevirtual 156, 3) := by decide +kernel
theorem dX11_bound_111 : decode cX11_bound 111 = .ok (.ireturn, 1) := by decide +kernel
theorem dX11_bound_112 : decode cX11_bound 112 = .ok (.iconst (-1), 1) := by decide +kernel
theorem dX11_bound_113 : decode cX11_bound 113 = .ok (.ireturn, 1) := by decide +kernel
theorem dX11_count_0 : decode cX11_count 0 = .ok (.iload_n 1, 1) := by decide +kernel
theorem dX11_count_1 : decode cX11_count 1 = .ok (.tableswitch 248 0 14 #[75, 83, 98, 113, 121, 137, 153, 161, 184, 192, 200, 205, 220, 235, 240], 75) := by decide +kernel
theorem dX11_count_76 : decode cX11_count 76 = .ok (.aload_n 0, 1) := by decide +kernel
theorem dX11_count_77 : decode cX11_count 77 = .ok (.getfield 21, 3) := by decide +kernel
theorem dX11_count_80 : decode cX11_count 80 = .ok (.getfield 129, 3) := by decide +kernel
theorem dX11_count_83 : decode cX11_count 83 = .ok (.ireturn, 1) := by decide +kernel
theorem dX11_count_84 : decode cX11_count 84 = .ok (.aload_n 0, 1) := by decide +kernel
theorem dX11_count_85 : decode cX11_count 85 = .ok (.getfield 21, 3) := by decide +kernel
theorem dX11_count_88 : decode cX11_count 88 = .ok (.aload_n 0, 1) := by decide +kernel
theorem dX11_count_89 : decode cX11_count 89 = .ok (.getfield 21, 3) := by decide +kernel
theorem dX11_count_92 : decode cX11_count 92 = .ok (.getfield 130, 3) := by decide +kernel
theorem dX11_count_95 : decode cX11_count 95 = .ok (.invokevirtual 145, 3) := by decide +kernel
theorem dX11_count_98 : decode cX11_count 98 = .ok (.ireturn, 1) := by decide +kernel
theorem dX11_count_99 : decode cX11_count 99 = .ok (.aload_n 0, 1) := by decide +kernel
theorem dX11_count_100 : decode cX11_count 100 = .ok (.getfield 21, 3) := by decide +kernel
theorem dX11_count_103 : decode cX11_count 103 = .ok (.aload_n 0, 1) := by decide +kernel
theorem dX11_count_104 : decode cX11_count 104 = .ok (.getfield 21, 3) := by decide +kernel
theorem dX11_count_107 : decode cX11_count 107 = .ok (.getfield 142, 3) := by decide +kernel
theorem dX11_count_110 : decode cX11_count 110 = .ok (.invokevirtual 145, 3) := by decide +kernel
theorem dX11_count_113 : decode cX11_count 113 = .ok (.ireturn, 1) := by decide +kernel
theorem dX11_count_114 : decode cX11_count 114 = .ok (.aload_n 0, 1) := by decide +kernel
theorem dX11_count_115 : decode cX11_count 115 = .ok (.getfield 21, 3) := by decide +kernel
theorem dX11_count_118 : decode cX11_count 118 = .ok (.invokevirtual 302, 3) := by decide +kernel
theorem dX11_count_121 : decode cX11_count 121 = .ok (.ireturn, 1) := by decide +kernel
theorem dX11_count_122 : decode cX11_count 122 = .ok (.aload_n 0, 1) := by decide +kernel
theorem dX11_count_123 : decode cX11_count 123 = .ok (.getfield 21, 3) := by decide +kernel
theorem dX11_count_126 : decode cX11_count 126 = .ok (.invokevirtual 305, 3) := by decide +kernel
theorem dX11_count_129 : decode cX11_count 129 = .ok (.ifCond .eq 7, 3) := by decide +kernel
theorem dX11_count_132 : decode cX11_count 132 = .ok (.iconst 1, 1) := by decide +kernel
theorem dX11_count_133 : decode cX11_count 133 = .ok (.goto 4, 3) := by decide +kernel
theorem dX11_count_136 : decode cX11_count 136 = .ok (.iconst 0, 1) := by decide +kernel
theorem dX11_count_137 : decode cX11_count 137 = .ok (.ireturn, 1) := by decide +kernel
theorem dX11_count_138 : decode cX11_count 138 = .ok (.aload_n 0, 1) := by decide +kernel
theorem dX11_count_139 : decode cX11_count 139 = .ok (.getfield 21, 3) := by decide +kernel
theorem dX11_count_142 : decode cX11_count 142 = .ok (.invokevirtual 309, 3) := by decide +kernel
theorem dX11_count_145 : decode cX11_count 145 = .ok (.ifCond .eq 7, 3) := by decide +kernel
theorem dX11_count_148 : decode cX11_count 148 = .ok (.iconst 1, 1) := by decide +kernel
theorem dX11_count_149 : decode cX11_count 149 = .ok (.goto 4, 3) := by decide +kernel
theorem dX11_count_152 : decode cX11_count 152 = .ok (.iconst 0, 1) := by decide +kernel
theorem dX11_count_153 : decode cX11_count 153 = .ok (.ireturn, 1) := by decide +kernel
theorem dX11_count_154 : decode cX11_count 154 = .ok (.aload_n 0, 1) := by decide +kernel
theorem dX11_count_155 : decode cX11_count 155 = .ok (.getfield 82, 3) := by decide +kernel
theorem dX11_count_158 : decode cX11_count 158 = .ok (.invokevirtual 312, 3) := by decide +kernel
theorem dX11_count_161 : decode cX11_count 161 = .ok (.ireturn, 1) := by decide +kernel
theorem dX11_count_162 : decode cX11_count 162 = .ok (.aload_n 0, 1) := by decide +kernel
theorem dX11_count_163 : decode cX11_count 163 = .ok (.getfield 21, 3) := by decide +kernel
theorem dX11_count_166 : decode cX11_count 166 = .ok (.getfield 129, 3) := by decide +kernel
theorem dX11_count_169 : decode cX11_count 169 = .ok (.aload_n 0, 1) := by decide +kernel
theorem dX11_count_170 : decode cX11_count 170 = .ok (.getfield 21, 3) := by decide +kernel
theorem dX11_count_173 : decode cX11_count 173 = .ok (.aload_n 0, 1) := by decide +kernel
theorem dX11_count_174 : decode cX11_count 174 = .ok (.getfield 21, 3) := by decide +kernel
theorem dX11_count_177 : decode cX11_count 177 = .ok (.getfield 130, 3) := by decide +kernel
theorem dX11_count_180 : decode cX11_count 180 = .ok (.invokevirtual 145, 3) := by decide +kernel
theorem dX11_count_183 : decode cX11_count 183 = .ok (.iadd, 1) := by decide +kernel
theorem dX11_count_184 : decode cX11_count 184 = .ok (.ireturn, 1) := by decide +kernel
theorem dX11_count_185 : decode cX11_count 185 = .ok (.aload_n 0, 1) := by decide +kernel
theorem dX11_count_186 : decode cX11_count 186 = .ok (.getfield 96, 3) := by decide +kernel
theorem dX11_count_189 : decode cX11_count 189 = .ok (.getfield 236, 3) := by decide +kernel
theorem dX11_count_192 : decode cX11_count 192 = .ok (.ireturn, 1) := by decide +kernel
theorem dX11_count_193 : decode cX11_count 193 = .ok (.aload_n 0, 1) := by decide +kernel
theorem dX11_count_194 : decode cX11_count 194 = .ok (.getfield 14, 3) := by decide +kernel
theorem dX11_count_197 : decode cX11_count 197 = .ok (.getfield 103, 3) := by decide +kernel
theorem dX11_count_200 : decode cX11_count 200 = .ok (.ireturn, 1) := by decide +kernel
theorem dX11_count_201 : decode cX11_count 201 = .ok (.aload_n 0, 1) := by decide +kernel
theorem dX11_count_202 : decode cX11_count 202 = .ok (.getfield 179, 3) := by decide +kernel
theorem dX11_count_205 : decode cX11_count 205 = .ok (.ireturn, 1) := by decide +kernel
theorem dX11_count_206 : decode cX11_count 206 = .ok (.aload_n 0, 1) := by decide +kernel
theorem dX11_count_207 : decode cX11_count 207 = .ok (.getfield 21, 3) := by decide +kernel
theorem dX11_count_210 : decode cX11_count 210 = .ok (.aload_n 0, 1) := by decide +kernel
theorem dX11_count_211 : decode cX11_count 211 = .ok (.getfield 21, 3) := by decide +kernel
theorem dX11_count_214 : decode cX11_count 214 = .ok (.getfield 315, 3) := by decide +kernel
theorem dX11_count_217 : decode cX11_count 217 = .ok (.invokevirtual 318, 3) := by decide +kernel
theorem dX11_count_220 : decode cX11_count 220 = .ok (.ireturn, 1) := by decide +kernel
theorem dX11_count_221 : decode cX11_count 221 = .ok (.aload_n 0, 1) := by decide +kernel
theorem dX11_count_222 : decode cX11_count 222 = .ok (.getfield 21, 3) := by decide +kernel
theorem dX11_count_225 : decode cX11_count 225 = .ok (.aload_n 0, 1) := by decide +kernel
theorem dX11_count_226 : decode cX11_count 226 = .ok (.getfield 21, 3) := by decide +kernel
theorem dX11_count_229 : decode cX11_count 229 = .ok (.getfield 130, 3) := by decide +kernel
theorem dX11_count_232 : decode cX11_count 232 = .ok (.invokevirtual 318, 3) := by decide +kernel
theorem dX11_count_235 : decode cX11_count 235 = .ok (.ireturn, 1) := by decide +kernel
theorem dX11_count_236 : decode cX11_count 236 = .ok (.aload_n 0, 1) := by decide +kernel
theorem dX11_count_237 : decode cX11_count 237 = .ok (.invokevirtual 321, 3) := by decide +kernel
theorem dX11_count_240 : decode cX11_count 240 = .ok (.ireturn, 1) := by decide +kernel
theorem dX11_count_241 : decode cX11_count 241 = .ok (.aload_n 0, 1) := by decide +kernel
theorem dX11_count_242 : decode cX11_count 242 = .ok (.getfield 89, 3) := by decide +kernel
theorem dX11_count_245 : decode cX11_count 245 = .ok (.invokevirtual 324, 3) := by decide +kernel
theorem dX11_count_248 : decode cX11_count 248 = .ok (.ireturn, 1) := by decide +kernel
theorem dX11_count_249 : decode cX11_count 249 = .ok (.iconst (-1), 1) := by decide +kernel
theorem dX11_count_250 : decode cX11_count 250 = .ok (.ireturn, 1) := by decide +kernel
theorem dX11_chains_0 : decode cX11_chains 0 = .ok (.aload_n 0, 1) := by decide +kernel
theorem dX11_chains_1 : decode cX11_chains 1 = .ok (.getfield 21, 3) := by decide +kernel
theorem dX11_chains_4 : decode cX11_chains 4 = .ok (.iload_n 1, 1) := by decide +kernel
theorem dX11_chains_5 : decode cX11_chains 5 = .ok (.invokevirtual 118, 3) := by decide +kernel
theorem dX11_chains_8 : decode cX11_chains 8 = .ok (.ifCond .eq 26, 3) := by decide +kernel
theorem dX11_chains_11 : decode cX11_chains 11 = .ok (.aload_n 0, 1) := by decide +kernel
theorem dX11_chains_12 : decode cX11_chains 12 = .ok (.getfield 21, 3) := by decide +kernel
theorem dX11_chains_15 : decode cX11_chains 15 = .ok (.iload_n 2, 1) := by decide +kernel
theorem dX11_chains_16 : decode cX11_chains 16 = .ok (.invokevirtual 118, 3) := by decide +kernel
theorem dX11_chains_19 : decode cX11_chains 19 = .ok (.ifCond .eq 15, 3) := by decide +kernel
theorem dX11_chains_22 : decode cX11_chains 22 = .ok (.iload_n 3, 1) := by decide +kernel
theorem dX11_chains_23 : decode cX11_chains 23 = .ok (.bipush (-2), 2) := by decide +kernel
theorem dX11_chains_25 : decode cX11_chains 25 = .ok (.if_icmp .lt 9, 3) := by decide +kernel
theorem dX11_chains_28 : decode cX11_chains 28 = .ok (.iload_n 3, 1) := by decide +kernel
theorem dX11_chains_29 : decode cX11_chains 29 = .ok (.bipush 15, 2) := by decide +kernel
theorem dX11_chains_31 : decode cX11_chains 31 = .ok (.if_icmp .le 7, 3) := by decide +kernel
theorem dX11_chains_34 : decode cX11_chains 34 = .ok (.ldc2_w 327, 3) := by decide +kernel
theorem dX11_chains_37 : decode cX11_chains 37 = .ok (.lreturn, 1) := by decide +kernel
theorem dX11_chains_38 : decode cX11_chains 38 = .ok (.iload_n 3, 1) := by decide +kernel
theorem dX11_chains_39 : decode cX11_chains 39 = .ok (.iconst (-1), 1) := by decide +kernel
theorem dX11_chains_40 : decode cX11_chains 40 = .ok (.if_icmp .ne 21, 3) := by decide +kernel
theorem dX11_chains_43 : decode cX11_chains 43 = .ok (.aload_n 0, 1) := by decide +kernel
theorem dX11_chains_44 : decode cX11_chains 44 = .ok (.getfield 75, 3) := by decide +kernel
theorem dX11_chains_47 : decode cX11_chains 47 = .ok (.iload_n 1, 1) := by decide +kernel
theorem dX11_chains_48 : decode cX11_chains 48 = .ok (.iload_n 2, 1) := by decide +kernel
theorem dX11_chains_49 : decode cX11_chains 49 = .ok (.aload_n 0, 1) := by decide +kernel
theorem dX11_chains_50 : decode cX11_chains 50 = .ok (.getfield 21, 3) := by decide +kernel
theorem dX11_chains_53 : decode cX11_chains 53 = .ok (.getfield 315, 3) := by decide +kernel
theorem dX11_chains_56 : decode cX11_chains 56 = .ok (.iconst 1, 1) := by decide +kernel
theorem dX11_chains_57 : decode cX11_chains 57 = .ok (.invokevirtual 329, 3) := by decide +kernel
theorem dX11_chains_60 : decode cX11_chains 60 = .ok (.lreturn, 1) := by decide +kernel
theorem dX11_chains_61 : decode cX11_chains 61 = .ok (.iload_n 3, 1) := by decide +kernel
theorem dX11_chains_62 : decode cX11_chains 62 = .ok (.bipush (-2), 2) := by decide +kernel
theorem dX11_chains_64 : decode cX11_chains 64 = .ok (.if_icmp .ne 21, 3) := by decide +kernel
theorem dX11_chains_67 : decode cX11_chains 67 = .ok (.aload_n 0, 1) := by decide +kernel
theorem dX11_chains_68 : decode cX11_chains 68 = .ok (.getfield 75, 3) := by decide +kernel
theorem dX11_chains_71 : decode cX11_chains 71 = .ok (.iload_n 1, 1) := by decide +kernel
theorem dX11_chains_72 : decode cX11_chains 72 = .ok (.iload_n 2, 1) := by decide +kernel
theorem dX11_chains_73 : decode cX11_chains 73 = .ok (.aload_n 0, 1) := by decide +kernel
theorem dX11_chains_74 : decode cX11_chains 74 = .ok (.getfield 21, 3) := by decide +kernel
theorem dX11_chains_77 : decode cX11_chains 77 = .ok (.getfield 290, 3) := by decide +kernel
theorem dX11_chains_80 : decode cX11_chains 80 = .ok (.iconst 1, 1) := by decide +kernel
theorem dX11_chains_81 : decode cX11_chains 81 = .ok (.invokevirtual 329, 3) := by decide +kernel
theorem dX11_chains_84 : decode cX11_chains 84 = .ok (.lreturn, 1) := by decide +kernel
theorem dX11_chains_85 : decode cX11_chains 85 = .ok (.aload_n 0, 1) := by decide +kernel
theorem dX11_chains_86 : decode cX11_chains 86 = .ok (.getfield 75, 3) := by decide +kernel
theorem dX11_chains_89 : decode cX11_chains 89 = .ok (.iload_n 1, 1) := by decide +kernel
theorem dX11_chains_90 : decode cX11_chains 90 = .ok (.iload_n 2, 1) := by decide +kernel
theorem dX11_chains_91 : decode cX11_chains 91 = .ok (.iload_n 3, 1) := by decide +kernel
theorem dX11_chains_92 : decode cX11_chains 92 = .ok (.invokevirtual 333, 3) := by decide +kernel
theorem dX11_chains_95 : decode cX11_chains 95 = .ok (.lreturn, 1) := by decide +kernel
theorem dX11_moebius_0 : decode cX11_moebius 0 = .ok (.aload_n 0, 1) := by decide +kernel
theorem dX11_moebius_1 : decode cX11_moebius 1 = .ok (.getfield 21, 3) := by decide +kernel
theorem dX11_moebius_4 : decode cX11_moebius 4 = .ok (.iload_n 1, 1) := by decide +kernel
theorem dX11_moebius_5 : decode cX11_moebius 5 = .ok (.iload_n 2, 1) := by decide +kernel
theorem dX11_moebius_6 : decode cX11_moebius 6 = .ok (.invokevirtual 126, 3) := by decide +kernel
theorem dX11_moebius_9 : decode cX11_moebius 9 = .ok (.ifCond .ne 7, 3) := by decide +kernel
theorem dX11_moebius_12 : decode cX11_moebius 12 = .ok (.ldc2_w 281, 3) := by decide +kernel
theorem dX11_moebius_15 : decode cX11_moebius 15 = .ok (.lreturn, 1) := by decide +kernel
theorem dX11_moebius_16 : decode cX11_moebius 16 = .ok (.iload_n 3, 1) := by decide +kernel
theorem dX11_moebius_17 : decode cX11_moebius 17 = .ok (.tableswitch 122 0 3 #[31, 50, 69, 87], 31) := by decide +kernel
theorem dX11_moebius_48 : decode cX11_moebius 48 = .ok (.aload_n 0, 1) := by decide +kernel
theorem dX11_moebius_49 : decode cX11_moebius 49 = .ok (.getfield 21, 3) := by decide +kernel
theorem dX11_moebius_52 : decode cX11_moebius 52 = .ok (.iload_n 1, 1) := by decide +kernel
theorem dX11_moebius_53 : decode cX11_moebius 53 = .ok (.aload_n 0, 1) := by decide +kernel
theorem dX11_moebius_54 : decode cX11_moebius 54 = .ok (.getfield 100, 3) := by decide +kernel
theorem dX11_moebius_57 : decode cX11_moebius 57 = .ok (.invokevirtual 336, 3) := by decide +kernel
theorem dX11_moebius_60 : decode cX11_moebius 60 = .ok (.aload_n 0, 1) := by decide +kernel
theorem dX11_moebius_61 : decode cX11_moebius 61 = .ok (.getfield 100, 3) := by decide +kernel
theorem dX11_moebius_64 : decode cX11_moebius 64 = .ok (.iload_n 2, 1) := by decide +kernel
theorem dX11_moebius_65 : decode cX11_moebius 65 = .ok (.laload, 1) := by decide +kernel
theorem dX11_moebius_66 : decode cX11_moebius 66 = .ok (.lreturn, 1) := by decide +kernel
theorem dX11_moebius_67 : decode cX11_moebius 67 = .ok (.aload_n 0, 1) := by decide +kernel
theorem dX11_moebius_68 : decode cX11_moebius 68 = .ok (.getfield 21, 3) := by decide +kernel
theorem dX11_moebius_71 : decode cX11_moebius 71 = .ok (.iload_n 2, 1) := by decide +kernel
theorem dX11_moebius_72 : decode cX11_moebius 72 = .ok (.aload_n 0, 1) := by decide +kernel
theorem dX11_moebius_73 : decode cX11_moebius 73 = .ok (.getfield 100, 3) := by decide +kernel
theorem dX11_moebius_76 : decode cX11_moebius 76 = .ok (.invokevirtual 340, 3) := by decide +kernel
theorem dX11_moebius_79 : decode cX11_moebius 79 = .ok (.aload_n 0, 1) := by decide +kernel
theorem dX11_moebius_80 : decode cX11_moebius 80 = .ok (.getfield 100, 3) := by decide +kernel
theorem dX11_moebius_83 : decode cX11_moebius 83 = .ok (.iload_n 1, 1) := by decide +kernel
theorem dX11_moebius_84 : decode cX11_moebius 84 = .ok (.laload, 1) := by decide +kernel
theorem dX11_moebius_85 : decode cX11_moebius 85 = .ok (.lreturn, 1) := by decide +kernel
theorem dX11_moebius_86 : decode cX11_moebius 86 = .ok (.aload_n 0, 1) := by decide +kernel
theorem dX11_moebius_87 : decode cX11_moebius 87 = .ok (.getfield 75, 3) := by decide +kernel
theorem dX11_moebius_90 : decode cX11_moebius 90 = .ok (.iload_n 1, 1) := by decide +kernel
theorem dX11_moebius_91 : decode cX11_moebius 91 = .ok (.iload_n 2, 1) := by decide +kernel
theorem dX11_moebius_92 : decode cX11_moebius 92 = .ok (.aload_n 0, 1) := by decide +kernel
theorem dX11_moebius_93 : decode cX11_moebius 93 = .ok (.getfield 21, 3) := by decide +kernel
theorem dX11_moebius_96 : decode cX11_moebius 96 = .ok (.getfield 315, 3) := by decide +kernel
theorem dX11_moebius_99 : decode cX11_moebius 99 = .ok (.iconst (-1), 1) := by decide +kernel
theorem dX11_moebius_100 : decode cX11_moebius 100 = .ok (.invokevirtual 329, 3) := by decide +kernel
theorem dX11_moebius_103 : decode cX11_moebius 103 = .ok (.lreturn, 1) := by decide +kernel
theorem dX11_moebius_104 : decode cX11_moebius 104 = .ok (.aload_n 0, 1) := by decide +kernel
theorem dX11_moebius_105 : decode cX11_moebius 105 = .ok (.getfield 21, 3) := by decide +kernel
theorem dX11_moebius_108 : decode cX11_moebius 108 = .ok (.aload_n 0, 1) := by decide +kernel
theorem dX11_moebius_109 : decode cX11_moebius 109 = .ok (.getfield 21, 3) := by decide +kernel
theorem dX11_moebius_112 : decode cX11_moebius 112 = .ok (.iload_n 1, 1) := by decide +kernel
theorem dX11_moebius_113 : decode cX11_moebius 113 = .ok (.iload_n 2, 1) := by decide +kernel
theorem dX11_moebius_114 : decode cX11_moebius 114 = .ok (.invokevirtual 156, 3) := by decide +kernel
theorem dX11_moebius_117 : decode cX11_moebius 117 = .ok (.invokevirtual 343, 3) := by decide +kernel
theorem dX11_moebius_120 : decode cX11_moebius 120 = .ok (.ifCond .eq 15, 3) := by decide +kernel
theorem dX11_moebius_123 : decode cX11_moebius 123 = .ok (.aload_n 0, 1) := by decide +kernel
theorem dX11_moebius_124 : decode cX11_moebius 124 = .ok (.getfield 75, 3) := by decide +kernel
theorem dX11_moebius_127 : decode cX11_moebius 127 = .ok (.iload_n 1, 1) := by decide +kernel
theorem dX11_moebius_128 : decode cX11_moebius 128 = .ok (.iload_n 2, 1) := by decide +kernel
theorem dX11_moebius_129 : decode cX11_moebius 129 = .ok (.invokevirtual 346, 3) := by decide +kernel
theorem dX11_moebius_132 : decode cX11_moebius 132 = .ok (.goto 6, 3) := by decide +kernel
theorem dX11_moebius_135 : decode cX11_moebius 135 = .ok (.ldc2_w 281, 3) := by decide +kernel
theorem dX11_moebius_138 : decode cX11_moebius 138 = .ok (.lreturn, 1) := by decide +kernel
theorem dX11_moebius_139 : decode cX11_moebius 139 = .ok (.ldc2_w 281, 3) := by decide +kernel
theorem dX11_moebius_142 : decode cX11_moebius 142 = .ok (.lreturn, 1) := by decide +kernel
theorem dX11_multichains_0 : decode cX11_multichains 0 = .ok (.aload_n 0, 1) := by decide +kernel
theorem dX11_multichains_1 : decode cX11_multichains 1 = .ok (.getfield 21, 3) := by decide +kernel
theorem dX11_multichains_4 : decode cX11_multichains 4 = .ok (.iload_n 1, 1) := by decide +kernel
theorem dX11_multichains_5 : decode cX11_multichains 5 = .ok (.iload_n 2, 1) := by decide +kernel
theorem dX11_multichains_6 : decode cX11_multichains 6 = .ok (.invokevirtual 126, 3) := by decide +kernel
theorem dX11_multichains_9 : decode cX11_multichains 9 = .ok (.ifCond .eq 13, 3) := by decide +kernel
theorem dX11_multichains_12 : decode cX11_multichains 12 = .ok (.iload_n 3, 1) := by decide +kernel
theorem dX11_multichains_13 : decode cX11_multichains 13 = .ok (.ifCond .lt 9, 3) := by decide +kernel
theorem dX11_multichains_16 : decode cX11_multichains 16 = .ok (.iload_n 3, 1) := by decide +kernel
theorem dX11_multichains_17 : decode cX11_multichains 17 = .ok (.bipush 30, 2) := by decide +kernel
theorem dX11_multichains_19 : decode cX11_multichains 19 = .ok (.if_icmp .le 7, 3) := by decide +kernel
theorem dX11_multichains_22 : decode cX11_multichains 22 = .ok (.ldc2_w 327, 3) := by decide +kernel
theorem dX11_multichains_25 : decode cX11_multichains 25 = .ok (.lreturn, 1) := by decide +kernel
theorem dX11_multichains_26 : decode cX11_multichains 26 = .ok (.aload_n 0, 1) := by decide +kernel
theorem dX11_multichains_27 : decode cX11_multichains 27 = .ok (.getfield 75, 3) := by decide +kernel
theorem dX11_multichains_30 : decode cX11_multichains 30 = .ok (.iload_n 1, 1) := by decide +kernel
theorem dX11_multichains_31 : decode cX11_multichains 31 = .ok (.iload_n 2, 1) := by decide +kernel
theorem dX11_multichains_32 : decode cX11_multichains 32 = .ok (.iload_n 3, 1) := by decide +kernel
theorem dX11_multichains_33 : decode cX11_multichains 33 = .ok (.invokevirtual 350, 3) := by decide +kernel
theorem dX11_multichains_36 : decode cX11_multichains 36 = .ok (.lreturn, 1) := by decide +kernel
theorem dX11_sets_0 : decode cX11_sets 0 = .ok (.iload_n 1, 1) := by decide +kernel
theorem dX11_sets_1 : decode cX11_sets 1 = .ok (.tableswitch 73 0 2 #[27, 35, 43], 27) := by decide +kernel
theorem dX11_sets_28 : decode cX11_sets 28 = .ok (.aload_n 0, 1) := by decide +kernel
theorem dX11_sets_29 : decode cX11_sets 29 = .ok (.getfield 89, 3) := by decide +kernel
theorem dX11_sets_32 : decode cX11_sets 32 = .ok (.invokevirtual 353, 3) := by decide +kernel
theorem dX11_sets_35 : decode cX11_sets 35 = .ok (.lreturn, 1) := by decide +kernel
theorem dX11_sets_36 : decode cX11_sets 36 = .ok (.aload_n 0, 1) := by decide +kernel
theorem dX11_sets_37 : decode cX11_sets 37 = .ok (.getfield 89, 3) := by decide +kernel
theorem dX11_sets_40 : decode cX11_sets 40 = .ok (.invokevirtual 357, 3) := by decide +kernel
theorem dX11_sets_43 : decode cX11_sets 43 = .ok (.lreturn, 1) := by decide +kernel
theorem dX11_sets_44 : decode cX11_sets 44 = .ok (.iload_n 2, 1) := by decide +kernel
theorem dX11_sets_45 : decode cX11_sets 45 = .ok (.ifCond .lt 25, 3) := by decide +kernel
theorem dX11_sets_48 : decode cX11_sets 48 = .ok (.iload_n 2, 1) := by decide +kernel
theorem dX11_sets_49 : decode cX11_sets 49 = .ok (.aload_n 0, 1) := by decide +kernel
theorem dX11_sets_50 : decode cX11_sets 50 = .ok (.getfield 21, 3) := by decide +kernel
theorem dX11_sets_53 : decode cX11_sets 53 = .ok (.getfield 129, 3) := by decide +kernel
theorem dX11_sets_56 : decode cX11_sets 56 = .ok (.if_icmp .gt 14, 3) := by decide +kernel
theorem dX11_sets_59 : decode cX11_sets 59 = .ok (.aload_n 0, 1) := by decide +kernel
theorem dX11_sets_60 : decode cX11_sets 60 = .ok (.getfield 89, 3) := by decide +kernel
theorem dX11_sets_63 : decode cX11_sets 63 = .ok (.iload_n 2, 1) := by decide +kernel
theorem dX11_sets_64 : decode cX11_sets 64 = .ok (.invokevirtual 360, 3) := by decide +kernel
theorem dX11_sets_67 : decode cX11_sets 67 = .ok (.goto 6, 3) := by decide +kernel
theorem dX11_sets_70 : decode cX11_sets 70 = .ok (.ldc2_w 327, 3) := by decide +kernel
theorem dX11_sets_73 : decode cX11_sets 73 = .ok (.lreturn, 1) := by decide +kernel
theorem dX11_sets_74 : decode cX11_sets 74 = .ok (.ldc2_w 327, 3) := by decide +kernel
theorem dX11_sets_77 : decode cX11_sets 77 = .ok (.lreturn, 1) := by decide +kernel
theorem dX11_type_0 : decode cX11_type 0 = .ok (.aload_n 0, 1) := by decide +kernel
theorem dX11_type_1 : decode cX11_type 1 = .ok (.getfield 82, 3) := by decide +kernel
theorem dX11_type_4 : decode cX11_type 4 = .ok (.invokevirtual 364, 3) := by decide +kernel
theorem dX11_type_7 : decode cX11_type 7 = .ok (.aload_n 0, 1) := by decide +kernel
theorem dX11_type_8 : decode cX11_type 8 = .ok (.getfield 21, 3) := by decide +kernel
theorem dX11_type_11 : decode cX11_type 11 = .ok (.iload_n 1, 1) := by decide +kernel
theorem dX11_type_12 : decode cX11_type 12 = .ok (.iload_n 2, 1) := by decide +kernel
theorem dX11_type_13 : decode cX11_type 13 = .ok (.invokevirtual 126, 3) := by decide +kernel
theorem dX11_type_16 : decode cX11_type 16 = .ok (.ifCond .eq 15, 3) := by decide +kernel
theorem dX11_type_19 : decode cX11_type 19 = .ok (.aload_n 0, 1) := by decide +kernel
theorem dX11_type_20 : decode cX11_type 20 = .ok (.getfield 82, 3) := by decide +kernel
theorem dX11_type_23 : decode cX11_type 23 = .ok (.iload_n 1, 1) := by decide +kernel
theorem dX11_type_24 : decode cX11_type 24 = .ok (.iload_n 2, 1) := by decide +kernel
theorem dX11_type_25 : decode cX11_type 25 = .ok (.invokevirtual 367, 3) := by decide +kernel
theorem dX11_type_28 : decode cX11_type 28 = .ok (.goto 4, 3) := by decide +kernel
theorem dX11_type_31 : decode cX11_type 31 = .ok (.iconst (-1), 1) := by decide +kernel
theorem dX11_type_32 : decode cX11_type 32 = .ok (.ireturn, 1) := by decide +kernel
theorem dX11_split_0 : decode cX11_split 0 = .ok (.aload_n 0, 1) := by decide +kernel
theorem dX11_split_1 : decode cX11_split 1 = .ok (.getfield 82, 3) := by decide +kernel
theorem dX11_split_4 : decode cX11_split 4 = .ok (.invokevirtual 364, 3) := by decide +kernel
theorem dX11_split_7 : decode cX11_split 7 = .ok (.aload_n 0, 1) := by decide +kernel
theorem dX11_split_8 : decode cX11_split 8 = .ok (.getfield 82, 3) := by decide +kernel
theorem dX11_split_11 : decode cX11_split 11 = .ok (.iload_n 1, 1) := by decide +kernel
theorem dX11_split_12 : decode cX11_split 12 = .ok (.invokevirtual 370, 3) := by decide +kernel
theorem dX11_split_15 : decode cX11_split 15 = .ok (.ifCond .eq 25, 3) := by decide +kernel
theorem dX11_split_18 : decode cX11_split 18 = .ok (.aload_n 0, 1) := by decide +kernel
theorem dX11_split_19 : decode cX11_split 19 = .ok (.getfield 82, 3) := by decide +kernel
theorem dX11_split_22 : decode cX11_split 22 = .ok (.iload_n 2, 1) := by decide +kernel
theorem dX11_split_23 : decode cX11_split 23 = .ok (.invokevirtual 370, 3) := by decide +kernel
theorem dX11_split_26 : decode cX11_split 26 = .ok (.ifCond .eq 14, 3) := by decide +kernel
theorem dX11_split_29 : decode cX11_split 29 = .ok (.aload_n 0, 1) := by decide +kernel
theorem dX11_split_30 : decode cX11_split 30 = .ok (.getfield 82, 3) := by decide +kernel
theorem dX11_split_33 : decode cX11_split 33 = .ok (.iload_n 3, 1) := by decide +kernel
theorem dX11_split_34 : decode cX11_split 34 = .ok (.invokevirtual 370, 3) := by decide +kernel
theorem dX11_split_37 : decode cX11_split 37 = .ok (.ifCond .ne 5, 3) := by decide +kernel
theorem dX11_split_40 : decode cX11_split 40 = .ok (.iconst (-1), 1) := by decide +kernel
theorem dX11_split_41 : decode cX11_split 41 = .ok (.ireturn, 1) := by decide +kernel
theorem dX11_split_42 : decode cX11_split 42 = .ok (.aload_n 0, 1) := by decide +kernel
theorem dX11_split_43 : decode cX11_split 43 = .ok (.getfield 82, 3) := by decide +kernel
theorem dX11_split_46 : decode cX11_split 46 = .ok (.iload_n 1, 1) := by decide +kernel
theorem dX11_split_47 : decode cX11_split 47 = .ok (.iload_n 2, 1) := by decide +kernel
theorem dX11_split_48 : decode cX11_split 48 = .ok (.iload_n 3, 1) := by decide +kernel
theorem dX11_split_49 : decode cX11_split 49 = .ok (.invokevirtual 373, 3) := by decide +kernel
theorem dX11_split_52 : decode cX11_split 52 = .ok (.ireturn, 1) := by decide +kernel
theorem dX11_reduced_0 : decode cX11_reduced 0 = .ok (.aload_n 0, 1) := by decide +kernel
theorem dX11_reduced_1 : decode cX11_reduced 1 = .ok (.getfield 82, 3) := by decide +kernel
theorem dX11_reduced_4 : decode cX11_reduced 4 = .ok (.invokevirtual 364, 3) := by decide +kernel
theorem dX11_reduced_7 : decode cX11_reduced 7 = .ok (.iload_n 1, 1) := by decide +kernel
theorem dX11_reduced_8 : decode cX11_reduced 8 = .ok (.invokestatic 237, 3) := by decide +kernel
theorem dX11_reduced_11 : decode cX11_reduced 11 = .ok (.ifCond .eq 22, 3) := by decide +kernel
theorem dX11_reduced_14 : decode cX11_reduced 14 = .ok (.aload_n 0, 1) := by decide +kernel
theorem dX11_reduced_15 : decode cX11_reduced 15 = .ok (.getfield 82, 3) := by decide +kernel
theorem dX11_reduced_18 : decode cX11_reduced 18 = .ok (.iload_n 2, 1) := by decide +kernel
theorem dX11_reduced_19 : decode cX11_reduced 19 = .ok (.invokevirtual 370, 3) := by decide +kernel
theorem dX11_reduced_22 : decode cX11_reduced 22 = .ok (.ifCond .eq 11, 3) := by decide +kernel
theorem dX11_reduced_25 : decode cX11_reduced 25 = .ok (.aload_n 0, 1) := by decide +kernel
theorem dX11_reduced_26 : decode cX11_reduced 26 = .ok (.iload_n 1, 1) := by decide +kernel
theorem dX11_reduced_27 : decode cX11_reduced 27 = .ok (.invokevirtual 376, 3) := by decide +kernel
theorem dX11_reduced_30 : decode cX11_reduced 30 = .ok (.ifCond .ne 7, 3) := by decide +kernel
theorem dX11_reduced_33 : decode cX11_reduced 33 = .ok (.ldc2_w 281, 3) := by decide +kernel
theorem dX11_reduced_36 : decode cX11_reduced 36 = .ok (.lreturn, 1) := by decide +kernel
theorem dX11_reduced_37 : decode cX11_reduced 37 = .ok (.aload_n 0, 1) := by decide +kernel
theorem dX11_reduced_38 : decode cX11_reduced 38 = .ok (.getfield 53, 3) := by decide +kernel
theorem dX11_reduced_41 : decode cX11_reduced 41 = .ok (.iload_n 1, 1) := by decide +kernel
theorem dX11_reduced_42 : decode cX11_reduced 42 = .ok (.aload_n 0, 1) := by decide +kernel
theorem dX11_reduced_43 : decode cX11_reduced 43 = .ok (.getfield 82, 3) := by decide +kernel
theorem dX11_reduced_46 : decode cX11_reduced 46 = .ok (.getfield 379, 3) := by decide +kernel
theorem dX11_reduced_49 : decode cX11_reduced 49 = .ok (.iload_n 2, 1) := by decide +kernel
theorem dX11_reduced_50 : decode cX11_reduced 50 = .ok (.iaload, 1) := by decide +kernel
theorem dX11_reduced_51 : decode cX11_reduced 51 = .ok (.aload_n 0, 1) := by decide +kernel
theorem dX11_reduced_52 : decode cX11_reduced 52 = .ok (.getfield 82, 3) := by decide +kernel
theorem dX11_reduced_55 : decode cX11_reduced 55 = .ok (.getfield 382, 3) := by decide +kernel
theorem dX11_reduced_58 : decode cX11_reduced 58 = .ok (.iload_n 2, 1) := by decide +kernel
theorem dX11_reduced_59 : decode cX11_reduced 59 = .ok (.iaload, 1) := by decide +kernel
theorem dX11_reduced_60 : decode cX11_reduced 60 = .ok (.invokevirtual 246, 3) := by decide +kernel
theorem dX11_reduced_63 : decode cX11_reduced 63 = .ok (.lreturn, 1) := by decide +kernel
theorem dX11_isReduced_0 : decode cX11_isReduced 0 = .ok (.iconst 0, 1) := by decide +kernel
theorem dX11_isReduced_1 : decode cX11_isReduced 1 = .ok (.istore_n 2, 1) := by decide +kernel
theorem dX11_isReduced_2 : decode cX11_isReduced 2 = .ok (.iload_n 2, 1) := by decide +kernel
theorem dX11_isReduced_3 : decode cX11_isReduced 3 = .ok (.aload_n 0, 1) := by decide +kernel
theorem dX11_isReduced_4 : decode cX11_isReduced 4 = .ok (.getfield 21, 3) := by decide +kernel
theorem dX11_isReduced_7 : decode cX11_isReduced 7 = .ok (.getfield 129, 3) := by decide +kernel
theorem dX11_isReduced_10 : decode cX11_isReduced 10 = .ok (.if_icmp .ge 99, 3) := by decide +kernel
theorem dX11_isReduced_13 : decode cX11_isReduced 13 = .ok (.iconst 0, 1) := by decide +kernel
theorem dX11_isReduced_14 : decode cX11_isReduced 14 = .ok (.istore_n 3, 1) := by decide +kernel
theorem dX11_isReduced_15 : decode cX11_isReduced 15 = .ok (.iload_n 3, 1) := by decide +kernel
theorem dX11_isReduced_16 : decode cX11_isReduced 16 = .ok (.aload_n 0, 1) := by decide +kernel
theorem dX11_isReduced_17 : decode cX11_isReduced 17 = .ok (.getfield 21, 3) := by decide +kernel
theorem dX11_isReduced_20 : decode cX11_isReduced 20 = .ok (.getfield 129, 3) := by decide +kernel
theorem dX11_isReduced_23 : decode cX11_isReduced 23 = .ok (.if_icmp .ge 80, 3) := by decide +kernel
theorem dX11_isReduced_26 : decode cX11_isReduced 26 = .ok (.aload_n 0, 1) := by decide +kernel
theorem dX11_isReduced_27 : decode cX11_isReduced 27 = .ok (.getfield 21, 3) := by decide +kernel
theorem dX11_isReduced_30 : decode cX11_isReduced 30 = .ok (.iload_n 2, 1) := by decide +kernel
theorem dX11_isReduced_31 : decode cX11_isReduced 31 = .ok (.iload_n 3, 1) := by decide +kernel
theorem dX11_isReduced_32 : decode cX11_isReduced 32 = .ok (.invokevirtual 126, 3) := by decide +kernel
theorem dX11_isReduced_35 : decode cX11_isReduced 35 = .ok (.ifCond .eq 62, 3) := by decide +kernel
theorem dX11_isReduced_38 : decode cX11_isReduced 38 = .ok (.aload_n 0, 1) := by decide +kernel
theorem dX11_isReduced_39 : decode cX11_isReduced 39 = .ok (.getfield 82, 3) := by decide +kernel
theorem dX11_isReduced_42 : decode cX11_isReduced 42 = .ok (.iload_n 2, 1) := by decide +kernel
theorem dX11_isReduced_43 : decode cX11_isReduced 43 = .ok (.iload_n 3, 1) := by decide +kernel
theorem dX11_isReduced_44 : decode cX11_isReduced 44 = .ok (.invokevirtual 367, 3) := by decide +kernel
theorem dX11_isReduced_47 : decode cX11_isReduced 47 = .ok (.istore 4, 2) := by decide +kernel
theorem dX11_isReduced_49 : decode cX11_isReduced 49 = .ok (.aload_n 0, 1) := by decide +kernel
theorem dX11_isReduced_50 : decode cX11_isReduced 50 = .ok (.getfield 53, 3) := by decide +kernel
theorem dX11_isReduced_53 : decode cX11_isReduced 53 = .ok (.iload_n 1, 1) := by decide +kernel
theorem dX11_isReduced_54 : decode cX11_isReduced 54 = .ok (.aload_n 0, 1) := by decide +kernel
theorem dX11_isReduced_55 : decode cX11_isReduced 55 = .ok (.getfield 82, 3) := by decide +kernel
theorem dX11_isReduced_58 : decode cX11_isReduced 58 = .ok (.getfield 379, 3) := by decide +kernel
theorem dX11_isReduced_61 : decode cX11_isReduced 61 = .ok (.iload 4, 2) := by decide +kernel
theorem dX11_isReduced_63 : decode cX11_isReduced 63 = .ok (.iaload, 1) := by decide +kernel
theorem dX11_isReduced_64 : decode cX11_isReduced 64 = .ok (.aload_n 0, 1) := by decide +kernel
theorem dX11_isReduced_65 : decode cX11_isReduced 65 = .ok (.getfield 82, 3) := by decide +kernel
theorem dX11_isReduced_68 : decode cX11_isReduced 68 = .ok (.getfield 382, 3) := by decide +kernel
theorem dX11_isReduced_71 : decode cX11_isReduced 71 = .ok (.iload 4, 2) := by decide +kernel
theorem dX11_isReduced_73 : decode cX11_isReduced 73 = .ok (.iaload, 1) := by decide +kernel
theorem dX11_isReduced_74 : decode cX11_isReduced 74 = .ok (.invokevirtual 246, 3) := by decide +kernel
theorem dX11_isReduced_77 : decode cX11_isReduced 77 = .ok (.lstore 5, 2) := by decide +kernel
theorem dX11_isReduced_79 : decode cX11_isReduced 79 = .ok (.aload_n 0, 1) := by decide +kernel
theorem dX11_isReduced_80 : decode cX11_isReduced 80 = .ok (.getfield 53, 3) := by decide +kernel
theorem dX11_isReduced_83 : decode cX11_isReduced 83 = .ok (.iload_n 1, 1) := by decide +kernel
theorem dX11_isReduced_84 : decode cX11_isReduced 84 = .ok (.iload_n 2, 1) := by decide +kernel
theorem dX11_isReduced_85 : decode cX11_isReduced 85 = .ok (.iload_n 3, 1) := by decide +kernel
theorem dX11_isReduced_86 : decode cX11_isReduced 86 = .ok (.invokevirtual 246, 3) := by decide +kernel
theorem dX11_isReduced_89 : decode cX11_isReduced 89 = .ok (.lload 5, 2) := by decide +kernel
theorem dX11_isReduced_91 : decode cX11_isReduced 91 = .ok (.lcmp, 1) := by decide +kernel
theorem dX11_isReduced_92 : decode cX11_isReduced 92 = .ok (.ifCond .eq 5, 3) := by decide +kernel
theorem dX11_isReduced_95 : decode cX11_isReduced 95 = .ok (.iconst 0, 1) := by decide +kernel
theorem dX11_isReduced_96 : decode cX11_isReduced 96 = .ok (.ireturn, 1) := by decide +kernel
theorem dX11_isReduced_97 : decode cX11_isReduced 97 = .ok (.iinc 3 1, 3) := by decide +kernel
theorem dX11_isReduced_100 : decode cX11_isReduced 100 = .ok (.goto (-85), 3) := by decide +kernel
theorem dX11_isReduced_103 : decode cX11_isReduced 103 = .ok (.iinc 2 1, 3) := by decide +kernel
theorem dX11_isReduced_106 : decode cX11_isReduced 106 = .ok (.goto (-104), 3) := by decide +kernel
theorem dX11_isReduced_109 : decode cX11_isReduced 109 = .ok (.iconst 1, 1) := by decide +kernel
theorem dX11_isReduced_110 : decode cX11_isReduced 110 = .ok (.ireturn, 1) := by decide +kernel
theorem dX11_reducedFunctions_0 : decode cX11_reducedFunctions 0 = .ok (.aload_n 0, 1) := by decide +kernel
theorem dX11_reducedFunctions_1 : decode cX11_reducedFunctions 1 = .ok (.getfield 82, 3) := by decide +kernel
theorem dX11_reducedFunctions_4 : decode cX11_reducedFunctions 4 = .ok (.invokevirtual 364, 3) := by decide +kernel
theorem dX11_reducedFunctions_7 : decode cX11_reducedFunctions 7 = .ok (.iconst 0, 1) := by decide +kernel
theorem dX11_reducedFunctions_8 : decode cX11_reducedFunctions 8 = .ok (.istore_n 1, 1) := by decide +kernel
theorem dX11_reducedFunctions_9 : decode cX11_reducedFunctions 9 = .ok (.iconst 0, 1) := by decide +kernel
theorem dX11_reducedFunctions_10 : decode cX11_reducedFunctions 10 = .ok (.istore_n 2, 1) := by decide +kernel
theorem dX11_reducedFunctions_11 : decode cX11_reducedFunctions 11 = .ok (.iload_n 2, 1) := by decide +kernel
theorem dX11_reducedFunctions_12 : decode cX11_reducedFunctions 12 = .ok (.iconst 4, 1) := by decide +kernel
theorem dX11_reducedFunctions_13 : decode cX11_reducedFunctions 13 = .ok (.if_icmp .ge 23, 3) := by decide +kernel
theorem dX11_reducedFunctions_16 : decode cX11_reducedFunctions 16 = .ok (.aload_n 0, 1) := by decide +kernel
theorem dX11_reducedFunctions_17 : decode cX11_reducedFunctions 17 = .ok (.iload_n 2, 1) := by decide +kernel
theorem dX11_reducedFunctions_18 : decode cX11_reducedFunctions 18 = .ok (.invokevirtual 376, 3) := by decide +kernel
theorem dX11_reducedFunctions_21 : decode cX11_reducedFunctions 21 = .ok (.ifCond .eq 9, 3) := by decide +kernel
theorem dX11_reducedFunctions_24 : decode cX11_reducedFunctions 24 = .ok (.iload_n 1, 1) := by decide +kernel
theorem dX11_reducedFunctions_25 : decode cX11_reducedFunctions 25 = .ok (.iconst 1, 1) := by decide +kernel
theorem dX11_reducedFunctions_26 : decode cX11_reducedFunctions 26 = .ok (.iload_n 2, 1) := by decide +kernel
theorem dX11_reducedFunctions_27 : decode cX11_reducedFunctions 27 = .ok (.ishl, 1) := by decide +kernel
theorem dX11_reducedFunctions_28 : decode cX11_reducedFunctions 28 = .ok (.ior, 1) := by decide +kernel
theorem dX11_reducedFunctions_29 : decode cX11_reducedFunctions 29 = .ok (.istore_n 1, 1) := by decide +kernel
theorem dX11_reducedFunctions_30 : decode cX11_reducedFunctions 30 = .ok (.iinc 2 1, 3) := by decide +kernel
theorem dX11_reducedFunctions_33 : decode cX11_reducedFunctions 33 = .ok (.goto (-22), 3) := by decide +kernel
theorem dX11_reducedFunctions_36 : decode cX11_reducedFunctions 36 = .ok (.iload_n 1, 1) := by decide +kernel
theorem dX11_reducedFunctions_37 : decode cX11_reducedFunctions 37 = .ok (.ireturn, 1) := by decide +kernel
theorem dX11_data_0 : decode cX11_data 0 = .ok (.aload_n 0, 1) := by decide +kernel
theorem dX11_data_1 : decode cX11_data 1 = .ok (.getfield 21, 3) := by decide +kernel
theorem dX11_data_4 : decode cX11_data 4 = .ok (.iload_n 1, 1) := by decide +kernel
theorem dX11_data_5 : decode cX11_data 5 = .ok (.invokevirtual 118, 3) := by decide +kernel
theorem dX11_data_8 : decode cX11_data 8 = .ok (.ifCond .ne 5, 3) := by decide +kernel
theorem dX11_data_11 : decode cX11_data 11 = .ok (.iconst (-1), 1) := by decide +kernel
theorem dX11_data_12 : decode cX11_data 12 = .ok (.ireturn, 1) := by decide +kernel
theorem dX11_data_13 : decode cX11_data 13 = .ok (.aload_n 0, 1) := by decide +kernel
theorem dX11_data_14 : decode cX11_data 14 = .ok (.getfield 57, 3) := by decide +kernel
theorem dX11_data_17 : decode cX11_data 17 = .ok (.iload_n 1, 1) := by decide +kernel
theorem dX11_data_18 : decode cX11_data 18 = .ok (.laload, 1) := by decide +kernel
theorem dX11_data_19 : decode cX11_data 19 = .ok (.lload_n 2, 1) := by decide +kernel
theorem dX11_data_20 : decode cX11_data 20 = .ok (.lcmp, 1) := by decide +kernel
theorem dX11_data_21 : decode cX11_data 21 = .ok (.ifCond .ne 6, 3) := by decide +kernel
theorem dX11_data_24 : decode cX11_data 24 = .ok (.bipush (-2), 2) := by decide +kernel
theorem dX11_data_26 : decode cX11_data 26 = .ok (.ireturn, 1) := by decide +kernel
theorem dX11_data_27 : decode cX11_data 27 = .ok (.aload_n 0, 1) := by decide +kernel
theorem dX11_data_28 : decode cX11_data 28 = .ok (.invokevirtual 188, 3) := by decide +kernel
theorem dX11_data_31 : decode cX11_data 31 = .ok (.aload_n 0, 1) := by decide +kernel
theorem dX11_data_32 : decode cX11_data 32 = .ok (.getfield 57, 3) := by decide +kernel
theorem dX11_data_35 : decode cX11_data 35 = .ok (.iload_n 1, 1) := by decide +kernel
theorem dX11_data_36 : decode cX11_data 36 = .ok (.lload_n 2, 1) := by decide +kernel
theorem dX11_data_37 : decode cX11_data 37 = .ok (.lastore, 1) := by decide +kernel
theorem dX11_data_38 : decode cX11_data 38 = .ok (.iconst 1, 1) := by decide +kernel
theorem dX11_data_39 : decode cX11_data 39 = .ok (.ireturn, 1) := by decide +kernel
theorem dX11_summed_0 : decode cX11_summed 0 = .ok (.aload_n 0, 1) := by decide +kernel
theorem dX11_summed_1 : decode cX11_summed 1 = .ok (.getfield 21, 3) := by decide +kernel
theorem dX11_summed_4 : decode cX11_summed 4 = .ok (.iload_n 1, 1) := by decide +kernel
theorem dX11_summed_5 : decode cX11_summed 5 = .ok (.invokevirtual 118, 3) := by decide +kernel
theorem dX11_summed_8 : decode cX11_summed 8 = .ok (.ifCond .eq 12, 3) := by decide +kernel
theorem dX11_summed_11 : decode cX11_summed 11 = .ok (.iload_n 2, 1) := by decide +kernel
theorem dX11_summed_12 : decode cX11_summed 12 = .ok (.ifCond .lt 8, 3) := by decide +kernel
theorem dX11_summed_15 : decode cX11_summed 15 = .ok (.iload_n 2, 1) := by decide +kernel
theorem dX11_summed_16 : decode cX11_summed 16 = .ok (.iconst 1, 1) := by decide +kernel
theorem dX11_summed_17 : decode cX11_summed 17 = .ok (.if_icmp .le 7, 3) := by decide +kernel
theorem dX11_summed_20 : decode cX11_summed 20 = .ok (.ldc2_w 281, 3) := by decide +kernel
theorem dX11_summed_23 : decode cX11_summed 23 = .ok (.lreturn, 1) := by decide +kernel
theorem dX11_summed_24 : decode cX11_summed 24 = .ok (.iload_n 2, 1) := by decide +kernel
theorem dX11_summed_25 : decode cX11_summed 25 = .ok (.ifCond .ne 14, 3) := by decide +kernel
theorem dX11_summed_28 : decode cX11_summed 28 = .ok (.aload_n 0, 1) := by decide +kernel
theorem dX11_summed_29 : decode cX11_summed 29 = .ok (.getfield 21, 3) := by decide +kernel
theorem dX11_summed_32 : decode cX11_summed 32 = .ok (.iload_n 1, 1) := by decide +kernel
theorem dX11_summed_33 : decode cX11_summed 33 = .ok (.invokevirtual 283, 3) := by decide +kernel
theorem dX11_summed_36 : decode cX11_summed 36 = .ok (.goto 11, 3) := by decide +kernel
theorem dX11_summed_39 : decode cX11_summed 39 = .ok (.aload_n 0, 1) := by decide +kernel
theorem dX11_summed_40 : decode cX11_summed 40 = .ok (.getfield 21, 3) := by decide +kernel
theorem dX11_summed_43 : decode cX11_summed 43 = .ok (.iload_n 1, 1) := by decide +kernel
theorem dX11_summed_44 : decode cX11_summed 44 = .ok (.invokevirtual 287, 3) := by decide +kernel
theorem dX11_summed_47 : decode cX11_summed 47 = .ok (.istore_n 3, 1) := by decide +kernel
theorem dX11_summed_48 : decode cX11_summed 48 = .ok (.aload_n 0, 1) := by decide +kernel
theorem dX11_summed_49 : decode cX11_summed 49 = .ok (.getfield 44, 3) := by decide +kernel
theorem dX11_summed_52 : decode cX11_summed 52 = .ok (.invokevirtual 254, 3) := by decide +kernel
theorem dX11_summed_55 : decode cX11_summed 55 = .ok (.iconst 0, 1) := by decide +kernel
theorem dX11_summed_56 : decode cX11_summed 56 = .ok (.istore 4, 2) := by decide +kernel
theorem dX11_summed_58 : decode cX11_summed 58 = .ok (.iload 4, 2) := by decide +kernel
theorem dX11_summed_60 : decode cX11_summed 60 = .ok (.aload_n 0, 1) := by decide +kernel
theorem dX11_summed_61 : decode cX11_summed 61 = .ok (.getfield 21, 3) := by decide +kernel
theorem dX11_summed_64 : decode cX11_summed 64 = .ok (.getfield 129, 3) := by decide +kernel
theorem dX11_summed_67 : decode cX11_summed 67 = .ok (.if_icmp .ge 33, 3) := by decide +kernel
theorem dX11_summed_70 : decode cX11_summed 70 = .ok (.iload_n 3, 1) := by decide +kernel
theorem dX11_summed_71 : decode cX11_summed 71 = .ok (.iload 4, 2) := by decide +kernel
theorem dX11_summed_73 : decode cX11_summed 73 = .ok (.ishr, 1) := by decide +kernel
theorem dX11_summed_74 : decode cX11_summed 74 = .ok (.iconst 1, 1) := by decide +kernel
theorem dX11_summed_75 : decode cX11_summed 75 = .ok (.iand, 1) := by decide +kernel
theorem dX11_summed_76 : decode cX11_summed 76 = .ok (.iconst 1, 1) := by decide +kernel
theorem dX11_summed_77 : decode cX11_summed 77 = .ok (.if_icmp .ne 17, 3) := by decide +kernel
theorem dX11_summed_80 : decode cX11_summed 80 = .ok (.aload_n 0, 1) := by decide +kernel
theorem dX11_summed_81 : decode cX11_summed 81 = .ok (.getfield 44, 3) := by decide +kernel
theorem dX11_summed_84 : decode cX11_summed 84 = .ok (.aload_n 0, 1) := by decide +kernel
theorem dX11_summed_85 : decode cX11_summed 85 = .ok (.getfield 57, 3) := by decide +kernel
theorem dX11_summed_88 : decode cX11_summed 88 = .ok (.iload 4, 2) := by decide +kernel
theorem dX11_summed_90 : decode cX11_summed 90 = .ok (.laload, 1) := by decide +kernel
theorem dX11_summed_91 : decode cX11_summed 91 = .ok (.invokevirtual 385, 3) := by decide +kernel
theorem dX11_summed_94 : decode cX11_summed 94 = .ok (.iinc 4 1, 3) := by decide +kernel
theorem dX11_summed_97 : decode cX11_summed 97 = .ok (.goto (-39), 3) := by decide +kernel
theorem dX11_summed_100 : decode cX11_summed 100 = .ok (.aload_n 0, 1) := by decide +kernel
theorem dX11_summed_101 : decode cX11_summed 101 = .ok (.getfield 44, 3) := by decide +kernel
theorem dX11_summed_104 : decode cX11_summed 104 = .ok (.getfield 265, 3) := by decide +kernel
theorem dX11_summed_107 : decode cX11_summed 107 = .ok (.ifCond .eq 9, 3) := by decide +kernel
theorem dX11_summed_110 : decode cX11_summed 110 = .ok (.ldc2_w 281, 3) := by decide +kernel
theorem dX11_summed_113 : decode cX11_summed 113 = .ok (.goto 10, 3) := by decide +kernel
theorem dX11_summed_116 : decode cX11_summed 116 = .ok (.aload_n 0, 1) := by decide +kernel
theorem dX11_summed_117 : decode cX11_summed 117 = .ok (.getfield 44, 3) := by decide +kernel
theorem dX11_summed_120 : decode cX11_summed 120 = .ok (.getfield 389, 3) := by decide +kernel
theorem dX11_summed_123 : decode cX11_summed 123 = .ok (.lreturn, 1) := by decide +kernel
theorem dX11_gotBack_0 : decode cX11_gotBack 0 = .ok (.aload_n 0, 1) := by decide +kernel
theorem dX11_gotBack_1 : decode cX11_gotBack 1 = .ok (.getfield 21, 3) := by decide +kernel
theorem dX11_gotBack_4 : decode cX11_gotBack 4 = .ok (.iload_n 1, 1) := by decide +kernel
theorem dX11_gotBack_5 : decode cX11_gotBack 5 = .ok (.invokevirtual 118, 3) := by decide +kernel
theorem dX11_gotBack_8 : decode cX11_gotBack 8 = .ok (.ifCond .eq 12, 3) := by decide +kernel
theorem dX11_gotBack_11 : decode cX11_gotBack 11 = .ok (.iload_n 2, 1) := by decide +kernel
theorem dX11_gotBack_12 : decode cX11_gotBack 12 = .ok (.ifCond .lt 8, 3) := by decide +kernel
theorem dX11_gotBack_15 : decode cX11_gotBack 15 = .ok (.iload_n 2, 1) := by decide +kernel
theorem dX11_gotBack_16 : decode cX11_gotBack 16 = .ok (.iconst 1, 1) := by decide +kernel
theorem dX11_gotBack_17 : decode cX11_gotBack 17 = .ok (.if_icmp .le 7, 3) := by decide +kernel
theorem dX11_gotBack_20 : decode cX11_gotBack 20 = .ok (.ldc2_w 281, 3) := by decide +kernel
theorem dX11_gotBack_23 : decode cX11_gotBack 23 = .ok (.lreturn, 1) := by decide +kernel
theorem dX11_gotBack_24 : decode cX11_gotBack 24 = .ok (.iload_n 2, 1) := by decide +kernel
theorem dX11_gotBack_25 : decode cX11_gotBack 25 = .ok (.ifCond .ne 27, 3) := by decide +kernel
theorem dX11_gotBack_28 : decode cX11_gotBack 28 = .ok (.aload_n 0, 1) := by decide +kernel
theorem dX11_gotBack_29 : decode cX11_gotBack 29 = .ok (.getfield 21, 3) := by decide +kernel
theorem dX11_gotBack_32 : decode cX11_gotBack 32 = .ok (.iload_n 1, 1) := by decide +kernel
theorem dX11_gotBack_33 : decode cX11_gotBack 33 = .ok (.invokevirtual 283, 3) := by decide +kernel
theorem dX11_gotBack_36 : decode cX11_gotBack 36 = .ok (.istore_n 3, 1) := by decide +kernel
theorem dX11_gotBack_37 : decode cX11_gotBack 37 = .ok (.aload_n 0, 1) := by decide +kernel
theorem dX11_gotBack_38 : decode cX11_gotBack 38 = .ok (.getfield 21, 3) := by decide +kernel
theorem dX11_gotBack_41 : decode cX11_gotBack 41 = .ok (.iload_n 1, 1) := by decide +kernel
theorem dX11_gotBack_42 : decode cX11_gotBack 42 = .ok (.aload_n 0, 1) := by decide +kernel
theorem dX11_gotBack_43 : decode cX11_gotBack 43 = .ok (.getfield 100, 3) := by decide +kernel
theorem dX11_gotBack_46 : decode cX11_gotBack 46 = .ok (.invokevirtual 340, 3) := by decide +kernel
theorem dX11_gotBack_49 : decode cX11_gotBack 49 = .ok (.goto 24, 3) := by decide +kernel
theorem dX11_gotBack_52 : decode cX11_gotBack 52 = .ok (.aload_n 0, 1) := by decide +kernel
theorem dX11_gotBack_53 : decode cX11_gotBack 53 = .ok (.getfield 21, 3) := by decide +kernel
theorem dX11_gotBack_56 : decode cX11_gotBack 56 = .ok (.iload_n 1, 1) := by decide +kernel
theorem dX11_gotBack_57 : decode cX11_gotBack 57 = .ok (.invokevirtual 287, 3) := by decide +kernel
theorem dX11_gotBack_60 : decode cX11_gotBack 60 = .ok (.istore_n 3, 1) := by decide +kernel
theorem dX11_gotBack_61 : decode cX11_gotBack 61 = .ok (.aload_n 0, 1) := by decide +kernel
theorem dX11_gotBack_62 : decode cX11_gotBack 62 = .ok (.getfield 21, 3) := by decide +kernel
theorem dX11_gotBack_65 : decode cX11_gotBack 65 = .ok (.iload_n 1, 1) := by decide +kernel
theorem dX11_gotBack_66 : decode cX11_gotBack 66 = .ok (.aload_n 0, 1) := by decide +kernel
theorem dX11_gotBack_67 : decode cX11_gotBack 67 = .ok (.getfield 100, 3) := by decide +kernel
theorem dX11_gotBack_70 : decode cX11_gotBack 70 = .ok (.invokevirtual 336, 3) := by decide +kernel
theorem dX11_gotBack_73 : decode cX11_gotBack 73 = .ok (.aload_n 0, 1) := by decide +kernel
theorem dX11_gotBack_74 : decode cX11_gotBack 74 = .ok (.getfield 44, 3) := by decide +kernel
theorem dX11_gotBack_77 : decode cX11_gotBack 77 = .ok (.invokevirtual 254, 3) := by decide +kernel
theorem dX11_gotBack_80 : decode cX11_gotBack 80 = .ok (.iconst 0, 1) := by decide +kernel
theorem dX11_gotBack_81 : decode cX11_gotBack 81 = .ok (.istore 4, 2) := by decide +kernel
theorem dX11_gotBack_83 : decode cX11_gotBack 83 = .ok (.iload 4, 2) := by decide +kernel
theorem dX11_gotBack_85 : decode cX11_gotBack 85 = .ok (.aload_n 0, 1) := by decide +kernel
theorem dX11_gotBack_86 : decode cX11_gotBack 86 = .ok (.getfield 21, 3) := by decide +kernel
theorem dX11_gotBack_89 : decode cX11_gotBack 89 = .ok (.getfield 129, 3) := by decide +kernel
theorem dX11_gotBack_92 : decode cX11_gotBack 92 = .ok (.if_icmp .ge 40, 3) := by decide +kernel
theorem dX11_gotBack_95 : decode cX11_gotBack 95 = .ok (.iload_n 3, 1) := by decide +kernel
theorem dX11_gotBack_96 : decode cX11_gotBack 96 = .ok (.iload 4, 2) := by decide +kernel
theorem dX11_gotBack_98 : decode cX11_gotBack 98 = .ok (.ishr, 1) := by decide +kernel
theorem dX11_gotBack_99 : decode cX11_gotBack 99 = .ok (.iconst 1, 1) := by decide +kernel
theorem dX11_gotBack_100 : decode cX11_gotBack 100 = .ok (.iand, 1) := by decide +kernel
theorem dX11_gotBack_101 : decode cX11_gotBack 101 = .ok (.iconst 1, 1) := by decide +kernel
theorem dX11_gotBack_102 : decode cX11_gotBack 102 = .ok (.if_icmp .ne 24, 3) := by decide +kernel
theorem dX11_gotBack_105 : decode cX11_gotBack 105 = .ok (.aload_n 0, 1) := by decide +kernel
theorem dX11_gotBack_106 : decode cX11_gotBack 106 = .ok (.getfield 44, 3) := by decide +kernel
theorem dX11_gotBack_109 : decode cX11_gotBack 109 = .ok (.aload_n 0, 1) := by decide +kernel
theorem dX11_gotBack_110 : decode cX11_gotBack 110 = .ok (.getfield 57, 3) := by decide +kernel
theorem dX11_gotBack_113 : decode cX11_gotBack 113 = .ok (.iload 4, 2) := by decide +kernel
theorem dX11_gotBack_115 : decode cX11_gotBack 115 = .ok (.laload, 1) := by decide +kernel
theorem dX11_gotBack_116 : decode cX11_gotBack 116 = .ok (.aload_n 0, 1) := by decide +kernel
theorem dX11_gotBack_117 : decode cX11_gotBack 117 = .ok (.getfield 100, 3) := by decide +kernel
theorem dX11_gotBack_120 : decode cX11_gotBack 120 = .ok (.iload 4, 2) := by decide +kernel
theorem dX11_gotBack_122 : decode cX11_gotBack 122 = .ok (.laload, 1) := by decide +kernel
theorem dX11_gotBack_123 : decode cX11_gotBack 123 = .ok (.invokevirtual 393, 3) := by decide +kernel
theorem dX11_gotBack_126 : decode cX11_gotBack 126 = .ok (.iinc 4 1, 3) := by decide +kernel
theorem dX11_gotBack_129 : decode cX11_gotBack 129 = .ok (.goto (-46), 3) := by decide +kernel
theorem dX11_gotBack_132 : decode cX11_gotBack 132 = .ok (.aload_n 0, 1) := by decide +kernel
theorem dX11_gotBack_133 : decode cX11_gotBack 133 = .ok (.getfield 44, 3) := by decide +kernel
theorem dX11_gotBack_136 : decode cX11_gotBack 136 = .ok (.getfield 265, 3) := by decide +kernel
theorem dX11_gotBack_139 : decode cX11_gotBack 139 = .ok (.ifCond .eq 9, 3) := by decide +kernel
theorem dX11_gotBack_142 : decode cX11_gotBack 142 = .ok (.ldc2_w 281, 3) := by decide +kernel
theorem dX11_gotBack_145 : decode cX11_gotBack 145 = .ok (.goto 10, 3) := by decide +kernel
theorem dX11_gotBack_148 : decode cX11_gotBack 148 = .ok (.aload_n 0, 1) := by decide +kernel
theorem dX11_gotBack_149 : decode cX11_gotBack 149 = .ok (.getfield 44, 3) := by decide +kernel
theorem dX11_gotBack_152 : decode cX11_gotBack 152 = .ok (.getfield 389, 3) := by decide +kernel
theorem dX11_gotBack_155 : decode cX11_gotBack 155 = .ok (.lreturn, 1) := by decide +kernel
theorem dX11_coefficient_0 : decode cX11_coefficient 0 = .ok (.aload_n 0, 1) := by decide +kernel
theorem dX11_coefficient_1 : decode cX11_coefficient 1 = .ok (.getfield 21, 3) := by decide +kernel
theorem dX11_coefficient_4 : decode cX11_coefficient 4 = .ok (.aload_n 0, 1) := by decide +kernel
theorem dX11_coefficient_5 : decode cX11_coefficient 5 = .ok (.getfield 21, 3) := by decide +kernel
theorem dX11_coefficient_8 : decode cX11_coefficient 8 = .ok (.invokevirtual 159, 3) := by decide +kernel
theorem dX11_coefficient_11 : decode cX11_coefficient 11 = .ok (.invokevirtual 296, 3) := by decide +kernel
theorem dX11_coefficient_14 : decode cX11_coefficient 14 = .ok (.istore_n 2, 1) := by decide +kernel
theorem dX11_coefficient_15 : decode cX11_coefficient 15 = .ok (.aload_n 0, 1) := by decide +kernel
theorem dX11_coefficient_16 : decode cX11_coefficient 16 = .ok (.getfield 21, 3) := by decide +kernel
theorem dX11_coefficient_19 : decode cX11_coefficient 19 = .ok (.invokevirtual 302, 3) := by decide +kernel
theorem dX11_coefficient_22 : decode cX11_coefficient 22 = .ok (.istore_n 3, 1) := by decide +kernel
theorem dX11_coefficient_23 : decode cX11_coefficient 23 = .ok (.iload_n 1, 1) := by decide +kernel
theorem dX11_coefficient_24 : decode cX11_coefficient 24 = .ok (.ifCond .lt 22, 3) := by decide +kernel
theorem dX11_coefficient_27 : decode cX11_coefficient 27 = .ok (.iload_n 1, 1) := by decide +kernel
theorem dX11_coefficient_28 : decode cX11_coefficient 28 = .ok (.iload_n 3, 1) := by decide +kernel
theorem dX11_coefficient_29 : decode cX11_coefficient 29 = .ok (.if_icmp .gt 17, 3) := by decide +kernel
theorem dX11_coefficient_32 : decode cX11_coefficient 32 = .ok (.iload_n 2, 1) := by decide +kernel
theorem dX11_coefficient_33 : decode cX11_coefficient 33 = .ok (.ifCond .lt 13, 3) := by decide +kernel
theorem dX11_coefficient_36 : decode cX11_coefficient 36 = .ok (.aload_n 0, 1) := by decide +kernel
theorem dX11_coefficient_37 : decode cX11_coefficient 37 = .ok (.getfield 21, 3) := by decide +kernel
theorem dX11_coefficient_40 : decode cX11_coefficient 40 = .ok (.invokevirtual 305, 3) := by decide +kernel
theorem dX11_coefficient_43 : decode cX11_coefficient 43 = .ok (.ifCond .ne 7, 3) := by decide +kernel
theorem dX11_coefficient_46 : decode cX11_coefficient 46 = .ok (.ldc2_w 281, 3) := by decide +kernel
theorem dX11_coefficient_49 : decode cX11_coefficient 49 = .ok (.lreturn, 1) := by decide +kernel
theorem dX11_coefficient_50 : decode cX11_coefficient 50 = .ok (.iload_n 3, 1) := by decide +kernel
theorem dX11_coefficient_51 : decode cX11_coefficient 51 = .ok (.iload_n 1, 1) := by decide +kernel
theorem dX11_coefficient_52 : decode cX11_coefficient 52 = .ok (.isub, 1) := by decide +kernel
theorem dX11_coefficient_53 : decode cX11_coefficient 53 = .ok (.istore 4, 2) := by decide +kernel
theorem dX11_coefficient_55 : decode cX11_coefficient 55 = .ok (.aload_n 0, 1) := by decide +kernel
theorem dX11_coefficient_56 : decode cX11_coefficient 56 = .ok (.getfield 21, 3) := by decide +kernel
theorem dX11_coefficient_59 : decode cX11_coefficient 59 = .ok (.iload_n 2, 1) := by decide +kernel
theorem dX11_coefficient_60 : decode cX11_coefficient 60 = .ok (.aload_n 0, 1) := by decide +kernel
theorem dX11_coefficient_61 : decode cX11_coefficient 61 = .ok (.getfield 100, 3) := by decide +kernel
theorem dX11_coefficient_64 : decode cX11_coefficient 64 = .ok (.invokevirtual 336, 3) := by decide +kernel
theorem dX11_coefficient_67 : decode cX11_coefficient 67 = .ok (.lconst 0, 1) := by decide +kernel
theorem dX11_coefficient_68 : decode cX11_coefficient 68 = .ok (.lstore 5, 2) := by decide +kernel
theorem dX11_coefficient_70 : decode cX11_coefficient 70 = .ok (.iconst 0, 1) := by decide +kernel
theorem dX11_coefficient_71 : decode cX11_coefficient 71 = .ok (.istore 7, 2) := by decide +kernel
theorem dX11_coefficient_73 : decode cX11_coefficient 73 = .ok (.iload 7, 2) := by decide +kernel
theorem dX11_coefficient_75 : decode cX11_coefficient 75 = .ok (.aload_n 0, 1) := by decide +kernel
theorem dX11_coefficient_76 : decode cX11_coefficient 76 = .ok (.getfield 21, 3) := by decide +kernel
theorem dX11_coefficient_79 : decode cX11_coefficient 79 = .ok (.getfield 129, 3) := by decide +kernel
theorem dX11_coefficient_82 : decode cX11_coefficient 82 = .ok (.if_icmp .ge 36, 3) := by decide +kernel
theorem dX11_coefficient_85 : decode cX11_coefficient 85 = .ok (.aload_n 0, 1) := by decide +kernel
theorem dX11_coefficient_86 : decode cX11_coefficient 86 = .ok (.getfield 21, 3) := by decide +kernel
theorem dX11_coefficient_89 : decode cX11_coefficient 89 = .ok (.getfield 293, 3) := by decide +kernel
theorem dX11_coefficient_92 : decode cX11_coefficient 92 = .ok (.iload 7, 2) := by decide +kernel
theorem dX11_coefficient_94 : decode cX11_coefficient 94 = .ok (.iaload, 1) := by decide +kernel
theorem dX11_coefficient_95 : decode cX11_coefficient 95 = .ok (.iload 4, 2) := by decide +kernel
theorem dX11_coefficient_97 : decode cX11_coefficient 97 = .ok (.if_icmp .ne 15, 3) := by decide +kernel
theorem dX11_coefficient_100 : decode cX11_coefficient 100 = .ok (.lload 5, 2) := by decide +kernel
theorem dX11_coefficient_102 : decode cX11_coefficient 102 = .ok (.aload_n 0, 1) := by decide +kernel
theorem dX11_coefficient_103 : decode cX11_coefficient 103 = .ok (.getfield 100, 3) := by decide +kernel
theorem dX11_coefficient_106 : decode cX11_coefficient 106 = .ok (.iload 7, 2) := by decide +kernel
theorem dX11_coefficient_108 : decode cX11_coefficient 108 = .ok (.laload, 1) := by decide +kernel
theorem dX11_coefficient_109 : decode cX11_coefficient 109 = .ok (.ladd, 1) := by decide +kernel
theorem dX11_coefficient_110 : decode cX11_coefficient 110 = .ok (.lstore 5, 2) := by decide +kernel
theorem dX11_coefficient_112 : decode cX11_coefficient 112 = .ok (.iinc 7 1, 3) := by decide +kernel
theorem dX11_coefficient_115 : decode cX11_coefficient 115 = .ok (.goto (-42), 3) := by decide +kernel
theorem dX11_coefficient_118 : decode cX11_coefficient 118 = .ok (.lload 5, 2) := by decide +kernel
theorem dX11_coefficient_120 : decode cX11_coefficient 120 = .ok (.lreturn, 1) := by decide +kernel
theorem dX11_point_0 : decode cX11_point 0 = .ok (.aload_n 0, 1) := by decide +kernel
theorem dX11_point_1 : decode cX11_point 1 = .ok (.getfield 21, 3) := by decide +kernel
theorem dX11_point_4 : decode cX11_point 4 = .ok (.iload_n 1, 1) := by decide +kernel
theorem dX11_point_5 : decode cX11_point 5 = .ok (.invokevirtual 118, 3) := by decide +kernel
theorem dX11_point_8 : decode cX11_point 8 = .ok (.ifCond .eq 11, 3) := by decide +kernel
theorem dX11_point_11 : decode cX11_point 11 = .ok (.aload_n 0, 1) := by decide +kernel
theorem dX11_point_12 : decode cX11_point 12 = .ok (.iload_n 2, 1) := by decide +kernel
theorem dX11_point_13 : decode cX11_point 13 = .ok (.invokevirtual 397, 3) := by decide +kernel
theorem dX11_point_16 : decode cX11_point 16 = .ok (.ifCond .ne 5, 3) := by decide +kernel
theorem dX11_point_19 : decode cX11_point 19 = .ok (.iconst (-1), 1) := by decide +kernel
theorem dX11_point_20 : decode cX11_point 20 = .ok (.ireturn, 1) := by decide +kernel
theorem dX11_point_21 : decode cX11_point 21 = .ok (.aload_n 0, 1) := by decide +kernel
theorem dX11_point_22 : decode cX11_point 22 = .ok (.getfield 66, 3) := by decide +kernel
theorem dX11_point_25 : decode cX11_point 25 = .ok (.getfield 225, 3) := by decide +kernel
theorem dX11_point_28 : decode cX11_point 28 = .ok (.iload_n 1, 1) := by decide +kernel
theorem dX11_point_29 : decode cX11_point 29 = .ok (.iaload, 1) := by decide +kernel
theorem dX11_point_30 : decode cX11_point 30 = .ok (.iload_n 2, 1) := by decide +kernel
theorem dX11_point_31 : decode cX11_point 31 = .ok (.if_icmp .ne 6, 3) := by decide +kernel
theorem dX11_point_34 : decode cX11_point 34 = .ok (.bipush (-2), 2) := by decide +kernel
theorem dX11_point_36 : decode cX11_point 36 = .ok (.ireturn, 1) := by decide +kernel
theorem dX11_point_37 : decode cX11_point 37 = .ok (.aload_n 0, 1) := by decide +kernel
theorem dX11_point_38 : decode cX11_point 38 = .ok (.invokevirtual 188, 3) := by decide +kernel
theorem dX11_point_41 : decode cX11_point 41 = .ok (.aload_n 0, 1) := by decide +kernel
theorem dX11_point_42 : decode cX11_point 42 = .ok (.getfield 66, 3) := by decide +kernel
theorem dX11_point_45 : decode cX11_point 45 = .ok (.getfield 225, 3) := by decide +kernel
theorem dX11_point_48 : decode cX11_point 48 = .ok (.iload_n 1, 1) := by decide +kernel
theorem dX11_point_49 : decode cX11_point 49 = .ok (.iload_n 2, 1) := by decide +kernel
theorem dX11_point_50 : decode cX11_point 50 = .ok (.iastore, 1) := by decide +kernel
theorem dX11_point_51 : decode cX11_point 51 = .ok (.iconst 1, 1) := by decide +kernel
theorem dX11_point_52 : decode cX11_point 52 = .ok (.ireturn, 1) := by decide +kernel
theorem dX11_isThere_0 : decode cX11_isThere 0 = .ok (.aload_n 0, 1) := by decide +kernel
theorem dX11_isThere_1 : decode cX11_isThere 1 = .ok (.iconst 0, 1) := by decide +kernel
theorem dX11_isThere_2 : decode cX11_isThere 2 = .ok (.invokevirtual 166, 3) := by decide +kernel
theorem dX11_isThere_5 : decode cX11_isThere 5 = .ok (.ifCond .eq 20, 3) := by decide +kernel
theorem dX11_isThere_8 : decode cX11_isThere 8 = .ok (.aload_n 0, 1) := by decide +kernel
theorem dX11_isThere_9 : decode cX11_isThere 9 = .ok (.getfield 37, 3) := by decide +kernel
theorem dX11_isThere_12 : decode cX11_isThere 12 = .ok (.iconst 0, 1) := by decide +kernel
theorem dX11_isThere_13 : decode cX11_isThere 13 = .ok (.aaload, 1) := by decide +kernel
theorem dX11_isThere_14 : decode cX11_isThere 14 = .ok (.iload_n 1, 1) := by decide +kernel
theorem dX11_isThere_15 : decode cX11_isThere 15 = .ok (.invokevirtual 118, 3) := by decide +kernel
theorem dX11_isThere_18 : decode cX11_isThere 18 = .ok (.ifCond .eq 7, 3) := by decide +kernel
theorem dX11_isThere_21 : decode cX11_isThere 21 = .ok (.iconst 1, 1) := by decide +kernel
theorem dX11_isThere_22 : decode cX11_isThere 22 = .ok (.goto 4, 3) := by decide +kernel
theorem dX11_isThere_25 : decode cX11_isThere 25 = .ok (.iconst 0, 1) := by decide +kernel
theorem dX11_isThere_26 : decode cX11_isThere 26 = .ok (.ireturn, 1) := by decide +kernel
theorem dX11_mapped_0 : decode cX11_mapped 0 = .ok (.iload_n 1, 1) := by decide +kernel
theorem dX11_mapped_1 : decode cX11_mapped 1 = .ok (.ifCond .lt 8, 3) := by decide +kernel
theorem dX11_mapped_4 : decode cX11_mapped 4 = .ok (.iload_n 1, 1) := by decide +kernel
theorem dX11_mapped_5 : decode cX11_mapped 5 = .ok (.iconst 2, 1) := by decide +kernel
theorem dX11_mapped_6 : decode cX11_mapped 6 = .ok (.if_icmp .le 5, 3) := by decide +kernel
theorem dX11_mapped_9 : decode cX11_mapped 9 = .ok (.iconst (-1), 1) := by decide +kernel
theorem dX11_mapped_10 : decode cX11_mapped 10 = .ok (.ireturn, 1) := by decide +kernel
theorem dX11_mapped_11 : decode cX11_mapped 11 = .ok (.aload_n 0, 1) := by decide +kernel
theorem dX11_mapped_12 : decode cX11_mapped 12 = .ok (.getfield 66, 3) := by decide +kernel
theorem dX11_mapped_15 : decode cX11_mapped 15 = .ok (.invokevirtual 400, 3) := by decide +kernel
theorem dX11_mapped_18 : decode cX11_mapped 18 = .ok (.istore_n 2, 1) := by decide +kernel
theorem dX11_mapped_19 : decode cX11_mapped 19 = .ok (.iload_n 1, 1) := by decide +kernel
theorem dX11_mapped_20 : decode cX11_mapped 20 = .ok (.ifCond .ne 13, 3) := by decide +kernel
theorem dX11_mapped_23 : decode cX11_mapped 23 = .ok (.iload_n 2, 1) := by decide +kernel
theorem dX11_mapped_24 : decode cX11_mapped 24 = .ok (.ifCond .eq 7, 3) := by decide +kernel
theorem dX11_mapped_27 : decode cX11_mapped 27 = .ok (.iconst 1, 1) := by decide +kernel
theorem dX11_mapped_28 : decode cX11_mapped 28 = .ok (.goto 4, 3) := by decide +kernel
theorem dX11_mapped_31 : decode cX11_mapped 31 = .ok (.iconst 0, 1) := by decide +kernel
theorem dX11_mapped_32 : decode cX11_mapped 32 = .ok (.ireturn, 1) := by decide +kernel
theorem dX11_mapped_33 : decode cX11_mapped 33 = .ok (.iload_n 2, 1) := by decide +kernel
theorem dX11_mapped_34 : decode cX11_mapped 34 = .ok (.ifCond .ne 6, 3) := by decide +kernel
theorem dX11_mapped_37 : decode cX11_mapped 37 = .ok (.bipush (-2), 2) := by decide +kernel
theorem dX11_mapped_39 : decode cX11_mapped 39 = .ok (.ireturn, 1) := by decide +kernel
theorem dX11_mapped_40 : decode cX11_mapped 40 = .ok (.iload_n 1, 1) := by decide +kernel
theorem dX11_mapped_41 : decode cX11_mapped 41 = .ok (.iconst 1, 1) := by decide +kernel
theorem dX11_mapped_42 : decode cX11_mapped 42 = .ok (.if_icmp .ne 13, 3) := by decide +kernel
theorem dX11_mapped_45 : decode cX11_mapped 45 = .ok (.aload_n 0, 1) := by decide +kernel
theorem dX11_mapped_46 : decode cX11_mapped 46 = .ok (.getfield 66, 3) := by decide +kernel
theorem dX11_mapped_49 : decode cX11_mapped 49 = .ok (.invokevirtual 403, 3) := by decide +kernel
theorem dX11_mapped_52 : decode cX11_mapped 52 = .ok (.goto 10, 3) := by decide +kernel
theorem dX11_mapped_55 : decode cX11_mapped 55 = .ok (.aload_n 0, 1) := by decide +kernel
theorem dX11_mapped_56 : decode cX11_mapped 56 = .ok (.getfield 66, 3) := by decide +kernel
theorem dX11_mapped_59 : decode cX11_mapped 59 = .ok (.invokevirtual 406, 3) := by decide +kernel
theorem dX11_mapped_62 : decode cX11_mapped 62 = .ok (.istore_n 3, 1) := by decide +kernel
theorem dX11_mapped_63 : decode cX11_mapped 63 = .ok (.iload_n 3, 1) := by decide +kernel
theorem dX11_mapped_64 : decode cX11_mapped 64 = .ok (.ifCond .eq 7, 3) := by decide +kernel
theorem dX11_mapped_67 : decode cX11_mapped 67 = .ok (.iconst 1, 1) := by decide +kernel
theorem dX11_mapped_68 : decode cX11_mapped 68 = .ok (.goto 4, 3) := by decide +kernel
theorem dX11_mapped_71 : decode cX11_mapped 71 = .ok (.iconst 0, 1) := by decide +kernel
theorem dX11_mapped_72 : decode cX11_mapped 72 = .ok (.ireturn, 1) := by decide +kernel
theorem dX11_adjoint_0 : decode cX11_adjoint 0 = .ok (.aload_n 0, 1) := by decide +kernel
theorem dX11_adjoint_1 : decode cX11_adjoint 1 = .ok (.iload_n 1, 1) := by decide +kernel
theorem dX11_adjoint_2 : decode cX11_adjoint 2 = .ok (.invokevirtual 397, 3) := by decide +kernel
theorem dX11_adjoint_5 : decode cX11_adjoint 5 = .ok (.ifCond .eq 13, 3) := by decide +kernel
theorem dX11_adjoint_8 : decode cX11_adjoint 8 = .ok (.aload_n 0, 1) := by decide +kernel
theorem dX11_adjoint_9 : decode cX11_adjoint 9 = .ok (.getfield 66, 3) := by decide +kernel
theorem dX11_adjoint_12 : decode cX11_adjoint 12 = .ok (.invokevirtual 400, 3) := by decide +kernel
theorem dX11_adjoint_15 : decode cX11_adjoint 15 = .ok (.ifCond .ne 5, 3) := by decide +kernel
theorem dX11_adjoint_18 : decode cX11_adjoint 18 = .ok (.iconst (-1), 1) := by decide +kernel
theorem dX11_adjoint_19 : decode cX11_adjoint 19 = .ok (.ireturn, 1) := by decide +kernel
theorem dX11_adjoint_20 : decode cX11_adjoint 20 = .ok (.aload_n 0, 1) := by decide +kernel
theorem dX11_adjoint_21 : decode cX11_adjoint 21 = .ok (.getfield 66, 3) := by decide +kernel
theorem dX11_adjoint_24 : decode cX11_adjoint 24 = .ok (.iload_n 1, 1) := by decide +kernel
theorem dX11_adjoint_25 : decode cX11_adjoint 25 = .ok (.invokevirtual 409, 3) := by decide +kernel
theorem dX11_adjoint_28 : decode cX11_adjoint 28 = .ok (.ireturn, 1) := by decide +kernel
theorem dX11_side_0 : decode cX11_side 0 = .ok (.aload_n 0, 1) := by decide +kernel
theorem dX11_side_1 : decode cX11_side 1 = .ok (.getfield 21, 3) := by decide +kernel
theorem dX11_side_4 : decode cX11_side 4 = .ok (.iload_n 1, 1) := by decide +kernel
theorem dX11_side_5 : decode cX11_side 5 = .ok (.invokevirtual 118, 3) := by decide +kernel
theorem dX11_side_8 : decode cX11_side 8 = .ok (.ifCond .eq 30, 3) := by decide +kernel
theorem dX11_side_11 : decode cX11_side 11 = .ok (.aload_n 0, 1) := by decide +kernel
theorem dX11_side_12 : decode cX11_side 12 = .ok (.iload_n 2, 1) := by decide +kernel
theorem dX11_side_13 : decode cX11_side 13 = .ok (.invokevirtual 397, 3) := by decide +kernel
theorem dX11_side_16 : decode cX11_side 16 = .ok (.ifCond .eq 22, 3) := by decide +kernel
theorem dX11_side_19 : decode cX11_side 19 = .ok (.iload_n 3, 1) := by decide +kernel
theorem dX11_side_20 : decode cX11_side 20 = .ok (.ifCond .lt 18, 3) := by decide +kernel
theorem dX11_side_23 : decode cX11_side 23 = .ok (.iload_n 3, 1) := by decide +kernel
theorem dX11_side_24 : decode cX11_side 24 = .ok (.iconst 1, 1) := by decide +kernel
theorem dX11_side_25 : decode cX11_side 25 = .ok (.if_icmp .gt 13, 3) := by decide +kernel
theorem dX11_side_28 : decode cX11_side 28 = .ok (.aload_n 0, 1) := by decide +kernel
theorem dX11_side_29 : decode cX11_side 29 = .ok (.getfield 66, 3) := by decide +kernel
theorem dX11_side_32 : decode cX11_side 32 = .ok (.invokevirtual 400, 3) := by decide +kernel
theorem dX11_side_35 : decode cX11_side 35 = .ok (.ifCond .ne 7, 3) := by decide +kernel
theorem dX11_side_38 : decode cX11_side 38 = .ok (.ldc2_w 281, 3) := by decide +kernel
theorem dX11_side_41 : decode cX11_side 41 = .ok (.lreturn, 1) := by decide +kernel
theorem dX11_side_42 : decode cX11_side 42 = .ok (.iload_n 3, 1) := by decide +kernel
theorem dX11_side_43 : decode cX11_side 43 = .ok (.ifCond .ne 17, 3) := by decide +kernel
theorem dX11_side_46 : decode cX11_side 46 = .ok (.aload_n 0, 1) := by decide +kernel
theorem dX11_side_47 : decode cX11_side 47 = .ok (.getfield 66, 3) := by decide +kernel
theorem dX11_side_50 : decode cX11_side 50 = .ok (.iload_n 1, 1) := by decide +kernel
theorem dX11_side_51 : decode cX11_side 51 = .ok (.iload_n 2, 1) := by decide +kernel
theorem dX11_side_52 : decode cX11_side 52 = .ok (.aload_n 0, 1) := by decide +kernel
theorem dX11_side_53 : decode cX11_side 53 = .ok (.getfield 100, 3) := by decide +kernel
theorem dX11_side_56 : decode cX11_side 56 = .ok (.invokevirtual 412, 3) := by decide +kernel
theorem dX11_side_59 : decode cX11_side 59 = .ok (.lreturn, 1) := by decide +kernel
theorem dX11_side_60 : decode cX11_side 60 = .ok (.aload_n 0, 1) := by decide +kernel
theorem dX11_side_61 : decode cX11_side 61 = .ok (.getfield 66, 3) := by decide +kernel
theorem dX11_side_64 : decode cX11_side 64 = .ok (.invokevirtual 406, 3) := by decide +kernel
theorem dX11_side_67 : decode cX11_side 67 = .ok (.ifCond .eq 19, 3) := by decide +kernel
theorem dX11_side_70 : decode cX11_side 70 = .ok (.aload_n 0, 1) := by decide +kernel
theorem dX11_side_71 : decode cX11_side 71 = .ok (.getfield 66, 3) := by decide +kernel
theorem dX11_side_74 : decode cX11_side 74 = .ok (.iload_n 1, 1) := by decide +kernel
theorem dX11_side_75 : decode cX11_side 75 = .ok (.iload_n 2, 1) := by decide +kernel
theorem dX11_side_76 : decode cX11_side 76 = .ok (.aload_n 0, 1) := by decide +kernel
theorem dX11_side_77 : decode cX11_side 77 = .ok (.getfield 100, 3) := by decide +kernel
theorem dX11_side_80 : decode cX11_side 80 = .ok (.invokevirtual 416, 3) := by decide +kernel
theorem dX11_side_83 : decode cX11_side 83 = .ok (.goto 6, 3) := by decide +kernel
theorem dX11_side_86 : decode cX11_side 86 = .ok (.ldc2_w 281, 3) := by decide +kernel
theorem dX11_side_89 : decode cX11_side 89 = .ok (.lreturn, 1) := by decide +kernel

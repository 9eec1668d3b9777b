theorem dX12_init_0 : decode cX12_init 0 = .ok (.aload_n 0, 1) := by decide +kernel
theorem dX12_init_1 : decode cX12_init 1 = .ok (.invokespecial 3, 3) := by decide +kernel
theorem dX12_init_4 : decode cX12_init 4 = .ok (.aload_n 0, 1) := by decide +kernel
theorem dX12_init_5 : decode cX12_init 5 = .ok (.sipush 1074, 3) := by decide +kernel
theorem dX12_init_8 : decode cX12_init 8 = .ok (.newarray .long, 2) := by decide +kernel
theorem dX12_init_10 : decode cX12_init 10 = .ok (.putfield 9, 3) := by decide +kernel
theorem dX12_init_13 : decode cX12_init 13 = .ok (.aload_n 0, 1) := by decide +kernel
theorem dX12_init_14 : decode cX12_init 14 = .ok (.sipush 8592, 3) := by decide +kernel
theorem dX12_init_17 : decode cX12_init 17 = .ok (.newarray .long, 2) := by decide +kernel
theorem dX12_init_19 : decode cX12_init 19 = .ok (.putfield 15, 3) := by decide +kernel
theorem dX12_init_22 : decode cX12_init 22 = .ok (.aload_n 0, 1) := by decide +kernel
theorem dX12_init_23 : decode cX12_init 23 = .ok (.iconst 2, 1) := by decide +kernel
theorem dX12_init_24 : decode cX12_init 24 = .ok (.newarray .int, 2) := by decide +kernel
theorem dX12_init_26 : decode cX12_init 26 = .ok (.putfield 18, 3) := by decide +kernel
theorem dX12_init_29 : decode cX12_init 29 = .ok (.aload_n 0, 1) := by decide +kernel
theorem dX12_init_30 : decode cX12_init 30 = .ok (.bipush 32, 2) := by decide +kernel
theorem dX12_init_32 : decode cX12_init 32 = .ok (.newarray .int, 2) := by decide +kernel
theorem dX12_init_34 : decode cX12_init 34 = .ok (.putfield 22, 3) := by decide +kernel
theorem dX12_init_37 : decode cX12_init 37 = .ok (.aload_n 0, 1) := by decide +kernel
theorem dX12_init_38 : decode cX12_init 38 = .ok (.bipush 120, 2) := by decide +kernel
theorem dX12_init_40 : decode cX12_init 40 = .ok (.newarray .byte, 2) := by decide +kernel
theorem dX12_init_42 : decode cX12_init 42 = .ok (.putfield 25, 3) := by decide +kernel
theorem dX12_init_45 : decode cX12_init 45 = .ok (.aload_n 0, 1) := by decide +kernel
theorem dX12_init_46 : decode cX12_init 46 = .ok (.bipush 16, 2) := by decide +kernel
theorem dX12_init_48 : decode cX12_init 48 = .ok (.newarray .int, 2) := by decide +kernel
theorem dX12_init_50 : decode cX12_init 50 = .ok (.putfield 29, 3) := by decide +kernel
theorem dX12_init_53 : decode cX12_init 53 = .ok (.aload_n 0, 1) := by decide +kernel
theorem dX12_init_54 : decode cX12_init 54 = .ok (.bipush 16, 2) := by decide +kernel
theorem dX12_init_56 : decode cX12_init 56 = .ok (.newarray .int, 2) := by decide +kernel
theorem dX12_init_58 : decode cX12_init 58 = .ok (.putfield 32, 3) := by decide +kernel
theorem dX12_init_61 : decode cX12_init 61 = .ok (.aload_n 0, 1) := by decide +kernel
theorem dX12_init_62 : decode cX12_init 62 = .ok (.sipush 256, 3) := by decide +kernel
theorem dX12_init_65 : decode cX12_init 65 = .ok (.newarray .long, 2) := by decide +kernel
theorem dX12_init_67 : decode cX12_init 67 = .ok (.putfield 35, 3) := by decide +kernel
theorem dX12_init_70 : decode cX12_init 70 = .ok (.aload_n 0, 1) := by decide +kernel
theorem dX12_init_71 : decode cX12_init 71 = .ok (.sipush 256, 3) := by decide +kernel
theorem dX12_init_74 : decode cX12_init 74 = .ok (.newarray .long, 2) := by decide +kernel
theorem dX12_init_76 : decode cX12_init 76 = .ok (.putfield 38, 3) := by decide +kernel
theorem dX12_init_79 : decode cX12_init 79 = .ok (.aload_n 0, 1) := by decide +kernel
theorem dX12_init_80 : decode cX12_init 80 = .ok (.sipush 256, 3) := by decide +kernel
theorem dX12_init_83 : decode cX12_init 83 = .ok (.newarray .long, 2) := by decide +kernel
theorem dX12_init_85 : decode cX12_init 85 = .ok (.putfield 41, 3) := by decide +kernel
theorem dX12_init_88 : decode cX12_init 88 = .ok (.aload_n 0, 1) := by decide +kernel
theorem dX12_init_89 : decode cX12_init 89 = .ok (.bipush 16, 2) := by decide +kernel
theorem dX12_init_91 : decode cX12_init 91 = .ok (.newarray .int, 2) := by decide +kernel
theorem dX12_init_93 : decode cX12_init 93 = .ok (.putfield 44, 3) := by decide +kernel
theorem dX12_init_96 : decode cX12_init 96 = .ok (.aload_n 0, 1) := by decide +kernel
theorem dX12_init_97 : decode cX12_init 97 = .ok (.bipush 16, 2) := by decide +kernel
theorem dX12_init_99 : decode cX12_init 99 = .ok (.newarray .long, 2) := by decide +kernel
theorem dX12_init_101 : decode cX12_init 101 = .ok (.putfield 47, 3) := by decide +kernel
theorem dX12_init_104 : decode cX12_init 104 = .ok (.aload_n 0, 1) := by decide +kernel
theorem dX12_init_105 : decode cX12_init 105 = .ok (.bipush 16, 2) := by decide +kernel
theorem dX12_init_107 : decode cX12_init 107 = .ok (.newarray .long, 2) := by decide +kernel
theorem dX12_init_109 : decode cX12_init 109 = .ok (.putfield 50, 3) := by decide +kernel
theorem dX12_init_112 : decode cX12_init 112 = .ok (.aload_n 0, 1) := by decide +kernel
theorem dX12_init_113 : decode cX12_init 113 = .ok (.ldc 53, 2) := by decide +kernel
theorem dX12_init_115 : decode cX12_init 115 = .ok (.newarray .long, 2) := by decide +kernel
theorem dX12_init_117 : decode cX12_init 117 = .ok (.putfield 54, 3) := by decide +kernel
theorem dX12_init_120 : decode cX12_init 120 = .ok (.aload_n 0, 1) := by decide +kernel
theorem dX12_init_121 : decode cX12_init 121 = .ok (.bipush 16, 2) := by decide +kernel
theorem dX12_init_123 : decode cX12_init 123 = .ok (.newarray .int, 2) := by decide +kernel
theorem dX12_init_125 : decode cX12_init 125 = .ok (.putfield 57, 3) := by decide +kernel
theorem dX12_init_128 : decode cX12_init 128 = .ok (.aload_n 0, 1) := by decide +kernel
theorem dX12_init_129 : decode cX12_init 129 = .ok (.sipush 256, 3) := by decide +kernel
theorem dX12_init_132 : decode cX12_init 132 = .ok (.newarray .int, 2) := by decide +kernel
theorem dX12_init_134 : decode cX12_init 134 = .ok (.putfield 60, 3) := by decide +kernel
theorem dX12_init_137 : decode cX12_init 137 = .ok (.aload_n 0, 1) := by decide +kernel
theorem dX12_init_138 : decode cX12_init 138 = .ok (.sipush 256, 3) := by decide +kernel
theorem dX12_init_141 : decode cX12_init 141 = .ok (.newarray .int, 2) := by decide +kernel
theorem dX12_init_143 : decode cX12_init 143 = .ok (.putfield 63, 3) := by decide +kernel
theorem dX12_init_146 : decode cX12_init 146 = .ok (.aload_n 0, 1) := by decide +kernel
theorem dX12_init_147 : decode cX12_init 147 = .ok (.bipush 16, 2) := by decide +kernel
theorem dX12_init_149 : decode cX12_init 149 = .ok (.newarray .int, 2) := by decide +kernel
theorem dX12_init_151 : decode cX12_init 151 = .ok (.putfield 66, 3) := by decide +kernel
theorem dX12_init_154 : decode cX12_init 154 = .ok (.aload_n 0, 1) := by decide +kernel
theorem dX12_init_155 : decode cX12_init 155 = .ok (.bipush 16, 2) := by decide +kernel
theorem dX12_init_157 : decode cX12_init 157 = .ok (.newarray .int, 2) := by decide +kernel
theorem dX12_init_159 : decode cX12_init 159 = .ok (.putfield 69, 3) := by decide +kernel
theorem dX12_init_162 : decode cX12_init 162 = .ok (.aload_n 0, 1) := by decide +kernel
theorem dX12_init_163 : decode cX12_init 163 = .ok (.bipush 16, 2) := by decide +kernel
theorem dX12_init_165 : decode cX12_init 165 = .ok (.newarray .long, 2) := by decide +kernel
theorem dX12_init_167 : decode cX12_init 167 = .ok (.putfield 72, 3) := by decide +kernel
theorem dX12_init_170 : decode cX12_init 170 = .ok (.aload_n 0, 1) := by decide +kernel
theorem dX12_init_171 : decode cX12_init 171 = .ok (.getfield 9, 3) := by decide +kernel
theorem dX12_init_174 : decode cX12_init 174 = .ok (.iconst 0, 1) := by decide +kernel
theorem dX12_init_175 : decode cX12_init 175 = .ok (.lconst 1, 1) := by decide +kernel
theorem dX12_init_176 : decode cX12_init 176 = .ok (.lastore, 1) := by decide +kernel
theorem dX12_init_177 : decode cX12_init 177 = .ok (.aload_n 0, 1) := by decide +kernel
theorem dX12_init_178 : decode cX12_init 178 = .ok (.getfield 9, 3) := by decide +kernel
theorem dX12_init_181 : decode cX12_init 181 = .ok (.iconst 1, 1) := by decide +kernel
theorem dX12_init_182 : decode cX12_init 182 = .ok (.lconst 1, 1) := by decide +kernel
theorem dX12_init_183 : decode cX12_init 183 = .ok (.lastore, 1) := by decide +kernel
theorem dX12_init_184 : decode cX12_init 184 = .ok (.aload_n 0, 1) := by decide +kernel
theorem dX12_init_185 : decode cX12_init 185 = .ok (.invokevirtual 75, 3) := by decide +kernel
theorem dX12_init_188 : decode cX12_init 188 = .ok (.return_, 1) := by decide +kernel
theorem dX12_isIn_0 : decode cX12_isIn 0 = .ok (.lload_n 0, 1) := by decide +kernel
theorem dX12_isIn_1 : decode cX12_isIn 1 = .ok (.lload_n 2, 1) := by decide +kernel
theorem dX12_isIn_2 : decode cX12_isIn 2 = .ok (.lcmp, 1) := by decide +kernel
theorem dX12_isIn_3 : decode cX12_isIn 3 = .ok (.ifCond .lt 14, 3) := by decide +kernel
theorem dX12_isIn_6 : decode cX12_isIn 6 = .ok (.lload_n 0, 1) := by decide +kernel
theorem dX12_isIn_7 : decode cX12_isIn 7 = .ok (.lload 4, 2) := by decide +kernel
theorem dX12_isIn_9 : decode cX12_isIn 9 = .ok (.lcmp, 1) := by decide +kernel
theorem dX12_isIn_10 : decode cX12_isIn 10 = .ok (.ifCond .gt 7, 3) := by decide +kernel
theorem dX12_isIn_13 : decode cX12_isIn 13 = .ok (.iconst 1, 1) := by decide +kernel
theorem dX12_isIn_14 : decode cX12_isIn 14 = .ok (.goto 4, 3) := by decide +kernel
theorem dX12_isIn_17 : decode cX12_isIn 17 = .ok (.iconst 0, 1) := by decide +kernel
theorem dX12_isIn_18 : decode cX12_isIn 18 = .ok (.ireturn, 1) := by decide +kernel
theorem dX12_has_0 : decode cX12_has 0 = .ok (.iload_n 0, 1) := by decide +kernel
theorem dX12_has_1 : decode cX12_has 1 = .ok (.iload_n 1, 1) := by decide +kernel
theorem dX12_has_2 : decode cX12_has 2 = .ok (.ishr, 1) := by decide +kernel
theorem dX12_has_3 : decode cX12_has 3 = .ok (.iconst 1, 1) := by decide +kernel
theorem dX12_has_4 : decode cX12_has 4 = .ok (.iand, 1) := by decide +kernel
theorem dX12_has_5 : decode cX12_has 5 = .ok (.iconst 1, 1) := by decide +kernel
theorem dX12_has_6 : decode cX12_has 6 = .ok (.if_icmp .ne 7, 3) := by decide +kernel
theorem dX12_has_9 : decode cX12_has 9 = .ok (.iconst 1, 1) := by decide +kernel
theorem dX12_has_10 : decode cX12_has 10 = .ok (.goto 4, 3) := by decide +kernel
theorem dX12_has_13 : decode cX12_has 13 = .ok (.iconst 0, 1) := by decide +kernel
theorem dX12_has_14 : decode cX12_has 14 = .ok (.ireturn, 1) := by decide +kernel
theorem dX12_size_0 : decode cX12_size 0 = .ok (.iconst 0, 1) := by decide +kernel
theorem dX12_size_1 : decode cX12_size 1 = .ok (.istore_n 1, 1) := by decide +kernel
theorem dX12_size_2 : decode cX12_size 2 = .ok (.iload_n 0, 1) := by decide +kernel
theorem dX12_size_3 : decode cX12_size 3 = .ok (.istore_n 2, 1) := by decide +kernel
theorem dX12_size_4 : decode cX12_size 4 = .ok (.iload_n 2, 1) := by decide +kernel
theorem dX12_size_5 : decode cX12_size 5 = .ok (.ifCond .eq 15, 3) := by decide +kernel
theorem dX12_size_8 : decode cX12_size 8 = .ok (.iinc 1 1, 3) := by decide +kernel
theorem dX12_size_11 : decode cX12_size 11 = .ok (.iload_n 2, 1) := by decide +kernel
theorem dX12_size_12 : decode cX12_size 12 = .ok (.iload_n 2, 1) := by decide +kernel
theorem dX12_size_13 : decode cX12_size 13 = .ok (.iconst 1, 1) := by decide +kernel
theorem dX12_size_14 : decode cX12_size 14 = .ok (.isub, 1) := by decide +kernel
theorem dX12_size_15 : decode cX12_size 15 = .ok (.iand, 1) := by decide +kernel
theorem dX12_size_16 : decode cX12_size 16 = .ok (.istore_n 2, 1) := by decide +kernel
theorem dX12_size_17 : decode cX12_size 17 = .ok (.goto (-13), 3) := by decide +kernel
theorem dX12_size_20 : decode cX12_size 20 = .ok (.iload_n 1, 1) := by decide +kernel
theorem dX12_size_21 : decode cX12_size 21 = .ok (.ireturn, 1) := by decide +kernel
theorem dX12_many_0 : decode cX12_many 0 = .ok (.aload_n 0, 1) := by decide +kernel
theorem dX12_many_1 : decode cX12_many 1 = .ok (.getfield 9, 3) := by decide +kernel
theorem dX12_many_4 : decode cX12_many 4 = .ok (.iconst 0, 1) := by decide +kernel
theorem dX12_many_5 : decode cX12_many 5 = .ok (.laload, 1) := by decide +kernel
theorem dX12_many_6 : decode cX12_many 6 = .ok (.l2i, 1) := by decide +kernel
theorem dX12_many_7 : decode cX12_many 7 = .ok (.ireturn, 1) := by decide +kernel
theorem dX12_up_0 : decode cX12_up 0 = .ok (.aload_n 0, 1) := by decide +kernel
theorem dX12_up_1 : decode cX12_up 1 = .ok (.getfield 9, 3) := by decide +kernel
theorem dX12_up_4 : decode cX12_up 4 = .ok (.iconst 1, 1) := by decide +kernel
theorem dX12_up_5 : decode cX12_up 5 = .ok (.iload_n 1, 1) := by decide +kernel
theorem dX12_up_6 : decode cX12_up 6 = .ok (.iadd, 1) := by decide +kernel
theorem dX12_up_7 : decode cX12_up 7 = .ok (.laload, 1) := by decide +kernel
theorem dX12_up_8 : decode cX12_up 8 = .ok (.l2i, 1) := by decide +kernel
theorem dX12_up_9 : decode cX12_up 9 = .ok (.ireturn, 1) := by decide +kernel
theorem dX12_isElement_0 : decode cX12_isElement 0 = .ok (.iload_n 1, 1) := by decide +kernel
theorem dX12_isElement_1 : decode cX12_isElement 1 = .ok (.i2l, 1) := by decide +kernel
theorem dX12_isElement_2 : decode cX12_isElement 2 = .ok (.lconst 0, 1) := by decide +kernel
theorem dX12_isElement_3 : decode cX12_isElement 3 = .ok (.aload_n 0, 1) := by decide +kernel
theorem dX12_isElement_4 : decode cX12_isElement 4 = .ok (.invokevirtual 78, 3) := by decide +kernel
theorem dX12_isElement_7 : decode cX12_isElement 7 = .ok (.iconst 1, 1) := by decide +kernel
theorem dX12_isElement_8 : decode cX12_isElement 8 = .ok (.isub, 1) := by decide +kernel
theorem dX12_isElement_9 : decode cX12_isElement 9 = .ok (.i2l, 1) := by decide +kernel
theorem dX12_isElement_10 : decode cX12_isElement 10 = .ok (.invokestatic 82, 3) := by decide +kernel
theorem dX12_isElement_13 : decode cX12_isElement 13 = .ok (.ireturn, 1) := by decide +kernel
theorem dX12_isAtMost_0 : decode cX12_isAtMost 0 = .ok (.aload_n 0, 1) := by decide +kernel
theorem dX12_isAtMost_1 : decode cX12_isAtMost 1 = .ok (.iload_n 1, 1) := by decide +kernel
theorem dX12_isAtMost_2 : decode cX12_isAtMost 2 = .ok (.invokevirtual 86, 3) := by decide +kernel
theorem dX12_isAtMost_5 : decode cX12_isAtMost 5 = .ok (.iload_n 2, 1) := by decide +kernel
theorem dX12_isAtMost_6 : decode cX12_isAtMost 6 = .ok (.invokestatic 90, 3) := by decide +kernel
theorem dX12_isAtMost_9 : decode cX12_isAtMost 9 = .ok (.ireturn, 1) := by decide +kernel
theorem dX12_isBelow_0 : decode cX12_isBelow 0 = .ok (.iload_n 1, 1) := by decide +kernel
theorem dX12_isBelow_1 : decode cX12_isBelow 1 = .ok (.iload_n 2, 1) := by decide +kernel
theorem dX12_isBelow_2 : decode cX12_isBelow 2 = .ok (.if_icmp .eq 16, 3) := by decide +kernel
theorem dX12_isBelow_5 : decode cX12_isBelow 5 = .ok (.aload_n 0, 1) := by decide +kernel
theorem dX12_isBelow_6 : decode cX12_isBelow 6 = .ok (.iload_n 1, 1) := by decide +kernel
theorem dX12_isBelow_7 : decode cX12_isBelow 7 = .ok (.iload_n 2, 1) := by decide +kernel
theorem dX12_isBelow_8 : decode cX12_isBelow 8 = .ok (.invokevirtual 94, 3) := by decide +kernel
theorem dX12_isBelow_11 : decode cX12_isBelow 11 = .ok (.ifCond .eq 7, 3) := by decide +kernel
theorem dX12_isBelow_14 : decode cX12_isBelow 14 = .ok (.iconst 1, 1) := by decide +kernel
theorem dX12_isBelow_15 : decode cX12_isBelow 15 = .ok (.goto 4, 3) := by decide +kernel
theorem dX12_isBelow_18 : decode cX12_isBelow 18 = .ok (.iconst 0, 1) := by decide +kernel
theorem dX12_isBelow_19 : decode cX12_isBelow 19 = .ok (.ireturn, 1) := by decide +kernel
theorem dX12_down_0 : decode cX12_down 0 = .ok (.iconst 0, 1) := by decide +kernel
theorem dX12_down_1 : decode cX12_down 1 = .ok (.istore_n 2, 1) := by decide +kernel
theorem dX12_down_2 : decode cX12_down 2 = .ok (.iconst 0, 1) := by decide +kernel
theorem dX12_down_3 : decode cX12_down 3 = .ok (.istore_n 3, 1) := by decide +kernel
theorem dX12_down_4 : decode cX12_down 4 = .ok (.iload_n 3, 1) := by decide +kernel
theorem dX12_down_5 : decode cX12_down 5 = .ok (.aload_n 0, 1) := by decide +kernel
theorem dX12_down_6 : decode cX12_down 6 = .ok (.invokevirtual 78, 3) := by decide +kernel
theorem dX12_down_9 : decode cX12_down 9 = .ok (.if_icmp .ge 28, 3) := by decide +kernel
theorem dX12_down_12 : decode cX12_down 12 = .ok (.iload_n 2, 1) := by decide +kernel
theorem dX12_down_13 : decode cX12_down 13 = .ok (.aload_n 0, 1) := by decide +kernel
theorem dX12_down_14 : decode cX12_down 14 = .ok (.iload_n 3, 1) := by decide +kernel
theorem dX12_down_15 : decode cX12_down 15 = .ok (.iload_n 1, 1) := by decide +kernel
theorem dX12_down_16 : decode cX12_down 16 = .ok (.invokevirtual 94, 3) := by decide +kernel
theorem dX12_down_19 : decode cX12_down 19 = .ok (.ifCond .eq 9, 3) := by decide +kernel
theorem dX12_down_22 : decode cX12_down 22 = .ok (.iconst 1, 1) := by decide +kernel
theorem dX12_down_23 : decode cX12_down 23 = .ok (.iload_n 3, 1) := by decide +kernel
theorem dX12_down_24 : decode cX12_down 24 = .ok (.ishl, 1) := by decide +kernel
theorem dX12_down_25 : decode cX12_down 25 = .ok (.goto 4, 3) := by decide +kernel
theorem dX12_down_28 : decode cX12_down 28 = .ok (.iconst 0, 1) := by decide +kernel
theorem dX12_down_29 : decode cX12_down 29 = .ok (.ior, 1) := by decide +kernel
theorem dX12_down_30 : decode cX12_down 30 = .ok (.istore_n 2, 1) := by decide +kernel
theorem dX12_down_31 : decode cX12_down 31 = .ok (.iinc 3 1, 3) := by decide +kernel
theorem dX12_down_34 : decode cX12_down 34 = .ok (.goto (-30), 3) := by decide +kernel
theorem dX12_down_37 : decode cX12_down 37 = .ok (.iload_n 2, 1) := by decide +kernel
theorem dX12_down_38 : decode cX12_down 38 = .ok (.ireturn, 1) := by decide +kernel
theorem dX12_interval_0 : decode cX12_interval 0 = .ok (.aload_n 0, 1) := by decide +kernel
theorem dX12_interval_1 : decode cX12_interval 1 = .ok (.iload_n 1, 1) := by decide +kernel
theorem dX12_interval_2 : decode cX12_interval 2 = .ok (.iload_n 2, 1) := by decide +kernel
theorem dX12_interval_3 : decode cX12_interval 3 = .ok (.invokevirtual 94, 3) := by decide +kernel
theorem dX12_interval_6 : decode cX12_interval 6 = .ok (.ifCond .eq 17, 3) := by decide +kernel
theorem dX12_interval_9 : decode cX12_interval 9 = .ok (.aload_n 0, 1) := by decide +kernel
theorem dX12_interval_10 : decode cX12_interval 10 = .ok (.iload_n 1, 1) := by decide +kernel
theorem dX12_interval_11 : decode cX12_interval 11 = .ok (.invokevirtual 86, 3) := by decide +kernel
theorem dX12_interval_14 : decode cX12_interval 14 = .ok (.aload_n 0, 1) := by decide +kernel
theorem dX12_interval_15 : decode cX12_interval 15 = .ok (.iload_n 2, 1) := by decide +kernel
theorem dX12_interval_16 : decode cX12_interval 16 = .ok (.invokevirtual 97, 3) := by decide +kernel
theorem dX12_interval_19 : decode cX12_interval 19 = .ok (.iand, 1) := by decide +kernel
theorem dX12_interval_20 : decode cX12_interval 20 = .ok (.goto 4, 3) := by decide +kernel
theorem dX12_interval_23 : decode cX12_interval 23 = .ok (.iconst 0, 1) := by decide +kernel
theorem dX12_interval_24 : decode cX12_interval 24 = .ok (.ireturn, 1) := by decide +kernel
theorem dX12_isInterval_0 : decode cX12_isInterval 0 = .ok (.aload_n 0, 1) := by decide +kernel
theorem dX12_isInterval_1 : decode cX12_isInterval 1 = .ok (.iload_n 1, 1) := by decide +kernel
theorem dX12_isInterval_2 : decode cX12_isInterval 2 = .ok (.invokevirtual 100, 3) := by decide +kernel
theorem dX12_isInterval_5 : decode cX12_isInterval 5 = .ok (.ifCond .eq 24, 3) := by decide +kernel
theorem dX12_isInterval_8 : decode cX12_isInterval 8 = .ok (.aload_n 0, 1) := by decide +kernel
theorem dX12_isInterval_9 : decode cX12_isInterval 9 = .ok (.iload_n 2, 1) := by decide +kernel
theorem dX12_isInterval_10 : decode cX12_isInterval 10 = .ok (.invokevirtual 100, 3) := by decide +kernel
theorem dX12_isInterval_13 : decode cX12_isInterval 13 = .ok (.ifCond .eq 16, 3) := by decide +kernel
theorem dX12_isInterval_16 : decode cX12_isInterval 16 = .ok (.aload_n 0, 1) := by decide +kernel
theorem dX12_isInterval_17 : decode cX12_isInterval 17 = .ok (.iload_n 1, 1) := by decide +kernel
theorem dX12_isInterval_18 : decode cX12_isInterval 18 = .ok (.iload_n 2, 1) := by decide +kernel
theorem dX12_isInterval_19 : decode cX12_isInterval 19 = .ok (.invokevirtual 94, 3) := by decide +kernel
theorem dX12_isInterval_22 : decode cX12_isInterval 22 = .ok (.ifCond .eq 7, 3) := by decide +kernel
theorem dX12_isInterval_25 : decode cX12_isInterval 25 = .ok (.iconst 1, 1) := by decide +kernel
theorem dX12_isInterval_26 : decode cX12_isInterval 26 = .ok (.goto 4, 3) := by decide +kernel
theorem dX12_isInterval_29 : decode cX12_isInterval 29 = .ok (.iconst 0, 1) := by decide +kernel
theorem dX12_isInterval_30 : decode cX12_isInterval 30 = .ok (.ireturn, 1) := by decide +kernel
theorem dX12_isCover_0 : decode cX12_isCover 0 = .ok (.aload_n 0, 1) := by decide +kernel
theorem dX12_isCover_1 : decode cX12_isCover 1 = .ok (.iload_n 1, 1) := by decide +kernel
theorem dX12_isCover_2 : decode cX12_isCover 2 = .ok (.iload_n 2, 1) := by decide +kernel
theorem dX12_isCover_3 : decode cX12_isCover 3 = .ok (.invokevirtual 104, 3) := by decide +kernel
theorem dX12_isCover_6 : decode cX12_isCover 6 = .ok (.ifCond .eq 20, 3) := by decide +kernel
theorem dX12_isCover_9 : decode cX12_isCover 9 = .ok (.aload_n 0, 1) := by decide +kernel
theorem dX12_isCover_10 : decode cX12_isCover 10 = .ok (.iload_n 1, 1) := by decide +kernel
theorem dX12_isCover_11 : decode cX12_isCover 11 = .ok (.iload_n 2, 1) := by decide +kernel
theorem dX12_isCover_12 : decode cX12_isCover 12 = .ok (.invokevirtual 107, 3) := by decide +kernel
theorem dX12_isCover_15 : decode cX12_isCover 15 = .ok (.invokestatic 111, 3) := by decide +kernel
theorem dX12_isCover_18 : decode cX12_isCover 18 = .ok (.iconst 2, 1) := by decide +kernel
theorem dX12_isCover_19 : decode cX12_isCover 19 = .ok (.if_icmp .ne 7, 3) := by decide +kernel
theorem dX12_isCover_22 : decode cX12_isCover 22 = .ok (.iconst 1, 1) := by decide +kernel
theorem dX12_isCover_23 : decode cX12_isCover 23 = .ok (.goto 4, 3) := by decide +kernel
theorem dX12_isCover_26 : decode cX12_isCover 26 = .ok (.iconst 0, 1) := by decide +kernel
theorem dX12_isCover_27 : decode cX12_isCover 27 = .ok (.ireturn, 1) := by decide +kernel
theorem dX12_clears_0 : decode cX12_clears 0 = .ok (.aload_n 0, 1) := by decide +kernel
theorem dX12_clears_1 : decode cX12_clears 1 = .ok (.iconst 0, 1) := by decide +kernel
theorem dX12_clears_2 : decode cX12_clears 2 = .ok (.putfield 114, 3) := by decide +kernel
theorem dX12_clears_5 : decode cX12_clears 5 = .ok (.bipush 17, 2) := by decide +kernel
theorem dX12_clears_7 : decode cX12_clears 7 = .ok (.istore_n 1, 1) := by decide +kernel
theorem dX12_clears_8 : decode cX12_clears 8 = .ok (.iload_n 1, 1) := by decide +kernel
theorem dX12_clears_9 : decode cX12_clears 9 = .ok (.sipush 1057, 3) := by decide +kernel
theorem dX12_clears_12 : decode cX12_clears 12 = .ok (.if_icmp .ge 16, 3) := by decide +kernel
theorem dX12_clears_15 : decode cX12_clears 15 = .ok (.aload_n 0, 1) := by decide +kernel
theorem dX12_clears_16 : decode cX12_clears 16 = .ok (.getfield 9, 3) := by decide +kernel
theorem dX12_clears_19 : decode cX12_clears 19 = .ok (.iload_n 1, 1) := by decide +kernel
theorem dX12_clears_20 : decode cX12_clears 20 = .ok (.lconst 0, 1) := by decide +kernel
theorem dX12_clears_21 : decode cX12_clears 21 = .ok (.lastore, 1) := by decide +kernel
theorem dX12_clears_22 : decode cX12_clears 22 = .ok (.iinc 1 1, 3) := by decide +kernel
theorem dX12_clears_25 : decode cX12_clears 25 = .ok (.goto (-17), 3) := by decide +kernel
theorem dX12_clears_28 : decode cX12_clears 28 = .ok (.iconst 0, 1) := by decide +kernel
theorem dX12_clears_29 : decode cX12_clears 29 = .ok (.istore_n 1, 1) := by decide +kernel
theorem dX12_clears_30 : decode cX12_clears 30 = .ok (.iload_n 1, 1) := by decide +kernel
theorem dX12_clears_31 : decode cX12_clears 31 = .ok (.bipush 16, 2) := by decide +kernel
theorem dX12_clears_33 : decode cX12_clears 33 = .ok (.if_icmp .ge 22, 3) := by decide +kernel
theorem dX12_clears_36 : decode cX12_clears 36 = .ok (.aload_n 0, 1) := by decide +kernel
theorem dX12_clears_37 : decode cX12_clears 37 = .ok (.getfield 9, 3) := by decide +kernel
theorem dX12_clears_40 : decode cX12_clears 40 = .ok (.sipush 1057, 3) := by decide +kernel
theorem dX12_clears_43 : decode cX12_clears 43 = .ok (.iload_n 1, 1) := by decide +kernel
theorem dX12_clears_44 : decode cX12_clears 44 = .ok (.iadd, 1) := by decide +kernel
theorem dX12_clears_45 : decode cX12_clears 45 = .ok (.ldc2_w 118, 3) := by decide +kernel
theorem dX12_clears_48 : decode cX12_clears 48 = .ok (.lastore, 1) := by decide +kernel
theorem dX12_clears_49 : decode cX12_clears 49 = .ok (.iinc 1 1, 3) := by decide +kernel
theorem dX12_clears_52 : decode cX12_clears 52 = .ok (.goto (-22), 3) := by decide +kernel
theorem dX12_clears_55 : decode cX12_clears 55 = .ok (.aload_n 0, 1) := by decide +kernel
theorem dX12_clears_56 : decode cX12_clears 56 = .ok (.getfield 9, 3) := by decide +kernel
theorem dX12_clears_59 : decode cX12_clears 59 = .ok (.sipush 1073, 3) := by decide +kernel
theorem dX12_clears_62 : decode cX12_clears 62 = .ok (.aload_n 0, 1) := by decide +kernel
theorem dX12_clears_63 : decode cX12_clears 63 = .ok (.getfield 120, 3) := by decide +kernel
theorem dX12_clears_66 : decode cX12_clears 66 = .ok (.i2l, 1) := by decide +kernel
theorem dX12_clears_67 : decode cX12_clears 67 = .ok (.lastore, 1) := by decide +kernel
theorem dX12_clears_68 : decode cX12_clears 68 = .ok (.return_, 1) := by decide +kernel
theorem dX12_keepsAct_0 : decode cX12_keepsAct 0 = .ok (.aload_n 0, 1) := by decide +kernel
theorem dX12_keepsAct_1 : decode cX12_keepsAct 1 = .ok (.getfield 124, 3) := by decide +kernel
theorem dX12_keepsAct_4 : decode cX12_keepsAct 4 = .ok (.bipush 8, 2) := by decide +kernel
theorem dX12_keepsAct_6 : decode cX12_keepsAct 6 = .ok (.if_icmp .ne 46, 3) := by decide +kernel
theorem dX12_keepsAct_9 : decode cX12_keepsAct 9 = .ok (.sipush 1074, 3) := by decide +kernel
theorem dX12_keepsAct_12 : decode cX12_keepsAct 12 = .ok (.istore_n 1, 1) := by decide +kernel
theorem dX12_keepsAct_13 : decode cX12_keepsAct 13 = .ok (.iload_n 1, 1) := by decide +kernel
theorem dX12_keepsAct_14 : decode cX12_keepsAct 14 = .ok (.sipush 8592, 3) := by decide +kernel
theorem dX12_keepsAct_17 : decode cX12_keepsAct 17 = .ok (.if_icmp .ge 25, 3) := by decide +kernel
theorem dX12_keepsAct_20 : decode cX12_keepsAct 20 = .ok (.aload_n 0, 1) := by decide +kernel
theorem dX12_keepsAct_21 : decode cX12_keepsAct 21 = .ok (.getfield 15, 3) := by decide +kernel
theorem dX12_keepsAct_24 : decode cX12_keepsAct 24 = .ok (.iload_n 1, 1) := by decide +kernel
theorem dX12_keepsAct_25 : decode cX12_keepsAct 25 = .ok (.sipush 1074, 3) := by decide +kernel
theorem dX12_keepsAct_28 : decode cX12_keepsAct 28 = .ok (.isub, 1) := by decide +kernel
theorem dX12_keepsAct_29 : decode cX12_keepsAct 29 = .ok (.aload_n 0, 1) := by decide +kernel
theorem dX12_keepsAct_30 : decode cX12_keepsAct 30 = .ok (.getfield 15, 3) := by decide +kernel
theorem dX12_keepsAct_33 : decode cX12_keepsAct 33 = .ok (.iload_n 1, 1) := by decide +kernel
theorem dX12_keepsAct_34 : decode cX12_keepsAct 34 = .ok (.laload, 1) := by decide +kernel
theorem dX12_keepsAct_35 : decode cX12_keepsAct 35 = .ok (.lastore, 1) := by decide +kernel
theorem dX12_keepsAct_36 : decode cX12_keepsAct 36 = .ok (.iinc 1 1, 3) := by decide +kernel
theorem dX12_keepsAct_39 : decode cX12_keepsAct 39 = .ok (.goto (-26), 3) := by decide +kernel
theorem dX12_keepsAct_42 : decode cX12_keepsAct 42 = .ok (.aload_n 0, 1) := by decide +kernel
theorem dX12_keepsAct_43 : decode cX12_keepsAct 43 = .ok (.dup, 1) := by decide +kernel
theorem dX12_keepsAct_44 : decode cX12_keepsAct 44 = .ok (.getfield 124, 3) := by decide +kernel
theorem dX12_keepsAct_47 : decode cX12_keepsAct 47 = .ok (.iconst 1, 1) := by decide +kernel
theorem dX12_keepsAct_48 : decode cX12_keepsAct 48 = .ok (.isub, 1) := by decide +kernel
theorem dX12_keepsAct_49 : decode cX12_keepsAct 49 = .ok (.putfield 124, 3) := by decide +kernel
theorem dX12_keepsAct_52 : decode cX12_keepsAct 52 = .ok (.iconst 0, 1) := by decide +kernel
theorem dX12_keepsAct_53 : decode cX12_keepsAct 53 = .ok (.istore_n 1, 1) := by decide +kernel
theorem dX12_keepsAct_54 : decode cX12_keepsAct 54 = .ok (.iload_n 1, 1) := by decide +kernel
theorem dX12_keepsAct_55 : decode cX12_keepsAct 55 = .ok (.sipush 1074, 3) := by decide +kernel
theorem dX12_keepsAct_58 : decode cX12_keepsAct 58 = .ok (.if_icmp .ge 30, 3) := by decide +kernel
theorem dX12_keepsAct_61 : decode cX12_keepsAct 61 = .ok (.aload_n 0, 1) := by decide +kernel
theorem dX12_keepsAct_62 : decode cX12_keepsAct 62 = .ok (.getfield 15, 3) := by decide +kernel
theorem dX12_keepsAct_65 : decode cX12_keepsAct 65 = .ok (.sipush 1074, 3) := by decide +kernel
theorem dX12_keepsAct_68 : decode cX12_keepsAct 68 = .ok (.aload_n 0, 1) := by decide +kernel
theorem dX12_keepsAct_69 : decode cX12_keepsAct 69 = .ok (.getfield 124, 3) := by decide +kernel
theorem dX12_keepsAct_72 : decode cX12_keepsAct 72 = .ok (.imul, 1) := by decide +kernel
theorem dX12_keepsAct_73 : decode cX12_keepsAct 73 = .ok (.iload_n 1, 1) := by decide +kernel
theorem dX12_keepsAct_74 : decode cX12_keepsAct 74 = .ok (.iadd, 1) := by decide +kernel
theorem dX12_keepsAct_75 : decode cX12_keepsAct 75 = .ok (.aload_n 0, 1) := by decide +kernel
theorem dX12_keepsAct_76 : decode cX12_keepsAct 76 = .ok (.getfield 9, 3) := by decide +kernel
theorem dX12_keepsAct_79 : decode cX12_keepsAct 79 = .ok (.iload_n 1, 1) := by decide +kernel
theorem dX12_keepsAct_80 : decode cX12_keepsAct 80 = .ok (.laload, 1) := by decide +kernel
theorem dX12_keepsAct_81 : decode cX12_keepsAct 81 = .ok (.lastore, 1) := by decide +kernel
theorem dX12_keepsAct_82 : decode cX12_keepsAct 82 = .ok (.iinc 1 1, 3) := by decide +kernel
theorem dX12_keepsAct_85 : decode cX12_keepsAct 85 = .ok (.goto (-31), 3) := by decide +kernel
theorem dX12_keepsAct_88 : decode cX12_keepsAct 88 = .ok (.aload_n 0, 1) := by decide +kernel
theorem dX12_keepsAct_89 : decode cX12_keepsAct 89 = .ok (.dup, 1) := by decide +kernel
theorem dX12_keepsAct_90 : decode cX12_keepsAct 90 = .ok (.getfield 124, 3) := by decide +kernel
theorem dX12_keepsAct_93 : decode cX12_keepsAct 93 = .ok (.iconst 1, 1) := by decide +kernel
theorem dX12_keepsAct_94 : decode cX12_keepsAct 94 = .ok (.iadd, 1) := by decide +kernel
theorem dX12_keepsAct_95 : decode cX12_keepsAct 95 = .ok (.putfield 124, 3) := by decide +kernel
theorem dX12_keepsAct_98 : decode cX12_keepsAct 98 = .ok (.return_, 1) := by decide +kernel
theorem dX12_forgetsMap_0 : decode cX12_forgetsMap 0 = .ok (.iconst 0, 1) := by decide +kernel
theorem dX12_forgetsMap_1 : decode cX12_forgetsMap 1 = .ok (.istore_n 1, 1) := by decide +kernel
theorem dX12_forgetsMap_2 : decode cX12_forgetsMap 2 = .ok (.iload_n 1, 1) := by decide +kernel
theorem dX12_forgetsMap_3 : decode cX12_forgetsMap 3 = .ok (.bipush 16, 2) := by decide +kernel
theorem dX12_forgetsMap_5 : decode cX12_forgetsMap 5 = .ok (.if_icmp .ge 22, 3) := by decide +kernel
theorem dX12_forgetsMap_8 : decode cX12_forgetsMap 8 = .ok (.aload_n 0, 1) := by decide +kernel
theorem dX12_forgetsMap_9 : decode cX12_forgetsMap 9 = .ok (.getfield 9, 3) := by decide +kernel
theorem dX12_forgetsMap_12 : decode cX12_forgetsMap 12 = .ok (.sipush 1057, 3) := by decide +kernel
theorem dX12_forgetsMap_15 : decode cX12_forgetsMap 15 = .ok (.iload_n 1, 1) := by decide +kernel
theorem dX12_forgetsMap_16 : decode cX12_forgetsMap 16 = .ok (.iadd, 1) := by decide +kernel
theorem dX12_forgetsMap_17 : decode cX12_forgetsMap 17 = .ok (.ldc2_w 118, 3) := by decide +kernel
theorem dX12_forgetsMap_20 : decode cX12_forgetsMap 20 = .ok (.lastore, 1) := by decide +kernel
theorem dX12_forgetsMap_21 : decode cX12_forgetsMap 21 = .ok (.iinc 1 1, 3) := by decide +kernel
theorem dX12_forgetsMap_24 : decode cX12_forgetsMap 24 = .ok (.goto (-22), 3) := by decide +kernel
theorem dX12_forgetsMap_27 : decode cX12_forgetsMap 27 = .ok (.aload_n 0, 1) := by decide +kernel
theorem dX12_forgetsMap_28 : decode cX12_forgetsMap 28 = .ok (.getfield 9, 3) := by decide +kernel
theorem dX12_forgetsMap_31 : decode cX12_forgetsMap 31 = .ok (.sipush 1073, 3) := by decide +kernel
theorem dX12_forgetsMap_34 : decode cX12_forgetsMap 34 = .ok (.aload_n 0, 1) := by decide +kernel
theorem dX12_forgetsMap_35 : decode cX12_forgetsMap 35 = .ok (.getfield 120, 3) := by decide +kernel
theorem dX12_forgetsMap_38 : decode cX12_forgetsMap 38 = .ok (.i2l, 1) := by decide +kernel
theorem dX12_forgetsMap_39 : decode cX12_forgetsMap 39 = .ok (.lastore, 1) := by decide +kernel
theorem dX12_forgetsMap_40 : decode cX12_forgetsMap 40 = .ok (.return_, 1) := by decide +kernel
theorem dX12_undo_0 : decode cX12_undo 0 = .ok (.aload_n 0, 1) := by decide +kernel
theorem dX12_undo_1 : decode cX12_undo 1 = .ok (.getfield 124, 3) := by decide +kernel
theorem dX12_undo_4 : decode cX12_undo 4 = .ok (.ifCond .ne 5, 3) := by decide +kernel
theorem dX12_undo_7 : decode cX12_undo 7 = .ok (.iconst (-1), 1) := by decide +kernel
theorem dX12_undo_8 : decode cX12_undo 8 = .ok (.ireturn, 1) := by decide +kernel
theorem dX12_undo_9 : decode cX12_undo 9 = .ok (.aload_n 0, 1) := by decide +kernel
theorem dX12_undo_10 : decode cX12_undo 10 = .ok (.dup, 1) := by decide +kernel
theorem dX12_undo_11 : decode cX12_undo 11 = .ok (.getfield 124, 3) := by decide +kernel
theorem dX12_undo_14 : decode cX12_undo 14 = .ok (.iconst 1, 1) := by decide +kernel
theorem dX12_undo_15 : decode cX12_undo 15 = .ok (.isub, 1) := by decide +kernel
theorem dX12_undo_16 : decode cX12_undo 16 = .ok (.putfield 124, 3) := by decide +kernel
theorem dX12_undo_19 : decode cX12_undo 19 = .ok (.iconst 0, 1) := by decide +kernel
theorem dX12_undo_20 : decode cX12_undo 20 = .ok (.istore_n 1, 1) := by decide +kernel
theorem dX12_undo_21 : decode cX12_undo 21 = .ok (.iload_n 1, 1) := by decide +kernel
theorem dX12_undo_22 : decode cX12_undo 22 = .ok (.sipush 1074, 3) := by decide +kernel
theorem dX12_undo_25 : decode cX12_undo 25 = .ok (.if_icmp .ge 30, 3) := by decide +kernel
theorem dX12_undo_28 : decode cX12_undo 28 = .ok (.aload_n 0, 1) := by decide +kernel
theorem dX12_undo_29 : decode cX12_undo 29 = .ok (.getfield 9, 3) := by decide +kernel
theorem dX12_undo_32 : decode cX12_undo 32 = .ok (.iload_n 1, 1) := by decide +kernel
theorem dX12_undo_33 : decode cX12_undo 33 = .ok (.aload_n 0, 1) := by decide +kernel
theorem dX12_undo_34 : decode cX12_undo 34 = .ok (.getfield 15, 3) := by decide +kernel
theorem dX12_undo_37 : decode cX12_undo 37 = .ok (.sipush 1074, 3) := by decide +kernel
theorem dX12_undo_40 : decode cX12_undo 40 = .ok (.aload_n 0, 1) := by decide +kernel
theorem dX12_undo_41 : decode cX12_undo 41 = .ok (.getfield 124, 3) := by decide +kernel
theorem dX12_undo_44 : decode cX12_undo 44 = .ok (.imul, 1) := by decide +kernel
theorem dX12_undo_45 : decode cX12_undo 45 = .ok (.iload_n 1, 1) := by decide +kernel
theorem dX12_undo_46 : decode cX12_undo 46 = .ok (.iadd, 1) := by decide +kernel
theorem dX12_undo_47 : decode cX12_undo 47 = .ok (.laload, 1) := by decide +kernel
theorem dX12_undo_48 : decode cX12_undo 48 = .ok (.lastore, 1) := by decide +kernel
theorem dX12_undo_49 : decode cX12_undo 49 = .ok (.iinc 1 1, 3) := by decide +kernel
theorem dX12_undo_52 : decode cX12_undo 52 = .ok (.goto (-31), 3) := by decide +kernel
theorem dX12_undo_55 : decode cX12_undo 55 = .ok (.aload_n 0, 1) := by decide +kernel
theorem dX12_undo_56 : decode cX12_undo 56 = .ok (.iconst 0, 1) := by decide +kernel
theorem dX12_undo_57 : decode cX12_undo 57 = .ok (.putfield 114, 3) := by decide +kernel
theorem dX12_undo_60 : decode cX12_undo 60 = .ok (.aload_n 0, 1) := by decide +kernel
theorem dX12_undo_61 : decode cX12_undo 61 = .ok (.getfield 9, 3) := by decide +kernel
theorem dX12_undo_64 : decode cX12_undo 64 = .ok (.sipush 1073, 3) := by decide +kernel
theorem dX12_undo_67 : decode cX12_undo 67 = .ok (.laload, 1) := by decide +kernel
theorem dX12_undo_68 : decode cX12_undo 68 = .ok (.aload_n 0, 1) := by decide +kernel
theorem dX12_undo_69 : decode cX12_undo 69 = .ok (.getfield 120, 3) := by decide +kernel
theorem dX12_undo_72 : decode cX12_undo 72 = .ok (.i2l, 1) := by decide +kernel
theorem dX12_undo_73 : decode cX12_undo 73 = .ok (.lcmp, 1) := by decide +kernel
theorem dX12_undo_74 : decode cX12_undo 74 = .ok (.ifCond .eq 7, 3) := by decide +kernel
theorem dX12_undo_77 : decode cX12_undo 77 = .ok (.aload_n 0, 1) := by decide +kernel
theorem dX12_undo_78 : decode cX12_undo 78 = .ok (.invokevirtual 127, 3) := by decide +kernel
theorem dX12_undo_81 : decode cX12_undo 81 = .ok (.aload_n 0, 1) := by decide +kernel
theorem dX12_undo_82 : decode cX12_undo 82 = .ok (.getfield 124, 3) := by decide +kernel
theorem dX12_undo_85 : decode cX12_undo 85 = .ok (.ireturn, 1) := by decide +kernel
theorem dX12_keep_0 : decode cX12_keep 0 = .ok (.iload_n 1, 1) := by decide +kernel
theorem dX12_keep_1 : decode cX12_keep 1 = .ok (.i2l, 1) := by decide +kernel
theorem dX12_keep_2 : decode cX12_keep 2 = .ok (.lconst 0, 1) := by decide +kernel
theorem dX12_keep_3 : decode cX12_keep 3 = .ok (.lconst 1, 1) := by decide +kernel
theorem dX12_keep_4 : decode cX12_keep 4 = .ok (.invokestatic 82, 3) := by decide +kernel
theorem dX12_keep_7 : decode cX12_keep 7 = .ok (.ifCond .ne 5, 3) := by decide +kernel
theorem dX12_keep_10 : decode cX12_keep 10 = .ok (.iconst (-1), 1) := by decide +kernel
theorem dX12_keep_11 : decode cX12_keep 11 = .ok (.ireturn, 1) := by decide +kernel
theorem dX12_keep_12 : decode cX12_keep 12 = .ok (.aload_n 0, 1) := by decide +kernel
theorem dX12_keep_13 : decode cX12_keep 13 = .ok (.getfield 18, 3) := by decide +kernel
theorem dX12_keep_16 : decode cX12_keep 16 = .ok (.iload_n 1, 1) := by decide +kernel
theorem dX12_keep_17 : decode cX12_keep 17 = .ok (.aload_n 0, 1) := by decide +kernel
theorem dX12_keep_18 : decode cX12_keep 18 = .ok (.invokevirtual 78, 3) := by decide +kernel
theorem dX12_keep_21 : decode cX12_keep 21 = .ok (.iastore, 1) := by decide +kernel
theorem dX12_keep_22 : decode cX12_keep 22 = .ok (.iconst 0, 1) := by decide +kernel
theorem dX12_keep_23 : decode cX12_keep 23 = .ok (.istore_n 2, 1) := by decide +kernel
theorem dX12_keep_24 : decode cX12_keep 24 = .ok (.iload_n 2, 1) := by decide +kernel
theorem dX12_keep_25 : decode cX12_keep 25 = .ok (.aload_n 0, 1) := by decide +kernel
theorem dX12_keep_26 : decode cX12_keep 26 = .ok (.invokevirtual 78, 3) := by decide +kernel
theorem dX12_keep_29 : decode cX12_keep 29 = .ok (.if_icmp .ge 25, 3) := by decide +kernel
theorem dX12_keep_32 : decode cX12_keep 32 = .ok (.aload_n 0, 1) := by decide +kernel
theorem dX12_keep_33 : decode cX12_keep 33 = .ok (.getfield 22, 3) := by decide +kernel
theorem dX12_keep_36 : decode cX12_keep 36 = .ok (.bipush 16, 2) := by decide +kernel
theorem dX12_keep_38 : decode cX12_keep 38 = .ok (.iload_n 1, 1) := by decide +kernel
theorem dX12_keep_39 : decode cX12_keep 39 = .ok (.imul, 1) := by decide +kernel
theorem dX12_keep_40 : decode cX12_keep 40 = .ok (.iload_n 2, 1) := by decide +kernel
theorem dX12_keep_41 : decode cX12_keep 41 = .ok (.iadd, 1) := by decide +kernel
theorem dX12_keep_42 : decode cX12_keep 42 = .ok (.aload_n 0, 1) := by decide +kernel
theorem dX12_keep_43 : decode cX12_keep 43 = .ok (.iload_n 2, 1) := by decide +kernel
theorem dX12_keep_44 : decode cX12_keep 44 = .ok (.invokevirtual 86, 3) := by decide +kernel
theorem dX12_keep_47 : decode cX12_keep 47 = .ok (.iastore, 1) := by decide +kernel
theorem dX12_keep_48 : decode cX12_keep 48 = .ok (.iinc 2 1, 3) := by decide +kernel
theorem dX12_keep_51 : decode cX12_keep 51 = .ok (.goto (-27), 3) := by decide +kernel
theorem dX12_keep_54 : decode cX12_keep 54 = .ok (.iload_n 1, 1) := by decide +kernel
theorem dX12_keep_55 : decode cX12_keep 55 = .ok (.ifCond .ne 17, 3) := by decide +kernel
theorem dX12_keep_58 : decode cX12_keep 58 = .ok (.aload_n 0, 1) := by decide +kernel
theorem dX12_keep_59 : decode cX12_keep 59 = .ok (.dup, 1) := by decide +kernel
theorem dX12_keep_60 : decode cX12_keep 60 = .ok (.getfield 120, 3) := by decide +kernel
theorem dX12_keep_63 : decode cX12_keep 63 = .ok (.iconst 1, 1) := by decide +kernel
theorem dX12_keep_64 : decode cX12_keep 64 = .ok (.iadd, 1) := by decide +kernel
theorem dX12_keep_65 : decode cX12_keep 65 = .ok (.putfield 120, 3) := by decide +kernel
theorem dX12_keep_68 : decode cX12_keep 68 = .ok (.aload_n 0, 1) := by decide +kernel
theorem dX12_keep_69 : decode cX12_keep 69 = .ok (.invokevirtual 127, 3) := by decide +kernel
theorem dX12_keep_72 : decode cX12_keep 72 = .ok (.aload_n 0, 1) := by decide +kernel
theorem dX12_keep_73 : decode cX12_keep 73 = .ok (.invokevirtual 78, 3) := by decide +kernel
theorem dX12_keep_76 : decode cX12_keep 76 = .ok (.ireturn, 1) := by decide +kernel
theorem dX12_feed_0 : decode cX12_feed 0 = .ok (.aload_n 0, 1) := by decide +kernel
theorem dX12_feed_1 : decode cX12_feed 1 = .ok (.getfield 130, 3) := by decide +kernel
theorem dX12_feed_4 : decode cX12_feed 4 = .ok (.bipush 100, 2) := by decide +kernel
theorem dX12_feed_6 : decode cX12_feed 6 = .ok (.if_icmp .le 5, 3) := by decide +kernel
theorem dX12_feed_9 : decode cX12_feed 9 = .ok (.iconst (-1), 1) := by decide +kernel
theorem dX12_feed_10 : decode cX12_feed 10 = .ok (.ireturn, 1) := by decide +kernel
theorem dX12_feed_11 : decode cX12_feed 11 = .ok (.iconst 0, 1) := by decide +kernel
theorem dX12_feed_12 : decode cX12_feed 12 = .ok (.istore 6, 2) := by decide +kernel
theorem dX12_feed_14 : decode cX12_feed 14 = .ok (.iload 6, 2) := by decide +kernel
theorem dX12_feed_16 : decode cX12_feed 16 = .ok (.bipush 20, 2) := by decide +kernel
theorem dX12_feed_18 : decode cX12_feed 18 = .ok (.if_icmp .ge 83, 3) := by decide +kernel
theorem dX12_feed_21 : decode cX12_feed 21 = .ok (.iload 6, 2) := by decide +kernel
theorem dX12_feed_23 : decode cX12_feed 23 = .ok (.iconst 4, 1) := by decide +kernel
theorem dX12_feed_24 : decode cX12_feed 24 = .ok (.if_icmp .ge 7, 3) := by decide +kernel
theorem dX12_feed_27 : decode cX12_feed 27 = .ok (.iload_n 1, 1) := by decide +kernel
theorem dX12_feed_28 : decode cX12_feed 28 = .ok (.goto 39, 3) := by decide +kernel
theorem dX12_feed_31 : decode cX12_feed 31 = .ok (.iload 6, 2) := by decide +kernel
theorem dX12_feed_33 : decode cX12_feed 33 = .ok (.bipush 8, 2) := by decide +kernel
theorem dX12_feed_35 : decode cX12_feed 35 = .ok (.if_icmp .ge 7, 3) := by decide +kernel
theorem dX12_feed_38 : decode cX12_feed 38 = .ok (.iload_n 2, 1) := by decide +kernel
theorem dX12_feed_39 : decode cX12_feed 39 = .ok (.goto 28, 3) := by decide +kernel
theorem dX12_feed_42 : decode cX12_feed 42 = .ok (.iload 6, 2) := by decide +kernel
theorem dX12_feed_44 : decode cX12_feed 44 = .ok (.bipush 12, 2) := by decide +kernel
theorem dX12_feed_46 : decode cX12_feed 46 = .ok (.if_icmp .ge 7, 3) := by decide +kernel
theorem dX12_feed_49 : decode cX12_feed 49 = .ok (.iload_n 3, 1) := by decide +kernel
theorem dX12_feed_50 : decode cX12_feed 50 = .ok (.goto 17, 3) := by decide +kernel
theorem dX12_feed_53 : decode cX12_feed 53 = .ok (.iload 6, 2) := by decide +kernel
theorem dX12_feed_55 : decode cX12_feed 55 = .ok (.bipush 16, 2) := by decide +kernel
theorem dX12_feed_57 : decode cX12_feed 57 = .ok (.if_icmp .ge 8, 3) := by decide +kernel
theorem dX12_feed_60 : decode cX12_feed 60 = .ok (.iload 4, 2) := by decide +kernel
theorem dX12_feed_62 : decode cX12_feed 62 = .ok (.goto 5, 3) := by decide +kernel
theorem dX12_feed_65 : decode cX12_feed 65 = .ok (.iload 5, 2) := by decide +kernel
theorem dX12_feed_67 : decode cX12_feed 67 = .ok (.istore 7, 2) := by decide +kernel
theorem dX12_feed_69 : decode cX12_feed 69 = .ok (.aload_n 0, 1) := by decide +kernel
theorem dX12_feed_70 : decode cX12_feed 70 = .ok (.getfield 25, 3) := by decide +kernel
theorem dX12_feed_73 : decode cX12_feed 73 = .ok (.aload_n 0, 1) := by decide +kernel
theorem dX12_feed_74 : decode cX12_feed 74 = .ok (.getfield 130, 3) := by decide +kernel
theorem dX12_feed_77 : decode cX12_feed 77 = .ok (.iload 6, 2) := by decide +kernel
theorem dX12_feed_79 : decode cX12_feed 79 = .ok (.iadd, 1) := by decide +kernel
theorem dX12_feed_80 : decode cX12_feed 80 = .ok (.iload 7, 2) := by decide +kernel
theorem dX12_feed_82 : decode cX12_feed 82 = .ok (.bipush 24, 2) := by decide +kernel
theorem dX12_feed_84 : decode cX12_feed 84 = .ok (.bipush 8, 2) := by decide +kernel
theorem dX12_feed_86 : decode cX12_feed 86 = .ok (.iload 6, 2) := by decide +kernel
theorem dX12_feed_88 : decode cX12_feed 88 = .ok (.iconst 4, 1) := by decide +kernel
theorem dX12_feed_89 : decode cX12_feed 89 = .ok (.irem, 1) := by decide +kernel
theorem dX12_feed_90 : decode cX12_feed 90 = .ok (.imul, 1) := by decide +kernel
theorem dX12_feed_91 : decode cX12_feed 91 = .ok (.isub, 1) := by decide +kernel
theorem dX12_feed_92 : decode cX12_feed 92 = .ok (.ishr, 1) := by decide +kernel
theorem dX12_feed_93 : decode cX12_feed 93 = .ok (.i2b, 1) := by decide +kernel
theorem dX12_feed_94 : decode cX12_feed 94 = .ok (.bastore, 1) := by decide +kernel
theorem dX12_feed_95 : decode cX12_feed 95 = .ok (.iinc 6 1, 3) := by decide +kernel
theorem dX12_feed_98 : decode cX12_feed 98 = .ok (.goto (-84), 3) := by decide +kernel
theorem dX12_feed_101 : decode cX12_feed 101 = .ok (.aload_n 0, 1) := by decide +kernel
theorem dX12_feed_102 : decode cX12_feed 102 = .ok (.dup, 1) := by decide +kernel
theorem dX12_feed_103 : decode cX12_feed 103 = .ok (.getfield 130, 3) := by decide +kernel
theorem dX12_feed_106 : decode cX12_feed 106 = .ok (.bipush 20, 2) := by decide +kernel
theorem dX12_feed_108 : decode cX12_feed 108 = .ok (.iadd, 1) := by decide +kernel
theorem dX12_feed_109 : decode cX12_feed 109 = .ok (.putfield 130, 3) := by decide +kernel
theorem dX12_feed_112 : decode cX12_feed 112 = .ok (.aload_n 0, 1) := by decide +kernel
theorem dX12_feed_113 : decode cX12_feed 113 = .ok (.getfield 130, 3) := by decide +kernel
theorem dX12_feed_116 : decode cX12_feed 116 = .ok (.ireturn, 1) := by decide +kernel
theorem dX12_end_0 : decode cX12_end 0 = .ok (.iload_n 1, 1) := by decide +kernel
theorem dX12_end_1 : decode cX12_end 1 = .ok (.i2l, 1) := by decide +kernel
theorem dX12_end_2 : decode cX12_end 2 = .ok (.lconst 0, 1) := by decide +kernel
theorem dX12_end_3 : decode cX12_end 3 = .ok (.aload_n 0, 1) := by decide +kernel
theorem dX12_end_4 : decode cX12_end 4 = .ok (.getfield 130, 3) := by decide +kernel
theorem dX12_end_7 : decode cX12_end 7 = .ok (.i2l, 1) := by decide +kernel
theorem dX12_end_8 : decode cX12_end 8 = .ok (.invokestatic 82, 3) := by decide +kernel
theorem dX12_end_11 : decode cX12_end 11 = .ok (.ifCond .ne 5, 3) := by decide +kernel
theorem dX12_end_14 : decode cX12_end 14 = .ok (.iconst (-1), 1) := by decide +kernel
theorem dX12_end_15 : decode cX12_end 15 = .ok (.ireturn, 1) := by decide +kernel
theorem dX12_end_16 : decode cX12_end 16 = .ok (.aload_n 0, 1) := by decide +kernel
theorem dX12_end_17 : decode cX12_end 17 = .ok (.iload_n 1, 1) := by decide +kernel
theorem dX12_end_18 : decode cX12_end 18 = .ok (.putfield 130, 3) := by decide +kernel
theorem dX12_end_21 : decode cX12_end 21 = .ok (.iload_n 1, 1) := by decide +kernel
theorem dX12_end_22 : decode cX12_end 22 = .ok (.ireturn, 1) := by decide +kernel
theorem dX12_byteAt_0 : decode cX12_byteAt 0 = .ok (.iload_n 1, 1) := by decide +kernel
theorem dX12_byteAt_1 : decode cX12_byteAt 1 = .ok (.aload_n 0, 1) := by decide +kernel
theorem dX12_byteAt_2 : decode cX12_byteAt 2 = .ok (.getfield 130, 3) := by decide +kernel
theorem dX12_byteAt_5 : decode cX12_byteAt 5 = .ok (.if_icmp .ge 16, 3) := by decide +kernel
theorem dX12_byteAt_8 : decode cX12_byteAt 8 = .ok (.aload_n 0, 1) := by decide +kernel
theorem dX12_byteAt_9 : decode cX12_byteAt 9 = .ok (.getfield 25, 3) := by decide +kernel
theorem dX12_byteAt_12 : decode cX12_byteAt 12 = .ok (.iload_n 1, 1) := by decide +kernel
theorem dX12_byteAt_13 : decode cX12_byteAt 13 = .ok (.baload, 1) := by decide +kernel
theorem dX12_byteAt_14 : decode cX12_byteAt 14 = .ok (.sipush 255, 3) := by decide +kernel
theorem dX12_byteAt_17 : decode cX12_byteAt 17 = .ok (.iand, 1) := by decide +kernel
theorem dX12_byteAt_18 : decode cX12_byteAt 18 = .ok (.goto 4, 3) := by decide +kernel
theorem dX12_byteAt_21 : decode cX12_byteAt 21 = .ok (.iconst (-1), 1) := by decide +kernel
theorem dX12_byteAt_22 : decode cX12_byteAt 22 = .ok (.ireturn, 1) := by decide +kernel
theorem dX12_next_0 : decode cX12_next 0 = .ok (.aload_n 0, 1) := by decide +kernel
theorem dX12_next_1 : decode cX12_next 1 = .ok (.aload_n 0, 1) := by decide +kernel
theorem dX12_next_2 : decode cX12_next 2 = .ok (.getfield 133, 3) := by decide +kernel
theorem dX12_next_5 : decode cX12_next 5 = .ok (.invokevirtual 136, 3) := by decide +kernel
theorem dX12_next_8 : decode cX12_next 8 = .ok (.bipush 32, 2) := by decide +kernel
theorem dX12_next_10 : decode cX12_next 10 = .ok (.if_icmp .ne 16, 3) := by decide +kernel
theorem dX12_next_13 : decode cX12_next 13 = .ok (.aload_n 0, 1) := by decide +kernel
theorem dX12_next_14 : decode cX12_next 14 = .ok (.dup, 1) := by decide +kernel
theorem dX12_next_15 : decode cX12_next 15 = .ok (.getfield 133, 3) := by decide +kernel
theorem dX12_next_18 : decode cX12_next 18 = .ok (.iconst 1, 1) := by decide +kernel
theorem dX12_next_19 : decode cX12_next 19 = .ok (.iadd, 1) := by decide +kernel
theorem dX12_next_20 : decode cX12_next 20 = .ok (.putfield 133, 3) := by decide +kernel
theorem dX12_next_23 : decode cX12_next 23 = .ok (.goto (-23), 3) := by decide +kernel
theorem dX12_next_26 : decode cX12_next 26 = .ok (.aload_n 0, 1) := by decide +kernel
theorem dX12_next_27 : decode cX12_next 27 = .ok (.aload_n 0, 1) := by decide +kernel
theorem dX12_next_28 : decode cX12_next 28 = .ok (.getfield 133, 3) := by decide +kernel
theorem dX12_next_31 : decode cX12_next 31 = .ok (.invokevirtual 136, 3) := by decide +kernel
theorem dX12_next_34 : decode cX12_next 34 = .ok (.ireturn, 1) := by decide +kernel
theorem dX12_fails_0 : decode cX12_fails 0 = .ok (.aload_n 0, 1) := by decide +kernel
theorem dX12_fails_1 : decode cX12_fails 1 = .ok (.bipush 8, 2) := by decide +kernel
theorem dX12_fails_3 : decode cX12_fails 3 = .ok (.iload_n 2, 1) := by decide +kernel
theorem dX12_fails_4 : decode cX12_fails 4 = .ok (.imul, 1) := by decide +kernel
theorem dX12_fails_5 : decode cX12_fails 5 = .ok (.iload_n 1, 1) := by decide +kernel
theorem dX12_fails_6 : decode cX12_fails 6 = .ok (.iadd, 1) := by decide +kernel
theorem dX12_fails_7 : decode cX12_fails 7 = .ok (.putfield 139, 3) := by decide +kernel
theorem dX12_fails_10 : decode cX12_fails 10 = .ok (.iconst 0, 1) := by decide +kernel
theorem dX12_fails_11 : decode cX12_fails 11 = .ok (.ireturn, 1) := by decide +kernel
theorem dX12_isWord_0 : decode cX12_isWord 0 = .ok (.aload_n 0, 1) := by decide +kernel
theorem dX12_isWord_1 : decode cX12_isWord 1 = .ok (.invokevirtual 142, 3) := by decide +kernel
theorem dX12_isWord_4 : decode cX12_isWord 4 = .ok (.istore_n 2, 1) := by decide +kernel
theorem dX12_isWord_5 : decode cX12_isWord 5 = .ok (.iconst 0, 1) := by decide +kernel
theorem dX12_isWord_6 : decode cX12_isWord 6 = .ok (.istore_n 3, 1) := by decide +kernel
theorem dX12_isWord_7 : decode cX12_isWord 7 = .ok (.iload_n 3, 1) := by decide +kernel
theorem dX12_isWord_8 : decode cX12_isWord 8 = .ok (.aload_n 1, 1) := by decide +kernel
theorem dX12_isWord_9 : decode cX12_isWord 9 = .ok (.invokevirtual 144, 3) := by decide +kernel
theorem dX12_isWord_12 : decode cX12_isWord 12 = .ok (.if_icmp .ge 27, 3) := by decide +kernel
theorem dX12_isWord_15 : decode cX12_isWord 15 = .ok (.aload_n 0, 1) := by decide +kernel
theorem dX12_isWord_16 : decode cX12_isWord 16 = .ok (.aload_n 0, 1) := by decide +kernel
theorem dX12_isWord_17 : decode cX12_isWord 17 = .ok (.getfield 133, 3) := by decide +kernel
theorem dX12_isWord_20 : decode cX12_isWord 20 = .ok (.iload_n 3, 1) := by decide +kernel
theorem dX12_isWord_21 : decode cX12_isWord 21 = .ok (.iadd, 1) := by decide +kernel
theorem dX12_isWord_22 : decode cX12_isWord 22 = .ok (.invokevirtual 136, 3) := by decide +kernel
theorem dX12_isWord_25 : decode cX12_isWord 25 = .ok (.aload_n 1, 1) := by decide +kernel
theorem dX12_isWord_26 : decode cX12_isWord 26 = .ok (.iload_n 3, 1) := by decide +kernel
theorem dX12_isWord_27 : decode cX12_isWord 27 = .ok (.invokevirtual 149, 3) := by decide +kernel
theorem dX12_isWord_30 : decode cX12_isWord 30 = .ok (.if_icmp .ne 9, 3) := by decide +kernel
theorem dX12_isWord_33 : decode cX12_isWord 33 = .ok (.iinc 3 1, 3) := by decide +kernel
theorem dX12_isWord_36 : decode cX12_isWord 36 = .ok (.goto (-29), 3) := by decide +kernel
theorem dX12_isWord_39 : decode cX12_isWord 39 = .ok (.iload_n 3, 1) := by decide +kernel
theorem dX12_isWord_40 : decode cX12_isWord 40 = .ok (.aload_n 1, 1) := by decide +kernel
theorem dX12_isWord_41 : decode cX12_isWord 41 = .ok (.invokevirtual 144, 3) := by decide +kernel
theorem dX12_isWord_44 : decode cX12_isWord 44 = .ok (.if_icmp .ne 30, 3) := by decide +kernel
theorem dX12_isWord_47 : decode cX12_isWord 47 = .ok (.aload_n 0, 1) := by decide +kernel
theorem dX12_isWord_48 : decode cX12_isWord 48 = .ok (.aload_n 0, 1) := by decide +kernel
theorem dX12_isWord_49 : decode cX12_isWord 49 = .ok (.getfield 133, 3) := by decide +kernel
theorem dX12_isWord_52 : decode cX12_isWord 52 = .ok (.iload_n 3, 1) := by decide +kernel
theorem dX12_isWord_53 : decode cX12_isWord 53 = .ok (.iadd, 1) := by decide +kernel
theorem dX12_isWord_54 : decode cX12_isWord 54 = .ok (.invokevirtual 136, 3) := by decide +kernel
theorem dX12_isWord_57 : decode cX12_isWord 57 = .ok (.i2l, 1) := by decide +kernel
theorem dX12_isWord_58 : decode cX12_isWord 58 = .ok (.ldc2_w 153, 3) := by decide +kernel
theorem dX12_isWord_61 : decode cX12_isWord 61 = .ok (.ldc2_w 155, 3) := by decide +kernel
theorem dX12_isWord_64 : decode cX12_isWord 64 = .ok (.invokestatic 82, 3) := by decide +kernel
theorem dX12_isWord_67 : decode cX12_isWord 67 = .ok (.ifCond .ne 7, 3) := by decide +kernel
theorem dX12_isWord_70 : decode cX12_isWord 70 = .ok (.iconst 1, 1) := by decide +kernel
theorem dX12_isWord_71 : decode cX12_isWord 71 = .ok (.goto 4, 3) := by decide +kernel
theorem dX12_isWord_74 : decode cX12_isWord 74 = .ok (.iconst 0, 1) := by decide +kernel
theorem dX12_isWord_75 : decode cX12_isWord 75 = .ok (.ireturn, 1) := by decide +kernel
theorem dX12_readsNumber_0 : decode cX12_readsNumber 0 = .ok (.aload_n 0, 1) := by decide +kernel
theorem dX12_readsNumber_1 : decode cX12_readsNumber 1 = .ok (.invokevirtual 142, 3) := by decide +kernel
theorem dX12_readsNumber_4 : decode cX12_readsNumber 4 = .ok (.istore_n 3, 1) := by decide +kernel
theorem dX12_readsNumber_5 : decode cX12_readsNumber 5 = .ok (.aload_n 0, 1) := by decide +kernel
theorem dX12_readsNumber_6 : decode cX12_readsNumber 6 = .ok (.aload_n 0, 1) := by decide +kernel
theorem dX12_readsNumber_7 : decode cX12_readsNumber 7 = .ok (.getfield 133, 3) := by decide +kernel
theorem dX12_readsNumber_10 : decode cX12_readsNumber 10 = .ok (.putfield 157, 3) := by decide +kernel
theorem dX12_readsNumber_13 : decode cX12_readsNumber 13 = .ok (.iload_n 3, 1) := by decide +kernel
theorem dX12_readsNumber_14 : decode cX12_readsNumber 14 = .ok (.i2l, 1) := by decide +kernel
theorem dX12_readsNumber_15 : decode cX12_readsNumber 15 = .ok (.ldc2_w 160, 3) := by decide +kernel
theorem dX12_readsNumber_18 : decode cX12_readsNumber 18 = .ok (.ldc2_w 162, 3) := by decide +kernel
theorem dX12_readsNumber_21 : decode cX12_readsNumber 21 = .ok (.invokestatic 82, 3) := by decide +kernel
theorem dX12_readsNumber_24 : decode cX12_readsNumber 24 = .ok (.ifCond .ne 13, 3) := by decide +kernel
theorem dX12_readsNumber_27 : decode cX12_readsNumber 27 = .ok (.aload_n 0, 1) := by decide +kernel
theorem dX12_readsNumber_28 : decode cX12_readsNumber 28 = .ok (.iconst 1, 1) := by decide +kernel
theorem dX12_readsNumber_29 : decode cX12_readsNumber 29 = .ok (.aload_n 0, 1) := by decide +kernel
theorem dX12_readsNumber_30 : decode cX12_readsNumber 30 = .ok (.getfield 133, 3) := by decide +kernel
theorem dX12_readsNumber_33 : decode cX12_readsNumber 33 = .ok (.invokevirtual 164, 3) := by decide +kernel
theorem dX12_readsNumber_36 : decode cX12_readsNumber 36 = .ok (.ireturn, 1) := by decide +kernel
theorem dX12_readsNumber_37 : decode cX12_readsNumber 37 = .ok (.iconst 0, 1) := by decide +kernel
theorem dX12_readsNumber_38 : decode cX12_readsNumber 38 = .ok (.istore 4, 2) := by decide +kernel
theorem dX12_readsNumber_40 : decode cX12_readsNumber 40 = .ok (.aload_n 0, 1) := by decide +kernel
theorem dX12_readsNumber_41 : decode cX12_readsNumber 41 = .ok (.aload_n 0, 1) := by decide +kernel
theorem dX12_readsNumber_42 : decode cX12_readsNumber 42 = .ok (.getfield 133, 3) := by decide +kernel
theorem dX12_readsNumber_45 : decode cX12_readsNumber 45 = .ok (.invokevirtual 136, 3) := by decide +kernel
theorem dX12_readsNumber_48 : decode cX12_readsNumber 48 = .ok (.i2l, 1) := by decide +kernel
theorem dX12_readsNumber_49 : decode cX12_readsNumber 49 = .ok (.ldc2_w 160, 3) := by decide +kernel
theorem dX12_readsNumber_52 : decode cX12_readsNumber 52 = .ok (.ldc2_w 162, 3) := by decide +kernel
theorem dX12_readsNumber_55 : decode cX12_readsNumber 55 = .ok (.invokestatic 82, 3) := by decide +kernel
theorem dX12_readsNumber_58 : decode cX12_readsNumber 58 = .ok (.ifCond .eq 48, 3) := by decide +kernel
theorem dX12_readsNumber_61 : decode cX12_readsNumber 61 = .ok (.iload 4, 2) := by decide +kernel
theorem dX12_readsNumber_63 : decode cX12_readsNumber 63 = .ok (.sipush 9999, 3) := by decide +kernel
theorem dX12_readsNumber_66 : decode cX12_readsNumber 66 = .ok (.if_icmp .le 8, 3) := by decide +kernel
theorem dX12_readsNumber_69 : decode cX12_readsNumber 69 = .ok (.iload 4, 2) := by decide +kernel
theorem dX12_readsNumber_71 : decode cX12_readsNumber 71 = .ok (.goto 20, 3) := by decide +kernel
theorem dX12_readsNumber_74 : decode cX12_readsNumber 74 = .ok (.bipush 10, 2) := by decide +kernel
theorem dX12_readsNumber_76 : decode cX12_readsNumber 76 = .ok (.iload 4, 2) := by decide +kernel
theorem dX12_readsNumber_78 : decode cX12_readsNumber 78 = .ok (.imul, 1) := by decide +kernel
theorem dX12_readsNumber_79 : decode cX12_readsNumber 79 = .ok (.aload_n 0, 1) := by decide +kernel
theorem dX12_readsNumber_80 : decode cX12_readsNumber 80 = .ok (.aload_n 0, 1) := by decide +kernel
theorem dX12_readsNumber_81 : decode cX12_readsNumber 81 = .ok (.getfield 133, 3) := by decide +kernel
theorem dX12_readsNumber_84 : decode cX12_readsNumber 84 = .ok (.invokevirtual 136, 3) := by decide +kernel
theorem dX12_readsNumber_87 : decode cX12_readsNumber 87 = .ok (.iadd, 1) := by decide +kernel
theorem dX12_readsNumber_88 : decode cX12_readsNumber 88 = .ok (.bipush 48, 2) := by decide +kernel
theorem dX12_readsNumber_90 : decode cX12_readsNumber 90 = .ok (.isub, 1) := by decide +kernel
theorem dX12_readsNumber_91 : decode cX12_readsNumber 91 = .ok (.istore 4, 2) := by decide +kernel
theorem dX12_readsNumber_93 : decode cX12_readsNumber 93 = .ok (.aload_n 0, 1) := by decide +kernel
theorem dX12_readsNumber_94 : decode cX12_readsNumber 94 = .ok (.dup, 1) := by decide +kernel
theorem dX12_readsNumber_95 : decode cX12_readsNumber 95 = .ok (.getfield 133, 3) := by decide +kernel
theorem dX12_readsNumber_98 : decode cX12_readsNumber 98 = .ok (.iconst 1, 1) := by decide +kernel
theorem dX12_readsNumber_99 : decode cX12_readsNumber 99 = .ok (.iadd, 1) := by decide +kernel
theorem dX12_readsNumber_100 : decode cX12_readsNumber 100 = .ok (.putfield 133, 3) := by decide +kernel
theorem dX12_readsNumber_103 : decode cX12_readsNumber 103 = .ok (.goto (-63), 3) := by decide +kernel
theorem dX12_readsNumber_106 : decode cX12_readsNumber 106 = .ok (.aload_n 0, 1) := by decide +kernel
theorem dX12_readsNumber_107 : decode cX12_readsNumber 107 = .ok (.iload 4, 2) := by decide +kernel
theorem dX12_readsNumber_109 : decode cX12_readsNumber 109 = .ok (.putfield 167, 3) := by decide +kernel
theorem dX12_readsNumber_112 : decode cX12_readsNumber 112 = .ok (.iload 4, 2) := by decide +kernel
theorem dX12_readsNumber_114 : decode cX12_readsNumber 114 = .ok (.i2l, 1) := by decide +kernel
theorem dX12_readsNumber_115 : decode cX12_readsNumber 115 = .ok (.iload_n 1, 1) := by decide +kernel
theorem dX12_readsNumber_116 : decode cX12_readsNumber 116 = .ok (.i2l, 1) := by decide +kernel
theorem dX12_readsNumber_117 : decode cX12_readsNumber 117 = .ok (.iload_n 2, 1) := by decide +kernel
theorem dX12_readsNumber_118 : decode cX12_readsNumber 118 = .ok (.i2l, 1) := by decide +kernel
theorem dX12_readsNumber_119 : decode cX12_readsNumber 119 = .ok (.invokestatic 82, 3) := by decide +kernel
theorem dX12_readsNumber_122 : decode cX12_readsNumber 122 = .ok (.ifCond .ne 15, 3) := by decide +kernel
theorem dX12_readsNumber_125 : decode cX12_readsNumber 125 = .ok (.aload_n 0, 1) := by decide +kernel
theorem dX12_readsNumber_126 : decode cX12_readsNumber 126 = .ok (.iconst 2, 1) := by decide +kernel
theorem dX12_readsNumber_127 : decode cX12_readsNumber 127 = .ok (.aload_n 0, 1) := by decide +kernel
theorem dX12_readsNumber_128 : decode cX12_readsNumber 128 = .ok (.getfield 157, 3) := by decide +kernel
theorem dX12_readsNumber_131 : decode cX12_readsNumber 131 = .ok (.invokevirtual 164, 3) := by decide +kernel
theorem dX12_readsNumber_134 : decode cX12_readsNumber 134 = .ok (.ifCond .eq 7, 3) := by decide +kernel
theorem dX12_readsNumber_137 : decode cX12_readsNumber 137 = .ok (.iconst 1, 1) := by decide +kernel
theorem dX12_readsNumber_138 : decode cX12_readsNumber 138 = .ok (.goto 4, 3) := by decide +kernel
theorem dX12_readsNumber_141 : decode cX12_readsNumber 141 = .ok (.iconst 0, 1) := by decide +kernel
theorem dX12_readsNumber_142 : decode cX12_readsNumber 142 = .ok (.ireturn, 1) := by decide +kernel
theorem dX12_alone_0 : decode cX12_alone 0 = .ok (.aload_n 0, 1) := by decide +kernel
theorem dX12_alone_1 : decode cX12_alone 1 = .ok (.iload_n 1, 1) := by decide +kernel
theorem dX12_alone_2 : decode cX12_alone 2 = .ok (.putfield 170, 3) := by decide +kernel
theorem dX12_alone_5 : decode cX12_alone 5 = .ok (.iconst 0, 1) := by decide +kernel
theorem dX12_alone_6 : decode cX12_alone 6 = .ok (.istore_n 2, 1) := by decide +kernel
theorem dX12_alone_7 : decode cX12_alone 7 = .ok (.iload_n 2, 1) := by decide +kernel
theorem dX12_alone_8 : decode cX12_alone 8 = .ok (.bipush 16, 2) := by decide +kernel
theorem dX12_alone_10 : decode cX12_alone 10 = .ok (.if_icmp .ge 27, 3) := by decide +kernel
theorem dX12_alone_13 : decode cX12_alone 13 = .ok (.aload_n 0, 1) := by decide +kernel
theorem dX12_alone_14 : decode cX12_alone 14 = .ok (.getfield 29, 3) := by decide +kernel
theorem dX12_alone_17 : decode cX12_alone 17 = .ok (.iload_n 2, 1) := by decide +kernel
theorem dX12_alone_18 : decode cX12_alone 18 = .ok (.iload_n 2, 1) := by decide +kernel
theorem dX12_alone_19 : decode cX12_alone 19 = .ok (.iload_n 1, 1) := by decide +kernel
theorem dX12_alone_20 : decode cX12_alone 20 = .ok (.if_icmp .ge 9, 3) := by decide +kernel
theorem dX12_alone_23 : decode cX12_alone 23 = .ok (.iconst 1, 1) := by decide +kernel
theorem dX12_alone_24 : decode cX12_alone 24 = .ok (.iload_n 2, 1) := by decide +kernel
theorem dX12_alone_25 : decode cX12_alone 25 = .ok (.ishl, 1) := by decide +kernel
theorem dX12_alone_26 : decode cX12_alone 26 = .ok (.goto 4, 3) := by decide +kernel
theorem dX12_alone_29 : decode cX12_alone 29 = .ok (.iconst 0, 1) := by decide +kernel
theorem dX12_alone_30 : decode cX12_alone 30 = .ok (.iastore, 1) := by decide +kernel
theorem dX12_alone_31 : decode cX12_alone 31 = .ok (.iinc 2 1, 3) := by decide +kernel
theorem dX12_alone_34 : decode cX12_alone 34 = .ok (.goto (-27), 3) := by decide +kernel
theorem dX12_alone_37 : decode cX12_alone 37 = .ok (.return_, 1) := by decide +kernel
theorem dX12_readsFree_0 : decode cX12_readsFree 0 = .ok (.aload_n 0, 1) := by decide +kernel
theorem dX12_readsFree_1 : decode cX12_readsFree 1 = .ok (.dup, 1) := by decide +kernel
theorem dX12_readsFree_2 : decode cX12_readsFree 2 = .ok (.getfield 133, 3) := by decide +kernel
theorem dX12_readsFree_5 : decode cX12_readsFree 5 = .ok (.iconst 4, 1) := by decide +kernel
theorem dX12_readsFree_6 : decode cX12_readsFree 6 = .ok (.iadd, 1) := by decide +kernel
theorem dX12_readsFree_7 : decode cX12_readsFree 7 = .ok (.putfield 133, 3) := by decide +kernel
theorem dX12_readsFree_10 : decode cX12_readsFree 10 = .ok (.aload_n 0, 1) := by decide +kernel
theorem dX12_readsFree_11 : decode cX12_readsFree 11 = .ok (.iconst 1, 1) := by decide +kernel
theorem dX12_readsFree_12 : decode cX12_readsFree 12 = .ok (.bipush 16, 2) := by decide +kernel
theorem dX12_readsFree_14 : decode cX12_readsFree 14 = .ok (.invokevirtual 173, 3) := by decide +kernel
theorem dX12_readsFree_17 : decode cX12_readsFree 17 = .ok (.ifCond .ne 5, 3) := by decide +kernel
theorem dX12_readsFree_20 : decode cX12_readsFree 20 = .ok (.iconst 0, 1) := by decide +kernel
theorem dX12_readsFree_21 : decode cX12_readsFree 21 = .ok (.ireturn, 1) := by decide +kernel
theorem dX12_readsFree_22 : decode cX12_readsFree 22 = .ok (.aload_n 0, 1) := by decide +kernel
theorem dX12_readsFree_23 : decode cX12_readsFree 23 = .ok (.aload_n 0, 1) := by decide +kernel
theorem dX12_readsFree_24 : decode cX12_readsFree 24 = .ok (.getfield 167, 3) := by decide +kernel
theorem dX12_readsFree_27 : decode cX12_readsFree 27 = .ok (.invokevirtual 176, 3) := by decide +kernel
theorem dX12_readsFree_30 : decode cX12_readsFree 30 = .ok (.iconst 1, 1) := by decide +kernel
theorem dX12_readsFree_31 : decode cX12_readsFree 31 = .ok (.ireturn, 1) := by decide +kernel
theorem dX12_readsChain_0 : decode cX12_readsChain 0 = .ok (.aload_n 0, 1) := by decide +kernel
theorem dX12_readsChain_1 : decode cX12_readsChain 1 = .ok (.dup, 1) := by decide +kernel
theorem dX12_readsChain_2 : decode cX12_readsChain 2 = .ok (.getfield 133, 3) := by decide +kernel
theorem dX12_readsChain_5 : decode cX12_readsChain 5 = .ok (.iconst 5, 1) := by decide +kernel
theorem dX12_readsChain_6 : decode cX12_readsChain 6 = .ok (.iadd, 1) := by decide +kernel
theorem dX12_readsChain_7 : decode cX12_readsChain 7 = .ok (.putfield 133, 3) := by decide +kernel
theorem dX12_readsChain_10 : decode cX12_readsChain 10 = .ok (.aload_n 0, 1) := by decide +kernel
theorem dX12_readsChain_11 : decode cX12_readsChain 11 = .ok (.iconst 1, 1) := by decide +kernel
theorem dX12_readsChain_12 : decode cX12_readsChain 12 = .ok (.bipush 16, 2) := by decide +kernel
theorem dX12_readsChain_14 : decode cX12_readsChain 14 = .ok (.invokevirtual 173, 3) := by decide +kernel
theorem dX12_readsChain_17 : decode cX12_readsChain 17 = .ok (.ifCond .ne 5, 3) := by decide +kernel
theorem dX12_readsChain_20 : decode cX12_readsChain 20 = .ok (.iconst 0, 1) := by decide +kernel
theorem dX12_readsChain_21 : decode cX12_readsChain 21 = .ok (.ireturn, 1) := by decide +kernel
theorem dX12_readsChain_22 : decode cX12_readsChain 22 = .ok (.aload_n 0, 1) := by decide +kernel
theorem dX12_readsChain_23 : decode cX12_readsChain 23 = .ok (.aload_n 0, 1) := by decide +kernel
theorem dX12_readsChain_24 : decode cX12_readsChain 24 = .ok (.getfield 167, 3) := by decide +kernel
theorem dX12_readsChain_27 : decode cX12_readsChain 27 = .ok (.invokevirtual 176, 3) := by decide +kernel
theorem dX12_readsChain_30 : decode cX12_readsChain 30 = .ok (.iconst 0, 1) := by decide +kernel
theorem dX12_readsChain_31 : decode cX12_readsChain 31 = .ok (.istore_n 1, 1) := by decide +kernel
theorem dX12_readsChain_32 : decode cX12_readsChain 32 = .ok (.iload_n 1, 1) := by decide +kernel
theorem dX12_readsChain_33 : decode cX12_readsChain 33 = .ok (.aload_n 0, 1) := by decide +kernel
theorem dX12_readsChain_34 : decode cX12_readsChain 34 = .ok (.getfield 170, 3) := by decide +kernel
theorem dX12_readsChain_37 : decode cX12_readsChain 37 = .ok (.if_icmp .ge 37, 3) := by decide +kernel
theorem dX12_readsChain_40 : decode cX12_readsChain 40 = .ok (.iload_n 1, 1) := by decide +kernel
theorem dX12_readsChain_41 : decode cX12_readsChain 41 = .ok (.istore_n 2, 1) := by decide +kernel
theorem dX12_readsChain_42 : decode cX12_readsChain 42 = .ok (.iload_n 2, 1) := by decide +kernel
theorem dX12_readsChain_43 : decode cX12_readsChain 43 = .ok (.aload_n 0, 1) := by decide +kernel
theorem dX12_readsChain_44 : decode cX12_readsChain 44 = .ok (.getfield 170, 3) := by decide +kernel
theorem dX12_readsChain_47 : decode cX12_readsChain 47 = .ok (.if_icmp .ge 21, 3) := by decide +kernel
theorem dX12_readsChain_50 : decode cX12_readsChain 50 = .ok (.aload_n 0, 1) := by decide +kernel
theorem dX12_readsChain_51 : decode cX12_readsChain 51 = .ok (.getfield 29, 3) := by decide +kernel
theorem dX12_readsChain_54 : decode cX12_readsChain 54 = .ok (.iload_n 1, 1) := by decide +kernel
theorem dX12_readsChain_55 : decode cX12_readsChain 55 = .ok (.dup2, 1) := by decide +kernel
theorem dX12_readsChain_56 : decode cX12_readsChain 56 = .ok (.iaload, 1) := by decide +kernel
theorem dX12_readsChain_57 : decode cX12_readsChain 57 = .ok (.iconst 1, 1) := by decide +kernel
theorem dX12_readsChain_58 : decode cX12_readsChain 58 = .ok (.iload_n 2, 1) := by decide +kernel
theorem dX12_readsChain_59 : decode cX12_readsChain 59 = .ok (.ishl, 1) := by decide +kernel
theorem dX12_readsChain_60 : decode cX12_readsChain 60 = .ok (.ior, 1) := by decide +kernel
theorem dX12_readsChain_61 : decode cX12_readsChain 61 = .ok (.iastore, 1) := by decide +kernel
theorem dX12_readsChain_62 : decode cX12_readsChain 62 = .ok (.iinc 2 1, 3) := by decide +kernel
theorem dX12_readsChain_65 : decode cX12_readsChain 65 = .ok (.goto (-23), 3) := by decide +kernel
theorem dX12_readsChain_68 : decode cX12_readsChain 68 = .ok (.iinc 1 1, 3) := by decide +kernel
theorem dX12_readsChain_71 : decode cX12_readsChain 71 = .ok (.goto (-39), 3) := by decide +kernel
theorem dX12_readsChain_74 : decode cX12_readsChain 74 = .ok (.iconst 1, 1) := by decide +kernel
theorem dX12_readsChain_75 : decode cX12_readsChain 75 = .ok (.ireturn, 1) := by decide +kernel
theorem dX12_readsCube_0 : decode cX12_readsCube 0 = .ok (.aload_n 0, 1) := by decide +kernel
theorem dX12_readsCube_1 : decode cX12_readsCube 1 = .ok (.dup, 1) := by decide +kernel
theorem dX12_readsCube_2 : decode cX12_readsCube 2 = .ok (.getfield 133, 3) := by decide +kernel
theorem dX12_readsCube_5 : decode cX12_readsCube 5 = .ok (.iconst 4, 1) := by decide +kernel
theorem dX12_readsCube_6 : decode cX12_readsCube 6 = .ok (.iadd, 1) := by decide +kernel
theorem dX12_readsCube_7 : decode cX12_readsCube 7 = .ok (.putfield 133, 3) := by decide +kernel
theorem dX12_readsCube_10 : decode cX12_readsCube 10 = .ok (.aload_n 0, 1) := by decide +kernel
theorem dX12_readsCube_11 : decode cX12_readsCube 11 = .ok (.iconst 0, 1) := by decide +kernel
theorem dX12_readsCube_12 : decode cX12_readsCube 12 = .ok (.iconst 4, 1) := by decide +kernel
theorem dX12_readsCube_13 : decode cX12_readsCube 13 = .ok (.invokevirtual 173, 3) := by decide +kernel
theorem dX12_readsCube_16 : decode cX12_readsCube 16 = .ok (.ifCond .ne 5, 3) := by decide +kernel
theorem dX12_readsCube_19 : decode cX12_readsCube 19 = .ok (.iconst 0, 1) := by decide +kernel
theorem dX12_readsCube_20 : decode cX12_readsCube 20 = .ok (.ireturn, 1) := by decide +kernel
theorem dX12_readsCube_21 : decode cX12_readsCube 21 = .ok (.aload_n 0, 1) := by decide +kernel
theorem dX12_readsCube_22 : decode cX12_readsCube 22 = .ok (.iconst 1, 1) := by decide +kernel
theorem dX12_readsCube_23 : decode cX12_readsCube 23 = .ok (.aload_n 0, 1) := by decide +kernel
theorem dX12_readsCube_24 : decode cX12_readsCube 24 = .ok (.getfield 167, 3) := by decide +kernel
theorem dX12_readsCube_27 : decode cX12_readsCube 27 = .ok (.ishl, 1) := by decide +kernel
theorem dX12_readsCube_28 : decode cX12_readsCube 28 = .ok (.invokevirtual 176, 3) := by decide +kernel
theorem dX12_readsCube_31 : decode cX12_readsCube 31 = .ok (.iconst 0, 1) := by decide +kernel
theorem dX12_readsCube_32 : decode cX12_readsCube 32 = .ok (.istore_n 1, 1) := by decide +kernel
theorem dX12_readsCube_33 : decode cX12_readsCube 33 = .ok (.iload_n 1, 1) := by decide +kernel
theorem dX12_readsCube_34 : decode cX12_readsCube 34 = .ok (.aload_n 0, 1) := by decide +kernel
theorem dX12_readsCube_35 : decode cX12_readsCube 35 = .ok (.getfield 170, 3) := by decide +kernel
theorem dX12_readsCube_38 : decode cX12_readsCube 38 = .ok (.if_icmp .ge 44, 3) := by decide +kernel
theorem dX12_readsCube_41 : decode cX12_readsCube 41 = .ok (.iconst 0, 1) := by decide +kernel
theorem dX12_readsCube_42 : decode cX12_readsCube 42 = .ok (.istore_n 2, 1) := by decide +kernel
theorem dX12_readsCube_43 : decode cX12_readsCube 43 = .ok (.iload_n 2, 1) := by decide +kernel
theorem dX12_readsCube_44 : decode cX12_readsCube 44 = .ok (.aload_n 0, 1) := by decide +kernel
theorem dX12_readsCube_45 : decode cX12_readsCube 45 = .ok (.getfield 170, 3) := by decide +kernel
theorem dX12_readsCube_48 : decode cX12_readsCube 48 = .ok (.if_icmp .ge 28, 3) := by decide +kernel
theorem dX12_readsCube_51 : decode cX12_readsCube 51 = .ok (.iload_n 1, 1) := by decide +kernel
theorem dX12_readsCube_52 : decode cX12_readsCube 52 = .ok (.iload_n 2, 1) := by decide +kernel
theorem dX12_readsCube_53 : decode cX12_readsCube 53 = .ok (.iand, 1) := by decide +kernel
theorem dX12_readsCube_54 : decode cX12_readsCube 54 = .ok (.iload_n 1, 1) := by decide +kernel
theorem dX12_readsCube_55 : decode cX12_readsCube 55 = .ok (.if_icmp .ne 15, 3) := by decide +kernel
theorem dX12_readsCube_58 : decode cX12_readsCube 58 = .ok (.aload_n 0, 1) := by decide +kernel
theorem dX12_readsCube_59 : decode cX12_readsCube 59 = .ok (.getfield 29, 3) := by decide +kernel
theorem dX12_readsCube_62 : decode cX12_readsCube 62 = .ok (.iload_n 1, 1) := by decide +kernel
theorem dX12_readsCube_63 : decode cX12_readsCube 63 = .ok (.dup2, 1) := by decide +kernel
theorem dX12_readsCube_64 : decode cX12_readsCube 64 = .ok (.iaload, 1) := by decide +kernel
theorem dX12_readsCube_65 : decode cX12_readsCube 65 = .ok (.iconst 1, 1) := by decide +kernel
theorem dX12_readsCube_66 : decode cX12_readsCube 66 = .ok (.iload_n 2, 1) := by decide +kernel
theorem dX12_readsCube_67 : decode cX12_readsCube 67 = .ok (.ishl, 1) := by decide +kernel
theorem dX12_readsCube_68 : decode cX12_readsCube 68 = .ok (.ior, 1) := by decide +kernel
theorem dX12_readsCube_69 : decode cX12_readsCube 69 = .ok (.iastore, 1) := by decide +kernel
theorem dX12_readsCube_70 : decode cX12_readsCube 70 = .ok (.iinc 2 1, 3) := by decide +kernel
theorem dX12_readsCube_73 : decode cX12_readsCube 73 = .ok (.goto (-30), 3) := by decide +kernel
theorem dX12_readsCube_76 : decode cX12_readsCube 76 = .ok (.iinc 1 1, 3) := by decide +kernel
theorem dX12_readsCube_79 : decode cX12_readsCube 79 = .ok (.goto (-46), 3) := by decide +kernel
theorem dX12_readsCube_82 : decode cX12_readsCube 82 = .ok (.iconst 1, 1) := by decide +kernel
theorem dX12_readsCube_83 : decode cX12_readsCube 83 = .ok (.ireturn, 1) := by decide +kernel
theorem dX12_readsDivisors_0 : decode cX12_readsDivisors 0 = .ok (.aload_n 0, 1) := by decide +kernel
theorem dX12_readsDivisors_1 : decode cX12_readsDivisors 1 = .ok (.dup, 1) := by decide +kernel
theorem dX12_readsDivisors_2 : decode cX12_readsDivisors 2 = .ok (.getfield 133, 3) := by decide +kernel
theorem dX12_readsDivisors_5 : decode cX12_readsDivisors 5 = .ok (.bipush 8, 2) := by decide +kernel
theorem dX12_readsDivisors_7 : decode cX12_readsDivisors 7 = .ok (.iadd, 1) := by decide +kernel
theorem dX12_readsDivisors_8 : decode cX12_readsDivisors 8 = .ok (.putfield 133, 3) := by decide +kernel
theorem dX12_readsDivisors_11 : decode cX12_readsDivisors 11 = .ok (.aload_n 0, 1) := by decide +kernel
theorem dX12_readsDivisors_12 : decode cX12_readsDivisors 12 = .ok (.iconst 1, 1) := by decide +kernel
theorem dX12_readsDivisors_13 : decode cX12_readsDivisors 13 = .ok (.sipush 999, 3) := by decide +kernel
theorem dX12_readsDivisors_16 : decode cX12_readsDivisors 16 = .ok (.invokevirtual 173, 3) := by decide +kernel
theorem dX12_readsDivisors_19 : decode cX12_readsDivisors 19 = .ok (.ifCond .ne 5, 3) := by decide +kernel
theorem dX12_readsDivisors_22 : decode cX12_readsDivisors 22 = .ok (.iconst 0, 1) := by decide +kernel
theorem dX12_readsDivisors_23 : decode cX12_readsDivisors 23 = .ok (.ireturn, 1) := by decide +kernel
theorem dX12_readsDivisors_24 : decode cX12_readsDivisors 24 = .ok (.iconst 0, 1) := by decide +kernel
theorem dX12_readsDivisors_25 : decode cX12_readsDivisors 25 = .ok (.istore_n 1, 1) := by decide +kernel
theorem dX12_readsDivisors_26 : decode cX12_readsDivisors 26 = .ok (.iconst 1, 1) := by decide +kernel
theorem dX12_readsDivisors_27 : decode cX12_readsDivisors 27 = .ok (.istore_n 2, 1) := by decide +kernel
theorem dX12_readsDivisors_28 : decode cX12_readsDivisors 28 = .ok (.iload_n 2, 1) := by decide +kernel
theorem dX12_readsDivisors_29 : decode cX12_readsDivisors 29 = .ok (.aload_n 0, 1) := by decide +kernel
theorem dX12_readsDivisors_30 : decode cX12_readsDivisors 30 = .ok (.getfield 167, 3) := by decide +kernel
theorem dX12_readsDivisors_33 : decode cX12_readsDivisors 33 = .ok (.if_icmp .gt 47, 3) := by decide +kernel
theorem dX12_readsDivisors_36 : decode cX12_readsDivisors 36 = .ok (.aload_n 0, 1) := by decide +kernel
theorem dX12_readsDivisors_37 : decode cX12_readsDivisors 37 = .ok (.getfield 167, 3) := by decide +kernel
theorem dX12_readsDivisors_40 : decode cX12_readsDivisors 40 = .ok (.iload_n 2, 1) := by decide +kernel
theorem dX12_readsDivisors_41 : decode cX12_readsDivisors 41 = .ok (.irem, 1) := by decide +kernel
theorem dX12_readsDivisors_42 : decode cX12_readsDivisors 42 = .ok (.ifCond .eq 6, 3) := by decide +kernel
theorem dX12_readsDivisors_45 : decode cX12_readsDivisors 45 = .ok (.goto 29, 3) := by decide +kernel
theorem dX12_readsDivisors_48 : decode cX12_readsDivisors 48 = .ok (.iload_n 1, 1) := by decide +kernel
theorem dX12_readsDivisors_49 : decode cX12_readsDivisors 49 = .ok (.bipush 16, 2) := by decide +kernel
theorem dX12_readsDivisors_51 : decode cX12_readsDivisors 51 = .ok (.if_icmp .ne 13, 3) := by decide +kernel
theorem dX12_readsDivisors_54 : decode cX12_readsDivisors 54 = .ok (.aload_n 0, 1) := by decide +kernel
theorem dX12_readsDivisors_55 : decode cX12_readsDivisors 55 = .ok (.iconst 2, 1) := by decide +kernel
theorem dX12_readsDivisors_56 : decode cX12_readsDivisors 56 = .ok (.aload_n 0, 1) := by decide +kernel
theorem dX12_readsDivisors_57 : decode cX12_readsDivisors 57 = .ok (.getfield 157, 3) := by decide +kernel
theorem dX12_readsDivisors_60 : decode cX12_readsDivisors 60 = .ok (.invokevirtual 164, 3) := by decide +kernel
theorem dX12_readsDivisors_63 : decode cX12_readsDivisors 63 = .ok (.ireturn, 1) := by decide +kernel
theorem dX12_readsDivisors_64 : decode cX12_readsDivisors 64 = .ok (.aload_n 0, 1) := by decide +kernel
theorem dX12_readsDivisors_65 : decode cX12_readsDivisors 65 = .ok (.getfield 32, 3) := by decide +kernel
theorem dX12_readsDivisors_68 : decode cX12_readsDivisors 68 = .ok (.iload_n 1, 1) := by decide +kernel
theorem dX12_readsDivisors_69 : decode cX12_readsDivisors 69 = .ok (.iload_n 2, 1) := by decide +kernel
theorem dX12_readsDivisors_70 : decode cX12_readsDivisors 70 = .ok (.iastore, 1) := by decide +kernel
theorem dX12_readsDivisors_71 : decode cX12_readsDivisors 71 = .ok (.iinc 1 1, 3) := by decide +kernel
theorem dX12_readsDivisors_74 : decode cX12_readsDivisors 74 = .ok (.iinc 2 1, 3) := by decide +kernel
theorem dX12_readsDivisors_77 : decode cX12_readsDivisors 77 = .ok (.goto (-49), 3) := by decide +kernel
theorem dX12_readsDivisors_80 : decode cX12_readsDivisors 80 = .ok (.aload_n 0, 1) := by decide +kernel
theorem dX12_readsDivisors_81 : decode cX12_readsDivisors 81 = .ok (.iload_n 1, 1) := by decide +kernel
theorem dX12_readsDivisors_82 : decode cX12_readsDivisors 82 = .ok (.invokevirtual 176, 3) := by decide +kernel
theorem dX12_readsDivisors_85 : decode cX12_readsDivisors 85 = .ok (.iconst 0, 1) := by decide +kernel
theorem dX12_readsDivisors_86 : decode cX12_readsDivisors 86 = .ok (.istore_n 2, 1) := by decide +kernel
theorem dX12_readsDivisors_87 : decode cX12_readsDivisors 87 = .ok (.iload_n 2, 1) := by decide +kernel
theorem dX12_readsDivisors_88 : decode cX12_readsDivisors 88 = .ok (.iload_n 1, 1) := by decide +kernel
theorem dX12_readsDivisors_89 : decode cX12_readsDivisors 89 = .ok (.if_icmp .ge 50, 3) := by decide +kernel
theorem dX12_readsDivisors_92 : decode cX12_readsDivisors 92 = .ok (.iconst 0, 1) := by decide +kernel
theorem dX12_readsDivisors_93 : decode cX12_readsDivisors 93 = .ok (.istore_n 3, 1) := by decide +kernel
theorem dX12_readsDivisors_94 : decode cX12_readsDivisors 94 = .ok (.iload_n 3, 1) := by decide +kernel
theorem dX12_readsDivisors_95 : decode cX12_readsDivisors 95 = .ok (.iload_n 1, 1) := by decide +kernel
theorem dX12_readsDivisors_96 : decode cX12_readsDivisors 96 = .ok (.if_icmp .ge 37, 3) := by decide +kernel
theorem dX12_readsDivisors_99 : decode cX12_readsDivisors 99 = .ok (.aload_n 0, 1) := by decide +kernel
theorem dX12_readsDivisors_100 : decode cX12_readsDivisors 100 = .ok (.getfield 32, 3) := by decide +kernel
theorem dX12_readsDivisors_103 : decode cX12_readsDivisors 103 = .ok (.iload_n 3, 1) := by decide +kernel
theorem dX12_readsDivisors_104 : decode cX12_readsDivisors 104 = .ok (.iaload, 1) := by decide +kernel
theorem dX12_readsDivisors_105 : decode cX12_readsDivisors 105 = .ok (.aload_n 0, 1) := by decide +kernel
theorem dX12_readsDivisors_106 : decode cX12_readsDivisors 106 = .ok (.getfield 32, 3) := by decide +kernel
theorem dX12_readsDivisors_109 : decode cX12_readsDivisors 109 = .ok (.iload_n 2, 1) := by decide +kernel
theorem dX12_readsDivisors_110 : decode cX12_readsDivisors 110 = .ok (.iaload, 1) := by decide +kernel
theorem dX12_readsDivisors_111 : decode cX12_readsDivisors 111 = .ok (.irem, 1) := by decide +kernel
theorem dX12_readsDivisors_112 : decode cX12_readsDivisors 112 = .ok (.ifCond .ne 15, 3) := by decide +kernel
theorem dX12_readsDivisors_115 : decode cX12_readsDivisors 115 = .ok (.aload_n 0, 1) := by decide +kernel
theorem dX12_readsDivisors_116 : decode cX12_readsDivisors 116 = .ok (.getfield 29, 3) := by decide +kernel
theorem dX12_readsDivisors_119 : decode cX12_readsDivisors 119 = .ok (.iload_n 2, 1) := by decide +kernel
theorem dX12_readsDivisors_120 : decode cX12_readsDivisors 120 = .ok (.dup2, 1) := by decide +kernel
theorem dX12_readsDivisors_121 : decode cX12_readsDivisors 121 = .ok (.iaload, 1) := by decide +kernel
theorem dX12_readsDivisors_122 : decode cX12_readsDivisors 122 = .ok (.iconst 1, 1) := by decide +kernel
theorem dX12_readsDivisors_123 : decode cX12_readsDivisors 123 = .ok (.iload_n 3, 1) := by decide +kernel
theorem dX12_readsDivisors_124 : decode cX12_readsDivisors 124 = .ok (.ishl, 1) := by decide +kernel
theorem dX12_readsDivisors_125 : decode cX12_readsDivisors 125 = .ok (.ior, 1) := by decide +kernel
theorem dX12_readsDivisors_126 : decode cX12_readsDivisors 126 = .ok (.iastore, 1) := by decide +kernel
theorem dX12_readsDivisors_127 : decode cX12_readsDivisors 127 = .ok (.iinc 3 1, 3) := by decide +kernel
theorem dX12_readsDivisors_130 : decode cX12_readsDivisors 130 = .ok (.goto (-36), 3) := by decide +kernel
theorem dX12_readsDivisors_133 : decode cX12_readsDivisors 133 = .ok (.iinc 2 1, 3) := by decide +kernel
theorem dX12_readsDivisors_136 : decode cX12_readsDivisors 136 = .ok (.goto (-49), 3) := by decide +kernel
theorem dX12_readsDivisors_139 : decode cX12_readsDivisors 139 = .ok (.iconst 1, 1) := by decide +kernel
theorem dX12_readsDivisors_140 : decode cX12_readsDivisors 140 = .ok (.ireturn, 1) := by decide +kernel
theorem dX12_partOf_0 : decode cX12_partOf 0 = .ok (.iload_n 0, 1) := by decide +kernel
theorem dX12_partOf_1 : decode cX12_partOf 1 = .ok (.iconst 2, 1) := by decide +kernel
theorem dX12_partOf_2 : decode cX12_partOf 2 = .ok (.iconst 3, 1) := by decide +kernel
theorem dX12_partOf_3 : decode cX12_partOf 3 = .ok (.iload_n 1, 1) := by decide +kernel
theorem dX12_partOf_4 : decode cX12_partOf 4 = .ok (.isub, 1) := by decide +kernel
theorem dX12_partOf_5 : decode cX12_partOf 5 = .ok (.imul, 1) := by decide +kernel
theorem dX12_partOf_6 : decode cX12_partOf 6 = .ok (.ishr, 1) := by decide +kernel
theorem dX12_partOf_7 : decode cX12_partOf 7 = .ok (.iconst 3, 1) := by decide +kernel
theorem dX12_partOf_8 : decode cX12_partOf 8 = .ok (.iand, 1) := by decide +kernel
theorem dX12_partOf_9 : decode cX12_partOf 9 = .ok (.ireturn, 1) := by decide +kernel
theorem dX12_isRow_0 : decode cX12_isRow 0 = .ok (.iconst 0, 1) := by decide +kernel
theorem dX12_isRow_1 : decode cX12_isRow 1 = .ok (.istore_n 2, 1) := by decide +kernel
theorem dX12_isRow_2 : decode cX12_isRow 2 = .ok (.iconst 0, 1) := by decide +kernel
theorem dX12_isRow_3 : decode cX12_isRow 3 = .ok (.istore_n 3, 1) := by decide +kernel
theorem dX12_isRow_4 : decode cX12_isRow 4 = .ok (.iload_n 3, 1) := by decide +kernel
theorem dX12_isRow_5 : decode cX12_isRow 5 = .ok (.iload_n 1, 1) := by decide +kernel
theorem dX12_isRow_6 : decode cX12_isRow 6 = .ok (.if_icmp .ge 32, 3) := by decide +kernel
theorem dX12_isRow_9 : decode cX12_isRow 9 = .ok (.iload_n 0, 1) := by decide +kernel
theorem dX12_isRow_10 : decode cX12_isRow 10 = .ok (.iload_n 3, 1) := by decide +kernel
theorem dX12_isRow_11 : decode cX12_isRow 11 = .ok (.invokestatic 180, 3) := by decide +kernel
theorem dX12_isRow_14 : decode cX12_isRow 14 = .ok (.iload_n 2, 1) := by decide +kernel
theorem dX12_isRow_15 : decode cX12_isRow 15 = .ok (.if_icmp .le 5, 3) := by decide +kernel
theorem dX12_isRow_18 : decode cX12_isRow 18 = .ok (.iconst 0, 1) := by decide +kernel
theorem dX12_isRow_19 : decode cX12_isRow 19 = .ok (.ireturn, 1) := by decide +kernel
theorem dX12_isRow_20 : decode cX12_isRow 20 = .ok (.iload_n 0, 1) := by decide +kernel
theorem dX12_isRow_21 : decode cX12_isRow 21 = .ok (.iload_n 3, 1) := by decide +kernel
theorem dX12_isRow_22 : decode cX12_isRow 22 = .ok (.invokestatic 180, 3) := by decide +kernel
theorem dX12_isRow_25 : decode cX12_isRow 25 = .ok (.iload_n 2, 1) := by decide +kernel
theorem dX12_isRow_26 : decode cX12_isRow 26 = .ok (.if_icmp .ne 6, 3) := by decide +kernel
theorem dX12_isRow_29 : decode cX12_isRow 29 = .ok (.iinc 2 1, 3) := by decide +kernel
theorem dX12_isRow_32 : decode cX12_isRow 32 = .ok (.iinc 3 1, 3) := by decide +kernel
theorem dX12_isRow_35 : decode cX12_isRow 35 = .ok (.goto (-31), 3) := by decide +kernel
theorem dX12_isRow_38 : decode cX12_isRow 38 = .ok (.iload_n 1, 1) := by decide +kernel
theorem dX12_isRow_39 : decode cX12_isRow 39 = .ok (.istore_n 3, 1) := by decide +kernel
theorem dX12_isRow_40 : decode cX12_isRow 40 = .ok (.iload_n 3, 1) := by decide +kernel
theorem dX12_isRow_41 : decode cX12_isRow 41 = .ok (.iconst 4, 1) := by decide +kernel
theorem dX12_isRow_42 : decode cX12_isRow 42 = .ok (.if_icmp .ge 19, 3) := by decide +kernel
theorem dX12_isRow_45 : decode cX12_isRow 45 = .ok (.iload_n 0, 1) := by decide +kernel
theorem dX12_isRow_46 : decode cX12_isRow 46 = .ok (.iload_n 3, 1) := by decide +kernel
theorem dX12_isRow_47 : decode cX12_isRow 47 = .ok (.invokestatic 180, 3) := by decide +kernel
theorem dX12_isRow_50 : decode cX12_isRow 50 = .ok (.ifCond .eq 5, 3) := by decide +kernel
theorem dX12_isRow_53 : decode cX12_isRow 53 = .ok (.iconst 0, 1) := by decide +kernel
theorem dX12_isRow_54 : decode cX12_isRow 54 = .ok (.ireturn, 1) := by decide +kernel
theorem dX12_isRow_55 : decode cX12_isRow 55 = .ok (.iinc 3 1, 3) := by decide +kernel
theorem dX12_isRow_58 : decode cX12_isRow 58 = .ok (.goto (-18), 3) := by decide +kernel
theorem dX12_isRow_61 : decode cX12_isRow 61 = .ok (.iconst 1, 1) := by decide +kernel
theorem dX12_isRow_62 : decode cX12_isRow 62 = .ok (.ireturn, 1) := by decide +kernel
theorem dX12_isFiner_0 : decode cX12_isFiner 0 = .ok (.iconst 0, 1) := by decide +kernel
theorem dX12_isFiner_1 : decode cX12_isFiner 1 = .ok (.istore_n 3, 1) := by decide +kernel
theorem dX12_isFiner_2 : decode cX12_isFiner 2 = .ok (.iload_n 3, 1) := by decide +kernel
theorem dX12_isFiner_3 : decode cX12_isFiner 3 = .ok (.iload_n 2, 1) := by decide +kernel
theorem dX12_isFiner_4 : decode cX12_isFiner 4 = .ok (.if_icmp .ge 54, 3) := by decide +kernel
theorem dX12_isFiner_7 : decode cX12_isFiner 7 = .ok (.iconst 0, 1) := by decide +kernel
theorem dX12_isFiner_8 : decode cX12_isFiner 8 = .ok (.istore 4, 2) := by decide +kernel
theorem dX12_isFiner_10 : decode cX12_isFiner 10 = .ok (.iload 4, 2) := by decide +kernel
theorem dX12_isFiner_12 : decode cX12_isFiner 12 = .ok (.iload_n 3, 1) := by decide +kernel
theorem dX12_isFiner_13 : decode cX12_isFiner 13 = .ok (.if_icmp .ge 39, 3) := by decide +kernel
theorem dX12_isFiner_16 : decode cX12_isFiner 16 = .ok (.iload_n 0, 1) := by decide +kernel
theorem dX12_isFiner_17 : decode cX12_isFiner 17 = .ok (.iload_n 3, 1) := by decide +kernel
theorem dX12_isFiner_18 : decode cX12_isFiner 18 = .ok (.invokestatic 180, 3) := by decide +kernel
theorem dX12_isFiner_21 : decode cX12_isFiner 21 = .ok (.iload_n 0, 1) := by decide +kernel
theorem dX12_isFiner_22 : decode cX12_isFiner 22 = .ok (.iload 4, 2) := by decide +kernel
theorem dX12_isFiner_24 : decode cX12_isFiner 24 = .ok (.invokestatic 180, 3) := by decide +kernel
theorem dX12_isFiner_27 : decode cX12_isFiner 27 = .ok (.if_icmp .ne 19, 3) := by decide +kernel
theorem dX12_isFiner_30 : decode cX12_isFiner 30 = .ok (.iload_n 1, 1) := by decide +kernel
theorem dX12_isFiner_31 : decode cX12_isFiner 31 = .ok (.iload_n 3, 1) := by decide +kernel
theorem dX12_isFiner_32 : decode cX12_isFiner 32 = .ok (.invokestatic 180, 3) := by decide +kernel
theorem dX12_isFiner_35 : decode cX12_isFiner 35 = .ok (.iload_n 1, 1) := by decide +kernel
theorem dX12_isFiner_36 : decode cX12_isFiner 36 = .ok (.iload 4, 2) := by decide +kernel
theorem dX12_isFiner_38 : decode cX12_isFiner 38 = .ok (.invokestatic 180, 3) := by decide +kernel
theorem dX12_isFiner_41 : decode cX12_isFiner 41 = .ok (.if_icmp .eq 5, 3) := by decide +kernel
theorem dX12_isFiner_44 : decode cX12_isFiner 44 = .ok (.iconst 0, 1) := by decide +kernel
theorem dX12_isFiner_45 : decode cX12_isFiner 45 = .ok (.ireturn, 1) := by decide +kernel
theorem dX12_isFiner_46 : decode cX12_isFiner 46 = .ok (.iinc 4 1, 3) := by decide +kernel
theorem dX12_isFiner_49 : decode cX12_isFiner 49 = .ok (.goto (-39), 3) := by decide +kernel
theorem dX12_isFiner_52 : decode cX12_isFiner 52 = .ok (.iinc 3 1, 3) := by decide +kernel
theorem dX12_isFiner_55 : decode cX12_isFiner 55 = .ok (.goto (-53), 3) := by decide +kernel
theorem dX12_isFiner_58 : decode cX12_isFiner 58 = .ok (.iconst 1, 1) := by decide +kernel
theorem dX12_isFiner_59 : decode cX12_isFiner 59 = .ok (.ireturn, 1) := by decide +kernel
theorem dX12_readsParts_0 : decode cX12_readsParts 0 = .ok (.aload_n 0, 1) := by decide +kernel
theorem dX12_readsParts_1 : decode cX12_readsParts 1 = .ok (.dup, 1) := by decide +kernel
theorem dX12_readsParts_2 : decode cX12_readsParts 2 = .ok (.getfield 133, 3) := by decide +kernel
theorem dX12_readsParts_5 : decode cX12_readsParts 5 = .ok (.iconst 5, 1) := by decide +kernel
theorem dX12_readsParts_6 : decode cX12_readsParts 6 = .ok (.iadd, 1) := by decide +kernel
theorem dX12_readsParts_7 : decode cX12_readsParts 7 = .ok (.putfield 133, 3) := by decide +kernel
theorem dX12_readsParts_10 : decode cX12_readsParts 10 = .ok (.aload_n 0, 1) := by decide +kernel
theorem dX12_readsParts_11 : decode cX12_readsParts 11 = .ok (.iconst 1, 1) := by decide +kernel
theorem dX12_readsParts_12 : decode cX12_readsParts 12 = .ok (.iconst 4, 1) := by decide +kernel
theorem dX12_readsParts_13 : decode cX12_readsParts 13 = .ok (.invokevirtual 173, 3) := by decide +kernel
theorem dX12_readsParts_16 : decode cX12_readsParts 16 = .ok (.ifCond .ne 5, 3) := by decide +kernel
theorem dX12_readsParts_19 : decode cX12_readsParts 19 = .ok (.iconst 0, 1) := by decide +kernel
theorem dX12_readsParts_20 : decode cX12_readsParts 20 = .ok (.ireturn, 1) := by decide +kernel
theorem dX12_readsParts_21 : decode cX12_readsParts 21 = .ok (.iconst 0, 1) := by decide +kernel
theorem dX12_readsParts_22 : decode cX12_readsParts 22 = .ok (.istore_n 1, 1) := by decide +kernel
theorem dX12_readsParts_23 : decode cX12_readsParts 23 = .ok (.iconst 0, 1) := by decide +kernel
theorem dX12_readsParts_24 : decode cX12_readsParts 24 = .ok (.istore_n 2, 1) := by decide +kernel
theorem dX12_readsParts_25 : decode cX12_readsParts 25 = .ok (.iload_n 2, 1) := by decide +kernel
theorem dX12_readsParts_26 : decode cX12_readsParts 26 = .ok (.sipush 256, 3) := by decide +kernel
theorem dX12_readsParts_29 : decode cX12_readsParts 29 = .ok (.if_icmp .ge 33, 3) := by decide +kernel
theorem dX12_readsParts_32 : decode cX12_readsParts 32 = .ok (.iload_n 2, 1) := by decide +kernel
theorem dX12_readsParts_33 : decode cX12_readsParts 33 = .ok (.aload_n 0, 1) := by decide +kernel
theorem dX12_readsParts_34 : decode cX12_readsParts 34 = .ok (.getfield 167, 3) := by decide +kernel
theorem dX12_readsParts_37 : decode cX12_readsParts 37 = .ok (.invokestatic 183, 3) := by decide +kernel
theorem dX12_readsParts_40 : decode cX12_readsParts 40 = .ok (.ifCond .ne 6, 3) := by decide +kernel
theorem dX12_readsParts_43 : decode cX12_readsParts 43 = .ok (.goto 13, 3) := by decide +kernel
theorem dX12_readsParts_46 : decode cX12_readsParts 46 = .ok (.aload_n 0, 1) := by decide +kernel
theorem dX12_readsParts_47 : decode cX12_readsParts 47 = .ok (.getfield 32, 3) := by decide +kernel
theorem dX12_readsParts_50 : decode cX12_readsParts 50 = .ok (.iload_n 1, 1) := by decide +kernel
theorem dX12_readsParts_51 : decode cX12_readsParts 51 = .ok (.iload_n 2, 1) := by decide +kernel
theorem dX12_readsParts_52 : decode cX12_readsParts 52 = .ok (.iastore, 1) := by decide +kernel
theorem dX12_readsParts_53 : decode cX12_readsParts 53 = .ok (.iinc 1 1, 3) := by decide +kernel
theorem dX12_readsParts_56 : decode cX12_readsParts 56 = .ok (.iinc 2 1, 3) := by decide +kernel
theorem dX12_readsParts_59 : decode cX12_readsParts 59 = .ok (.goto (-34), 3) := by decide +kernel
theorem dX12_readsParts_62 : decode cX12_readsParts 62 = .ok (.aload_n 0, 1) := by decide +kernel
theorem dX12_readsParts_63 : decode cX12_readsParts 63 = .ok (.iload_n 1, 1) := by decide +kernel
theorem dX12_readsParts_64 : decode cX12_readsParts 64 = .ok (.invokevirtual 176, 3) := by decide +kernel
theorem dX12_readsParts_67 : decode cX12_readsParts 67 = .ok (.iconst 0, 1) := by decide +kernel
theorem dX12_readsParts_68 : decode cX12_readsParts 68 = .ok (.istore_n 2, 1) := by decide +kernel
theorem dX12_readsParts_69 : decode cX12_readsParts 69 = .ok (.iload_n 2, 1) := by decide +kernel
theorem dX12_readsParts_70 : decode cX12_readsParts 70 = .ok (.iload_n 1, 1) := by decide +kernel
theorem dX12_readsParts_71 : decode cX12_readsParts 71 = .ok (.if_icmp .ge 56, 3) := by decide +kernel
theorem dX12_readsParts_74 : decode cX12_readsParts 74 = .ok (.iconst 0, 1) := by decide +kernel
theorem dX12_readsParts_75 : decode cX12_readsParts 75 = .ok (.istore_n 3, 1) := by decide +kernel
theorem dX12_readsParts_76 : decode cX12_readsParts 76 = .ok (.iload_n 3, 1) := by decide +kernel
theorem dX12_readsParts_77 : decode cX12_readsParts 77 = .ok (.iload_n 1, 1) := by decide +kernel
theorem dX12_readsParts_78 : decode cX12_readsParts 78 = .ok (.if_icmp .ge 43, 3) := by decide +kernel
theorem dX12_readsParts_81 : decode cX12_readsParts 81 = .ok (.aload_n 0, 1) := by decide +kernel
theorem dX12_readsParts_82 : decode cX12_readsParts 82 = .ok (.getfield 32, 3) := by decide +kernel
theorem dX12_readsParts_85 : decode cX12_readsParts 85 = .ok (.iload_n 2, 1) := by decide +kernel
theorem dX12_readsParts_86 : decode cX12_readsParts 86 = .ok (.iaload, 1) := by decide +kernel
theorem dX12_readsParts_87 : decode cX12_readsParts 87 = .ok (.aload_n 0, 1) := by decide +kernel
theorem dX12_readsParts_88 : decode cX12_readsParts 88 = .ok (.getfield 32, 3) := by decide +kernel
theorem dX12_readsParts_91 : decode cX12_readsParts 91 = .ok (.iload_n 3, 1) := by decide +kernel
theorem dX12_readsParts_92 : decode cX12_readsParts 92 = .ok (.iaload, 1) := by decide +kernel
theorem dX12_readsParts_93 : decode cX12_readsParts 93 = .ok (.aload_n 0, 1) := by decide +kernel
theorem dX12_readsParts_94 : decode cX12_readsParts 94 = .ok (.getfield 167, 3) := by decide +kernel
theorem dX12_readsParts_97 : decode cX12_readsParts 97 = .ok (.invokestatic 186, 3) := by decide +kernel
theorem dX12_readsParts_100 : decode cX12_readsParts 100 = .ok (.ifCond .eq 15, 3) := by decide +kernel
theorem dX12_readsParts_103 : decode cX12_readsParts 103 = .ok (.aload_n 0, 1) := by decide +kernel
theorem dX12_readsParts_104 : decode cX12_readsParts 104 = .ok (.getfield 29, 3) := by decide +kernel
theorem dX12_readsParts_107 : decode cX12_readsParts 107 = .ok (.iload_n 2, 1) := by decide +kernel
theorem dX12_readsParts_108 : decode cX12_readsParts 108 = .ok (.dup2, 1) := by decide +kernel
theorem dX12_readsParts_109 : decode cX12_readsParts 109 = .ok (.iaload, 1) := by decide +kernel
theorem dX12_readsParts_110 : decode cX12_readsParts 110 = .ok (.iconst 1, 1) := by decide +kernel
theorem dX12_readsParts_111 : decode cX12_readsParts 111 = .ok (.iload_n 3, 1) := by decide +kernel
theorem dX12_readsParts_112 : decode cX12_readsParts 112 = .ok (.ishl, 1) := by decide +kernel
theorem dX12_readsParts_113 : decode cX12_readsParts 113 = .ok (.ior, 1) := by decide +kernel
theorem dX12_readsParts_114 : decode cX12_readsParts 114 = .ok (.iastore, 1) := by decide +kernel
theorem dX12_readsParts_115 : decode cX12_readsParts 115 = .ok (.iinc 3 1, 3) := by decide +kernel
theorem dX12_readsParts_118 : decode cX12_readsParts 118 = .ok (.goto (-42), 3) := by decide +kernel
theorem dX12_readsParts_121 : decode cX12_readsParts 121 = .ok (.iinc 2 1, 3) := by decide +kernel
theorem dX12_readsParts_124 : decode cX12_readsParts 124 = .ok (.goto (-55), 3) := by decide +kernel
theorem dX12_readsParts_127 : decode cX12_readsParts 127 = .ok (.iconst 1, 1) := by decide +kernel
theorem dX12_readsParts_128 : decode cX12_readsParts 128 = .ok (.ireturn, 1) := by decide +kernel
theorem dX12_joins_0 : decode cX12_joins 0 = .ok (.iconst 0, 1) := by decide +kernel
theorem dX12_joins_1 : decode cX12_joins 1 = .ok (.istore 4, 2) := by decide +kernel
theorem dX12_joins_3 : decode cX12_joins 3 = .ok (.iload 4, 2) := by decide +kernel
theorem dX12_joins_5 : decode cX12_joins 5 = .ok (.iload_n 1, 1) := by decide +kernel
theorem dX12_joins_6 : decode cX12_joins 6 = .ok (.if_icmp .ge 30, 3) := by decide +kernel
theorem dX12_joins_9 : decode cX12_joins 9 = .ok (.aload_n 0, 1) := by decide +kernel
theorem dX12_joins_10 : decode cX12_joins 10 = .ok (.iload 4, 2) := by decide +kernel
theorem dX12_joins_12 : decode cX12_joins 12 = .ok (.iaload, 1) := by decide +kernel
theorem dX12_joins_13 : decode cX12_joins 13 = .ok (.iload_n 2, 1) := by decide +kernel
theorem dX12_joins_14 : decode cX12_joins 14 = .ok (.invokestatic 90, 3) := by decide +kernel
theorem dX12_joins_17 : decode cX12_joins 17 = .ok (.ifCond .eq 13, 3) := by decide +kernel
theorem dX12_joins_20 : decode cX12_joins 20 = .ok (.aload_n 0, 1) := by decide +kernel
theorem dX12_joins_21 : decode cX12_joins 21 = .ok (.iload 4, 2) := by decide +kernel
theorem dX12_joins_23 : decode cX12_joins 23 = .ok (.dup2, 1) := by decide +kernel
theorem dX12_joins_24 : decode cX12_joins 24 = .ok (.iaload, 1) := by decide +kernel
theorem dX12_joins_25 : decode cX12_joins 25 = .ok (.aload_n 0, 1) := by decide +kernel
theorem dX12_joins_26 : decode cX12_joins 26 = .ok (.iload_n 3, 1) := by decide +kernel
theorem dX12_joins_27 : decode cX12_joins 27 = .ok (.iaload, 1) := by decide +kernel
theorem dX12_joins_28 : decode cX12_joins 28 = .ok (.ior, 1) := by decide +kernel
theorem dX12_joins_29 : decode cX12_joins 29 = .ok (.iastore, 1) := by decide +kernel
theorem dX12_joins_30 : decode cX12_joins 30 = .ok (.iinc 4 1, 3) := by decide +kernel
theorem dX12_joins_33 : decode cX12_joins 33 = .ok (.goto (-30), 3) := by decide +kernel
theorem dX12_joins_36 : decode cX12_joins 36 = .ok (.return_, 1) := by decide +kernel
theorem dX12_readsLine_0 : decode cX12_readsLine 0 = .ok (.aload_n 0, 1) := by decide +kernel
theorem dX12_readsLine_1 : decode cX12_readsLine 1 = .ok (.iconst 0, 1) := by decide +kernel
theorem dX12_readsLine_2 : decode cX12_readsLine 2 = .ok (.aload_n 0, 1) := by decide +kernel
theorem dX12_readsLine_3 : decode cX12_readsLine 3 = .ok (.getfield 170, 3) := by decide +kernel
theorem dX12_readsLine_6 : decode cX12_readsLine 6 = .ok (.iconst 1, 1) := by decide +kernel
theorem dX12_readsLine_7 : decode cX12_readsLine 7 = .ok (.isub, 1) := by decide +kernel
theorem dX12_readsLine_8 : decode cX12_readsLine 8 = .ok (.invokevirtual 173, 3) := by decide +kernel
theorem dX12_readsLine_11 : decode cX12_readsLine 11 = .ok (.ifCond .ne 5, 3) := by decide +kernel
theorem dX12_readsLine_14 : decode cX12_readsLine 14 = .ok (.iconst 0, 1) := by decide +kernel
theorem dX12_readsLine_15 : decode cX12_readsLine 15 = .ok (.ireturn, 1) := by decide +kernel
theorem dX12_readsLine_16 : decode cX12_readsLine 16 = .ok (.iconst 1, 1) := by decide +kernel
theorem dX12_readsLine_17 : decode cX12_readsLine 17 = .ok (.istore_n 1, 1) := by decide +kernel
theorem dX12_readsLine_18 : decode cX12_readsLine 18 = .ok (.iload_n 1, 1) := by decide +kernel
theorem dX12_readsLine_19 : decode cX12_readsLine 19 = .ok (.ifCond .eq 113, 3) := by decide +kernel
theorem dX12_readsLine_22 : decode cX12_readsLine 22 = .ok (.aload_n 0, 1) := by decide +kernel
theorem dX12_readsLine_23 : decode cX12_readsLine 23 = .ok (.getfield 167, 3) := by decide +kernel
theorem dX12_readsLine_26 : decode cX12_readsLine 26 = .ok (.istore_n 2, 1) := by decide +kernel
theorem dX12_readsLine_27 : decode cX12_readsLine 27 = .ok (.aload_n 0, 1) := by decide +kernel
theorem dX12_readsLine_28 : decode cX12_readsLine 28 = .ok (.invokevirtual 142, 3) := by decide +kernel
theorem dX12_readsLine_31 : decode cX12_readsLine 31 = .ok (.bipush 60, 2) := by decide +kernel
theorem dX12_readsLine_33 : decode cX12_readsLine 33 = .ok (.if_icmp .eq 13, 3) := by decide +kernel
theorem dX12_readsLine_36 : decode cX12_readsLine 36 = .ok (.aload_n 0, 1) := by decide +kernel
theorem dX12_readsLine_37 : decode cX12_readsLine 37 = .ok (.iconst 1, 1) := by decide +kernel
theorem dX12_readsLine_38 : decode cX12_readsLine 38 = .ok (.aload_n 0, 1) := by decide +kernel
theorem dX12_readsLine_39 : decode cX12_readsLine 39 = .ok (.getfield 133, 3) := by decide +kernel
theorem dX12_readsLine_42 : decode cX12_readsLine 42 = .ok (.invokevirtual 164, 3) := by decide +kernel
theorem dX12_readsLine_45 : decode cX12_readsLine 45 = .ok (.ireturn, 1) := by decide +kernel
theorem dX12_readsLine_46 : decode cX12_readsLine 46 = .ok (.aload_n 0, 1) := by decide +kernel
theorem dX12_readsLine_47 : decode cX12_readsLine 47 = .ok (.dup, 1) := by decide +kernel
theorem dX12_readsLine_48 : decode cX12_readsLine 48 = .ok (.getfield 133, 3) := by decide +kernel
theorem dX12_readsLine_51 : decode cX12_readsLine 51 = .ok (.iconst 1, 1) := by decide +kernel
theorem dX12_readsLine_52 : decode cX12_readsLine 52 = .ok (.iadd, 1) := by decide +kernel
theorem dX12_readsLine_53 : decode cX12_readsLine 53 = .ok (.putfield 133, 3) := by decide +kernel
theorem dX12_readsLine_56 : decode cX12_readsLine 56 = .ok (.aload_n 0, 1) := by decide +kernel
theorem dX12_readsLine_57 : decode cX12_readsLine 57 = .ok (.iconst 0, 1) := by decide +kernel
theorem dX12_readsLine_58 : decode cX12_readsLine 58 = .ok (.aload_n 0, 1) := by decide +kernel
theorem dX12_readsLine_59 : decode cX12_readsLine 59 = .ok (.getfield 170, 3) := by decide +kernel
theorem dX12_readsLine_62 : decode cX12_readsLine 62 = .ok (.iconst 1, 1) := by decide +kernel
theorem dX12_readsLine_63 : decode cX12_readsLine 63 = .ok (.isub, 1) := by decide +kernel
theorem dX12_readsLine_64 : decode cX12_readsLine 64 = .ok (.invokevirtual 173, 3) := by decide +kernel
theorem dX12_readsLine_67 : decode cX12_readsLine 67 = .ok (.ifCond .ne 5, 3) := by decide +kernel
theorem dX12_readsLine_70 : decode cX12_readsLine 70 = .ok (.iconst 0, 1) := by decide +kernel
theorem dX12_readsLine_71 : decode cX12_readsLine 71 = .ok (.ireturn, 1) := by decide +kernel
theorem dX12_readsLine_72 : decode cX12_readsLine 72 = .ok (.aload_n 0, 1) := by decide +kernel
theorem dX12_readsLine_73 : decode cX12_readsLine 73 = .ok (.getfield 29, 3) := by decide +kernel
theorem dX12_readsLine_76 : decode cX12_readsLine 76 = .ok (.aload_n 0, 1) := by decide +kernel
theorem dX12_readsLine_77 : decode cX12_readsLine 77 = .ok (.getfield 167, 3) := by decide +kernel
theorem dX12_readsLine_80 : decode cX12_readsLine 80 = .ok (.iaload, 1) := by decide +kernel
theorem dX12_readsLine_81 : decode cX12_readsLine 81 = .ok (.iload_n 2, 1) := by decide +kernel
theorem dX12_readsLine_82 : decode cX12_readsLine 82 = .ok (.invokestatic 90, 3) := by decide +kernel
theorem dX12_readsLine_85 : decode cX12_readsLine 85 = .ok (.ifCond .eq 13, 3) := by decide +kernel
theorem dX12_readsLine_88 : decode cX12_readsLine 88 = .ok (.aload_n 0, 1) := by decide +kernel
theorem dX12_readsLine_89 : decode cX12_readsLine 89 = .ok (.iconst 3, 1) := by decide +kernel
theorem dX12_readsLine_90 : decode cX12_readsLine 90 = .ok (.aload_n 0, 1) := by decide +kernel
theorem dX12_readsLine_91 : decode cX12_readsLine 91 = .ok (.getfield 157, 3) := by decide +kernel
theorem dX12_readsLine_94 : decode cX12_readsLine 94 = .ok (.invokevirtual 164, 3) := by decide +kernel
theorem dX12_readsLine_97 : decode cX12_readsLine 97 = .ok (.ireturn, 1) := by decide +kernel
theorem dX12_readsLine_98 : decode cX12_readsLine 98 = .ok (.aload_n 0, 1) := by decide +kernel
theorem dX12_readsLine_99 : decode cX12_readsLine 99 = .ok (.getfield 29, 3) := by decide +kernel
theorem dX12_readsLine_102 : decode cX12_readsLine 102 = .ok (.aload_n 0, 1) := by decide +kernel
theorem dX12_readsLine_103 : decode cX12_readsLine 103 = .ok (.getfield 170, 3) := by decide +kernel
theorem dX12_readsLine_106 : decode cX12_readsLine 106 = .ok (.iload_n 2, 1) := by decide +kernel
theorem dX12_readsLine_107 : decode cX12_readsLine 107 = .ok (.aload_n 0, 1) := by decide +kernel
theorem dX12_readsLine_108 : decode cX12_readsLine 108 = .ok (.getfield 167, 3) := by decide +kernel
theorem dX12_readsLine_111 : decode cX12_readsLine 111 = .ok (.invokestatic 190, 3) := by decide +kernel
theorem dX12_readsLine_114 : decode cX12_readsLine 114 = .ok (.aload_n 0, 1) := by decide +kernel
theorem dX12_readsLine_115 : decode cX12_readsLine 115 = .ok (.invokevirtual 142, 3) := by decide +kernel
theorem dX12_readsLine_118 : decode cX12_readsLine 118 = .ok (.bipush 60, 2) := by decide +kernel
theorem dX12_readsLine_120 : decode cX12_readsLine 120 = .ok (.if_icmp .ne 7, 3) := by decide +kernel
theorem dX12_readsLine_123 : decode cX12_readsLine 123 = .ok (.iconst 1, 1) := by decide +kernel
theorem dX12_readsLine_124 : decode cX12_readsLine 124 = .ok (.goto 4, 3) := by decide +kernel
theorem dX12_readsLine_127 : decode cX12_readsLine 127 = .ok (.iconst 0, 1) := by decide +kernel
theorem dX12_readsLine_128 : decode cX12_readsLine 128 = .ok (.istore_n 1, 1) := by decide +kernel
theorem dX12_readsLine_129 : decode cX12_readsLine 129 = .ok (.goto (-111), 3) := by decide +kernel
theorem dX12_readsLine_132 : decode cX12_readsLine 132 = .ok (.iconst 1, 1) := by decide +kernel
theorem dX12_readsLine_133 : decode cX12_readsLine 133 = .ok (.ireturn, 1) := by decide +kernel
theorem dX12_readsKind_0 : decode cX12_readsKind 0 = .ok (.aload_n 0, 1) := by decide +kernel
theorem dX12_readsKind_1 : decode cX12_readsKind 1 = .ok (.ldc 194, 2) := by decide +kernel
theorem dX12_readsKind_3 : decode cX12_readsKind 3 = .ok (.invokevirtual 196, 3) := by decide +kernel
theorem dX12_readsKind_6 : decode cX12_readsKind 6 = .ok (.ifCond .eq 8, 3) := by decide +kernel
theorem dX12_readsKind_9 : decode cX12_readsKind 9 = .ok (.aload_n 0, 1) := by decide +kernel
theorem dX12_readsKind_10 : decode cX12_readsKind 10 = .ok (.invokevirtual 200, 3) := by decide +kernel
theorem dX12_readsKind_13 : decode cX12_readsKind 13 = .ok (.ireturn, 1) := by decide +kernel
theorem dX12_readsKind_14 : decode cX12_readsKind 14 = .ok (.aload_n 0, 1) := by decide +kernel
theorem dX12_readsKind_15 : decode cX12_readsKind 15 = .ok (.ldc 204, 2) := by decide +kernel
theorem dX12_readsKind_17 : decode cX12_readsKind 17 = .ok (.invokevirtual 196, 3) := by decide +kernel
theorem dX12_readsKind_20 : decode cX12_readsKind 20 = .ok (.ifCond .eq 8, 3) := by decide +kernel
theorem dX12_readsKind_23 : decode cX12_readsKind 23 = .ok (.aload_n 0, 1) := by decide +kernel
theorem dX12_readsKind_24 : decode cX12_readsKind 24 = .ok (.invokevirtual 206, 3) := by decide +kernel
theorem dX12_readsKind_27 : decode cX12_readsKind 27 = .ok (.ireturn, 1) := by decide +kernel
theorem dX12_readsKind_28 : decode cX12_readsKind 28 = .ok (.aload_n 0, 1) := by decide +kernel
theorem dX12_readsKind_29 : decode cX12_readsKind 29 = .ok (.ldc 209, 2) := by decide +kernel
theorem dX12_readsKind_31 : decode cX12_readsKind 31 = .ok (.invokevirtual 196, 3) := by decide +kernel
theorem dX12_readsKind_34 : decode cX12_readsKind 34 = .ok (.ifCond .eq 8, 3) := by decide +kernel
theorem dX12_readsKind_37 : decode cX12_readsKind 37 = .ok (.aload_n 0, 1) := by decide +kernel
theorem dX12_readsKind_38 : decode cX12_readsKind 38 = .ok (.invokevirtual 211, 3) := by decide +kernel
theorem dX12_readsKind_41 : decode cX12_readsKind 41 = .ok (.ireturn, 1) := by decide +kernel
theorem dX12_readsKind_42 : decode cX12_readsKind 42 = .ok (.aload_n 0, 1) := by decide +kernel
theorem dX12_readsKind_43 : decode cX12_readsKind 43 = .ok (.ldc 214, 2) := by decide +kernel
theorem dX12_readsKind_45 : decode cX12_readsKind 45 = .ok (.invokevirtual 196, 3) := by decide +kernel
theorem dX12_readsKind_48 : decode cX12_readsKind 48 = .ok (.ifCond .eq 8, 3) := by decide +kernel
theorem dX12_readsKind_51 : decode cX12_readsKind 51 = .ok (.aload_n 0, 1) := by decide +kernel
theorem dX12_readsKind_52 : decode cX12_readsKind 52 = .ok (.invokevirtual 216, 3) := by decide +kernel
theorem dX12_readsKind_55 : decode cX12_readsKind 55 = .ok (.ireturn, 1) := by decide +kernel
theorem dX12_readsKind_56 : decode cX12_readsKind 56 = .ok (.aload_n 0, 1) := by decide +kernel
theorem dX12_readsKind_57 : decode cX12_readsKind 57 = .ok (.ldc 219, 2) := by decide +kernel
theorem dX12_readsKind_59 : decode cX12_readsKind 59 = .ok (.invokevirtual 196, 3) := by decide +kernel
theorem dX12_readsKind_62 : decode cX12_readsKind 62 = .ok (.ifCond .eq 8, 3) := by decide +kernel
theorem dX12_readsKind_65 : decode cX12_readsKind 65 = .ok (.aload_n 0, 1) := by decide +kernel
theorem dX12_readsKind_66 : decode cX12_readsKind 66 = .ok (.invokevirtual 221, 3) := by decide +kernel
theorem dX12_readsKind_69 : decode cX12_readsKind 69 = .ok (.ireturn, 1) := by decide +kernel
theorem dX12_readsKind_70 : decode cX12_readsKind 70 = .ok (.aload_n 0, 1) := by decide +kernel
theorem dX12_readsKind_71 : decode cX12_readsKind 71 = .ok (.iconst 1, 1) := by decide +kernel
theorem dX12_readsKind_72 : decode cX12_readsKind 72 = .ok (.aload_n 0, 1) := by decide +kernel
theorem dX12_readsKind_73 : decode cX12_readsKind 73 = .ok (.getfield 133, 3) := by decide +kernel
theorem dX12_readsKind_76 : decode cX12_readsKind 76 = .ok (.invokevirtual 164, 3) := by decide +kernel
theorem dX12_readsKind_79 : decode cX12_readsKind 79 = .ok (.ireturn, 1) := by decide +kernel
theorem dX12_readsText_0 : decode cX12_readsText 0 = .ok (.aload_n 0, 1) := by decide +kernel
theorem dX12_readsText_1 : decode cX12_readsText 1 = .ok (.iconst 0, 1) := by decide +kernel
theorem dX12_readsText_2 : decode cX12_readsText 2 = .ok (.putfield 133, 3) := by decide +kernel
theorem dX12_readsText_5 : decode cX12_readsText 5 = .ok (.aload_n 0, 1) := by decide +kernel
theorem dX12_readsText_6 : decode cX12_readsText 6 = .ok (.invokevirtual 224, 3) := by decide +kernel
theorem dX12_readsText_9 : decode cX12_readsText 9 = .ok (.ifCond .ne 5, 3) := by decide +kernel
theorem dX12_readsText_12 : decode cX12_readsText 12 = .ok (.iconst 0, 1) := by decide +kernel
theorem dX12_readsText_13 : decode cX12_readsText 13 = .ok (.ireturn, 1) := by decide +kernel
theorem dX12_readsText_14 : decode cX12_readsText 14 = .ok (.aload_n 0, 1) := by decide +kernel
theorem dX12_readsText_15 : decode cX12_readsText 15 = .ok (.invokevirtual 142, 3) := by decide +kernel
theorem dX12_readsText_18 : decode cX12_readsText 18 = .ok (.bipush 59, 2) := by decide +kernel
theorem dX12_readsText_20 : decode cX12_readsText 20 = .ok (.if_icmp .ne 22, 3) := by decide +kernel
theorem dX12_readsText_23 : decode cX12_readsText 23 = .ok (.aload_n 0, 1) := by decide +kernel
theorem dX12_readsText_24 : decode cX12_readsText 24 = .ok (.dup, 1) := by decide +kernel
theorem dX12_readsText_25 : decode cX12_readsText 25 = .ok (.getfield 133, 3) := by decide +kernel
theorem dX12_readsText_28 : decode cX12_readsText 28 = .ok (.iconst 1, 1) := by decide +kernel
theorem dX12_readsText_29 : decode cX12_readsText 29 = .ok (.iadd, 1) := by decide +kernel
theorem dX12_readsText_30 : decode cX12_readsText 30 = .ok (.putfield 133, 3) := by decide +kernel
theorem dX12_readsText_33 : decode cX12_readsText 33 = .ok (.aload_n 0, 1) := by decide +kernel
theorem dX12_readsText_34 : decode cX12_readsText 34 = .ok (.invokevirtual 227, 3) := by decide +kernel
theorem dX12_readsText_37 : decode cX12_readsText 37 = .ok (.ifCond .ne (-23), 3) := by decide +kernel
theorem dX12_readsText_40 : decode cX12_readsText 40 = .ok (.iconst 0, 1) := by decide +kernel
theorem dX12_readsText_41 : decode cX12_readsText 41 = .ok (.ireturn, 1) := by decide +kernel
theorem dX12_readsText_42 : decode cX12_readsText 42 = .ok (.aload_n 0, 1) := by decide +kernel
theorem dX12_readsText_43 : decode cX12_readsText 43 = .ok (.invokevirtual 142, 3) := by decide +kernel
theorem dX12_readsText_46 : decode cX12_readsText 46 = .ok (.iconst (-1), 1) := by decide +kernel
theorem dX12_readsText_47 : decode cX12_readsText 47 = .ok (.if_icmp .eq 15, 3) := by decide +kernel
theorem dX12_readsText_50 : decode cX12_readsText 50 = .ok (.aload_n 0, 1) := by decide +kernel
theorem dX12_readsText_51 : decode cX12_readsText 51 = .ok (.iconst 1, 1) := by decide +kernel
theorem dX12_readsText_52 : decode cX12_readsText 52 = .ok (.aload_n 0, 1) := by decide +kernel
theorem dX12_readsText_53 : decode cX12_readsText 53 = .ok (.getfield 133, 3) := by decide +kernel
theorem dX12_readsText_56 : decode cX12_readsText 56 = .ok (.invokevirtual 164, 3) := by decide +kernel
theorem dX12_readsText_59 : decode cX12_readsText 59 = .ok (.ifCond .eq 7, 3) := by decide +kernel
theorem dX12_readsText_62 : decode cX12_readsText 62 = .ok (.iconst 1, 1) := by decide +kernel
theorem dX12_readsText_63 : decode cX12_readsText 63 = .ok (.goto 4, 3) := by decide +kernel
theorem dX12_readsText_66 : decode cX12_readsText 66 = .ok (.iconst 0, 1) := by decide +kernel
theorem dX12_readsText_67 : decode cX12_readsText 67 = .ok (.ireturn, 1) := by decide +kernel
theorem dX12_takesTold_0 : decode cX12_takesTold 0 = .ok (.aload_n 0, 1) := by decide +kernel
theorem dX12_takesTold_1 : decode cX12_takesTold 1 = .ok (.getfield 9, 3) := by decide +kernel
theorem dX12_takesTold_4 : decode cX12_takesTold 4 = .ok (.iconst 0, 1) := by decide +kernel
theorem dX12_takesTold_5 : decode cX12_takesTold 5 = .ok (.aload_n 0, 1) := by decide +kernel
theorem dX12_takesTold_6 : decode cX12_takesTold 6 = .ok (.getfield 170, 3) := by decide +kernel
theorem dX12_takesTold_9 : decode cX12_takesTold 9 = .ok (.i2l, 1) := by decide +kernel
theorem dX12_takesTold_10 : decode cX12_takesTold 10 = .ok (.lastore, 1) := by decide +kernel
theorem dX12_takesTold_11 : decode cX12_takesTold 11 = .ok (.iconst 0, 1) := by decide +kernel
theorem dX12_takesTold_12 : decode cX12_takesTold 12 = .ok (.istore_n 1, 1) := by decide +kernel
theorem dX12_takesTold_13 : decode cX12_takesTold 13 = .ok (.iload_n 1, 1) := by decide +kernel
theorem dX12_takesTold_14 : decode cX12_takesTold 14 = .ok (.bipush 16, 2) := by decide +kernel
theorem dX12_takesTold_16 : decode cX12_takesTold 16 = .ok (.if_icmp .ge 36, 3) := by decide +kernel
theorem dX12_takesTold_19 : decode cX12_takesTold 19 = .ok (.aload_n 0, 1) := by decide +kernel
theorem dX12_takesTold_20 : decode cX12_takesTold 20 = .ok (.getfield 9, 3) := by decide +kernel
theorem dX12_takesTold_23 : decode cX12_takesTold 23 = .ok (.iconst 1, 1) := by decide +kernel
theorem dX12_takesTold_24 : decode cX12_takesTold 24 = .ok (.iload_n 1, 1) := by decide +kernel
theorem dX12_takesTold_25 : decode cX12_takesTold 25 = .ok (.iadd, 1) := by decide +kernel
theorem dX12_takesTold_26 : decode cX12_takesTold 26 = .ok (.iload_n 1, 1) := by decide +kernel
theorem dX12_takesTold_27 : decode cX12_takesTold 27 = .ok (.aload_n 0, 1) := by decide +kernel
theorem dX12_takesTold_28 : decode cX12_takesTold 28 = .ok (.getfield 170, 3) := by decide +kernel
theorem dX12_takesTold_31 : decode cX12_takesTold 31 = .ok (.if_icmp .ge 13, 3) := by decide +kernel
theorem dX12_takesTold_34 : decode cX12_takesTold 34 = .ok (.aload_n 0, 1) := by decide +kernel
theorem dX12_takesTold_35 : decode cX12_takesTold 35 = .ok (.getfield 29, 3) := by decide +kernel
theorem dX12_takesTold_38 : decode cX12_takesTold 38 = .ok (.iload_n 1, 1) := by decide +kernel
theorem dX12_takesTold_39 : decode cX12_takesTold 39 = .ok (.iaload, 1) := by decide +kernel
theorem dX12_takesTold_40 : decode cX12_takesTold 40 = .ok (.i2l, 1) := by decide +kernel
theorem dX12_takesTold_41 : decode cX12_takesTold 41 = .ok (.goto 4, 3) := by decide +kernel
theorem dX12_takesTold_44 : decode cX12_takesTold 44 = .ok (.lconst 0, 1) := by decide +kernel
theorem dX12_takesTold_45 : decode cX12_takesTold 45 = .ok (.lastore, 1) := by decide +kernel
theorem dX12_takesTold_46 : decode cX12_takesTold 46 = .ok (.iinc 1 1, 3) := by decide +kernel
theorem dX12_takesTold_49 : decode cX12_takesTold 49 = .ok (.goto (-36), 3) := by decide +kernel
theorem dX12_takesTold_52 : decode cX12_takesTold 52 = .ok (.aload_n 0, 1) := by decide +kernel
theorem dX12_takesTold_53 : decode cX12_takesTold 53 = .ok (.invokevirtual 75, 3) := by decide +kernel
theorem dX12_takesTold_56 : decode cX12_takesTold 56 = .ok (.return_, 1) := by decide +kernel
theorem dX12_tell_0 : decode cX12_tell 0 = .ok (.aload_n 0, 1) := by decide +kernel
theorem dX12_tell_1 : decode cX12_tell 1 = .ok (.invokevirtual 230, 3) := by decide +kernel
theorem dX12_tell_4 : decode cX12_tell 4 = .ok (.istore_n 1, 1) := by decide +kernel
theorem dX12_tell_5 : decode cX12_tell 5 = .ok (.aload_n 0, 1) := by decide +kernel
theorem dX12_tell_6 : decode cX12_tell 6 = .ok (.iconst 0, 1) := by decide +kernel
theorem dX12_tell_7 : decode cX12_tell 7 = .ok (.putfield 130, 3) := by decide +kernel
theorem dX12_tell_10 : decode cX12_tell 10 = .ok (.iload_n 1, 1) := by decide +kernel
theorem dX12_tell_11 : decode cX12_tell 11 = .ok (.ifCond .ne 11, 3) := by decide +kernel
theorem dX12_tell_14 : decode cX12_tell 14 = .ok (.bipush (-2), 2) := by decide +kernel
theorem dX12_tell_16 : decode cX12_tell 16 = .ok (.aload_n 0, 1) := by decide +kernel
theorem dX12_tell_17 : decode cX12_tell 17 = .ok (.getfield 139, 3) := by decide +kernel
theorem dX12_tell_20 : decode cX12_tell 20 = .ok (.isub, 1) := by decide +kernel
theorem dX12_tell_21 : decode cX12_tell 21 = .ok (.ireturn, 1) := by decide +kernel
theorem dX12_tell_22 : decode cX12_tell 22 = .ok (.aload_n 0, 1) := by decide +kernel
theorem dX12_tell_23 : decode cX12_tell 23 = .ok (.invokevirtual 233, 3) := by decide +kernel
theorem dX12_tell_26 : decode cX12_tell 26 = .ok (.aload_n 0, 1) := by decide +kernel
theorem dX12_tell_27 : decode cX12_tell 27 = .ok (.invokevirtual 236, 3) := by decide +kernel
theorem dX12_tell_30 : decode cX12_tell 30 = .ok (.aload_n 0, 1) := by decide +kernel
theorem dX12_tell_31 : decode cX12_tell 31 = .ok (.invokevirtual 78, 3) := by decide +kernel
theorem dX12_tell_34 : decode cX12_tell 34 = .ok (.ireturn, 1) := by decide +kernel
theorem dX12_covers_0 : decode cX12_covers 0 = .ok (.iconst 0, 1) := by decide +kernel
theorem dX12_covers_1 : decode cX12_covers 1 = .ok (.istore_n 1, 1) := by decide +kernel
theorem dX12_covers_2 : decode cX12_covers 2 = .ok (.iconst 0, 1) := by decide +kernel
theorem dX12_covers_3 : decode cX12_covers 3 = .ok (.istore_n 2, 1) := by decide +kernel
theorem dX12_covers_4 : decode cX12_covers 4 = .ok (.iload_n 2, 1) := by decide +kernel
theorem dX12_covers_5 : decode cX12_covers 5 = .ok (.aload_n 0, 1) := by decide +kernel
theorem dX12_covers_6 : decode cX12_covers 6 = .ok (.invokevirtual 78, 3) := by decide +kernel
theorem dX12_covers_9 : decode cX12_covers 9 = .ok (.if_icmp .ge 42, 3) := by decide +kernel
theorem dX12_covers_12 : decode cX12_covers 12 = .ok (.iconst 0, 1) := by decide +kernel
theorem dX12_covers_13 : decode cX12_covers 13 = .ok (.istore_n 3, 1) := by decide +kernel
theorem dX12_covers_14 : decode cX12_covers 14 = .ok (.iload_n 3, 1) := by decide +kernel
theorem dX12_covers_15 : decode cX12_covers 15 = .ok (.aload_n 0, 1) := by decide +kernel
theorem dX12_covers_16 : decode cX12_covers 16 = .ok (.invokevirtual 78, 3) := by decide +kernel
theorem dX12_covers_19 : decode cX12_covers 19 = .ok (.if_icmp .ge 26, 3) := by decide +kernel
theorem dX12_covers_22 : decode cX12_covers 22 = .ok (.iload_n 1, 1) := by decide +kernel
theorem dX12_covers_23 : decode cX12_covers 23 = .ok (.aload_n 0, 1) := by decide +kernel
theorem dX12_covers_24 : decode cX12_covers 24 = .ok (.iload_n 2, 1) := by decide +kernel
theorem dX12_covers_25 : decode cX12_covers 25 = .ok (.iload_n 3, 1) := by decide +kernel
theorem dX12_covers_26 : decode cX12_covers 26 = .ok (.invokevirtual 239, 3) := by decide +kernel
theorem dX12_covers_29 : decode cX12_covers 29 = .ok (.ifCond .eq 7, 3) := by decide +kernel
theorem dX12_covers_32 : decode cX12_covers 32 = .ok (.iconst 1, 1) := by decide +kernel
theorem dX12_covers_33 : decode cX12_covers 33 = .ok (.goto 4, 3) := by decide +kernel
theorem dX12_covers_36 : decode cX12_covers 36 = .ok (.iconst 0, 1) := by decide +kernel
theorem dX12_covers_37 : decode cX12_covers 37 = .ok (.iadd, 1) := by decide +kernel
theorem dX12_covers_38 : decode cX12_covers 38 = .ok (.istore_n 1, 1) := by decide +kernel
theorem dX12_covers_39 : decode cX12_covers 39 = .ok (.iinc 3 1, 3) := by decide +kernel
theorem dX12_covers_42 : decode cX12_covers 42 = .ok (.goto (-28), 3) := by decide +kernel
theorem dX12_covers_45 : decode cX12_covers 45 = .ok (.iinc 2 1, 3) := by decide +kernel
theorem dX12_covers_48 : decode cX12_covers 48 = .ok (.goto (-44), 3) := by decide +kernel
theorem dX12_covers_51 : decode cX12_covers 51 = .ok (.iload_n 1, 1) := by decide +kernel
theorem dX12_covers_52 : decode cX12_covers 52 = .ok (.ireturn, 1) := by decide +kernel
theorem dX12_relate_0 : decode cX12_relate 0 = .ok (.aload_n 0, 1) := by decide +kernel
theorem dX12_relate_1 : decode cX12_relate 1 = .ok (.iload_n 1, 1) := by decide +kernel
theorem dX12_relate_2 : decode cX12_relate 2 = .ok (.invokevirtual 100, 3) := by decide +kernel
theorem dX12_relate_5 : decode cX12_relate 5 = .ok (.ifCond .eq 11, 3) := by decide +kernel
theorem dX12_relate_8 : decode cX12_relate 8 = .ok (.aload_n 0, 1) := by decide +kernel
theorem dX12_relate_9 : decode cX12_relate 9 = .ok (.iload_n 2, 1) := by decide +kernel
theorem dX12_relate_10 : decode cX12_relate 10 = .ok (.invokevirtual 100, 3) := by decide +kernel
theorem dX12_relate_13 : decode cX12_relate 13 = .ok (.ifCond .ne 5, 3) := by decide +kernel
theorem dX12_relate_16 : decode cX12_relate 16 = .ok (.iconst (-1), 1) := by decide +kernel
theorem dX12_relate_17 : decode cX12_relate 17 = .ok (.ireturn, 1) := by decide +kernel
theorem dX12_relate_18 : decode cX12_relate 18 = .ok (.aload_n 0, 1) := by decide +kernel
theorem dX12_relate_19 : decode cX12_relate 19 = .ok (.iload_n 1, 1) := by decide +kernel
theorem dX12_relate_20 : decode cX12_relate 20 = .ok (.iload_n 2, 1) := by decide +kernel
theorem dX12_relate_21 : decode cX12_relate 21 = .ok (.invokevirtual 104, 3) := by decide +kernel
theorem dX12_relate_24 : decode cX12_relate 24 = .ok (.ifCond .eq 6, 3) := by decide +kernel
theorem dX12_relate_27 : decode cX12_relate 27 = .ok (.bipush (-2), 2) := by decide +kernel
theorem dX12_relate_29 : decode cX12_relate 29 = .ok (.ireturn, 1) := by decide +kernel
theorem dX12_relate_30 : decode cX12_relate 30 = .ok (.aload_n 0, 1) := by decide +kernel
theorem dX12_relate_31 : decode cX12_relate 31 = .ok (.iload_n 2, 1) := by decide +kernel
theorem dX12_relate_32 : decode cX12_relate 32 = .ok (.iload_n 1, 1) := by decide +kernel
theorem dX12_relate_33 : decode cX12_relate 33 = .ok (.invokevirtual 94, 3) := by decide +kernel
theorem dX12_relate_36 : decode cX12_relate 36 = .ok (.ifCond .eq 6, 3) := by decide +kernel
theorem dX12_relate_39 : decode cX12_relate 39 = .ok (.bipush (-3), 2) := by decide +kernel
theorem dX12_relate_41 : decode cX12_relate 41 = .ok (.ireturn, 1) := by decide +kernel
theorem dX12_relate_42 : decode cX12_relate 42 = .ok (.aload_n 0, 1) := by decide +kernel
theorem dX12_relate_43 : decode cX12_relate 43 = .ok (.invokevirtual 233, 3) := by decide +kernel
theorem dX12_relate_46 : decode cX12_relate 46 = .ok (.aload_n 0, 1) := by decide +kernel
theorem dX12_relate_47 : decode cX12_relate 47 = .ok (.aload_n 0, 1) := by decide +kernel
theorem dX12_relate_48 : decode cX12_relate 48 = .ok (.invokevirtual 78, 3) := by decide +kernel
theorem dX12_relate_51 : decode cX12_relate 51 = .ok (.putfield 170, 3) := by decide +kernel
theorem dX12_relate_54 : decode cX12_relate 54 = .ok (.iconst 0, 1) := by decide +kernel
theorem dX12_relate_55 : decode cX12_relate 55 = .ok (.istore_n 3, 1) := by decide +kernel
theorem dX12_relate_56 : decode cX12_relate 56 = .ok (.iload_n 3, 1) := by decide +kernel
theorem dX12_relate_57 : decode cX12_relate 57 = .ok (.bipush 16, 2) := by decide +kernel
theorem dX12_relate_59 : decode cX12_relate 59 = .ok (.if_icmp .ge 20, 3) := by decide +kernel
theorem dX12_relate_62 : decode cX12_relate 62 = .ok (.aload_n 0, 1) := by decide +kernel
theorem dX12_relate_63 : decode cX12_relate 63 = .ok (.getfield 29, 3) := by decide +kernel
theorem dX12_relate_66 : decode cX12_relate 66 = .ok (.iload_n 3, 1) := by decide +kernel
theorem dX12_relate_67 : decode cX12_relate 67 = .ok (.aload_n 0, 1) := by decide +kernel
theorem dX12_relate_68 : decode cX12_relate 68 = .ok (.iload_n 3, 1) := by decide +kernel
theorem dX12_relate_69 : decode cX12_relate 69 = .ok (.invokevirtual 86, 3) := by decide +kernel
theorem dX12_relate_72 : decode cX12_relate 72 = .ok (.iastore, 1) := by decide +kernel
theorem dX12_relate_73 : decode cX12_relate 73 = .ok (.iinc 3 1, 3) := by decide +kernel
theorem dX12_relate_76 : decode cX12_relate 76 = .ok (.goto (-20), 3) := by decide +kernel
theorem dX12_relate_79 : decode cX12_relate 79 = .ok (.aload_n 0, 1) := by decide +kernel
theorem dX12_relate_80 : decode cX12_relate 80 = .ok (.getfield 29, 3) := by decide +kernel
theorem dX12_relate_83 : decode cX12_relate 83 = .ok (.aload_n 0, 1) := by decide +kernel
theorem dX12_relate_84 : decode cX12_relate 84 = .ok (.getfield 170, 3) := by decide +kernel
theorem dX12_relate_87 : decode cX12_relate 87 = .ok (.iload_n 1, 1) := by decide +kernel
theorem dX12_relate_88 : decode cX12_relate 88 = .ok (.iload_n 2, 1) := by decide +kernel
theorem dX12_relate_89 : decode cX12_relate 89 = .ok (.invokestatic 190, 3) := by decide +kernel
theorem dX12_relate_92 : decode cX12_relate 92 = .ok (.aload_n 0, 1) := by decide +kernel
theorem dX12_relate_93 : decode cX12_relate 93 = .ok (.invokevirtual 236, 3) := by decide +kernel
theorem dX12_relate_96 : decode cX12_relate 96 = .ok (.aload_n 0, 1) := by decide +kernel
theorem dX12_relate_97 : decode cX12_relate 97 = .ok (.invokevirtual 242, 3) := by decide +kernel
theorem dX12_relate_100 : decode cX12_relate 100 = .ok (.ireturn, 1) := by decide +kernel
theorem dX12_turned_0 : decode cX12_turned 0 = .ok (.aload_n 0, 1) := by decide +kernel
theorem dX12_turned_1 : decode cX12_turned 1 = .ok (.aload_n 0, 1) := by decide +kernel
theorem dX12_turned_2 : decode cX12_turned 2 = .ok (.invokevirtual 78, 3) := by decide +kernel
theorem dX12_turned_5 : decode cX12_turned 5 = .ok (.putfield 170, 3) := by decide +kernel
theorem dX12_turned_8 : decode cX12_turned 8 = .ok (.iconst 0, 1) := by decide +kernel
theorem dX12_turned_9 : decode cX12_turned 9 = .ok (.istore_n 1, 1) := by decide +kernel
theorem dX12_turned_10 : decode cX12_turned 10 = .ok (.iload_n 1, 1) := by decide +kernel
theorem dX12_turned_11 : decode cX12_turned 11 = .ok (.bipush 16, 2) := by decide +kernel
theorem dX12_turned_13 : decode cX12_turned 13 = .ok (.if_icmp .ge 32, 3) := by decide +kernel
theorem dX12_turned_16 : decode cX12_turned 16 = .ok (.aload_n 0, 1) := by decide +kernel
theorem dX12_turned_17 : decode cX12_turned 17 = .ok (.getfield 29, 3) := by decide +kernel
theorem dX12_turned_20 : decode cX12_turned 20 = .ok (.iload_n 1, 1) := by decide +kernel
theorem dX12_turned_21 : decode cX12_turned 21 = .ok (.iload_n 1, 1) := by decide +kernel
theorem dX12_turned_22 : decode cX12_turned 22 = .ok (.aload_n 0, 1) := by decide +kernel
theorem dX12_turned_23 : decode cX12_turned 23 = .ok (.getfield 170, 3) := by decide +kernel
theorem dX12_turned_26 : decode cX12_turned 26 = .ok (.if_icmp .ge 11, 3) := by decide +kernel
theorem dX12_turned_29 : decode cX12_turned 29 = .ok (.aload_n 0, 1) := by decide +kernel
theorem dX12_turned_30 : decode cX12_turned 30 = .ok (.iload_n 1, 1) := by decide +kernel
theorem dX12_turned_31 : decode cX12_turned 31 = .ok (.invokevirtual 97, 3) := by decide +kernel
theorem dX12_turned_34 : decode cX12_turned 34 = .ok (.goto 4, 3) := by decide +kernel
theorem dX12_turned_37 : decode cX12_turned 37 = .ok (.iconst 0, 1) := by decide +kernel
theorem dX12_turned_38 : decode cX12_turned 38 = .ok (.iastore, 1) := by decide +kernel
theorem dX12_turned_39 : decode cX12_turned 39 = .ok (.iinc 1 1, 3) := by decide +kernel
theorem dX12_turned_42 : decode cX12_turned 42 = .ok (.goto (-32), 3) := by decide +kernel
theorem dX12_turned_45 : decode cX12_turned 45 = .ok (.return_, 1) := by decide +kernel
theorem dX12_within_0 : decode cX12_within 0 = .ok (.aload_n 0, 1) := by decide +kernel
theorem dX12_within_1 : decode cX12_within 1 = .ok (.iconst 0, 1) := by decide +kernel
theorem dX12_within_2 : decode cX12_within 2 = .ok (.putfield 170, 3) := by decide +kernel
theorem dX12_within_5 : decode cX12_within 5 = .ok (.iconst 0, 1) := by decide +kernel
theorem dX12_within_6 : decode cX12_within 6 = .ok (.istore_n 2, 1) := by decide +kernel
theorem dX12_within_7 : decode cX12_within 7 = .ok (.iload_n 2, 1) := by decide +kernel
theorem dX12_within_8 : decode cX12_within 8 = .ok (.bipush 16, 2) := by decide +kernel
theorem dX12_within_10 : decode cX12_within 10 = .ok (.if_icmp .ge 16, 3) := by decide +kernel
theorem dX12_within_13 : decode cX12_within 13 = .ok (.aload_n 0, 1) := by decide +kernel
theorem dX12_within_14 : decode cX12_within 14 = .ok (.getfield 29, 3) := by decide +kernel
theorem dX12_within_17 : decode cX12_within 17 = .ok (.iload_n 2, 1) := by decide +kernel
theorem dX12_within_18 : decode cX12_within 18 = .ok (.iconst 0, 1) := by decide +kernel
theorem dX12_within_19 : decode cX12_within 19 = .ok (.iastore, 1) := by decide +kernel
theorem dX12_within_20 : decode cX12_within 20 = .ok (.iinc 2 1, 3) := by decide +kernel
theorem dX12_within_23 : decode cX12_within 23 = .ok (.goto (-16), 3) := by decide +kernel
theorem dX12_within_26 : decode cX12_within 26 = .ok (.iconst 0, 1) := by decide +kernel
theorem dX12_within_27 : decode cX12_within 27 = .ok (.istore_n 2, 1) := by decide +kernel
theorem dX12_within_28 : decode cX12_within 28 = .ok (.iload_n 2, 1) := by decide +kernel
theorem dX12_within_29 : decode cX12_within 29 = .ok (.aload_n 0, 1) := by decide +kernel
theorem dX12_within_30 : decode cX12_within 30 = .ok (.invokevirtual 78, 3) := by decide +kernel
theorem dX12_within_33 : decode cX12_within 33 = .ok (.if_icmp .ge 94, 3) := by decide +kernel
theorem dX12_within_36 : decode cX12_within 36 = .ok (.iload_n 1, 1) := by decide +kernel
theorem dX12_within_37 : decode cX12_within 37 = .ok (.iload_n 2, 1) := by decide +kernel
theorem dX12_within_38 : decode cX12_within 38 = .ok (.invokestatic 90, 3) := by decide +kernel
theorem dX12_within_41 : decode cX12_within 41 = .ok (.ifCond .ne 6, 3) := by decide +kernel
theorem dX12_within_44 : decode cX12_within 44 = .ok (.goto 77, 3) := by decide +kernel
theorem dX12_within_47 : decode cX12_within 47 = .ok (.iconst 0, 1) := by decide +kernel
theorem dX12_within_48 : decode cX12_within 48 = .ok (.istore_n 3, 1) := by decide +kernel
theorem dX12_within_49 : decode cX12_within 49 = .ok (.iconst 0, 1) := by decide +kernel
theorem dX12_within_50 : decode cX12_within 50 = .ok (.istore 4, 2) := by decide +kernel
theorem dX12_within_52 : decode cX12_within 52 = .ok (.iload 4, 2) := by decide +kernel
theorem dX12_within_54 : decode cX12_within 54 = .ok (.aload_n 0, 1) := by decide +kernel
theorem dX12_within_55 : decode cX12_within 55 = .ok (.invokevirtual 78, 3) := by decide +kernel
theorem dX12_within_58 : decode cX12_within 58 = .ok (.if_icmp .ge 53, 3) := by decide +kernel
theorem dX12_within_61 : decode cX12_within 61 = .ok (.iload_n 1, 1) := by decide +kernel
theorem dX12_within_62 : decode cX12_within 62 = .ok (.iload 4, 2) := by decide +kernel
theorem dX12_within_64 : decode cX12_within 64 = .ok (.invokestatic 90, 3) := by decide +kernel
theorem dX12_within_67 : decode cX12_within 67 = .ok (.ifCond .ne 6, 3) := by decide +kernel
theorem dX12_within_70 : decode cX12_within 70 = .ok (.goto 35, 3) := by decide +kernel
theorem dX12_within_73 : decode cX12_within 73 = .ok (.aload_n 0, 1) := by decide +kernel
theorem dX12_within_74 : decode cX12_within 74 = .ok (.getfield 29, 3) := by decide +kernel
theorem dX12_within_77 : decode cX12_within 77 = .ok (.aload_n 0, 1) := by decide +kernel
theorem dX12_within_78 : decode cX12_within 78 = .ok (.getfield 170, 3) := by decide +kernel
theorem dX12_within_81 : decode cX12_within 81 = .ok (.dup2, 1) := by decide +kernel
theorem dX12_within_82 : decode cX12_within 82 = .ok (.iaload, 1) := by decide +kernel
theorem dX12_within_83 : decode cX12_within 83 = .ok (.aload_n 0, 1) := by decide +kernel
theorem dX12_within_84 : decode cX12_within 84 = .ok (.iload_n 2, 1) := by decide +kernel
theorem dX12_within_85 : decode cX12_within 85 = .ok (.iload 4, 2) := by decide +kernel
theorem dX12_within_87 : decode cX12_within 87 = .ok (.invokevirtual 94, 3) := by decide +kernel
theorem dX12_within_90 : decode cX12_within 90 = .ok (.ifCond .eq 9, 3) := by decide +kernel
theorem dX12_within_93 : decode cX12_within 93 = .ok (.iconst 1, 1) := by decide +kernel
theorem dX12_within_94 : decode cX12_within 94 = .ok (.iload_n 3, 1) := by decide +kernel
theorem dX12_within_95 : decode cX12_within 95 = .ok (.ishl, 1) := by decide +kernel
theorem dX12_within_96 : decode cX12_within 96 = .ok (.goto 4, 3) := by decide +kernel
theorem dX12_within_99 : decode cX12_within 99 = .ok (.iconst 0, 1) := by decide +kernel
theorem dX12_within_100 : decode cX12_within 100 = .ok (.ior, 1) := by decide +kernel
theorem dX12_within_101 : decode cX12_within 101 = .ok (.iastore, 1) := by decide +kernel
theorem dX12_within_102 : decode cX12_within 102 = .ok (.iinc 3 1, 3) := by decide +kernel
theorem dX12_within_105 : decode cX12_within 105 = .ok (.iinc 4 1, 3) := by decide +kernel
theorem dX12_within_108 : decode cX12_within 108 = .ok (.goto (-56), 3) := by decide +kernel
theorem dX12_within_111 : decode cX12_within 111 = .ok (.aload_n 0, 1) := by decide +kernel
theorem dX12_within_112 : decode cX12_within 112 = .ok (.dup, 1) := by decide +kernel
theorem dX12_within_113 : decode cX12_within 113 = .ok (.getfield 170, 3) := by decide +kernel
theorem dX12_within_116 : decode cX12_within 116 = .ok (.iconst 1, 1) := by decide +kernel
theorem dX12_within_117 : decode cX12_within 117 = .ok (.iadd, 1) := by decide +kernel
theorem dX12_within_118 : decode cX12_within 118 = .ok (.putfield 170, 3) := by decide +kernel
theorem dX12_within_121 : decode cX12_within 121 = .ok (.iinc 2 1, 3) := by decide +kernel
theorem dX12_within_124 : decode cX12_within 124 = .ok (.goto (-96), 3) := by decide +kernel
theorem dX12_within_127 : decode cX12_within 127 = .ok (.return_, 1) := by decide +kernel
theorem dX12_isKept_0 : decode cX12_isKept 0 = .ok (.iload_n 1, 1) := by decide +kernel
theorem dX12_isKept_1 : decode cX12_isKept 1 = .ok (.i2l, 1) := by decide +kernel
theorem dX12_isKept_2 : decode cX12_isKept 2 = .ok (.lconst 0, 1) := by decide +kernel
theorem dX12_isKept_3 : decode cX12_isKept 3 = .ok (.lconst 1, 1) := by decide +kernel
theorem dX12_isKept_4 : decode cX12_isKept 4 = .ok (.invokestatic 82, 3) := by decide +kernel
theorem dX12_isKept_7 : decode cX12_isKept 7 = .ok (.ifCond .eq 16, 3) := by decide +kernel
theorem dX12_isKept_10 : decode cX12_isKept 10 = .ok (.aload_n 0, 1) := by decide +kernel
theorem dX12_isKept_11 : decode cX12_isKept 11 = .ok (.getfield 18, 3) := by decide +kernel
theorem dX12_isKept_14 : decode cX12_isKept 14 = .ok (.iload_n 1, 1) := by decide +kernel
theorem dX12_isKept_15 : decode cX12_isKept 15 = .ok (.iaload, 1) := by decide +kernel
theorem dX12_isKept_16 : decode cX12_isKept 16 = .ok (.ifCond .le 7, 3) := by decide +kernel
theorem dX12_isKept_19 : decode cX12_isKept 19 = .ok (.iconst 1, 1) := by decide +kernel
theorem dX12_isKept_20 : decode cX12_isKept 20 = .ok (.goto 4, 3) := by decide +kernel
theorem dX12_isKept_23 : decode cX12_isKept 23 = .ok (.iconst 0, 1) := by decide +kernel
theorem dX12_isKept_24 : decode cX12_isKept 24 = .ok (.ireturn, 1) := by decide +kernel
theorem dX12_beside_0 : decode cX12_beside 0 = .ok (.aload_n 0, 1) := by decide +kernel
theorem dX12_beside_1 : decode cX12_beside 1 = .ok (.invokevirtual 78, 3) := by decide +kernel
theorem dX12_beside_4 : decode cX12_beside 4 = .ok (.istore_n 3, 1) := by decide +kernel
theorem dX12_beside_5 : decode cX12_beside 5 = .ok (.aload_n 0, 1) := by decide +kernel
theorem dX12_beside_6 : decode cX12_beside 6 = .ok (.iload_n 3, 1) := by decide +kernel
theorem dX12_beside_7 : decode cX12_beside 7 = .ok (.aload_n 0, 1) := by decide +kernel
theorem dX12_beside_8 : decode cX12_beside 8 = .ok (.getfield 18, 3) := by decide +kernel
theorem dX12_beside_11 : decode cX12_beside 11 = .ok (.iload_n 1, 1) := by decide +kernel
theorem dX12_beside_12 : decode cX12_beside 12 = .ok (.iaload, 1) := by decide +kernel
theorem dX12_beside_13 : decode cX12_beside 13 = .ok (.iadd, 1) := by decide +kernel
theorem dX12_beside_14 : decode cX12_beside 14 = .ok (.putfield 170, 3) := by decide +kernel
theorem dX12_beside_17 : decode cX12_beside 17 = .ok (.iconst 0, 1) := by decide +kernel
theorem dX12_beside_18 : decode cX12_beside 18 = .ok (.istore 4, 2) := by decide +kernel
theorem dX12_beside_20 : decode cX12_beside 20 = .ok (.iload 4, 2) := by decide +kernel
theorem dX12_beside_22 : decode cX12_beside 22 = .ok (.bipush 16, 2) := by decide +kernel
theorem dX12_beside_24 : decode cX12_beside 24 = .ok (.if_icmp .ge 17, 3) := by decide +kernel
theorem dX12_beside_27 : decode cX12_beside 27 = .ok (.aload_n 0, 1) := by decide +kernel
theorem dX12_beside_28 : decode cX12_beside 28 = .ok (.getfield 29, 3) := by decide +kernel
theorem dX12_beside_31 : decode cX12_beside 31 = .ok (.iload 4, 2) := by decide +kernel
theorem dX12_beside_33 : decode cX12_beside 33 = .ok (.iconst 0, 1) := by decide +kernel
theorem dX12_beside_34 : decode cX12_beside 34 = .ok (.iastore, 1) := by decide +kernel
theorem dX12_beside_35 : decode cX12_beside 35 = .ok (.iinc 4 1, 3) := by decide +kernel
theorem dX12_beside_38 : decode cX12_beside 38 = .ok (.goto (-18), 3) := by decide +kernel
theorem dX12_beside_41 : decode cX12_beside 41 = .ok (.iconst 0, 1) := by decide +kernel
theorem dX12_beside_42 : decode cX12_beside 42 = .ok (.istore 4, 2) := by decide +kernel
theorem dX12_beside_44 : decode cX12_beside 44 = .ok (.iload 4, 2) := by decide +kernel
theorem dX12_beside_46 : decode cX12_beside 46 = .ok (.iload_n 3, 1) := by decide +kernel
theorem dX12_beside_47 : decode cX12_beside 47 = .ok (.if_icmp .ge 43, 3) := by decide +kernel
theorem dX12_beside_50 : decode cX12_beside 50 = .ok (.aload_n 0, 1) := by decide +kernel
theorem dX12_beside_51 : decode cX12_beside 51 = .ok (.getfield 29, 3) := by decide +kernel
theorem dX12_beside_54 : decode cX12_beside 54 = .ok (.iload 4, 2) := by decide +kernel
theorem dX12_beside_56 : decode cX12_beside 56 = .ok (.aload_n 0, 1) := by decide +kernel
theorem dX12_beside_57 : decode cX12_beside 57 = .ok (.iload 4, 2) := by decide +kernel
theorem dX12_beside_59 : decode cX12_beside 59 = .ok (.invokevirtual 86, 3) := by decide +kernel
theorem dX12_beside_62 : decode cX12_beside 62 = .ok (.iload_n 2, 1) := by decide +kernel
theorem dX12_beside_63 : decode cX12_beside 63 = .ok (.ifCond .eq 18, 3) := by decide +kernel
theorem dX12_beside_66 : decode cX12_beside 66 = .ok (.iconst 1, 1) := by decide +kernel
theorem dX12_beside_67 : decode cX12_beside 67 = .ok (.aload_n 0, 1) := by decide +kernel
theorem dX12_beside_68 : decode cX12_beside 68 = .ok (.getfield 18, 3) := by decide +kernel
theorem dX12_beside_71 : decode cX12_beside 71 = .ok (.iload_n 1, 1) := by decide +kernel
theorem dX12_beside_72 : decode cX12_beside 72 = .ok (.iaload, 1) := by decide +kernel
theorem dX12_beside_73 : decode cX12_beside 73 = .ok (.ishl, 1) := by decide +kernel
theorem dX12_beside_74 : decode cX12_beside 74 = .ok (.iconst 1, 1) := by decide +kernel
theorem dX12_beside_75 : decode cX12_beside 75 = .ok (.isub, 1) := by decide +kernel
theorem dX12_beside_76 : decode cX12_beside 76 = .ok (.iload_n 3, 1) := by decide +kernel
theorem dX12_beside_77 : decode cX12_beside 77 = .ok (.ishl, 1) := by decide +kernel
theorem dX12_beside_78 : decode cX12_beside 78 = .ok (.goto 4, 3) := by decide +kernel
theorem dX12_beside_81 : decode cX12_beside 81 = .ok (.iconst 0, 1) := by decide +kernel
theorem dX12_beside_82 : decode cX12_beside 82 = .ok (.ior, 1) := by decide +kernel
theorem dX12_beside_83 : decode cX12_beside 83 = .ok (.iastore, 1) := by decide +kernel
theorem dX12_beside_84 : decode cX12_beside 84 = .ok (.iinc 4 1, 3) := by decide +kernel
theorem dX12_beside_87 : decode cX12_beside 87 = .ok (.goto (-43), 3) := by decide +kernel
theorem dX12_beside_90 : decode cX12_beside 90 = .ok (.iconst 0, 1) := by decide +kernel
theorem dX12_beside_91 : decode cX12_beside 91 = .ok (.istore 4, 2) := by decide +kernel
theorem dX12_beside_93 : decode cX12_beside 93 = .ok (.iload 4, 2) := by decide +kernel
theorem dX12_beside_95 : decode cX12_beside 95 = .ok (.aload_n 0, 1) := by decide +kernel
theorem dX12_beside_96 : decode cX12_beside 96 = .ok (.getfield 18, 3) := by decide +kernel
theorem dX12_beside_99 : decode cX12_beside 99 = .ok (.iload_n 1, 1) := by decide +kernel
theorem dX12_beside_100 : decode cX12_beside 100 = .ok (.iaload, 1) := by decide +kernel
theorem dX12_beside_101 : decode cX12_beside 101 = .ok (.if_icmp .ge 32, 3) := by decide +kernel
theorem dX12_beside_104 : decode cX12_beside 104 = .ok (.aload_n 0, 1) := by decide +kernel
theorem dX12_beside_105 : decode cX12_beside 105 = .ok (.getfield 29, 3) := by decide +kernel
theorem dX12_beside_108 : decode cX12_beside 108 = .ok (.iload_n 3, 1) := by decide +kernel
theorem dX12_beside_109 : decode cX12_beside 109 = .ok (.iload 4, 2) := by decide +kernel
theorem dX12_beside_111 : decode cX12_beside 111 = .ok (.iadd, 1) := by decide +kernel
theorem dX12_beside_112 : decode cX12_beside 112 = .ok (.aload_n 0, 1) := by decide +kernel
theorem dX12_beside_113 : decode cX12_beside 113 = .ok (.getfield 22, 3) := by decide +kernel
theorem dX12_beside_116 : decode cX12_beside 116 = .ok (.bipush 16, 2) := by decide +kernel
theorem dX12_beside_118 : decode cX12_beside 118 = .ok (.iload_n 1, 1) := by decide +kernel
theorem dX12_beside_119 : decode cX12_beside 119 = .ok (.imul, 1) := by decide +kernel
theorem dX12_beside_120 : decode cX12_beside 120 = .ok (.iload 4, 2) := by decide +kernel
theorem dX12_beside_122 : decode cX12_beside 122 = .ok (.iadd, 1) := by decide +kernel
theorem dX12_beside_123 : decode cX12_beside 123 = .ok (.iaload, 1) := by decide +kernel
theorem dX12_beside_124 : decode cX12_beside 124 = .ok (.iload_n 3, 1) := by decide +kernel
theorem dX12_beside_125 : decode cX12_beside 125 = .ok (.ishl, 1) := by decide +kernel
theorem dX12_beside_126 : decode cX12_beside 126 = .ok (.iastore, 1) := by decide +kernel
theorem dX12_beside_127 : decode cX12_beside 127 = .ok (.iinc 4 1, 3) := by decide +kernel
theorem dX12_beside_130 : decode cX12_beside 130 = .ok (.goto (-37), 3) := by decide +kernel
theorem dX12_beside_133 : decode cX12_beside 133 = .ok (.return_, 1) := by decide +kernel
theorem dX12_pairs_0 : decode cX12_pairs 0 = .ok (.aload_n 0, 1) := by decide +kernel
theorem dX12_pairs_1 : decode cX12_pairs 1 = .ok (.getfield 18, 3) := by decide +kernel
theorem dX12_pairs_4 : decode cX12_pairs 4 = .ok (.iload_n 1, 1) := by decide +kernel
theorem dX12_pairs_5 : decode cX12_pairs 5 = .ok (.iaload, 1) := by decide +kernel
theorem dX12_pairs_6 : decode cX12_pairs 6 = .ok (.istore_n 2, 1) := by decide +kernel
theorem dX12_pairs_7 : decode cX12_pairs 7 = .ok (.aload_n 0, 1) := by decide +kernel
theorem dX12_pairs_8 : decode cX12_pairs 8 = .ok (.aload_n 0, 1) := by decide +kernel
theorem dX12_pairs_9 : decode cX12_pairs 9 = .ok (.invokevirtual 78, 3) := by decide +kernel
theorem dX12_pairs_12 : decode cX12_pairs 12 = .ok (.iload_n 2, 1) := by decide +kernel
theorem dX12_pairs_13 : decode cX12_pairs 13 = .ok (.imul, 1) := by decide +kernel
theorem dX12_pairs_14 : decode cX12_pairs 14 = .ok (.putfield 170, 3) := by decide +kernel
theorem dX12_pairs_17 : decode cX12_pairs 17 = .ok (.iconst 0, 1) := by decide +kernel
theorem dX12_pairs_18 : decode cX12_pairs 18 = .ok (.istore_n 3, 1) := by decide +kernel
theorem dX12_pairs_19 : decode cX12_pairs 19 = .ok (.iload_n 3, 1) := by decide +kernel
theorem dX12_pairs_20 : decode cX12_pairs 20 = .ok (.bipush 16, 2) := by decide +kernel
theorem dX12_pairs_22 : decode cX12_pairs 22 = .ok (.if_icmp .ge 16, 3) := by decide +kernel
theorem dX12_pairs_25 : decode cX12_pairs 25 = .ok (.aload_n 0, 1) := by decide +kernel
theorem dX12_pairs_26 : decode cX12_pairs 26 = .ok (.getfield 29, 3) := by decide +kernel
theorem dX12_pairs_29 : decode cX12_pairs 29 = .ok (.iload_n 3, 1) := by decide +kernel
theorem dX12_pairs_30 : decode cX12_pairs 30 = .ok (.iconst 0, 1) := by decide +kernel
theorem dX12_pairs_31 : decode cX12_pairs 31 = .ok (.iastore, 1) := by decide +kernel
theorem dX12_pairs_32 : decode cX12_pairs 32 = .ok (.iinc 3 1, 3) := by decide +kernel
theorem dX12_pairs_35 : decode cX12_pairs 35 = .ok (.goto (-16), 3) := by decide +kernel
theorem dX12_pairs_38 : decode cX12_pairs 38 = .ok (.iconst 0, 1) := by decide +kernel
theorem dX12_pairs_39 : decode cX12_pairs 39 = .ok (.istore_n 3, 1) := by decide +kernel
theorem dX12_pairs_40 : decode cX12_pairs 40 = .ok (.iload_n 3, 1) := by decide +kernel
theorem dX12_pairs_41 : decode cX12_pairs 41 = .ok (.aload_n 0, 1) := by decide +kernel
theorem dX12_pairs_42 : decode cX12_pairs 42 = .ok (.getfield 170, 3) := by decide +kernel
theorem dX12_pairs_45 : decode cX12_pairs 45 = .ok (.if_icmp .ge 77, 3) := by decide +kernel
theorem dX12_pairs_48 : decode cX12_pairs 48 = .ok (.iconst 0, 1) := by decide +kernel
theorem dX12_pairs_49 : decode cX12_pairs 49 = .ok (.istore 4, 2) := by decide +kernel
theorem dX12_pairs_51 : decode cX12_pairs 51 = .ok (.iload 4, 2) := by decide +kernel
theorem dX12_pairs_53 : decode cX12_pairs 53 = .ok (.aload_n 0, 1) := by decide +kernel
theorem dX12_pairs_54 : decode cX12_pairs 54 = .ok (.getfield 170, 3) := by decide +kernel
theorem dX12_pairs_57 : decode cX12_pairs 57 = .ok (.if_icmp .ge 59, 3) := by decide +kernel
theorem dX12_pairs_60 : decode cX12_pairs 60 = .ok (.aload_n 0, 1) := by decide +kernel
theorem dX12_pairs_61 : decode cX12_pairs 61 = .ok (.iload_n 3, 1) := by decide +kernel
theorem dX12_pairs_62 : decode cX12_pairs 62 = .ok (.iload_n 2, 1) := by decide +kernel
theorem dX12_pairs_63 : decode cX12_pairs 63 = .ok (.idiv, 1) := by decide +kernel
theorem dX12_pairs_64 : decode cX12_pairs 64 = .ok (.iload 4, 2) := by decide +kernel
theorem dX12_pairs_66 : decode cX12_pairs 66 = .ok (.iload_n 2, 1) := by decide +kernel
theorem dX12_pairs_67 : decode cX12_pairs 67 = .ok (.idiv, 1) := by decide +kernel
theorem dX12_pairs_68 : decode cX12_pairs 68 = .ok (.invokevirtual 94, 3) := by decide +kernel
theorem dX12_pairs_71 : decode cX12_pairs 71 = .ok (.ifCond .eq 39, 3) := by decide +kernel
theorem dX12_pairs_74 : decode cX12_pairs 74 = .ok (.aload_n 0, 1) := by decide +kernel
theorem dX12_pairs_75 : decode cX12_pairs 75 = .ok (.getfield 22, 3) := by decide +kernel
theorem dX12_pairs_78 : decode cX12_pairs 78 = .ok (.bipush 16, 2) := by decide +kernel
theorem dX12_pairs_80 : decode cX12_pairs 80 = .ok (.iload_n 1, 1) := by decide +kernel
theorem dX12_pairs_81 : decode cX12_pairs 81 = .ok (.imul, 1) := by decide +kernel
theorem dX12_pairs_82 : decode cX12_pairs 82 = .ok (.iload_n 3, 1) := by decide +kernel
theorem dX12_pairs_83 : decode cX12_pairs 83 = .ok (.iload_n 2, 1) := by decide +kernel
theorem dX12_pairs_84 : decode cX12_pairs 84 = .ok (.irem, 1) := by decide +kernel
theorem dX12_pairs_85 : decode cX12_pairs 85 = .ok (.iadd, 1) := by decide +kernel
theorem dX12_pairs_86 : decode cX12_pairs 86 = .ok (.iaload, 1) := by decide +kernel
theorem dX12_pairs_87 : decode cX12_pairs 87 = .ok (.iload 4, 2) := by decide +kernel
theorem dX12_pairs_89 : decode cX12_pairs 89 = .ok (.iload_n 2, 1) := by decide +kernel
theorem dX12_pairs_90 : decode cX12_pairs 90 = .ok (.irem, 1) := by decide +kernel
theorem dX12_pairs_91 : decode cX12_pairs 91 = .ok (.invokestatic 90, 3) := by decide +kernel
theorem dX12_pairs_94 : decode cX12_pairs 94 = .ok (.ifCond .eq 16, 3) := by decide +kernel
theorem dX12_pairs_97 : decode cX12_pairs 97 = .ok (.aload_n 0, 1) := by decide +kernel
theorem dX12_pairs_98 : decode cX12_pairs 98 = .ok (.getfield 29, 3) := by decide +kernel
theorem dX12_pairs_101 : decode cX12_pairs 101 = .ok (.iload_n 3, 1) := by decide +kernel
theorem dX12_pairs_102 : decode cX12_pairs 102 = .ok (.dup2, 1) := by decide +kernel
theorem dX12_pairs_103 : decode cX12_pairs 103 = .ok (.iaload, 1) := by decide +kernel
theorem dX12_pairs_104 : decode cX12_pairs 104 = .ok (.iconst 1, 1) := by decide +kernel
theorem dX12_pairs_105 : decode cX12_pairs 105 = .ok (.iload 4, 2) := by decide +kernel
theorem dX12_pairs_107 : decode cX12_pairs 107 = .ok (.ishl, 1) := by decide +kernel
theorem dX12_pairs_108 : decode cX12_pairs 108 = .ok (.ior, 1) := by decide +kernel
theorem dX12_pairs_109 : decode cX12_pairs 109 = .ok (.iastore, 1) := by decide +kernel
theorem dX12_pairs_110 : decode cX12_pairs 110 = .ok (.iinc 4 1, 3) := by decide +kernel
theorem dX12_pairs_113 : decode cX12_pairs 113 = .ok (.goto (-62), 3) := by decide +kernel
theorem dX12_pairs_116 : decode cX12_pairs 116 = .ok (.iinc 3 1, 3) := by decide +kernel
theorem dX12_pairs_119 : decode cX12_pairs 119 = .ok (.goto (-79), 3) := by decide +kernel
theorem dX12_pairs_122 : decode cX12_pairs 122 = .ok (.return_, 1) := by decide +kernel
theorem dX12_sizeFormed_0 : decode cX12_sizeFormed 0 = .ok (.iload_n 1, 1) := by decide +kernel
theorem dX12_sizeFormed_1 : decode cX12_sizeFormed 1 = .ok (.iconst 5, 1) := by decide +kernel
theorem dX12_sizeFormed_2 : decode cX12_sizeFormed 2 = .ok (.if_icmp .ne 17, 3) := by decide +kernel
theorem dX12_sizeFormed_5 : decode cX12_sizeFormed 5 = .ok (.aload_n 0, 1) := by decide +kernel
theorem dX12_sizeFormed_6 : decode cX12_sizeFormed 6 = .ok (.invokevirtual 78, 3) := by decide +kernel
theorem dX12_sizeFormed_9 : decode cX12_sizeFormed 9 = .ok (.aload_n 0, 1) := by decide +kernel
theorem dX12_sizeFormed_10 : decode cX12_sizeFormed 10 = .ok (.getfield 18, 3) := by decide +kernel
theorem dX12_sizeFormed_13 : decode cX12_sizeFormed 13 = .ok (.iload_n 2, 1) := by decide +kernel
theorem dX12_sizeFormed_14 : decode cX12_sizeFormed 14 = .ok (.iaload, 1) := by decide +kernel
theorem dX12_sizeFormed_15 : decode cX12_sizeFormed 15 = .ok (.imul, 1) := by decide +kernel
theorem dX12_sizeFormed_16 : decode cX12_sizeFormed 16 = .ok (.goto 14, 3) := by decide +kernel
theorem dX12_sizeFormed_19 : decode cX12_sizeFormed 19 = .ok (.aload_n 0, 1) := by decide +kernel
theorem dX12_sizeFormed_20 : decode cX12_sizeFormed 20 = .ok (.invokevirtual 78, 3) := by decide +kernel
theorem dX12_sizeFormed_23 : decode cX12_sizeFormed 23 = .ok (.aload_n 0, 1) := by decide +kernel
theorem dX12_sizeFormed_24 : decode cX12_sizeFormed 24 = .ok (.getfield 18, 3) := by decide +kernel
theorem dX12_sizeFormed_27 : decode cX12_sizeFormed 27 = .ok (.iload_n 2, 1) := by decide +kernel
theorem dX12_sizeFormed_28 : decode cX12_sizeFormed 28 = .ok (.iaload, 1) := by decide +kernel
theorem dX12_sizeFormed_29 : decode cX12_sizeFormed 29 = .ok (.iadd, 1) := by decide +kernel
theorem dX12_sizeFormed_30 : decode cX12_sizeFormed 30 = .ok (.ireturn, 1) := by decide +kernel
theorem dX12_form_0 : decode cX12_form 0 = .ok (.iload_n 1, 1) := by decide +kernel
theorem dX12_form_1 : decode cX12_form 1 = .ok (.i2l, 1) := by decide +kernel
theorem dX12_form_2 : decode cX12_form 2 = .ok (.lconst 0, 1) := by decide +kernel
theorem dX12_form_3 : decode cX12_form 3 = .ok (.ldc2_w 245, 3) := by decide +kernel
theorem dX12_form_6 : decode cX12_form 6 = .ok (.invokestatic 82, 3) := by decide +kernel
theorem dX12_form_9 : decode cX12_form 9 = .ok (.ifCond .ne 5, 3) := by decide +kernel
theorem dX12_form_12 : decode cX12_form 12 = .ok (.iconst (-1), 1) := by decide +kernel
theorem dX12_form_13 : decode cX12_form 13 = .ok (.ireturn, 1) := by decide +kernel
theorem dX12_form_14 : decode cX12_form 14 = .ok (.iload_n 1, 1) := by decide +kernel
theorem dX12_form_15 : decode cX12_form 15 = .ok (.iconst 1, 1) := by decide +kernel
theorem dX12_form_16 : decode cX12_form 16 = .ok (.if_icmp .ne 14, 3) := by decide +kernel
theorem dX12_form_19 : decode cX12_form 19 = .ok (.aload_n 0, 1) := by decide +kernel
theorem dX12_form_20 : decode cX12_form 20 = .ok (.iload_n 2, 1) := by decide +kernel
theorem dX12_form_21 : decode cX12_form 21 = .ok (.iload_n 3, 1) := by decide +kernel
theorem dX12_form_22 : decode cX12_form 22 = .ok (.invokevirtual 247, 3) := by decide +kernel
theorem dX12_form_25 : decode cX12_form 25 = .ok (.ifCond .ne 5, 3) := by decide +kernel
theorem dX12_form_28 : decode cX12_form 28 = .ok (.iconst (-1), 1) := by decide +kernel
theorem dX12_form_29 : decode cX12_form 29 = .ok (.ireturn, 1) := by decide +kernel
theorem dX12_form_30 : decode cX12_form 30 = .ok (.iload_n 1, 1) := by decide +kernel
theorem dX12_form_31 : decode cX12_form 31 = .ok (.iconst 2, 1) := by decide +kernel
theorem dX12_form_32 : decode cX12_form 32 = .ok (.if_icmp .ne 23, 3) := by decide +kernel
theorem dX12_form_35 : decode cX12_form 35 = .ok (.iload_n 2, 1) := by decide +kernel
theorem dX12_form_36 : decode cX12_form 36 = .ok (.i2l, 1) := by decide +kernel
theorem dX12_form_37 : decode cX12_form 37 = .ok (.lconst 1, 1) := by decide +kernel
theorem dX12_form_38 : decode cX12_form 38 = .ok (.iconst 1, 1) := by decide +kernel
theorem dX12_form_39 : decode cX12_form 39 = .ok (.aload_n 0, 1) := by decide +kernel
theorem dX12_form_40 : decode cX12_form 40 = .ok (.invokevirtual 78, 3) := by decide +kernel
theorem dX12_form_43 : decode cX12_form 43 = .ok (.ishl, 1) := by decide +kernel
theorem dX12_form_44 : decode cX12_form 44 = .ok (.iconst 1, 1) := by decide +kernel
theorem dX12_form_45 : decode cX12_form 45 = .ok (.isub, 1) := by decide +kernel
theorem dX12_form_46 : decode cX12_form 46 = .ok (.i2l, 1) := by decide +kernel
theorem dX12_form_47 : decode cX12_form 47 = .ok (.invokestatic 82, 3) := by decide +kernel
theorem dX12_form_50 : decode cX12_form 50 = .ok (.ifCond .ne 5, 3) := by decide +kernel
theorem dX12_form_53 : decode cX12_form 53 = .ok (.iconst (-1), 1) := by decide +kernel
theorem dX12_form_54 : decode cX12_form 54 = .ok (.ireturn, 1) := by decide +kernel
theorem dX12_form_55 : decode cX12_form 55 = .ok (.iload_n 1, 1) := by decide +kernel
theorem dX12_form_56 : decode cX12_form 56 = .ok (.iconst 2, 1) := by decide +kernel
theorem dX12_form_57 : decode cX12_form 57 = .ok (.if_icmp .le 13, 3) := by decide +kernel
theorem dX12_form_60 : decode cX12_form 60 = .ok (.aload_n 0, 1) := by decide +kernel
theorem dX12_form_61 : decode cX12_form 61 = .ok (.iload_n 2, 1) := by decide +kernel
theorem dX12_form_62 : decode cX12_form 62 = .ok (.invokevirtual 250, 3) := by decide +kernel
theorem dX12_form_65 : decode cX12_form 65 = .ok (.ifCond .ne 5, 3) := by decide +kernel
theorem dX12_form_68 : decode cX12_form 68 = .ok (.iconst (-1), 1) := by decide +kernel
theorem dX12_form_69 : decode cX12_form 69 = .ok (.ireturn, 1) := by decide +kernel
theorem dX12_form_70 : decode cX12_form 70 = .ok (.iload_n 1, 1) := by decide +kernel
theorem dX12_form_71 : decode cX12_form 71 = .ok (.iconst 2, 1) := by decide +kernel
theorem dX12_form_72 : decode cX12_form 72 = .ok (.if_icmp .le 17, 3) := by decide +kernel
theorem dX12_form_75 : decode cX12_form 75 = .ok (.aload_n 0, 1) := by decide +kernel
theorem dX12_form_76 : decode cX12_form 76 = .ok (.iload_n 1, 1) := by decide +kernel
theorem dX12_form_77 : decode cX12_form 77 = .ok (.iload_n 2, 1) := by decide +kernel
theorem dX12_form_78 : decode cX12_form 78 = .ok (.invokevirtual 253, 3) := by decide +kernel
theorem dX12_form_81 : decode cX12_form 81 = .ok (.bipush 16, 2) := by decide +kernel
theorem dX12_form_83 : decode cX12_form 83 = .ok (.if_icmp .le 6, 3) := by decide +kernel
theorem dX12_form_86 : decode cX12_form 86 = .ok (.bipush (-2), 2) := by decide +kernel
theorem dX12_form_88 : decode cX12_form 88 = .ok (.ireturn, 1) := by decide +kernel
theorem dX12_form_89 : decode cX12_form 89 = .ok (.aload_n 0, 1) := by decide +kernel
theorem dX12_form_90 : decode cX12_form 90 = .ok (.invokevirtual 233, 3) := by decide +kernel
theorem dX12_form_93 : decode cX12_form 93 = .ok (.iload_n 1, 1) := by decide +kernel
theorem dX12_form_94 : decode cX12_form 94 = .ok (.ifCond .ne 10, 3) := by decide +kernel
theorem dX12_form_97 : decode cX12_form 97 = .ok (.aload_n 0, 1) := by decide +kernel
theorem dX12_form_98 : decode cX12_form 98 = .ok (.invokevirtual 256, 3) := by decide +kernel
theorem dX12_form_101 : decode cX12_form 101 = .ok (.goto 62, 3) := by decide +kernel
theorem dX12_form_104 : decode cX12_form 104 = .ok (.iload_n 1, 1) := by decide +kernel
theorem dX12_form_105 : decode cX12_form 105 = .ok (.iconst 1, 1) := by decide +kernel
theorem dX12_form_106 : decode cX12_form 106 = .ok (.if_icmp .ne 16, 3) := by decide +kernel
theorem dX12_form_109 : decode cX12_form 109 = .ok (.aload_n 0, 1) := by decide +kernel
theorem dX12_form_110 : decode cX12_form 110 = .ok (.aload_n 0, 1) := by decide +kernel
theorem dX12_form_111 : decode cX12_form 111 = .ok (.iload_n 2, 1) := by decide +kernel
theorem dX12_form_112 : decode cX12_form 112 = .ok (.iload_n 3, 1) := by decide +kernel
theorem dX12_form_113 : decode cX12_form 113 = .ok (.invokevirtual 107, 3) := by decide +kernel
theorem dX12_form_116 : decode cX12_form 116 = .ok (.invokevirtual 259, 3) := by decide +kernel
theorem dX12_form_119 : decode cX12_form 119 = .ok (.goto 44, 3) := by decide +kernel
theorem dX12_form_122 : decode cX12_form 122 = .ok (.iload_n 1, 1) := by decide +kernel
theorem dX12_form_123 : decode cX12_form 123 = .ok (.iconst 2, 1) := by decide +kernel
theorem dX12_form_124 : decode cX12_form 124 = .ok (.if_icmp .ne 11, 3) := by decide +kernel
theorem dX12_form_127 : decode cX12_form 127 = .ok (.aload_n 0, 1) := by decide +kernel
theorem dX12_form_128 : decode cX12_form 128 = .ok (.iload_n 2, 1) := by decide +kernel
theorem dX12_form_129 : decode cX12_form 129 = .ok (.invokevirtual 259, 3) := by decide +kernel
theorem dX12_form_132 : decode cX12_form 132 = .ok (.goto 31, 3) := by decide +kernel
theorem dX12_form_135 : decode cX12_form 135 = .ok (.iload_n 1, 1) := by decide +kernel
theorem dX12_form_136 : decode cX12_form 136 = .ok (.iconst 5, 1) := by decide +kernel
theorem dX12_form_137 : decode cX12_form 137 = .ok (.if_icmp .ge 21, 3) := by decide +kernel
theorem dX12_form_140 : decode cX12_form 140 = .ok (.aload_n 0, 1) := by decide +kernel
theorem dX12_form_141 : decode cX12_form 141 = .ok (.iload_n 2, 1) := by decide +kernel
theorem dX12_form_142 : decode cX12_form 142 = .ok (.iload_n 1, 1) := by decide +kernel
theorem dX12_form_143 : decode cX12_form 143 = .ok (.iconst 4, 1) := by decide +kernel
theorem dX12_form_144 : decode cX12_form 144 = .ok (.if_icmp .ne 7, 3) := by decide +kernel
theorem dX12_form_147 : decode cX12_form 147 = .ok (.iconst 1, 1) := by decide +kernel
theorem dX12_form_148 : decode cX12_form 148 = .ok (.goto 4, 3) := by decide +kernel
theorem dX12_form_151 : decode cX12_form 151 = .ok (.iconst 0, 1) := by decide +kernel
theorem dX12_form_152 : decode cX12_form 152 = .ok (.invokevirtual 262, 3) := by decide +kernel
theorem dX12_form_155 : decode cX12_form 155 = .ok (.goto 8, 3) := by decide +kernel
theorem dX12_form_158 : decode cX12_form 158 = .ok (.aload_n 0, 1) := by decide +kernel
theorem dX12_form_159 : decode cX12_form 159 = .ok (.iload_n 2, 1) := by decide +kernel
theorem dX12_form_160 : decode cX12_form 160 = .ok (.invokevirtual 266, 3) := by decide +kernel
theorem dX12_form_163 : decode cX12_form 163 = .ok (.aload_n 0, 1) := by decide +kernel
theorem dX12_form_164 : decode cX12_form 164 = .ok (.invokevirtual 236, 3) := by decide +kernel
theorem dX12_form_167 : decode cX12_form 167 = .ok (.aload_n 0, 1) := by decide +kernel
theorem dX12_form_168 : decode cX12_form 168 = .ok (.invokevirtual 78, 3) := by decide +kernel
theorem dX12_form_171 : decode cX12_form 171 = .ok (.ireturn, 1) := by decide +kernel
theorem dX12_times_0 : decode cX12_times 0 = .ok (.lload_n 1, 1) := by decide +kernel
theorem dX12_times_1 : decode cX12_times 1 = .ok (.lconst 0, 1) := by decide +kernel
theorem dX12_times_2 : decode cX12_times 2 = .ok (.lcmp, 1) := by decide +kernel
theorem dX12_times_3 : decode cX12_times 3 = .ok (.ifCond .eq 9, 3) := by decide +kernel
theorem dX12_times_6 : decode cX12_times 6 = .ok (.lload_n 3, 1) := by decide +kernel
theorem dX12_times_7 : decode cX12_times 7 = .ok (.lconst 0, 1) := by decide +kernel
theorem dX12_times_8 : decode cX12_times 8 = .ok (.lcmp, 1) := by decide +kernel
theorem dX12_times_9 : decode cX12_times 9 = .ok (.ifCond .ne 5, 3) := by decide +kernel
theorem dX12_times_12 : decode cX12_times 12 = .ok (.lconst 0, 1) := by decide +kernel
theorem dX12_times_13 : decode cX12_times 13 = .ok (.lreturn, 1) := by decide +kernel
theorem dX12_times_14 : decode cX12_times 14 = .ok (.lload_n 1, 1) := by decide +kernel
theorem dX12_times_15 : decode cX12_times 15 = .ok (.lload_n 3, 1) := by decide +kernel
theorem dX12_times_16 : decode cX12_times 16 = .ok (.lmul, 1) := by decide +kernel
theorem dX12_times_17 : decode cX12_times 17 = .ok (.lstore 5, 2) := by decide +kernel
theorem dX12_times_19 : decode cX12_times 19 = .ok (.lload_n 1, 1) := by decide +kernel
theorem dX12_times_20 : decode cX12_times 20 = .ok (.ldc2_w 118, 3) := by decide +kernel
theorem dX12_times_23 : decode cX12_times 23 = .ok (.lcmp, 1) := by decide +kernel
theorem dX12_times_24 : decode cX12_times 24 = .ok (.ifCond .ne 11, 3) := by decide +kernel
theorem dX12_times_27 : decode cX12_times 27 = .ok (.lload_n 3, 1) := by decide +kernel
theorem dX12_times_28 : decode cX12_times 28 = .ok (.ldc2_w 269, 3) := by decide +kernel
theorem dX12_times_31 : decode cX12_times 31 = .ok (.lcmp, 1) := by decide +kernel
theorem dX12_times_32 : decode cX12_times 32 = .ok (.ifCond .eq 28, 3) := by decide +kernel
theorem dX12_times_35 : decode cX12_times 35 = .ok (.lload_n 3, 1) := by decide +kernel
theorem dX12_times_36 : decode cX12_times 36 = .ok (.ldc2_w 118, 3) := by decide +kernel
theorem dX12_times_39 : decode cX12_times 39 = .ok (.lcmp, 1) := by decide +kernel
theorem dX12_times_40 : decode cX12_times 40 = .ok (.ifCond .ne 11, 3) := by decide +kernel
theorem dX12_times_43 : decode cX12_times 43 = .ok (.lload_n 1, 1) := by decide +kernel
theorem dX12_times_44 : decode cX12_times 44 = .ok (.ldc2_w 269, 3) := by decide +kernel
theorem dX12_times_47 : decode cX12_times 47 = .ok (.lcmp, 1) := by decide +kernel
theorem dX12_times_48 : decode cX12_times 48 = .ok (.ifCond .eq 12, 3) := by decide +kernel
theorem dX12_times_51 : decode cX12_times 51 = .ok (.lload 5, 2) := by decide +kernel
theorem dX12_times_53 : decode cX12_times 53 = .ok (.lload_n 3, 1) := by decide +kernel
theorem dX12_times_54 : decode cX12_times 54 = .ok (.ldiv, 1) := by decide +kernel
theorem dX12_times_55 : decode cX12_times 55 = .ok (.lload_n 1, 1) := by decide +kernel
theorem dX12_times_56 : decode cX12_times 56 = .ok (.lcmp, 1) := by decide +kernel
theorem dX12_times_57 : decode cX12_times 57 = .ok (.ifCond .eq 8, 3) := by decide +kernel
theorem dX12_times_60 : decode cX12_times 60 = .ok (.aload_n 0, 1) := by decide +kernel
theorem dX12_times_61 : decode cX12_times 61 = .ok (.iconst 1, 1) := by decide +kernel
theorem dX12_times_62 : decode cX12_times 62 = .ok (.putfield 271, 3) := by decide +kernel
theorem dX12_times_65 : decode cX12_times 65 = .ok (.lload 5, 2) := by decide +kernel
theorem dX12_times_67 : decode cX12_times 67 = .ok (.lreturn, 1) := by decide +kernel
theorem dX12_plus_0 : decode cX12_plus 0 = .ok (.lload_n 1, 1) := by decide +kernel
theorem dX12_plus_1 : decode cX12_plus 1 = .ok (.lload_n 3, 1) := by decide +kernel
theorem dX12_plus_2 : decode cX12_plus 2 = .ok (.ladd, 1) := by decide +kernel
theorem dX12_plus_3 : decode cX12_plus 3 = .ok (.lstore 5, 2) := by decide +kernel
theorem dX12_plus_5 : decode cX12_plus 5 = .ok (.lload_n 1, 1) := by decide +kernel
theorem dX12_plus_6 : decode cX12_plus 6 = .ok (.lload 5, 2) := by decide +kernel
theorem dX12_plus_8 : decode cX12_plus 8 = .ok (.lxor, 1) := by decide +kernel
theorem dX12_plus_9 : decode cX12_plus 9 = .ok (.lload_n 3, 1) := by decide +kernel
theorem dX12_plus_10 : decode cX12_plus 10 = .ok (.lload 5, 2) := by decide +kernel
theorem dX12_plus_12 : decode cX12_plus 12 = .ok (.lxor, 1) := by decide +kernel
theorem dX12_plus_13 : decode cX12_plus 13 = .ok (.land, 1) := by decide +kernel
theorem dX12_plus_14 : decode cX12_plus 14 = .ok (.lconst 0, 1) := by decide +kernel
theorem dX12_plus_15 : decode cX12_plus 15 = .ok (.lcmp, 1) := by decide +kernel
theorem dX12_plus_16 : decode cX12_plus 16 = .ok (.ifCond .ge 8, 3) := by decide +kernel
theorem dX12_plus_19 : decode cX12_plus 19 = .ok (.aload_n 0, 1) := by decide +kernel
theorem dX12_plus_20 : decode cX12_plus 20 = .ok (.iconst 1, 1) := by decide +kernel
theorem dX12_plus_21 : decode cX12_plus 21 = .ok (.putfield 271, 3) := by decide +kernel
theorem dX12_plus_24 : decode cX12_plus 24 = .ok (.lload 5, 2) := by decide +kernel
theorem dX12_plus_26 : decode cX12_plus 26 = .ok (.lreturn, 1) := by decide +kernel
theorem dX12_minus_0 : decode cX12_minus 0 = .ok (.lload_n 1, 1) := by decide +kernel
theorem dX12_minus_1 : decode cX12_minus 1 = .ok (.lload_n 3, 1) := by decide +kernel
theorem dX12_minus_2 : decode cX12_minus 2 = .ok (.lsub, 1) := by decide +kernel
theorem dX12_minus_3 : decode cX12_minus 3 = .ok (.lstore 5, 2) := by decide +kernel
theorem dX12_minus_5 : decode cX12_minus 5 = .ok (.lload_n 1, 1) := by decide +kernel
theorem dX12_minus_6 : decode cX12_minus 6 = .ok (.lload_n 3, 1) := by decide +kernel
theorem dX12_minus_7 : decode cX12_minus 7 = .ok (.lxor, 1) := by decide +kernel
theorem dX12_minus_8 : decode cX12_minus 8 = .ok (.lload_n 1, 1) := by decide +kernel
theorem dX12_minus_9 : decode cX12_minus 9 = .ok (.lload 5, 2) := by decide +kernel
theorem dX12_minus_11 : decode cX12_minus 11 = .ok (.lxor, 1) := by decide +kernel
theorem dX12_minus_12 : decode cX12_minus 12 = .ok (.land, 1) := by decide +kernel
theorem dX12_minus_13 : decode cX12_minus 13 = .ok (.lconst 0, 1) := by decide +kernel
theorem dX12_minus_14 : decode cX12_minus 14 = .ok (.lcmp, 1) := by decide +kernel
theorem dX12_minus_15 : decode cX12_minus 15 = .ok (.ifCond .ge 8, 3) := by decide +kernel
theorem dX12_minus_18 : decode cX12_minus 18 = .ok (.aload_n 0, 1) := by decide +kernel
theorem dX12_minus_19 : decode cX12_minus 19 = .ok (.iconst 1, 1) := by decide +kernel
theorem dX12_minus_20 : decode cX12_minus 20 = .ok (.putfield 271, 3) := by decide +kernel
theorem dX12_minus_23 : decode cX12_minus 23 = .ok (.lload 5, 2) := by decide +kernel
theorem dX12_minus_25 : decode cX12_minus 25 = .ok (.lreturn, 1) := by decide +kernel
theorem dX12_at_0 : decode cX12_at 0 = .ok (.bipush 17, 2) := by decide +kernel
theorem dX12_at_2 : decode cX12_at 2 = .ok (.sipush 256, 3) := by decide +kernel
theorem dX12_at_5 : decode cX12_at 5 = .ok (.iload_n 0, 1) := by decide +kernel
theorem dX12_at_6 : decode cX12_at 6 = .ok (.imul, 1) := by decide +kernel
theorem dX12_at_7 : decode cX12_at 7 = .ok (.iadd, 1) := by decide +kernel
theorem dX12_at_8 : decode cX12_at 8 = .ok (.bipush 16, 2) := by decide +kernel
theorem dX12_at_10 : decode cX12_at 10 = .ok (.iload_n 1, 1) := by decide +kernel
theorem dX12_at_11 : decode cX12_at 11 = .ok (.imul, 1) := by decide +kernel
theorem dX12_at_12 : decode cX12_at 12 = .ok (.iadd, 1) := by decide +kernel
theorem dX12_at_13 : decode cX12_at 13 = .ok (.iload_n 2, 1) := by decide +kernel
theorem dX12_at_14 : decode cX12_at 14 = .ok (.iadd, 1) := by decide +kernel
theorem dX12_at_15 : decode cX12_at 15 = .ok (.ireturn, 1) := by decide +kernel
theorem dX12_isFunction_0 : decode cX12_isFunction 0 = .ok (.iload_n 0, 1) := by decide +kernel
theorem dX12_isFunction_1 : decode cX12_isFunction 1 = .ok (.i2l, 1) := by decide +kernel
theorem dX12_isFunction_2 : decode cX12_isFunction 2 = .ok (.lconst 0, 1) := by decide +kernel
theorem dX12_isFunction_3 : decode cX12_isFunction 3 = .ok (.ldc2_w 274, 3) := by decide +kernel
theorem dX12_isFunction_6 : decode cX12_isFunction 6 = .ok (.invokestatic 82, 3) := by decide +kernel
theorem dX12_isFunction_9 : decode cX12_isFunction 9 = .ok (.ireturn, 1) := by decide +kernel
theorem dX12_takesMade_0 : decode cX12_takesMade 0 = .ok (.iconst 0, 1) := by decide +kernel
theorem dX12_takesMade_1 : decode cX12_takesMade 1 = .ok (.istore_n 2, 1) := by decide +kernel
theorem dX12_takesMade_2 : decode cX12_takesMade 2 = .ok (.iload_n 2, 1) := by decide +kernel
theorem dX12_takesMade_3 : decode cX12_takesMade 3 = .ok (.sipush 256, 3) := by decide +kernel
theorem dX12_takesMade_6 : decode cX12_takesMade 6 = .ok (.if_icmp .ge 30, 3) := by decide +kernel
theorem dX12_takesMade_9 : decode cX12_takesMade 9 = .ok (.aload_n 0, 1) := by decide +kernel
theorem dX12_takesMade_10 : decode cX12_takesMade 10 = .ok (.getfield 9, 3) := by decide +kernel
theorem dX12_takesMade_13 : decode cX12_takesMade 13 = .ok (.bipush 17, 2) := by decide +kernel
theorem dX12_takesMade_15 : decode cX12_takesMade 15 = .ok (.sipush 256, 3) := by decide +kernel
theorem dX12_takesMade_18 : decode cX12_takesMade 18 = .ok (.iload_n 1, 1) := by decide +kernel
theorem dX12_takesMade_19 : decode cX12_takesMade 19 = .ok (.imul, 1) := by decide +kernel
theorem dX12_takesMade_20 : decode cX12_takesMade 20 = .ok (.iadd, 1) := by decide +kernel
theorem dX12_takesMade_21 : decode cX12_takesMade 21 = .ok (.iload_n 2, 1) := by decide +kernel
theorem dX12_takesMade_22 : decode cX12_takesMade 22 = .ok (.iadd, 1) := by decide +kernel
theorem dX12_takesMade_23 : decode cX12_takesMade 23 = .ok (.aload_n 0, 1) := by decide +kernel
theorem dX12_takesMade_24 : decode cX12_takesMade 24 = .ok (.getfield 35, 3) := by decide +kernel
theorem dX12_takesMade_27 : decode cX12_takesMade 27 = .ok (.iload_n 2, 1) := by decide +kernel
theorem dX12_takesMade_28 : decode cX12_takesMade 28 = .ok (.laload, 1) := by decide +kernel
theorem dX12_takesMade_29 : decode cX12_takesMade 29 = .ok (.lastore, 1) := by decide +kernel
theorem dX12_takesMade_30 : decode cX12_takesMade 30 = .ok (.iinc 2 1, 3) := by decide +kernel
theorem dX12_takesMade_33 : decode cX12_takesMade 33 = .ok (.goto (-31), 3) := by decide +kernel
theorem dX12_takesMade_36 : decode cX12_takesMade 36 = .ok (.return_, 1) := by decide +kernel
theorem dX12_empties_0 : decode cX12_empties 0 = .ok (.iconst 0, 1) := by decide +kernel
theorem dX12_empties_1 : decode cX12_empties 1 = .ok (.istore_n 1, 1) := by decide +kernel
theorem dX12_empties_2 : decode cX12_empties 2 = .ok (.iload_n 1, 1) := by decide +kernel
theorem dX12_empties_3 : decode cX12_empties 3 = .ok (.sipush 256, 3) := by decide +kernel
theorem dX12_empties_6 : decode cX12_empties 6 = .ok (.if_icmp .ge 16, 3) := by decide +kernel
theorem dX12_empties_9 : decode cX12_empties 9 = .ok (.aload_n 0, 1) := by decide +kernel
theorem dX12_empties_10 : decode cX12_empties 10 = .ok (.getfield 35, 3) := by decide +kernel
theorem dX12_empties_13 : decode cX12_empties 13 = .ok (.iload_n 1, 1) := by decide +kernel
theorem dX12_empties_14 : decode cX12_empties 14 = .ok (.lconst 0, 1) := by decide +kernel
theorem dX12_empties_15 : decode cX12_empties 15 = .ok (.lastore, 1) := by decide +kernel
theorem dX12_empties_16 : decode cX12_empties 16 = .ok (.iinc 1 1, 3) := by decide +kernel
theorem dX12_empties_19 : decode cX12_empties 19 = .ok (.goto (-17), 3) := by decide +kernel
theorem dX12_empties_22 : decode cX12_empties 22 = .ok (.return_, 1) := by decide +kernel
theorem dX12_moebiusMade_0 : decode cX12_moebiusMade 0 = .ok (.aload_n 0, 1) := by decide +kernel
theorem dX12_moebiusMade_1 : decode cX12_moebiusMade 1 = .ok (.invokevirtual 276, 3) := by decide +kernel
theorem dX12_moebiusMade_4 : decode cX12_moebiusMade 4 = .ok (.iconst 1, 1) := by decide +kernel
theorem dX12_moebiusMade_5 : decode cX12_moebiusMade 5 = .ok (.istore_n 1, 1) := by decide +kernel
theorem dX12_moebiusMade_6 : decode cX12_moebiusMade 6 = .ok (.iload_n 1, 1) := by decide +kernel
theorem dX12_moebiusMade_7 : decode cX12_moebiusMade 7 = .ok (.aload_n 0, 1) := by decide +kernel
theorem dX12_moebiusMade_8 : decode cX12_moebiusMade 8 = .ok (.invokevirtual 78, 3) := by decide +kernel
theorem dX12_moebiusMade_11 : decode cX12_moebiusMade 11 = .ok (.if_icmp .gt 80, 3) := by decide +kernel
theorem dX12_moebiusMade_14 : decode cX12_moebiusMade 14 = .ok (.iconst 0, 1) := by decide +kernel
theorem dX12_moebiusMade_15 : decode cX12_moebiusMade 15 = .ok (.istore_n 2, 1) := by decide +kernel
theorem dX12_moebiusMade_16 : decode cX12_moebiusMade 16 = .ok (.iload_n 2, 1) := by decide +kernel
theorem dX12_moebiusMade_17 : decode cX12_moebiusMade 17 = .ok (.aload_n 0, 1) := by decide +kernel
theorem dX12_moebiusMade_18 : decode cX12_moebiusMade 18 = .ok (.invokevirtual 78, 3) := by decide +kernel
theorem dX12_moebiusMade_21 : decode cX12_moebiusMade 21 = .ok (.if_icmp .ge 64, 3) := by decide +kernel
theorem dX12_moebiusMade_24 : decode cX12_moebiusMade 24 = .ok (.iconst 0, 1) := by decide +kernel
theorem dX12_moebiusMade_25 : decode cX12_moebiusMade 25 = .ok (.istore_n 3, 1) := by decide +kernel
theorem dX12_moebiusMade_26 : decode cX12_moebiusMade 26 = .ok (.iload_n 3, 1) := by decide +kernel
theorem dX12_moebiusMade_27 : decode cX12_moebiusMade 27 = .ok (.aload_n 0, 1) := by decide +kernel
theorem dX12_moebiusMade_28 : decode cX12_moebiusMade 28 = .ok (.invokevirtual 78, 3) := by decide +kernel
theorem dX12_moebiusMade_31 : decode cX12_moebiusMade 31 = .ok (.if_icmp .ge 48, 3) := by decide +kernel
theorem dX12_moebiusMade_34 : decode cX12_moebiusMade 34 = .ok (.aload_n 0, 1) := by decide +kernel
theorem dX12_moebiusMade_35 : decode cX12_moebiusMade 35 = .ok (.iload_n 2, 1) := by decide +kernel
theorem dX12_moebiusMade_36 : decode cX12_moebiusMade 36 = .ok (.iload_n 3, 1) := by decide +kernel
theorem dX12_moebiusMade_37 : decode cX12_moebiusMade 37 = .ok (.invokevirtual 94, 3) := by decide +kernel
theorem dX12_moebiusMade_40 : decode cX12_moebiusMade 40 = .ok (.ifCond .eq 33, 3) := by decide +kernel
theorem dX12_moebiusMade_43 : decode cX12_moebiusMade 43 = .ok (.aload_n 0, 1) := by decide +kernel
theorem dX12_moebiusMade_44 : decode cX12_moebiusMade 44 = .ok (.iload_n 2, 1) := by decide +kernel
theorem dX12_moebiusMade_45 : decode cX12_moebiusMade 45 = .ok (.iload_n 3, 1) := by decide +kernel
theorem dX12_moebiusMade_46 : decode cX12_moebiusMade 46 = .ok (.invokevirtual 107, 3) := by decide +kernel
theorem dX12_moebiusMade_49 : decode cX12_moebiusMade 49 = .ok (.invokestatic 111, 3) := by decide +kernel
theorem dX12_moebiusMade_52 : decode cX12_moebiusMade 52 = .ok (.iload_n 1, 1) := by decide +kernel
theorem dX12_moebiusMade_53 : decode cX12_moebiusMade 53 = .ok (.if_icmp .ne 20, 3) := by decide +kernel
theorem dX12_moebiusMade_56 : decode cX12_moebiusMade 56 = .ok (.aload_n 0, 1) := by decide +kernel
theorem dX12_moebiusMade_57 : decode cX12_moebiusMade 57 = .ok (.getfield 35, 3) := by decide +kernel
theorem dX12_moebiusMade_60 : decode cX12_moebiusMade 60 = .ok (.bipush 16, 2) := by decide +kernel
theorem dX12_moebiusMade_62 : decode cX12_moebiusMade 62 = .ok (.iload_n 2, 1) := by decide +kernel
theorem dX12_moebiusMade_63 : decode cX12_moebiusMade 63 = .ok (.imul, 1) := by decide +kernel
theorem dX12_moebiusMade_64 : decode cX12_moebiusMade 64 = .ok (.iload_n 3, 1) := by decide +kernel
theorem dX12_moebiusMade_65 : decode cX12_moebiusMade 65 = .ok (.iadd, 1) := by decide +kernel
theorem dX12_moebiusMade_66 : decode cX12_moebiusMade 66 = .ok (.aload_n 0, 1) := by decide +kernel
theorem dX12_moebiusMade_67 : decode cX12_moebiusMade 67 = .ok (.iload_n 2, 1) := by decide +kernel
theorem dX12_moebiusMade_68 : decode cX12_moebiusMade 68 = .ok (.iload_n 3, 1) := by decide +kernel
theorem dX12_moebiusMade_69 : decode cX12_moebiusMade 69 = .ok (.invokevirtual 279, 3) := by decide +kernel
theorem dX12_moebiusMade_72 : decode cX12_moebiusMade 72 = .ok (.lastore, 1) := by decide +kernel
theorem dX12_moebiusMade_73 : decode cX12_moebiusMade 73 = .ok (.iinc 3 1, 3) := by decide +kernel
theorem dX12_moebiusMade_76 : decode cX12_moebiusMade 76 = .ok (.goto (-50), 3) := by decide +kernel
theorem dX12_moebiusMade_79 : decode cX12_moebiusMade 79 = .ok (.iinc 2 1, 3) := by decide +kernel
theorem dX12_moebiusMade_82 : decode cX12_moebiusMade 82 = .ok (.goto (-66), 3) := by decide +kernel
theorem dX12_moebiusMade_85 : decode cX12_moebiusMade 85 = .ok (.iinc 1 1, 3) := by decide +kernel
theorem dX12_moebiusMade_88 : decode cX12_moebiusMade 88 = .ok (.goto (-82), 3) := by decide +kernel
theorem dX12_moebiusMade_91 : decode cX12_moebiusMade 91 = .ok (.return_, 1) := by decide +kernel
theorem dX12_moebiusFrom_0 : decode cX12_moebiusFrom 0 = .ok (.iload_n 1, 1) := by decide +kernel
theorem dX12_moebiusFrom_1 : decode cX12_moebiusFrom 1 = .ok (.iload_n 2, 1) := by decide +kernel
theorem dX12_moebiusFrom_2 : decode cX12_moebiusFrom 2 = .ok (.if_icmp .ne 5, 3) := by decide +kernel
theorem dX12_moebiusFrom_5 : decode cX12_moebiusFrom 5 = .ok (.lconst 1, 1) := by decide +kernel
theorem dX12_moebiusFrom_6 : decode cX12_moebiusFrom 6 = .ok (.lreturn, 1) := by decide +kernel
theorem dX12_moebiusFrom_7 : decode cX12_moebiusFrom 7 = .ok (.lconst 0, 1) := by decide +kernel
theorem dX12_moebiusFrom_8 : decode cX12_moebiusFrom 8 = .ok (.lstore_n 3, 1) := by decide +kernel
theorem dX12_moebiusFrom_9 : decode cX12_moebiusFrom 9 = .ok (.iconst 0, 1) := by decide +kernel
theorem dX12_moebiusFrom_10 : decode cX12_moebiusFrom 10 = .ok (.istore 5, 2) := by decide +kernel
theorem dX12_moebiusFrom_12 : decode cX12_moebiusFrom 12 = .ok (.iload 5, 2) := by decide +kernel
theorem dX12_moebiusFrom_14 : decode cX12_moebiusFrom 14 = .ok (.aload_n 0, 1) := by decide +kernel
theorem dX12_moebiusFrom_15 : decode cX12_moebiusFrom 15 = .ok (.invokevirtual 78, 3) := by decide +kernel
theorem dX12_moebiusFrom_18 : decode cX12_moebiusFrom 18 = .ok (.if_icmp .ge 44, 3) := by decide +kernel
theorem dX12_moebiusFrom_21 : decode cX12_moebiusFrom 21 = .ok (.iload 5, 2) := by decide +kernel
theorem dX12_moebiusFrom_23 : decode cX12_moebiusFrom 23 = .ok (.iload_n 2, 1) := by decide +kernel
theorem dX12_moebiusFrom_24 : decode cX12_moebiusFrom 24 = .ok (.if_icmp .eq 32, 3) := by decide +kernel
theorem dX12_moebiusFrom_27 : decode cX12_moebiusFrom 27 = .ok (.aload_n 0, 1) := by decide +kernel
theorem dX12_moebiusFrom_28 : decode cX12_moebiusFrom 28 = .ok (.iload_n 1, 1) := by decide +kernel
theorem dX12_moebiusFrom_29 : decode cX12_moebiusFrom 29 = .ok (.iload_n 2, 1) := by decide +kernel
theorem dX12_moebiusFrom_30 : decode cX12_moebiusFrom 30 = .ok (.invokevirtual 107, 3) := by decide +kernel
theorem dX12_moebiusFrom_33 : decode cX12_moebiusFrom 33 = .ok (.iload 5, 2) := by decide +kernel
theorem dX12_moebiusFrom_35 : decode cX12_moebiusFrom 35 = .ok (.invokestatic 90, 3) := by decide +kernel
theorem dX12_moebiusFrom_38 : decode cX12_moebiusFrom 38 = .ok (.ifCond .eq 18, 3) := by decide +kernel
theorem dX12_moebiusFrom_41 : decode cX12_moebiusFrom 41 = .ok (.lload_n 3, 1) := by decide +kernel
theorem dX12_moebiusFrom_42 : decode cX12_moebiusFrom 42 = .ok (.aload_n 0, 1) := by decide +kernel
theorem dX12_moebiusFrom_43 : decode cX12_moebiusFrom 43 = .ok (.getfield 35, 3) := by decide +kernel
theorem dX12_moebiusFrom_46 : decode cX12_moebiusFrom 46 = .ok (.bipush 16, 2) := by decide +kernel
theorem dX12_moebiusFrom_48 : decode cX12_moebiusFrom 48 = .ok (.iload_n 1, 1) := by decide +kernel
theorem dX12_moebiusFrom_49 : decode cX12_moebiusFrom 49 = .ok (.imul, 1) := by decide +kernel
theorem dX12_moebiusFrom_50 : decode cX12_moebiusFrom 50 = .ok (.iload 5, 2) := by decide +kernel
theorem dX12_moebiusFrom_52 : decode cX12_moebiusFrom 52 = .ok (.iadd, 1) := by decide +kernel
theorem dX12_moebiusFrom_53 : decode cX12_moebiusFrom 53 = .ok (.laload, 1) := by decide +kernel
theorem dX12_moebiusFrom_54 : decode cX12_moebiusFrom 54 = .ok (.lsub, 1) := by decide +kernel
theorem dX12_moebiusFrom_55 : decode cX12_moebiusFrom 55 = .ok (.lstore_n 3, 1) := by decide +kernel
theorem dX12_moebiusFrom_56 : decode cX12_moebiusFrom 56 = .ok (.iinc 5 1, 3) := by decide +kernel
theorem dX12_moebiusFrom_59 : decode cX12_moebiusFrom 59 = .ok (.goto (-47), 3) := by decide +kernel
theorem dX12_moebiusFrom_62 : decode cX12_moebiusFrom 62 = .ok (.lload_n 3, 1) := by decide +kernel
theorem dX12_moebiusFrom_63 : decode cX12_moebiusFrom 63 = .ok (.lreturn, 1) := by decide +kernel
theorem dX12_kindValue_0 : decode cX12_kindValue 0 = .ok (.iload_n 1, 1) := by decide +kernel
theorem dX12_kindValue_1 : decode cX12_kindValue 1 = .ok (.tableswitch 89 1 6 #[39, 50, 89, 52, 63, 78], 39) := by decide +kernel
theorem dX12_kindValue_40 : decode cX12_kindValue 40 = .ok (.iload_n 2, 1) := by decide +kernel
theorem dX12_kindValue_41 : decode cX12_kindValue 41 = .ok (.iload_n 3, 1) := by decide +kernel
theorem dX12_kindValue_42 : decode cX12_kindValue 42 = .ok (.if_icmp .ne 7, 3) := by decide +kernel
theorem dX12_kindValue_45 : decode cX12_kindValue 45 = .ok (.lconst 1, 1) := by decide +kernel
theorem dX12_kindValue_46 : decode cX12_kindValue 46 = .ok (.goto 4, 3) := by decide +kernel
theorem dX12_kindValue_49 : decode cX12_kindValue 49 = .ok (.lconst 0, 1) := by decide +kernel
theorem dX12_kindValue_50 : decode cX12_kindValue 50 = .ok (.lreturn, 1) := by decide +kernel
theorem dX12_kindValue_51 : decode cX12_kindValue 51 = .ok (.lconst 1, 1) := by decide +kernel
theorem dX12_kindValue_52 : decode cX12_kindValue 52 = .ok (.lreturn, 1) := by decide +kernel
theorem dX12_kindValue_53 : decode cX12_kindValue 53 = .ok (.iload_n 2, 1) := by decide +kernel
theorem dX12_kindValue_54 : decode cX12_kindValue 54 = .ok (.iload_n 3, 1) := by decide +kernel
theorem dX12_kindValue_55 : decode cX12_kindValue 55 = .ok (.if_icmp .ne 7, 3) := by decide +kernel
theorem dX12_kindValue_58 : decode cX12_kindValue 58 = .ok (.lconst 0, 1) := by decide +kernel
theorem dX12_kindValue_59 : decode cX12_kindValue 59 = .ok (.goto 4, 3) := by decide +kernel
theorem dX12_kindValue_62 : decode cX12_kindValue 62 = .ok (.lconst 1, 1) := by decide +kernel
theorem dX12_kindValue_63 : decode cX12_kindValue 63 = .ok (.lreturn, 1) := by decide +kernel
theorem dX12_kindValue_64 : decode cX12_kindValue 64 = .ok (.aload_n 0, 1) := by decide +kernel
theorem dX12_kindValue_65 : decode cX12_kindValue 65 = .ok (.iload_n 2, 1) := by decide +kernel
theorem dX12_kindValue_66 : decode cX12_kindValue 66 = .ok (.iload_n 3, 1) := by decide +kernel
theorem dX12_kindValue_67 : decode cX12_kindValue 67 = .ok (.invokevirtual 239, 3) := by decide +kernel
theorem dX12_kindValue_70 : decode cX12_kindValue 70 = .ok (.ifCond .eq 7, 3) := by decide +kernel
theorem dX12_kindValue_73 : decode cX12_kindValue 73 = .ok (.lconst 1, 1) := by decide +kernel
theorem dX12_kindValue_74 : decode cX12_kindValue 74 = .ok (.goto 4, 3) := by decide +kernel
theorem dX12_kindValue_77 : decode cX12_kindValue 77 = .ok (.lconst 0, 1) := by decide +kernel
theorem dX12_kindValue_78 : decode cX12_kindValue 78 = .ok (.lreturn, 1) := by decide +kernel
theorem dX12_kindValue_79 : decode cX12_kindValue 79 = .ok (.aload_n 0, 1) := by decide +kernel
theorem dX12_kindValue_80 : decode cX12_kindValue 80 = .ok (.iload_n 2, 1) := by decide +kernel
theorem dX12_kindValue_81 : decode cX12_kindValue 81 = .ok (.iload_n 3, 1) := by decide +kernel
theorem dX12_kindValue_82 : decode cX12_kindValue 82 = .ok (.invokevirtual 107, 3) := by decide +kernel
theorem dX12_kindValue_85 : decode cX12_kindValue 85 = .ok (.invokestatic 111, 3) := by decide +kernel
theorem dX12_kindValue_88 : decode cX12_kindValue 88 = .ok (.i2l, 1) := by decide +kernel
theorem dX12_kindValue_89 : decode cX12_kindValue 89 = .ok (.lreturn, 1) := by decide +kernel
theorem dX12_kindValue_90 : decode cX12_kindValue 90 = .ok (.lconst 0, 1) := by decide +kernel
theorem dX12_kindValue_91 : decode cX12_kindValue 91 = .ok (.lreturn, 1) := by decide +kernel
theorem dX12_laysKind_0 : decode cX12_laysKind 0 = .ok (.iload_n 1, 1) := by decide +kernel
theorem dX12_laysKind_1 : decode cX12_laysKind 1 = .ok (.iconst 3, 1) := by decide +kernel
theorem dX12_laysKind_2 : decode cX12_laysKind 2 = .ok (.if_icmp .ne 8, 3) := by decide +kernel
theorem dX12_laysKind_5 : decode cX12_laysKind 5 = .ok (.aload_n 0, 1) := by decide +kernel
theorem dX12_laysKind_6 : decode cX12_laysKind 6 = .ok (.invokevirtual 283, 3) := by decide +kernel
theorem dX12_laysKind_9 : decode cX12_laysKind 9 = .ok (.return_, 1) := by decide +kernel
theorem dX12_laysKind_10 : decode cX12_laysKind 10 = .ok (.aload_n 0, 1) := by decide +kernel
theorem dX12_laysKind_11 : decode cX12_laysKind 11 = .ok (.invokevirtual 276, 3) := by decide +kernel
theorem dX12_laysKind_14 : decode cX12_laysKind 14 = .ok (.iconst 0, 1) := by decide +kernel
theorem dX12_laysKind_15 : decode cX12_laysKind 15 = .ok (.istore_n 2, 1) := by decide +kernel
theorem dX12_laysKind_16 : decode cX12_laysKind 16 = .ok (.iload_n 2, 1) := by decide +kernel
theorem dX12_laysKind_17 : decode cX12_laysKind 17 = .ok (.aload_n 0, 1) := by decide +kernel
theorem dX12_laysKind_18 : decode cX12_laysKind 18 = .ok (.invokevirtual 78, 3) := by decide +kernel
theorem dX12_laysKind_21 : decode cX12_laysKind 21 = .ok (.if_icmp .ge 52, 3) := by decide +kernel
theorem dX12_laysKind_24 : decode cX12_laysKind 24 = .ok (.iconst 0, 1) := by decide +kernel
theorem dX12_laysKind_25 : decode cX12_laysKind 25 = .ok (.istore_n 3, 1) := by decide +kernel
theorem dX12_laysKind_26 : decode cX12_laysKind 26 = .ok (.iload_n 3, 1) := by decide +kernel
theorem dX12_laysKind_27 : decode cX12_laysKind 27 = .ok (.aload_n 0, 1) := by decide +kernel
theorem dX12_laysKind_28 : decode cX12_laysKind 28 = .ok (.invokevirtual 78, 3) := by decide +kernel
theorem dX12_laysKind_31 : decode cX12_laysKind 31 = .ok (.if_icmp .ge 36, 3) := by decide +kernel
theorem dX12_laysKind_34 : decode cX12_laysKind 34 = .ok (.aload_n 0, 1) := by decide +kernel
theorem dX12_laysKind_35 : decode cX12_laysKind 35 = .ok (.iload_n 2, 1) := by decide +kernel
theorem dX12_laysKind_36 : decode cX12_laysKind 36 = .ok (.iload_n 3, 1) := by decide +kernel
theorem dX12_laysKind_37 : decode cX12_laysKind 37 = .ok (.invokevirtual 94, 3) := by decide +kernel
theorem dX12_laysKind_40 : decode cX12_laysKind 40 = .ok (.ifCond .eq 21, 3) := by decide +kernel
theorem dX12_laysKind_43 : decode cX12_laysKind 43 = .ok (.aload_n 0, 1) := by decide +kernel
theorem dX12_laysKind_44 : decode cX12_laysKind 44 = .ok (.getfield 35, 3) := by decide +kernel
theorem dX12_laysKind_47 : decode cX12_laysKind 47 = .ok (.bipush 16, 2) := by decide +kernel
theorem dX12_laysKind_49 : decode cX12_laysKind 49 = .ok (.iload_n 2, 1) := by decide +kernel
theorem dX12_laysKind_50 : decode cX12_laysKind 50 = .ok (.imul, 1) := by decide +kernel
theorem dX12_laysKind_51 : decode cX12_laysKind 51 = .ok (.iload_n 3, 1) := by decide +kernel
theorem dX12_laysKind_52 : decode cX12_laysKind 52 = .ok (.iadd, 1) := by decide +kernel
theorem dX12_laysKind_53 : decode cX12_laysKind 53 = .ok (.aload_n 0, 1) := by decide +kernel
theorem dX12_laysKind_54 : decode cX12_laysKind 54 = .ok (.iload_n 1, 1) := by decide +kernel
theorem dX12_laysKind_55 : decode cX12_laysKind 55 = .ok (.iload_n 2, 1) := by decide +kernel
theorem dX12_laysKind_56 : decode cX12_laysKind 56 = .ok (.iload_n 3, 1) := by decide +kernel
theorem dX12_laysKind_57 : decode cX12_laysKind 57 = .ok (.invokevirtual 286, 3) := by decide +kernel
theorem dX12_laysKind_60 : decode cX12_laysKind 60 = .ok (.lastore, 1) := by decide +kernel
theorem dX12_laysKind_61 : decode cX12_laysKind 61 = .ok (.iinc 3 1, 3) := by decide +kernel
theorem dX12_laysKind_64 : decode cX12_laysKind 64 = .ok (.goto (-38), 3) := by decide +kernel
theorem dX12_laysKind_67 : decode cX12_laysKind 67 = .ok (.iinc 2 1, 3) := by decide +kernel
theorem dX12_laysKind_70 : decode cX12_laysKind 70 = .ok (.goto (-54), 3) := by decide +kernel
theorem dX12_laysKind_73 : decode cX12_laysKind 73 = .ok (.return_, 1) := by decide +kernel
theorem dX12_make_0 : decode cX12_make 0 = .ok (.iload_n 1, 1) := by decide +kernel
theorem dX12_make_1 : decode cX12_make 1 = .ok (.invokestatic 290, 3) := by decide +kernel
theorem dX12_make_4 : decode cX12_make 4 = .ok (.ifCond .eq 15, 3) := by decide +kernel
theorem dX12_make_7 : decode cX12_make 7 = .ok (.iload_n 2, 1) := by decide +kernel
theorem dX12_make_8 : decode cX12_make 8 = .ok (.i2l, 1) := by decide +kernel
theorem dX12_make_9 : decode cX12_make 9 = .ok (.lconst 0, 1) := by decide +kernel
theorem dX12_make_10 : decode cX12_make 10 = .ok (.ldc2_w 293, 3) := by decide +kernel
theorem dX12_make_13 : decode cX12_make 13 = .ok (.invokestatic 82, 3) := by decide +kernel
theorem dX12_make_16 : decode cX12_make 16 = .ok (.ifCond .ne 5, 3) := by decide +kernel
theorem dX12_make_19 : decode cX12_make 19 = .ok (.iconst (-1), 1) := by decide +kernel
theorem dX12_make_20 : decode cX12_make 20 = .ok (.ireturn, 1) := by decide +kernel
theorem dX12_make_21 : decode cX12_make 21 = .ok (.aload_n 0, 1) := by decide +kernel
theorem dX12_make_22 : decode cX12_make 22 = .ok (.invokevirtual 233, 3) := by decide +kernel
theorem dX12_make_25 : decode cX12_make 25 = .ok (.aload_n 0, 1) := by decide +kernel
theorem dX12_make_26 : decode cX12_make 26 = .ok (.iload_n 2, 1) := by decide +kernel
theorem dX12_make_27 : decode cX12_make 27 = .ok (.invokevirtual 295, 3) := by decide +kernel
theorem dX12_make_30 : decode cX12_make 30 = .ok (.aload_n 0, 1) := by decide +kernel
theorem dX12_make_31 : decode cX12_make 31 = .ok (.iload_n 1, 1) := by decide +kernel
theorem dX12_make_32 : decode cX12_make 32 = .ok (.invokevirtual 298, 3) := by decide +kernel
theorem dX12_make_35 : decode cX12_make 35 = .ok (.iload_n 2, 1) := by decide +kernel
theorem dX12_make_36 : decode cX12_make 36 = .ok (.ireturn, 1) := by decide +kernel
theorem dX12_put_0 : decode cX12_put 0 = .ok (.iload_n 1, 1) := by decide +kernel
theorem dX12_put_1 : decode cX12_put 1 = .ok (.invokestatic 290, 3) := by decide +kernel
theorem dX12_put_4 : decode cX12_put 4 = .ok (.ifCond .eq 12, 3) := by decide +kernel
theorem dX12_put_7 : decode cX12_put 7 = .ok (.aload_n 0, 1) := by decide +kernel
theorem dX12_put_8 : decode cX12_put 8 = .ok (.iload_n 2, 1) := by decide +kernel
theorem dX12_put_9 : decode cX12_put 9 = .ok (.iload_n 3, 1) := by decide +kernel
theorem dX12_put_10 : decode cX12_put 10 = .ok (.invokevirtual 247, 3) := by decide +kernel
theorem dX12_put_13 : decode cX12_put 13 = .ok (.ifCond .ne 5, 3) := by decide +kernel
theorem dX12_put_16 : decode cX12_put 16 = .ok (.iconst (-1), 1) := by decide +kernel
theorem dX12_put_17 : decode cX12_put 17 = .ok (.ireturn, 1) := by decide +kernel
theorem dX12_put_18 : decode cX12_put 18 = .ok (.aload_n 0, 1) := by decide +kernel
theorem dX12_put_19 : decode cX12_put 19 = .ok (.getfield 9, 3) := by decide +kernel
theorem dX12_put_22 : decode cX12_put 22 = .ok (.iload_n 1, 1) := by decide +kernel
theorem dX12_put_23 : decode cX12_put 23 = .ok (.iload_n 2, 1) := by decide +kernel
theorem dX12_put_24 : decode cX12_put 24 = .ok (.iload_n 3, 1) := by decide +kernel
theorem dX12_put_25 : decode cX12_put 25 = .ok (.invokestatic 301, 3) := by decide +kernel
theorem dX12_put_28 : decode cX12_put 28 = .ok (.laload, 1) := by decide +kernel
theorem dX12_put_29 : decode cX12_put 29 = .ok (.iload 4, 2) := by decide +kernel
theorem dX12_put_31 : decode cX12_put 31 = .ok (.i2l, 1) := by decide +kernel
theorem dX12_put_32 : decode cX12_put 32 = .ok (.lcmp, 1) := by decide +kernel
theorem dX12_put_33 : decode cX12_put 33 = .ok (.ifCond .ne 6, 3) := by decide +kernel
theorem dX12_put_36 : decode cX12_put 36 = .ok (.bipush (-2), 2) := by decide +kernel
theorem dX12_put_38 : decode cX12_put 38 = .ok (.ireturn, 1) := by decide +kernel
theorem dX12_put_39 : decode cX12_put 39 = .ok (.aload_n 0, 1) := by decide +kernel
theorem dX12_put_40 : decode cX12_put 40 = .ok (.invokevirtual 233, 3) := by decide +kernel
theorem dX12_put_43 : decode cX12_put 43 = .ok (.aload_n 0, 1) := by decide +kernel
theorem dX12_put_44 : decode cX12_put 44 = .ok (.getfield 9, 3) := by decide +kernel
theorem dX12_put_47 : decode cX12_put 47 = .ok (.iload_n 1, 1) := by decide +kernel
theorem dX12_put_48 : decode cX12_put 48 = .ok (.iload_n 2, 1) := by decide +kernel
theorem dX12_put_49 : decode cX12_put 49 = .ok (.iload_n 3, 1) := by decide +kernel
theorem dX12_put_50 : decode cX12_put 50 = .ok (.invokestatic 301, 3) := by decide +kernel
theorem dX12_put_53 : decode cX12_put 53 = .ok (.iload 4, 2) := by decide +kernel
theorem dX12_put_55 : decode cX12_put 55 = .ok (.i2l, 1) := by decide +kernel
theorem dX12_put_56 : decode cX12_put 56 = .ok (.lastore, 1) := by decide +kernel
theorem dX12_put_57 : decode cX12_put 57 = .ok (.iconst 1, 1) := by decide +kernel
theorem dX12_put_58 : decode cX12_put 58 = .ok (.ireturn, 1) := by decide +kernel
theorem dX12_takes_0 : decode cX12_takes 0 = .ok (.iconst 0, 1) := by decide +kernel
theorem dX12_takes_1 : decode cX12_takes 1 = .ok (.istore_n 3, 1) := by decide +kernel
theorem dX12_takes_2 : decode cX12_takes 2 = .ok (.iload_n 3, 1) := by decide +kernel
theorem dX12_takes_3 : decode cX12_takes 3 = .ok (.sipush 256, 3) := by decide +kernel
theorem dX12_takes_6 : decode cX12_takes 6 = .ok (.if_icmp .ge 27, 3) := by decide +kernel
theorem dX12_takes_9 : decode cX12_takes 9 = .ok (.aload_n 1, 1) := by decide +kernel
theorem dX12_takes_10 : decode cX12_takes 10 = .ok (.iload_n 3, 1) := by decide +kernel
theorem dX12_takes_11 : decode cX12_takes 11 = .ok (.aload_n 0, 1) := by decide +kernel
theorem dX12_takes_12 : decode cX12_takes 12 = .ok (.getfield 9, 3) := by decide +kernel
theorem dX12_takes_15 : decode cX12_takes 15 = .ok (.bipush 17, 2) := by decide +kernel
theorem dX12_takes_17 : decode cX12_takes 17 = .ok (.sipush 256, 3) := by decide +kernel
theorem dX12_takes_20 : decode cX12_takes 20 = .ok (.iload_n 2, 1) := by decide +kernel
theorem dX12_takes_21 : decode cX12_takes 21 = .ok (.imul, 1) := by decide +kernel
theorem dX12_takes_22 : decode cX12_takes 22 = .ok (.iadd, 1) := by decide +kernel
theorem dX12_takes_23 : decode cX12_takes 23 = .ok (.iload_n 3, 1) := by decide +kernel
theorem dX12_takes_24 : decode cX12_takes 24 = .ok (.iadd, 1) := by decide +kernel
theorem dX12_takes_25 : decode cX12_takes 25 = .ok (.laload, 1) := by decide +kernel
theorem dX12_takes_26 : decode cX12_takes 26 = .ok (.lastore, 1) := by decide +kernel
theorem dX12_takes_27 : decode cX12_takes 27 = .ok (.iinc 3 1, 3) := by decide +kernel
theorem dX12_takes_30 : decode cX12_takes 30 = .ok (.goto (-28), 3) := by decide +kernel
theorem dX12_takes_33 : decode cX12_takes 33 = .ok (.return_, 1) := by decide +kernel
theorem dX12_convolved_0 : decode cX12_convolved 0 = .ok (.lconst 0, 1) := by decide +kernel
theorem dX12_convolved_1 : decode cX12_convolved 1 = .ok (.lstore_n 3, 1) := by decide +kernel
theorem dX12_convolved_2 : decode cX12_convolved 2 = .ok (.aload_n 0, 1) := by decide +kernel
theorem dX12_convolved_3 : decode cX12_convolved 3 = .ok (.iload_n 1, 1) := by decide +kernel
theorem dX12_convolved_4 : decode cX12_convolved 4 = .ok (.iload_n 2, 1) := by decide +kernel
theorem dX12_convolved_5 : decode cX12_convolved 5 = .ok (.invokevirtual 107, 3) := by decide +kernel
theorem dX12_convolved_8 : decode cX12_convolved 8 = .ok (.istore 5, 2) := by decide +kernel
theorem dX12_convolved_10 : decode cX12_convolved 10 = .ok (.iconst 0, 1) := by decide +kernel
theorem dX12_convolved_11 : decode cX12_convolved 11 = .ok (.istore 6, 2) := by decide +kernel
theorem dX12_convolved_13 : decode cX12_convolved 13 = .ok (.iload 6, 2) := by decide +kernel
theorem dX12_convolved_15 : decode cX12_convolved 15 = .ok (.aload_n 0, 1) := by decide +kernel
theorem dX12_convolved_16 : decode cX12_convolved 16 = .ok (.invokevirtual 78, 3) := by decide +kernel
theorem dX12_convolved_19 : decode cX12_convolved 19 = .ok (.if_icmp .ge 53, 3) := by decide +kernel
theorem dX12_convolved_22 : decode cX12_convolved 22 = .ok (.iload 5, 2) := by decide +kernel
theorem dX12_convolved_24 : decode cX12_convolved 24 = .ok (.iload 6, 2) := by decide +kernel
theorem dX12_convolved_26 : decode cX12_convolved 26 = .ok (.invokestatic 90, 3) := by decide +kernel
theorem dX12_convolved_29 : decode cX12_convolved 29 = .ok (.ifCond .eq 37, 3) := by decide +kernel
theorem dX12_convolved_32 : decode cX12_convolved 32 = .ok (.aload_n 0, 1) := by decide +kernel
theorem dX12_convolved_33 : decode cX12_convolved 33 = .ok (.lload_n 3, 1) := by decide +kernel
theorem dX12_convolved_34 : decode cX12_convolved 34 = .ok (.aload_n 0, 1) := by decide +kernel
theorem dX12_convolved_35 : decode cX12_convolved 35 = .ok (.aload_n 0, 1) := by decide +kernel
theorem dX12_convolved_36 : decode cX12_convolved 36 = .ok (.getfield 38, 3) := by decide +kernel
theorem dX12_convolved_39 : decode cX12_convolved 39 = .ok (.bipush 16, 2) := by decide +kernel
theorem dX12_convolved_41 : decode cX12_convolved 41 = .ok (.iload_n 1, 1) := by decide +kernel
theorem dX12_convolved_42 : decode cX12_convolved 42 = .ok (.imul, 1) := by decide +kernel
theorem dX12_convolved_43 : decode cX12_convolved 43 = .ok (.iload 6, 2) := by decide +kernel
theorem dX12_convolved_45 : decode cX12_convolved 45 = .ok (.iadd, 1) := by decide +kernel
theorem dX12_convolved_46 : decode cX12_convolved 46 = .ok (.laload, 1) := by decide +kernel
theorem dX12_convolved_47 : decode cX12_convolved 47 = .ok (.aload_n 0, 1) := by decide +kernel
theorem dX12_convolved_48 : decode cX12_convolved 48 = .ok (.getfield 41, 3) := by decide +kernel
theorem dX12_convolved_51 : decode cX12_convolved 51 = .ok (.bipush 16, 2) := by decide +kernel
theorem dX12_convolved_53 : decode cX12_convolved 53 = .ok (.iload 6, 2) := by decide +kernel
theorem dX12_convolved_55 : decode cX12_convolved 55 = .ok (.imul, 1) := by decide +kernel
theorem dX12_convolved_56 : decode cX12_convolved 56 = .ok (.iload_n 2, 1) := by decide +kernel
theorem dX12_convolved_57 : decode cX12_convolved 57 = .ok (.iadd, 1) := by decide +kernel
theorem dX12_convolved_58 : decode cX12_convolved 58 = .ok (.laload, 1) := by decide +kernel
theorem dX12_convolved_59 : decode cX12_convolved 59 = .ok (.invokevirtual 304, 3) := by decide +kernel
theorem dX12_convolved_62 : decode cX12_convolved 62 = .ok (.invokevirtual 308, 3) := by decide +kernel
theorem dX12_convolved_65 : decode cX12_convolved 65 = .ok (.lstore_n 3, 1) := by decide +kernel
theorem dX12_convolved_66 : decode cX12_convolved 66 = .ok (.iinc 6 1, 3) := by decide +kernel
theorem dX12_convolved_69 : decode cX12_convolved 69 = .ok (.goto (-56), 3) := by decide +kernel
theorem dX12_convolved_72 : decode cX12_convolved 72 = .ok (.lload_n 3, 1) := by decide +kernel
theorem dX12_convolved_73 : decode cX12_convolved 73 = .ok (.lreturn, 1) := by decide +kernel
theorem dX12_reckoned_0 : decode cX12_reckoned 0 = .ok (.aload_n 0, 1) := by decide +kernel
theorem dX12_reckoned_1 : decode cX12_reckoned 1 = .ok (.getfield 38, 3) := by decide +kernel
theorem dX12_reckoned_4 : decode cX12_reckoned 4 = .ok (.bipush 16, 2) := by decide +kernel
theorem dX12_reckoned_6 : decode cX12_reckoned 6 = .ok (.iload_n 2, 1) := by decide +kernel
theorem dX12_reckoned_7 : decode cX12_reckoned 7 = .ok (.imul, 1) := by decide +kernel
theorem dX12_reckoned_8 : decode cX12_reckoned 8 = .ok (.iload_n 3, 1) := by decide +kernel
theorem dX12_reckoned_9 : decode cX12_reckoned 9 = .ok (.iadd, 1) := by decide +kernel
theorem dX12_reckoned_10 : decode cX12_reckoned 10 = .ok (.laload, 1) := by decide +kernel
theorem dX12_reckoned_11 : decode cX12_reckoned 11 = .ok (.lstore 4, 2) := by decide +kernel
theorem dX12_reckoned_13 : decode cX12_reckoned 13 = .ok (.aload_n 0, 1) := by decide +kernel
theorem dX12_reckoned_14 : decode cX12_reckoned 14 = .ok (.getfield 41, 3) := by decide +kernel
theorem dX12_reckoned_17 : decode cX12_reckoned 17 = .ok (.bipush 16, 2) := by decide +kernel
theorem dX12_reckoned_19 : decode cX12_reckoned 19 = .ok (.iload_n 2, 1) := by decide +kernel
theorem dX12_reckoned_20 : decode cX12_reckoned 20 = .ok (.imul, 1) := by decide +kernel
theorem dX12_reckoned_21 : decode cX12_reckoned 21 = .ok (.iload_n 3, 1) := by decide +kernel
theorem dX12_reckoned_22 : decode cX12_reckoned 22 = .ok (.iadd, 1) := by decide +kernel
theorem dX12_reckoned_23 : decode cX12_reckoned 23 = .ok (.laload, 1) := by decide +kernel
theorem dX12_reckoned_24 : decode cX12_reckoned 24 = .ok (.lstore 6, 2) := by decide +kernel
theorem dX12_reckoned_26 : decode cX12_reckoned 26 = .ok (.iload_n 1, 1) := by decide +kernel
theorem dX12_reckoned_27 : decode cX12_reckoned 27 = .ok (.ifCond .ne 14, 3) := by decide +kernel
theorem dX12_reckoned_30 : decode cX12_reckoned 30 = .ok (.aload_n 0, 1) := by decide +kernel
theorem dX12_reckoned_31 : decode cX12_reckoned 31 = .ok (.lload 4, 2) := by decide +kernel
theorem dX12_reckoned_33 : decode cX12_reckoned 33 = .ok (.lload 6, 2) := by decide +kernel
theorem dX12_reckoned_35 : decode cX12_reckoned 35 = .ok (.invokevirtual 308, 3) := by decide +kernel
theorem dX12_reckoned_38 : decode cX12_reckoned 38 = .ok (.goto 41, 3) := by decide +kernel
theorem dX12_reckoned_41 : decode cX12_reckoned 41 = .ok (.iload_n 1, 1) := by decide +kernel
theorem dX12_reckoned_42 : decode cX12_reckoned 42 = .ok (.iconst 1, 1) := by decide +kernel
theorem dX12_reckoned_43 : decode cX12_reckoned 43 = .ok (.if_icmp .ne 14, 3) := by decide +kernel
theorem dX12_reckoned_46 : decode cX12_reckoned 46 = .ok (.aload_n 0, 1) := by decide +kernel
theorem dX12_reckoned_47 : decode cX12_reckoned 47 = .ok (.lload 4, 2) := by decide +kernel
theorem dX12_reckoned_49 : decode cX12_reckoned 49 = .ok (.lload 6, 2) := by decide +kernel
theorem dX12_reckoned_51 : decode cX12_reckoned 51 = .ok (.invokevirtual 311, 3) := by decide +kernel
theorem dX12_reckoned_54 : decode cX12_reckoned 54 = .ok (.goto 25, 3) := by decide +kernel
theorem dX12_reckoned_57 : decode cX12_reckoned 57 = .ok (.iload_n 1, 1) := by decide +kernel
theorem dX12_reckoned_58 : decode cX12_reckoned 58 = .ok (.iconst 2, 1) := by decide +kernel
theorem dX12_reckoned_59 : decode cX12_reckoned 59 = .ok (.if_icmp .ne 12, 3) := by decide +kernel
theorem dX12_reckoned_62 : decode cX12_reckoned 62 = .ok (.aload_n 0, 1) := by decide +kernel
theorem dX12_reckoned_63 : decode cX12_reckoned 63 = .ok (.iload_n 2, 1) := by decide +kernel
theorem dX12_reckoned_64 : decode cX12_reckoned 64 = .ok (.iload_n 3, 1) := by decide +kernel
theorem dX12_reckoned_65 : decode cX12_reckoned 65 = .ok (.invokevirtual 314, 3) := by decide +kernel
theorem dX12_reckoned_68 : decode cX12_reckoned 68 = .ok (.goto 11, 3) := by decide +kernel
theorem dX12_reckoned_71 : decode cX12_reckoned 71 = .ok (.aload_n 0, 1) := by decide +kernel
theorem dX12_reckoned_72 : decode cX12_reckoned 72 = .ok (.lload 4, 2) := by decide +kernel
theorem dX12_reckoned_74 : decode cX12_reckoned 74 = .ok (.lload 6, 2) := by decide +kernel
theorem dX12_reckoned_76 : decode cX12_reckoned 76 = .ok (.invokevirtual 304, 3) := by decide +kernel
theorem dX12_reckoned_79 : decode cX12_reckoned 79 = .ok (.lreturn, 1) := by decide +kernel
theorem dX12_reckons_0 : decode cX12_reckons 0 = .ok (.aload_n 0, 1) := by decide +kernel
theorem dX12_reckons_1 : decode cX12_reckons 1 = .ok (.invokevirtual 276, 3) := by decide +kernel
theorem dX12_reckons_4 : decode cX12_reckons 4 = .ok (.iconst 0, 1) := by decide +kernel
theorem dX12_reckons_5 : decode cX12_reckons 5 = .ok (.istore_n 2, 1) := by decide +kernel
theorem dX12_reckons_6 : decode cX12_reckons 6 = .ok (.iload_n 2, 1) := by decide +kernel
theorem dX12_reckons_7 : decode cX12_reckons 7 = .ok (.aload_n 0, 1) := by decide +kernel
theorem dX12_reckons_8 : decode cX12_reckons 8 = .ok (.invokevirtual 78, 3) := by decide +kernel
theorem dX12_reckons_11 : decode cX12_reckons 11 = .ok (.if_icmp .ge 52, 3) := by decide +kernel
theorem dX12_reckons_14 : decode cX12_reckons 14 = .ok (.iconst 0, 1) := by decide +kernel
theorem dX12_reckons_15 : decode cX12_reckons 15 = .ok (.istore_n 3, 1) := by decide +kernel
theorem dX12_reckons_16 : decode cX12_reckons 16 = .ok (.iload_n 3, 1) := by decide +kernel
theorem dX12_reckons_17 : decode cX12_reckons 17 = .ok (.aload_n 0, 1) := by decide +kernel
theorem dX12_reckons_18 : decode cX12_reckons 18 = .ok (.invokevirtual 78, 3) := by decide +kernel
theorem dX12_reckons_21 : decode cX12_reckons 21 = .ok (.if_icmp .ge 36, 3) := by decide +kernel
theorem dX12_reckons_24 : decode cX12_reckons 24 = .ok (.aload_n 0, 1) := by decide +kernel
theorem dX12_reckons_25 : decode cX12_reckons 25 = .ok (.iload_n 2, 1) := by decide +kernel
theorem dX12_reckons_26 : decode cX12_reckons 26 = .ok (.iload_n 3, 1) := by decide +kernel
theorem dX12_reckons_27 : decode cX12_reckons 27 = .ok (.invokevirtual 94, 3) := by decide +kernel
theorem dX12_reckons_30 : decode cX12_reckons 30 = .ok (.ifCond .eq 21, 3) := by decide +kernel
theorem dX12_reckons_33 : decode cX12_reckons 33 = .ok (.aload_n 0, 1) := by decide +kernel
theorem dX12_reckons_34 : decode cX12_reckons 34 = .ok (.getfield 35, 3) := by decide +kernel
theorem dX12_reckons_37 : decode cX12_reckons 37 = .ok (.bipush 16, 2) := by decide +kernel
theorem dX12_reckons_39 : decode cX12_reckons 39 = .ok (.iload_n 2, 1) := by decide +kernel
theorem dX12_reckons_40 : decode cX12_reckons 40 = .ok (.imul, 1) := by decide +kernel
theorem dX12_reckons_41 : decode cX12_reckons 41 = .ok (.iload_n 3, 1) := by decide +kernel
theorem dX12_reckons_42 : decode cX12_reckons 42 = .ok (.iadd, 1) := by decide +kernel
theorem dX12_reckons_43 : decode cX12_reckons 43 = .ok (.aload_n 0, 1) := by decide +kernel
theorem dX12_reckons_44 : decode cX12_reckons 44 = .ok (.iload_n 1, 1) := by decide +kernel
theorem dX12_reckons_45 : decode cX12_reckons 45 = .ok (.iload_n 2, 1) := by decide +kernel
theorem dX12_reckons_46 : decode cX12_reckons 46 = .ok (.iload_n 3, 1) := by decide +kernel
theorem dX12_reckons_47 : decode cX12_reckons 47 = .ok (.invokevirtual 317, 3) := by decide +kernel
theorem dX12_reckons_50 : decode cX12_reckons 50 = .ok (.lastore, 1) := by decide +kernel
theorem dX12_reckons_51 : decode cX12_reckons 51 = .ok (.iinc 3 1, 3) := by decide +kernel
theorem dX12_reckons_54 : decode cX12_reckons 54 = .ok (.goto (-38), 3) := by decide +kernel
theorem dX12_reckons_57 : decode cX12_reckons 57 = .ok (.iinc 2 1, 3) := by decide +kernel
theorem dX12_reckons_60 : decode cX12_reckons 60 = .ok (.goto (-54), 3) := by decide +kernel
theorem dX12_reckons_63 : decode cX12_reckons 63 = .ok (.return_, 1) := by decide +kernel
theorem dX12_reckon_0 : decode cX12_reckon 0 = .ok (.iload_n 1, 1) := by decide +kernel
theorem dX12_reckon_1 : decode cX12_reckon 1 = .ok (.invokestatic 290, 3) := by decide +kernel
theorem dX12_reckon_4 : decode cX12_reckon 4 = .ok (.ifCond .eq 30, 3) := by decide +kernel
theorem dX12_reckon_7 : decode cX12_reckon 7 = .ok (.iload_n 2, 1) := by decide +kernel
theorem dX12_reckon_8 : decode cX12_reckon 8 = .ok (.invokestatic 290, 3) := by decide +kernel
theorem dX12_reckon_11 : decode cX12_reckon 11 = .ok (.ifCond .eq 23, 3) := by decide +kernel
theorem dX12_reckon_14 : decode cX12_reckon 14 = .ok (.iload_n 3, 1) := by decide +kernel
theorem dX12_reckon_15 : decode cX12_reckon 15 = .ok (.invokestatic 290, 3) := by decide +kernel
theorem dX12_reckon_18 : decode cX12_reckon 18 = .ok (.ifCond .eq 16, 3) := by decide +kernel
theorem dX12_reckon_21 : decode cX12_reckon 21 = .ok (.iload 4, 2) := by decide +kernel
theorem dX12_reckon_23 : decode cX12_reckon 23 = .ok (.i2l, 1) := by decide +kernel
theorem dX12_reckon_24 : decode cX12_reckon 24 = .ok (.lconst 0, 1) := by decide +kernel
theorem dX12_reckon_25 : decode cX12_reckon 25 = .ok (.ldc2_w 274, 3) := by decide +kernel
theorem dX12_reckon_28 : decode cX12_reckon 28 = .ok (.invokestatic 82, 3) := by decide +kernel
theorem dX12_reckon_31 : decode cX12_reckon 31 = .ok (.ifCond .ne 5, 3) := by decide +kernel
theorem dX12_reckon_34 : decode cX12_reckon 34 = .ok (.iconst (-1), 1) := by decide +kernel
theorem dX12_reckon_35 : decode cX12_reckon 35 = .ok (.ireturn, 1) := by decide +kernel
theorem dX12_reckon_36 : decode cX12_reckon 36 = .ok (.aload_n 0, 1) := by decide +kernel
theorem dX12_reckon_37 : decode cX12_reckon 37 = .ok (.iconst 0, 1) := by decide +kernel
theorem dX12_reckon_38 : decode cX12_reckon 38 = .ok (.putfield 271, 3) := by decide +kernel
theorem dX12_reckon_41 : decode cX12_reckon 41 = .ok (.aload_n 0, 1) := by decide +kernel
theorem dX12_reckon_42 : decode cX12_reckon 42 = .ok (.aload_n 0, 1) := by decide +kernel
theorem dX12_reckon_43 : decode cX12_reckon 43 = .ok (.getfield 38, 3) := by decide +kernel
theorem dX12_reckon_46 : decode cX12_reckon 46 = .ok (.iload_n 2, 1) := by decide +kernel
theorem dX12_reckon_47 : decode cX12_reckon 47 = .ok (.invokevirtual 320, 3) := by decide +kernel
theorem dX12_reckon_50 : decode cX12_reckon 50 = .ok (.aload_n 0, 1) := by decide +kernel
theorem dX12_reckon_51 : decode cX12_reckon 51 = .ok (.aload_n 0, 1) := by decide +kernel
theorem dX12_reckon_52 : decode cX12_reckon 52 = .ok (.getfield 41, 3) := by decide +kernel
theorem dX12_reckon_55 : decode cX12_reckon 55 = .ok (.iload_n 3, 1) := by decide +kernel
theorem dX12_reckon_56 : decode cX12_reckon 56 = .ok (.invokevirtual 320, 3) := by decide +kernel
theorem dX12_reckon_59 : decode cX12_reckon 59 = .ok (.aload_n 0, 1) := by decide +kernel
theorem dX12_reckon_60 : decode cX12_reckon 60 = .ok (.iload 4, 2) := by decide +kernel
theorem dX12_reckon_62 : decode cX12_reckon 62 = .ok (.invokevirtual 324, 3) := by decide +kernel
theorem dX12_reckon_65 : decode cX12_reckon 65 = .ok (.aload_n 0, 1) := by decide +kernel
theorem dX12_reckon_66 : decode cX12_reckon 66 = .ok (.getfield 271, 3) := by decide +kernel
theorem dX12_reckon_69 : decode cX12_reckon 69 = .ok (.ifCond .eq 6, 3) := by decide +kernel
theorem dX12_reckon_72 : decode cX12_reckon 72 = .ok (.bipush (-3), 2) := by decide +kernel
theorem dX12_reckon_74 : decode cX12_reckon 74 = .ok (.ireturn, 1) := by decide +kernel
theorem dX12_reckon_75 : decode cX12_reckon 75 = .ok (.aload_n 0, 1) := by decide +kernel
theorem dX12_reckon_76 : decode cX12_reckon 76 = .ok (.invokevirtual 233, 3) := by decide +kernel
theorem dX12_reckon_79 : decode cX12_reckon 79 = .ok (.aload_n 0, 1) := by decide +kernel
theorem dX12_reckon_80 : decode cX12_reckon 80 = .ok (.iload_n 1, 1) := by decide +kernel
theorem dX12_reckon_81 : decode cX12_reckon 81 = .ok (.invokevirtual 298, 3) := by decide +kernel
theorem dX12_reckon_84 : decode cX12_reckon 84 = .ok (.iconst 1, 1) := by decide +kernel
theorem dX12_reckon_85 : decode cX12_reckon 85 = .ok (.ireturn, 1) := by decide +kernel
theorem dX12_inverted_0 : decode cX12_inverted 0 = .ok (.iload_n 1, 1) := by decide +kernel
theorem dX12_inverted_1 : decode cX12_inverted 1 = .ok (.iload_n 2, 1) := by decide +kernel
theorem dX12_inverted_2 : decode cX12_inverted 2 = .ok (.if_icmp .ne 15, 3) := by decide +kernel
theorem dX12_inverted_5 : decode cX12_inverted 5 = .ok (.aload_n 0, 1) := by decide +kernel
theorem dX12_inverted_6 : decode cX12_inverted 6 = .ok (.getfield 38, 3) := by decide +kernel
theorem dX12_inverted_9 : decode cX12_inverted 9 = .ok (.bipush 16, 2) := by decide +kernel
theorem dX12_inverted_11 : decode cX12_inverted 11 = .ok (.iload_n 1, 1) := by decide +kernel
theorem dX12_inverted_12 : decode cX12_inverted 12 = .ok (.imul, 1) := by decide +kernel
theorem dX12_inverted_13 : decode cX12_inverted 13 = .ok (.iload_n 1, 1) := by decide +kernel
theorem dX12_inverted_14 : decode cX12_inverted 14 = .ok (.iadd, 1) := by decide +kernel
theorem dX12_inverted_15 : decode cX12_inverted 15 = .ok (.laload, 1) := by decide +kernel
theorem dX12_inverted_16 : decode cX12_inverted 16 = .ok (.lreturn, 1) := by decide +kernel
theorem dX12_inverted_17 : decode cX12_inverted 17 = .ok (.lconst 0, 1) := by decide +kernel
theorem dX12_inverted_18 : decode cX12_inverted 18 = .ok (.lstore_n 3, 1) := by decide +kernel
theorem dX12_inverted_19 : decode cX12_inverted 19 = .ok (.aload_n 0, 1) := by decide +kernel
theorem dX12_inverted_20 : decode cX12_inverted 20 = .ok (.iload_n 1, 1) := by decide +kernel
theorem dX12_inverted_21 : decode cX12_inverted 21 = .ok (.iload_n 2, 1) := by decide +kernel
theorem dX12_inverted_22 : decode cX12_inverted 22 = .ok (.invokevirtual 107, 3) := by decide +kernel
theorem dX12_inverted_25 : decode cX12_inverted 25 = .ok (.istore 5, 2) := by decide +kernel
theorem dX12_inverted_27 : decode cX12_inverted 27 = .ok (.iconst 0, 1) := by decide +kernel
theorem dX12_inverted_28 : decode cX12_inverted 28 = .ok (.istore 6, 2) := by decide +kernel
theorem dX12_inverted_30 : decode cX12_inverted 30 = .ok (.iload 6, 2) := by decide +kernel
theorem dX12_inverted_32 : decode cX12_inverted 32 = .ok (.aload_n 0, 1) := by decide +kernel
theorem dX12_inverted_33 : decode cX12_inverted 33 = .ok (.invokevirtual 78, 3) := by decide +kernel
theorem dX12_inverted_36 : decode cX12_inverted 36 = .ok (.if_icmp .ge 59, 3) := by decide +kernel
theorem dX12_inverted_39 : decode cX12_inverted 39 = .ok (.iload 6, 2) := by decide +kernel
theorem dX12_inverted_41 : decode cX12_inverted 41 = .ok (.iload_n 1, 1) := by decide +kernel
theorem dX12_inverted_42 : decode cX12_inverted 42 = .ok (.if_icmp .eq 47, 3) := by decide +kernel
theorem dX12_inverted_45 : decode cX12_inverted 45 = .ok (.iload 5, 2) := by decide +kernel
theorem dX12_inverted_47 : decode cX12_inverted 47 = .ok (.iload 6, 2) := by decide +kernel
theorem dX12_inverted_49 : decode cX12_inverted 49 = .ok (.invokestatic 90, 3) := by decide +kernel
theorem dX12_inverted_52 : decode cX12_inverted 52 = .ok (.ifCond .eq 37, 3) := by decide +kernel
theorem dX12_inverted_55 : decode cX12_inverted 55 = .ok (.aload_n 0, 1) := by decide +kernel
theorem dX12_inverted_56 : decode cX12_inverted 56 = .ok (.lload_n 3, 1) := by decide +kernel
theorem dX12_inverted_57 : decode cX12_inverted 57 = .ok (.aload_n 0, 1) := by decide +kernel
theorem dX12_inverted_58 : decode cX12_inverted 58 = .ok (.aload_n 0, 1) := by decide +kernel
theorem dX12_inverted_59 : decode cX12_inverted 59 = .ok (.getfield 38, 3) := by decide +kernel
theorem dX12_inverted_62 : decode cX12_inverted 62 = .ok (.bipush 16, 2) := by decide +kernel
theorem dX12_inverted_64 : decode cX12_inverted 64 = .ok (.iload_n 1, 1) := by decide +kernel
theorem dX12_inverted_65 : decode cX12_inverted 65 = .ok (.imul, 1) := by decide +kernel
theorem dX12_inverted_66 : decode cX12_inverted 66 = .ok (.iload 6, 2) := by decide +kernel
theorem dX12_inverted_68 : decode cX12_inverted 68 = .ok (.iadd, 1) := by decide +kernel
theorem dX12_inverted_69 : decode cX12_inverted 69 = .ok (.laload, 1) := by decide +kernel
theorem dX12_inverted_70 : decode cX12_inverted 70 = .ok (.aload_n 0, 1) := by decide +kernel
theorem dX12_inverted_71 : decode cX12_inverted 71 = .ok (.getfield 35, 3) := by decide +kernel
theorem dX12_inverted_74 : decode cX12_inverted 74 = .ok (.bipush 16, 2) := by decide +kernel
theorem dX12_inverted_76 : decode cX12_inverted 76 = .ok (.iload 6, 2) := by decide +kernel
theorem dX12_inverted_78 : decode cX12_inverted 78 = .ok (.imul, 1) := by decide +kernel
theorem dX12_inverted_79 : decode cX12_inverted 79 = .ok (.iload_n 2, 1) := by decide +kernel
theorem dX12_inverted_80 : decode cX12_inverted 80 = .ok (.iadd, 1) := by decide +kernel
theorem dX12_inverted_81 : decode cX12_inverted 81 = .ok (.laload, 1) := by decide +kernel
theorem dX12_inverted_82 : decode cX12_inverted 82 = .ok (.invokevirtual 304, 3) := by decide +kernel
theorem dX12_inverted_85 : decode cX12_inverted 85 = .ok (.invokevirtual 308, 3) := by decide +kernel
theorem dX12_inverted_88 : decode cX12_inverted 88 = .ok (.lstore_n 3, 1) := by decide +kernel
theorem dX12_inverted_89 : decode cX12_inverted 89 = .ok (.iinc 6 1, 3) := by decide +kernel
theorem dX12_inverted_92 : decode cX12_inverted 92 = .ok (.goto (-62), 3) := by decide +kernel
theorem dX12_inverted_95 : decode cX12_inverted 95 = .ok (.aload_n 0, 1) := by decide +kernel
theorem dX12_inverted_96 : decode cX12_inverted 96 = .ok (.aload_n 0, 1) := by decide +kernel
theorem dX12_inverted_97 : decode cX12_inverted 97 = .ok (.getfield 38, 3) := by decide +kernel
theorem dX12_inverted_100 : decode cX12_inverted 100 = .ok (.bipush 16, 2) := by decide +kernel
theorem dX12_inverted_102 : decode cX12_inverted 102 = .ok (.iload_n 1, 1) := by decide +kernel
theorem dX12_inverted_103 : decode cX12_inverted 103 = .ok (.imul, 1) := by decide +kernel
theorem dX12_inverted_104 : decode cX12_inverted 104 = .ok (.iload_n 1, 1) := by decide +kernel
theorem dX12_inverted_105 : decode cX12_inverted 105 = .ok (.iadd, 1) := by decide +kernel
theorem dX12_inverted_106 : decode cX12_inverted 106 = .ok (.laload, 1) := by decide +kernel
theorem dX12_inverted_107 : decode cX12_inverted 107 = .ok (.lneg, 1) := by decide +kernel
theorem dX12_inverted_108 : decode cX12_inverted 108 = .ok (.lload_n 3, 1) := by decide +kernel
theorem dX12_inverted_109 : decode cX12_inverted 109 = .ok (.invokevirtual 304, 3) := by decide +kernel
theorem dX12_inverted_112 : decode cX12_inverted 112 = .ok (.lreturn, 1) := by decide +kernel
theorem dX12_invert_0 : decode cX12_invert 0 = .ok (.iload_n 1, 1) := by decide +kernel
theorem dX12_invert_1 : decode cX12_invert 1 = .ok (.invokestatic 290, 3) := by decide +kernel
theorem dX12_invert_4 : decode cX12_invert 4 = .ok (.ifCond .eq 10, 3) := by decide +kernel
theorem dX12_invert_7 : decode cX12_invert 7 = .ok (.iload_n 2, 1) := by decide +kernel
theorem dX12_invert_8 : decode cX12_invert 8 = .ok (.invokestatic 290, 3) := by decide +kernel
theorem dX12_invert_11 : decode cX12_invert 11 = .ok (.ifCond .ne 5, 3) := by decide +kernel
theorem dX12_invert_14 : decode cX12_invert 14 = .ok (.iconst (-1), 1) := by decide +kernel
theorem dX12_invert_15 : decode cX12_invert 15 = .ok (.ireturn, 1) := by decide +kernel
theorem dX12_invert_16 : decode cX12_invert 16 = .ok (.aload_n 0, 1) := by decide +kernel
theorem dX12_invert_17 : decode cX12_invert 17 = .ok (.aload_n 0, 1) := by decide +kernel
theorem dX12_invert_18 : decode cX12_invert 18 = .ok (.getfield 38, 3) := by decide +kernel
theorem dX12_invert_21 : decode cX12_invert 21 = .ok (.iload_n 2, 1) := by decide +kernel
theorem dX12_invert_22 : decode cX12_invert 22 = .ok (.invokevirtual 320, 3) := by decide +kernel
theorem dX12_invert_25 : decode cX12_invert 25 = .ok (.iconst 0, 1) := by decide +kernel
theorem dX12_invert_26 : decode cX12_invert 26 = .ok (.istore_n 3, 1) := by decide +kernel
theorem dX12_invert_27 : decode cX12_invert 27 = .ok (.iload_n 3, 1) := by decide +kernel
theorem dX12_invert_28 : decode cX12_invert 28 = .ok (.aload_n 0, 1) := by decide +kernel
theorem dX12_invert_29 : decode cX12_invert 29 = .ok (.invokevirtual 78, 3) := by decide +kernel
theorem dX12_invert_32 : decode cX12_invert 32 = .ok (.if_icmp .ge 46, 3) := by decide +kernel
theorem dX12_invert_35 : decode cX12_invert 35 = .ok (.aload_n 0, 1) := by decide +kernel
theorem dX12_invert_36 : decode cX12_invert 36 = .ok (.getfield 38, 3) := by decide +kernel
theorem dX12_invert_39 : decode cX12_invert 39 = .ok (.bipush 16, 2) := by decide +kernel
theorem dX12_invert_41 : decode cX12_invert 41 = .ok (.iload_n 3, 1) := by decide +kernel
theorem dX12_invert_42 : decode cX12_invert 42 = .ok (.imul, 1) := by decide +kernel
theorem dX12_invert_43 : decode cX12_invert 43 = .ok (.iload_n 3, 1) := by decide +kernel
theorem dX12_invert_44 : decode cX12_invert 44 = .ok (.iadd, 1) := by decide +kernel
theorem dX12_invert_45 : decode cX12_invert 45 = .ok (.laload, 1) := by decide +kernel
theorem dX12_invert_46 : decode cX12_invert 46 = .ok (.lconst 1, 1) := by decide +kernel
theorem dX12_invert_47 : decode cX12_invert 47 = .ok (.lcmp, 1) := by decide +kernel
theorem dX12_invert_48 : decode cX12_invert 48 = .ok (.ifCond .eq 24, 3) := by decide +kernel
theorem dX12_invert_51 : decode cX12_invert 51 = .ok (.aload_n 0, 1) := by decide +kernel
theorem dX12_invert_52 : decode cX12_invert 52 = .ok (.getfield 38, 3) := by decide +kernel
theorem dX12_invert_55 : decode cX12_invert 55 = .ok (.bipush 16, 2) := by decide +kernel
theorem dX12_invert_57 : decode cX12_invert 57 = .ok (.iload_n 3, 1) := by decide +kernel
theorem dX12_invert_58 : decode cX12_invert 58 = .ok (.imul, 1) := by decide +kernel
theorem dX12_invert_59 : decode cX12_invert 59 = .ok (.iload_n 3, 1) := by decide +kernel
theorem dX12_invert_60 : decode cX12_invert 60 = .ok (.iadd, 1) := by decide +kernel
theorem dX12_invert_61 : decode cX12_invert 61 = .ok (.laload, 1) := by decide +kernel
theorem dX12_invert_62 : decode cX12_invert 62 = .ok (.ldc2_w 118, 3) := by decide +kernel
theorem dX12_invert_65 : decode cX12_invert 65 = .ok (.lcmp, 1) := by decide +kernel
theorem dX12_invert_66 : decode cX12_invert 66 = .ok (.ifCond .eq 6, 3) := by decide +kernel
theorem dX12_invert_69 : decode cX12_invert 69 = .ok (.bipush (-2), 2) := by decide +kernel
theorem dX12_invert_71 : decode cX12_invert 71 = .ok (.ireturn, 1) := by decide +kernel
theorem dX12_invert_72 : decode cX12_invert 72 = .ok (.iinc 3 1, 3) := by decide +kernel
theorem dX12_invert_75 : decode cX12_invert 75 = .ok (.goto (-48), 3) := by decide +kernel
theorem dX12_invert_78 : decode cX12_invert 78 = .ok (.aload_n 0, 1) := by decide +kernel
theorem dX12_invert_79 : decode cX12_invert 79 = .ok (.iconst 0, 1) := by decide +kernel
theorem dX12_invert_80 : decode cX12_invert 80 = .ok (.putfield 271, 3) := by decide +kernel
theorem dX12_invert_83 : decode cX12_invert 83 = .ok (.aload_n 0, 1) := by decide +kernel
theorem dX12_invert_84 : decode cX12_invert 84 = .ok (.invokevirtual 276, 3) := by decide +kernel
theorem dX12_invert_87 : decode cX12_invert 87 = .ok (.iconst 1, 1) := by decide +kernel
theorem dX12_invert_88 : decode cX12_invert 88 = .ok (.istore_n 3, 1) := by decide +kernel
theorem dX12_invert_89 : decode cX12_invert 89 = .ok (.iload_n 3, 1) := by decide +kernel
theorem dX12_invert_90 : decode cX12_invert 90 = .ok (.aload_n 0, 1) := by decide +kernel
theorem dX12_invert_91 : decode cX12_invert 91 = .ok (.invokevirtual 78, 3) := by decide +kernel
theorem dX12_invert_94 : decode cX12_invert 94 = .ok (.if_icmp .gt 92, 3) := by decide +kernel
theorem dX12_invert_97 : decode cX12_invert 97 = .ok (.iconst 0, 1) := by decide +kernel
theorem dX12_invert_98 : decode cX12_invert 98 = .ok (.istore 4, 2) := by decide +kernel
theorem dX12_invert_100 : decode cX12_invert 100 = .ok (.iload 4, 2) := by decide +kernel
theorem dX12_invert_102 : decode cX12_invert 102 = .ok (.aload_n 0, 1) := by decide +kernel
theorem dX12_invert_103 : decode cX12_invert 103 = .ok (.invokevirtual 78, 3) := by decide +kernel
theorem dX12_invert_106 : decode cX12_invert 106 = .ok (.if_icmp .ge 74, 3) := by decide +kernel
theorem dX12_invert_109 : decode cX12_invert 109 = .ok (.iconst 0, 1) := by decide +kernel
theorem dX12_invert_110 : decode cX12_invert 110 = .ok (.istore 5, 2) := by decide +kernel
theorem dX12_invert_112 : decode cX12_invert 112 = .ok (.iload 5, 2) := by decide +kernel
theorem dX12_invert_114 : decode cX12_invert 114 = .ok (.aload_n 0, 1) := by decide +kernel
theorem dX12_invert_115 : decode cX12_invert 115 = .ok (.invokevirtual 78, 3) := by decide +kernel
theorem dX12_invert_118 : decode cX12_invert 118 = .ok (.if_icmp .ge 56, 3) := by decide +kernel
theorem dX12_invert_121 : decode cX12_invert 121 = .ok (.aload_n 0, 1) := by decide +kernel
theorem dX12_invert_122 : decode cX12_invert 122 = .ok (.iload 4, 2) := by decide +kernel
theorem dX12_invert_124 : decode cX12_invert 124 = .ok (.iload 5, 2) := by decide +kernel
theorem dX12_invert_126 : decode cX12_invert 126 = .ok (.invokevirtual 94, 3) := by decide +kernel
theorem dX12_invert_129 : decode cX12_invert 129 = .ok (.ifCond .eq 39, 3) := by decide +kernel
theorem dX12_invert_132 : decode cX12_invert 132 = .ok (.aload_n 0, 1) := by decide +kernel
theorem dX12_invert_133 : decode cX12_invert 133 = .ok (.iload 4, 2) := by decide +kernel
theorem dX12_invert_135 : decode cX12_invert 135 = .ok (.iload 5, 2) := by decide +kernel
theorem dX12_invert_137 : decode cX12_invert 137 = .ok (.invokevirtual 107, 3) := by decide +kernel
theorem dX12_invert_140 : decode cX12_invert 140 = .ok (.invokestatic 111, 3) := by decide +kernel
theorem dX12_invert_143 : decode cX12_invert 143 = .ok (.iload_n 3, 1) := by decide +kernel
theorem dX12_invert_144 : decode cX12_invert 144 = .ok (.if_icmp .ne 24, 3) := by decide +kernel
theorem dX12_invert_147 : decode cX12_invert 147 = .ok (.aload_n 0, 1) := by decide +kernel
theorem dX12_invert_148 : decode cX12_invert 148 = .ok (.getfield 35, 3) := by decide +kernel
theorem dX12_invert_151 : decode cX12_invert 151 = .ok (.bipush 16, 2) := by decide +kernel
theorem dX12_invert_153 : decode cX12_invert 153 = .ok (.iload 4, 2) := by decide +kernel
theorem dX12_invert_155 : decode cX12_invert 155 = .ok (.imul, 1) := by decide +kernel
theorem dX12_invert_156 : decode cX12_invert 156 = .ok (.iload 5, 2) := by decide +kernel
theorem dX12_invert_158 : decode cX12_invert 158 = .ok (.iadd, 1) := by decide +kernel
theorem dX12_invert_159 : decode cX12_invert 159 = .ok (.aload_n 0, 1) := by decide +kernel
theorem dX12_invert_160 : decode cX12_invert 160 = .ok (.iload 4, 2) := by decide +kernel
theorem dX12_invert_162 : decode cX12_invert 162 = .ok (.iload 5, 2) := by decide +kernel
theorem dX12_invert_164 : decode cX12_invert 164 = .ok (.invokevirtual 327, 3) := by decide +kernel
theorem dX12_invert_167 : decode cX12_invert 167 = .ok (.lastore, 1) := by decide +kernel
theorem dX12_invert_168 : decode cX12_invert 168 = .ok (.iinc 5 1, 3) := by decide +kernel
theorem dX12_invert_171 : decode cX12_invert 171 = .ok (.goto (-59), 3) := by decide +kernel
theorem dX12_invert_174 : decode cX12_invert 174 = .ok (.iinc 4 1, 3) := by decide +kernel
theorem dX12_invert_177 : decode cX12_invert 177 = .ok (.goto (-77), 3) := by decide +kernel
theorem dX12_invert_180 : decode cX12_invert 180 = .ok (.iinc 3 1, 3) := by decide +kernel
theorem dX12_invert_183 : decode cX12_invert 183 = .ok (.goto (-94), 3) := by decide +kernel
theorem dX12_invert_186 : decode cX12_invert 186 = .ok (.aload_n 0, 1) := by decide +kernel
theorem dX12_invert_187 : decode cX12_invert 187 = .ok (.getfield 271, 3) := by decide +kernel
theorem dX12_invert_190 : decode cX12_invert 190 = .ok (.ifCond .eq 6, 3) := by decide +kernel
theorem dX12_invert_193 : decode cX12_invert 193 = .ok (.bipush (-3), 2) := by decide +kernel
theorem dX12_invert_195 : decode cX12_invert 195 = .ok (.ireturn, 1) := by decide +kernel
theorem dX12_invert_196 : decode cX12_invert 196 = .ok (.aload_n 0, 1) := by decide +kernel
theorem dX12_invert_197 : decode cX12_invert 197 = .ok (.invokevirtual 233, 3) := by decide +kernel
theorem dX12_invert_200 : decode cX12_invert 200 = .ok (.aload_n 0, 1) := by decide +kernel
theorem dX12_invert_201 : decode cX12_invert 201 = .ok (.iload_n 1, 1) := by decide +kernel
theorem dX12_invert_202 : decode cX12_invert 202 = .ok (.invokevirtual 298, 3) := by decide +kernel
theorem dX12_invert_205 : decode cX12_invert 205 = .ok (.iconst 1, 1) := by decide +kernel
theorem dX12_invert_206 : decode cX12_invert 206 = .ok (.ireturn, 1) := by decide +kernel
theorem dX12_raises_0 : decode cX12_raises 0 = .ok (.aload_n 0, 1) := by decide +kernel
theorem dX12_raises_1 : decode cX12_raises 1 = .ok (.iconst 1, 1) := by decide +kernel
theorem dX12_raises_2 : decode cX12_raises 2 = .ok (.invokevirtual 295, 3) := by decide +kernel
theorem dX12_raises_5 : decode cX12_raises 5 = .ok (.iconst 0, 1) := by decide +kernel
theorem dX12_raises_6 : decode cX12_raises 6 = .ok (.istore_n 2, 1) := by decide +kernel
theorem dX12_raises_7 : decode cX12_raises 7 = .ok (.iload_n 2, 1) := by decide +kernel
theorem dX12_raises_8 : decode cX12_raises 8 = .ok (.iload_n 1, 1) := by decide +kernel
theorem dX12_raises_9 : decode cX12_raises 9 = .ok (.if_icmp .ge 41, 3) := by decide +kernel
theorem dX12_raises_12 : decode cX12_raises 12 = .ok (.iconst 0, 1) := by decide +kernel
theorem dX12_raises_13 : decode cX12_raises 13 = .ok (.istore_n 3, 1) := by decide +kernel
theorem dX12_raises_14 : decode cX12_raises 14 = .ok (.iload_n 3, 1) := by decide +kernel
theorem dX12_raises_15 : decode cX12_raises 15 = .ok (.sipush 256, 3) := by decide +kernel
theorem dX12_raises_18 : decode cX12_raises 18 = .ok (.if_icmp .ge 21, 3) := by decide +kernel
theorem dX12_raises_21 : decode cX12_raises 21 = .ok (.aload_n 0, 1) := by decide +kernel
theorem dX12_raises_22 : decode cX12_raises 22 = .ok (.getfield 38, 3) := by decide +kernel
theorem dX12_raises_25 : decode cX12_raises 25 = .ok (.iload_n 3, 1) := by decide +kernel
theorem dX12_raises_26 : decode cX12_raises 26 = .ok (.aload_n 0, 1) := by decide +kernel
theorem dX12_raises_27 : decode cX12_raises 27 = .ok (.getfield 35, 3) := by decide +kernel
theorem dX12_raises_30 : decode cX12_raises 30 = .ok (.iload_n 3, 1) := by decide +kernel
theorem dX12_raises_31 : decode cX12_raises 31 = .ok (.laload, 1) := by decide +kernel
theorem dX12_raises_32 : decode cX12_raises 32 = .ok (.lastore, 1) := by decide +kernel
theorem dX12_raises_33 : decode cX12_raises 33 = .ok (.iinc 3 1, 3) := by decide +kernel
theorem dX12_raises_36 : decode cX12_raises 36 = .ok (.goto (-22), 3) := by decide +kernel
theorem dX12_raises_39 : decode cX12_raises 39 = .ok (.aload_n 0, 1) := by decide +kernel
theorem dX12_raises_40 : decode cX12_raises 40 = .ok (.iconst 2, 1) := by decide +kernel
theorem dX12_raises_41 : decode cX12_raises 41 = .ok (.invokevirtual 324, 3) := by decide +kernel
theorem dX12_raises_44 : decode cX12_raises 44 = .ok (.iinc 2 1, 3) := by decide +kernel
theorem dX12_raises_47 : decode cX12_raises 47 = .ok (.goto (-40), 3) := by decide +kernel
theorem dX12_raises_50 : decode cX12_raises 50 = .ok (.return_, 1) := by decide +kernel
theorem dX12_raise_0 : decode cX12_raise 0 = .ok (.iload_n 1, 1) := by decide +kernel
theorem dX12_raise_1 : decode cX12_raise 1 = .ok (.invokestatic 290, 3) := by decide +kernel
theorem dX12_raise_4 : decode cX12_raise 4 = .ok (.ifCond .eq 22, 3) := by decide +kernel
theorem dX12_raise_7 : decode cX12_raise 7 = .ok (.iload_n 2, 1) := by decide +kernel
theorem dX12_raise_8 : decode cX12_raise 8 = .ok (.invokestatic 290, 3) := by decide +kernel
theorem dX12_raise_11 : decode cX12_raise 11 = .ok (.ifCond .eq 15, 3) := by decide +kernel
theorem dX12_raise_14 : decode cX12_raise 14 = .ok (.iload_n 3, 1) := by decide +kernel
theorem dX12_raise_15 : decode cX12_raise 15 = .ok (.i2l, 1) := by decide +kernel
theorem dX12_raise_16 : decode cX12_raise 16 = .ok (.lconst 0, 1) := by decide +kernel
theorem dX12_raise_17 : decode cX12_raise 17 = .ok (.ldc2_w 330, 3) := by decide +kernel
theorem dX12_raise_20 : decode cX12_raise 20 = .ok (.invokestatic 82, 3) := by decide +kernel
theorem dX12_raise_23 : decode cX12_raise 23 = .ok (.ifCond .ne 5, 3) := by decide +kernel
theorem dX12_raise_26 : decode cX12_raise 26 = .ok (.iconst (-1), 1) := by decide +kernel
theorem dX12_raise_27 : decode cX12_raise 27 = .ok (.ireturn, 1) := by decide +kernel
theorem dX12_raise_28 : decode cX12_raise 28 = .ok (.aload_n 0, 1) := by decide +kernel
theorem dX12_raise_29 : decode cX12_raise 29 = .ok (.iconst 0, 1) := by decide +kernel
theorem dX12_raise_30 : decode cX12_raise 30 = .ok (.putfield 271, 3) := by decide +kernel
theorem dX12_raise_33 : decode cX12_raise 33 = .ok (.aload_n 0, 1) := by decide +kernel
theorem dX12_raise_34 : decode cX12_raise 34 = .ok (.aload_n 0, 1) := by decide +kernel
theorem dX12_raise_35 : decode cX12_raise 35 = .ok (.getfield 41, 3) := by decide +kernel
theorem dX12_raise_38 : decode cX12_raise 38 = .ok (.iload_n 2, 1) := by decide +kernel
theorem dX12_raise_39 : decode cX12_raise 39 = .ok (.invokevirtual 320, 3) := by decide +kernel
theorem dX12_raise_42 : decode cX12_raise 42 = .ok (.aload_n 0, 1) := by decide +kernel
theorem dX12_raise_43 : decode cX12_raise 43 = .ok (.iload_n 3, 1) := by decide +kernel
theorem dX12_raise_44 : decode cX12_raise 44 = .ok (.invokevirtual 332, 3) := by decide +kernel
theorem dX12_raise_47 : decode cX12_raise 47 = .ok (.aload_n 0, 1) := by decide +kernel
theorem dX12_raise_48 : decode cX12_raise 48 = .ok (.getfield 271, 3) := by decide +kernel
theorem dX12_raise_51 : decode cX12_raise 51 = .ok (.ifCond .eq 6, 3) := by decide +kernel
theorem dX12_raise_54 : decode cX12_raise 54 = .ok (.bipush (-3), 2) := by decide +kernel
theorem dX12_raise_56 : decode cX12_raise 56 = .ok (.ireturn, 1) := by decide +kernel
theorem dX12_raise_57 : decode cX12_raise 57 = .ok (.aload_n 0, 1) := by decide +kernel
theorem dX12_raise_58 : decode cX12_raise 58 = .ok (.invokevirtual 233, 3) := by decide +kernel
theorem dX12_raise_61 : decode cX12_raise 61 = .ok (.aload_n 0, 1) := by decide +kernel
theorem dX12_raise_62 : decode cX12_raise 62 = .ok (.iload_n 1, 1) := by decide +kernel
theorem dX12_raise_63 : decode cX12_raise 63 = .ok (.invokevirtual 298, 3) := by decide +kernel
theorem dX12_raise_66 : decode cX12_raise 66 = .ok (.iconst 1, 1) := by decide +kernel
theorem dX12_raise_67 : decode cX12_raise 67 = .ok (.ireturn, 1) := by decide +kernel
theorem dX12_data_0 : decode cX12_data 0 = .ok (.aload_n 0, 1) := by decide +kernel
theorem dX12_data_1 : decode cX12_data 1 = .ok (.iload_n 1, 1) := by decide +kernel
theorem dX12_data_2 : decode cX12_data 2 = .ok (.invokevirtual 100, 3) := by decide +kernel
theorem dX12_data_5 : decode cX12_data 5 = .ok (.ifCond .ne 5, 3) := by decide +kernel
theorem dX12_data_8 : decode cX12_data 8 = .ok (.iconst (-1), 1) := by decide +kernel
theorem dX12_data_9 : decode cX12_data 9 = .ok (.ireturn, 1) := by decide +kernel
theorem dX12_data_10 : decode cX12_data 10 = .ok (.aload_n 0, 1) := by decide +kernel
theorem dX12_data_11 : decode cX12_data 11 = .ok (.getfield 9, 3) := by decide +kernel
theorem dX12_data_14 : decode cX12_data 14 = .ok (.sipush 1041, 3) := by decide +kernel
theorem dX12_data_17 : decode cX12_data 17 = .ok (.iload_n 1, 1) := by decide +kernel
theorem dX12_data_18 : decode cX12_data 18 = .ok (.iadd, 1) := by decide +kernel
theorem dX12_data_19 : decode cX12_data 19 = .ok (.laload, 1) := by decide +kernel
theorem dX12_data_20 : decode cX12_data 20 = .ok (.lload_n 2, 1) := by decide +kernel
theorem dX12_data_21 : decode cX12_data 21 = .ok (.lcmp, 1) := by decide +kernel
theorem dX12_data_22 : decode cX12_data 22 = .ok (.ifCond .ne 6, 3) := by decide +kernel
theorem dX12_data_25 : decode cX12_data 25 = .ok (.bipush (-2), 2) := by decide +kernel
theorem dX12_data_27 : decode cX12_data 27 = .ok (.ireturn, 1) := by decide +kernel
theorem dX12_data_28 : decode cX12_data 28 = .ok (.aload_n 0, 1) := by decide +kernel
theorem dX12_data_29 : decode cX12_data 29 = .ok (.invokevirtual 233, 3) := by decide +kernel
theorem dX12_data_32 : decode cX12_data 32 = .ok (.aload_n 0, 1) := by decide +kernel
theorem dX12_data_33 : decode cX12_data 33 = .ok (.getfield 9, 3) := by decide +kernel
theorem dX12_data_36 : decode cX12_data 36 = .ok (.sipush 1041, 3) := by decide +kernel
theorem dX12_data_39 : decode cX12_data 39 = .ok (.iload_n 1, 1) := by decide +kernel
theorem dX12_data_40 : decode cX12_data 40 = .ok (.iadd, 1) := by decide +kernel
theorem dX12_data_41 : decode cX12_data 41 = .ok (.lload_n 2, 1) := by decide +kernel
theorem dX12_data_42 : decode cX12_data 42 = .ok (.lastore, 1) := by decide +kernel
theorem dX12_data_43 : decode cX12_data 43 = .ok (.iconst 1, 1) := by decide +kernel
theorem dX12_data_44 : decode cX12_data 44 = .ok (.ireturn, 1) := by decide +kernel
theorem dX12_point_0 : decode cX12_point 0 = .ok (.aload_n 0, 1) := by decide +kernel
theorem dX12_point_1 : decode cX12_point 1 = .ok (.iload_n 1, 1) := by decide +kernel
theorem dX12_point_2 : decode cX12_point 2 = .ok (.invokevirtual 100, 3) := by decide +kernel
theorem dX12_point_5 : decode cX12_point 5 = .ok (.ifCond .eq 29, 3) := by decide +kernel
theorem dX12_point_8 : decode cX12_point 8 = .ok (.aload_n 0, 1) := by decide +kernel
theorem dX12_point_9 : decode cX12_point 9 = .ok (.iconst 0, 1) := by decide +kernel
theorem dX12_point_10 : decode cX12_point 10 = .ok (.invokevirtual 250, 3) := by decide +kernel
theorem dX12_point_13 : decode cX12_point 13 = .ok (.ifCond .eq 21, 3) := by decide +kernel
theorem dX12_point_16 : decode cX12_point 16 = .ok (.iload_n 2, 1) := by decide +kernel
theorem dX12_point_17 : decode cX12_point 17 = .ok (.i2l, 1) := by decide +kernel
theorem dX12_point_18 : decode cX12_point 18 = .ok (.lconst 0, 1) := by decide +kernel
theorem dX12_point_19 : decode cX12_point 19 = .ok (.aload_n 0, 1) := by decide +kernel
theorem dX12_point_20 : decode cX12_point 20 = .ok (.getfield 18, 3) := by decide +kernel
theorem dX12_point_23 : decode cX12_point 23 = .ok (.iconst 0, 1) := by decide +kernel
theorem dX12_point_24 : decode cX12_point 24 = .ok (.iaload, 1) := by decide +kernel
theorem dX12_point_25 : decode cX12_point 25 = .ok (.iconst 1, 1) := by decide +kernel
theorem dX12_point_26 : decode cX12_point 26 = .ok (.isub, 1) := by decide +kernel
theorem dX12_point_27 : decode cX12_point 27 = .ok (.i2l, 1) := by decide +kernel
theorem dX12_point_28 : decode cX12_point 28 = .ok (.invokestatic 82, 3) := by decide +kernel
theorem dX12_point_31 : decode cX12_point 31 = .ok (.ifCond .ne 5, 3) := by decide +kernel
theorem dX12_point_34 : decode cX12_point 34 = .ok (.iconst (-1), 1) := by decide +kernel
theorem dX12_point_35 : decode cX12_point 35 = .ok (.ireturn, 1) := by decide +kernel
theorem dX12_point_36 : decode cX12_point 36 = .ok (.aload_n 0, 1) := by decide +kernel
theorem dX12_point_37 : decode cX12_point 37 = .ok (.getfield 9, 3) := by decide +kernel
theorem dX12_point_40 : decode cX12_point 40 = .ok (.sipush 1057, 3) := by decide +kernel
theorem dX12_point_43 : decode cX12_point 43 = .ok (.iload_n 1, 1) := by decide +kernel
theorem dX12_point_44 : decode cX12_point 44 = .ok (.iadd, 1) := by decide +kernel
theorem dX12_point_45 : decode cX12_point 45 = .ok (.laload, 1) := by decide +kernel
theorem dX12_point_46 : decode cX12_point 46 = .ok (.iload_n 2, 1) := by decide +kernel
theorem dX12_point_47 : decode cX12_point 47 = .ok (.i2l, 1) := by decide +kernel
theorem dX12_point_48 : decode cX12_point 48 = .ok (.lcmp, 1) := by decide +kernel
theorem dX12_point_49 : decode cX12_point 49 = .ok (.ifCond .ne 6, 3) := by decide +kernel
theorem dX12_point_52 : decode cX12_point 52 = .ok (.bipush (-2), 2) := by decide +kernel
theorem dX12_point_54 : decode cX12_point 54 = .ok (.ireturn, 1) := by decide +kernel
theorem dX12_point_55 : decode cX12_point 55 = .ok (.aload_n 0, 1) := by decide +kernel
theorem dX12_point_56 : decode cX12_point 56 = .ok (.invokevirtual 233, 3) := by decide +kernel
theorem dX12_point_59 : decode cX12_point 59 = .ok (.aload_n 0, 1) := by decide +kernel
theorem dX12_point_60 : decode cX12_point 60 = .ok (.getfield 9, 3) := by decide +kernel
theorem dX12_point_63 : decode cX12_point 63 = .ok (.sipush 1057, 3) := by decide +kernel
theorem dX12_point_66 : decode cX12_point 66 = .ok (.iload_n 1, 1) := by decide +kernel
theorem dX12_point_67 : decode cX12_point 67 = .ok (.iadd, 1) := by decide +kernel
theorem dX12_point_68 : decode cX12_point 68 = .ok (.iload_n 2, 1) := by decide +kernel
theorem dX12_point_69 : decode cX12_point 69 = .ok (.i2l, 1) := by decide +kernel
theorem dX12_point_70 : decode cX12_point 70 = .ok (.lastore, 1) := by decide +kernel
theorem dX12_point_71 : decode cX12_point 71 = .ok (.iconst 1, 1) := by decide +kernel
theorem dX12_point_72 : decode cX12_point 72 = .ok (.ireturn, 1) := by decide +kernel
theorem dX12_value_0 : decode cX12_value 0 = .ok (.iload_n 1, 1) := by decide +kernel
theorem dX12_value_1 : decode cX12_value 1 = .ok (.invokestatic 290, 3) := by decide +kernel
theorem dX12_value_4 : decode cX12_value 4 = .ok (.ifCond .eq 26, 3) := by decide +kernel
theorem dX12_value_7 : decode cX12_value 7 = .ok (.aload_n 0, 1) := by decide +kernel
theorem dX12_value_8 : decode cX12_value 8 = .ok (.iload_n 2, 1) := by decide +kernel
theorem dX12_value_9 : decode cX12_value 9 = .ok (.iload_n 3, 1) := by decide +kernel
theorem dX12_value_10 : decode cX12_value 10 = .ok (.invokevirtual 247, 3) := by decide +kernel
theorem dX12_value_13 : decode cX12_value 13 = .ok (.ifCond .eq 17, 3) := by decide +kernel
theorem dX12_value_16 : decode cX12_value 16 = .ok (.aload_n 0, 1) := by decide +kernel
theorem dX12_value_17 : decode cX12_value 17 = .ok (.getfield 9, 3) := by decide +kernel
theorem dX12_value_20 : decode cX12_value 20 = .ok (.iload_n 1, 1) := by decide +kernel
theorem dX12_value_21 : decode cX12_value 21 = .ok (.iload_n 2, 1) := by decide +kernel
theorem dX12_value_22 : decode cX12_value 22 = .ok (.iload_n 3, 1) := by decide +kernel
theorem dX12_value_23 : decode cX12_value 23 = .ok (.invokestatic 301, 3) := by decide +kernel
theorem dX12_value_26 : decode cX12_value 26 = .ok (.laload, 1) := by decide +kernel
theorem dX12_value_27 : decode cX12_value 27 = .ok (.goto 6, 3) := by decide +kernel
theorem dX12_value_30 : decode cX12_value 30 = .ok (.ldc2_w 269, 3) := by decide +kernel
theorem dX12_value_33 : decode cX12_value 33 = .ok (.lreturn, 1) := by decide +kernel
theorem dX12_areSame_0 : decode cX12_areSame 0 = .ok (.iconst 0, 1) := by decide +kernel
theorem dX12_areSame_1 : decode cX12_areSame 1 = .ok (.istore_n 3, 1) := by decide +kernel
theorem dX12_areSame_2 : decode cX12_areSame 2 = .ok (.iload_n 3, 1) := by decide +kernel
theorem dX12_areSame_3 : decode cX12_areSame 3 = .ok (.sipush 256, 3) := by decide +kernel
theorem dX12_areSame_6 : decode cX12_areSame 6 = .ok (.if_icmp .ge 45, 3) := by decide +kernel
theorem dX12_areSame_9 : decode cX12_areSame 9 = .ok (.aload_n 0, 1) := by decide +kernel
theorem dX12_areSame_10 : decode cX12_areSame 10 = .ok (.getfield 9, 3) := by decide +kernel
theorem dX12_areSame_13 : decode cX12_areSame 13 = .ok (.bipush 17, 2) := by decide +kernel
theorem dX12_areSame_15 : decode cX12_areSame 15 = .ok (.sipush 256, 3) := by decide +kernel
theorem dX12_areSame_18 : decode cX12_areSame 18 = .ok (.iload_n 1, 1) := by decide +kernel
theorem dX12_areSame_19 : decode cX12_areSame 19 = .ok (.imul, 1) := by decide +kernel
theorem dX12_areSame_20 : decode cX12_areSame 20 = .ok (.iadd, 1) := by decide +kernel
theorem dX12_areSame_21 : decode cX12_areSame 21 = .ok (.iload_n 3, 1) := by decide +kernel
theorem dX12_areSame_22 : decode cX12_areSame 22 = .ok (.iadd, 1) := by decide +kernel
theorem dX12_areSame_23 : decode cX12_areSame 23 = .ok (.laload, 1) := by decide +kernel
theorem dX12_areSame_24 : decode cX12_areSame 24 = .ok (.aload_n 0, 1) := by decide +kernel
theorem dX12_areSame_25 : decode cX12_areSame 25 = .ok (.getfield 9, 3) := by decide +kernel
theorem dX12_areSame_28 : decode cX12_areSame 28 = .ok (.bipush 17, 2) := by decide +kernel
theorem dX12_areSame_30 : decode cX12_areSame 30 = .ok (.sipush 256, 3) := by decide +kernel
theorem dX12_areSame_33 : decode cX12_areSame 33 = .ok (.iload_n 2, 1) := by decide +kernel
theorem dX12_areSame_34 : decode cX12_areSame 34 = .ok (.imul, 1) := by decide +kernel
theorem dX12_areSame_35 : decode cX12_areSame 35 = .ok (.iadd, 1) := by decide +kernel
theorem dX12_areSame_36 : decode cX12_areSame 36 = .ok (.iload_n 3, 1) := by decide +kernel
theorem dX12_areSame_37 : decode cX12_areSame 37 = .ok (.iadd, 1) := by decide +kernel
theorem dX12_areSame_38 : decode cX12_areSame 38 = .ok (.laload, 1) := by decide +kernel
theorem dX12_areSame_39 : decode cX12_areSame 39 = .ok (.lcmp, 1) := by decide +kernel
theorem dX12_areSame_40 : decode cX12_areSame 40 = .ok (.ifCond .eq 5, 3) := by decide +kernel
theorem dX12_areSame_43 : decode cX12_areSame 43 = .ok (.iconst 0, 1) := by decide +kernel
theorem dX12_areSame_44 : decode cX12_areSame 44 = .ok (.ireturn, 1) := by decide +kernel
theorem dX12_areSame_45 : decode cX12_areSame 45 = .ok (.iinc 3 1, 3) := by decide +kernel
theorem dX12_areSame_48 : decode cX12_areSame 48 = .ok (.goto (-46), 3) := by decide +kernel
theorem dX12_areSame_51 : decode cX12_areSame 51 = .ok (.iconst 1, 1) := by decide +kernel
theorem dX12_areSame_52 : decode cX12_areSame 52 = .ok (.ireturn, 1) := by decide +kernel
theorem dX12_same_0 : decode cX12_same 0 = .ok (.iload_n 1, 1) := by decide +kernel
theorem dX12_same_1 : decode cX12_same 1 = .ok (.invokestatic 290, 3) := by decide +kernel
theorem dX12_same_4 : decode cX12_same 4 = .ok (.ifCond .eq 10, 3) := by decide +kernel
theorem dX12_same_7 : decode cX12_same 7 = .ok (.iload_n 2, 1) := by decide +kernel
theorem dX12_same_8 : decode cX12_same 8 = .ok (.invokestatic 290, 3) := by decide +kernel
theorem dX12_same_11 : decode cX12_same 11 = .ok (.ifCond .ne 7, 3) := by decide +kernel
theorem dX12_same_14 : decode cX12_same 14 = .ok (.iconst (-1), 1) := by decide +kernel
theorem dX12_same_15 : decode cX12_same 15 = .ok (.goto 17, 3) := by decide +kernel
theorem dX12_same_18 : decode cX12_same 18 = .ok (.aload_n 0, 1) := by decide +kernel
theorem dX12_same_19 : decode cX12_same 19 = .ok (.iload_n 1, 1) := by decide +kernel
theorem dX12_same_20 : decode cX12_same 20 = .ok (.iload_n 2, 1) := by decide +kernel
theorem dX12_same_21 : decode cX12_same 21 = .ok (.invokevirtual 335, 3) := by decide +kernel
theorem dX12_same_24 : decode cX12_same 24 = .ok (.ifCond .eq 7, 3) := by decide +kernel
theorem dX12_same_27 : decode cX12_same 27 = .ok (.iconst 1, 1) := by decide +kernel
theorem dX12_same_28 : decode cX12_same 28 = .ok (.goto 4, 3) := by decide +kernel
theorem dX12_same_31 : decode cX12_same 31 = .ok (.iconst 0, 1) := by decide +kernel
theorem dX12_same_32 : decode cX12_same 32 = .ok (.ireturn, 1) := by decide +kernel
theorem dX12_coverSet_0 : decode cX12_coverSet 0 = .ok (.iconst 0, 1) := by decide +kernel
theorem dX12_coverSet_1 : decode cX12_coverSet 1 = .ok (.istore_n 2, 1) := by decide +kernel
theorem dX12_coverSet_2 : decode cX12_coverSet 2 = .ok (.iconst 0, 1) := by decide +kernel
theorem dX12_coverSet_3 : decode cX12_coverSet 3 = .ok (.istore_n 3, 1) := by decide +kernel
theorem dX12_coverSet_4 : decode cX12_coverSet 4 = .ok (.iload_n 3, 1) := by decide +kernel
theorem dX12_coverSet_5 : decode cX12_coverSet 5 = .ok (.aload_n 0, 1) := by decide +kernel
theorem dX12_coverSet_6 : decode cX12_coverSet 6 = .ok (.invokevirtual 78, 3) := by decide +kernel
theorem dX12_coverSet_9 : decode cX12_coverSet 9 = .ok (.if_icmp .ge 28, 3) := by decide +kernel
theorem dX12_coverSet_12 : decode cX12_coverSet 12 = .ok (.iload_n 2, 1) := by decide +kernel
theorem dX12_coverSet_13 : decode cX12_coverSet 13 = .ok (.aload_n 0, 1) := by decide +kernel
theorem dX12_coverSet_14 : decode cX12_coverSet 14 = .ok (.iload_n 1, 1) := by decide +kernel
theorem dX12_coverSet_15 : decode cX12_coverSet 15 = .ok (.iload_n 3, 1) := by decide +kernel
theorem dX12_coverSet_16 : decode cX12_coverSet 16 = .ok (.invokevirtual 239, 3) := by decide +kernel
theorem dX12_coverSet_19 : decode cX12_coverSet 19 = .ok (.ifCond .eq 9, 3) := by decide +kernel
theorem dX12_coverSet_22 : decode cX12_coverSet 22 = .ok (.iconst 1, 1) := by decide +kernel
theorem dX12_coverSet_23 : decode cX12_coverSet 23 = .ok (.iload_n 3, 1) := by decide +kernel
theorem dX12_coverSet_24 : decode cX12_coverSet 24 = .ok (.ishl, 1) := by decide +kernel
theorem dX12_coverSet_25 : decode cX12_coverSet 25 = .ok (.goto 4, 3) := by decide +kernel
theorem dX12_coverSet_28 : decode cX12_coverSet 28 = .ok (.iconst 0, 1) := by decide +kernel
theorem dX12_coverSet_29 : decode cX12_coverSet 29 = .ok (.ior, 1) := by decide +kernel
theorem dX12_coverSet_30 : decode cX12_coverSet 30 = .ok (.istore_n 2, 1) := by decide +kernel
theorem dX12_coverSet_31 : decode cX12_coverSet 31 = .ok (.iinc 3 1, 3) := by decide +kernel
theorem dX12_coverSet_34 : decode cX12_coverSet 34 = .ok (.goto (-30), 3) := by decide +kernel
theorem dX12_coverSet_37 : decode cX12_coverSet 37 = .ok (.iload_n 2, 1) := by decide +kernel
theorem dX12_coverSet_38 : decode cX12_coverSet 38 = .ok (.ireturn, 1) := by decide +kernel
theorem dX12_coveredSet_0 : decode cX12_coveredSet 0 = .ok (.iconst 0, 1) := by decide +kernel
theorem dX12_coveredSet_1 : decode cX12_coveredSet 1 = .ok (.istore_n 2, 1) := by decide +kernel
theorem dX12_coveredSet_2 : decode cX12_coveredSet 2 = .ok (.iconst 0, 1) := by decide +kernel
theorem dX12_coveredSet_3 : decode cX12_coveredSet 3 = .ok (.istore_n 3, 1) := by decide +kernel
theorem dX12_coveredSet_4 : decode cX12_coveredSet 4 = .ok (.iload_n 3, 1) := by decide +kernel
theorem dX12_coveredSet_5 : decode cX12_coveredSet 5 = .ok (.aload_n 0, 1) := by decide +kernel
theorem dX12_coveredSet_6 : decode cX12_coveredSet 6 = .ok (.invokevirtual 78, 3) := by decide +kernel
theorem dX12_coveredSet_9 : decode cX12_coveredSet 9 = .ok (.if_icmp .ge 28, 3) := by decide +kernel
theorem dX12_coveredSet_12 : decode cX12_coveredSet 12 = .ok (.iload_n 2, 1) := by decide +kernel
theorem dX12_coveredSet_13 : decode cX12_coveredSet 13 = .ok (.aload_n 0, 1) := by decide +kernel
theorem dX12_coveredSet_14 : decode cX12_coveredSet 14 = .ok (.iload_n 3, 1) := by decide +kernel
theorem dX12_coveredSet_15 : decode cX12_coveredSet 15 = .ok (.iload_n 1, 1) := by decide +kernel
theorem dX12_coveredSet_16 : decode cX12_coveredSet 16 = .ok (.invokevirtual 239, 3) := by decide +kernel
theorem dX12_coveredSet_19 : decode cX12_coveredSet 19 = .ok (.ifCond .eq 9, 3) := by decide +kernel
theorem dX12_coveredSet_22 : decode cX12_coveredSet 22 = .ok (.iconst 1, 1) := by decide +kernel
theorem dX12_coveredSet_23 : decode cX12_coveredSet 23 = .ok (.iload_n 3, 1) := by decide +kernel
theorem dX12_coveredSet_24 : decode cX12_coveredSet 24 = .ok (.ishl, 1) := by decide +kernel
theorem dX12_coveredSet_25 : decode cX12_coveredSet 25 = .ok (.goto 4, 3) := by decide +kernel
theorem dX12_coveredSet_28 : decode cX12_coveredSet 28 = .ok (.iconst 0, 1) := by decide +kernel
theorem dX12_coveredSet_29 : decode cX12_coveredSet 29 = .ok (.ior, 1) := by decide +kernel
theorem dX12_coveredSet_30 : decode cX12_coveredSet 30 = .ok (.istore_n 2, 1) := by decide +kernel
theorem dX12_coveredSet_31 : decode cX12_coveredSet 31 = .ok (.iinc 3 1, 3) := by decide +kernel
theorem dX12_coveredSet_34 : decode cX12_coveredSet 34 = .ok (.goto (-30), 3) := by decide +kernel
theorem dX12_coveredSet_37 : decode cX12_coveredSet 37 = .ok (.iload_n 2, 1) := by decide +kernel
theorem dX12_coveredSet_38 : decode cX12_coveredSet 38 = .ok (.ireturn, 1) := by decide +kernel
theorem dX12_laysHeights_0 : decode cX12_laysHeights 0 = .ok (.iconst 1, 1) := by decide +kernel
theorem dX12_laysHeights_1 : decode cX12_laysHeights 1 = .ok (.istore_n 1, 1) := by decide +kernel
theorem dX12_laysHeights_2 : decode cX12_laysHeights 2 = .ok (.iload_n 1, 1) := by decide +kernel
theorem dX12_laysHeights_3 : decode cX12_laysHeights 3 = .ok (.aload_n 0, 1) := by decide +kernel
theorem dX12_laysHeights_4 : decode cX12_laysHeights 4 = .ok (.invokevirtual 78, 3) := by decide +kernel
theorem dX12_laysHeights_7 : decode cX12_laysHeights 7 = .ok (.if_icmp .gt 103, 3) := by decide +kernel
theorem dX12_laysHeights_10 : decode cX12_laysHeights 10 = .ok (.iconst 0, 1) := by decide +kernel
theorem dX12_laysHeights_11 : decode cX12_laysHeights 11 = .ok (.istore_n 2, 1) := by decide +kernel
theorem dX12_laysHeights_12 : decode cX12_laysHeights 12 = .ok (.iload_n 2, 1) := by decide +kernel
theorem dX12_laysHeights_13 : decode cX12_laysHeights 13 = .ok (.aload_n 0, 1) := by decide +kernel
theorem dX12_laysHeights_14 : decode cX12_laysHeights 14 = .ok (.invokevirtual 78, 3) := by decide +kernel
theorem dX12_laysHeights_17 : decode cX12_laysHeights 17 = .ok (.if_icmp .ge 87, 3) := by decide +kernel
theorem dX12_laysHeights_20 : decode cX12_laysHeights 20 = .ok (.aload_n 0, 1) := by decide +kernel
theorem dX12_laysHeights_21 : decode cX12_laysHeights 21 = .ok (.iload_n 2, 1) := by decide +kernel
theorem dX12_laysHeights_22 : decode cX12_laysHeights 22 = .ok (.invokevirtual 97, 3) := by decide +kernel
theorem dX12_laysHeights_25 : decode cX12_laysHeights 25 = .ok (.invokestatic 111, 3) := by decide +kernel
theorem dX12_laysHeights_28 : decode cX12_laysHeights 28 = .ok (.iload_n 1, 1) := by decide +kernel
theorem dX12_laysHeights_29 : decode cX12_laysHeights 29 = .ok (.if_icmp .eq 6, 3) := by decide +kernel
theorem dX12_laysHeights_32 : decode cX12_laysHeights 32 = .ok (.goto 66, 3) := by decide +kernel
theorem dX12_laysHeights_35 : decode cX12_laysHeights 35 = .ok (.aload_n 0, 1) := by decide +kernel
theorem dX12_laysHeights_36 : decode cX12_laysHeights 36 = .ok (.getfield 44, 3) := by decide +kernel
theorem dX12_laysHeights_39 : decode cX12_laysHeights 39 = .ok (.iload_n 2, 1) := by decide +kernel
theorem dX12_laysHeights_40 : decode cX12_laysHeights 40 = .ok (.iconst 0, 1) := by decide +kernel
theorem dX12_laysHeights_41 : decode cX12_laysHeights 41 = .ok (.iastore, 1) := by decide +kernel
theorem dX12_laysHeights_42 : decode cX12_laysHeights 42 = .ok (.iconst 0, 1) := by decide +kernel
theorem dX12_laysHeights_43 : decode cX12_laysHeights 43 = .ok (.istore_n 3, 1) := by decide +kernel
theorem dX12_laysHeights_44 : decode cX12_laysHeights 44 = .ok (.iload_n 3, 1) := by decide +kernel
theorem dX12_laysHeights_45 : decode cX12_laysHeights 45 = .ok (.aload_n 0, 1) := by decide +kernel
theorem dX12_laysHeights_46 : decode cX12_laysHeights 46 = .ok (.invokevirtual 78, 3) := by decide +kernel
theorem dX12_laysHeights_49 : decode cX12_laysHeights 49 = .ok (.if_icmp .ge 49, 3) := by decide +kernel
theorem dX12_laysHeights_52 : decode cX12_laysHeights 52 = .ok (.aload_n 0, 1) := by decide +kernel
theorem dX12_laysHeights_53 : decode cX12_laysHeights 53 = .ok (.iload_n 3, 1) := by decide +kernel
theorem dX12_laysHeights_54 : decode cX12_laysHeights 54 = .ok (.iload_n 2, 1) := by decide +kernel
theorem dX12_laysHeights_55 : decode cX12_laysHeights 55 = .ok (.invokevirtual 104, 3) := by decide +kernel
theorem dX12_laysHeights_58 : decode cX12_laysHeights 58 = .ok (.ifCond .eq 34, 3) := by decide +kernel
theorem dX12_laysHeights_61 : decode cX12_laysHeights 61 = .ok (.aload_n 0, 1) := by decide +kernel
theorem dX12_laysHeights_62 : decode cX12_laysHeights 62 = .ok (.getfield 44, 3) := by decide +kernel
theorem dX12_laysHeights_65 : decode cX12_laysHeights 65 = .ok (.iload_n 3, 1) := by decide +kernel
theorem dX12_laysHeights_66 : decode cX12_laysHeights 66 = .ok (.iaload, 1) := by decide +kernel
theorem dX12_laysHeights_67 : decode cX12_laysHeights 67 = .ok (.iconst 1, 1) := by decide +kernel
theorem dX12_laysHeights_68 : decode cX12_laysHeights 68 = .ok (.iadd, 1) := by decide +kernel
theorem dX12_laysHeights_69 : decode cX12_laysHeights 69 = .ok (.aload_n 0, 1) := by decide +kernel
theorem dX12_laysHeights_70 : decode cX12_laysHeights 70 = .ok (.getfield 44, 3) := by decide +kernel
theorem dX12_laysHeights_73 : decode cX12_laysHeights 73 = .ok (.iload_n 2, 1) := by decide +kernel
theorem dX12_laysHeights_74 : decode cX12_laysHeights 74 = .ok (.iaload, 1) := by decide +kernel
theorem dX12_laysHeights_75 : decode cX12_laysHeights 75 = .ok (.if_icmp .le 17, 3) := by decide +kernel
theorem dX12_laysHeights_78 : decode cX12_laysHeights 78 = .ok (.aload_n 0, 1) := by decide +kernel
theorem dX12_laysHeights_79 : decode cX12_laysHeights 79 = .ok (.getfield 44, 3) := by decide +kernel
theorem dX12_laysHeights_82 : decode cX12_laysHeights 82 = .ok (.iload_n 2, 1) := by decide +kernel
theorem dX12_laysHeights_83 : decode cX12_laysHeights 83 = .ok (.aload_n 0, 1) := by decide +kernel
theorem dX12_laysHeights_84 : decode cX12_laysHeights 84 = .ok (.getfield 44, 3) := by decide +kernel
theorem dX12_laysHeights_87 : decode cX12_laysHeights 87 = .ok (.iload_n 3, 1) := by decide +kernel
theorem dX12_laysHeights_88 : decode cX12_laysHeights 88 = .ok (.iaload, 1) := by decide +kernel
theorem dX12_laysHeights_89 : decode cX12_laysHeights 89 = .ok (.iconst 1, 1) := by decide +kernel
theorem dX12_laysHeights_90 : decode cX12_laysHeights 90 = .ok (.iadd, 1) := by decide +kernel
theorem dX12_laysHeights_91 : decode cX12_laysHeights 91 = .ok (.iastore, 1) := by decide +kernel
theorem dX12_laysHeights_92 : decode cX12_laysHeights 92 = .ok (.iinc 3 1, 3) := by decide +kernel
theorem dX12_laysHeights_95 : decode cX12_laysHeights 95 = .ok (.goto (-51), 3) := by decide +kernel
theorem dX12_laysHeights_98 : decode cX12_laysHeights 98 = .ok (.iinc 2 1, 3) := by decide +kernel
theorem dX12_laysHeights_101 : decode cX12_laysHeights 101 = .ok (.goto (-89), 3) := by decide +kernel
theorem dX12_laysHeights_104 : decode cX12_laysHeights 104 = .ok (.iinc 1 1, 3) := by decide +kernel
theorem dX12_laysHeights_107 : decode cX12_laysHeights 107 = .ok (.goto (-105), 3) := by decide +kernel
theorem dX12_laysHeights_110 : decode cX12_laysHeights 110 = .ok (.return_, 1) := by decide +kernel
theorem dX12_greatestHeight_0 : decode cX12_greatestHeight 0 = .ok (.aload_n 0, 1) := by decide +kernel
theorem dX12_greatestHeight_1 : decode cX12_greatestHeight 1 = .ok (.invokevirtual 338, 3) := by decide +kernel
theorem dX12_greatestHeight_4 : decode cX12_greatestHeight 4 = .ok (.iconst 0, 1) := by decide +kernel
theorem dX12_greatestHeight_5 : decode cX12_greatestHeight 5 = .ok (.istore_n 1, 1) := by decide +kernel
theorem dX12_greatestHeight_6 : decode cX12_greatestHeight 6 = .ok (.iconst 0, 1) := by decide +kernel
theorem dX12_greatestHeight_7 : decode cX12_greatestHeight 7 = .ok (.istore_n 2, 1) := by decide +kernel
theorem dX12_greatestHeight_8 : decode cX12_greatestHeight 8 = .ok (.iload_n 2, 1) := by decide +kernel
theorem dX12_greatestHeight_9 : decode cX12_greatestHeight 9 = .ok (.aload_n 0, 1) := by decide +kernel
theorem dX12_greatestHeight_10 : decode cX12_greatestHeight 10 = .ok (.invokevirtual 78, 3) := by decide +kernel
theorem dX12_greatestHeight_13 : decode cX12_greatestHeight 13 = .ok (.if_icmp .ge 30, 3) := by decide +kernel
theorem dX12_greatestHeight_16 : decode cX12_greatestHeight 16 = .ok (.aload_n 0, 1) := by decide +kernel
theorem dX12_greatestHeight_17 : decode cX12_greatestHeight 17 = .ok (.getfield 44, 3) := by decide +kernel
theorem dX12_greatestHeight_20 : decode cX12_greatestHeight 20 = .ok (.iload_n 2, 1) := by decide +kernel
theorem dX12_greatestHeight_21 : decode cX12_greatestHeight 21 = .ok (.iaload, 1) := by decide +kernel
theorem dX12_greatestHeight_22 : decode cX12_greatestHeight 22 = .ok (.iload_n 1, 1) := by decide +kernel
theorem dX12_greatestHeight_23 : decode cX12_greatestHeight 23 = .ok (.if_icmp .le 12, 3) := by decide +kernel
theorem dX12_greatestHeight_26 : decode cX12_greatestHeight 26 = .ok (.aload_n 0, 1) := by decide +kernel
theorem dX12_greatestHeight_27 : decode cX12_greatestHeight 27 = .ok (.getfield 44, 3) := by decide +kernel
theorem dX12_greatestHeight_30 : decode cX12_greatestHeight 30 = .ok (.iload_n 2, 1) := by decide +kernel
theorem dX12_greatestHeight_31 : decode cX12_greatestHeight 31 = .ok (.iaload, 1) := by decide +kernel
theorem dX12_greatestHeight_32 : decode cX12_greatestHeight 32 = .ok (.goto 4, 3) := by decide +kernel
theorem dX12_greatestHeight_35 : decode cX12_greatestHeight 35 = .ok (.iload_n 1, 1) := by decide +kernel
theorem dX12_greatestHeight_36 : decode cX12_greatestHeight 36 = .ok (.istore_n 1, 1) := by decide +kernel
theorem dX12_greatestHeight_37 : decode cX12_greatestHeight 37 = .ok (.iinc 2 1, 3) := by decide +kernel
theorem dX12_greatestHeight_40 : decode cX12_greatestHeight 40 = .ok (.goto (-32), 3) := by decide +kernel
theorem dX12_greatestHeight_43 : decode cX12_greatestHeight 43 = .ok (.iload_n 1, 1) := by decide +kernel
theorem dX12_greatestHeight_44 : decode cX12_greatestHeight 44 = .ok (.ireturn, 1) := by decide +kernel
theorem dX12_isGraded_0 : decode cX12_isGraded 0 = .ok (.aload_n 0, 1) := by decide +kernel
theorem dX12_isGraded_1 : decode cX12_isGraded 1 = .ok (.invokevirtual 338, 3) := by decide +kernel
theorem dX12_isGraded_4 : decode cX12_isGraded 4 = .ok (.iconst 0, 1) := by decide +kernel
theorem dX12_isGraded_5 : decode cX12_isGraded 5 = .ok (.istore_n 1, 1) := by decide +kernel
theorem dX12_isGraded_6 : decode cX12_isGraded 6 = .ok (.iload_n 1, 1) := by decide +kernel
theorem dX12_isGraded_7 : decode cX12_isGraded 7 = .ok (.aload_n 0, 1) := by decide +kernel
theorem dX12_isGraded_8 : decode cX12_isGraded 8 = .ok (.invokevirtual 78, 3) := by decide +kernel
theorem dX12_isGraded_11 : decode cX12_isGraded 11 = .ok (.if_icmp .ge 53, 3) := by decide +kernel
theorem dX12_isGraded_14 : decode cX12_isGraded 14 = .ok (.iconst 0, 1) := by decide +kernel
theorem dX12_isGraded_15 : decode cX12_isGraded 15 = .ok (.istore_n 2, 1) := by decide +kernel
theorem dX12_isGraded_16 : decode cX12_isGraded 16 = .ok (.iload_n 2, 1) := by decide +kernel
theorem dX12_isGraded_17 : decode cX12_isGraded 17 = .ok (.aload_n 0, 1) := by decide +kernel
theorem dX12_isGraded_18 : decode cX12_isGraded 18 = .ok (.invokevirtual 78, 3) := by decide +kernel
theorem dX12_isGraded_21 : decode cX12_isGraded 21 = .ok (.if_icmp .ge 37, 3) := by decide +kernel
theorem dX12_isGraded_24 : decode cX12_isGraded 24 = .ok (.aload_n 0, 1) := by decide +kernel
theorem dX12_isGraded_25 : decode cX12_isGraded 25 = .ok (.iload_n 1, 1) := by decide +kernel
theorem dX12_isGraded_26 : decode cX12_isGraded 26 = .ok (.iload_n 2, 1) := by decide +kernel
theorem dX12_isGraded_27 : decode cX12_isGraded 27 = .ok (.invokevirtual 239, 3) := by decide +kernel
theorem dX12_isGraded_30 : decode cX12_isGraded 30 = .ok (.ifCond .eq 22, 3) := by decide +kernel
theorem dX12_isGraded_33 : decode cX12_isGraded 33 = .ok (.aload_n 0, 1) := by decide +kernel
theorem dX12_isGraded_34 : decode cX12_isGraded 34 = .ok (.getfield 44, 3) := by decide +kernel
theorem dX12_isGraded_37 : decode cX12_isGraded 37 = .ok (.iload_n 2, 1) := by decide +kernel
theorem dX12_isGraded_38 : decode cX12_isGraded 38 = .ok (.iaload, 1) := by decide +kernel
theorem dX12_isGraded_39 : decode cX12_isGraded 39 = .ok (.aload_n 0, 1) := by decide +kernel
theorem dX12_isGraded_40 : decode cX12_isGraded 40 = .ok (.getfield 44, 3) := by decide +kernel
theorem dX12_isGraded_43 : decode cX12_isGraded 43 = .ok (.iload_n 1, 1) := by decide +kernel
theorem dX12_isGraded_44 : decode cX12_isGraded 44 = .ok (.iaload, 1) := by decide +kernel
theorem dX12_isGraded_45 : decode cX12_isGraded 45 = .ok (.iconst 1, 1) := by decide +kernel
theorem dX12_isGraded_46 : decode cX12_isGraded 46 = .ok (.iadd, 1) := by decide +kernel
theorem dX12_isGraded_47 : decode cX12_isGraded 47 = .ok (.if_icmp .eq 5, 3) := by decide +kernel
theorem dX12_isGraded_50 : decode cX12_isGraded 50 = .ok (.iconst 0, 1) := by decide +kernel
theorem dX12_isGraded_51 : decode cX12_isGraded 51 = .ok (.ireturn, 1) := by decide +kernel
theorem dX12_isGraded_52 : decode cX12_isGraded 52 = .ok (.iinc 2 1, 3) := by decide +kernel
theorem dX12_isGraded_55 : decode cX12_isGraded 55 = .ok (.goto (-39), 3) := by decide +kernel
theorem dX12_isGraded_58 : decode cX12_isGraded 58 = .ok (.iinc 1 1, 3) := by decide +kernel
theorem dX12_isGraded_61 : decode cX12_isGraded 61 = .ok (.goto (-55), 3) := by decide +kernel
theorem dX12_isGraded_64 : decode cX12_isGraded 64 = .ok (.iconst 1, 1) := by decide +kernel
theorem dX12_isGraded_65 : decode cX12_isGraded 65 = .ok (.ireturn, 1) := by decide +kernel
theorem dX12_about_0 : decode cX12_about 0 = .ok (.aload_n 0, 1) := by decide +kernel
theorem dX12_about_1 : decode cX12_about 1 = .ok (.iload_n 1, 1) := by decide +kernel
theorem dX12_about_2 : decode cX12_about 2 = .ok (.invokevirtual 100, 3) := by decide +kernel
theorem dX12_about_5 : decode cX12_about 5 = .ok (.ifCond .ne 5, 3) := by decide +kernel
theorem dX12_about_8 : decode cX12_about 8 = .ok (.iconst (-1), 1) := by decide +kernel
theorem dX12_about_9 : decode cX12_about 9 = .ok (.ireturn, 1) := by decide +kernel
theorem dX12_about_10 : decode cX12_about 10 = .ok (.iload_n 2, 1) := by decide +kernel
theorem dX12_about_11 : decode cX12_about 11 = .ok (.tableswitch 106 0 5 #[37, 43, 49, 55, 61, 72], 37) := by decide +kernel
theorem dX12_about_48 : decode cX12_about 48 = .ok (.aload_n 0, 1) := by decide +kernel
theorem dX12_about_49 : decode cX12_about 49 = .ok (.iload_n 1, 1) := by decide +kernel
theorem dX12_about_50 : decode cX12_about 50 = .ok (.invokevirtual 97, 3) := by decide +kernel
theorem dX12_about_53 : decode cX12_about 53 = .ok (.ireturn, 1) := by decide +kernel
theorem dX12_about_54 : decode cX12_about 54 = .ok (.aload_n 0, 1) := by decide +kernel
theorem dX12_about_55 : decode cX12_about 55 = .ok (.iload_n 1, 1) := by decide +kernel
theorem dX12_about_56 : decode cX12_about 56 = .ok (.invokevirtual 86, 3) := by decide +kernel
theorem dX12_about_59 : decode cX12_about 59 = .ok (.ireturn, 1) := by decide +kernel
theorem dX12_about_60 : decode cX12_about 60 = .ok (.aload_n 0, 1) := by decide +kernel
theorem dX12_about_61 : decode cX12_about 61 = .ok (.iload_n 1, 1) := by decide +kernel
theorem dX12_about_62 : decode cX12_about 62 = .ok (.invokevirtual 341, 3) := by decide +kernel
theorem dX12_about_65 : decode cX12_about 65 = .ok (.ireturn, 1) := by decide +kernel
theorem dX12_about_66 : decode cX12_about 66 = .ok (.aload_n 0, 1) := by decide +kernel
theorem dX12_about_67 : decode cX12_about 67 = .ok (.iload_n 1, 1) := by decide +kernel
theorem dX12_about_68 : decode cX12_about 68 = .ok (.invokevirtual 344, 3) := by decide +kernel
theorem dX12_about_71 : decode cX12_about 71 = .ok (.ireturn, 1) := by decide +kernel
theorem dX12_about_72 : decode cX12_about 72 = .ok (.aload_n 0, 1) := by decide +kernel
theorem dX12_about_73 : decode cX12_about 73 = .ok (.invokevirtual 338, 3) := by decide +kernel
theorem dX12_about_76 : decode cX12_about 76 = .ok (.aload_n 0, 1) := by decide +kernel
theorem dX12_about_77 : decode cX12_about 77 = .ok (.getfield 44, 3) := by decide +kernel
theorem dX12_about_80 : decode cX12_about 80 = .ok (.iload_n 1, 1) := by decide +kernel
theorem dX12_about_81 : decode cX12_about 81 = .ok (.iaload, 1) := by decide +kernel
theorem dX12_about_82 : decode cX12_about 82 = .ok (.ireturn, 1) := by decide +kernel
theorem dX12_about_83 : decode cX12_about 83 = .ok (.aload_n 0, 1) := by decide +kernel
theorem dX12_about_84 : decode cX12_about 84 = .ok (.getfield 9, 3) := by decide +kernel
theorem dX12_about_87 : decode cX12_about 87 = .ok (.sipush 1057, 3) := by decide +kernel
theorem dX12_about_90 : decode cX12_about 90 = .ok (.iload_n 1, 1) := by decide +kernel
theorem dX12_about_91 : decode cX12_about 91 = .ok (.iadd, 1) := by decide +kernel
theorem dX12_about_92 : decode cX12_about 92 = .ok (.laload, 1) := by decide +kernel
theorem dX12_about_93 : decode cX12_about 93 = .ok (.ldc2_w 118, 3) := by decide +kernel
theorem dX12_about_96 : decode cX12_about 96 = .ok (.lcmp, 1) := by decide +kernel
theorem dX12_about_97 : decode cX12_about 97 = .ok (.ifCond .ne 8, 3) := by decide +kernel
theorem dX12_about_100 : decode cX12_about 100 = .ok (.bipush (-2), 2) := by decide +kernel
theorem dX12_about_102 : decode cX12_about 102 = .ok (.goto 14, 3) := by decide +kernel
theorem dX12_about_105 : decode cX12_about 105 = .ok (.aload_n 0, 1) := by decide +kernel
theorem dX12_about_106 : decode cX12_about 106 = .ok (.getfield 9, 3) := by decide +kernel
theorem dX12_about_109 : decode cX12_about 109 = .ok (.sipush 1057, 3) := by decide +kernel
theorem dX12_about_112 : decode cX12_about 112 = .ok (.iload_n 1, 1) := by decide +kernel
theorem dX12_about_113 : decode cX12_about 113 = .ok (.iadd, 1) := by decide +kernel
theorem dX12_about_114 : decode cX12_about 114 = .ok (.laload, 1) := by decide +kernel
theorem dX12_about_115 : decode cX12_about 115 = .ok (.l2i, 1) := by decide +kernel
theorem dX12_about_116 : decode cX12_about 116 = .ok (.ireturn, 1) := by decide +kernel
theorem dX12_about_117 : decode cX12_about 117 = .ok (.iconst (-1), 1) := by decide +kernel
theorem dX12_about_118 : decode cX12_about 118 = .ok (.ireturn, 1) := by decide +kernel
theorem dX12_leastOf_0 : decode cX12_leastOf 0 = .ok (.iconst 0, 1) := by decide +kernel
theorem dX12_leastOf_1 : decode cX12_leastOf 1 = .ok (.istore_n 2, 1) := by decide +kernel
theorem dX12_leastOf_2 : decode cX12_leastOf 2 = .ok (.iload_n 2, 1) := by decide +kernel
theorem dX12_leastOf_3 : decode cX12_leastOf 3 = .ok (.aload_n 0, 1) := by decide +kernel
theorem dX12_leastOf_4 : decode cX12_leastOf 4 = .ok (.invokevirtual 78, 3) := by decide +kernel
theorem dX12_leastOf_7 : decode cX12_leastOf 7 = .ok (.if_icmp .ge 31, 3) := by decide +kernel
theorem dX12_leastOf_10 : decode cX12_leastOf 10 = .ok (.iload_n 1, 1) := by decide +kernel
theorem dX12_leastOf_11 : decode cX12_leastOf 11 = .ok (.iload_n 2, 1) := by decide +kernel
theorem dX12_leastOf_12 : decode cX12_leastOf 12 = .ok (.invokestatic 90, 3) := by decide +kernel
theorem dX12_leastOf_15 : decode cX12_leastOf 15 = .ok (.ifCond .eq 17, 3) := by decide +kernel
theorem dX12_leastOf_18 : decode cX12_leastOf 18 = .ok (.iload_n 1, 1) := by decide +kernel
theorem dX12_leastOf_19 : decode cX12_leastOf 19 = .ok (.aload_n 0, 1) := by decide +kernel
theorem dX12_leastOf_20 : decode cX12_leastOf 20 = .ok (.iload_n 2, 1) := by decide +kernel
theorem dX12_leastOf_21 : decode cX12_leastOf 21 = .ok (.invokevirtual 86, 3) := by decide +kernel
theorem dX12_leastOf_24 : decode cX12_leastOf 24 = .ok (.iconst (-1), 1) := by decide +kernel
theorem dX12_leastOf_25 : decode cX12_leastOf 25 = .ok (.ixor, 1) := by decide +kernel
theorem dX12_leastOf_26 : decode cX12_leastOf 26 = .ok (.iand, 1) := by decide +kernel
theorem dX12_leastOf_27 : decode cX12_leastOf 27 = .ok (.ifCond .ne 5, 3) := by decide +kernel
theorem dX12_leastOf_30 : decode cX12_leastOf 30 = .ok (.iload_n 2, 1) := by decide +kernel
theorem dX12_leastOf_31 : decode cX12_leastOf 31 = .ok (.ireturn, 1) := by decide +kernel
theorem dX12_leastOf_32 : decode cX12_leastOf 32 = .ok (.iinc 2 1, 3) := by decide +kernel
theorem dX12_leastOf_35 : decode cX12_leastOf 35 = .ok (.goto (-33), 3) := by decide +kernel
theorem dX12_leastOf_38 : decode cX12_leastOf 38 = .ok (.bipush (-2), 2) := by decide +kernel
theorem dX12_leastOf_40 : decode cX12_leastOf 40 = .ok (.ireturn, 1) := by decide +kernel
theorem dX12_greatestOf_0 : decode cX12_greatestOf 0 = .ok (.iconst 0, 1) := by decide +kernel
theorem dX12_greatestOf_1 : decode cX12_greatestOf 1 = .ok (.istore_n 2, 1) := by decide +kernel
theorem dX12_greatestOf_2 : decode cX12_greatestOf 2 = .ok (.iload_n 2, 1) := by decide +kernel
theorem dX12_greatestOf_3 : decode cX12_greatestOf 3 = .ok (.aload_n 0, 1) := by decide +kernel
theorem dX12_greatestOf_4 : decode cX12_greatestOf 4 = .ok (.invokevirtual 78, 3) := by decide +kernel
theorem dX12_greatestOf_7 : decode cX12_greatestOf 7 = .ok (.if_icmp .ge 31, 3) := by decide +kernel
theorem dX12_greatestOf_10 : decode cX12_greatestOf 10 = .ok (.iload_n 1, 1) := by decide +kernel
theorem dX12_greatestOf_11 : decode cX12_greatestOf 11 = .ok (.iload_n 2, 1) := by decide +kernel
theorem dX12_greatestOf_12 : decode cX12_greatestOf 12 = .ok (.invokestatic 90, 3) := by decide +kernel
theorem dX12_greatestOf_15 : decode cX12_greatestOf 15 = .ok (.ifCond .eq 17, 3) := by decide +kernel
theorem dX12_greatestOf_18 : decode cX12_greatestOf 18 = .ok (.iload_n 1, 1) := by decide +kernel
theorem dX12_greatestOf_19 : decode cX12_greatestOf 19 = .ok (.aload_n 0, 1) := by decide +kernel
theorem dX12_greatestOf_20 : decode cX12_greatestOf 20 = .ok (.iload_n 2, 1) := by decide +kernel
theorem dX12_greatestOf_21 : decode cX12_greatestOf 21 = .ok (.invokevirtual 97, 3) := by decide +kernel
theorem dX12_greatestOf_24 : decode cX12_greatestOf 24 = .ok (.iconst (-1), 1) := by decide +kernel
theorem dX12_greatestOf_25 : decode cX12_greatestOf 25 = .ok (.ixor, 1) := by decide +kernel
theorem dX12_greatestOf_26 : decode cX12_greatestOf 26 = .ok (.iand, 1) := by decide +kernel
theorem dX12_greatestOf_27 : decode cX12_greatestOf 27 = .ok (.ifCond .ne 5, 3) := by decide +kernel
theorem dX12_greatestOf_30 : decode cX12_greatestOf 30 = .ok (.iload_n 2, 1) := by decide +kernel
theorem dX12_greatestOf_31 : decode cX12_greatestOf 31 = .ok (.ireturn, 1) := by decide +kernel
theorem dX12_greatestOf_32 : decode cX12_greatestOf 32 = .ok (.iinc 2 1, 3) := by decide +kernel
theorem dX12_greatestOf_35 : decode cX12_greatestOf 35 = .ok (.goto (-33), 3) := by decide +kernel
theorem dX12_greatestOf_38 : decode cX12_greatestOf 38 = .ok (.bipush (-2), 2) := by decide +kernel
theorem dX12_greatestOf_40 : decode cX12_greatestOf 40 = .ok (.ireturn, 1) := by decide +kernel
theorem dX12_join_0 : decode cX12_join 0 = .ok (.aload_n 0, 1) := by decide +kernel
theorem dX12_join_1 : decode cX12_join 1 = .ok (.aload_n 0, 1) := by decide +kernel
theorem dX12_join_2 : decode cX12_join 2 = .ok (.iload_n 1, 1) := by decide +kernel
theorem dX12_join_3 : decode cX12_join 3 = .ok (.invokevirtual 86, 3) := by decide +kernel
theorem dX12_join_6 : decode cX12_join 6 = .ok (.aload_n 0, 1) := by decide +kernel
theorem dX12_join_7 : decode cX12_join 7 = .ok (.iload_n 2, 1) := by decide +kernel
theorem dX12_join_8 : decode cX12_join 8 = .ok (.invokevirtual 86, 3) := by decide +kernel
theorem dX12_join_11 : decode cX12_join 11 = .ok (.iand, 1) := by decide +kernel
theorem dX12_join_12 : decode cX12_join 12 = .ok (.invokevirtual 347, 3) := by decide +kernel
theorem dX12_join_15 : decode cX12_join 15 = .ok (.ireturn, 1) := by decide +kernel
theorem dX12_meet_0 : decode cX12_meet 0 = .ok (.aload_n 0, 1) := by decide +kernel
theorem dX12_meet_1 : decode cX12_meet 1 = .ok (.aload_n 0, 1) := by decide +kernel
theorem dX12_meet_2 : decode cX12_meet 2 = .ok (.iload_n 1, 1) := by decide +kernel
theorem dX12_meet_3 : decode cX12_meet 3 = .ok (.invokevirtual 97, 3) := by decide +kernel
theorem dX12_meet_6 : decode cX12_meet 6 = .ok (.aload_n 0, 1) := by decide +kernel
theorem dX12_meet_7 : decode cX12_meet 7 = .ok (.iload_n 2, 1) := by decide +kernel
theorem dX12_meet_8 : decode cX12_meet 8 = .ok (.invokevirtual 97, 3) := by decide +kernel
theorem dX12_meet_11 : decode cX12_meet 11 = .ok (.iand, 1) := by decide +kernel
theorem dX12_meet_12 : decode cX12_meet 12 = .ok (.invokevirtual 350, 3) := by decide +kernel
theorem dX12_meet_15 : decode cX12_meet 15 = .ok (.ireturn, 1) := by decide +kernel
theorem dX12_bound_0 : decode cX12_bound 0 = .ok (.aload_n 0, 1) := by decide +kernel
theorem dX12_bound_1 : decode cX12_bound 1 = .ok (.iload_n 1, 1) := by decide +kernel
theorem dX12_bound_2 : decode cX12_bound 2 = .ok (.invokevirtual 100, 3) := by decide +kernel
theorem dX12_bound_5 : decode cX12_bound 5 = .ok (.ifCond .eq 23, 3) := by decide +kernel
theorem dX12_bound_8 : decode cX12_bound 8 = .ok (.aload_n 0, 1) := by decide +kernel
theorem dX12_bound_9 : decode cX12_bound 9 = .ok (.iload_n 2, 1) := by decide +kernel
theorem dX12_bound_10 : decode cX12_bound 10 = .ok (.invokevirtual 100, 3) := by decide +kernel
theorem dX12_bound_13 : decode cX12_bound 13 = .ok (.ifCond .eq 15, 3) := by decide +kernel
theorem dX12_bound_16 : decode cX12_bound 16 = .ok (.iload_n 3, 1) := by decide +kernel
theorem dX12_bound_17 : decode cX12_bound 17 = .ok (.i2l, 1) := by decide +kernel
theorem dX12_bound_18 : decode cX12_bound 18 = .ok (.lconst 0, 1) := by decide +kernel
theorem dX12_bound_19 : decode cX12_bound 19 = .ok (.ldc2_w 353, 3) := by decide +kernel
theorem dX12_bound_22 : decode cX12_bound 22 = .ok (.invokestatic 82, 3) := by decide +kernel
theorem dX12_bound_25 : decode cX12_bound 25 = .ok (.ifCond .ne 5, 3) := by decide +kernel
theorem dX12_bound_28 : decode cX12_bound 28 = .ok (.iconst (-1), 1) := by decide +kernel
theorem dX12_bound_29 : decode cX12_bound 29 = .ok (.ireturn, 1) := by decide +kernel
theorem dX12_bound_30 : decode cX12_bound 30 = .ok (.iload_n 3, 1) := by decide +kernel
theorem dX12_bound_31 : decode cX12_bound 31 = .ok (.ifCond .ne 12, 3) := by decide +kernel
theorem dX12_bound_34 : decode cX12_bound 34 = .ok (.aload_n 0, 1) := by decide +kernel
theorem dX12_bound_35 : decode cX12_bound 35 = .ok (.iload_n 1, 1) := by decide +kernel
theorem dX12_bound_36 : decode cX12_bound 36 = .ok (.iload_n 2, 1) := by decide +kernel
theorem dX12_bound_37 : decode cX12_bound 37 = .ok (.invokevirtual 355, 3) := by decide +kernel
theorem dX12_bound_40 : decode cX12_bound 40 = .ok (.goto 23, 3) := by decide +kernel
theorem dX12_bound_43 : decode cX12_bound 43 = .ok (.iload_n 3, 1) := by decide +kernel
theorem dX12_bound_44 : decode cX12_bound 44 = .ok (.iconst 1, 1) := by decide +kernel
theorem dX12_bound_45 : decode cX12_bound 45 = .ok (.if_icmp .ne 12, 3) := by decide +kernel
theorem dX12_bound_48 : decode cX12_bound 48 = .ok (.aload_n 0, 1) := by decide +kernel
theorem dX12_bound_49 : decode cX12_bound 49 = .ok (.iload_n 1, 1) := by decide +kernel
theorem dX12_bound_50 : decode cX12_bound 50 = .ok (.iload_n 2, 1) := by decide +kernel
theorem dX12_bound_51 : decode cX12_bound 51 = .ok (.invokevirtual 358, 3) := by decide +kernel
theorem dX12_bound_54 : decode cX12_bound 54 = .ok (.goto 9, 3) := by decide +kernel
theorem dX12_bound_57 : decode cX12_bound 57 = .ok (.aload_n 0, 1) := by decide +kernel
theorem dX12_bound_58 : decode cX12_bound 58 = .ok (.iload_n 1, 1) := by decide +kernel
theorem dX12_bound_59 : decode cX12_bound 59 = .ok (.iload_n 2, 1) := by decide +kernel
theorem dX12_bound_60 : decode cX12_bound 60 = .ok (.invokevirtual 107, 3) := by decide +kernel
theorem dX12_bound_63 : decode cX12_bound 63 = .ok (.ireturn, 1) := by decide +kernel
theorem dX12_stepsOn_0 : decode cX12_stepsOn 0 = .ok (.iconst 0, 1) := by decide +kernel
theorem dX12_stepsOn_1 : decode cX12_stepsOn 1 = .ok (.istore_n 2, 1) := by decide +kernel
theorem dX12_stepsOn_2 : decode cX12_stepsOn 2 = .ok (.iload_n 2, 1) := by decide +kernel
theorem dX12_stepsOn_3 : decode cX12_stepsOn 3 = .ok (.aload_n 0, 1) := by decide +kernel
theorem dX12_stepsOn_4 : decode cX12_stepsOn 4 = .ok (.invokevirtual 78, 3) := by decide +kernel
theorem dX12_stepsOn_7 : decode cX12_stepsOn 7 = .ok (.if_icmp .ge 72, 3) := by decide +kernel
theorem dX12_stepsOn_10 : decode cX12_stepsOn 10 = .ok (.aload_n 0, 1) := by decide +kernel
theorem dX12_stepsOn_11 : decode cX12_stepsOn 11 = .ok (.getfield 50, 3) := by decide +kernel
theorem dX12_stepsOn_14 : decode cX12_stepsOn 14 = .ok (.iload_n 2, 1) := by decide +kernel
theorem dX12_stepsOn_15 : decode cX12_stepsOn 15 = .ok (.lconst 0, 1) := by decide +kernel
theorem dX12_stepsOn_16 : decode cX12_stepsOn 16 = .ok (.lastore, 1) := by decide +kernel
theorem dX12_stepsOn_17 : decode cX12_stepsOn 17 = .ok (.iconst 0, 1) := by decide +kernel
theorem dX12_stepsOn_18 : decode cX12_stepsOn 18 = .ok (.istore_n 3, 1) := by decide +kernel
theorem dX12_stepsOn_19 : decode cX12_stepsOn 19 = .ok (.iload_n 3, 1) := by decide +kernel
theorem dX12_stepsOn_20 : decode cX12_stepsOn 20 = .ok (.aload_n 0, 1) := by decide +kernel
theorem dX12_stepsOn_21 : decode cX12_stepsOn 21 = .ok (.invokevirtual 78, 3) := by decide +kernel
theorem dX12_stepsOn_24 : decode cX12_stepsOn 24 = .ok (.if_icmp .ge 49, 3) := by decide +kernel
theorem dX12_stepsOn_27 : decode cX12_stepsOn 27 = .ok (.iload_n 1, 1) := by decide +kernel
theorem dX12_stepsOn_28 : decode cX12_stepsOn 28 = .ok (.ifCond .eq 15, 3) := by decide +kernel
theorem dX12_stepsOn_31 : decode cX12_stepsOn 31 = .ok (.aload_n 0, 1) := by decide +kernel
theorem dX12_stepsOn_32 : decode cX12_stepsOn 32 = .ok (.iload_n 3, 1) := by decide +kernel
theorem dX12_stepsOn_33 : decode cX12_stepsOn 33 = .ok (.iload_n 2, 1) := by decide +kernel
theorem dX12_stepsOn_34 : decode cX12_stepsOn 34 = .ok (.invokevirtual 239, 3) := by decide +kernel
theorem dX12_stepsOn_37 : decode cX12_stepsOn 37 = .ok (.ifCond .eq 30, 3) := by decide +kernel
theorem dX12_stepsOn_40 : decode cX12_stepsOn 40 = .ok (.goto 12, 3) := by decide +kernel
theorem dX12_stepsOn_43 : decode cX12_stepsOn 43 = .ok (.aload_n 0, 1) := by decide +kernel
theorem dX12_stepsOn_44 : decode cX12_stepsOn 44 = .ok (.iload_n 3, 1) := by decide +kernel
theorem dX12_stepsOn_45 : decode cX12_stepsOn 45 = .ok (.iload_n 2, 1) := by decide +kernel
theorem dX12_stepsOn_46 : decode cX12_stepsOn 46 = .ok (.invokevirtual 104, 3) := by decide +kernel
theorem dX12_stepsOn_49 : decode cX12_stepsOn 49 = .ok (.ifCond .eq 18, 3) := by decide +kernel
theorem dX12_stepsOn_52 : decode cX12_stepsOn 52 = .ok (.aload_n 0, 1) := by decide +kernel
theorem dX12_stepsOn_53 : decode cX12_stepsOn 53 = .ok (.getfield 50, 3) := by decide +kernel
theorem dX12_stepsOn_56 : decode cX12_stepsOn 56 = .ok (.iload_n 2, 1) := by decide +kernel
theorem dX12_stepsOn_57 : decode cX12_stepsOn 57 = .ok (.dup2, 1) := by decide +kernel
theorem dX12_stepsOn_58 : decode cX12_stepsOn 58 = .ok (.laload, 1) := by decide +kernel
theorem dX12_stepsOn_59 : decode cX12_stepsOn 59 = .ok (.aload_n 0, 1) := by decide +kernel
theorem dX12_stepsOn_60 : decode cX12_stepsOn 60 = .ok (.getfield 47, 3) := by decide +kernel
theorem dX12_stepsOn_63 : decode cX12_stepsOn 63 = .ok (.iload_n 3, 1) := by decide +kernel
theorem dX12_stepsOn_64 : decode cX12_stepsOn 64 = .ok (.laload, 1) := by decide +kernel
theorem dX12_stepsOn_65 : decode cX12_stepsOn 65 = .ok (.ladd, 1) := by decide +kernel
theorem dX12_stepsOn_66 : decode cX12_stepsOn 66 = .ok (.lastore, 1) := by decide +kernel
theorem dX12_stepsOn_67 : decode cX12_stepsOn 67 = .ok (.iinc 3 1, 3) := by decide +kernel
theorem dX12_stepsOn_70 : decode cX12_stepsOn 70 = .ok (.goto (-51), 3) := by decide +kernel
theorem dX12_stepsOn_73 : decode cX12_stepsOn 73 = .ok (.iinc 2 1, 3) := by decide +kernel
theorem dX12_stepsOn_76 : decode cX12_stepsOn 76 = .ok (.goto (-74), 3) := by decide +kernel
theorem dX12_stepsOn_79 : decode cX12_stepsOn 79 = .ok (.iconst 0, 1) := by decide +kernel
theorem dX12_stepsOn_80 : decode cX12_stepsOn 80 = .ok (.istore_n 2, 1) := by decide +kernel
theorem dX12_stepsOn_81 : decode cX12_stepsOn 81 = .ok (.iload_n 2, 1) := by decide +kernel
theorem dX12_stepsOn_82 : decode cX12_stepsOn 82 = .ok (.aload_n 0, 1) := by decide +kernel
theorem dX12_stepsOn_83 : decode cX12_stepsOn 83 = .ok (.invokevirtual 78, 3) := by decide +kernel
theorem dX12_stepsOn_86 : decode cX12_stepsOn 86 = .ok (.if_icmp .ge 21, 3) := by decide +kernel
theorem dX12_stepsOn_89 : decode cX12_stepsOn 89 = .ok (.aload_n 0, 1) := by decide +kernel
theorem dX12_stepsOn_90 : decode cX12_stepsOn 90 = .ok (.getfield 47, 3) := by decide +kernel
theorem dX12_stepsOn_93 : decode cX12_stepsOn 93 = .ok (.iload_n 2, 1) := by decide +kernel
theorem dX12_stepsOn_94 : decode cX12_stepsOn 94 = .ok (.aload_n 0, 1) := by decide +kernel
theorem dX12_stepsOn_95 : decode cX12_stepsOn 95 = .ok (.getfield 50, 3) := by decide +kernel
theorem dX12_stepsOn_98 : decode cX12_stepsOn 98 = .ok (.iload_n 2, 1) := by decide +kernel
theorem dX12_stepsOn_99 : decode cX12_stepsOn 99 = .ok (.laload, 1) := by decide +kernel
theorem dX12_stepsOn_100 : decode cX12_stepsOn 100 = .ok (.lastore, 1) := by decide +kernel
theorem dX12_stepsOn_101 : decode cX12_stepsOn 101 = .ok (.iinc 2 1, 3) := by decide +kernel
theorem dX12_stepsOn_104 : decode cX12_stepsOn 104 = .ok (.goto (-23), 3) := by decide +kernel
theorem dX12_stepsOn_107 : decode cX12_stepsOn 107 = .ok (.return_, 1) := by decide +kernel
theorem dX12_startsFrom_0 : decode cX12_startsFrom 0 = .ok (.iconst 0, 1) := by decide +kernel
theorem dX12_startsFrom_1 : decode cX12_startsFrom 1 = .ok (.istore_n 2, 1) := by decide +kernel
theorem dX12_startsFrom_2 : decode cX12_startsFrom 2 = .ok (.iload_n 2, 1) := by decide +kernel
theorem dX12_startsFrom_3 : decode cX12_startsFrom 3 = .ok (.bipush 16, 2) := by decide +kernel
theorem dX12_startsFrom_5 : decode cX12_startsFrom 5 = .ok (.if_icmp .ge 25, 3) := by decide +kernel
theorem dX12_startsFrom_8 : decode cX12_startsFrom 8 = .ok (.aload_n 0, 1) := by decide +kernel
theorem dX12_startsFrom_9 : decode cX12_startsFrom 9 = .ok (.getfield 47, 3) := by decide +kernel
theorem dX12_startsFrom_12 : decode cX12_startsFrom 12 = .ok (.iload_n 2, 1) := by decide +kernel
theorem dX12_startsFrom_13 : decode cX12_startsFrom 13 = .ok (.iload_n 2, 1) := by decide +kernel
theorem dX12_startsFrom_14 : decode cX12_startsFrom 14 = .ok (.iload_n 1, 1) := by decide +kernel
theorem dX12_startsFrom_15 : decode cX12_startsFrom 15 = .ok (.if_icmp .ne 7, 3) := by decide +kernel
theorem dX12_startsFrom_18 : decode cX12_startsFrom 18 = .ok (.lconst 1, 1) := by decide +kernel
theorem dX12_startsFrom_19 : decode cX12_startsFrom 19 = .ok (.goto 4, 3) := by decide +kernel
theorem dX12_startsFrom_22 : decode cX12_startsFrom 22 = .ok (.lconst 0, 1) := by decide +kernel
theorem dX12_startsFrom_23 : decode cX12_startsFrom 23 = .ok (.lastore, 1) := by decide +kernel
theorem dX12_startsFrom_24 : decode cX12_startsFrom 24 = .ok (.iinc 2 1, 3) := by decide +kernel
theorem dX12_startsFrom_27 : decode cX12_startsFrom 27 = .ok (.goto (-25), 3) := by decide +kernel
theorem dX12_startsFrom_30 : decode cX12_startsFrom 30 = .ok (.return_, 1) := by decide +kernel
theorem dX12_chainsOf_0 : decode cX12_chainsOf 0 = .ok (.aload_n 0, 1) := by decide +kernel
theorem dX12_chainsOf_1 : decode cX12_chainsOf 1 = .ok (.iload_n 1, 1) := by decide +kernel
theorem dX12_chainsOf_2 : decode cX12_chainsOf 2 = .ok (.invokevirtual 361, 3) := by decide +kernel
theorem dX12_chainsOf_5 : decode cX12_chainsOf 5 = .ok (.iconst 0, 1) := by decide +kernel
theorem dX12_chainsOf_6 : decode cX12_chainsOf 6 = .ok (.istore 4, 2) := by decide +kernel
theorem dX12_chainsOf_8 : decode cX12_chainsOf 8 = .ok (.iload 4, 2) := by decide +kernel
theorem dX12_chainsOf_10 : decode cX12_chainsOf 10 = .ok (.iload_n 3, 1) := by decide +kernel
theorem dX12_chainsOf_11 : decode cX12_chainsOf 11 = .ok (.if_icmp .ge 14, 3) := by decide +kernel
theorem dX12_chainsOf_14 : decode cX12_chainsOf 14 = .ok (.aload_n 0, 1) := by decide +kernel
theorem dX12_chainsOf_15 : decode cX12_chainsOf 15 = .ok (.iconst 0, 1) := by decide +kernel
theorem dX12_chainsOf_16 : decode cX12_chainsOf 16 = .ok (.invokevirtual 364, 3) := by decide +kernel
theorem dX12_chainsOf_19 : decode cX12_chainsOf 19 = .ok (.iinc 4 1, 3) := by decide +kernel
theorem dX12_chainsOf_22 : decode cX12_chainsOf 22 = .ok (.goto (-14), 3) := by decide +kernel
theorem dX12_chainsOf_25 : decode cX12_chainsOf 25 = .ok (.aload_n 0, 1) := by decide +kernel
theorem dX12_chainsOf_26 : decode cX12_chainsOf 26 = .ok (.getfield 47, 3) := by decide +kernel
theorem dX12_chainsOf_29 : decode cX12_chainsOf 29 = .ok (.iload_n 2, 1) := by decide +kernel
theorem dX12_chainsOf_30 : decode cX12_chainsOf 30 = .ok (.laload, 1) := by decide +kernel
theorem dX12_chainsOf_31 : decode cX12_chainsOf 31 = .ok (.lreturn, 1) := by decide +kernel
theorem dX12_allChains_0 : decode cX12_allChains 0 = .ok (.aload_n 0, 1) := by decide +kernel
theorem dX12_allChains_1 : decode cX12_allChains 1 = .ok (.iload_n 1, 1) := by decide +kernel
theorem dX12_allChains_2 : decode cX12_allChains 2 = .ok (.invokevirtual 361, 3) := by decide +kernel
theorem dX12_allChains_5 : decode cX12_allChains 5 = .ok (.aload_n 0, 1) := by decide +kernel
theorem dX12_allChains_6 : decode cX12_allChains 6 = .ok (.getfield 47, 3) := by decide +kernel
theorem dX12_allChains_9 : decode cX12_allChains 9 = .ok (.iload_n 2, 1) := by decide +kernel
theorem dX12_allChains_10 : decode cX12_allChains 10 = .ok (.laload, 1) := by decide +kernel
theorem dX12_allChains_11 : decode cX12_allChains 11 = .ok (.lstore 4, 2) := by decide +kernel
theorem dX12_allChains_13 : decode cX12_allChains 13 = .ok (.iconst 1, 1) := by decide +kernel
theorem dX12_allChains_14 : decode cX12_allChains 14 = .ok (.istore 6, 2) := by decide +kernel
theorem dX12_allChains_16 : decode cX12_allChains 16 = .ok (.iload 6, 2) := by decide +kernel
theorem dX12_allChains_18 : decode cX12_allChains 18 = .ok (.bipush 16, 2) := by decide +kernel
theorem dX12_allChains_20 : decode cX12_allChains 20 = .ok (.if_icmp .ge 25, 3) := by decide +kernel
theorem dX12_allChains_23 : decode cX12_allChains 23 = .ok (.aload_n 0, 1) := by decide +kernel
theorem dX12_allChains_24 : decode cX12_allChains 24 = .ok (.iload_n 3, 1) := by decide +kernel
theorem dX12_allChains_25 : decode cX12_allChains 25 = .ok (.invokevirtual 364, 3) := by decide +kernel
theorem dX12_allChains_28 : decode cX12_allChains 28 = .ok (.lload 4, 2) := by decide +kernel
theorem dX12_allChains_30 : decode cX12_allChains 30 = .ok (.aload_n 0, 1) := by decide +kernel
theorem dX12_allChains_31 : decode cX12_allChains 31 = .ok (.getfield 47, 3) := by decide +kernel
theorem dX12_allChains_34 : decode cX12_allChains 34 = .ok (.iload_n 2, 1) := by decide +kernel
theorem dX12_allChains_35 : decode cX12_allChains 35 = .ok (.laload, 1) := by decide +kernel
theorem dX12_allChains_36 : decode cX12_allChains 36 = .ok (.ladd, 1) := by decide +kernel
theorem dX12_allChains_37 : decode cX12_allChains 37 = .ok (.lstore 4, 2) := by decide +kernel
theorem dX12_allChains_39 : decode cX12_allChains 39 = .ok (.iinc 6 1, 3) := by decide +kernel
theorem dX12_allChains_42 : decode cX12_allChains 42 = .ok (.goto (-26), 3) := by decide +kernel
theorem dX12_allChains_45 : decode cX12_allChains 45 = .ok (.lload 4, 2) := by decide +kernel
theorem dX12_allChains_47 : decode cX12_allChains 47 = .ok (.lreturn, 1) := by decide +kernel
theorem dX12_chains_0 : decode cX12_chains 0 = .ok (.aload_n 0, 1) := by decide +kernel
theorem dX12_chains_1 : decode cX12_chains 1 = .ok (.iload_n 1, 1) := by decide +kernel
theorem dX12_chains_2 : decode cX12_chains 2 = .ok (.invokevirtual 100, 3) := by decide +kernel
theorem dX12_chains_5 : decode cX12_chains 5 = .ok (.ifCond .eq 25, 3) := by decide +kernel
theorem dX12_chains_8 : decode cX12_chains 8 = .ok (.aload_n 0, 1) := by decide +kernel
theorem dX12_chains_9 : decode cX12_chains 9 = .ok (.iload_n 2, 1) := by decide +kernel
theorem dX12_chains_10 : decode cX12_chains 10 = .ok (.invokevirtual 100, 3) := by decide +kernel
theorem dX12_chains_13 : decode cX12_chains 13 = .ok (.ifCond .eq 17, 3) := by decide +kernel
theorem dX12_chains_16 : decode cX12_chains 16 = .ok (.iload_n 3, 1) := by decide +kernel
theorem dX12_chains_17 : decode cX12_chains 17 = .ok (.i2l, 1) := by decide +kernel
theorem dX12_chains_18 : decode cX12_chains 18 = .ok (.ldc2_w 368, 3) := by decide +kernel
theorem dX12_chains_21 : decode cX12_chains 21 = .ok (.ldc2_w 370, 3) := by decide +kernel
theorem dX12_chains_24 : decode cX12_chains 24 = .ok (.invokestatic 82, 3) := by decide +kernel
theorem dX12_chains_27 : decode cX12_chains 27 = .ok (.ifCond .ne 7, 3) := by decide +kernel
theorem dX12_chains_30 : decode cX12_chains 30 = .ok (.ldc2_w 118, 3) := by decide +kernel
theorem dX12_chains_33 : decode cX12_chains 33 = .ok (.lreturn, 1) := by decide +kernel
theorem dX12_chains_34 : decode cX12_chains 34 = .ok (.iload_n 3, 1) := by decide +kernel
theorem dX12_chains_35 : decode cX12_chains 35 = .ok (.ifCond .lt 13, 3) := by decide +kernel
theorem dX12_chains_38 : decode cX12_chains 38 = .ok (.aload_n 0, 1) := by decide +kernel
theorem dX12_chains_39 : decode cX12_chains 39 = .ok (.iload_n 1, 1) := by decide +kernel
theorem dX12_chains_40 : decode cX12_chains 40 = .ok (.iload_n 2, 1) := by decide +kernel
theorem dX12_chains_41 : decode cX12_chains 41 = .ok (.iload_n 3, 1) := by decide +kernel
theorem dX12_chains_42 : decode cX12_chains 42 = .ok (.invokevirtual 372, 3) := by decide +kernel
theorem dX12_chains_45 : decode cX12_chains 45 = .ok (.goto 20, 3) := by decide +kernel
theorem dX12_chains_48 : decode cX12_chains 48 = .ok (.aload_n 0, 1) := by decide +kernel
theorem dX12_chains_49 : decode cX12_chains 49 = .ok (.iload_n 1, 1) := by decide +kernel
theorem dX12_chains_50 : decode cX12_chains 50 = .ok (.iload_n 2, 1) := by decide +kernel
theorem dX12_chains_51 : decode cX12_chains 51 = .ok (.iload_n 3, 1) := by decide +kernel
theorem dX12_chains_52 : decode cX12_chains 52 = .ok (.bipush (-2), 2) := by decide +kernel
theorem dX12_chains_54 : decode cX12_chains 54 = .ok (.if_icmp .ne 7, 3) := by decide +kernel
theorem dX12_chains_57 : decode cX12_chains 57 = .ok (.iconst 1, 1) := by decide +kernel
theorem dX12_chains_58 : decode cX12_chains 58 = .ok (.goto 4, 3) := by decide +kernel
theorem dX12_chains_61 : decode cX12_chains 61 = .ok (.iconst 0, 1) := by decide +kernel
theorem dX12_chains_62 : decode cX12_chains 62 = .ok (.invokevirtual 375, 3) := by decide +kernel
theorem dX12_chains_65 : decode cX12_chains 65 = .ok (.lreturn, 1) := by decide +kernel
theorem dX12_fromBelow_0 : decode cX12_fromBelow 0 = .ok (.aload_n 0, 1) := by decide +kernel
theorem dX12_fromBelow_1 : decode cX12_fromBelow 1 = .ok (.invokevirtual 283, 3) := by decide +kernel
theorem dX12_fromBelow_4 : decode cX12_fromBelow 4 = .ok (.aload_n 0, 1) := by decide +kernel
theorem dX12_fromBelow_5 : decode cX12_fromBelow 5 = .ok (.getfield 35, 3) := by decide +kernel
theorem dX12_fromBelow_8 : decode cX12_fromBelow 8 = .ok (.bipush 16, 2) := by decide +kernel
theorem dX12_fromBelow_10 : decode cX12_fromBelow 10 = .ok (.iload_n 1, 1) := by decide +kernel
theorem dX12_fromBelow_11 : decode cX12_fromBelow 11 = .ok (.imul, 1) := by decide +kernel
theorem dX12_fromBelow_12 : decode cX12_fromBelow 12 = .ok (.iload_n 2, 1) := by decide +kernel
theorem dX12_fromBelow_13 : decode cX12_fromBelow 13 = .ok (.iadd, 1) := by decide +kernel
theorem dX12_fromBelow_14 : decode cX12_fromBelow 14 = .ok (.laload, 1) := by decide +kernel
theorem dX12_fromBelow_15 : decode cX12_fromBelow 15 = .ok (.lreturn, 1) := by decide +kernel
theorem dX12_fromAbove_0 : decode cX12_fromAbove 0 = .ok (.aload_n 0, 1) := by decide +kernel
theorem dX12_fromAbove_1 : decode cX12_fromAbove 1 = .ok (.invokevirtual 276, 3) := by decide +kernel
theorem dX12_fromAbove_4 : decode cX12_fromAbove 4 = .ok (.iconst 1, 1) := by decide +kernel
theorem dX12_fromAbove_5 : decode cX12_fromAbove 5 = .ok (.istore_n 3, 1) := by decide +kernel
theorem dX12_fromAbove_6 : decode cX12_fromAbove 6 = .ok (.iload_n 3, 1) := by decide +kernel
theorem dX12_fromAbove_7 : decode cX12_fromAbove 7 = .ok (.aload_n 0, 1) := by decide +kernel
theorem dX12_fromAbove_8 : decode cX12_fromAbove 8 = .ok (.invokevirtual 78, 3) := by decide +kernel
theorem dX12_fromAbove_11 : decode cX12_fromAbove 11 = .ok (.if_icmp .gt 138, 3) := by decide +kernel
theorem dX12_fromAbove_14 : decode cX12_fromAbove 14 = .ok (.iconst 0, 1) := by decide +kernel
theorem dX12_fromAbove_15 : decode cX12_fromAbove 15 = .ok (.istore 4, 2) := by decide +kernel
theorem dX12_fromAbove_17 : decode cX12_fromAbove 17 = .ok (.iload 4, 2) := by decide +kernel
theorem dX12_fromAbove_19 : decode cX12_fromAbove 19 = .ok (.aload_n 0, 1) := by decide +kernel
theorem dX12_fromAbove_20 : decode cX12_fromAbove 20 = .ok (.invokevirtual 78, 3) := by decide +kernel
theorem dX12_fromAbove_23 : decode cX12_fromAbove 23 = .ok (.if_icmp .ge 120, 3) := by decide +kernel
theorem dX12_fromAbove_26 : decode cX12_fromAbove 26 = .ok (.aload_n 0, 1) := by decide +kernel
theorem dX12_fromAbove_27 : decode cX12_fromAbove 27 = .ok (.iload 4, 2) := by decide +kernel
theorem dX12_fromAbove_29 : decode cX12_fromAbove 29 = .ok (.iload_n 2, 1) := by decide +kernel
theorem dX12_fromAbove_30 : decode cX12_fromAbove 30 = .ok (.invokevirtual 94, 3) := by decide +kernel
theorem dX12_fromAbove_33 : decode cX12_fromAbove 33 = .ok (.ifCond .eq 104, 3) := by decide +kernel
theorem dX12_fromAbove_36 : decode cX12_fromAbove 36 = .ok (.aload_n 0, 1) := by decide +kernel
theorem dX12_fromAbove_37 : decode cX12_fromAbove 37 = .ok (.iload 4, 2) := by decide +kernel
theorem dX12_fromAbove_39 : decode cX12_fromAbove 39 = .ok (.iload_n 2, 1) := by decide +kernel
theorem dX12_fromAbove_40 : decode cX12_fromAbove 40 = .ok (.invokevirtual 107, 3) := by decide +kernel
theorem dX12_fromAbove_43 : decode cX12_fromAbove 43 = .ok (.invokestatic 111, 3) := by decide +kernel
theorem dX12_fromAbove_46 : decode cX12_fromAbove 46 = .ok (.iload_n 3, 1) := by decide +kernel
theorem dX12_fromAbove_47 : decode cX12_fromAbove 47 = .ok (.if_icmp .eq 6, 3) := by decide +kernel
theorem dX12_fromAbove_50 : decode cX12_fromAbove 50 = .ok (.goto 87, 3) := by decide +kernel
theorem dX12_fromAbove_53 : decode cX12_fromAbove 53 = .ok (.iload 4, 2) := by decide +kernel
theorem dX12_fromAbove_55 : decode cX12_fromAbove 55 = .ok (.iload_n 2, 1) := by decide +kernel
theorem dX12_fromAbove_56 : decode cX12_fromAbove 56 = .ok (.if_icmp .ne 7, 3) := by decide +kernel
theorem dX12_fromAbove_59 : decode cX12_fromAbove 59 = .ok (.lconst 1, 1) := by decide +kernel
theorem dX12_fromAbove_60 : decode cX12_fromAbove 60 = .ok (.goto 4, 3) := by decide +kernel
theorem dX12_fromAbove_63 : decode cX12_fromAbove 63 = .ok (.lconst 0, 1) := by decide +kernel
theorem dX12_fromAbove_64 : decode cX12_fromAbove 64 = .ok (.lstore 5, 2) := by decide +kernel
theorem dX12_fromAbove_66 : decode cX12_fromAbove 66 = .ok (.iconst 0, 1) := by decide +kernel
theorem dX12_fromAbove_67 : decode cX12_fromAbove 67 = .ok (.istore 7, 2) := by decide +kernel
theorem dX12_fromAbove_69 : decode cX12_fromAbove 69 = .ok (.iload 7, 2) := by decide +kernel
theorem dX12_fromAbove_71 : decode cX12_fromAbove 71 = .ok (.aload_n 0, 1) := by decide +kernel
theorem dX12_fromAbove_72 : decode cX12_fromAbove 72 = .ok (.invokevirtual 78, 3) := by decide +kernel
theorem dX12_fromAbove_75 : decode cX12_fromAbove 75 = .ok (.if_icmp .ge 48, 3) := by decide +kernel
theorem dX12_fromAbove_78 : decode cX12_fromAbove 78 = .ok (.iload 7, 2) := by decide +kernel
theorem dX12_fromAbove_80 : decode cX12_fromAbove 80 = .ok (.iload 4, 2) := by decide +kernel
theorem dX12_fromAbove_82 : decode cX12_fromAbove 82 = .ok (.if_icmp .eq 35, 3) := by decide +kernel
theorem dX12_fromAbove_85 : decode cX12_fromAbove 85 = .ok (.aload_n 0, 1) := by decide +kernel
theorem dX12_fromAbove_86 : decode cX12_fromAbove 86 = .ok (.iload 4, 2) := by decide +kernel
theorem dX12_fromAbove_88 : decode cX12_fromAbove 88 = .ok (.iload_n 2, 1) := by decide +kernel
theorem dX12_fromAbove_89 : decode cX12_fromAbove 89 = .ok (.invokevirtual 107, 3) := by decide +kernel
theorem dX12_fromAbove_92 : decode cX12_fromAbove 92 = .ok (.iload 7, 2) := by decide +kernel
theorem dX12_fromAbove_94 : decode cX12_fromAbove 94 = .ok (.invokestatic 90, 3) := by decide +kernel
theorem dX12_fromAbove_97 : decode cX12_fromAbove 97 = .ok (.ifCond .eq 20, 3) := by decide +kernel
theorem dX12_fromAbove_100 : decode cX12_fromAbove 100 = .ok (.lload 5, 2) := by decide +kernel
theorem dX12_fromAbove_102 : decode cX12_fromAbove 102 = .ok (.aload_n 0, 1) := by decide +kernel
theorem dX12_fromAbove_103 : decode cX12_fromAbove 103 = .ok (.getfield 35, 3) := by decide +kernel
theorem dX12_fromAbove_106 : decode cX12_fromAbove 106 = .ok (.bipush 16, 2) := by decide +kernel
theorem dX12_fromAbove_108 : decode cX12_fromAbove 108 = .ok (.iload 7, 2) := by decide +kernel
theorem dX12_fromAbove_110 : decode cX12_fromAbove 110 = .ok (.imul, 1) := by decide +kernel
theorem dX12_fromAbove_111 : decode cX12_fromAbove 111 = .ok (.iload_n 2, 1) := by decide +kernel
theorem dX12_fromAbove_112 : decode cX12_fromAbove 112 = .ok (.iadd, 1) := by decide +kernel
theorem dX12_fromAbove_113 : decode cX12_fromAbove 113 = .ok (.laload, 1) := by decide +kernel
theorem dX12_fromAbove_114 : decode cX12_fromAbove 114 = .ok (.lsub, 1) := by decide +kernel
theorem dX12_fromAbove_115 : decode cX12_fromAbove 115 = .ok (.lstore 5, 2) := by decide +kernel
theorem dX12_fromAbove_117 : decode cX12_fromAbove 117 = .ok (.iinc 7 1, 3) := by decide +kernel
theorem dX12_fromAbove_120 : decode cX12_fromAbove 120 = .ok (.goto (-51), 3) := by decide +kernel
theorem dX12_fromAbove_123 : decode cX12_fromAbove 123 = .ok (.aload_n 0, 1) := by decide +kernel
theorem dX12_fromAbove_124 : decode cX12_fromAbove 124 = .ok (.getfield 35, 3) := by decide +kernel
theorem dX12_fromAbove_127 : decode cX12_fromAbove 127 = .ok (.bipush 16, 2) := by decide +kernel
theorem dX12_fromAbove_129 : decode cX12_fromAbove 129 = .ok (.iload 4, 2) := by decide +kernel
theorem dX12_fromAbove_131 : decode cX12_fromAbove 131 = .ok (.imul, 1) := by decide +kernel
theorem dX12_fromAbove_132 : decode cX12_fromAbove 132 = .ok (.iload_n 2, 1) := by decide +kernel
theorem dX12_fromAbove_133 : decode cX12_fromAbove 133 = .ok (.iadd, 1) := by decide +kernel
theorem dX12_fromAbove_134 : decode cX12_fromAbove 134 = .ok (.lload 5, 2) := by decide +kernel
theorem dX12_fromAbove_136 : decode cX12_fromAbove 136 = .ok (.lastore, 1) := by decide +kernel
theorem dX12_fromAbove_137 : decode cX12_fromAbove 137 = .ok (.iinc 4 1, 3) := by decide +kernel
theorem dX12_fromAbove_140 : decode cX12_fromAbove 140 = .ok (.goto (-123), 3) := by decide +kernel
theorem dX12_fromAbove_143 : decode cX12_fromAbove 143 = .ok (.iinc 3 1, 3) := by decide +kernel
theorem dX12_fromAbove_146 : decode cX12_fromAbove 146 = .ok (.goto (-140), 3) := by decide +kernel
theorem dX12_fromAbove_149 : decode cX12_fromAbove 149 = .ok (.aload_n 0, 1) := by decide +kernel
theorem dX12_fromAbove_150 : decode cX12_fromAbove 150 = .ok (.getfield 35, 3) := by decide +kernel
theorem dX12_fromAbove_153 : decode cX12_fromAbove 153 = .ok (.bipush 16, 2) := by decide +kernel
theorem dX12_fromAbove_155 : decode cX12_fromAbove 155 = .ok (.iload_n 1, 1) := by decide +kernel
theorem dX12_fromAbove_156 : decode cX12_fromAbove 156 = .ok (.imul, 1) := by decide +kernel
theorem dX12_fromAbove_157 : decode cX12_fromAbove 157 = .ok (.iload_n 2, 1) := by decide +kernel
theorem dX12_fromAbove_158 : decode cX12_fromAbove 158 = .ok (.iadd, 1) := by decide +kernel
theorem dX12_fromAbove_159 : decode cX12_fromAbove 159 = .ok (.laload, 1) := by decide +kernel
theorem dX12_fromAbove_160 : decode cX12_fromAbove 160 = .ok (.lreturn, 1) := by decide +kernel
theorem dX12_byChains_0 : decode cX12_byChains 0 = .ok (.lconst 0, 1) := by decide +kernel
theorem dX12_byChains_1 : decode cX12_byChains 1 = .ok (.lstore_n 3, 1) := by decide +kernel
theorem dX12_byChains_2 : decode cX12_byChains 2 = .ok (.iconst 0, 1) := by decide +kernel
theorem dX12_byChains_3 : decode cX12_byChains 3 = .ok (.istore 5, 2) := by decide +kernel
theorem dX12_byChains_5 : decode cX12_byChains 5 = .ok (.iload 5, 2) := by decide +kernel
theorem dX12_byChains_7 : decode cX12_byChains 7 = .ok (.bipush 16, 2) := by decide +kernel
theorem dX12_byChains_9 : decode cX12_byChains 9 = .ok (.if_icmp .ge 39, 3) := by decide +kernel
theorem dX12_byChains_12 : decode cX12_byChains 12 = .ok (.lload_n 3, 1) := by decide +kernel
theorem dX12_byChains_13 : decode cX12_byChains 13 = .ok (.iload 5, 2) := by decide +kernel
theorem dX12_byChains_15 : decode cX12_byChains 15 = .ok (.iconst 2, 1) := by decide +kernel
theorem dX12_byChains_16 : decode cX12_byChains 16 = .ok (.irem, 1) := by decide +kernel
theorem dX12_byChains_17 : decode cX12_byChains 17 = .ok (.ifCond .ne 14, 3) := by decide +kernel
theorem dX12_byChains_20 : decode cX12_byChains 20 = .ok (.aload_n 0, 1) := by decide +kernel
theorem dX12_byChains_21 : decode cX12_byChains 21 = .ok (.iload_n 1, 1) := by decide +kernel
theorem dX12_byChains_22 : decode cX12_byChains 22 = .ok (.iload_n 2, 1) := by decide +kernel
theorem dX12_byChains_23 : decode cX12_byChains 23 = .ok (.iload 5, 2) := by decide +kernel
theorem dX12_byChains_25 : decode cX12_byChains 25 = .ok (.invokevirtual 372, 3) := by decide +kernel
theorem dX12_byChains_28 : decode cX12_byChains 28 = .ok (.goto 12, 3) := by decide +kernel
theorem dX12_byChains_31 : decode cX12_byChains 31 = .ok (.aload_n 0, 1) := by decide +kernel
theorem dX12_byChains_32 : decode cX12_byChains 32 = .ok (.iload_n 1, 1) := by decide +kernel
theorem dX12_byChains_33 : decode cX12_byChains 33 = .ok (.iload_n 2, 1) := by decide +kernel
theorem dX12_byChains_34 : decode cX12_byChains 34 = .ok (.iload 5, 2) := by decide +kernel
theorem dX12_byChains_36 : decode cX12_byChains 36 = .ok (.invokevirtual 372, 3) := by decide +kernel
theorem dX12_byChains_39 : decode cX12_byChains 39 = .ok (.lneg, 1) := by decide +kernel
theorem dX12_byChains_40 : decode cX12_byChains 40 = .ok (.ladd, 1) := by decide +kernel
theorem dX12_byChains_41 : decode cX12_byChains 41 = .ok (.lstore_n 3, 1) := by decide +kernel
theorem dX12_byChains_42 : decode cX12_byChains 42 = .ok (.iinc 5 1, 3) := by decide +kernel
theorem dX12_byChains_45 : decode cX12_byChains 45 = .ok (.goto (-40), 3) := by decide +kernel
theorem dX12_byChains_48 : decode cX12_byChains 48 = .ok (.lload_n 3, 1) := by decide +kernel
theorem dX12_byChains_49 : decode cX12_byChains 49 = .ok (.lreturn, 1) := by decide +kernel
theorem dX12_joinWithin_0 : decode cX12_joinWithin 0 = .ok (.aload_n 0, 1) := by decide +kernel
theorem dX12_joinWithin_1 : decode cX12_joinWithin 1 = .ok (.iload_n 1, 1) := by decide +kernel
theorem dX12_joinWithin_2 : decode cX12_joinWithin 2 = .ok (.aload_n 0, 1) := by decide +kernel
theorem dX12_joinWithin_3 : decode cX12_joinWithin 3 = .ok (.iload_n 2, 1) := by decide +kernel
theorem dX12_joinWithin_4 : decode cX12_joinWithin 4 = .ok (.invokevirtual 86, 3) := by decide +kernel
theorem dX12_joinWithin_7 : decode cX12_joinWithin 7 = .ok (.iand, 1) := by decide +kernel
theorem dX12_joinWithin_8 : decode cX12_joinWithin 8 = .ok (.aload_n 0, 1) := by decide +kernel
theorem dX12_joinWithin_9 : decode cX12_joinWithin 9 = .ok (.iload_n 3, 1) := by decide +kernel
theorem dX12_joinWithin_10 : decode cX12_joinWithin 10 = .ok (.invokevirtual 86, 3) := by decide +kernel
theorem dX12_joinWithin_13 : decode cX12_joinWithin 13 = .ok (.iand, 1) := by decide +kernel
theorem dX12_joinWithin_14 : decode cX12_joinWithin 14 = .ok (.invokevirtual 347, 3) := by decide +kernel
theorem dX12_joinWithin_17 : decode cX12_joinWithin 17 = .ok (.ireturn, 1) := by decide +kernel
theorem dX12_areJoined_0 : decode cX12_areJoined 0 = .ok (.iconst 0, 1) := by decide +kernel
theorem dX12_areJoined_1 : decode cX12_areJoined 1 = .ok (.istore_n 2, 1) := by decide +kernel
theorem dX12_areJoined_2 : decode cX12_areJoined 2 = .ok (.iload_n 2, 1) := by decide +kernel
theorem dX12_areJoined_3 : decode cX12_areJoined 3 = .ok (.aload_n 0, 1) := by decide +kernel
theorem dX12_areJoined_4 : decode cX12_areJoined 4 = .ok (.invokevirtual 78, 3) := by decide +kernel
theorem dX12_areJoined_7 : decode cX12_areJoined 7 = .ok (.if_icmp .ge 52, 3) := by decide +kernel
theorem dX12_areJoined_10 : decode cX12_areJoined 10 = .ok (.iconst 0, 1) := by decide +kernel
theorem dX12_areJoined_11 : decode cX12_areJoined 11 = .ok (.istore_n 3, 1) := by decide +kernel
theorem dX12_areJoined_12 : decode cX12_areJoined 12 = .ok (.iload_n 3, 1) := by decide +kernel
theorem dX12_areJoined_13 : decode cX12_areJoined 13 = .ok (.iload_n 2, 1) := by decide +kernel
theorem dX12_areJoined_14 : decode cX12_areJoined 14 = .ok (.if_icmp .ge 39, 3) := by decide +kernel
theorem dX12_areJoined_17 : decode cX12_areJoined 17 = .ok (.iload_n 1, 1) := by decide +kernel
theorem dX12_areJoined_18 : decode cX12_areJoined 18 = .ok (.iload_n 2, 1) := by decide +kernel
theorem dX12_areJoined_19 : decode cX12_areJoined 19 = .ok (.invokestatic 90, 3) := by decide +kernel
theorem dX12_areJoined_22 : decode cX12_areJoined 22 = .ok (.ifCond .eq 25, 3) := by decide +kernel
theorem dX12_areJoined_25 : decode cX12_areJoined 25 = .ok (.iload_n 1, 1) := by decide +kernel
theorem dX12_areJoined_26 : decode cX12_areJoined 26 = .ok (.iload_n 3, 1) := by decide +kernel
theorem dX12_areJoined_27 : decode cX12_areJoined 27 = .ok (.invokestatic 90, 3) := by decide +kernel
theorem dX12_areJoined_30 : decode cX12_areJoined 30 = .ok (.ifCond .eq 17, 3) := by decide +kernel
theorem dX12_areJoined_33 : decode cX12_areJoined 33 = .ok (.aload_n 0, 1) := by decide +kernel
theorem dX12_areJoined_34 : decode cX12_areJoined 34 = .ok (.iload_n 1, 1) := by decide +kernel
theorem dX12_areJoined_35 : decode cX12_areJoined 35 = .ok (.iload_n 2, 1) := by decide +kernel
theorem dX12_areJoined_36 : decode cX12_areJoined 36 = .ok (.iload_n 3, 1) := by decide +kernel
theorem dX12_areJoined_37 : decode cX12_areJoined 37 = .ok (.invokevirtual 379, 3) := by decide +kernel
theorem dX12_areJoined_40 : decode cX12_areJoined 40 = .ok (.bipush (-2), 2) := by decide +kernel
theorem dX12_areJoined_42 : decode cX12_areJoined 42 = .ok (.if_icmp .ne 5, 3) := by decide +kernel
theorem dX12_areJoined_45 : decode cX12_areJoined 45 = .ok (.iconst 0, 1) := by decide +kernel
theorem dX12_areJoined_46 : decode cX12_areJoined 46 = .ok (.ireturn, 1) := by decide +kernel
theorem dX12_areJoined_47 : decode cX12_areJoined 47 = .ok (.iinc 3 1, 3) := by decide +kernel
theorem dX12_areJoined_50 : decode cX12_areJoined 50 = .ok (.goto (-38), 3) := by decide +kernel
theorem dX12_areJoined_53 : decode cX12_areJoined 53 = .ok (.iinc 2 1, 3) := by decide +kernel
theorem dX12_areJoined_56 : decode cX12_areJoined 56 = .ok (.goto (-54), 3) := by decide +kernel
theorem dX12_areJoined_59 : decode cX12_areJoined 59 = .ok (.iconst 1, 1) := by decide +kernel
theorem dX12_areJoined_60 : decode cX12_areJoined 60 = .ok (.ireturn, 1) := by decide +kernel
theorem dX12_joinOf_0 : decode cX12_joinOf 0 = .ok (.iload_n 2, 1) := by decide +kernel
theorem dX12_joinOf_1 : decode cX12_joinOf 1 = .ok (.istore 4, 2) := by decide +kernel
theorem dX12_joinOf_3 : decode cX12_joinOf 3 = .ok (.iconst 0, 1) := by decide +kernel
theorem dX12_joinOf_4 : decode cX12_joinOf 4 = .ok (.istore 5, 2) := by decide +kernel
theorem dX12_joinOf_6 : decode cX12_joinOf 6 = .ok (.iload 5, 2) := by decide +kernel
theorem dX12_joinOf_8 : decode cX12_joinOf 8 = .ok (.aload_n 0, 1) := by decide +kernel
theorem dX12_joinOf_9 : decode cX12_joinOf 9 = .ok (.invokevirtual 78, 3) := by decide +kernel
theorem dX12_joinOf_12 : decode cX12_joinOf 12 = .ok (.if_icmp .ge 29, 3) := by decide +kernel
theorem dX12_joinOf_15 : decode cX12_joinOf 15 = .ok (.iload_n 3, 1) := by decide +kernel
theorem dX12_joinOf_16 : decode cX12_joinOf 16 = .ok (.iload 5, 2) := by decide +kernel
theorem dX12_joinOf_18 : decode cX12_joinOf 18 = .ok (.invokestatic 90, 3) := by decide +kernel
theorem dX12_joinOf_21 : decode cX12_joinOf 21 = .ok (.ifCond .eq 14, 3) := by decide +kernel
theorem dX12_joinOf_24 : decode cX12_joinOf 24 = .ok (.aload_n 0, 1) := by decide +kernel
theorem dX12_joinOf_25 : decode cX12_joinOf 25 = .ok (.iload_n 1, 1) := by decide +kernel
theorem dX12_joinOf_26 : decode cX12_joinOf 26 = .ok (.iload 4, 2) := by decide +kernel
theorem dX12_joinOf_28 : decode cX12_joinOf 28 = .ok (.iload 5, 2) := by decide +kernel
theorem dX12_joinOf_30 : decode cX12_joinOf 30 = .ok (.invokevirtual 379, 3) := by decide +kernel
theorem dX12_joinOf_33 : decode cX12_joinOf 33 = .ok (.istore 4, 2) := by decide +kernel
theorem dX12_joinOf_35 : decode cX12_joinOf 35 = .ok (.iinc 5 1, 3) := by decide +kernel
theorem dX12_joinOf_38 : decode cX12_joinOf 38 = .ok (.goto (-32), 3) := by decide +kernel
theorem dX12_joinOf_41 : decode cX12_joinOf 41 = .ok (.iload 4, 2) := by decide +kernel
theorem dX12_joinOf_43 : decode cX12_joinOf 43 = .ok (.ireturn, 1) := by decide +kernel
theorem dX12_byCrossCut_0 : decode cX12_byCrossCut 0 = .ok (.aload_n 0, 1) := by decide +kernel
theorem dX12_byCrossCut_1 : decode cX12_byCrossCut 1 = .ok (.iload_n 1, 1) := by decide +kernel
theorem dX12_byCrossCut_2 : decode cX12_byCrossCut 2 = .ok (.iload_n 2, 1) := by decide +kernel
theorem dX12_byCrossCut_3 : decode cX12_byCrossCut 3 = .ok (.invokevirtual 107, 3) := by decide +kernel
theorem dX12_byCrossCut_6 : decode cX12_byCrossCut 6 = .ok (.istore_n 3, 1) := by decide +kernel
theorem dX12_byCrossCut_7 : decode cX12_byCrossCut 7 = .ok (.aload_n 0, 1) := by decide +kernel
theorem dX12_byCrossCut_8 : decode cX12_byCrossCut 8 = .ok (.iload_n 3, 1) := by decide +kernel
theorem dX12_byCrossCut_9 : decode cX12_byCrossCut 9 = .ok (.invokevirtual 382, 3) := by decide +kernel
theorem dX12_byCrossCut_12 : decode cX12_byCrossCut 12 = .ok (.ifCond .ne 7, 3) := by decide +kernel
theorem dX12_byCrossCut_15 : decode cX12_byCrossCut 15 = .ok (.ldc2_w 269, 3) := by decide +kernel
theorem dX12_byCrossCut_18 : decode cX12_byCrossCut 18 = .ok (.lreturn, 1) := by decide +kernel
theorem dX12_byCrossCut_19 : decode cX12_byCrossCut 19 = .ok (.aload_n 0, 1) := by decide +kernel
theorem dX12_byCrossCut_20 : decode cX12_byCrossCut 20 = .ok (.iload_n 1, 1) := by decide +kernel
theorem dX12_byCrossCut_21 : decode cX12_byCrossCut 21 = .ok (.invokevirtual 341, 3) := by decide +kernel
theorem dX12_byCrossCut_24 : decode cX12_byCrossCut 24 = .ok (.iload_n 3, 1) := by decide +kernel
theorem dX12_byCrossCut_25 : decode cX12_byCrossCut 25 = .ok (.iand, 1) := by decide +kernel
theorem dX12_byCrossCut_26 : decode cX12_byCrossCut 26 = .ok (.istore 4, 2) := by decide +kernel
theorem dX12_byCrossCut_28 : decode cX12_byCrossCut 28 = .ok (.aload_n 0, 1) := by decide +kernel
theorem dX12_byCrossCut_29 : decode cX12_byCrossCut 29 = .ok (.iload_n 3, 1) := by decide +kernel
theorem dX12_byCrossCut_30 : decode cX12_byCrossCut 30 = .ok (.iload_n 1, 1) := by decide +kernel
theorem dX12_byCrossCut_31 : decode cX12_byCrossCut 31 = .ok (.iconst 0, 1) := by decide +kernel
theorem dX12_byCrossCut_32 : decode cX12_byCrossCut 32 = .ok (.invokevirtual 385, 3) := by decide +kernel
theorem dX12_byCrossCut_35 : decode cX12_byCrossCut 35 = .ok (.iload_n 2, 1) := by decide +kernel
theorem dX12_byCrossCut_36 : decode cX12_byCrossCut 36 = .ok (.if_icmp .ne 7, 3) := by decide +kernel
theorem dX12_byCrossCut_39 : decode cX12_byCrossCut 39 = .ok (.lconst 1, 1) := by decide +kernel
theorem dX12_byCrossCut_40 : decode cX12_byCrossCut 40 = .ok (.goto 4, 3) := by decide +kernel
theorem dX12_byCrossCut_43 : decode cX12_byCrossCut 43 = .ok (.lconst 0, 1) := by decide +kernel
theorem dX12_byCrossCut_44 : decode cX12_byCrossCut 44 = .ok (.lstore 5, 2) := by decide +kernel
theorem dX12_byCrossCut_46 : decode cX12_byCrossCut 46 = .ok (.iload 4, 2) := by decide +kernel
theorem dX12_byCrossCut_48 : decode cX12_byCrossCut 48 = .ok (.istore 7, 2) := by decide +kernel
theorem dX12_byCrossCut_50 : decode cX12_byCrossCut 50 = .ok (.iload 7, 2) := by decide +kernel
theorem dX12_byCrossCut_52 : decode cX12_byCrossCut 52 = .ok (.ifCond .eq 49, 3) := by decide +kernel
theorem dX12_byCrossCut_55 : decode cX12_byCrossCut 55 = .ok (.aload_n 0, 1) := by decide +kernel
theorem dX12_byCrossCut_56 : decode cX12_byCrossCut 56 = .ok (.iload_n 3, 1) := by decide +kernel
theorem dX12_byCrossCut_57 : decode cX12_byCrossCut 57 = .ok (.iload_n 1, 1) := by decide +kernel
theorem dX12_byCrossCut_58 : decode cX12_byCrossCut 58 = .ok (.iload 7, 2) := by decide +kernel
theorem dX12_byCrossCut_60 : decode cX12_byCrossCut 60 = .ok (.invokevirtual 385, 3) := by decide +kernel
theorem dX12_byCrossCut_63 : decode cX12_byCrossCut 63 = .ok (.iload_n 2, 1) := by decide +kernel
theorem dX12_byCrossCut_64 : decode cX12_byCrossCut 64 = .ok (.if_icmp .ne 25, 3) := by decide +kernel
theorem dX12_byCrossCut_67 : decode cX12_byCrossCut 67 = .ok (.lload 5, 2) := by decide +kernel
theorem dX12_byCrossCut_69 : decode cX12_byCrossCut 69 = .ok (.iload 7, 2) := by decide +kernel
theorem dX12_byCrossCut_71 : decode cX12_byCrossCut 71 = .ok (.invokestatic 111, 3) := by decide +kernel
theorem dX12_byCrossCut_74 : decode cX12_byCrossCut 74 = .ok (.iconst 2, 1) := by decide +kernel
theorem dX12_byCrossCut_75 : decode cX12_byCrossCut 75 = .ok (.irem, 1) := by decide +kernel
theorem dX12_byCrossCut_76 : decode cX12_byCrossCut 76 = .ok (.ifCond .ne 7, 3) := by decide +kernel
theorem dX12_byCrossCut_79 : decode cX12_byCrossCut 79 = .ok (.lconst 1, 1) := by decide +kernel
theorem dX12_byCrossCut_80 : decode cX12_byCrossCut 80 = .ok (.goto 6, 3) := by decide +kernel
theorem dX12_byCrossCut_83 : decode cX12_byCrossCut 83 = .ok (.ldc2_w 118, 3) := by decide +kernel
theorem dX12_byCrossCut_86 : decode cX12_byCrossCut 86 = .ok (.ladd, 1) := by decide +kernel
theorem dX12_byCrossCut_87 : decode cX12_byCrossCut 87 = .ok (.lstore 5, 2) := by decide +kernel
theorem dX12_byCrossCut_89 : decode cX12_byCrossCut 89 = .ok (.iload 7, 2) := by decide +kernel
theorem dX12_byCrossCut_91 : decode cX12_byCrossCut 91 = .ok (.iconst 1, 1) := by decide +kernel
theorem dX12_byCrossCut_92 : decode cX12_byCrossCut 92 = .ok (.isub, 1) := by decide +kernel
theorem dX12_byCrossCut_93 : decode cX12_byCrossCut 93 = .ok (.iload 4, 2) := by decide +kernel
theorem dX12_byCrossCut_95 : decode cX12_byCrossCut 95 = .ok (.iand, 1) := by decide +kernel
theorem dX12_byCrossCut_96 : decode cX12_byCrossCut 96 = .ok (.istore 7, 2) := by decide +kernel
theorem dX12_byCrossCut_98 : decode cX12_byCrossCut 98 = .ok (.goto (-48), 3) := by decide +kernel
theorem dX12_byCrossCut_101 : decode cX12_byCrossCut 101 = .ok (.lload 5, 2) := by decide +kernel
theorem dX12_byCrossCut_103 : decode cX12_byCrossCut 103 = .ok (.lreturn, 1) := by decide +kernel
theorem dX12_moebius_0 : decode cX12_moebius 0 = .ok (.aload_n 0, 1) := by decide +kernel
theorem dX12_moebius_1 : decode cX12_moebius 1 = .ok (.iload_n 1, 1) := by decide +kernel
theorem dX12_moebius_2 : decode cX12_moebius 2 = .ok (.iload_n 2, 1) := by decide +kernel
theorem dX12_moebius_3 : decode cX12_moebius 3 = .ok (.invokevirtual 247, 3) := by decide +kernel
theorem dX12_moebius_6 : decode cX12_moebius 6 = .ok (.ifCond .ne 7, 3) := by decide +kernel
theorem dX12_moebius_9 : decode cX12_moebius 9 = .ok (.ldc2_w 269, 3) := by decide +kernel
theorem dX12_moebius_12 : decode cX12_moebius 12 = .ok (.lreturn, 1) := by decide +kernel
theorem dX12_moebius_13 : decode cX12_moebius 13 = .ok (.iload_n 3, 1) := by decide +kernel
theorem dX12_moebius_14 : decode cX12_moebius 14 = .ok (.tableswitch 58 0 3 #[30, 37, 44, 51], 30) := by decide +kernel
theorem dX12_moebius_44 : decode cX12_moebius 44 = .ok (.aload_n 0, 1) := by decide +kernel
theorem dX12_moebius_45 : decode cX12_moebius 45 = .ok (.iload_n 1, 1) := by decide +kernel
theorem dX12_moebius_46 : decode cX12_moebius 46 = .ok (.iload_n 2, 1) := by decide +kernel
theorem dX12_moebius_47 : decode cX12_moebius 47 = .ok (.invokevirtual 388, 3) := by decide +kernel
theorem dX12_moebius_50 : decode cX12_moebius 50 = .ok (.lreturn, 1) := by decide +kernel
theorem dX12_moebius_51 : decode cX12_moebius 51 = .ok (.aload_n 0, 1) := by decide +kernel
theorem dX12_moebius_52 : decode cX12_moebius 52 = .ok (.iload_n 1, 1) := by decide +kernel
theorem dX12_moebius_53 : decode cX12_moebius 53 = .ok (.iload_n 2, 1) := by decide +kernel
theorem dX12_moebius_54 : decode cX12_moebius 54 = .ok (.invokevirtual 391, 3) := by decide +kernel
theorem dX12_moebius_57 : decode cX12_moebius 57 = .ok (.lreturn, 1) := by decide +kernel
theorem dX12_moebius_58 : decode cX12_moebius 58 = .ok (.aload_n 0, 1) := by decide +kernel
theorem dX12_moebius_59 : decode cX12_moebius 59 = .ok (.iload_n 1, 1) := by decide +kernel
theorem dX12_moebius_60 : decode cX12_moebius 60 = .ok (.iload_n 2, 1) := by decide +kernel
theorem dX12_moebius_61 : decode cX12_moebius 61 = .ok (.invokevirtual 394, 3) := by decide +kernel
theorem dX12_moebius_64 : decode cX12_moebius 64 = .ok (.lreturn, 1) := by decide +kernel
theorem dX12_moebius_65 : decode cX12_moebius 65 = .ok (.aload_n 0, 1) := by decide +kernel
theorem dX12_moebius_66 : decode cX12_moebius 66 = .ok (.iload_n 1, 1) := by decide +kernel
theorem dX12_moebius_67 : decode cX12_moebius 67 = .ok (.iload_n 2, 1) := by decide +kernel
theorem dX12_moebius_68 : decode cX12_moebius 68 = .ok (.invokevirtual 397, 3) := by decide +kernel
theorem dX12_moebius_71 : decode cX12_moebius 71 = .ok (.lreturn, 1) := by decide +kernel
theorem dX12_moebius_72 : decode cX12_moebius 72 = .ok (.ldc2_w 269, 3) := by decide +kernel
theorem dX12_moebius_75 : decode cX12_moebius 75 = .ok (.lreturn, 1) := by decide +kernel
theorem dX12_multichains_0 : decode cX12_multichains 0 = .ok (.aload_n 0, 1) := by decide +kernel
theorem dX12_multichains_1 : decode cX12_multichains 1 = .ok (.iload_n 1, 1) := by decide +kernel
theorem dX12_multichains_2 : decode cX12_multichains 2 = .ok (.iload_n 2, 1) := by decide +kernel
theorem dX12_multichains_3 : decode cX12_multichains 3 = .ok (.invokevirtual 247, 3) := by decide +kernel
theorem dX12_multichains_6 : decode cX12_multichains 6 = .ok (.ifCond .eq 15, 3) := by decide +kernel
theorem dX12_multichains_9 : decode cX12_multichains 9 = .ok (.iload_n 3, 1) := by decide +kernel
theorem dX12_multichains_10 : decode cX12_multichains 10 = .ok (.i2l, 1) := by decide +kernel
theorem dX12_multichains_11 : decode cX12_multichains 11 = .ok (.lconst 0, 1) := by decide +kernel
theorem dX12_multichains_12 : decode cX12_multichains 12 = .ok (.ldc2_w 400, 3) := by decide +kernel
theorem dX12_multichains_15 : decode cX12_multichains 15 = .ok (.invokestatic 82, 3) := by decide +kernel
theorem dX12_multichains_18 : decode cX12_multichains 18 = .ok (.ifCond .ne 7, 3) := by decide +kernel
theorem dX12_multichains_21 : decode cX12_multichains 21 = .ok (.ldc2_w 118, 3) := by decide +kernel
theorem dX12_multichains_24 : decode cX12_multichains 24 = .ok (.lreturn, 1) := by decide +kernel
theorem dX12_multichains_25 : decode cX12_multichains 25 = .ok (.aload_n 0, 1) := by decide +kernel
theorem dX12_multichains_26 : decode cX12_multichains 26 = .ok (.iload_n 1, 1) := by decide +kernel
theorem dX12_multichains_27 : decode cX12_multichains 27 = .ok (.invokevirtual 361, 3) := by decide +kernel
theorem dX12_multichains_30 : decode cX12_multichains 30 = .ok (.iconst 0, 1) := by decide +kernel
theorem dX12_multichains_31 : decode cX12_multichains 31 = .ok (.istore 4, 2) := by decide +kernel
theorem dX12_multichains_33 : decode cX12_multichains 33 = .ok (.iload 4, 2) := by decide +kernel
theorem dX12_multichains_35 : decode cX12_multichains 35 = .ok (.iload_n 3, 1) := by decide +kernel
theorem dX12_multichains_36 : decode cX12_multichains 36 = .ok (.if_icmp .ge 117, 3) := by decide +kernel
theorem dX12_multichains_39 : decode cX12_multichains 39 = .ok (.iconst 0, 1) := by decide +kernel
theorem dX12_multichains_40 : decode cX12_multichains 40 = .ok (.istore 5, 2) := by decide +kernel
theorem dX12_multichains_42 : decode cX12_multichains 42 = .ok (.iload 5, 2) := by decide +kernel
theorem dX12_multichains_44 : decode cX12_multichains 44 = .ok (.aload_n 0, 1) := by decide +kernel
theorem dX12_multichains_45 : decode cX12_multichains 45 = .ok (.invokevirtual 78, 3) := by decide +kernel
theorem dX12_multichains_48 : decode cX12_multichains 48 = .ok (.if_icmp .ge 67, 3) := by decide +kernel
theorem dX12_multichains_51 : decode cX12_multichains 51 = .ok (.aload_n 0, 1) := by decide +kernel
theorem dX12_multichains_52 : decode cX12_multichains 52 = .ok (.getfield 50, 3) := by decide +kernel
theorem dX12_multichains_55 : decode cX12_multichains 55 = .ok (.iload 5, 2) := by decide +kernel
theorem dX12_multichains_57 : decode cX12_multichains 57 = .ok (.lconst 0, 1) := by decide +kernel
theorem dX12_multichains_58 : decode cX12_multichains 58 = .ok (.lastore, 1) := by decide +kernel
theorem dX12_multichains_59 : decode cX12_multichains 59 = .ok (.iconst 0, 1) := by decide +kernel
theorem dX12_multichains_60 : decode cX12_multichains 60 = .ok (.istore 6, 2) := by decide +kernel
theorem dX12_multichains_62 : decode cX12_multichains 62 = .ok (.iload 6, 2) := by decide +kernel
theorem dX12_multichains_64 : decode cX12_multichains 64 = .ok (.aload_n 0, 1) := by decide +kernel
theorem dX12_multichains_65 : decode cX12_multichains 65 = .ok (.invokevirtual 78, 3) := by decide +kernel
theorem dX12_multichains_68 : decode cX12_multichains 68 = .ok (.if_icmp .ge 41, 3) := by decide +kernel
theorem dX12_multichains_71 : decode cX12_multichains 71 = .ok (.aload_n 0, 1) := by decide +kernel
theorem dX12_multichains_72 : decode cX12_multichains 72 = .ok (.getfield 50, 3) := by decide +kernel
theorem dX12_multichains_75 : decode cX12_multichains 75 = .ok (.iload 5, 2) := by decide +kernel
theorem dX12_multichains_77 : decode cX12_multichains 77 = .ok (.dup2, 1) := by decide +kernel
theorem dX12_multichains_78 : decode cX12_multichains 78 = .ok (.laload, 1) := by decide +kernel
theorem dX12_multichains_79 : decode cX12_multichains 79 = .ok (.aload_n 0, 1) := by decide +kernel
theorem dX12_multichains_80 : decode cX12_multichains 80 = .ok (.iload 6, 2) := by decide +kernel
theorem dX12_multichains_82 : decode cX12_multichains 82 = .ok (.iload 5, 2) := by decide +kernel
theorem dX12_multichains_84 : decode cX12_multichains 84 = .ok (.invokevirtual 94, 3) := by decide +kernel
theorem dX12_multichains_87 : decode cX12_multichains 87 = .ok (.ifCond .eq 13, 3) := by decide +kernel
theorem dX12_multichains_90 : decode cX12_multichains 90 = .ok (.aload_n 0, 1) := by decide +kernel
theorem dX12_multichains_91 : decode cX12_multichains 91 = .ok (.getfield 47, 3) := by decide +kernel
theorem dX12_multichains_94 : decode cX12_multichains 94 = .ok (.iload 6, 2) := by decide +kernel
theorem dX12_multichains_96 : decode cX12_multichains 96 = .ok (.laload, 1) := by decide +kernel
theorem dX12_multichains_97 : decode cX12_multichains 97 = .ok (.goto 4, 3) := by decide +kernel
theorem dX12_multichains_100 : decode cX12_multichains 100 = .ok (.lconst 0, 1) := by decide +kernel
theorem dX12_multichains_101 : decode cX12_multichains 101 = .ok (.ladd, 1) := by decide +kernel
theorem dX12_multichains_102 : decode cX12_multichains 102 = .ok (.lastore, 1) := by decide +kernel
theorem dX12_multichains_103 : decode cX12_multichains 103 = .ok (.iinc 6 1, 3) := by decide +kernel
theorem dX12_multichains_106 : decode cX12_multichains 106 = .ok (.goto (-44), 3) := by decide +kernel
theorem dX12_multichains_109 : decode cX12_multichains 109 = .ok (.iinc 5 1, 3) := by decide +kernel
theorem dX12_multichains_112 : decode cX12_multichains 112 = .ok (.goto (-70), 3) := by decide +kernel
theorem dX12_multichains_115 : decode cX12_multichains 115 = .ok (.iconst 0, 1) := by decide +kernel
theorem dX12_multichains_116 : decode cX12_multichains 116 = .ok (.istore 5, 2) := by decide +kernel
theorem dX12_multichains_118 : decode cX12_multichains 118 = .ok (.iload 5, 2) := by decide +kernel
theorem dX12_multichains_120 : decode cX12_multichains 120 = .ok (.aload_n 0, 1) := by decide +kernel
theorem dX12_multichains_121 : decode cX12_multichains 121 = .ok (.invokevirtual 78, 3) := by decide +kernel
theorem dX12_multichains_124 : decode cX12_multichains 124 = .ok (.if_icmp .ge 23, 3) := by decide +kernel
theorem dX12_multichains_127 : decode cX12_multichains 127 = .ok (.aload_n 0, 1) := by decide +kernel
theorem dX12_multichains_128 : decode cX12_multichains 128 = .ok (.getfield 47, 3) := by decide +kernel
theorem dX12_multichains_131 : decode cX12_multichains 131 = .ok (.iload 5, 2) := by decide +kernel
theorem dX12_multichains_133 : decode cX12_multichains 133 = .ok (.aload_n 0, 1) := by decide +kernel
theorem dX12_multichains_134 : decode cX12_multichains 134 = .ok (.getfield 50, 3) := by decide +kernel
theorem dX12_multichains_137 : decode cX12_multichains 137 = .ok (.iload 5, 2) := by decide +kernel
theorem dX12_multichains_139 : decode cX12_multichains 139 = .ok (.laload, 1) := by decide +kernel
theorem dX12_multichains_140 : decode cX12_multichains 140 = .ok (.lastore, 1) := by decide +kernel
theorem dX12_multichains_141 : decode cX12_multichains 141 = .ok (.iinc 5 1, 3) := by decide +kernel
theorem dX12_multichains_144 : decode cX12_multichains 144 = .ok (.goto (-26), 3) := by decide +kernel
theorem dX12_multichains_147 : decode cX12_multichains 147 = .ok (.iinc 4 1, 3) := by decide +kernel
theorem dX12_multichains_150 : decode cX12_multichains 150 = .ok (.goto (-117), 3) := by decide +kernel
theorem dX12_multichains_153 : decode cX12_multichains 153 = .ok (.aload_n 0, 1) := by decide +kernel
theorem dX12_multichains_154 : decode cX12_multichains 154 = .ok (.getfield 47, 3) := by decide +kernel
theorem dX12_multichains_157 : decode cX12_multichains 157 = .ok (.iload_n 2, 1) := by decide +kernel
theorem dX12_multichains_158 : decode cX12_multichains 158 = .ok (.laload, 1) := by decide +kernel
theorem dX12_multichains_159 : decode cX12_multichains 159 = .ok (.lreturn, 1) := by decide +kernel
theorem dX12_isDownSet_0 : decode cX12_isDownSet 0 = .ok (.iconst 0, 1) := by decide +kernel
theorem dX12_isDownSet_1 : decode cX12_isDownSet 1 = .ok (.istore_n 2, 1) := by decide +kernel
theorem dX12_isDownSet_2 : decode cX12_isDownSet 2 = .ok (.iload_n 2, 1) := by decide +kernel
theorem dX12_isDownSet_3 : decode cX12_isDownSet 3 = .ok (.aload_n 0, 1) := by decide +kernel
theorem dX12_isDownSet_4 : decode cX12_isDownSet 4 = .ok (.invokevirtual 78, 3) := by decide +kernel
theorem dX12_isDownSet_7 : decode cX12_isDownSet 7 = .ok (.if_icmp .ge 32, 3) := by decide +kernel
theorem dX12_isDownSet_10 : decode cX12_isDownSet 10 = .ok (.iload_n 1, 1) := by decide +kernel
theorem dX12_isDownSet_11 : decode cX12_isDownSet 11 = .ok (.iload_n 2, 1) := by decide +kernel
theorem dX12_isDownSet_12 : decode cX12_isDownSet 12 = .ok (.invokestatic 90, 3) := by decide +kernel
theorem dX12_isDownSet_15 : decode cX12_isDownSet 15 = .ok (.ifCond .eq 18, 3) := by decide +kernel
theorem dX12_isDownSet_18 : decode cX12_isDownSet 18 = .ok (.aload_n 0, 1) := by decide +kernel
theorem dX12_isDownSet_19 : decode cX12_isDownSet 19 = .ok (.getfield 57, 3) := by decide +kernel
theorem dX12_isDownSet_22 : decode cX12_isDownSet 22 = .ok (.iload_n 2, 1) := by decide +kernel
theorem dX12_isDownSet_23 : decode cX12_isDownSet 23 = .ok (.iaload, 1) := by decide +kernel
theorem dX12_isDownSet_24 : decode cX12_isDownSet 24 = .ok (.iload_n 1, 1) := by decide +kernel
theorem dX12_isDownSet_25 : decode cX12_isDownSet 25 = .ok (.iconst (-1), 1) := by decide +kernel
theorem dX12_isDownSet_26 : decode cX12_isDownSet 26 = .ok (.ixor, 1) := by decide +kernel
theorem dX12_isDownSet_27 : decode cX12_isDownSet 27 = .ok (.iand, 1) := by decide +kernel
theorem dX12_isDownSet_28 : decode cX12_isDownSet 28 = .ok (.ifCond .eq 5, 3) := by decide +kernel
theorem dX12_isDownSet_31 : decode cX12_isDownSet 31 = .ok (.iconst 0, 1) := by decide +kernel
theorem dX12_isDownSet_32 : decode cX12_isDownSet 32 = .ok (.ireturn, 1) := by decide +kernel
theorem dX12_isDownSet_33 : decode cX12_isDownSet 33 = .ok (.iinc 2 1, 3) := by decide +kernel
theorem dX12_isDownSet_36 : decode cX12_isDownSet 36 = .ok (.goto (-34), 3) := by decide +kernel
theorem dX12_isDownSet_39 : decode cX12_isDownSet 39 = .ok (.iconst 1, 1) := by decide +kernel
theorem dX12_isDownSet_40 : decode cX12_isDownSet 40 = .ok (.ireturn, 1) := by decide +kernel
theorem dX12_laysDown_0 : decode cX12_laysDown 0 = .ok (.iconst 0, 1) := by decide +kernel
theorem dX12_laysDown_1 : decode cX12_laysDown 1 = .ok (.istore_n 1, 1) := by decide +kernel
theorem dX12_laysDown_2 : decode cX12_laysDown 2 = .ok (.iload_n 1, 1) := by decide +kernel
theorem dX12_laysDown_3 : decode cX12_laysDown 3 = .ok (.aload_n 0, 1) := by decide +kernel
theorem dX12_laysDown_4 : decode cX12_laysDown 4 = .ok (.invokevirtual 78, 3) := by decide +kernel
theorem dX12_laysDown_7 : decode cX12_laysDown 7 = .ok (.if_icmp .ge 20, 3) := by decide +kernel
theorem dX12_laysDown_10 : decode cX12_laysDown 10 = .ok (.aload_n 0, 1) := by decide +kernel
theorem dX12_laysDown_11 : decode cX12_laysDown 11 = .ok (.getfield 57, 3) := by decide +kernel
theorem dX12_laysDown_14 : decode cX12_laysDown 14 = .ok (.iload_n 1, 1) := by decide +kernel
theorem dX12_laysDown_15 : decode cX12_laysDown 15 = .ok (.aload_n 0, 1) := by decide +kernel
theorem dX12_laysDown_16 : decode cX12_laysDown 16 = .ok (.iload_n 1, 1) := by decide +kernel
theorem dX12_laysDown_17 : decode cX12_laysDown 17 = .ok (.invokevirtual 97, 3) := by decide +kernel
theorem dX12_laysDown_20 : decode cX12_laysDown 20 = .ok (.iastore, 1) := by decide +kernel
theorem dX12_laysDown_21 : decode cX12_laysDown 21 = .ok (.iinc 1 1, 3) := by decide +kernel
theorem dX12_laysDown_24 : decode cX12_laysDown 24 = .ok (.goto (-22), 3) := by decide +kernel
theorem dX12_laysDown_27 : decode cX12_laysDown 27 = .ok (.return_, 1) := by decide +kernel
theorem dX12_downSets_0 : decode cX12_downSets 0 = .ok (.aload_n 0, 1) := by decide +kernel
theorem dX12_downSets_1 : decode cX12_downSets 1 = .ok (.invokevirtual 402, 3) := by decide +kernel
theorem dX12_downSets_4 : decode cX12_downSets 4 = .ok (.lconst 0, 1) := by decide +kernel
theorem dX12_downSets_5 : decode cX12_downSets 5 = .ok (.lstore_n 2, 1) := by decide +kernel
theorem dX12_downSets_6 : decode cX12_downSets 6 = .ok (.iconst 0, 1) := by decide +kernel
theorem dX12_downSets_7 : decode cX12_downSets 7 = .ok (.istore 4, 2) := by decide +kernel
theorem dX12_downSets_9 : decode cX12_downSets 9 = .ok (.iload 4, 2) := by decide +kernel
theorem dX12_downSets_11 : decode cX12_downSets 11 = .ok (.iconst 1, 1) := by decide +kernel
theorem dX12_downSets_12 : decode cX12_downSets 12 = .ok (.aload_n 0, 1) := by decide +kernel
theorem dX12_downSets_13 : decode cX12_downSets 13 = .ok (.invokevirtual 78, 3) := by decide +kernel
theorem dX12_downSets_16 : decode cX12_downSets 16 = .ok (.ishl, 1) := by decide +kernel
theorem dX12_downSets_17 : decode cX12_downSets 17 = .ok (.if_icmp .ge 36, 3) := by decide +kernel
theorem dX12_downSets_20 : decode cX12_downSets 20 = .ok (.iload_n 1, 1) := by decide +kernel
theorem dX12_downSets_21 : decode cX12_downSets 21 = .ok (.iconst (-1), 1) := by decide +kernel
theorem dX12_downSets_22 : decode cX12_downSets 22 = .ok (.if_icmp .eq 12, 3) := by decide +kernel
theorem dX12_downSets_25 : decode cX12_downSets 25 = .ok (.iload 4, 2) := by decide +kernel
theorem dX12_downSets_27 : decode cX12_downSets 27 = .ok (.invokestatic 111, 3) := by decide +kernel
theorem dX12_downSets_30 : decode cX12_downSets 30 = .ok (.iload_n 1, 1) := by decide +kernel
theorem dX12_downSets_31 : decode cX12_downSets 31 = .ok (.if_icmp .ne 16, 3) := by decide +kernel
theorem dX12_downSets_34 : decode cX12_downSets 34 = .ok (.aload_n 0, 1) := by decide +kernel
theorem dX12_downSets_35 : decode cX12_downSets 35 = .ok (.iload 4, 2) := by decide +kernel
theorem dX12_downSets_37 : decode cX12_downSets 37 = .ok (.invokevirtual 405, 3) := by decide +kernel
theorem dX12_downSets_40 : decode cX12_downSets 40 = .ok (.ifCond .eq 7, 3) := by decide +kernel
theorem dX12_downSets_43 : decode cX12_downSets 43 = .ok (.lload_n 2, 1) := by decide +kernel
theorem dX12_downSets_44 : decode cX12_downSets 44 = .ok (.lconst 1, 1) := by decide +kernel
theorem dX12_downSets_45 : decode cX12_downSets 45 = .ok (.ladd, 1) := by decide +kernel
theorem dX12_downSets_46 : decode cX12_downSets 46 = .ok (.lstore_n 2, 1) := by decide +kernel
theorem dX12_downSets_47 : decode cX12_downSets 47 = .ok (.iinc 4 1, 3) := by decide +kernel
theorem dX12_downSets_50 : decode cX12_downSets 50 = .ok (.goto (-41), 3) := by decide +kernel
theorem dX12_downSets_53 : decode cX12_downSets 53 = .ok (.lload_n 2, 1) := by decide +kernel
theorem dX12_downSets_54 : decode cX12_downSets 54 = .ok (.lreturn, 1) := by decide +kernel
theorem dX12_extensions_0 : decode cX12_extensions 0 = .ok (.aload_n 0, 1) := by decide +kernel
theorem dX12_extensions_1 : decode cX12_extensions 1 = .ok (.invokevirtual 402, 3) := by decide +kernel
theorem dX12_extensions_4 : decode cX12_extensions 4 = .ok (.aload_n 0, 1) := by decide +kernel
theorem dX12_extensions_5 : decode cX12_extensions 5 = .ok (.getfield 54, 3) := by decide +kernel
theorem dX12_extensions_8 : decode cX12_extensions 8 = .ok (.iconst 0, 1) := by decide +kernel
theorem dX12_extensions_9 : decode cX12_extensions 9 = .ok (.lconst 1, 1) := by decide +kernel
theorem dX12_extensions_10 : decode cX12_extensions 10 = .ok (.lastore, 1) := by decide +kernel
theorem dX12_extensions_11 : decode cX12_extensions 11 = .ok (.iconst 1, 1) := by decide +kernel
theorem dX12_extensions_12 : decode cX12_extensions 12 = .ok (.istore_n 1, 1) := by decide +kernel
theorem dX12_extensions_13 : decode cX12_extensions 13 = .ok (.iload_n 1, 1) := by decide +kernel
theorem dX12_extensions_14 : decode cX12_extensions 14 = .ok (.iconst 1, 1) := by decide +kernel
theorem dX12_extensions_15 : decode cX12_extensions 15 = .ok (.aload_n 0, 1) := by decide +kernel
theorem dX12_extensions_16 : decode cX12_extensions 16 = .ok (.invokevirtual 78, 3) := by decide +kernel
theorem dX12_extensions_19 : decode cX12_extensions 19 = .ok (.ishl, 1) := by decide +kernel
theorem dX12_extensions_20 : decode cX12_extensions 20 = .ok (.if_icmp .ge 72, 3) := by decide +kernel
theorem dX12_extensions_23 : decode cX12_extensions 23 = .ok (.aload_n 0, 1) := by decide +kernel
theorem dX12_extensions_24 : decode cX12_extensions 24 = .ok (.getfield 54, 3) := by decide +kernel
theorem dX12_extensions_27 : decode cX12_extensions 27 = .ok (.iload_n 1, 1) := by decide +kernel
theorem dX12_extensions_28 : decode cX12_extensions 28 = .ok (.lconst 0, 1) := by decide +kernel
theorem dX12_extensions_29 : decode cX12_extensions 29 = .ok (.lastore, 1) := by decide +kernel
theorem dX12_extensions_30 : decode cX12_extensions 30 = .ok (.aload_n 0, 1) := by decide +kernel
theorem dX12_extensions_31 : decode cX12_extensions 31 = .ok (.iload_n 1, 1) := by decide +kernel
theorem dX12_extensions_32 : decode cX12_extensions 32 = .ok (.invokevirtual 405, 3) := by decide +kernel
theorem dX12_extensions_35 : decode cX12_extensions 35 = .ok (.ifCond .ne 6, 3) := by decide +kernel
theorem dX12_extensions_38 : decode cX12_extensions 38 = .ok (.goto 48, 3) := by decide +kernel
theorem dX12_extensions_41 : decode cX12_extensions 41 = .ok (.iconst 0, 1) := by decide +kernel
theorem dX12_extensions_42 : decode cX12_extensions 42 = .ok (.istore_n 2, 1) := by decide +kernel
theorem dX12_extensions_43 : decode cX12_extensions 43 = .ok (.iload_n 2, 1) := by decide +kernel
theorem dX12_extensions_44 : decode cX12_extensions 44 = .ok (.aload_n 0, 1) := by decide +kernel
theorem dX12_extensions_45 : decode cX12_extensions 45 = .ok (.invokevirtual 78, 3) := by decide +kernel
theorem dX12_extensions_48 : decode cX12_extensions 48 = .ok (.if_icmp .ge 38, 3) := by decide +kernel
theorem dX12_extensions_51 : decode cX12_extensions 51 = .ok (.iload_n 1, 1) := by decide +kernel
theorem dX12_extensions_52 : decode cX12_extensions 52 = .ok (.iload_n 2, 1) := by decide +kernel
theorem dX12_extensions_53 : decode cX12_extensions 53 = .ok (.invokestatic 90, 3) := by decide +kernel
theorem dX12_extensions_56 : decode cX12_extensions 56 = .ok (.ifCond .eq 24, 3) := by decide +kernel
theorem dX12_extensions_59 : decode cX12_extensions 59 = .ok (.aload_n 0, 1) := by decide +kernel
theorem dX12_extensions_60 : decode cX12_extensions 60 = .ok (.getfield 54, 3) := by decide +kernel
theorem dX12_extensions_63 : decode cX12_extensions 63 = .ok (.iload_n 1, 1) := by decide +kernel
theorem dX12_extensions_64 : decode cX12_extensions 64 = .ok (.dup2, 1) := by decide +kernel
theorem dX12_extensions_65 : decode cX12_extensions 65 = .ok (.laload, 1) := by decide +kernel
theorem dX12_extensions_66 : decode cX12_extensions 66 = .ok (.aload_n 0, 1) := by decide +kernel
theorem dX12_extensions_67 : decode cX12_extensions 67 = .ok (.getfield 54, 3) := by decide +kernel
theorem dX12_extensions_70 : decode cX12_extensions 70 = .ok (.iload_n 1, 1) := by decide +kernel
theorem dX12_extensions_71 : decode cX12_extensions 71 = .ok (.iconst 1, 1) := by decide +kernel
theorem dX12_extensions_72 : decode cX12_extensions 72 = .ok (.iload_n 2, 1) := by decide +kernel
theorem dX12_extensions_73 : decode cX12_extensions 73 = .ok (.ishl, 1) := by decide +kernel
theorem dX12_extensions_74 : decode cX12_extensions 74 = .ok (.iconst (-1), 1) := by decide +kernel
theorem dX12_extensions_75 : decode cX12_extensions 75 = .ok (.ixor, 1) := by decide +kernel
theorem dX12_extensions_76 : decode cX12_extensions 76 = .ok (.iand, 1) := by decide +kernel
theorem dX12_extensions_77 : decode cX12_extensions 77 = .ok (.laload, 1) := by decide +kernel
theorem dX12_extensions_78 : decode cX12_extensions 78 = .ok (.ladd, 1) := by decide +kernel
theorem dX12_extensions_79 : decode cX12_extensions 79 = .ok (.lastore, 1) := by decide +kernel
theorem dX12_extensions_80 : decode cX12_extensions 80 = .ok (.iinc 2 1, 3) := by decide +kernel
theorem dX12_extensions_83 : decode cX12_extensions 83 = .ok (.goto (-40), 3) := by decide +kernel
theorem dX12_extensions_86 : decode cX12_extensions 86 = .ok (.iinc 1 1, 3) := by decide +kernel
theorem dX12_extensions_89 : decode cX12_extensions 89 = .ok (.goto (-76), 3) := by decide +kernel
theorem dX12_extensions_92 : decode cX12_extensions 92 = .ok (.aload_n 0, 1) := by decide +kernel
theorem dX12_extensions_93 : decode cX12_extensions 93 = .ok (.getfield 54, 3) := by decide +kernel
theorem dX12_extensions_96 : decode cX12_extensions 96 = .ok (.iconst 1, 1) := by decide +kernel
theorem dX12_extensions_97 : decode cX12_extensions 97 = .ok (.aload_n 0, 1) := by decide +kernel
theorem dX12_extensions_98 : decode cX12_extensions 98 = .ok (.invokevirtual 78, 3) := by decide +kernel
theorem dX12_extensions_101 : decode cX12_extensions 101 = .ok (.ishl, 1) := by decide +kernel
theorem dX12_extensions_102 : decode cX12_extensions 102 = .ok (.iconst 1, 1) := by decide +kernel
theorem dX12_extensions_103 : decode cX12_extensions 103 = .ok (.isub, 1) := by decide +kernel
theorem dX12_extensions_104 : decode cX12_extensions 104 = .ok (.laload, 1) := by decide +kernel
theorem dX12_extensions_105 : decode cX12_extensions 105 = .ok (.lreturn, 1) := by decide +kernel
theorem dX12_sets_0 : decode cX12_sets 0 = .ok (.iload_n 1, 1) := by decide +kernel
theorem dX12_sets_1 : decode cX12_sets 1 = .ok (.tableswitch 64 0 2 #[27, 33, 38], 27) := by decide +kernel
theorem dX12_sets_28 : decode cX12_sets 28 = .ok (.aload_n 0, 1) := by decide +kernel
theorem dX12_sets_29 : decode cX12_sets 29 = .ok (.iconst (-1), 1) := by decide +kernel
theorem dX12_sets_30 : decode cX12_sets 30 = .ok (.invokevirtual 408, 3) := by decide +kernel
theorem dX12_sets_33 : decode cX12_sets 33 = .ok (.lreturn, 1) := by decide +kernel
theorem dX12_sets_34 : decode cX12_sets 34 = .ok (.aload_n 0, 1) := by decide +kernel
theorem dX12_sets_35 : decode cX12_sets 35 = .ok (.invokevirtual 412, 3) := by decide +kernel
theorem dX12_sets_38 : decode cX12_sets 38 = .ok (.lreturn, 1) := by decide +kernel
theorem dX12_sets_39 : decode cX12_sets 39 = .ok (.iload_n 2, 1) := by decide +kernel
theorem dX12_sets_40 : decode cX12_sets 40 = .ok (.i2l, 1) := by decide +kernel
theorem dX12_sets_41 : decode cX12_sets 41 = .ok (.lconst 0, 1) := by decide +kernel
theorem dX12_sets_42 : decode cX12_sets 42 = .ok (.aload_n 0, 1) := by decide +kernel
theorem dX12_sets_43 : decode cX12_sets 43 = .ok (.invokevirtual 78, 3) := by decide +kernel
theorem dX12_sets_46 : decode cX12_sets 46 = .ok (.i2l, 1) := by decide +kernel
theorem dX12_sets_47 : decode cX12_sets 47 = .ok (.invokestatic 82, 3) := by decide +kernel
theorem dX12_sets_50 : decode cX12_sets 50 = .ok (.ifCond .eq 11, 3) := by decide +kernel
theorem dX12_sets_53 : decode cX12_sets 53 = .ok (.aload_n 0, 1) := by decide +kernel
theorem dX12_sets_54 : decode cX12_sets 54 = .ok (.iload_n 2, 1) := by decide +kernel
theorem dX12_sets_55 : decode cX12_sets 55 = .ok (.invokevirtual 408, 3) := by decide +kernel
theorem dX12_sets_58 : decode cX12_sets 58 = .ok (.goto 6, 3) := by decide +kernel
theorem dX12_sets_61 : decode cX12_sets 61 = .ok (.ldc2_w 118, 3) := by decide +kernel
theorem dX12_sets_64 : decode cX12_sets 64 = .ok (.lreturn, 1) := by decide +kernel
theorem dX12_sets_65 : decode cX12_sets 65 = .ok (.ldc2_w 118, 3) := by decide +kernel
theorem dX12_sets_68 : decode cX12_sets 68 = .ok (.lreturn, 1) := by decide +kernel
theorem dX12_belowIn_0 : decode cX12_belowIn 0 = .ok (.aload_n 0, 1) := by decide +kernel
theorem dX12_belowIn_1 : decode cX12_belowIn 1 = .ok (.iload_n 2, 1) := by decide +kernel
theorem dX12_belowIn_2 : decode cX12_belowIn 2 = .ok (.invokevirtual 97, 3) := by decide +kernel
theorem dX12_belowIn_5 : decode cX12_belowIn 5 = .ok (.iload_n 1, 1) := by decide +kernel
theorem dX12_belowIn_6 : decode cX12_belowIn 6 = .ok (.iand, 1) := by decide +kernel
theorem dX12_belowIn_7 : decode cX12_belowIn 7 = .ok (.invokestatic 111, 3) := by decide +kernel
theorem dX12_belowIn_10 : decode cX12_belowIn 10 = .ok (.ireturn, 1) := by decide +kernel
theorem dX12_aboveIn_0 : decode cX12_aboveIn 0 = .ok (.aload_n 0, 1) := by decide +kernel
theorem dX12_aboveIn_1 : decode cX12_aboveIn 1 = .ok (.iload_n 2, 1) := by decide +kernel
theorem dX12_aboveIn_2 : decode cX12_aboveIn 2 = .ok (.invokevirtual 86, 3) := by decide +kernel
theorem dX12_aboveIn_5 : decode cX12_aboveIn 5 = .ok (.iload_n 1, 1) := by decide +kernel
theorem dX12_aboveIn_6 : decode cX12_aboveIn 6 = .ok (.iand, 1) := by decide +kernel
theorem dX12_aboveIn_7 : decode cX12_aboveIn 7 = .ok (.invokestatic 111, 3) := by decide +kernel
theorem dX12_aboveIn_10 : decode cX12_aboveIn 10 = .ok (.ireturn, 1) := by decide +kernel
theorem dX12_fits_0 : decode cX12_fits 0 = .ok (.aload_n 0, 1) := by decide +kernel
theorem dX12_fits_1 : decode cX12_fits 1 = .ok (.getfield 66, 3) := by decide +kernel
theorem dX12_fits_4 : decode cX12_fits 4 = .ok (.iload_n 1, 1) := by decide +kernel
theorem dX12_fits_5 : decode cX12_fits 5 = .ok (.iaload, 1) := by decide +kernel
theorem dX12_fits_6 : decode cX12_fits 6 = .ok (.istore_n 3, 1) := by decide +kernel
theorem dX12_fits_7 : decode cX12_fits 7 = .ok (.aload_n 0, 1) := by decide +kernel
theorem dX12_fits_8 : decode cX12_fits 8 = .ok (.aload_n 0, 1) := by decide +kernel
theorem dX12_fits_9 : decode cX12_fits 9 = .ok (.getfield 416, 3) := by decide +kernel
theorem dX12_fits_12 : decode cX12_fits 12 = .ok (.iload_n 3, 1) := by decide +kernel
theorem dX12_fits_13 : decode cX12_fits 13 = .ok (.invokevirtual 419, 3) := by decide +kernel
theorem dX12_fits_16 : decode cX12_fits 16 = .ok (.aload_n 0, 1) := by decide +kernel
theorem dX12_fits_17 : decode cX12_fits 17 = .ok (.aload_n 0, 1) := by decide +kernel
theorem dX12_fits_18 : decode cX12_fits 18 = .ok (.getfield 422, 3) := by decide +kernel
theorem dX12_fits_21 : decode cX12_fits 21 = .ok (.iload_n 2, 1) := by decide +kernel
theorem dX12_fits_22 : decode cX12_fits 22 = .ok (.invokevirtual 419, 3) := by decide +kernel
theorem dX12_fits_25 : decode cX12_fits 25 = .ok (.if_icmp .ne 24, 3) := by decide +kernel
theorem dX12_fits_28 : decode cX12_fits 28 = .ok (.aload_n 0, 1) := by decide +kernel
theorem dX12_fits_29 : decode cX12_fits 29 = .ok (.aload_n 0, 1) := by decide +kernel
theorem dX12_fits_30 : decode cX12_fits 30 = .ok (.getfield 416, 3) := by decide +kernel
theorem dX12_fits_33 : decode cX12_fits 33 = .ok (.iload_n 3, 1) := by decide +kernel
theorem dX12_fits_34 : decode cX12_fits 34 = .ok (.invokevirtual 425, 3) := by decide +kernel
theorem dX12_fits_37 : decode cX12_fits 37 = .ok (.aload_n 0, 1) := by decide +kernel
theorem dX12_fits_38 : decode cX12_fits 38 = .ok (.aload_n 0, 1) := by decide +kernel
theorem dX12_fits_39 : decode cX12_fits 39 = .ok (.getfield 422, 3) := by decide +kernel
theorem dX12_fits_42 : decode cX12_fits 42 = .ok (.iload_n 2, 1) := by decide +kernel
theorem dX12_fits_43 : decode cX12_fits 43 = .ok (.invokevirtual 425, 3) := by decide +kernel
theorem dX12_fits_46 : decode cX12_fits 46 = .ok (.if_icmp .eq 5, 3) := by decide +kernel
theorem dX12_fits_49 : decode cX12_fits 49 = .ok (.iconst 0, 1) := by decide +kernel
theorem dX12_fits_50 : decode cX12_fits 50 = .ok (.ireturn, 1) := by decide +kernel
theorem dX12_fits_51 : decode cX12_fits 51 = .ok (.iconst 0, 1) := by decide +kernel
theorem dX12_fits_52 : decode cX12_fits 52 = .ok (.istore 4, 2) := by decide +kernel
theorem dX12_fits_54 : decode cX12_fits 54 = .ok (.iload 4, 2) := by decide +kernel
theorem dX12_fits_56 : decode cX12_fits 56 = .ok (.iload_n 1, 1) := by decide +kernel
theorem dX12_fits_57 : decode cX12_fits 57 = .ok (.if_icmp .ge 65, 3) := by decide +kernel
theorem dX12_fits_60 : decode cX12_fits 60 = .ok (.aload_n 0, 1) := by decide +kernel
theorem dX12_fits_61 : decode cX12_fits 61 = .ok (.aload_n 0, 1) := by decide +kernel
theorem dX12_fits_62 : decode cX12_fits 62 = .ok (.getfield 66, 3) := by decide +kernel
theorem dX12_fits_65 : decode cX12_fits 65 = .ok (.iload 4, 2) := by decide +kernel
theorem dX12_fits_67 : decode cX12_fits 67 = .ok (.iaload, 1) := by decide +kernel
theorem dX12_fits_68 : decode cX12_fits 68 = .ok (.iload_n 3, 1) := by decide +kernel
theorem dX12_fits_69 : decode cX12_fits 69 = .ok (.invokevirtual 94, 3) := by decide +kernel
theorem dX12_fits_72 : decode cX12_fits 72 = .ok (.aload_n 0, 1) := by decide +kernel
theorem dX12_fits_73 : decode cX12_fits 73 = .ok (.aload_n 0, 1) := by decide +kernel
theorem dX12_fits_74 : decode cX12_fits 74 = .ok (.getfield 69, 3) := by decide +kernel
theorem dX12_fits_77 : decode cX12_fits 77 = .ok (.iload 4, 2) := by decide +kernel
theorem dX12_fits_79 : decode cX12_fits 79 = .ok (.iaload, 1) := by decide +kernel
theorem dX12_fits_80 : decode cX12_fits 80 = .ok (.iload_n 2, 1) := by decide +kernel
theorem dX12_fits_81 : decode cX12_fits 81 = .ok (.invokevirtual 94, 3) := by decide +kernel
theorem dX12_fits_84 : decode cX12_fits 84 = .ok (.if_icmp .ne 30, 3) := by decide +kernel
theorem dX12_fits_87 : decode cX12_fits 87 = .ok (.aload_n 0, 1) := by decide +kernel
theorem dX12_fits_88 : decode cX12_fits 88 = .ok (.iload_n 3, 1) := by decide +kernel
theorem dX12_fits_89 : decode cX12_fits 89 = .ok (.aload_n 0, 1) := by decide +kernel
theorem dX12_fits_90 : decode cX12_fits 90 = .ok (.getfield 66, 3) := by decide +kernel
theorem dX12_fits_93 : decode cX12_fits 93 = .ok (.iload 4, 2) := by decide +kernel
theorem dX12_fits_95 : decode cX12_fits 95 = .ok (.iaload, 1) := by decide +kernel
theorem dX12_fits_96 : decode cX12_fits 96 = .ok (.invokevirtual 94, 3) := by decide +kernel
theorem dX12_fits_99 : decode cX12_fits 99 = .ok (.aload_n 0, 1) := by decide +kernel
theorem dX12_fits_100 : decode cX12_fits 100 = .ok (.iload_n 2, 1) := by decide +kernel
theorem dX12_fits_101 : decode cX12_fits 101 = .ok (.aload_n 0, 1) := by decide +kernel
theorem dX12_fits_102 : decode cX12_fits 102 = .ok (.getfield 69, 3) := by decide +kernel
theorem dX12_fits_105 : decode cX12_fits 105 = .ok (.iload 4, 2) := by decide +kernel
theorem dX12_fits_107 : decode cX12_fits 107 = .ok (.iaload, 1) := by decide +kernel
theorem dX12_fits_108 : decode cX12_fits 108 = .ok (.invokevirtual 94, 3) := by decide +kernel
theorem dX12_fits_111 : decode cX12_fits 111 = .ok (.if_icmp .eq 5, 3) := by decide +kernel
theorem dX12_fits_114 : decode cX12_fits 114 = .ok (.iconst 0, 1) := by decide +kernel
theorem dX12_fits_115 : decode cX12_fits 115 = .ok (.ireturn, 1) := by decide +kernel
theorem dX12_fits_116 : decode cX12_fits 116 = .ok (.iinc 4 1, 3) := by decide +kernel
theorem dX12_fits_119 : decode cX12_fits 119 = .ok (.goto (-65), 3) := by decide +kernel
theorem dX12_fits_122 : decode cX12_fits 122 = .ok (.iconst 1, 1) := by decide +kernel
theorem dX12_fits_123 : decode cX12_fits 123 = .ok (.ireturn, 1) := by decide +kernel
theorem dX12_pairsOn_0 : decode cX12_pairsOn 0 = .ok (.iload_n 2, 1) := by decide +kernel
theorem dX12_pairsOn_1 : decode cX12_pairsOn 1 = .ok (.ifCond .ne 5, 3) := by decide +kernel
theorem dX12_pairsOn_4 : decode cX12_pairsOn 4 = .ok (.iconst 1, 1) := by decide +kernel
theorem dX12_pairsOn_5 : decode cX12_pairsOn 5 = .ok (.ireturn, 1) := by decide +kernel
theorem dX12_pairsOn_6 : decode cX12_pairsOn 6 = .ok (.iconst 0, 1) := by decide +kernel
theorem dX12_pairsOn_7 : decode cX12_pairsOn 7 = .ok (.istore_n 3, 1) := by decide +kernel
theorem dX12_pairsOn_8 : decode cX12_pairsOn 8 = .ok (.iload_n 3, 1) := by decide +kernel
theorem dX12_pairsOn_9 : decode cX12_pairsOn 9 = .ok (.aload_n 0, 1) := by decide +kernel
theorem dX12_pairsOn_10 : decode cX12_pairsOn 10 = .ok (.invokevirtual 78, 3) := by decide +kernel
theorem dX12_pairsOn_13 : decode cX12_pairsOn 13 = .ok (.if_icmp .ge 55, 3) := by decide +kernel
theorem dX12_pairsOn_16 : decode cX12_pairsOn 16 = .ok (.iload_n 2, 1) := by decide +kernel
theorem dX12_pairsOn_17 : decode cX12_pairsOn 17 = .ok (.iload_n 3, 1) := by decide +kernel
theorem dX12_pairsOn_18 : decode cX12_pairsOn 18 = .ok (.invokestatic 90, 3) := by decide +kernel
theorem dX12_pairsOn_21 : decode cX12_pairsOn 21 = .ok (.ifCond .eq 41, 3) := by decide +kernel
theorem dX12_pairsOn_24 : decode cX12_pairsOn 24 = .ok (.aload_n 0, 1) := by decide +kernel
theorem dX12_pairsOn_25 : decode cX12_pairsOn 25 = .ok (.iload_n 1, 1) := by decide +kernel
theorem dX12_pairsOn_26 : decode cX12_pairsOn 26 = .ok (.iload_n 3, 1) := by decide +kernel
theorem dX12_pairsOn_27 : decode cX12_pairsOn 27 = .ok (.invokevirtual 428, 3) := by decide +kernel
theorem dX12_pairsOn_30 : decode cX12_pairsOn 30 = .ok (.ifCond .ne 6, 3) := by decide +kernel
theorem dX12_pairsOn_33 : decode cX12_pairsOn 33 = .ok (.goto 29, 3) := by decide +kernel
theorem dX12_pairsOn_36 : decode cX12_pairsOn 36 = .ok (.aload_n 0, 1) := by decide +kernel
theorem dX12_pairsOn_37 : decode cX12_pairsOn 37 = .ok (.getfield 69, 3) := by decide +kernel
theorem dX12_pairsOn_40 : decode cX12_pairsOn 40 = .ok (.iload_n 1, 1) := by decide +kernel
theorem dX12_pairsOn_41 : decode cX12_pairsOn 41 = .ok (.iload_n 3, 1) := by decide +kernel
theorem dX12_pairsOn_42 : decode cX12_pairsOn 42 = .ok (.iastore, 1) := by decide +kernel
theorem dX12_pairsOn_43 : decode cX12_pairsOn 43 = .ok (.aload_n 0, 1) := by decide +kernel
theorem dX12_pairsOn_44 : decode cX12_pairsOn 44 = .ok (.iload_n 1, 1) := by decide +kernel
theorem dX12_pairsOn_45 : decode cX12_pairsOn 45 = .ok (.iconst 1, 1) := by decide +kernel
theorem dX12_pairsOn_46 : decode cX12_pairsOn 46 = .ok (.iadd, 1) := by decide +kernel
theorem dX12_pairsOn_47 : decode cX12_pairsOn 47 = .ok (.iload_n 2, 1) := by decide +kernel
theorem dX12_pairsOn_48 : decode cX12_pairsOn 48 = .ok (.iconst 1, 1) := by decide +kernel
theorem dX12_pairsOn_49 : decode cX12_pairsOn 49 = .ok (.iload_n 3, 1) := by decide +kernel
theorem dX12_pairsOn_50 : decode cX12_pairsOn 50 = .ok (.ishl, 1) := by decide +kernel
theorem dX12_pairsOn_51 : decode cX12_pairsOn 51 = .ok (.iconst (-1), 1) := by decide +kernel
theorem dX12_pairsOn_52 : decode cX12_pairsOn 52 = .ok (.ixor, 1) := by decide +kernel
theorem dX12_pairsOn_53 : decode cX12_pairsOn 53 = .ok (.iand, 1) := by decide +kernel
theorem dX12_pairsOn_54 : decode cX12_pairsOn 54 = .ok (.invokevirtual 431, 3) := by decide +kernel
theorem dX12_pairsOn_57 : decode cX12_pairsOn 57 = .ok (.ifCond .eq 5, 3) := by decide +kernel
theorem dX12_pairsOn_60 : decode cX12_pairsOn 60 = .ok (.iconst 1, 1) := by decide +kernel
theorem dX12_pairsOn_61 : decode cX12_pairsOn 61 = .ok (.ireturn, 1) := by decide +kernel
theorem dX12_pairsOn_62 : decode cX12_pairsOn 62 = .ok (.iinc 3 1, 3) := by decide +kernel
theorem dX12_pairsOn_65 : decode cX12_pairsOn 65 = .ok (.goto (-57), 3) := by decide +kernel
theorem dX12_pairsOn_68 : decode cX12_pairsOn 68 = .ok (.iconst 0, 1) := by decide +kernel
theorem dX12_pairsOn_69 : decode cX12_pairsOn 69 = .ok (.ireturn, 1) := by decide +kernel
theorem dX12_areAlike_0 : decode cX12_areAlike 0 = .ok (.iload_n 1, 1) := by decide +kernel
theorem dX12_areAlike_1 : decode cX12_areAlike 1 = .ok (.invokestatic 111, 3) := by decide +kernel
theorem dX12_areAlike_4 : decode cX12_areAlike 4 = .ok (.iload_n 2, 1) := by decide +kernel
theorem dX12_areAlike_5 : decode cX12_areAlike 5 = .ok (.invokestatic 111, 3) := by decide +kernel
theorem dX12_areAlike_8 : decode cX12_areAlike 8 = .ok (.if_icmp .eq 5, 3) := by decide +kernel
theorem dX12_areAlike_11 : decode cX12_areAlike 11 = .ok (.iconst 0, 1) := by decide +kernel
theorem dX12_areAlike_12 : decode cX12_areAlike 12 = .ok (.ireturn, 1) := by decide +kernel
theorem dX12_areAlike_13 : decode cX12_areAlike 13 = .ok (.aload_n 0, 1) := by decide +kernel
theorem dX12_areAlike_14 : decode cX12_areAlike 14 = .ok (.iload_n 1, 1) := by decide +kernel
theorem dX12_areAlike_15 : decode cX12_areAlike 15 = .ok (.putfield 416, 3) := by decide +kernel
theorem dX12_areAlike_18 : decode cX12_areAlike 18 = .ok (.aload_n 0, 1) := by decide +kernel
theorem dX12_areAlike_19 : decode cX12_areAlike 19 = .ok (.iload_n 2, 1) := by decide +kernel
theorem dX12_areAlike_20 : decode cX12_areAlike 20 = .ok (.putfield 422, 3) := by decide +kernel
theorem dX12_areAlike_23 : decode cX12_areAlike 23 = .ok (.iconst 0, 1) := by decide +kernel
theorem dX12_areAlike_24 : decode cX12_areAlike 24 = .ok (.istore_n 3, 1) := by decide +kernel
theorem dX12_areAlike_25 : decode cX12_areAlike 25 = .ok (.iconst 0, 1) := by decide +kernel
theorem dX12_areAlike_26 : decode cX12_areAlike 26 = .ok (.istore 4, 2) := by decide +kernel
theorem dX12_areAlike_28 : decode cX12_areAlike 28 = .ok (.iload 4, 2) := by decide +kernel
theorem dX12_areAlike_30 : decode cX12_areAlike 30 = .ok (.aload_n 0, 1) := by decide +kernel
theorem dX12_areAlike_31 : decode cX12_areAlike 31 = .ok (.invokevirtual 78, 3) := by decide +kernel
theorem dX12_areAlike_34 : decode cX12_areAlike 34 = .ok (.if_icmp .ge 32, 3) := by decide +kernel
theorem dX12_areAlike_37 : decode cX12_areAlike 37 = .ok (.iload_n 1, 1) := by decide +kernel
theorem dX12_areAlike_38 : decode cX12_areAlike 38 = .ok (.iload 4, 2) := by decide +kernel
theorem dX12_areAlike_40 : decode cX12_areAlike 40 = .ok (.invokestatic 90, 3) := by decide +kernel
theorem dX12_areAlike_43 : decode cX12_areAlike 43 = .ok (.ifCond .ne 6, 3) := by decide +kernel
theorem dX12_areAlike_46 : decode cX12_areAlike 46 = .ok (.goto 14, 3) := by decide +kernel
theorem dX12_areAlike_49 : decode cX12_areAlike 49 = .ok (.aload_n 0, 1) := by decide +kernel
theorem dX12_areAlike_50 : decode cX12_areAlike 50 = .ok (.getfield 66, 3) := by decide +kernel
theorem dX12_areAlike_53 : decode cX12_areAlike 53 = .ok (.iload_n 3, 1) := by decide +kernel
theorem dX12_areAlike_54 : decode cX12_areAlike 54 = .ok (.iload 4, 2) := by decide +kernel
theorem dX12_areAlike_56 : decode cX12_areAlike 56 = .ok (.iastore, 1) := by decide +kernel
theorem dX12_areAlike_57 : decode cX12_areAlike 57 = .ok (.iinc 3 1, 3) := by decide +kernel
theorem dX12_areAlike_60 : decode cX12_areAlike 60 = .ok (.iinc 4 1, 3) := by decide +kernel
theorem dX12_areAlike_63 : decode cX12_areAlike 63 = .ok (.goto (-35), 3) := by decide +kernel
theorem dX12_areAlike_66 : decode cX12_areAlike 66 = .ok (.aload_n 0, 1) := by decide +kernel
theorem dX12_areAlike_67 : decode cX12_areAlike 67 = .ok (.iconst 0, 1) := by decide +kernel
theorem dX12_areAlike_68 : decode cX12_areAlike 68 = .ok (.iload_n 2, 1) := by decide +kernel
theorem dX12_areAlike_69 : decode cX12_areAlike 69 = .ok (.invokevirtual 431, 3) := by decide +kernel
theorem dX12_areAlike_72 : decode cX12_areAlike 72 = .ok (.ireturn, 1) := by decide +kernel
theorem dX12_laysTypes_0 : decode cX12_laysTypes 0 = .ok (.aload_n 0, 1) := by decide +kernel
theorem dX12_laysTypes_1 : decode cX12_laysTypes 1 = .ok (.getfield 114, 3) := by decide +kernel
theorem dX12_laysTypes_4 : decode cX12_laysTypes 4 = .ok (.ifCond .eq 4, 3) := by decide +kernel
theorem dX12_laysTypes_7 : decode cX12_laysTypes 7 = .ok (.return_, 1) := by decide +kernel
theorem dX12_laysTypes_8 : decode cX12_laysTypes 8 = .ok (.aload_n 0, 1) := by decide +kernel
theorem dX12_laysTypes_9 : decode cX12_laysTypes 9 = .ok (.iconst 1, 1) := by decide +kernel
theorem dX12_laysTypes_10 : decode cX12_laysTypes 10 = .ok (.putfield 114, 3) := by decide +kernel
theorem dX12_laysTypes_13 : decode cX12_laysTypes 13 = .ok (.aload_n 0, 1) := by decide +kernel
theorem dX12_laysTypes_14 : decode cX12_laysTypes 14 = .ok (.iconst 0, 1) := by decide +kernel
theorem dX12_laysTypes_15 : decode cX12_laysTypes 15 = .ok (.putfield 434, 3) := by decide +kernel
theorem dX12_laysTypes_18 : decode cX12_laysTypes 18 = .ok (.iconst 0, 1) := by decide +kernel
theorem dX12_laysTypes_19 : decode cX12_laysTypes 19 = .ok (.istore_n 1, 1) := by decide +kernel
theorem dX12_laysTypes_20 : decode cX12_laysTypes 20 = .ok (.iload_n 1, 1) := by decide +kernel
theorem dX12_laysTypes_21 : decode cX12_laysTypes 21 = .ok (.aload_n 0, 1) := by decide +kernel
theorem dX12_laysTypes_22 : decode cX12_laysTypes 22 = .ok (.invokevirtual 78, 3) := by decide +kernel
theorem dX12_laysTypes_25 : decode cX12_laysTypes 25 = .ok (.if_icmp .ge 133, 3) := by decide +kernel
theorem dX12_laysTypes_28 : decode cX12_laysTypes 28 = .ok (.iconst 0, 1) := by decide +kernel
theorem dX12_laysTypes_29 : decode cX12_laysTypes 29 = .ok (.istore_n 2, 1) := by decide +kernel
theorem dX12_laysTypes_30 : decode cX12_laysTypes 30 = .ok (.iload_n 2, 1) := by decide +kernel
theorem dX12_laysTypes_31 : decode cX12_laysTypes 31 = .ok (.aload_n 0, 1) := by decide +kernel
theorem dX12_laysTypes_32 : decode cX12_laysTypes 32 = .ok (.invokevirtual 78, 3) := by decide +kernel
theorem dX12_laysTypes_35 : decode cX12_laysTypes 35 = .ok (.if_icmp .ge 117, 3) := by decide +kernel
theorem dX12_laysTypes_38 : decode cX12_laysTypes 38 = .ok (.aload_n 0, 1) := by decide +kernel
theorem dX12_laysTypes_39 : decode cX12_laysTypes 39 = .ok (.iload_n 1, 1) := by decide +kernel
theorem dX12_laysTypes_40 : decode cX12_laysTypes 40 = .ok (.iload_n 2, 1) := by decide +kernel
theorem dX12_laysTypes_41 : decode cX12_laysTypes 41 = .ok (.invokevirtual 94, 3) := by decide +kernel
theorem dX12_laysTypes_44 : decode cX12_laysTypes 44 = .ok (.ifCond .ne 6, 3) := by decide +kernel
theorem dX12_laysTypes_47 : decode cX12_laysTypes 47 = .ok (.goto 99, 3) := by decide +kernel
theorem dX12_laysTypes_50 : decode cX12_laysTypes 50 = .ok (.iconst 0, 1) := by decide +kernel
theorem dX12_laysTypes_51 : decode cX12_laysTypes 51 = .ok (.istore_n 3, 1) := by decide +kernel
theorem dX12_laysTypes_52 : decode cX12_laysTypes 52 = .ok (.iload_n 3, 1) := by decide +kernel
theorem dX12_laysTypes_53 : decode cX12_laysTypes 53 = .ok (.aload_n 0, 1) := by decide +kernel
theorem dX12_laysTypes_54 : decode cX12_laysTypes 54 = .ok (.getfield 434, 3) := by decide +kernel
theorem dX12_laysTypes_57 : decode cX12_laysTypes 57 = .ok (.if_icmp .ge 44, 3) := by decide +kernel
theorem dX12_laysTypes_60 : decode cX12_laysTypes 60 = .ok (.aload_n 0, 1) := by decide +kernel
theorem dX12_laysTypes_61 : decode cX12_laysTypes 61 = .ok (.aload_n 0, 1) := by decide +kernel
theorem dX12_laysTypes_62 : decode cX12_laysTypes 62 = .ok (.iload_n 1, 1) := by decide +kernel
theorem dX12_laysTypes_63 : decode cX12_laysTypes 63 = .ok (.iload_n 2, 1) := by decide +kernel
theorem dX12_laysTypes_64 : decode cX12_laysTypes 64 = .ok (.invokevirtual 107, 3) := by decide +kernel
theorem dX12_laysTypes_67 : decode cX12_laysTypes 67 = .ok (.aload_n 0, 1) := by decide +kernel
theorem dX12_laysTypes_68 : decode cX12_laysTypes 68 = .ok (.aload_n 0, 1) := by decide +kernel
theorem dX12_laysTypes_69 : decode cX12_laysTypes 69 = .ok (.getfield 63, 3) := by decide +kernel
theorem dX12_laysTypes_72 : decode cX12_laysTypes 72 = .ok (.iload_n 3, 1) := by decide +kernel
theorem dX12_laysTypes_73 : decode cX12_laysTypes 73 = .ok (.iaload, 1) := by decide +kernel
theorem dX12_laysTypes_74 : decode cX12_laysTypes 74 = .ok (.bipush 16, 2) := by decide +kernel
theorem dX12_laysTypes_76 : decode cX12_laysTypes 76 = .ok (.idiv, 1) := by decide +kernel
theorem dX12_laysTypes_77 : decode cX12_laysTypes 77 = .ok (.aload_n 0, 1) := by decide +kernel
theorem dX12_laysTypes_78 : decode cX12_laysTypes 78 = .ok (.getfield 63, 3) := by decide +kernel
theorem dX12_laysTypes_81 : decode cX12_laysTypes 81 = .ok (.iload_n 3, 1) := by decide +kernel
theorem dX12_laysTypes_82 : decode cX12_laysTypes 82 = .ok (.iaload, 1) := by decide +kernel
theorem dX12_laysTypes_83 : decode cX12_laysTypes 83 = .ok (.bipush 16, 2) := by decide +kernel
theorem dX12_laysTypes_85 : decode cX12_laysTypes 85 = .ok (.irem, 1) := by decide +kernel
theorem dX12_laysTypes_86 : decode cX12_laysTypes 86 = .ok (.invokevirtual 107, 3) := by decide +kernel
theorem dX12_laysTypes_89 : decode cX12_laysTypes 89 = .ok (.invokevirtual 437, 3) := by decide +kernel
theorem dX12_laysTypes_92 : decode cX12_laysTypes 92 = .ok (.ifCond .ne 9, 3) := by decide +kernel
theorem dX12_laysTypes_95 : decode cX12_laysTypes 95 = .ok (.iinc 3 1, 3) := by decide +kernel
theorem dX12_laysTypes_98 : decode cX12_laysTypes 98 = .ok (.goto (-46), 3) := by decide +kernel
theorem dX12_laysTypes_101 : decode cX12_laysTypes 101 = .ok (.aload_n 0, 1) := by decide +kernel
theorem dX12_laysTypes_102 : decode cX12_laysTypes 102 = .ok (.getfield 60, 3) := by decide +kernel
theorem dX12_laysTypes_105 : decode cX12_laysTypes 105 = .ok (.bipush 16, 2) := by decide +kernel
theorem dX12_laysTypes_107 : decode cX12_laysTypes 107 = .ok (.iload_n 1, 1) := by decide +kernel
theorem dX12_laysTypes_108 : decode cX12_laysTypes 108 = .ok (.imul, 1) := by decide +kernel
theorem dX12_laysTypes_109 : decode cX12_laysTypes 109 = .ok (.iload_n 2, 1) := by decide +kernel
theorem dX12_laysTypes_110 : decode cX12_laysTypes 110 = .ok (.iadd, 1) := by decide +kernel
theorem dX12_laysTypes_111 : decode cX12_laysTypes 111 = .ok (.iload_n 3, 1) := by decide +kernel
theorem dX12_laysTypes_112 : decode cX12_laysTypes 112 = .ok (.iastore, 1) := by decide +kernel
theorem dX12_laysTypes_113 : decode cX12_laysTypes 113 = .ok (.iload_n 3, 1) := by decide +kernel
theorem dX12_laysTypes_114 : decode cX12_laysTypes 114 = .ok (.aload_n 0, 1) := by decide +kernel
theorem dX12_laysTypes_115 : decode cX12_laysTypes 115 = .ok (.getfield 434, 3) := by decide +kernel
theorem dX12_laysTypes_118 : decode cX12_laysTypes 118 = .ok (.if_icmp .ge 6, 3) := by decide +kernel
theorem dX12_laysTypes_121 : decode cX12_laysTypes 121 = .ok (.goto 25, 3) := by decide +kernel
theorem dX12_laysTypes_124 : decode cX12_laysTypes 124 = .ok (.aload_n 0, 1) := by decide +kernel
theorem dX12_laysTypes_125 : decode cX12_laysTypes 125 = .ok (.getfield 63, 3) := by decide +kernel
theorem dX12_laysTypes_128 : decode cX12_laysTypes 128 = .ok (.iload_n 3, 1) := by decide +kernel
theorem dX12_laysTypes_129 : decode cX12_laysTypes 129 = .ok (.bipush 16, 2) := by decide +kernel
theorem dX12_laysTypes_131 : decode cX12_laysTypes 131 = .ok (.iload_n 1, 1) := by decide +kernel
theorem dX12_laysTypes_132 : decode cX12_laysTypes 132 = .ok (.imul, 1) := by decide +kernel
theorem dX12_laysTypes_133 : decode cX12_laysTypes 133 = .ok (.iload_n 2, 1) := by decide +kernel
theorem dX12_laysTypes_134 : decode cX12_laysTypes 134 = .ok (.iadd, 1) := by decide +kernel
theorem dX12_laysTypes_135 : decode cX12_laysTypes 135 = .ok (.iastore, 1) := by decide +kernel
theorem dX12_laysTypes_136 : decode cX12_laysTypes 136 = .ok (.aload_n 0, 1) := by decide +kernel
theorem dX12_laysTypes_137 : decode cX12_laysTypes 137 = .ok (.dup, 1) := by decide +kernel
theorem dX12_laysTypes_138 : decode cX12_laysTypes 138 = .ok (.getfield 434, 3) := by decide +kernel
theorem dX12_laysTypes_141 : decode cX12_laysTypes 141 = .ok (.iconst 1, 1) := by decide +kernel
theorem dX12_laysTypes_142 : decode cX12_laysTypes 142 = .ok (.iadd, 1) := by decide +kernel
theorem dX12_laysTypes_143 : decode cX12_laysTypes 143 = .ok (.putfield 434, 3) := by decide +kernel
theorem dX12_laysTypes_146 : decode cX12_laysTypes 146 = .ok (.iinc 2 1, 3) := by decide +kernel
theorem dX12_laysTypes_149 : decode cX12_laysTypes 149 = .ok (.goto (-119), 3) := by decide +kernel
theorem dX12_laysTypes_152 : decode cX12_laysTypes 152 = .ok (.iinc 1 1, 3) := by decide +kernel
theorem dX12_laysTypes_155 : decode cX12_laysTypes 155 = .ok (.goto (-135), 3) := by decide +kernel
theorem dX12_laysTypes_158 : decode cX12_laysTypes 158 = .ok (.return_, 1) := by decide +kernel
theorem dX12_isType_0 : decode cX12_isType 0 = .ok (.aload_n 0, 1) := by decide +kernel
theorem dX12_isType_1 : decode cX12_isType 1 = .ok (.invokevirtual 440, 3) := by decide +kernel
theorem dX12_isType_4 : decode cX12_isType 4 = .ok (.iload_n 1, 1) := by decide +kernel
theorem dX12_isType_5 : decode cX12_isType 5 = .ok (.i2l, 1) := by decide +kernel
theorem dX12_isType_6 : decode cX12_isType 6 = .ok (.lconst 0, 1) := by decide +kernel
theorem dX12_isType_7 : decode cX12_isType 7 = .ok (.aload_n 0, 1) := by decide +kernel
theorem dX12_isType_8 : decode cX12_isType 8 = .ok (.getfield 434, 3) := by decide +kernel
theorem dX12_isType_11 : decode cX12_isType 11 = .ok (.iconst 1, 1) := by decide +kernel
theorem dX12_isType_12 : decode cX12_isType 12 = .ok (.isub, 1) := by decide +kernel
theorem dX12_isType_13 : decode cX12_isType 13 = .ok (.i2l, 1) := by decide +kernel
theorem dX12_isType_14 : decode cX12_isType 14 = .ok (.invokestatic 82, 3) := by decide +kernel
theorem dX12_isType_17 : decode cX12_isType 17 = .ok (.ireturn, 1) := by decide +kernel
theorem dX12_type_0 : decode cX12_type 0 = .ok (.aload_n 0, 1) := by decide +kernel
theorem dX12_type_1 : decode cX12_type 1 = .ok (.iload_n 1, 1) := by decide +kernel
theorem dX12_type_2 : decode cX12_type 2 = .ok (.iload_n 2, 1) := by decide +kernel
theorem dX12_type_3 : decode cX12_type 3 = .ok (.invokevirtual 247, 3) := by decide +kernel
theorem dX12_type_6 : decode cX12_type 6 = .ok (.ifCond .ne 5, 3) := by decide +kernel
theorem dX12_type_9 : decode cX12_type 9 = .ok (.iconst (-1), 1) := by decide +kernel
theorem dX12_type_10 : decode cX12_type 10 = .ok (.ireturn, 1) := by decide +kernel
theorem dX12_type_11 : decode cX12_type 11 = .ok (.aload_n 0, 1) := by decide +kernel
theorem dX12_type_12 : decode cX12_type 12 = .ok (.invokevirtual 440, 3) := by decide +kernel
theorem dX12_type_15 : decode cX12_type 15 = .ok (.aload_n 0, 1) := by decide +kernel
theorem dX12_type_16 : decode cX12_type 16 = .ok (.getfield 60, 3) := by decide +kernel
theorem dX12_type_19 : decode cX12_type 19 = .ok (.bipush 16, 2) := by decide +kernel
theorem dX12_type_21 : decode cX12_type 21 = .ok (.iload_n 1, 1) := by decide +kernel
theorem dX12_type_22 : decode cX12_type 22 = .ok (.imul, 1) := by decide +kernel
theorem dX12_type_23 : decode cX12_type 23 = .ok (.iload_n 2, 1) := by decide +kernel
theorem dX12_type_24 : decode cX12_type 24 = .ok (.iadd, 1) := by decide +kernel
theorem dX12_type_25 : decode cX12_type 25 = .ok (.iaload, 1) := by decide +kernel
theorem dX12_type_26 : decode cX12_type 26 = .ok (.ireturn, 1) := by decide +kernel
theorem dX12_split_0 : decode cX12_split 0 = .ok (.aload_n 0, 1) := by decide +kernel
theorem dX12_split_1 : decode cX12_split 1 = .ok (.iload_n 1, 1) := by decide +kernel
theorem dX12_split_2 : decode cX12_split 2 = .ok (.invokevirtual 443, 3) := by decide +kernel
theorem dX12_split_5 : decode cX12_split 5 = .ok (.ifCond .eq 19, 3) := by decide +kernel
theorem dX12_split_8 : decode cX12_split 8 = .ok (.aload_n 0, 1) := by decide +kernel
theorem dX12_split_9 : decode cX12_split 9 = .ok (.iload_n 2, 1) := by decide +kernel
theorem dX12_split_10 : decode cX12_split 10 = .ok (.invokevirtual 443, 3) := by decide +kernel
theorem dX12_split_13 : decode cX12_split 13 = .ok (.ifCond .eq 11, 3) := by decide +kernel
theorem dX12_split_16 : decode cX12_split 16 = .ok (.aload_n 0, 1) := by decide +kernel
theorem dX12_split_17 : decode cX12_split 17 = .ok (.iload_n 3, 1) := by decide +kernel
theorem dX12_split_18 : decode cX12_split 18 = .ok (.invokevirtual 443, 3) := by decide +kernel
theorem dX12_split_21 : decode cX12_split 21 = .ok (.ifCond .ne 5, 3) := by decide +kernel
theorem dX12_split_24 : decode cX12_split 24 = .ok (.iconst (-1), 1) := by decide +kernel
theorem dX12_split_25 : decode cX12_split 25 = .ok (.ireturn, 1) := by decide +kernel
theorem dX12_split_26 : decode cX12_split 26 = .ok (.aload_n 0, 1) := by decide +kernel
theorem dX12_split_27 : decode cX12_split 27 = .ok (.getfield 63, 3) := by decide +kernel
theorem dX12_split_30 : decode cX12_split 30 = .ok (.iload_n 1, 1) := by decide +kernel
theorem dX12_split_31 : decode cX12_split 31 = .ok (.iaload, 1) := by decide +kernel
theorem dX12_split_32 : decode cX12_split 32 = .ok (.bipush 16, 2) := by decide +kernel
theorem dX12_split_34 : decode cX12_split 34 = .ok (.idiv, 1) := by decide +kernel
theorem dX12_split_35 : decode cX12_split 35 = .ok (.istore 4, 2) := by decide +kernel
theorem dX12_split_37 : decode cX12_split 37 = .ok (.aload_n 0, 1) := by decide +kernel
theorem dX12_split_38 : decode cX12_split 38 = .ok (.getfield 63, 3) := by decide +kernel
theorem dX12_split_41 : decode cX12_split 41 = .ok (.iload_n 1, 1) := by decide +kernel
theorem dX12_split_42 : decode cX12_split 42 = .ok (.iaload, 1) := by decide +kernel
theorem dX12_split_43 : decode cX12_split 43 = .ok (.bipush 16, 2) := by decide +kernel
theorem dX12_split_45 : decode cX12_split 45 = .ok (.irem, 1) := by decide +kernel
theorem dX12_split_46 : decode cX12_split 46 = .ok (.istore 5, 2) := by decide +kernel
theorem dX12_split_48 : decode cX12_split 48 = .ok (.aload_n 0, 1) := by decide +kernel
theorem dX12_split_49 : decode cX12_split 49 = .ok (.iload 4, 2) := by decide +kernel
theorem dX12_split_51 : decode cX12_split 51 = .ok (.iload 5, 2) := by decide +kernel
theorem dX12_split_53 : decode cX12_split 53 = .ok (.invokevirtual 107, 3) := by decide +kernel
theorem dX12_split_56 : decode cX12_split 56 = .ok (.istore 6, 2) := by decide +kernel
theorem dX12_split_58 : decode cX12_split 58 = .ok (.iconst 0, 1) := by decide +kernel
theorem dX12_split_59 : decode cX12_split 59 = .ok (.istore 7, 2) := by decide +kernel
theorem dX12_split_61 : decode cX12_split 61 = .ok (.iconst 0, 1) := by decide +kernel
theorem dX12_split_62 : decode cX12_split 62 = .ok (.istore 8, 2) := by decide +kernel
theorem dX12_split_64 : decode cX12_split 64 = .ok (.iload 8, 2) := by decide +kernel
theorem dX12_split_66 : decode cX12_split 66 = .ok (.aload_n 0, 1) := by decide +kernel
theorem dX12_split_67 : decode cX12_split 67 = .ok (.invokevirtual 78, 3) := by decide +kernel
theorem dX12_split_70 : decode cX12_split 70 = .ok (.if_icmp .ge 56, 3) := by decide +kernel
theorem dX12_split_73 : decode cX12_split 73 = .ok (.iload 6, 2) := by decide +kernel
theorem dX12_split_75 : decode cX12_split 75 = .ok (.iload 8, 2) := by decide +kernel
theorem dX12_split_77 : decode cX12_split 77 = .ok (.invokestatic 90, 3) := by decide +kernel
theorem dX12_split_80 : decode cX12_split 80 = .ok (.ifCond .eq 40, 3) := by decide +kernel
theorem dX12_split_83 : decode cX12_split 83 = .ok (.aload_n 0, 1) := by decide +kernel
theorem dX12_split_84 : decode cX12_split 84 = .ok (.getfield 60, 3) := by decide +kernel
theorem dX12_split_87 : decode cX12_split 87 = .ok (.bipush 16, 2) := by decide +kernel
theorem dX12_split_89 : decode cX12_split 89 = .ok (.iload 4, 2) := by decide +kernel
theorem dX12_split_91 : decode cX12_split 91 = .ok (.imul, 1) := by decide +kernel
theorem dX12_split_92 : decode cX12_split 92 = .ok (.iload 8, 2) := by decide +kernel
theorem dX12_split_94 : decode cX12_split 94 = .ok (.iadd, 1) := by decide +kernel
theorem dX12_split_95 : decode cX12_split 95 = .ok (.iaload, 1) := by decide +kernel
theorem dX12_split_96 : decode cX12_split 96 = .ok (.iload_n 2, 1) := by decide +kernel
theorem dX12_split_97 : decode cX12_split 97 = .ok (.if_icmp .ne 23, 3) := by decide +kernel
theorem dX12_split_100 : decode cX12_split 100 = .ok (.aload_n 0, 1) := by decide +kernel
theorem dX12_split_101 : decode cX12_split 101 = .ok (.getfield 60, 3) := by decide +kernel
theorem dX12_split_104 : decode cX12_split 104 = .ok (.bipush 16, 2) := by decide +kernel
theorem dX12_split_106 : decode cX12_split 106 = .ok (.iload 8, 2) := by decide +kernel
theorem dX12_split_108 : decode cX12_split 108 = .ok (.imul, 1) := by decide +kernel
theorem dX12_split_109 : decode cX12_split 109 = .ok (.iload 5, 2) := by decide +kernel
theorem dX12_split_111 : decode cX12_split 111 = .ok (.iadd, 1) := by decide +kernel
theorem dX12_split_112 : decode cX12_split 112 = .ok (.iaload, 1) := by decide +kernel
theorem dX12_split_113 : decode cX12_split 113 = .ok (.iload_n 3, 1) := by decide +kernel
theorem dX12_split_114 : decode cX12_split 114 = .ok (.if_icmp .ne 6, 3) := by decide +kernel
theorem dX12_split_117 : decode cX12_split 117 = .ok (.iinc 7 1, 3) := by decide +kernel
theorem dX12_split_120 : decode cX12_split 120 = .ok (.iinc 8 1, 3) := by decide +kernel
theorem dX12_split_123 : decode cX12_split 123 = .ok (.goto (-59), 3) := by decide +kernel
theorem dX12_split_126 : decode cX12_split 126 = .ok (.iload 7, 2) := by decide +kernel
theorem dX12_split_128 : decode cX12_split 128 = .ok (.ireturn, 1) := by decide +kernel
theorem dX12_valueOfType_0 : decode cX12_valueOfType 0 = .ok (.aload_n 0, 1) := by decide +kernel
theorem dX12_valueOfType_1 : decode cX12_valueOfType 1 = .ok (.getfield 9, 3) := by decide +kernel
theorem dX12_valueOfType_4 : decode cX12_valueOfType 4 = .ok (.bipush 17, 2) := by decide +kernel
theorem dX12_valueOfType_6 : decode cX12_valueOfType 6 = .ok (.sipush 256, 3) := by decide +kernel
theorem dX12_valueOfType_9 : decode cX12_valueOfType 9 = .ok (.iload_n 1, 1) := by decide +kernel
theorem dX12_valueOfType_10 : decode cX12_valueOfType 10 = .ok (.imul, 1) := by decide +kernel
theorem dX12_valueOfType_11 : decode cX12_valueOfType 11 = .ok (.iadd, 1) := by decide +kernel
theorem dX12_valueOfType_12 : decode cX12_valueOfType 12 = .ok (.aload_n 0, 1) := by decide +kernel
theorem dX12_valueOfType_13 : decode cX12_valueOfType 13 = .ok (.getfield 63, 3) := by decide +kernel
theorem dX12_valueOfType_16 : decode cX12_valueOfType 16 = .ok (.iload_n 2, 1) := by decide +kernel
theorem dX12_valueOfType_17 : decode cX12_valueOfType 17 = .ok (.iaload, 1) := by decide +kernel
theorem dX12_valueOfType_18 : decode cX12_valueOfType 18 = .ok (.iadd, 1) := by decide +kernel
theorem dX12_valueOfType_19 : decode cX12_valueOfType 19 = .ok (.laload, 1) := by decide +kernel
theorem dX12_valueOfType_20 : decode cX12_valueOfType 20 = .ok (.lreturn, 1) := by decide +kernel
theorem dX12_isReduced_0 : decode cX12_isReduced 0 = .ok (.aload_n 0, 1) := by decide +kernel
theorem dX12_isReduced_1 : decode cX12_isReduced 1 = .ok (.invokevirtual 440, 3) := by decide +kernel
theorem dX12_isReduced_4 : decode cX12_isReduced 4 = .ok (.iconst 0, 1) := by decide +kernel
theorem dX12_isReduced_5 : decode cX12_isReduced 5 = .ok (.istore_n 2, 1) := by decide +kernel
theorem dX12_isReduced_6 : decode cX12_isReduced 6 = .ok (.iload_n 2, 1) := by decide +kernel
theorem dX12_isReduced_7 : decode cX12_isReduced 7 = .ok (.aload_n 0, 1) := by decide +kernel
theorem dX12_isReduced_8 : decode cX12_isReduced 8 = .ok (.invokevirtual 78, 3) := by decide +kernel
theorem dX12_isReduced_11 : decode cX12_isReduced 11 = .ok (.if_icmp .ge 67, 3) := by decide +kernel
theorem dX12_isReduced_14 : decode cX12_isReduced 14 = .ok (.iconst 0, 1) := by decide +kernel
theorem dX12_isReduced_15 : decode cX12_isReduced 15 = .ok (.istore_n 3, 1) := by decide +kernel
theorem dX12_isReduced_16 : decode cX12_isReduced 16 = .ok (.iload_n 3, 1) := by decide +kernel
theorem dX12_isReduced_17 : decode cX12_isReduced 17 = .ok (.aload_n 0, 1) := by decide +kernel
theorem dX12_isReduced_18 : decode cX12_isReduced 18 = .ok (.invokevirtual 78, 3) := by decide +kernel
theorem dX12_isReduced_21 : decode cX12_isReduced 21 = .ok (.if_icmp .ge 51, 3) := by decide +kernel
theorem dX12_isReduced_24 : decode cX12_isReduced 24 = .ok (.aload_n 0, 1) := by decide +kernel
theorem dX12_isReduced_25 : decode cX12_isReduced 25 = .ok (.iload_n 2, 1) := by decide +kernel
theorem dX12_isReduced_26 : decode cX12_isReduced 26 = .ok (.iload_n 3, 1) := by decide +kernel
theorem dX12_isReduced_27 : decode cX12_isReduced 27 = .ok (.invokevirtual 94, 3) := by decide +kernel
theorem dX12_isReduced_30 : decode cX12_isReduced 30 = .ok (.ifCond .eq 36, 3) := by decide +kernel
theorem dX12_isReduced_33 : decode cX12_isReduced 33 = .ok (.aload_n 0, 1) := by decide +kernel
theorem dX12_isReduced_34 : decode cX12_isReduced 34 = .ok (.getfield 9, 3) := by decide +kernel
theorem dX12_isReduced_37 : decode cX12_isReduced 37 = .ok (.iload_n 1, 1) := by decide +kernel
theorem dX12_isReduced_38 : decode cX12_isReduced 38 = .ok (.iload_n 2, 1) := by decide +kernel
theorem dX12_isReduced_39 : decode cX12_isReduced 39 = .ok (.iload_n 3, 1) := by decide +kernel
theorem dX12_isReduced_40 : decode cX12_isReduced 40 = .ok (.invokestatic 301, 3) := by decide +kernel
theorem dX12_isReduced_43 : decode cX12_isReduced 43 = .ok (.laload, 1) := by decide +kernel
theorem dX12_isReduced_44 : decode cX12_isReduced 44 = .ok (.aload_n 0, 1) := by decide +kernel
theorem dX12_isReduced_45 : decode cX12_isReduced 45 = .ok (.iload_n 1, 1) := by decide +kernel
theorem dX12_isReduced_46 : decode cX12_isReduced 46 = .ok (.aload_n 0, 1) := by decide +kernel
theorem dX12_isReduced_47 : decode cX12_isReduced 47 = .ok (.getfield 60, 3) := by decide +kernel
theorem dX12_isReduced_50 : decode cX12_isReduced 50 = .ok (.bipush 16, 2) := by decide +kernel
theorem dX12_isReduced_52 : decode cX12_isReduced 52 = .ok (.iload_n 2, 1) := by decide +kernel
theorem dX12_isReduced_53 : decode cX12_isReduced 53 = .ok (.imul, 1) := by decide +kernel
theorem dX12_isReduced_54 : decode cX12_isReduced 54 = .ok (.iload_n 3, 1) := by decide +kernel
theorem dX12_isReduced_55 : decode cX12_isReduced 55 = .ok (.iadd, 1) := by decide +kernel
theorem dX12_isReduced_56 : decode cX12_isReduced 56 = .ok (.iaload, 1) := by decide +kernel
theorem dX12_isReduced_57 : decode cX12_isReduced 57 = .ok (.invokevirtual 446, 3) := by decide +kernel
theorem dX12_isReduced_60 : decode cX12_isReduced 60 = .ok (.lcmp, 1) := by decide +kernel
theorem dX12_isReduced_61 : decode cX12_isReduced 61 = .ok (.ifCond .eq 5, 3) := by decide +kernel
theorem dX12_isReduced_64 : decode cX12_isReduced 64 = .ok (.iconst 0, 1) := by decide +kernel
theorem dX12_isReduced_65 : decode cX12_isReduced 65 = .ok (.ireturn, 1) := by decide +kernel
theorem dX12_isReduced_66 : decode cX12_isReduced 66 = .ok (.iinc 3 1, 3) := by decide +kernel
theorem dX12_isReduced_69 : decode cX12_isReduced 69 = .ok (.goto (-53), 3) := by decide +kernel
theorem dX12_isReduced_72 : decode cX12_isReduced 72 = .ok (.iinc 2 1, 3) := by decide +kernel
theorem dX12_isReduced_75 : decode cX12_isReduced 75 = .ok (.goto (-69), 3) := by decide +kernel
theorem dX12_isReduced_78 : decode cX12_isReduced 78 = .ok (.iconst 1, 1) := by decide +kernel
theorem dX12_isReduced_79 : decode cX12_isReduced 79 = .ok (.ireturn, 1) := by decide +kernel
theorem dX12_reduced_0 : decode cX12_reduced 0 = .ok (.iload_n 1, 1) := by decide +kernel
theorem dX12_reduced_1 : decode cX12_reduced 1 = .ok (.invokestatic 290, 3) := by decide +kernel
theorem dX12_reduced_4 : decode cX12_reduced 4 = .ok (.ifCond .eq 28, 3) := by decide +kernel
theorem dX12_reduced_7 : decode cX12_reduced 7 = .ok (.aload_n 0, 1) := by decide +kernel
theorem dX12_reduced_8 : decode cX12_reduced 8 = .ok (.iload_n 2, 1) := by decide +kernel
theorem dX12_reduced_9 : decode cX12_reduced 9 = .ok (.invokevirtual 443, 3) := by decide +kernel
theorem dX12_reduced_12 : decode cX12_reduced 12 = .ok (.ifCond .eq 20, 3) := by decide +kernel
theorem dX12_reduced_15 : decode cX12_reduced 15 = .ok (.aload_n 0, 1) := by decide +kernel
theorem dX12_reduced_16 : decode cX12_reduced 16 = .ok (.iload_n 1, 1) := by decide +kernel
theorem dX12_reduced_17 : decode cX12_reduced 17 = .ok (.invokevirtual 449, 3) := by decide +kernel
theorem dX12_reduced_20 : decode cX12_reduced 20 = .ok (.ifCond .eq 12, 3) := by decide +kernel
theorem dX12_reduced_23 : decode cX12_reduced 23 = .ok (.aload_n 0, 1) := by decide +kernel
theorem dX12_reduced_24 : decode cX12_reduced 24 = .ok (.iload_n 1, 1) := by decide +kernel
theorem dX12_reduced_25 : decode cX12_reduced 25 = .ok (.iload_n 2, 1) := by decide +kernel
theorem dX12_reduced_26 : decode cX12_reduced 26 = .ok (.invokevirtual 446, 3) := by decide +kernel
theorem dX12_reduced_29 : decode cX12_reduced 29 = .ok (.goto 6, 3) := by decide +kernel
theorem dX12_reduced_32 : decode cX12_reduced 32 = .ok (.ldc2_w 269, 3) := by decide +kernel
theorem dX12_reduced_35 : decode cX12_reduced 35 = .ok (.lreturn, 1) := by decide +kernel
theorem dX12_summed_0 : decode cX12_summed 0 = .ok (.aload_n 0, 1) := by decide +kernel
theorem dX12_summed_1 : decode cX12_summed 1 = .ok (.iload_n 1, 1) := by decide +kernel
theorem dX12_summed_2 : decode cX12_summed 2 = .ok (.invokevirtual 100, 3) := by decide +kernel
theorem dX12_summed_5 : decode cX12_summed 5 = .ok (.ifCond .eq 13, 3) := by decide +kernel
theorem dX12_summed_8 : decode cX12_summed 8 = .ok (.iload_n 2, 1) := by decide +kernel
theorem dX12_summed_9 : decode cX12_summed 9 = .ok (.i2l, 1) := by decide +kernel
theorem dX12_summed_10 : decode cX12_summed 10 = .ok (.lconst 0, 1) := by decide +kernel
theorem dX12_summed_11 : decode cX12_summed 11 = .ok (.lconst 1, 1) := by decide +kernel
theorem dX12_summed_12 : decode cX12_summed 12 = .ok (.invokestatic 82, 3) := by decide +kernel
theorem dX12_summed_15 : decode cX12_summed 15 = .ok (.ifCond .ne 7, 3) := by decide +kernel
theorem dX12_summed_18 : decode cX12_summed 18 = .ok (.ldc2_w 269, 3) := by decide +kernel
theorem dX12_summed_21 : decode cX12_summed 21 = .ok (.lreturn, 1) := by decide +kernel
theorem dX12_summed_22 : decode cX12_summed 22 = .ok (.aload_n 0, 1) := by decide +kernel
theorem dX12_summed_23 : decode cX12_summed 23 = .ok (.iconst 0, 1) := by decide +kernel
theorem dX12_summed_24 : decode cX12_summed 24 = .ok (.putfield 271, 3) := by decide +kernel
theorem dX12_summed_27 : decode cX12_summed 27 = .ok (.lconst 0, 1) := by decide +kernel
theorem dX12_summed_28 : decode cX12_summed 28 = .ok (.lstore_n 3, 1) := by decide +kernel
theorem dX12_summed_29 : decode cX12_summed 29 = .ok (.iload_n 2, 1) := by decide +kernel
theorem dX12_summed_30 : decode cX12_summed 30 = .ok (.ifCond .ne 11, 3) := by decide +kernel
theorem dX12_summed_33 : decode cX12_summed 33 = .ok (.aload_n 0, 1) := by decide +kernel
theorem dX12_summed_34 : decode cX12_summed 34 = .ok (.iload_n 1, 1) := by decide +kernel
theorem dX12_summed_35 : decode cX12_summed 35 = .ok (.invokevirtual 97, 3) := by decide +kernel
theorem dX12_summed_38 : decode cX12_summed 38 = .ok (.goto 8, 3) := by decide +kernel
theorem dX12_summed_41 : decode cX12_summed 41 = .ok (.aload_n 0, 1) := by decide +kernel
theorem dX12_summed_42 : decode cX12_summed 42 = .ok (.iload_n 1, 1) := by decide +kernel
theorem dX12_summed_43 : decode cX12_summed 43 = .ok (.invokevirtual 86, 3) := by decide +kernel
theorem dX12_summed_46 : decode cX12_summed 46 = .ok (.istore 5, 2) := by decide +kernel
theorem dX12_summed_48 : decode cX12_summed 48 = .ok (.iconst 0, 1) := by decide +kernel
theorem dX12_summed_49 : decode cX12_summed 49 = .ok (.istore 6, 2) := by decide +kernel
theorem dX12_summed_51 : decode cX12_summed 51 = .ok (.iload 6, 2) := by decide +kernel
theorem dX12_summed_53 : decode cX12_summed 53 = .ok (.aload_n 0, 1) := by decide +kernel
theorem dX12_summed_54 : decode cX12_summed 54 = .ok (.invokevirtual 78, 3) := by decide +kernel
theorem dX12_summed_57 : decode cX12_summed 57 = .ok (.if_icmp .ge 36, 3) := by decide +kernel
theorem dX12_summed_60 : decode cX12_summed 60 = .ok (.iload 5, 2) := by decide +kernel
theorem dX12_summed_62 : decode cX12_summed 62 = .ok (.iload 6, 2) := by decide +kernel
theorem dX12_summed_64 : decode cX12_summed 64 = .ok (.invokestatic 90, 3) := by decide +kernel
theorem dX12_summed_67 : decode cX12_summed 67 = .ok (.ifCond .eq 20, 3) := by decide +kernel
theorem dX12_summed_70 : decode cX12_summed 70 = .ok (.aload_n 0, 1) := by decide +kernel
theorem dX12_summed_71 : decode cX12_summed 71 = .ok (.lload_n 3, 1) := by decide +kernel
theorem dX12_summed_72 : decode cX12_summed 72 = .ok (.aload_n 0, 1) := by decide +kernel
theorem dX12_summed_73 : decode cX12_summed 73 = .ok (.getfield 9, 3) := by decide +kernel
theorem dX12_summed_76 : decode cX12_summed 76 = .ok (.sipush 1041, 3) := by decide +kernel
theorem dX12_summed_79 : decode cX12_summed 79 = .ok (.iload 6, 2) := by decide +kernel
theorem dX12_summed_81 : decode cX12_summed 81 = .ok (.iadd, 1) := by decide +kernel
theorem dX12_summed_82 : decode cX12_summed 82 = .ok (.laload, 1) := by decide +kernel
theorem dX12_summed_83 : decode cX12_summed 83 = .ok (.invokevirtual 308, 3) := by decide +kernel
theorem dX12_summed_86 : decode cX12_summed 86 = .ok (.lstore_n 3, 1) := by decide +kernel
theorem dX12_summed_87 : decode cX12_summed 87 = .ok (.iinc 6 1, 3) := by decide +kernel
theorem dX12_summed_90 : decode cX12_summed 90 = .ok (.goto (-39), 3) := by decide +kernel
theorem dX12_summed_93 : decode cX12_summed 93 = .ok (.aload_n 0, 1) := by decide +kernel
theorem dX12_summed_94 : decode cX12_summed 94 = .ok (.getfield 271, 3) := by decide +kernel
theorem dX12_summed_97 : decode cX12_summed 97 = .ok (.ifCond .eq 9, 3) := by decide +kernel
theorem dX12_summed_100 : decode cX12_summed 100 = .ok (.ldc2_w 269, 3) := by decide +kernel
theorem dX12_summed_103 : decode cX12_summed 103 = .ok (.goto 4, 3) := by decide +kernel
theorem dX12_summed_106 : decode cX12_summed 106 = .ok (.lload_n 3, 1) := by decide +kernel
theorem dX12_summed_107 : decode cX12_summed 107 = .ok (.lreturn, 1) := by decide +kernel
theorem dX12_gotBack_0 : decode cX12_gotBack 0 = .ok (.aload_n 0, 1) := by decide +kernel
theorem dX12_gotBack_1 : decode cX12_gotBack 1 = .ok (.iload_n 1, 1) := by decide +kernel
theorem dX12_gotBack_2 : decode cX12_gotBack 2 = .ok (.invokevirtual 100, 3) := by decide +kernel
theorem dX12_gotBack_5 : decode cX12_gotBack 5 = .ok (.ifCond .eq 13, 3) := by decide +kernel
theorem dX12_gotBack_8 : decode cX12_gotBack 8 = .ok (.iload_n 2, 1) := by decide +kernel
theorem dX12_gotBack_9 : decode cX12_gotBack 9 = .ok (.i2l, 1) := by decide +kernel
theorem dX12_gotBack_10 : decode cX12_gotBack 10 = .ok (.lconst 0, 1) := by decide +kernel
theorem dX12_gotBack_11 : decode cX12_gotBack 11 = .ok (.lconst 1, 1) := by decide +kernel
theorem dX12_gotBack_12 : decode cX12_gotBack 12 = .ok (.invokestatic 82, 3) := by decide +kernel
theorem dX12_gotBack_15 : decode cX12_gotBack 15 = .ok (.ifCond .ne 7, 3) := by decide +kernel
theorem dX12_gotBack_18 : decode cX12_gotBack 18 = .ok (.ldc2_w 269, 3) := by decide +kernel
theorem dX12_gotBack_21 : decode cX12_gotBack 21 = .ok (.lreturn, 1) := by decide +kernel
theorem dX12_gotBack_22 : decode cX12_gotBack 22 = .ok (.aload_n 0, 1) := by decide +kernel
theorem dX12_gotBack_23 : decode cX12_gotBack 23 = .ok (.invokevirtual 283, 3) := by decide +kernel
theorem dX12_gotBack_26 : decode cX12_gotBack 26 = .ok (.aload_n 0, 1) := by decide +kernel
theorem dX12_gotBack_27 : decode cX12_gotBack 27 = .ok (.iconst 0, 1) := by decide +kernel
theorem dX12_gotBack_28 : decode cX12_gotBack 28 = .ok (.putfield 271, 3) := by decide +kernel
theorem dX12_gotBack_31 : decode cX12_gotBack 31 = .ok (.lconst 0, 1) := by decide +kernel
theorem dX12_gotBack_32 : decode cX12_gotBack 32 = .ok (.lstore_n 3, 1) := by decide +kernel
theorem dX12_gotBack_33 : decode cX12_gotBack 33 = .ok (.iload_n 2, 1) := by decide +kernel
theorem dX12_gotBack_34 : decode cX12_gotBack 34 = .ok (.ifCond .ne 11, 3) := by decide +kernel
theorem dX12_gotBack_37 : decode cX12_gotBack 37 = .ok (.aload_n 0, 1) := by decide +kernel
theorem dX12_gotBack_38 : decode cX12_gotBack 38 = .ok (.iload_n 1, 1) := by decide +kernel
theorem dX12_gotBack_39 : decode cX12_gotBack 39 = .ok (.invokevirtual 97, 3) := by decide +kernel
theorem dX12_gotBack_42 : decode cX12_gotBack 42 = .ok (.goto 8, 3) := by decide +kernel
theorem dX12_gotBack_45 : decode cX12_gotBack 45 = .ok (.aload_n 0, 1) := by decide +kernel
theorem dX12_gotBack_46 : decode cX12_gotBack 46 = .ok (.iload_n 1, 1) := by decide +kernel
theorem dX12_gotBack_47 : decode cX12_gotBack 47 = .ok (.invokevirtual 86, 3) := by decide +kernel
theorem dX12_gotBack_50 : decode cX12_gotBack 50 = .ok (.istore 5, 2) := by decide +kernel
theorem dX12_gotBack_52 : decode cX12_gotBack 52 = .ok (.iconst 0, 1) := by decide +kernel
theorem dX12_gotBack_53 : decode cX12_gotBack 53 = .ok (.istore 6, 2) := by decide +kernel
theorem dX12_gotBack_55 : decode cX12_gotBack 55 = .ok (.iload 6, 2) := by decide +kernel
theorem dX12_gotBack_57 : decode cX12_gotBack 57 = .ok (.aload_n 0, 1) := by decide +kernel
theorem dX12_gotBack_58 : decode cX12_gotBack 58 = .ok (.invokevirtual 78, 3) := by decide +kernel
theorem dX12_gotBack_61 : decode cX12_gotBack 61 = .ok (.if_icmp .ge 66, 3) := by decide +kernel
theorem dX12_gotBack_64 : decode cX12_gotBack 64 = .ok (.iload 5, 2) := by decide +kernel
theorem dX12_gotBack_66 : decode cX12_gotBack 66 = .ok (.iload 6, 2) := by decide +kernel
theorem dX12_gotBack_68 : decode cX12_gotBack 68 = .ok (.invokestatic 90, 3) := by decide +kernel
theorem dX12_gotBack_71 : decode cX12_gotBack 71 = .ok (.ifCond .eq 50, 3) := by decide +kernel
theorem dX12_gotBack_74 : decode cX12_gotBack 74 = .ok (.aload_n 0, 1) := by decide +kernel
theorem dX12_gotBack_75 : decode cX12_gotBack 75 = .ok (.lload_n 3, 1) := by decide +kernel
theorem dX12_gotBack_76 : decode cX12_gotBack 76 = .ok (.aload_n 0, 1) := by decide +kernel
theorem dX12_gotBack_77 : decode cX12_gotBack 77 = .ok (.aload_n 0, 1) := by decide +kernel
theorem dX12_gotBack_78 : decode cX12_gotBack 78 = .ok (.getfield 9, 3) := by decide +kernel
theorem dX12_gotBack_81 : decode cX12_gotBack 81 = .ok (.sipush 1041, 3) := by decide +kernel
theorem dX12_gotBack_84 : decode cX12_gotBack 84 = .ok (.iload 6, 2) := by decide +kernel
theorem dX12_gotBack_86 : decode cX12_gotBack 86 = .ok (.iadd, 1) := by decide +kernel
theorem dX12_gotBack_87 : decode cX12_gotBack 87 = .ok (.laload, 1) := by decide +kernel
theorem dX12_gotBack_88 : decode cX12_gotBack 88 = .ok (.aload_n 0, 1) := by decide +kernel
theorem dX12_gotBack_89 : decode cX12_gotBack 89 = .ok (.getfield 35, 3) := by decide +kernel
theorem dX12_gotBack_92 : decode cX12_gotBack 92 = .ok (.iload_n 2, 1) := by decide +kernel
theorem dX12_gotBack_93 : decode cX12_gotBack 93 = .ok (.ifCond .ne 13, 3) := by decide +kernel
theorem dX12_gotBack_96 : decode cX12_gotBack 96 = .ok (.bipush 16, 2) := by decide +kernel
theorem dX12_gotBack_98 : decode cX12_gotBack 98 = .ok (.iload 6, 2) := by decide +kernel
theorem dX12_gotBack_100 : decode cX12_gotBack 100 = .ok (.imul, 1) := by decide +kernel
theorem dX12_gotBack_101 : decode cX12_gotBack 101 = .ok (.iload_n 1, 1) := by decide +kernel
theorem dX12_gotBack_102 : decode cX12_gotBack 102 = .ok (.iadd, 1) := by decide +kernel
theorem dX12_gotBack_103 : decode cX12_gotBack 103 = .ok (.goto 10, 3) := by decide +kernel
theorem dX12_gotBack_106 : decode cX12_gotBack 106 = .ok (.bipush 16, 2) := by decide +kernel
theorem dX12_gotBack_108 : decode cX12_gotBack 108 = .ok (.iload_n 1, 1) := by decide +kernel
theorem dX12_gotBack_109 : decode cX12_gotBack 109 = .ok (.imul, 1) := by decide +kernel
theorem dX12_gotBack_110 : decode cX12_gotBack 110 = .ok (.iload 6, 2) := by decide +kernel
theorem dX12_gotBack_112 : decode cX12_gotBack 112 = .ok (.iadd, 1) := by decide +kernel
theorem dX12_gotBack_113 : decode cX12_gotBack 113 = .ok (.laload, 1) := by decide +kernel
theorem dX12_gotBack_114 : decode cX12_gotBack 114 = .ok (.invokevirtual 304, 3) := by decide +kernel
theorem dX12_gotBack_117 : decode cX12_gotBack 117 = .ok (.invokevirtual 308, 3) := by decide +kernel
theorem dX12_gotBack_120 : decode cX12_gotBack 120 = .ok (.lstore_n 3, 1) := by decide +kernel
theorem dX12_gotBack_121 : decode cX12_gotBack 121 = .ok (.iinc 6 1, 3) := by decide +kernel
theorem dX12_gotBack_124 : decode cX12_gotBack 124 = .ok (.goto (-69), 3) := by decide +kernel
theorem dX12_gotBack_127 : decode cX12_gotBack 127 = .ok (.aload_n 0, 1) := by decide +kernel
theorem dX12_gotBack_128 : decode cX12_gotBack 128 = .ok (.getfield 271, 3) := by decide +kernel
theorem dX12_gotBack_131 : decode cX12_gotBack 131 = .ok (.ifCond .eq 9, 3) := by decide +kernel
theorem dX12_gotBack_134 : decode cX12_gotBack 134 = .ok (.ldc2_w 269, 3) := by decide +kernel
theorem dX12_gotBack_137 : decode cX12_gotBack 137 = .ok (.goto 4, 3) := by decide +kernel
theorem dX12_gotBack_140 : decode cX12_gotBack 140 = .ok (.lload_n 3, 1) := by decide +kernel
theorem dX12_gotBack_141 : decode cX12_gotBack 141 = .ok (.lreturn, 1) := by decide +kernel
theorem dX12_isThere_0 : decode cX12_isThere 0 = .ok (.iload_n 1, 1) := by decide +kernel
theorem dX12_isThere_1 : decode cX12_isThere 1 = .ok (.i2l, 1) := by decide +kernel
theorem dX12_isThere_2 : decode cX12_isThere 2 = .ok (.lconst 0, 1) := by decide +kernel
theorem dX12_isThere_3 : decode cX12_isThere 3 = .ok (.aload_n 0, 1) := by decide +kernel
theorem dX12_isThere_4 : decode cX12_isThere 4 = .ok (.getfield 18, 3) := by decide +kernel
theorem dX12_isThere_7 : decode cX12_isThere 7 = .ok (.iconst 0, 1) := by decide +kernel
theorem dX12_isThere_8 : decode cX12_isThere 8 = .ok (.iaload, 1) := by decide +kernel
theorem dX12_isThere_9 : decode cX12_isThere 9 = .ok (.iconst 1, 1) := by decide +kernel
theorem dX12_isThere_10 : decode cX12_isThere 10 = .ok (.isub, 1) := by decide +kernel
theorem dX12_isThere_11 : decode cX12_isThere 11 = .ok (.i2l, 1) := by decide +kernel
theorem dX12_isThere_12 : decode cX12_isThere 12 = .ok (.invokestatic 82, 3) := by decide +kernel
theorem dX12_isThere_15 : decode cX12_isThere 15 = .ok (.ireturn, 1) := by decide +kernel
theorem dX12_isAtMostThere_0 : decode cX12_isAtMostThere 0 = .ok (.aload_n 0, 1) := by decide +kernel
theorem dX12_isAtMostThere_1 : decode cX12_isAtMostThere 1 = .ok (.getfield 22, 3) := by decide +kernel
theorem dX12_isAtMostThere_4 : decode cX12_isAtMostThere 4 = .ok (.iload_n 1, 1) := by decide +kernel
theorem dX12_isAtMostThere_5 : decode cX12_isAtMostThere 5 = .ok (.iaload, 1) := by decide +kernel
theorem dX12_isAtMostThere_6 : decode cX12_isAtMostThere 6 = .ok (.iload_n 2, 1) := by decide +kernel
theorem dX12_isAtMostThere_7 : decode cX12_isAtMostThere 7 = .ok (.invokestatic 90, 3) := by decide +kernel
theorem dX12_isAtMostThere_10 : decode cX12_isAtMostThere 10 = .ok (.ireturn, 1) := by decide +kernel
theorem dX12_mapOf_0 : decode cX12_mapOf 0 = .ok (.aload_n 0, 1) := by decide +kernel
theorem dX12_mapOf_1 : decode cX12_mapOf 1 = .ok (.getfield 9, 3) := by decide +kernel
theorem dX12_mapOf_4 : decode cX12_mapOf 4 = .ok (.sipush 1057, 3) := by decide +kernel
theorem dX12_mapOf_7 : decode cX12_mapOf 7 = .ok (.iload_n 1, 1) := by decide +kernel
theorem dX12_mapOf_8 : decode cX12_mapOf 8 = .ok (.iadd, 1) := by decide +kernel
theorem dX12_mapOf_9 : decode cX12_mapOf 9 = .ok (.laload, 1) := by decide +kernel
theorem dX12_mapOf_10 : decode cX12_mapOf 10 = .ok (.l2i, 1) := by decide +kernel
theorem dX12_mapOf_11 : decode cX12_mapOf 11 = .ok (.ireturn, 1) := by decide +kernel
theorem dX12_isWhole_0 : decode cX12_isWhole 0 = .ok (.iconst 0, 1) := by decide +kernel
theorem dX12_isWhole_1 : decode cX12_isWhole 1 = .ok (.istore_n 1, 1) := by decide +kernel
theorem dX12_isWhole_2 : decode cX12_isWhole 2 = .ok (.iload_n 1, 1) := by decide +kernel
theorem dX12_isWhole_3 : decode cX12_isWhole 3 = .ok (.aload_n 0, 1) := by decide +kernel
theorem dX12_isWhole_4 : decode cX12_isWhole 4 = .ok (.invokevirtual 78, 3) := by decide +kernel
theorem dX12_isWhole_7 : decode cX12_isWhole 7 = .ok (.if_icmp .ge 20, 3) := by decide +kernel
theorem dX12_isWhole_10 : decode cX12_isWhole 10 = .ok (.aload_n 0, 1) := by decide +kernel
theorem dX12_isWhole_11 : decode cX12_isWhole 11 = .ok (.iload_n 1, 1) := by decide +kernel
theorem dX12_isWhole_12 : decode cX12_isWhole 12 = .ok (.invokevirtual 452, 3) := by decide +kernel
theorem dX12_isWhole_15 : decode cX12_isWhole 15 = .ok (.iconst (-1), 1) := by decide +kernel
theorem dX12_isWhole_16 : decode cX12_isWhole 16 = .ok (.if_icmp .ne 5, 3) := by decide +kernel
theorem dX12_isWhole_19 : decode cX12_isWhole 19 = .ok (.iconst 0, 1) := by decide +kernel
theorem dX12_isWhole_20 : decode cX12_isWhole 20 = .ok (.ireturn, 1) := by decide +kernel
theorem dX12_isWhole_21 : decode cX12_isWhole 21 = .ok (.iinc 1 1, 3) := by decide +kernel
theorem dX12_isWhole_24 : decode cX12_isWhole 24 = .ok (.goto (-22), 3) := by decide +kernel
theorem dX12_isWhole_27 : decode cX12_isWhole 27 = .ok (.iconst 1, 1) := by decide +kernel
theorem dX12_isWhole_28 : decode cX12_isWhole 28 = .ok (.ireturn, 1) := by decide +kernel
theorem dX12_isMonotone_0 : decode cX12_isMonotone 0 = .ok (.iconst 0, 1) := by decide +kernel
theorem dX12_isMonotone_1 : decode cX12_isMonotone 1 = .ok (.istore_n 1, 1) := by decide +kernel
theorem dX12_isMonotone_2 : decode cX12_isMonotone 2 = .ok (.iload_n 1, 1) := by decide +kernel
theorem dX12_isMonotone_3 : decode cX12_isMonotone 3 = .ok (.aload_n 0, 1) := by decide +kernel
theorem dX12_isMonotone_4 : decode cX12_isMonotone 4 = .ok (.invokevirtual 78, 3) := by decide +kernel
theorem dX12_isMonotone_7 : decode cX12_isMonotone 7 = .ok (.if_icmp .ge 53, 3) := by decide +kernel
theorem dX12_isMonotone_10 : decode cX12_isMonotone 10 = .ok (.iconst 0, 1) := by decide +kernel
theorem dX12_isMonotone_11 : decode cX12_isMonotone 11 = .ok (.istore_n 2, 1) := by decide +kernel
theorem dX12_isMonotone_12 : decode cX12_isMonotone 12 = .ok (.iload_n 2, 1) := by decide +kernel
theorem dX12_isMonotone_13 : decode cX12_isMonotone 13 = .ok (.aload_n 0, 1) := by decide +kernel
theorem dX12_isMonotone_14 : decode cX12_isMonotone 14 = .ok (.invokevirtual 78, 3) := by decide +kernel
theorem dX12_isMonotone_17 : decode cX12_isMonotone 17 = .ok (.if_icmp .ge 37, 3) := by decide +kernel
theorem dX12_isMonotone_20 : decode cX12_isMonotone 20 = .ok (.aload_n 0, 1) := by decide +kernel
theorem dX12_isMonotone_21 : decode cX12_isMonotone 21 = .ok (.iload_n 1, 1) := by decide +kernel
theorem dX12_isMonotone_22 : decode cX12_isMonotone 22 = .ok (.iload_n 2, 1) := by decide +kernel
theorem dX12_isMonotone_23 : decode cX12_isMonotone 23 = .ok (.invokevirtual 94, 3) := by decide +kernel
theorem dX12_isMonotone_26 : decode cX12_isMonotone 26 = .ok (.ifCond .eq 22, 3) := by decide +kernel
theorem dX12_isMonotone_29 : decode cX12_isMonotone 29 = .ok (.aload_n 0, 1) := by decide +kernel
theorem dX12_isMonotone_30 : decode cX12_isMonotone 30 = .ok (.aload_n 0, 1) := by decide +kernel
theorem dX12_isMonotone_31 : decode cX12_isMonotone 31 = .ok (.iload_n 1, 1) := by decide +kernel
theorem dX12_isMonotone_32 : decode cX12_isMonotone 32 = .ok (.invokevirtual 452, 3) := by decide +kernel
theorem dX12_isMonotone_35 : decode cX12_isMonotone 35 = .ok (.aload_n 0, 1) := by decide +kernel
theorem dX12_isMonotone_36 : decode cX12_isMonotone 36 = .ok (.iload_n 2, 1) := by decide +kernel
theorem dX12_isMonotone_37 : decode cX12_isMonotone 37 = .ok (.invokevirtual 452, 3) := by decide +kernel
theorem dX12_isMonotone_40 : decode cX12_isMonotone 40 = .ok (.invokevirtual 455, 3) := by decide +kernel
theorem dX12_isMonotone_43 : decode cX12_isMonotone 43 = .ok (.ifCond .ne 5, 3) := by decide +kernel
theorem dX12_isMonotone_46 : decode cX12_isMonotone 46 = .ok (.iconst 0, 1) := by decide +kernel
theorem dX12_isMonotone_47 : decode cX12_isMonotone 47 = .ok (.ireturn, 1) := by decide +kernel
theorem dX12_isMonotone_48 : decode cX12_isMonotone 48 = .ok (.iinc 2 1, 3) := by decide +kernel
theorem dX12_isMonotone_51 : decode cX12_isMonotone 51 = .ok (.goto (-39), 3) := by decide +kernel
theorem dX12_isMonotone_54 : decode cX12_isMonotone 54 = .ok (.iinc 1 1, 3) := by decide +kernel
theorem dX12_isMonotone_57 : decode cX12_isMonotone 57 = .ok (.goto (-55), 3) := by decide +kernel
theorem dX12_isMonotone_60 : decode cX12_isMonotone 60 = .ok (.iconst 1, 1) := by decide +kernel
theorem dX12_isMonotone_61 : decode cX12_isMonotone 61 = .ok (.ireturn, 1) := by decide +kernel
theorem dX12_adjointOf_0 : decode cX12_adjointOf 0 = .ok (.iconst 0, 1) := by decide +kernel
theorem dX12_adjointOf_1 : decode cX12_adjointOf 1 = .ok (.istore_n 2, 1) := by decide +kernel
theorem dX12_adjointOf_2 : decode cX12_adjointOf 2 = .ok (.iconst 0, 1) := by decide +kernel
theorem dX12_adjointOf_3 : decode cX12_adjointOf 3 = .ok (.istore_n 3, 1) := by decide +kernel
theorem dX12_adjointOf_4 : decode cX12_adjointOf 4 = .ok (.iload_n 3, 1) := by decide +kernel
theorem dX12_adjointOf_5 : decode cX12_adjointOf 5 = .ok (.aload_n 0, 1) := by decide +kernel
theorem dX12_adjointOf_6 : decode cX12_adjointOf 6 = .ok (.invokevirtual 78, 3) := by decide +kernel
theorem dX12_adjointOf_9 : decode cX12_adjointOf 9 = .ok (.if_icmp .ge 32, 3) := by decide +kernel
theorem dX12_adjointOf_12 : decode cX12_adjointOf 12 = .ok (.iload_n 2, 1) := by decide +kernel
theorem dX12_adjointOf_13 : decode cX12_adjointOf 13 = .ok (.aload_n 0, 1) := by decide +kernel
theorem dX12_adjointOf_14 : decode cX12_adjointOf 14 = .ok (.aload_n 0, 1) := by decide +kernel
theorem dX12_adjointOf_15 : decode cX12_adjointOf 15 = .ok (.iload_n 3, 1) := by decide +kernel
theorem dX12_adjointOf_16 : decode cX12_adjointOf 16 = .ok (.invokevirtual 452, 3) := by decide +kernel
theorem dX12_adjointOf_19 : decode cX12_adjointOf 19 = .ok (.iload_n 1, 1) := by decide +kernel
theorem dX12_adjointOf_20 : decode cX12_adjointOf 20 = .ok (.invokevirtual 455, 3) := by decide +kernel
theorem dX12_adjointOf_23 : decode cX12_adjointOf 23 = .ok (.ifCond .eq 9, 3) := by decide +kernel
theorem dX12_adjointOf_26 : decode cX12_adjointOf 26 = .ok (.iconst 1, 1) := by decide +kernel
theorem dX12_adjointOf_27 : decode cX12_adjointOf 27 = .ok (.iload_n 3, 1) := by decide +kernel
theorem dX12_adjointOf_28 : decode cX12_adjointOf 28 = .ok (.ishl, 1) := by decide +kernel
theorem dX12_adjointOf_29 : decode cX12_adjointOf 29 = .ok (.goto 4, 3) := by decide +kernel
theorem dX12_adjointOf_32 : decode cX12_adjointOf 32 = .ok (.iconst 0, 1) := by decide +kernel
theorem dX12_adjointOf_33 : decode cX12_adjointOf 33 = .ok (.ior, 1) := by decide +kernel
theorem dX12_adjointOf_34 : decode cX12_adjointOf 34 = .ok (.istore_n 2, 1) := by decide +kernel
theorem dX12_adjointOf_35 : decode cX12_adjointOf 35 = .ok (.iinc 3 1, 3) := by decide +kernel
theorem dX12_adjointOf_38 : decode cX12_adjointOf 38 = .ok (.goto (-34), 3) := by decide +kernel
theorem dX12_adjointOf_41 : decode cX12_adjointOf 41 = .ok (.aload_n 0, 1) := by decide +kernel
theorem dX12_adjointOf_42 : decode cX12_adjointOf 42 = .ok (.iload_n 2, 1) := by decide +kernel
theorem dX12_adjointOf_43 : decode cX12_adjointOf 43 = .ok (.invokevirtual 350, 3) := by decide +kernel
theorem dX12_adjointOf_46 : decode cX12_adjointOf 46 = .ok (.ireturn, 1) := by decide +kernel
theorem dX12_isJoined_0 : decode cX12_isJoined 0 = .ok (.iconst 0, 1) := by decide +kernel
theorem dX12_isJoined_1 : decode cX12_isJoined 1 = .ok (.istore_n 1, 1) := by decide +kernel
theorem dX12_isJoined_2 : decode cX12_isJoined 2 = .ok (.iload_n 1, 1) := by decide +kernel
theorem dX12_isJoined_3 : decode cX12_isJoined 3 = .ok (.aload_n 0, 1) := by decide +kernel
theorem dX12_isJoined_4 : decode cX12_isJoined 4 = .ok (.getfield 18, 3) := by decide +kernel
theorem dX12_isJoined_7 : decode cX12_isJoined 7 = .ok (.iconst 0, 1) := by decide +kernel
theorem dX12_isJoined_8 : decode cX12_isJoined 8 = .ok (.iaload, 1) := by decide +kernel
theorem dX12_isJoined_9 : decode cX12_isJoined 9 = .ok (.if_icmp .ge 21, 3) := by decide +kernel
theorem dX12_isJoined_12 : decode cX12_isJoined 12 = .ok (.aload_n 0, 1) := by decide +kernel
theorem dX12_isJoined_13 : decode cX12_isJoined 13 = .ok (.iload_n 1, 1) := by decide +kernel
theorem dX12_isJoined_14 : decode cX12_isJoined 14 = .ok (.invokevirtual 458, 3) := by decide +kernel
theorem dX12_isJoined_17 : decode cX12_isJoined 17 = .ok (.bipush (-2), 2) := by decide +kernel
theorem dX12_isJoined_19 : decode cX12_isJoined 19 = .ok (.if_icmp .ne 5, 3) := by decide +kernel
theorem dX12_isJoined_22 : decode cX12_isJoined 22 = .ok (.iconst 0, 1) := by decide +kernel
theorem dX12_isJoined_23 : decode cX12_isJoined 23 = .ok (.ireturn, 1) := by decide +kernel
theorem dX12_isJoined_24 : decode cX12_isJoined 24 = .ok (.iinc 1 1, 3) := by decide +kernel
theorem dX12_isJoined_27 : decode cX12_isJoined 27 = .ok (.goto (-25), 3) := by decide +kernel
theorem dX12_isJoined_30 : decode cX12_isJoined 30 = .ok (.iconst 1, 1) := by decide +kernel
theorem dX12_isJoined_31 : decode cX12_isJoined 31 = .ok (.ireturn, 1) := by decide +kernel
theorem dX12_mapped_0 : decode cX12_mapped 0 = .ok (.iload_n 1, 1) := by decide +kernel
theorem dX12_mapped_1 : decode cX12_mapped 1 = .ok (.i2l, 1) := by decide +kernel
theorem dX12_mapped_2 : decode cX12_mapped 2 = .ok (.lconst 0, 1) := by decide +kernel
theorem dX12_mapped_3 : decode cX12_mapped 3 = .ok (.ldc2_w 353, 3) := by decide +kernel
theorem dX12_mapped_6 : decode cX12_mapped 6 = .ok (.invokestatic 82, 3) := by decide +kernel
theorem dX12_mapped_9 : decode cX12_mapped 9 = .ok (.ifCond .ne 5, 3) := by decide +kernel
theorem dX12_mapped_12 : decode cX12_mapped 12 = .ok (.iconst (-1), 1) := by decide +kernel
theorem dX12_mapped_13 : decode cX12_mapped 13 = .ok (.ireturn, 1) := by decide +kernel
theorem dX12_mapped_14 : decode cX12_mapped 14 = .ok (.aload_n 0, 1) := by decide +kernel
theorem dX12_mapped_15 : decode cX12_mapped 15 = .ok (.invokevirtual 461, 3) := by decide +kernel
theorem dX12_mapped_18 : decode cX12_mapped 18 = .ok (.istore_n 2, 1) := by decide +kernel
theorem dX12_mapped_19 : decode cX12_mapped 19 = .ok (.iload_n 1, 1) := by decide +kernel
theorem dX12_mapped_20 : decode cX12_mapped 20 = .ok (.ifCond .ne 13, 3) := by decide +kernel
theorem dX12_mapped_23 : decode cX12_mapped 23 = .ok (.iload_n 2, 1) := by decide +kernel
theorem dX12_mapped_24 : decode cX12_mapped 24 = .ok (.ifCond .eq 7, 3) := by decide +kernel
theorem dX12_mapped_27 : decode cX12_mapped 27 = .ok (.iconst 1, 1) := by decide +kernel
theorem dX12_mapped_28 : decode cX12_mapped 28 = .ok (.goto 4, 3) := by decide +kernel
theorem dX12_mapped_31 : decode cX12_mapped 31 = .ok (.iconst 0, 1) := by decide +kernel
theorem dX12_mapped_32 : decode cX12_mapped 32 = .ok (.ireturn, 1) := by decide +kernel
theorem dX12_mapped_33 : decode cX12_mapped 33 = .ok (.iload_n 2, 1) := by decide +kernel
theorem dX12_mapped_34 : decode cX12_mapped 34 = .ok (.ifCond .ne 6, 3) := by decide +kernel
theorem dX12_mapped_37 : decode cX12_mapped 37 = .ok (.bipush (-2), 2) := by decide +kernel
theorem dX12_mapped_39 : decode cX12_mapped 39 = .ok (.ireturn, 1) := by decide +kernel
theorem dX12_mapped_40 : decode cX12_mapped 40 = .ok (.iload_n 1, 1) := by decide +kernel
theorem dX12_mapped_41 : decode cX12_mapped 41 = .ok (.iconst 1, 1) := by decide +kernel
theorem dX12_mapped_42 : decode cX12_mapped 42 = .ok (.if_icmp .ne 13, 3) := by decide +kernel
theorem dX12_mapped_45 : decode cX12_mapped 45 = .ok (.aload_n 0, 1) := by decide +kernel
theorem dX12_mapped_46 : decode cX12_mapped 46 = .ok (.invokevirtual 464, 3) := by decide +kernel
theorem dX12_mapped_49 : decode cX12_mapped 49 = .ok (.ifCond .eq 17, 3) := by decide +kernel
theorem dX12_mapped_52 : decode cX12_mapped 52 = .ok (.goto 10, 3) := by decide +kernel
theorem dX12_mapped_55 : decode cX12_mapped 55 = .ok (.aload_n 0, 1) := by decide +kernel
theorem dX12_mapped_56 : decode cX12_mapped 56 = .ok (.invokevirtual 467, 3) := by decide +kernel
theorem dX12_mapped_59 : decode cX12_mapped 59 = .ok (.ifCond .eq 7, 3) := by decide +kernel
theorem dX12_mapped_62 : decode cX12_mapped 62 = .ok (.iconst 1, 1) := by decide +kernel
theorem dX12_mapped_63 : decode cX12_mapped 63 = .ok (.goto 4, 3) := by decide +kernel
theorem dX12_mapped_66 : decode cX12_mapped 66 = .ok (.iconst 0, 1) := by decide +kernel
theorem dX12_mapped_67 : decode cX12_mapped 67 = .ok (.ireturn, 1) := by decide +kernel
theorem dX12_adjoint_0 : decode cX12_adjoint 0 = .ok (.aload_n 0, 1) := by decide +kernel
theorem dX12_adjoint_1 : decode cX12_adjoint 1 = .ok (.iload_n 1, 1) := by decide +kernel
theorem dX12_adjoint_2 : decode cX12_adjoint 2 = .ok (.invokevirtual 470, 3) := by decide +kernel
theorem dX12_adjoint_5 : decode cX12_adjoint 5 = .ok (.ifCond .eq 18, 3) := by decide +kernel
theorem dX12_adjoint_8 : decode cX12_adjoint 8 = .ok (.aload_n 0, 1) := by decide +kernel
theorem dX12_adjoint_9 : decode cX12_adjoint 9 = .ok (.invokevirtual 461, 3) := by decide +kernel
theorem dX12_adjoint_12 : decode cX12_adjoint 12 = .ok (.ifCond .eq 11, 3) := by decide +kernel
theorem dX12_adjoint_15 : decode cX12_adjoint 15 = .ok (.aload_n 0, 1) := by decide +kernel
theorem dX12_adjoint_16 : decode cX12_adjoint 16 = .ok (.iload_n 1, 1) := by decide +kernel
theorem dX12_adjoint_17 : decode cX12_adjoint 17 = .ok (.invokevirtual 458, 3) := by decide +kernel
theorem dX12_adjoint_20 : decode cX12_adjoint 20 = .ok (.goto 4, 3) := by decide +kernel
theorem dX12_adjoint_23 : decode cX12_adjoint 23 = .ok (.iconst (-1), 1) := by decide +kernel
theorem dX12_adjoint_24 : decode cX12_adjoint 24 = .ok (.ireturn, 1) := by decide +kernel
theorem dX12_sizeThere_0 : decode cX12_sizeThere 0 = .ok (.iconst 0, 1) := by decide +kernel
theorem dX12_sizeThere_1 : decode cX12_sizeThere 1 = .ok (.istore_n 3, 1) := by decide +kernel
theorem dX12_sizeThere_2 : decode cX12_sizeThere 2 = .ok (.iconst 0, 1) := by decide +kernel
theorem dX12_sizeThere_3 : decode cX12_sizeThere 3 = .ok (.istore 4, 2) := by decide +kernel
theorem dX12_sizeThere_5 : decode cX12_sizeThere 5 = .ok (.iload 4, 2) := by decide +kernel
theorem dX12_sizeThere_7 : decode cX12_sizeThere 7 = .ok (.aload_n 0, 1) := by decide +kernel
theorem dX12_sizeThere_8 : decode cX12_sizeThere 8 = .ok (.getfield 18, 3) := by decide +kernel
theorem dX12_sizeThere_11 : decode cX12_sizeThere 11 = .ok (.iconst 0, 1) := by decide +kernel
theorem dX12_sizeThere_12 : decode cX12_sizeThere 12 = .ok (.iaload, 1) := by decide +kernel
theorem dX12_sizeThere_13 : decode cX12_sizeThere 13 = .ok (.if_icmp .ge 37, 3) := by decide +kernel
theorem dX12_sizeThere_16 : decode cX12_sizeThere 16 = .ok (.iload_n 3, 1) := by decide +kernel
theorem dX12_sizeThere_17 : decode cX12_sizeThere 17 = .ok (.aload_n 0, 1) := by decide +kernel
theorem dX12_sizeThere_18 : decode cX12_sizeThere 18 = .ok (.iload_n 1, 1) := by decide +kernel
theorem dX12_sizeThere_19 : decode cX12_sizeThere 19 = .ok (.iload 4, 2) := by decide +kernel
theorem dX12_sizeThere_21 : decode cX12_sizeThere 21 = .ok (.invokevirtual 455, 3) := by decide +kernel
theorem dX12_sizeThere_24 : decode cX12_sizeThere 24 = .ok (.ifCond .eq 17, 3) := by decide +kernel
theorem dX12_sizeThere_27 : decode cX12_sizeThere 27 = .ok (.aload_n 0, 1) := by decide +kernel
theorem dX12_sizeThere_28 : decode cX12_sizeThere 28 = .ok (.iload 4, 2) := by decide +kernel
theorem dX12_sizeThere_30 : decode cX12_sizeThere 30 = .ok (.iload_n 2, 1) := by decide +kernel
theorem dX12_sizeThere_31 : decode cX12_sizeThere 31 = .ok (.invokevirtual 455, 3) := by decide +kernel
theorem dX12_sizeThere_34 : decode cX12_sizeThere 34 = .ok (.ifCond .eq 7, 3) := by decide +kernel
theorem dX12_sizeThere_37 : decode cX12_sizeThere 37 = .ok (.iconst 1, 1) := by decide +kernel
theorem dX12_sizeThere_38 : decode cX12_sizeThere 38 = .ok (.goto 4, 3) := by decide +kernel
theorem dX12_sizeThere_41 : decode cX12_sizeThere 41 = .ok (.iconst 0, 1) := by decide +kernel
theorem dX12_sizeThere_42 : decode cX12_sizeThere 42 = .ok (.iadd, 1) := by decide +kernel
theorem dX12_sizeThere_43 : decode cX12_sizeThere 43 = .ok (.istore_n 3, 1) := by decide +kernel
theorem dX12_sizeThere_44 : decode cX12_sizeThere 44 = .ok (.iinc 4 1, 3) := by decide +kernel
theorem dX12_sizeThere_47 : decode cX12_sizeThere 47 = .ok (.goto (-42), 3) := by decide +kernel
theorem dX12_sizeThere_50 : decode cX12_sizeThere 50 = .ok (.iload_n 3, 1) := by decide +kernel
theorem dX12_sizeThere_51 : decode cX12_sizeThere 51 = .ok (.ireturn, 1) := by decide +kernel
theorem dX12_laysThere_0 : decode cX12_laysThere 0 = .ok (.iconst 1, 1) := by decide +kernel
theorem dX12_laysThere_1 : decode cX12_laysThere 1 = .ok (.istore_n 2, 1) := by decide +kernel
theorem dX12_laysThere_2 : decode cX12_laysThere 2 = .ok (.iload_n 2, 1) := by decide +kernel
theorem dX12_laysThere_3 : decode cX12_laysThere 3 = .ok (.aload_n 0, 1) := by decide +kernel
theorem dX12_laysThere_4 : decode cX12_laysThere 4 = .ok (.getfield 18, 3) := by decide +kernel
theorem dX12_laysThere_7 : decode cX12_laysThere 7 = .ok (.iconst 0, 1) := by decide +kernel
theorem dX12_laysThere_8 : decode cX12_laysThere 8 = .ok (.iaload, 1) := by decide +kernel
theorem dX12_laysThere_9 : decode cX12_laysThere 9 = .ok (.if_icmp .gt 127, 3) := by decide +kernel
theorem dX12_laysThere_12 : decode cX12_laysThere 12 = .ok (.iconst 0, 1) := by decide +kernel
theorem dX12_laysThere_13 : decode cX12_laysThere 13 = .ok (.istore_n 3, 1) := by decide +kernel
theorem dX12_laysThere_14 : decode cX12_laysThere 14 = .ok (.iload_n 3, 1) := by decide +kernel
theorem dX12_laysThere_15 : decode cX12_laysThere 15 = .ok (.aload_n 0, 1) := by decide +kernel
theorem dX12_laysThere_16 : decode cX12_laysThere 16 = .ok (.getfield 18, 3) := by decide +kernel
theorem dX12_laysThere_19 : decode cX12_laysThere 19 = .ok (.iconst 0, 1) := by decide +kernel
theorem dX12_laysThere_20 : decode cX12_laysThere 20 = .ok (.iaload, 1) := by decide +kernel
theorem dX12_laysThere_21 : decode cX12_laysThere 21 = .ok (.if_icmp .ge 109, 3) := by decide +kernel
theorem dX12_laysThere_24 : decode cX12_laysThere 24 = .ok (.aload_n 0, 1) := by decide +kernel
theorem dX12_laysThere_25 : decode cX12_laysThere 25 = .ok (.iload_n 3, 1) := by decide +kernel
theorem dX12_laysThere_26 : decode cX12_laysThere 26 = .ok (.iload_n 1, 1) := by decide +kernel
theorem dX12_laysThere_27 : decode cX12_laysThere 27 = .ok (.invokevirtual 455, 3) := by decide +kernel
theorem dX12_laysThere_30 : decode cX12_laysThere 30 = .ok (.ifCond .eq 94, 3) := by decide +kernel
theorem dX12_laysThere_33 : decode cX12_laysThere 33 = .ok (.aload_n 0, 1) := by decide +kernel
theorem dX12_laysThere_34 : decode cX12_laysThere 34 = .ok (.iload_n 3, 1) := by decide +kernel
theorem dX12_laysThere_35 : decode cX12_laysThere 35 = .ok (.iload_n 1, 1) := by decide +kernel
theorem dX12_laysThere_36 : decode cX12_laysThere 36 = .ok (.invokevirtual 473, 3) := by decide +kernel
theorem dX12_laysThere_39 : decode cX12_laysThere 39 = .ok (.iload_n 2, 1) := by decide +kernel
theorem dX12_laysThere_40 : decode cX12_laysThere 40 = .ok (.if_icmp .eq 6, 3) := by decide +kernel
theorem dX12_laysThere_43 : decode cX12_laysThere 43 = .ok (.goto 81, 3) := by decide +kernel
theorem dX12_laysThere_46 : decode cX12_laysThere 46 = .ok (.aload_n 0, 1) := by decide +kernel
theorem dX12_laysThere_47 : decode cX12_laysThere 47 = .ok (.getfield 72, 3) := by decide +kernel
theorem dX12_laysThere_50 : decode cX12_laysThere 50 = .ok (.iload_n 3, 1) := by decide +kernel
theorem dX12_laysThere_51 : decode cX12_laysThere 51 = .ok (.iload_n 3, 1) := by decide +kernel
theorem dX12_laysThere_52 : decode cX12_laysThere 52 = .ok (.iload_n 1, 1) := by decide +kernel
theorem dX12_laysThere_53 : decode cX12_laysThere 53 = .ok (.if_icmp .ne 7, 3) := by decide +kernel
theorem dX12_laysThere_56 : decode cX12_laysThere 56 = .ok (.lconst 1, 1) := by decide +kernel
theorem dX12_laysThere_57 : decode cX12_laysThere 57 = .ok (.goto 4, 3) := by decide +kernel
theorem dX12_laysThere_60 : decode cX12_laysThere 60 = .ok (.lconst 0, 1) := by decide +kernel
theorem dX12_laysThere_61 : decode cX12_laysThere 61 = .ok (.lastore, 1) := by decide +kernel
theorem dX12_laysThere_62 : decode cX12_laysThere 62 = .ok (.iconst 0, 1) := by decide +kernel
theorem dX12_laysThere_63 : decode cX12_laysThere 63 = .ok (.istore 4, 2) := by decide +kernel
theorem dX12_laysThere_65 : decode cX12_laysThere 65 = .ok (.iload 4, 2) := by decide +kernel
theorem dX12_laysThere_67 : decode cX12_laysThere 67 = .ok (.aload_n 0, 1) := by decide +kernel
theorem dX12_laysThere_68 : decode cX12_laysThere 68 = .ok (.getfield 18, 3) := by decide +kernel
theorem dX12_laysThere_71 : decode cX12_laysThere 71 = .ok (.iconst 0, 1) := by decide +kernel
theorem dX12_laysThere_72 : decode cX12_laysThere 72 = .ok (.iaload, 1) := by decide +kernel
theorem dX12_laysThere_73 : decode cX12_laysThere 73 = .ok (.if_icmp .ge 51, 3) := by decide +kernel
theorem dX12_laysThere_76 : decode cX12_laysThere 76 = .ok (.iload 4, 2) := by decide +kernel
theorem dX12_laysThere_78 : decode cX12_laysThere 78 = .ok (.iload_n 3, 1) := by decide +kernel
theorem dX12_laysThere_79 : decode cX12_laysThere 79 = .ok (.if_icmp .eq 39, 3) := by decide +kernel
theorem dX12_laysThere_82 : decode cX12_laysThere 82 = .ok (.aload_n 0, 1) := by decide +kernel
theorem dX12_laysThere_83 : decode cX12_laysThere 83 = .ok (.iload_n 3, 1) := by decide +kernel
theorem dX12_laysThere_84 : decode cX12_laysThere 84 = .ok (.iload 4, 2) := by decide +kernel
theorem dX12_laysThere_86 : decode cX12_laysThere 86 = .ok (.invokevirtual 455, 3) := by decide +kernel
theorem dX12_laysThere_89 : decode cX12_laysThere 89 = .ok (.ifCond .eq 29, 3) := by decide +kernel
theorem dX12_laysThere_92 : decode cX12_laysThere 92 = .ok (.aload_n 0, 1) := by decide +kernel
theorem dX12_laysThere_93 : decode cX12_laysThere 93 = .ok (.iload 4, 2) := by decide +kernel
theorem dX12_laysThere_95 : decode cX12_laysThere 95 = .ok (.iload_n 1, 1) := by decide +kernel
theorem dX12_laysThere_96 : decode cX12_laysThere 96 = .ok (.invokevirtual 455, 3) := by decide +kernel
theorem dX12_laysThere_99 : decode cX12_laysThere 99 = .ok (.ifCond .eq 19, 3) := by decide +kernel
theorem dX12_laysThere_102 : decode cX12_laysThere 102 = .ok (.aload_n 0, 1) := by decide +kernel
theorem dX12_laysThere_103 : decode cX12_laysThere 103 = .ok (.getfield 72, 3) := by decide +kernel
theorem dX12_laysThere_106 : decode cX12_laysThere 106 = .ok (.iload_n 3, 1) := by decide +kernel
theorem dX12_laysThere_107 : decode cX12_laysThere 107 = .ok (.dup2, 1) := by decide +kernel
theorem dX12_laysThere_108 : decode cX12_laysThere 108 = .ok (.laload, 1) := by decide +kernel
theorem dX12_laysThere_109 : decode cX12_laysThere 109 = .ok (.aload_n 0, 1) := by decide +kernel
theorem dX12_laysThere_110 : decode cX12_laysThere 110 = .ok (.getfield 72, 3) := by decide +kernel
theorem dX12_laysThere_113 : decode cX12_laysThere 113 = .ok (.iload 4, 2) := by decide +kernel
theorem dX12_laysThere_115 : decode cX12_laysThere 115 = .ok (.laload, 1) := by decide +kernel
theorem dX12_laysThere_116 : decode cX12_laysThere 116 = .ok (.lsub, 1) := by decide +kernel
theorem dX12_laysThere_117 : decode cX12_laysThere 117 = .ok (.lastore, 1) := by decide +kernel
theorem dX12_laysThere_118 : decode cX12_laysThere 118 = .ok (.iinc 4 1, 3) := by decide +kernel
theorem dX12_laysThere_121 : decode cX12_laysThere 121 = .ok (.goto (-56), 3) := by decide +kernel
theorem dX12_laysThere_124 : decode cX12_laysThere 124 = .ok (.iinc 3 1, 3) := by decide +kernel
theorem dX12_laysThere_127 : decode cX12_laysThere 127 = .ok (.goto (-113), 3) := by decide +kernel
theorem dX12_laysThere_130 : decode cX12_laysThere 130 = .ok (.iinc 2 1, 3) := by decide +kernel
theorem dX12_laysThere_133 : decode cX12_laysThere 133 = .ok (.goto (-131), 3) := by decide +kernel
theorem dX12_laysThere_136 : decode cX12_laysThere 136 = .ok (.return_, 1) := by decide +kernel
theorem dX12_sideHere_0 : decode cX12_sideHere 0 = .ok (.aload_n 0, 1) := by decide +kernel
theorem dX12_sideHere_1 : decode cX12_sideHere 1 = .ok (.invokevirtual 283, 3) := by decide +kernel
theorem dX12_sideHere_4 : decode cX12_sideHere 4 = .ok (.lconst 0, 1) := by decide +kernel
theorem dX12_sideHere_5 : decode cX12_sideHere 5 = .ok (.lstore_n 3, 1) := by decide +kernel
theorem dX12_sideHere_6 : decode cX12_sideHere 6 = .ok (.iconst 0, 1) := by decide +kernel
theorem dX12_sideHere_7 : decode cX12_sideHere 7 = .ok (.istore 5, 2) := by decide +kernel
theorem dX12_sideHere_9 : decode cX12_sideHere 9 = .ok (.iload 5, 2) := by decide +kernel
theorem dX12_sideHere_11 : decode cX12_sideHere 11 = .ok (.aload_n 0, 1) := by decide +kernel
theorem dX12_sideHere_12 : decode cX12_sideHere 12 = .ok (.invokevirtual 78, 3) := by decide +kernel
theorem dX12_sideHere_15 : decode cX12_sideHere 15 = .ok (.if_icmp .ge 44, 3) := by decide +kernel
theorem dX12_sideHere_18 : decode cX12_sideHere 18 = .ok (.aload_n 0, 1) := by decide +kernel
theorem dX12_sideHere_19 : decode cX12_sideHere 19 = .ok (.iload_n 1, 1) := by decide +kernel
theorem dX12_sideHere_20 : decode cX12_sideHere 20 = .ok (.iload 5, 2) := by decide +kernel
theorem dX12_sideHere_22 : decode cX12_sideHere 22 = .ok (.invokevirtual 94, 3) := by decide +kernel
theorem dX12_sideHere_25 : decode cX12_sideHere 25 = .ok (.ifCond .eq 28, 3) := by decide +kernel
theorem dX12_sideHere_28 : decode cX12_sideHere 28 = .ok (.aload_n 0, 1) := by decide +kernel
theorem dX12_sideHere_29 : decode cX12_sideHere 29 = .ok (.iload 5, 2) := by decide +kernel
theorem dX12_sideHere_31 : decode cX12_sideHere 31 = .ok (.invokevirtual 452, 3) := by decide +kernel
theorem dX12_sideHere_34 : decode cX12_sideHere 34 = .ok (.iload_n 2, 1) := by decide +kernel
theorem dX12_sideHere_35 : decode cX12_sideHere 35 = .ok (.if_icmp .ne 18, 3) := by decide +kernel
theorem dX12_sideHere_38 : decode cX12_sideHere 38 = .ok (.lload_n 3, 1) := by decide +kernel
theorem dX12_sideHere_39 : decode cX12_sideHere 39 = .ok (.aload_n 0, 1) := by decide +kernel
theorem dX12_sideHere_40 : decode cX12_sideHere 40 = .ok (.getfield 35, 3) := by decide +kernel
theorem dX12_sideHere_43 : decode cX12_sideHere 43 = .ok (.bipush 16, 2) := by decide +kernel
theorem dX12_sideHere_45 : decode cX12_sideHere 45 = .ok (.iload_n 1, 1) := by decide +kernel
theorem dX12_sideHere_46 : decode cX12_sideHere 46 = .ok (.imul, 1) := by decide +kernel
theorem dX12_sideHere_47 : decode cX12_sideHere 47 = .ok (.iload 5, 2) := by decide +kernel
theorem dX12_sideHere_49 : decode cX12_sideHere 49 = .ok (.iadd, 1) := by decide +kernel
theorem dX12_sideHere_50 : decode cX12_sideHere 50 = .ok (.laload, 1) := by decide +kernel
theorem dX12_sideHere_51 : decode cX12_sideHere 51 = .ok (.ladd, 1) := by decide +kernel
theorem dX12_sideHere_52 : decode cX12_sideHere 52 = .ok (.lstore_n 3, 1) := by decide +kernel
theorem dX12_sideHere_53 : decode cX12_sideHere 53 = .ok (.iinc 5 1, 3) := by decide +kernel
theorem dX12_sideHere_56 : decode cX12_sideHere 56 = .ok (.goto (-47), 3) := by decide +kernel
theorem dX12_sideHere_59 : decode cX12_sideHere 59 = .ok (.lload_n 3, 1) := by decide +kernel
theorem dX12_sideHere_60 : decode cX12_sideHere 60 = .ok (.lreturn, 1) := by decide +kernel
theorem dX12_sideThere_0 : decode cX12_sideThere 0 = .ok (.aload_n 0, 1) := by decide +kernel
theorem dX12_sideThere_1 : decode cX12_sideThere 1 = .ok (.iload_n 2, 1) := by decide +kernel
theorem dX12_sideThere_2 : decode cX12_sideThere 2 = .ok (.invokevirtual 476, 3) := by decide +kernel
theorem dX12_sideThere_5 : decode cX12_sideThere 5 = .ok (.lconst 0, 1) := by decide +kernel
theorem dX12_sideThere_6 : decode cX12_sideThere 6 = .ok (.lstore_n 3, 1) := by decide +kernel
theorem dX12_sideThere_7 : decode cX12_sideThere 7 = .ok (.iconst 0, 1) := by decide +kernel
theorem dX12_sideThere_8 : decode cX12_sideThere 8 = .ok (.istore 5, 2) := by decide +kernel
theorem dX12_sideThere_10 : decode cX12_sideThere 10 = .ok (.iload 5, 2) := by decide +kernel
theorem dX12_sideThere_12 : decode cX12_sideThere 12 = .ok (.aload_n 0, 1) := by decide +kernel
theorem dX12_sideThere_13 : decode cX12_sideThere 13 = .ok (.getfield 18, 3) := by decide +kernel
theorem dX12_sideThere_16 : decode cX12_sideThere 16 = .ok (.iconst 0, 1) := by decide +kernel
theorem dX12_sideThere_17 : decode cX12_sideThere 17 = .ok (.iaload, 1) := by decide +kernel
theorem dX12_sideThere_18 : decode cX12_sideThere 18 = .ok (.if_icmp .ge 39, 3) := by decide +kernel
theorem dX12_sideThere_21 : decode cX12_sideThere 21 = .ok (.aload_n 0, 1) := by decide +kernel
theorem dX12_sideThere_22 : decode cX12_sideThere 22 = .ok (.iload 5, 2) := by decide +kernel
theorem dX12_sideThere_24 : decode cX12_sideThere 24 = .ok (.iload_n 2, 1) := by decide +kernel
theorem dX12_sideThere_25 : decode cX12_sideThere 25 = .ok (.invokevirtual 455, 3) := by decide +kernel
theorem dX12_sideThere_28 : decode cX12_sideThere 28 = .ok (.ifCond .eq 23, 3) := by decide +kernel
theorem dX12_sideThere_31 : decode cX12_sideThere 31 = .ok (.aload_n 0, 1) := by decide +kernel
theorem dX12_sideThere_32 : decode cX12_sideThere 32 = .ok (.iload 5, 2) := by decide +kernel
theorem dX12_sideThere_34 : decode cX12_sideThere 34 = .ok (.invokevirtual 458, 3) := by decide +kernel
theorem dX12_sideThere_37 : decode cX12_sideThere 37 = .ok (.iload_n 1, 1) := by decide +kernel
theorem dX12_sideThere_38 : decode cX12_sideThere 38 = .ok (.if_icmp .ne 13, 3) := by decide +kernel
theorem dX12_sideThere_41 : decode cX12_sideThere 41 = .ok (.lload_n 3, 1) := by decide +kernel
theorem dX12_sideThere_42 : decode cX12_sideThere 42 = .ok (.aload_n 0, 1) := by decide +kernel
theorem dX12_sideThere_43 : decode cX12_sideThere 43 = .ok (.getfield 72, 3) := by decide +kernel
theorem dX12_sideThere_46 : decode cX12_sideThere 46 = .ok (.iload 5, 2) := by decide +kernel
theorem dX12_sideThere_48 : decode cX12_sideThere 48 = .ok (.laload, 1) := by decide +kernel
theorem dX12_sideThere_49 : decode cX12_sideThere 49 = .ok (.ladd, 1) := by decide +kernel
theorem dX12_sideThere_50 : decode cX12_sideThere 50 = .ok (.lstore_n 3, 1) := by decide +kernel
theorem dX12_sideThere_51 : decode cX12_sideThere 51 = .ok (.iinc 5 1, 3) := by decide +kernel
theorem dX12_sideThere_54 : decode cX12_sideThere 54 = .ok (.goto (-44), 3) := by decide +kernel
theorem dX12_sideThere_57 : decode cX12_sideThere 57 = .ok (.lload_n 3, 1) := by decide +kernel
theorem dX12_sideThere_58 : decode cX12_sideThere 58 = .ok (.lreturn, 1) := by decide +kernel
theorem dX12_side_0 : decode cX12_side 0 = .ok (.aload_n 0, 1) := by decide +kernel
theorem dX12_side_1 : decode cX12_side 1 = .ok (.iload_n 1, 1) := by decide +kernel
theorem dX12_side_2 : decode cX12_side 2 = .ok (.invokevirtual 100, 3) := by decide +kernel
theorem dX12_side_5 : decode cX12_side 5 = .ok (.ifCond .eq 28, 3) := by decide +kernel
theorem dX12_side_8 : decode cX12_side 8 = .ok (.aload_n 0, 1) := by decide +kernel
theorem dX12_side_9 : decode cX12_side 9 = .ok (.iload_n 2, 1) := by decide +kernel
theorem dX12_side_10 : decode cX12_side 10 = .ok (.invokevirtual 470, 3) := by decide +kernel
theorem dX12_side_13 : decode cX12_side 13 = .ok (.ifCond .eq 20, 3) := by decide +kernel
theorem dX12_side_16 : decode cX12_side 16 = .ok (.iload_n 3, 1) := by decide +kernel
theorem dX12_side_17 : decode cX12_side 17 = .ok (.i2l, 1) := by decide +kernel
theorem dX12_side_18 : decode cX12_side 18 = .ok (.lconst 0, 1) := by decide +kernel
theorem dX12_side_19 : decode cX12_side 19 = .ok (.lconst 1, 1) := by decide +kernel
theorem dX12_side_20 : decode cX12_side 20 = .ok (.invokestatic 82, 3) := by decide +kernel
theorem dX12_side_23 : decode cX12_side 23 = .ok (.ifCond .eq 10, 3) := by decide +kernel
theorem dX12_side_26 : decode cX12_side 26 = .ok (.aload_n 0, 1) := by decide +kernel
theorem dX12_side_27 : decode cX12_side 27 = .ok (.invokevirtual 461, 3) := by decide +kernel
theorem dX12_side_30 : decode cX12_side 30 = .ok (.ifCond .ne 7, 3) := by decide +kernel
theorem dX12_side_33 : decode cX12_side 33 = .ok (.ldc2_w 269, 3) := by decide +kernel
theorem dX12_side_36 : decode cX12_side 36 = .ok (.lreturn, 1) := by decide +kernel
theorem dX12_side_37 : decode cX12_side 37 = .ok (.iload_n 3, 1) := by decide +kernel
theorem dX12_side_38 : decode cX12_side 38 = .ok (.iconst 1, 1) := by decide +kernel
theorem dX12_side_39 : decode cX12_side 39 = .ok (.if_icmp .ne 14, 3) := by decide +kernel
theorem dX12_side_42 : decode cX12_side 42 = .ok (.aload_n 0, 1) := by decide +kernel
theorem dX12_side_43 : decode cX12_side 43 = .ok (.invokevirtual 467, 3) := by decide +kernel
theorem dX12_side_46 : decode cX12_side 46 = .ok (.ifCond .ne 7, 3) := by decide +kernel
theorem dX12_side_49 : decode cX12_side 49 = .ok (.ldc2_w 269, 3) := by decide +kernel
theorem dX12_side_52 : decode cX12_side 52 = .ok (.lreturn, 1) := by decide +kernel
theorem dX12_side_53 : decode cX12_side 53 = .ok (.iload_n 3, 1) := by decide +kernel
theorem dX12_side_54 : decode cX12_side 54 = .ok (.ifCond .ne 12, 3) := by decide +kernel
theorem dX12_side_57 : decode cX12_side 57 = .ok (.aload_n 0, 1) := by decide +kernel
theorem dX12_side_58 : decode cX12_side 58 = .ok (.iload_n 1, 1) := by decide +kernel
theorem dX12_side_59 : decode cX12_side 59 = .ok (.iload_n 2, 1) := by decide +kernel
theorem dX12_side_60 : decode cX12_side 60 = .ok (.invokevirtual 479, 3) := by decide +kernel
theorem dX12_side_63 : decode cX12_side 63 = .ok (.goto 9, 3) := by decide +kernel
theorem dX12_side_66 : decode cX12_side 66 = .ok (.aload_n 0, 1) := by decide +kernel
theorem dX12_side_67 : decode cX12_side 67 = .ok (.iload_n 1, 1) := by decide +kernel
theorem dX12_side_68 : decode cX12_side 68 = .ok (.iload_n 2, 1) := by decide +kernel
theorem dX12_side_69 : decode cX12_side 69 = .ok (.invokevirtual 482, 3) := by decide +kernel
theorem dX12_side_72 : decode cX12_side 72 = .ok (.lreturn, 1) := by decide +kernel
theorem dX12_coefficient_0 : decode cX12_coefficient 0 = .ok (.iconst 1, 1) := by decide +kernel
theorem dX12_coefficient_1 : decode cX12_coefficient 1 = .ok (.aload_n 0, 1) := by decide +kernel
theorem dX12_coefficient_2 : decode cX12_coefficient 2 = .ok (.invokevirtual 78, 3) := by decide +kernel
theorem dX12_coefficient_5 : decode cX12_coefficient 5 = .ok (.ishl, 1) := by decide +kernel
theorem dX12_coefficient_6 : decode cX12_coefficient 6 = .ok (.iconst 1, 1) := by decide +kernel
theorem dX12_coefficient_7 : decode cX12_coefficient 7 = .ok (.isub, 1) := by decide +kernel
theorem dX12_coefficient_8 : decode cX12_coefficient 8 = .ok (.istore_n 2, 1) := by decide +kernel
theorem dX12_coefficient_9 : decode cX12_coefficient 9 = .ok (.aload_n 0, 1) := by decide +kernel
theorem dX12_coefficient_10 : decode cX12_coefficient 10 = .ok (.iload_n 2, 1) := by decide +kernel
theorem dX12_coefficient_11 : decode cX12_coefficient 11 = .ok (.invokevirtual 347, 3) := by decide +kernel
theorem dX12_coefficient_14 : decode cX12_coefficient 14 = .ok (.istore_n 3, 1) := by decide +kernel
theorem dX12_coefficient_15 : decode cX12_coefficient 15 = .ok (.aload_n 0, 1) := by decide +kernel
theorem dX12_coefficient_16 : decode cX12_coefficient 16 = .ok (.invokevirtual 485, 3) := by decide +kernel
theorem dX12_coefficient_19 : decode cX12_coefficient 19 = .ok (.istore 4, 2) := by decide +kernel
theorem dX12_coefficient_21 : decode cX12_coefficient 21 = .ok (.iload_n 3, 1) := by decide +kernel
theorem dX12_coefficient_22 : decode cX12_coefficient 22 = .ok (.bipush (-2), 2) := by decide +kernel
theorem dX12_coefficient_24 : decode cX12_coefficient 24 = .ok (.if_icmp .eq 22, 3) := by decide +kernel
theorem dX12_coefficient_27 : decode cX12_coefficient 27 = .ok (.aload_n 0, 1) := by decide +kernel
theorem dX12_coefficient_28 : decode cX12_coefficient 28 = .ok (.invokevirtual 488, 3) := by decide +kernel
theorem dX12_coefficient_31 : decode cX12_coefficient 31 = .ok (.ifCond .eq 15, 3) := by decide +kernel
theorem dX12_coefficient_34 : decode cX12_coefficient 34 = .ok (.iload_n 1, 1) := by decide +kernel
theorem dX12_coefficient_35 : decode cX12_coefficient 35 = .ok (.i2l, 1) := by decide +kernel
theorem dX12_coefficient_36 : decode cX12_coefficient 36 = .ok (.lconst 0, 1) := by decide +kernel
theorem dX12_coefficient_37 : decode cX12_coefficient 37 = .ok (.iload 4, 2) := by decide +kernel
theorem dX12_coefficient_39 : decode cX12_coefficient 39 = .ok (.i2l, 1) := by decide +kernel
theorem dX12_coefficient_40 : decode cX12_coefficient 40 = .ok (.invokestatic 82, 3) := by decide +kernel
theorem dX12_coefficient_43 : decode cX12_coefficient 43 = .ok (.ifCond .ne 7, 3) := by decide +kernel
theorem dX12_coefficient_46 : decode cX12_coefficient 46 = .ok (.ldc2_w 269, 3) := by decide +kernel
theorem dX12_coefficient_49 : decode cX12_coefficient 49 = .ok (.lreturn, 1) := by decide +kernel
theorem dX12_coefficient_50 : decode cX12_coefficient 50 = .ok (.aload_n 0, 1) := by decide +kernel
theorem dX12_coefficient_51 : decode cX12_coefficient 51 = .ok (.invokevirtual 283, 3) := by decide +kernel
theorem dX12_coefficient_54 : decode cX12_coefficient 54 = .ok (.lconst 0, 1) := by decide +kernel
theorem dX12_coefficient_55 : decode cX12_coefficient 55 = .ok (.lstore 5, 2) := by decide +kernel
theorem dX12_coefficient_57 : decode cX12_coefficient 57 = .ok (.iconst 0, 1) := by decide +kernel
theorem dX12_coefficient_58 : decode cX12_coefficient 58 = .ok (.istore 7, 2) := by decide +kernel
theorem dX12_coefficient_60 : decode cX12_coefficient 60 = .ok (.iload 7, 2) := by decide +kernel
theorem dX12_coefficient_62 : decode cX12_coefficient 62 = .ok (.aload_n 0, 1) := by decide +kernel
theorem dX12_coefficient_63 : decode cX12_coefficient 63 = .ok (.invokevirtual 78, 3) := by decide +kernel
theorem dX12_coefficient_66 : decode cX12_coefficient 66 = .ok (.if_icmp .ge 40, 3) := by decide +kernel
theorem dX12_coefficient_69 : decode cX12_coefficient 69 = .ok (.aload_n 0, 1) := by decide +kernel
theorem dX12_coefficient_70 : decode cX12_coefficient 70 = .ok (.getfield 44, 3) := by decide +kernel
theorem dX12_coefficient_73 : decode cX12_coefficient 73 = .ok (.iload 7, 2) := by decide +kernel
theorem dX12_coefficient_75 : decode cX12_coefficient 75 = .ok (.iaload, 1) := by decide +kernel
theorem dX12_coefficient_76 : decode cX12_coefficient 76 = .ok (.iload 4, 2) := by decide +kernel
theorem dX12_coefficient_78 : decode cX12_coefficient 78 = .ok (.iload_n 1, 1) := by decide +kernel
theorem dX12_coefficient_79 : decode cX12_coefficient 79 = .ok (.isub, 1) := by decide +kernel
theorem dX12_coefficient_80 : decode cX12_coefficient 80 = .ok (.if_icmp .ne 20, 3) := by decide +kernel
theorem dX12_coefficient_83 : decode cX12_coefficient 83 = .ok (.lload 5, 2) := by decide +kernel
theorem dX12_coefficient_85 : decode cX12_coefficient 85 = .ok (.aload_n 0, 1) := by decide +kernel
theorem dX12_coefficient_86 : decode cX12_coefficient 86 = .ok (.getfield 35, 3) := by decide +kernel
theorem dX12_coefficient_89 : decode cX12_coefficient 89 = .ok (.bipush 16, 2) := by decide +kernel
theorem dX12_coefficient_91 : decode cX12_coefficient 91 = .ok (.iload_n 3, 1) := by decide +kernel
theorem dX12_coefficient_92 : decode cX12_coefficient 92 = .ok (.imul, 1) := by decide +kernel
theorem dX12_coefficient_93 : decode cX12_coefficient 93 = .ok (.iload 7, 2) := by decide +kernel
theorem dX12_coefficient_95 : decode cX12_coefficient 95 = .ok (.iadd, 1) := by decide +kernel
theorem dX12_coefficient_96 : decode cX12_coefficient 96 = .ok (.laload, 1) := by decide +kernel
theorem dX12_coefficient_97 : decode cX12_coefficient 97 = .ok (.ladd, 1) := by decide +kernel
theorem dX12_coefficient_98 : decode cX12_coefficient 98 = .ok (.lstore 5, 2) := by decide +kernel
theorem dX12_coefficient_100 : decode cX12_coefficient 100 = .ok (.iinc 7 1, 3) := by decide +kernel
theorem dX12_coefficient_103 : decode cX12_coefficient 103 = .ok (.goto (-43), 3) := by decide +kernel
theorem dX12_coefficient_106 : decode cX12_coefficient 106 = .ok (.lload 5, 2) := by decide +kernel
theorem dX12_coefficient_108 : decode cX12_coefficient 108 = .ok (.lreturn, 1) := by decide +kernel
theorem dX12_pairsBelow_0 : decode cX12_pairsBelow 0 = .ok (.iconst 0, 1) := by decide +kernel
theorem dX12_pairsBelow_1 : decode cX12_pairsBelow 1 = .ok (.istore_n 1, 1) := by decide +kernel
theorem dX12_pairsBelow_2 : decode cX12_pairsBelow 2 = .ok (.iconst 0, 1) := by decide +kernel
theorem dX12_pairsBelow_3 : decode cX12_pairsBelow 3 = .ok (.istore_n 2, 1) := by decide +kernel
theorem dX12_pairsBelow_4 : decode cX12_pairsBelow 4 = .ok (.iload_n 2, 1) := by decide +kernel
theorem dX12_pairsBelow_5 : decode cX12_pairsBelow 5 = .ok (.aload_n 0, 1) := by decide +kernel
theorem dX12_pairsBelow_6 : decode cX12_pairsBelow 6 = .ok (.invokevirtual 78, 3) := by decide +kernel
theorem dX12_pairsBelow_9 : decode cX12_pairsBelow 9 = .ok (.if_icmp .ge 22, 3) := by decide +kernel
theorem dX12_pairsBelow_12 : decode cX12_pairsBelow 12 = .ok (.iload_n 1, 1) := by decide +kernel
theorem dX12_pairsBelow_13 : decode cX12_pairsBelow 13 = .ok (.aload_n 0, 1) := by decide +kernel
theorem dX12_pairsBelow_14 : decode cX12_pairsBelow 14 = .ok (.iload_n 2, 1) := by decide +kernel
theorem dX12_pairsBelow_15 : decode cX12_pairsBelow 15 = .ok (.invokevirtual 86, 3) := by decide +kernel
theorem dX12_pairsBelow_18 : decode cX12_pairsBelow 18 = .ok (.invokestatic 111, 3) := by decide +kernel
theorem dX12_pairsBelow_21 : decode cX12_pairsBelow 21 = .ok (.iconst 1, 1) := by decide +kernel
theorem dX12_pairsBelow_22 : decode cX12_pairsBelow 22 = .ok (.isub, 1) := by decide +kernel
theorem dX12_pairsBelow_23 : decode cX12_pairsBelow 23 = .ok (.iadd, 1) := by decide +kernel
theorem dX12_pairsBelow_24 : decode cX12_pairsBelow 24 = .ok (.istore_n 1, 1) := by decide +kernel
theorem dX12_pairsBelow_25 : decode cX12_pairsBelow 25 = .ok (.iinc 2 1, 3) := by decide +kernel
theorem dX12_pairsBelow_28 : decode cX12_pairsBelow 28 = .ok (.goto (-24), 3) := by decide +kernel
theorem dX12_pairsBelow_31 : decode cX12_pairsBelow 31 = .ok (.iload_n 1, 1) := by decide +kernel
theorem dX12_pairsBelow_32 : decode cX12_pairsBelow 32 = .ok (.ireturn, 1) := by decide +kernel
theorem dX12_areAllJoined_0 : decode cX12_areAllJoined 0 = .ok (.iconst 0, 1) := by decide +kernel
theorem dX12_areAllJoined_1 : decode cX12_areAllJoined 1 = .ok (.istore_n 1, 1) := by decide +kernel
theorem dX12_areAllJoined_2 : decode cX12_areAllJoined 2 = .ok (.iload_n 1, 1) := by decide +kernel
theorem dX12_areAllJoined_3 : decode cX12_areAllJoined 3 = .ok (.aload_n 0, 1) := by decide +kernel
theorem dX12_areAllJoined_4 : decode cX12_areAllJoined 4 = .ok (.invokevirtual 78, 3) := by decide +kernel
theorem dX12_areAllJoined_7 : decode cX12_areAllJoined 7 = .ok (.if_icmp .ge 46, 3) := by decide +kernel
theorem dX12_areAllJoined_10 : decode cX12_areAllJoined 10 = .ok (.iconst 0, 1) := by decide +kernel
theorem dX12_areAllJoined_11 : decode cX12_areAllJoined 11 = .ok (.istore_n 2, 1) := by decide +kernel
theorem dX12_areAllJoined_12 : decode cX12_areAllJoined 12 = .ok (.iload_n 2, 1) := by decide +kernel
theorem dX12_areAllJoined_13 : decode cX12_areAllJoined 13 = .ok (.iload_n 1, 1) := by decide +kernel
theorem dX12_areAllJoined_14 : decode cX12_areAllJoined 14 = .ok (.if_icmp .ge 33, 3) := by decide +kernel
theorem dX12_areAllJoined_17 : decode cX12_areAllJoined 17 = .ok (.aload_n 0, 1) := by decide +kernel
theorem dX12_areAllJoined_18 : decode cX12_areAllJoined 18 = .ok (.iload_n 1, 1) := by decide +kernel
theorem dX12_areAllJoined_19 : decode cX12_areAllJoined 19 = .ok (.iload_n 2, 1) := by decide +kernel
theorem dX12_areAllJoined_20 : decode cX12_areAllJoined 20 = .ok (.invokevirtual 355, 3) := by decide +kernel
theorem dX12_areAllJoined_23 : decode cX12_areAllJoined 23 = .ok (.bipush (-2), 2) := by decide +kernel
theorem dX12_areAllJoined_25 : decode cX12_areAllJoined 25 = .ok (.if_icmp .eq 14, 3) := by decide +kernel
theorem dX12_areAllJoined_28 : decode cX12_areAllJoined 28 = .ok (.aload_n 0, 1) := by decide +kernel
theorem dX12_areAllJoined_29 : decode cX12_areAllJoined 29 = .ok (.iload_n 1, 1) := by decide +kernel
theorem dX12_areAllJoined_30 : decode cX12_areAllJoined 30 = .ok (.iload_n 2, 1) := by decide +kernel
theorem dX12_areAllJoined_31 : decode cX12_areAllJoined 31 = .ok (.invokevirtual 358, 3) := by decide +kernel
theorem dX12_areAllJoined_34 : decode cX12_areAllJoined 34 = .ok (.bipush (-2), 2) := by decide +kernel
theorem dX12_areAllJoined_36 : decode cX12_areAllJoined 36 = .ok (.if_icmp .ne 5, 3) := by decide +kernel
theorem dX12_areAllJoined_39 : decode cX12_areAllJoined 39 = .ok (.iconst 0, 1) := by decide +kernel
theorem dX12_areAllJoined_40 : decode cX12_areAllJoined 40 = .ok (.ireturn, 1) := by decide +kernel
theorem dX12_areAllJoined_41 : decode cX12_areAllJoined 41 = .ok (.iinc 2 1, 3) := by decide +kernel
theorem dX12_areAllJoined_44 : decode cX12_areAllJoined 44 = .ok (.goto (-32), 3) := by decide +kernel
theorem dX12_areAllJoined_47 : decode cX12_areAllJoined 47 = .ok (.iinc 1 1, 3) := by decide +kernel
theorem dX12_areAllJoined_50 : decode cX12_areAllJoined 50 = .ok (.goto (-48), 3) := by decide +kernel
theorem dX12_areAllJoined_53 : decode cX12_areAllJoined 53 = .ok (.iconst 1, 1) := by decide +kernel
theorem dX12_areAllJoined_54 : decode cX12_areAllJoined 54 = .ok (.ireturn, 1) := by decide +kernel
theorem dX12_ends_0 : decode cX12_ends 0 = .ok (.iconst 0, 1) := by decide +kernel
theorem dX12_ends_1 : decode cX12_ends 1 = .ok (.istore_n 2, 1) := by decide +kernel
theorem dX12_ends_2 : decode cX12_ends 2 = .ok (.iconst 0, 1) := by decide +kernel
theorem dX12_ends_3 : decode cX12_ends 3 = .ok (.istore_n 3, 1) := by decide +kernel
theorem dX12_ends_4 : decode cX12_ends 4 = .ok (.iload_n 3, 1) := by decide +kernel
theorem dX12_ends_5 : decode cX12_ends 5 = .ok (.aload_n 0, 1) := by decide +kernel
theorem dX12_ends_6 : decode cX12_ends 6 = .ok (.invokevirtual 78, 3) := by decide +kernel
theorem dX12_ends_9 : decode cX12_ends 9 = .ok (.if_icmp .ge 43, 3) := by decide +kernel
theorem dX12_ends_12 : decode cX12_ends 12 = .ok (.iload_n 2, 1) := by decide +kernel
theorem dX12_ends_13 : decode cX12_ends 13 = .ok (.iload_n 1, 1) := by decide +kernel
theorem dX12_ends_14 : decode cX12_ends 14 = .ok (.ifCond .eq 11, 3) := by decide +kernel
theorem dX12_ends_17 : decode cX12_ends 17 = .ok (.aload_n 0, 1) := by decide +kernel
theorem dX12_ends_18 : decode cX12_ends 18 = .ok (.iload_n 3, 1) := by decide +kernel
theorem dX12_ends_19 : decode cX12_ends 19 = .ok (.invokevirtual 97, 3) := by decide +kernel
theorem dX12_ends_22 : decode cX12_ends 22 = .ok (.goto 8, 3) := by decide +kernel
theorem dX12_ends_25 : decode cX12_ends 25 = .ok (.aload_n 0, 1) := by decide +kernel
theorem dX12_ends_26 : decode cX12_ends 26 = .ok (.iload_n 3, 1) := by decide +kernel
theorem dX12_ends_27 : decode cX12_ends 27 = .ok (.invokevirtual 86, 3) := by decide +kernel
theorem dX12_ends_30 : decode cX12_ends 30 = .ok (.invokestatic 111, 3) := by decide +kernel
theorem dX12_ends_33 : decode cX12_ends 33 = .ok (.iconst 1, 1) := by decide +kernel
theorem dX12_ends_34 : decode cX12_ends 34 = .ok (.if_icmp .ne 9, 3) := by decide +kernel
theorem dX12_ends_37 : decode cX12_ends 37 = .ok (.iconst 1, 1) := by decide +kernel
theorem dX12_ends_38 : decode cX12_ends 38 = .ok (.iload_n 3, 1) := by decide +kernel
theorem dX12_ends_39 : decode cX12_ends 39 = .ok (.ishl, 1) := by decide +kernel
theorem dX12_ends_40 : decode cX12_ends 40 = .ok (.goto 4, 3) := by decide +kernel
theorem dX12_ends_43 : decode cX12_ends 43 = .ok (.iconst 0, 1) := by decide +kernel
theorem dX12_ends_44 : decode cX12_ends 44 = .ok (.ior, 1) := by decide +kernel
theorem dX12_ends_45 : decode cX12_ends 45 = .ok (.istore_n 2, 1) := by decide +kernel
theorem dX12_ends_46 : decode cX12_ends 46 = .ok (.iinc 3 1, 3) := by decide +kernel
theorem dX12_ends_49 : decode cX12_ends 49 = .ok (.goto (-45), 3) := by decide +kernel
theorem dX12_ends_52 : decode cX12_ends 52 = .ok (.iload_n 2, 1) := by decide +kernel
theorem dX12_ends_53 : decode cX12_ends 53 = .ok (.ireturn, 1) := by decide +kernel
theorem dX12_reducedOnes_0 : decode cX12_reducedOnes 0 = .ok (.iconst 0, 1) := by decide +kernel
theorem dX12_reducedOnes_1 : decode cX12_reducedOnes 1 = .ok (.istore_n 1, 1) := by decide +kernel
theorem dX12_reducedOnes_2 : decode cX12_reducedOnes 2 = .ok (.iconst 0, 1) := by decide +kernel
theorem dX12_reducedOnes_3 : decode cX12_reducedOnes 3 = .ok (.istore_n 2, 1) := by decide +kernel
theorem dX12_reducedOnes_4 : decode cX12_reducedOnes 4 = .ok (.iload_n 2, 1) := by decide +kernel
theorem dX12_reducedOnes_5 : decode cX12_reducedOnes 5 = .ok (.iconst 4, 1) := by decide +kernel
theorem dX12_reducedOnes_6 : decode cX12_reducedOnes 6 = .ok (.if_icmp .ge 27, 3) := by decide +kernel
theorem dX12_reducedOnes_9 : decode cX12_reducedOnes 9 = .ok (.iload_n 1, 1) := by decide +kernel
theorem dX12_reducedOnes_10 : decode cX12_reducedOnes 10 = .ok (.aload_n 0, 1) := by decide +kernel
theorem dX12_reducedOnes_11 : decode cX12_reducedOnes 11 = .ok (.iload_n 2, 1) := by decide +kernel
theorem dX12_reducedOnes_12 : decode cX12_reducedOnes 12 = .ok (.invokevirtual 449, 3) := by decide +kernel
theorem dX12_reducedOnes_15 : decode cX12_reducedOnes 15 = .ok (.ifCond .eq 9, 3) := by decide +kernel
theorem dX12_reducedOnes_18 : decode cX12_reducedOnes 18 = .ok (.iconst 1, 1) := by decide +kernel
theorem dX12_reducedOnes_19 : decode cX12_reducedOnes 19 = .ok (.iload_n 2, 1) := by decide +kernel
theorem dX12_reducedOnes_20 : decode cX12_reducedOnes 20 = .ok (.ishl, 1) := by decide +kernel
theorem dX12_reducedOnes_21 : decode cX12_reducedOnes 21 = .ok (.goto 4, 3) := by decide +kernel
theorem dX12_reducedOnes_24 : decode cX12_reducedOnes 24 = .ok (.iconst 0, 1) := by decide +kernel
theorem dX12_reducedOnes_25 : decode cX12_reducedOnes 25 = .ok (.ior, 1) := by decide +kernel
theorem dX12_reducedOnes_26 : decode cX12_reducedOnes 26 = .ok (.istore_n 1, 1) := by decide +kernel
theorem dX12_reducedOnes_27 : decode cX12_reducedOnes 27 = .ok (.iinc 2 1, 3) := by decide +kernel
theorem dX12_reducedOnes_30 : decode cX12_reducedOnes 30 = .ok (.goto (-26), 3) := by decide +kernel
theorem dX12_reducedOnes_33 : decode cX12_reducedOnes 33 = .ok (.iload_n 1, 1) := by decide +kernel
theorem dX12_reducedOnes_34 : decode cX12_reducedOnes 34 = .ok (.ireturn, 1) := by decide +kernel
theorem dX12_isApart_0 : decode cX12_isApart 0 = .ok (.iconst 0, 1) := by decide +kernel
theorem dX12_isApart_1 : decode cX12_isApart 1 = .ok (.istore_n 2, 1) := by decide +kernel
theorem dX12_isApart_2 : decode cX12_isApart 2 = .ok (.iload_n 2, 1) := by decide +kernel
theorem dX12_isApart_3 : decode cX12_isApart 3 = .ok (.aload_n 0, 1) := by decide +kernel
theorem dX12_isApart_4 : decode cX12_isApart 4 = .ok (.invokevirtual 78, 3) := by decide +kernel
theorem dX12_isApart_7 : decode cX12_isApart 7 = .ok (.if_icmp .ge 33, 3) := by decide +kernel
theorem dX12_isApart_10 : decode cX12_isApart 10 = .ok (.iload_n 1, 1) := by decide +kernel
theorem dX12_isApart_11 : decode cX12_isApart 11 = .ok (.iload_n 2, 1) := by decide +kernel
theorem dX12_isApart_12 : decode cX12_isApart 12 = .ok (.invokestatic 90, 3) := by decide +kernel
theorem dX12_isApart_15 : decode cX12_isApart 15 = .ok (.ifCond .eq 19, 3) := by decide +kernel
theorem dX12_isApart_18 : decode cX12_isApart 18 = .ok (.iload_n 1, 1) := by decide +kernel
theorem dX12_isApart_19 : decode cX12_isApart 19 = .ok (.aload_n 0, 1) := by decide +kernel
theorem dX12_isApart_20 : decode cX12_isApart 20 = .ok (.getfield 57, 3) := by decide +kernel
theorem dX12_isApart_23 : decode cX12_isApart 23 = .ok (.iload_n 2, 1) := by decide +kernel
theorem dX12_isApart_24 : decode cX12_isApart 24 = .ok (.iaload, 1) := by decide +kernel
theorem dX12_isApart_25 : decode cX12_isApart 25 = .ok (.iand, 1) := by decide +kernel
theorem dX12_isApart_26 : decode cX12_isApart 26 = .ok (.iconst 1, 1) := by decide +kernel
theorem dX12_isApart_27 : decode cX12_isApart 27 = .ok (.iload_n 2, 1) := by decide +kernel
theorem dX12_isApart_28 : decode cX12_isApart 28 = .ok (.ishl, 1) := by decide +kernel
theorem dX12_isApart_29 : decode cX12_isApart 29 = .ok (.if_icmp .eq 5, 3) := by decide +kernel
theorem dX12_isApart_32 : decode cX12_isApart 32 = .ok (.iconst 0, 1) := by decide +kernel
theorem dX12_isApart_33 : decode cX12_isApart 33 = .ok (.ireturn, 1) := by decide +kernel
theorem dX12_isApart_34 : decode cX12_isApart 34 = .ok (.iinc 2 1, 3) := by decide +kernel
theorem dX12_isApart_37 : decode cX12_isApart 37 = .ok (.goto (-35), 3) := by decide +kernel
theorem dX12_isApart_40 : decode cX12_isApart 40 = .ok (.iconst 1, 1) := by decide +kernel
theorem dX12_isApart_41 : decode cX12_isApart 41 = .ok (.ireturn, 1) := by decide +kernel
theorem dX12_widest_0 : decode cX12_widest 0 = .ok (.aload_n 0, 1) := by decide +kernel
theorem dX12_widest_1 : decode cX12_widest 1 = .ok (.invokevirtual 402, 3) := by decide +kernel
theorem dX12_widest_4 : decode cX12_widest 4 = .ok (.iconst 0, 1) := by decide +kernel
theorem dX12_widest_5 : decode cX12_widest 5 = .ok (.istore_n 1, 1) := by decide +kernel
theorem dX12_widest_6 : decode cX12_widest 6 = .ok (.iconst 1, 1) := by decide +kernel
theorem dX12_widest_7 : decode cX12_widest 7 = .ok (.istore_n 2, 1) := by decide +kernel
theorem dX12_widest_8 : decode cX12_widest 8 = .ok (.iload_n 2, 1) := by decide +kernel
theorem dX12_widest_9 : decode cX12_widest 9 = .ok (.iconst 1, 1) := by decide +kernel
theorem dX12_widest_10 : decode cX12_widest 10 = .ok (.aload_n 0, 1) := by decide +kernel
theorem dX12_widest_11 : decode cX12_widest 11 = .ok (.invokevirtual 78, 3) := by decide +kernel
theorem dX12_widest_14 : decode cX12_widest 14 = .ok (.ishl, 1) := by decide +kernel
theorem dX12_widest_15 : decode cX12_widest 15 = .ok (.if_icmp .ge 30, 3) := by decide +kernel
theorem dX12_widest_18 : decode cX12_widest 18 = .ok (.iload_n 2, 1) := by decide +kernel
theorem dX12_widest_19 : decode cX12_widest 19 = .ok (.invokestatic 111, 3) := by decide +kernel
theorem dX12_widest_22 : decode cX12_widest 22 = .ok (.iload_n 1, 1) := by decide +kernel
theorem dX12_widest_23 : decode cX12_widest 23 = .ok (.if_icmp .le 16, 3) := by decide +kernel
theorem dX12_widest_26 : decode cX12_widest 26 = .ok (.aload_n 0, 1) := by decide +kernel
theorem dX12_widest_27 : decode cX12_widest 27 = .ok (.iload_n 2, 1) := by decide +kernel
theorem dX12_widest_28 : decode cX12_widest 28 = .ok (.invokevirtual 491, 3) := by decide +kernel
theorem dX12_widest_31 : decode cX12_widest 31 = .ok (.ifCond .eq 8, 3) := by decide +kernel
theorem dX12_widest_34 : decode cX12_widest 34 = .ok (.iload_n 2, 1) := by decide +kernel
theorem dX12_widest_35 : decode cX12_widest 35 = .ok (.invokestatic 111, 3) := by decide +kernel
theorem dX12_widest_38 : decode cX12_widest 38 = .ok (.istore_n 1, 1) := by decide +kernel
theorem dX12_widest_39 : decode cX12_widest 39 = .ok (.iinc 2 1, 3) := by decide +kernel
theorem dX12_widest_42 : decode cX12_widest 42 = .ok (.goto (-34), 3) := by decide +kernel
theorem dX12_widest_45 : decode cX12_widest 45 = .ok (.iload_n 1, 1) := by decide +kernel
theorem dX12_widest_46 : decode cX12_widest 46 = .ok (.ireturn, 1) := by decide +kernel
theorem dX12_keptSet_0 : decode cX12_keptSet 0 = .ok (.iconst 0, 1) := by decide +kernel
theorem dX12_keptSet_1 : decode cX12_keptSet 1 = .ok (.istore_n 1, 1) := by decide +kernel
theorem dX12_keptSet_2 : decode cX12_keptSet 2 = .ok (.iconst 0, 1) := by decide +kernel
theorem dX12_keptSet_3 : decode cX12_keptSet 3 = .ok (.istore_n 2, 1) := by decide +kernel
theorem dX12_keptSet_4 : decode cX12_keptSet 4 = .ok (.iload_n 2, 1) := by decide +kernel
theorem dX12_keptSet_5 : decode cX12_keptSet 5 = .ok (.iconst 2, 1) := by decide +kernel
theorem dX12_keptSet_6 : decode cX12_keptSet 6 = .ok (.if_icmp .ge 27, 3) := by decide +kernel
theorem dX12_keptSet_9 : decode cX12_keptSet 9 = .ok (.iload_n 1, 1) := by decide +kernel
theorem dX12_keptSet_10 : decode cX12_keptSet 10 = .ok (.aload_n 0, 1) := by decide +kernel
theorem dX12_keptSet_11 : decode cX12_keptSet 11 = .ok (.iload_n 2, 1) := by decide +kernel
theorem dX12_keptSet_12 : decode cX12_keptSet 12 = .ok (.invokevirtual 250, 3) := by decide +kernel
theorem dX12_keptSet_15 : decode cX12_keptSet 15 = .ok (.ifCond .eq 9, 3) := by decide +kernel
theorem dX12_keptSet_18 : decode cX12_keptSet 18 = .ok (.iconst 1, 1) := by decide +kernel
theorem dX12_keptSet_19 : decode cX12_keptSet 19 = .ok (.iload_n 2, 1) := by decide +kernel
theorem dX12_keptSet_20 : decode cX12_keptSet 20 = .ok (.ishl, 1) := by decide +kernel
theorem dX12_keptSet_21 : decode cX12_keptSet 21 = .ok (.goto 4, 3) := by decide +kernel
theorem dX12_keptSet_24 : decode cX12_keptSet 24 = .ok (.iconst 0, 1) := by decide +kernel
theorem dX12_keptSet_25 : decode cX12_keptSet 25 = .ok (.ior, 1) := by decide +kernel
theorem dX12_keptSet_26 : decode cX12_keptSet 26 = .ok (.istore_n 1, 1) := by decide +kernel
theorem dX12_keptSet_27 : decode cX12_keptSet 27 = .ok (.iinc 2 1, 3) := by decide +kernel
theorem dX12_keptSet_30 : decode cX12_keptSet 30 = .ok (.goto (-26), 3) := by decide +kernel
theorem dX12_keptSet_33 : decode cX12_keptSet 33 = .ok (.iload_n 1, 1) := by decide +kernel
theorem dX12_keptSet_34 : decode cX12_keptSet 34 = .ok (.ireturn, 1) := by decide +kernel
theorem dX12_typesNow_0 : decode cX12_typesNow 0 = .ok (.aload_n 0, 1) := by decide +kernel
theorem dX12_typesNow_1 : decode cX12_typesNow 1 = .ok (.invokevirtual 440, 3) := by decide +kernel
theorem dX12_typesNow_4 : decode cX12_typesNow 4 = .ok (.aload_n 0, 1) := by decide +kernel
theorem dX12_typesNow_5 : decode cX12_typesNow 5 = .ok (.getfield 434, 3) := by decide +kernel
theorem dX12_typesNow_8 : decode cX12_typesNow 8 = .ok (.ireturn, 1) := by decide +kernel
theorem dX12_count_0 : decode cX12_count 0 = .ok (.iload_n 1, 1) := by decide +kernel
theorem dX12_count_1 : decode cX12_count 1 = .ok (.tableswitch 173 0 14 #[75, 80, 85, 90, 95, 108, 121, 126, 136, 141, 146, 151, 157, 163, 168], 75) := by decide +kernel
theorem dX12_count_76 : decode cX12_count 76 = .ok (.aload_n 0, 1) := by decide +kernel
theorem dX12_count_77 : decode cX12_count 77 = .ok (.invokevirtual 78, 3) := by decide +kernel
theorem dX12_count_80 : decode cX12_count 80 = .ok (.ireturn, 1) := by decide +kernel
theorem dX12_count_81 : decode cX12_count 81 = .ok (.aload_n 0, 1) := by decide +kernel
theorem dX12_count_82 : decode cX12_count 82 = .ok (.invokevirtual 494, 3) := by decide +kernel
theorem dX12_count_85 : decode cX12_count 85 = .ok (.ireturn, 1) := by decide +kernel
theorem dX12_count_86 : decode cX12_count 86 = .ok (.aload_n 0, 1) := by decide +kernel
theorem dX12_count_87 : decode cX12_count 87 = .ok (.invokevirtual 242, 3) := by decide +kernel
theorem dX12_count_90 : decode cX12_count 90 = .ok (.ireturn, 1) := by decide +kernel
theorem dX12_count_91 : decode cX12_count 91 = .ok (.aload_n 0, 1) := by decide +kernel
theorem dX12_count_92 : decode cX12_count 92 = .ok (.invokevirtual 485, 3) := by decide +kernel
theorem dX12_count_95 : decode cX12_count 95 = .ok (.ireturn, 1) := by decide +kernel
theorem dX12_count_96 : decode cX12_count 96 = .ok (.aload_n 0, 1) := by decide +kernel
theorem dX12_count_97 : decode cX12_count 97 = .ok (.invokevirtual 488, 3) := by decide +kernel
theorem dX12_count_100 : decode cX12_count 100 = .ok (.ifCond .eq 7, 3) := by decide +kernel
theorem dX12_count_103 : decode cX12_count 103 = .ok (.iconst 1, 1) := by decide +kernel
theorem dX12_count_104 : decode cX12_count 104 = .ok (.goto 4, 3) := by decide +kernel
theorem dX12_count_107 : decode cX12_count 107 = .ok (.iconst 0, 1) := by decide +kernel
theorem dX12_count_108 : decode cX12_count 108 = .ok (.ireturn, 1) := by decide +kernel
theorem dX12_count_109 : decode cX12_count 109 = .ok (.aload_n 0, 1) := by decide +kernel
theorem dX12_count_110 : decode cX12_count 110 = .ok (.invokevirtual 497, 3) := by decide +kernel
theorem dX12_count_113 : decode cX12_count 113 = .ok (.ifCond .eq 7, 3) := by decide +kernel
theorem dX12_count_116 : decode cX12_count 116 = .ok (.iconst 1, 1) := by decide +kernel
theorem dX12_count_117 : decode cX12_count 117 = .ok (.goto 4, 3) := by decide +kernel
theorem dX12_count_120 : decode cX12_count 120 = .ok (.iconst 0, 1) := by decide +kernel
theorem dX12_count_121 : decode cX12_count 121 = .ok (.ireturn, 1) := by decide +kernel
theorem dX12_count_122 : decode cX12_count 122 = .ok (.aload_n 0, 1) := by decide +kernel
theorem dX12_count_123 : decode cX12_count 123 = .ok (.invokevirtual 500, 3) := by decide +kernel
theorem dX12_count_126 : decode cX12_count 126 = .ok (.ireturn, 1) := by decide +kernel
theorem dX12_count_127 : decode cX12_count 127 = .ok (.aload_n 0, 1) := by decide +kernel
theorem dX12_count_128 : decode cX12_count 128 = .ok (.invokevirtual 494, 3) := by decide +kernel
theorem dX12_count_131 : decode cX12_count 131 = .ok (.aload_n 0, 1) := by decide +kernel
theorem dX12_count_132 : decode cX12_count 132 = .ok (.invokevirtual 78, 3) := by decide +kernel
theorem dX12_count_135 : decode cX12_count 135 = .ok (.iadd, 1) := by decide +kernel
theorem dX12_count_136 : decode cX12_count 136 = .ok (.ireturn, 1) := by decide +kernel
theorem dX12_count_137 : decode cX12_count 137 = .ok (.aload_n 0, 1) := by decide +kernel
theorem dX12_count_138 : decode cX12_count 138 = .ok (.getfield 124, 3) := by decide +kernel
theorem dX12_count_141 : decode cX12_count 141 = .ok (.ireturn, 1) := by decide +kernel
theorem dX12_count_142 : decode cX12_count 142 = .ok (.aload_n 0, 1) := by decide +kernel
theorem dX12_count_143 : decode cX12_count 143 = .ok (.getfield 130, 3) := by decide +kernel
theorem dX12_count_146 : decode cX12_count 146 = .ok (.ireturn, 1) := by decide +kernel
theorem dX12_count_147 : decode cX12_count 147 = .ok (.aload_n 0, 1) := by decide +kernel
theorem dX12_count_148 : decode cX12_count 148 = .ok (.invokevirtual 503, 3) := by decide +kernel
theorem dX12_count_151 : decode cX12_count 151 = .ok (.ireturn, 1) := by decide +kernel
theorem dX12_count_152 : decode cX12_count 152 = .ok (.aload_n 0, 1) := by decide +kernel
theorem dX12_count_153 : decode cX12_count 153 = .ok (.iconst 1, 1) := by decide +kernel
theorem dX12_count_154 : decode cX12_count 154 = .ok (.invokevirtual 506, 3) := by decide +kernel
theorem dX12_count_157 : decode cX12_count 157 = .ok (.ireturn, 1) := by decide +kernel
theorem dX12_count_158 : decode cX12_count 158 = .ok (.aload_n 0, 1) := by decide +kernel
theorem dX12_count_159 : decode cX12_count 159 = .ok (.iconst 0, 1) := by decide +kernel
theorem dX12_count_160 : decode cX12_count 160 = .ok (.invokevirtual 506, 3) := by decide +kernel
theorem dX12_count_163 : decode cX12_count 163 = .ok (.ireturn, 1) := by decide +kernel
theorem dX12_count_164 : decode cX12_count 164 = .ok (.aload_n 0, 1) := by decide +kernel
theorem dX12_count_165 : decode cX12_count 165 = .ok (.invokevirtual 510, 3) := by decide +kernel
theorem dX12_count_168 : decode cX12_count 168 = .ok (.ireturn, 1) := by decide +kernel
theorem dX12_count_169 : decode cX12_count 169 = .ok (.aload_n 0, 1) := by decide +kernel
theorem dX12_count_170 : decode cX12_count 170 = .ok (.invokevirtual 513, 3) := by decide +kernel
theorem dX12_count_173 : decode cX12_count 173 = .ok (.ireturn, 1) := by decide +kernel
theorem dX12_count_174 : decode cX12_count 174 = .ok (.iconst (-1), 1) := by decide +kernel
theorem dX12_count_175 : decode cX12_count 175 = .ok (.ireturn, 1) := by decide +kernel

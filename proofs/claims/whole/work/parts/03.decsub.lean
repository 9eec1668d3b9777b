theorem dX0_init_0 : decode cX0_init 0 = .ok (.aload_n 0, 1) := by decide +kernel
theorem dX0_init_1 : decode cX0_init 1 = .ok (.invokespecial 3, 3) := by decide +kernel
theorem dX0_init_4 : decode cX0_init 4 = .ok (.aload_n 0, 1) := by decide +kernel
theorem dX0_init_5 : decode cX0_init 5 = .ok (.sipush 1024, 3) := by decide +kernel
theorem dX0_init_8 : decode cX0_init 8 = .ok (.newarray .long, 2) := by decide +kernel
theorem dX0_init_10 : decode cX0_init 10 = .ok (.putfield 9, 3) := by decide +kernel
theorem dX0_init_13 : decode cX0_init 13 = .ok (.aload_n 0, 1) := by decide +kernel
theorem dX0_init_14 : decode cX0_init 14 = .ok (.sipush 256, 3) := by decide +kernel
theorem dX0_init_17 : decode cX0_init 17 = .ok (.newarray .long, 2) := by decide +kernel
theorem dX0_init_19 : decode cX0_init 19 = .ok (.putfield 15, 3) := by decide +kernel
theorem dX0_init_22 : decode cX0_init 22 = .ok (.aload_n 0, 1) := by decide +kernel
theorem dX0_init_23 : decode cX0_init 23 = .ok (.sipush 256, 3) := by decide +kernel
theorem dX0_init_26 : decode cX0_init 26 = .ok (.newarray .long, 2) := by decide +kernel
theorem dX0_init_28 : decode cX0_init 28 = .ok (.putfield 18, 3) := by decide +kernel
theorem dX0_init_31 : decode cX0_init 31 = .ok (.aload_n 0, 1) := by decide +kernel
theorem dX0_init_32 : decode cX0_init 32 = .ok (.bipush 16, 2) := by decide +kernel
theorem dX0_init_34 : decode cX0_init 34 = .ok (.newarray .long, 2) := by decide +kernel
theorem dX0_init_36 : decode cX0_init 36 = .ok (.putfield 21, 3) := by decide +kernel
theorem dX0_init_39 : decode cX0_init 39 = .ok (.aload_n 0, 1) := by decide +kernel
theorem dX0_init_40 : decode cX0_init 40 = .ok (.aload_n 1, 1) := by decide +kernel
theorem dX0_init_41 : decode cX0_init 41 = .ok (.putfield 24, 3) := by decide +kernel
theorem dX0_init_44 : decode cX0_init 44 = .ok (.aload_n 0, 1) := by decide +kernel
theorem dX0_init_45 : decode cX0_init 45 = .ok (.aload_n 2, 1) := by decide +kernel
theorem dX0_init_46 : decode cX0_init 46 = .ok (.putfield 28, 3) := by decide +kernel
theorem dX0_init_49 : decode cX0_init 49 = .ok (.return_, 1) := by decide +kernel
theorem dX0_cell_0 : decode cX0_cell 0 = .ok (.iload_n 0, 1) := by decide +kernel
theorem dX0_cell_1 : decode cX0_cell 1 = .ok (.sipush 256, 3) := by decide +kernel
theorem dX0_cell_4 : decode cX0_cell 4 = .ok (.imul, 1) := by decide +kernel
theorem dX0_cell_5 : decode cX0_cell 5 = .ok (.iload_n 1, 1) := by decide +kernel
theorem dX0_cell_6 : decode cX0_cell 6 = .ok (.bipush 16, 2) := by decide +kernel
theorem dX0_cell_8 : decode cX0_cell 8 = .ok (.imul, 1) := by decide +kernel
theorem dX0_cell_9 : decode cX0_cell 9 = .ok (.iadd, 1) := by decide +kernel
theorem dX0_cell_10 : decode cX0_cell 10 = .ok (.iload_n 2, 1) := by decide +kernel
theorem dX0_cell_11 : decode cX0_cell 11 = .ok (.iadd, 1) := by decide +kernel
theorem dX0_cell_12 : decode cX0_cell 12 = .ok (.ireturn, 1) := by decide +kernel
theorem dX0_at_0 : decode cX0_at 0 = .ok (.aload_n 0, 1) := by decide +kernel
theorem dX0_at_1 : decode cX0_at 1 = .ok (.getfield 9, 3) := by decide +kernel
theorem dX0_at_4 : decode cX0_at 4 = .ok (.iload_n 1, 1) := by decide +kernel
theorem dX0_at_5 : decode cX0_at 5 = .ok (.iload_n 2, 1) := by decide +kernel
theorem dX0_at_6 : decode cX0_at 6 = .ok (.iload_n 3, 1) := by decide +kernel
theorem dX0_at_7 : decode cX0_at 7 = .ok (.invokestatic 32, 3) := by decide +kernel
theorem dX0_at_10 : decode cX0_at 10 = .ok (.laload, 1) := by decide +kernel
theorem dX0_at_11 : decode cX0_at 11 = .ok (.lreturn, 1) := by decide +kernel
theorem dX0_clear_0 : decode cX0_clear 0 = .ok (.aload_n 0, 1) := by decide +kernel
theorem dX0_clear_1 : decode cX0_clear 1 = .ok (.getfield 9, 3) := by decide +kernel
theorem dX0_clear_4 : decode cX0_clear 4 = .ok (.lconst 0, 1) := by decide +kernel
theorem dX0_clear_5 : decode cX0_clear 5 = .ok (.invokestatic 36, 3) := by decide +kernel
theorem dX0_clear_8 : decode cX0_clear 8 = .ok (.return_, 1) := by decide +kernel
theorem dX0_store_0 : decode cX0_store 0 = .ok (.aload_n 0, 1) := by decide +kernel
theorem dX0_store_1 : decode cX0_store 1 = .ok (.getfield 15, 3) := by decide +kernel
theorem dX0_store_4 : decode cX0_store 4 = .ok (.iconst 0, 1) := by decide +kernel
theorem dX0_store_5 : decode cX0_store 5 = .ok (.aload_n 0, 1) := by decide +kernel
theorem dX0_store_6 : decode cX0_store 6 = .ok (.getfield 9, 3) := by decide +kernel
theorem dX0_store_9 : decode cX0_store 9 = .ok (.iload_n 1, 1) := by decide +kernel
theorem dX0_store_10 : decode cX0_store 10 = .ok (.sipush 256, 3) := by decide +kernel
theorem dX0_store_13 : decode cX0_store 13 = .ok (.imul, 1) := by decide +kernel
theorem dX0_store_14 : decode cX0_store 14 = .ok (.sipush 256, 3) := by decide +kernel
theorem dX0_store_17 : decode cX0_store 17 = .ok (.invokestatic 42, 3) := by decide +kernel
theorem dX0_store_20 : decode cX0_store 20 = .ok (.return_, 1) := by decide +kernel
theorem dX0_reckonKind_0 : decode cX0_reckonKind 0 = .ok (.aload_n 0, 1) := by decide +kernel
theorem dX0_reckonKind_1 : decode cX0_reckonKind 1 = .ok (.getfield 15, 3) := by decide +kernel
theorem dX0_reckonKind_4 : decode cX0_reckonKind 4 = .ok (.lconst 0, 1) := by decide +kernel
theorem dX0_reckonKind_5 : decode cX0_reckonKind 5 = .ok (.invokestatic 36, 3) := by decide +kernel
theorem dX0_reckonKind_8 : decode cX0_reckonKind 8 = .ok (.iconst 0, 1) := by decide +kernel
theorem dX0_reckonKind_9 : decode cX0_reckonKind 9 = .ok (.istore_n 2, 1) := by decide +kernel
theorem dX0_reckonKind_10 : decode cX0_reckonKind 10 = .ok (.iload_n 2, 1) := by decide +kernel
theorem dX0_reckonKind_11 : decode cX0_reckonKind 11 = .ok (.aload_n 0, 1) := by decide +kernel
theorem dX0_reckonKind_12 : decode cX0_reckonKind 12 = .ok (.getfield 24, 3) := by decide +kernel
theorem dX0_reckonKind_15 : decode cX0_reckonKind 15 = .ok (.getfield 48, 3) := by decide +kernel
theorem dX0_reckonKind_18 : decode cX0_reckonKind 18 = .ok (.if_icmp .ge 89, 3) := by decide +kernel
theorem dX0_reckonKind_21 : decode cX0_reckonKind 21 = .ok (.iload_n 1, 1) := by decide +kernel
theorem dX0_reckonKind_22 : decode cX0_reckonKind 22 = .ok (.iconst 3, 1) := by decide +kernel
theorem dX0_reckonKind_23 : decode cX0_reckonKind 23 = .ok (.if_icmp .ne 15, 3) := by decide +kernel
theorem dX0_reckonKind_26 : decode cX0_reckonKind 26 = .ok (.aload_n 0, 1) := by decide +kernel
theorem dX0_reckonKind_27 : decode cX0_reckonKind 27 = .ok (.getfield 24, 3) := by decide +kernel
theorem dX0_reckonKind_30 : decode cX0_reckonKind 30 = .ok (.iload_n 2, 1) := by decide +kernel
theorem dX0_reckonKind_31 : decode cX0_reckonKind 31 = .ok (.aload_n 0, 1) := by decide +kernel
theorem dX0_reckonKind_32 : decode cX0_reckonKind 32 = .ok (.getfield 21, 3) := by decide +kernel
theorem dX0_reckonKind_35 : decode cX0_reckonKind 35 = .ok (.invokevirtual 54, 3) := by decide +kernel
theorem dX0_reckonKind_38 : decode cX0_reckonKind 38 = .ok (.iconst 0, 1) := by decide +kernel
theorem dX0_reckonKind_39 : decode cX0_reckonKind 39 = .ok (.istore_n 3, 1) := by decide +kernel
theorem dX0_reckonKind_40 : decode cX0_reckonKind 40 = .ok (.iload_n 3, 1) := by decide +kernel
theorem dX0_reckonKind_41 : decode cX0_reckonKind 41 = .ok (.aload_n 0, 1) := by decide +kernel
theorem dX0_reckonKind_42 : decode cX0_reckonKind 42 = .ok (.getfield 24, 3) := by decide +kernel
theorem dX0_reckonKind_45 : decode cX0_reckonKind 45 = .ok (.getfield 48, 3) := by decide +kernel
theorem dX0_reckonKind_48 : decode cX0_reckonKind 48 = .ok (.if_icmp .ge 53, 3) := by decide +kernel
theorem dX0_reckonKind_51 : decode cX0_reckonKind 51 = .ok (.aload_n 0, 1) := by decide +kernel
theorem dX0_reckonKind_52 : decode cX0_reckonKind 52 = .ok (.getfield 24, 3) := by decide +kernel
theorem dX0_reckonKind_55 : decode cX0_reckonKind 55 = .ok (.iload_n 2, 1) := by decide +kernel
theorem dX0_reckonKind_56 : decode cX0_reckonKind 56 = .ok (.iload_n 3, 1) := by decide +kernel
theorem dX0_reckonKind_57 : decode cX0_reckonKind 57 = .ok (.invokevirtual 58, 3) := by decide +kernel
theorem dX0_reckonKind_60 : decode cX0_reckonKind 60 = .ok (.ifCond .eq 35, 3) := by decide +kernel
theorem dX0_reckonKind_63 : decode cX0_reckonKind 63 = .ok (.aload_n 0, 1) := by decide +kernel
theorem dX0_reckonKind_64 : decode cX0_reckonKind 64 = .ok (.getfield 15, 3) := by decide +kernel
theorem dX0_reckonKind_67 : decode cX0_reckonKind 67 = .ok (.iconst 0, 1) := by decide +kernel
theorem dX0_reckonKind_68 : decode cX0_reckonKind 68 = .ok (.iload_n 2, 1) := by decide +kernel
theorem dX0_reckonKind_69 : decode cX0_reckonKind 69 = .ok (.iload_n 3, 1) := by decide +kernel
theorem dX0_reckonKind_70 : decode cX0_reckonKind 70 = .ok (.invokestatic 32, 3) := by decide +kernel
theorem dX0_reckonKind_73 : decode cX0_reckonKind 73 = .ok (.iload_n 1, 1) := by decide +kernel
theorem dX0_reckonKind_74 : decode cX0_reckonKind 74 = .ok (.iconst 3, 1) := by decide +kernel
theorem dX0_reckonKind_75 : decode cX0_reckonKind 75 = .ok (.if_icmp .ne 12, 3) := by decide +kernel
theorem dX0_reckonKind_78 : decode cX0_reckonKind 78 = .ok (.aload_n 0, 1) := by decide +kernel
theorem dX0_reckonKind_79 : decode cX0_reckonKind 79 = .ok (.getfield 21, 3) := by decide +kernel
theorem dX0_reckonKind_82 : decode cX0_reckonKind 82 = .ok (.iload_n 3, 1) := by decide +kernel
theorem dX0_reckonKind_83 : decode cX0_reckonKind 83 = .ok (.laload, 1) := by decide +kernel
theorem dX0_reckonKind_84 : decode cX0_reckonKind 84 = .ok (.goto 10, 3) := by decide +kernel
theorem dX0_reckonKind_87 : decode cX0_reckonKind 87 = .ok (.aload_n 0, 1) := by decide +kernel
theorem dX0_reckonKind_88 : decode cX0_reckonKind 88 = .ok (.iload_n 1, 1) := by decide +kernel
theorem dX0_reckonKind_89 : decode cX0_reckonKind 89 = .ok (.iload_n 2, 1) := by decide +kernel
theorem dX0_reckonKind_90 : decode cX0_reckonKind 90 = .ok (.iload_n 3, 1) := by decide +kernel
theorem dX0_reckonKind_91 : decode cX0_reckonKind 91 = .ok (.invokevirtual 62, 3) := by decide +kernel
theorem dX0_reckonKind_94 : decode cX0_reckonKind 94 = .ok (.lastore, 1) := by decide +kernel
theorem dX0_reckonKind_95 : decode cX0_reckonKind 95 = .ok (.iinc 3 1, 3) := by decide +kernel
theorem dX0_reckonKind_98 : decode cX0_reckonKind 98 = .ok (.goto (-58), 3) := by decide +kernel
theorem dX0_reckonKind_101 : decode cX0_reckonKind 101 = .ok (.iinc 2 1, 3) := by decide +kernel
theorem dX0_reckonKind_104 : decode cX0_reckonKind 104 = .ok (.goto (-94), 3) := by decide +kernel
theorem dX0_reckonKind_107 : decode cX0_reckonKind 107 = .ok (.return_, 1) := by decide +kernel
theorem dX0_ofKind_0 : decode cX0_ofKind 0 = .ok (.iload_n 1, 1) := by decide +kernel
theorem dX0_ofKind_1 : decode cX0_ofKind 1 = .ok (.tableswitch 92 1 6 #[39, 50, 92, 52, 63, 78], 39) := by decide +kernel
theorem dX0_ofKind_40 : decode cX0_ofKind 40 = .ok (.iload_n 2, 1) := by decide +kernel
theorem dX0_ofKind_41 : decode cX0_ofKind 41 = .ok (.iload_n 3, 1) := by decide +kernel
theorem dX0_ofKind_42 : decode cX0_ofKind 42 = .ok (.if_icmp .ne 7, 3) := by decide +kernel
theorem dX0_ofKind_45 : decode cX0_ofKind 45 = .ok (.lconst 1, 1) := by decide +kernel
theorem dX0_ofKind_46 : decode cX0_ofKind 46 = .ok (.goto 4, 3) := by decide +kernel
theorem dX0_ofKind_49 : decode cX0_ofKind 49 = .ok (.lconst 0, 1) := by decide +kernel
theorem dX0_ofKind_50 : decode cX0_ofKind 50 = .ok (.lreturn, 1) := by decide +kernel
theorem dX0_ofKind_51 : decode cX0_ofKind 51 = .ok (.lconst 1, 1) := by decide +kernel
theorem dX0_ofKind_52 : decode cX0_ofKind 52 = .ok (.lreturn, 1) := by decide +kernel
theorem dX0_ofKind_53 : decode cX0_ofKind 53 = .ok (.iload_n 2, 1) := by decide +kernel
theorem dX0_ofKind_54 : decode cX0_ofKind 54 = .ok (.iload_n 3, 1) := by decide +kernel
theorem dX0_ofKind_55 : decode cX0_ofKind 55 = .ok (.if_icmp .ne 7, 3) := by decide +kernel
theorem dX0_ofKind_58 : decode cX0_ofKind 58 = .ok (.lconst 0, 1) := by decide +kernel
theorem dX0_ofKind_59 : decode cX0_ofKind 59 = .ok (.goto 4, 3) := by decide +kernel
theorem dX0_ofKind_62 : decode cX0_ofKind 62 = .ok (.lconst 1, 1) := by decide +kernel
theorem dX0_ofKind_63 : decode cX0_ofKind 63 = .ok (.lreturn, 1) := by decide +kernel
theorem dX0_ofKind_64 : decode cX0_ofKind 64 = .ok (.aload_n 0, 1) := by decide +kernel
theorem dX0_ofKind_65 : decode cX0_ofKind 65 = .ok (.getfield 24, 3) := by decide +kernel
theorem dX0_ofKind_68 : decode cX0_ofKind 68 = .ok (.getfield 66, 3) := by decide +kernel
theorem dX0_ofKind_71 : decode cX0_ofKind 71 = .ok (.iload_n 2, 1) := by decide +kernel
theorem dX0_ofKind_72 : decode cX0_ofKind 72 = .ok (.iaload, 1) := by decide +kernel
theorem dX0_ofKind_73 : decode cX0_ofKind 73 = .ok (.iload_n 3, 1) := by decide +kernel
theorem dX0_ofKind_74 : decode cX0_ofKind 74 = .ok (.ishr, 1) := by decide +kernel
theorem dX0_ofKind_75 : decode cX0_ofKind 75 = .ok (.iconst 1, 1) := by decide +kernel
theorem dX0_ofKind_76 : decode cX0_ofKind 76 = .ok (.iand, 1) := by decide +kernel
theorem dX0_ofKind_77 : decode cX0_ofKind 77 = .ok (.i2l, 1) := by decide +kernel
theorem dX0_ofKind_78 : decode cX0_ofKind 78 = .ok (.lreturn, 1) := by decide +kernel
theorem dX0_ofKind_79 : decode cX0_ofKind 79 = .ok (.aload_n 0, 1) := by decide +kernel
theorem dX0_ofKind_80 : decode cX0_ofKind 80 = .ok (.getfield 24, 3) := by decide +kernel
theorem dX0_ofKind_83 : decode cX0_ofKind 83 = .ok (.iload_n 2, 1) := by decide +kernel
theorem dX0_ofKind_84 : decode cX0_ofKind 84 = .ok (.iload_n 3, 1) := by decide +kernel
theorem dX0_ofKind_85 : decode cX0_ofKind 85 = .ok (.invokevirtual 70, 3) := by decide +kernel
theorem dX0_ofKind_88 : decode cX0_ofKind 88 = .ok (.invokestatic 74, 3) := by decide +kernel
theorem dX0_ofKind_91 : decode cX0_ofKind 91 = .ok (.i2l, 1) := by decide +kernel
theorem dX0_ofKind_92 : decode cX0_ofKind 92 = .ok (.lreturn, 1) := by decide +kernel
theorem dX0_ofKind_93 : decode cX0_ofKind 93 = .ok (.lconst 0, 1) := by decide +kernel
theorem dX0_ofKind_94 : decode cX0_ofKind 94 = .ok (.lreturn, 1) := by decide +kernel
theorem dX0_reckonEach_0 : decode cX0_reckonEach 0 = .ok (.iconst 0, 1) := by decide +kernel
theorem dX0_reckonEach_1 : decode cX0_reckonEach 1 = .ok (.istore 4, 2) := by decide +kernel
theorem dX0_reckonEach_3 : decode cX0_reckonEach 3 = .ok (.iload 4, 2) := by decide +kernel
theorem dX0_reckonEach_5 : decode cX0_reckonEach 5 = .ok (.sipush 256, 3) := by decide +kernel
theorem dX0_reckonEach_8 : decode cX0_reckonEach 8 = .ok (.if_icmp .ge 114, 3) := by decide +kernel
theorem dX0_reckonEach_11 : decode cX0_reckonEach 11 = .ok (.aload_n 0, 1) := by decide +kernel
theorem dX0_reckonEach_12 : decode cX0_reckonEach 12 = .ok (.getfield 9, 3) := by decide +kernel
theorem dX0_reckonEach_15 : decode cX0_reckonEach 15 = .ok (.iload_n 1, 1) := by decide +kernel
theorem dX0_reckonEach_16 : decode cX0_reckonEach 16 = .ok (.sipush 256, 3) := by decide +kernel
theorem dX0_reckonEach_19 : decode cX0_reckonEach 19 = .ok (.imul, 1) := by decide +kernel
theorem dX0_reckonEach_20 : decode cX0_reckonEach 20 = .ok (.iload 4, 2) := by decide +kernel
theorem dX0_reckonEach_22 : decode cX0_reckonEach 22 = .ok (.iadd, 1) := by decide +kernel
theorem dX0_reckonEach_23 : decode cX0_reckonEach 23 = .ok (.laload, 1) := by decide +kernel
theorem dX0_reckonEach_24 : decode cX0_reckonEach 24 = .ok (.lstore 5, 2) := by decide +kernel
theorem dX0_reckonEach_26 : decode cX0_reckonEach 26 = .ok (.aload_n 0, 1) := by decide +kernel
theorem dX0_reckonEach_27 : decode cX0_reckonEach 27 = .ok (.getfield 9, 3) := by decide +kernel
theorem dX0_reckonEach_30 : decode cX0_reckonEach 30 = .ok (.iload_n 2, 1) := by decide +kernel
theorem dX0_reckonEach_31 : decode cX0_reckonEach 31 = .ok (.sipush 256, 3) := by decide +kernel
theorem dX0_reckonEach_34 : decode cX0_reckonEach 34 = .ok (.imul, 1) := by decide +kernel
theorem dX0_reckonEach_35 : decode cX0_reckonEach 35 = .ok (.iload 4, 2) := by decide +kernel
theorem dX0_reckonEach_37 : decode cX0_reckonEach 37 = .ok (.iadd, 1) := by decide +kernel
theorem dX0_reckonEach_38 : decode cX0_reckonEach 38 = .ok (.laload, 1) := by decide +kernel
theorem dX0_reckonEach_39 : decode cX0_reckonEach 39 = .ok (.lstore 7, 2) := by decide +kernel
theorem dX0_reckonEach_41 : decode cX0_reckonEach 41 = .ok (.aload_n 0, 1) := by decide +kernel
theorem dX0_reckonEach_42 : decode cX0_reckonEach 42 = .ok (.getfield 28, 3) := by decide +kernel
theorem dX0_reckonEach_45 : decode cX0_reckonEach 45 = .ok (.lconst 0, 1) := by decide +kernel
theorem dX0_reckonEach_46 : decode cX0_reckonEach 46 = .ok (.putfield 80, 3) := by decide +kernel
theorem dX0_reckonEach_49 : decode cX0_reckonEach 49 = .ok (.iload_n 3, 1) := by decide +kernel
theorem dX0_reckonEach_50 : decode cX0_reckonEach 50 = .ok (.iconst 3, 1) := by decide +kernel
theorem dX0_reckonEach_51 : decode cX0_reckonEach 51 = .ok (.if_icmp .ne 17, 3) := by decide +kernel
theorem dX0_reckonEach_54 : decode cX0_reckonEach 54 = .ok (.aload_n 0, 1) := by decide +kernel
theorem dX0_reckonEach_55 : decode cX0_reckonEach 55 = .ok (.getfield 28, 3) := by decide +kernel
theorem dX0_reckonEach_58 : decode cX0_reckonEach 58 = .ok (.lload 5, 2) := by decide +kernel
theorem dX0_reckonEach_60 : decode cX0_reckonEach 60 = .ok (.lload 7, 2) := by decide +kernel
theorem dX0_reckonEach_62 : decode cX0_reckonEach 62 = .ok (.invokevirtual 86, 3) := by decide +kernel
theorem dX0_reckonEach_65 : decode cX0_reckonEach 65 = .ok (.goto 37, 3) := by decide +kernel
theorem dX0_reckonEach_68 : decode cX0_reckonEach 68 = .ok (.aload_n 0, 1) := by decide +kernel
theorem dX0_reckonEach_69 : decode cX0_reckonEach 69 = .ok (.getfield 28, 3) := by decide +kernel
theorem dX0_reckonEach_72 : decode cX0_reckonEach 72 = .ok (.lload 5, 2) := by decide +kernel
theorem dX0_reckonEach_74 : decode cX0_reckonEach 74 = .ok (.invokevirtual 90, 3) := by decide +kernel
theorem dX0_reckonEach_77 : decode cX0_reckonEach 77 = .ok (.iload_n 3, 1) := by decide +kernel
theorem dX0_reckonEach_78 : decode cX0_reckonEach 78 = .ok (.ifCond .ne 15, 3) := by decide +kernel
theorem dX0_reckonEach_81 : decode cX0_reckonEach 81 = .ok (.aload_n 0, 1) := by decide +kernel
theorem dX0_reckonEach_82 : decode cX0_reckonEach 82 = .ok (.getfield 28, 3) := by decide +kernel
theorem dX0_reckonEach_85 : decode cX0_reckonEach 85 = .ok (.lload 7, 2) := by decide +kernel
theorem dX0_reckonEach_87 : decode cX0_reckonEach 87 = .ok (.invokevirtual 90, 3) := by decide +kernel
theorem dX0_reckonEach_90 : decode cX0_reckonEach 90 = .ok (.goto 12, 3) := by decide +kernel
theorem dX0_reckonEach_93 : decode cX0_reckonEach 93 = .ok (.aload_n 0, 1) := by decide +kernel
theorem dX0_reckonEach_94 : decode cX0_reckonEach 94 = .ok (.getfield 28, 3) := by decide +kernel
theorem dX0_reckonEach_97 : decode cX0_reckonEach 97 = .ok (.lload 7, 2) := by decide +kernel
theorem dX0_reckonEach_99 : decode cX0_reckonEach 99 = .ok (.invokevirtual 94, 3) := by decide +kernel
theorem dX0_reckonEach_102 : decode cX0_reckonEach 102 = .ok (.aload_n 0, 1) := by decide +kernel
theorem dX0_reckonEach_103 : decode cX0_reckonEach 103 = .ok (.getfield 15, 3) := by decide +kernel
theorem dX0_reckonEach_106 : decode cX0_reckonEach 106 = .ok (.iload 4, 2) := by decide +kernel
theorem dX0_reckonEach_108 : decode cX0_reckonEach 108 = .ok (.aload_n 0, 1) := by decide +kernel
theorem dX0_reckonEach_109 : decode cX0_reckonEach 109 = .ok (.getfield 28, 3) := by decide +kernel
theorem dX0_reckonEach_112 : decode cX0_reckonEach 112 = .ok (.getfield 80, 3) := by decide +kernel
theorem dX0_reckonEach_115 : decode cX0_reckonEach 115 = .ok (.lastore, 1) := by decide +kernel
theorem dX0_reckonEach_116 : decode cX0_reckonEach 116 = .ok (.iinc 4 1, 3) := by decide +kernel
theorem dX0_reckonEach_119 : decode cX0_reckonEach 119 = .ok (.goto (-116), 3) := by decide +kernel
theorem dX0_reckonEach_122 : decode cX0_reckonEach 122 = .ok (.return_, 1) := by decide +kernel
theorem dX0_reckonProduct_0 : decode cX0_reckonProduct 0 = .ok (.aload_n 0, 1) := by decide +kernel
theorem dX0_reckonProduct_1 : decode cX0_reckonProduct 1 = .ok (.getfield 15, 3) := by decide +kernel
theorem dX0_reckonProduct_4 : decode cX0_reckonProduct 4 = .ok (.lconst 0, 1) := by decide +kernel
theorem dX0_reckonProduct_5 : decode cX0_reckonProduct 5 = .ok (.invokestatic 36, 3) := by decide +kernel
theorem dX0_reckonProduct_8 : decode cX0_reckonProduct 8 = .ok (.iconst 0, 1) := by decide +kernel
theorem dX0_reckonProduct_9 : decode cX0_reckonProduct 9 = .ok (.istore 4, 2) := by decide +kernel
theorem dX0_reckonProduct_11 : decode cX0_reckonProduct 11 = .ok (.iload 4, 2) := by decide +kernel
theorem dX0_reckonProduct_13 : decode cX0_reckonProduct 13 = .ok (.aload_n 0, 1) := by decide +kernel
theorem dX0_reckonProduct_14 : decode cX0_reckonProduct 14 = .ok (.getfield 24, 3) := by decide +kernel
theorem dX0_reckonProduct_17 : decode cX0_reckonProduct 17 = .ok (.getfield 48, 3) := by decide +kernel
theorem dX0_reckonProduct_20 : decode cX0_reckonProduct 20 = .ok (.if_icmp .ge 131, 3) := by decide +kernel
theorem dX0_reckonProduct_23 : decode cX0_reckonProduct 23 = .ok (.iconst 0, 1) := by decide +kernel
theorem dX0_reckonProduct_24 : decode cX0_reckonProduct 24 = .ok (.istore 5, 2) := by decide +kernel
theorem dX0_reckonProduct_26 : decode cX0_reckonProduct 26 = .ok (.iload 5, 2) := by decide +kernel
theorem dX0_reckonProduct_28 : decode cX0_reckonProduct 28 = .ok (.aload_n 0, 1) := by decide +kernel
theorem dX0_reckonProduct_29 : decode cX0_reckonProduct 29 = .ok (.getfield 24, 3) := by decide +kernel
theorem dX0_reckonProduct_32 : decode cX0_reckonProduct 32 = .ok (.getfield 48, 3) := by decide +kernel
theorem dX0_reckonProduct_35 : decode cX0_reckonProduct 35 = .ok (.if_icmp .ge 110, 3) := by decide +kernel
theorem dX0_reckonProduct_38 : decode cX0_reckonProduct 38 = .ok (.aload_n 0, 1) := by decide +kernel
theorem dX0_reckonProduct_39 : decode cX0_reckonProduct 39 = .ok (.getfield 24, 3) := by decide +kernel
theorem dX0_reckonProduct_42 : decode cX0_reckonProduct 42 = .ok (.iload 4, 2) := by decide +kernel
theorem dX0_reckonProduct_44 : decode cX0_reckonProduct 44 = .ok (.iload 5, 2) := by decide +kernel
theorem dX0_reckonProduct_46 : decode cX0_reckonProduct 46 = .ok (.invokevirtual 70, 3) := by decide +kernel
theorem dX0_reckonProduct_49 : decode cX0_reckonProduct 49 = .ok (.istore 6, 2) := by decide +kernel
theorem dX0_reckonProduct_51 : decode cX0_reckonProduct 51 = .ok (.aload_n 0, 1) := by decide +kernel
theorem dX0_reckonProduct_52 : decode cX0_reckonProduct 52 = .ok (.getfield 28, 3) := by decide +kernel
theorem dX0_reckonProduct_55 : decode cX0_reckonProduct 55 = .ok (.lconst 0, 1) := by decide +kernel
theorem dX0_reckonProduct_56 : decode cX0_reckonProduct 56 = .ok (.putfield 80, 3) := by decide +kernel
theorem dX0_reckonProduct_59 : decode cX0_reckonProduct 59 = .ok (.iconst 0, 1) := by decide +kernel
theorem dX0_reckonProduct_60 : decode cX0_reckonProduct 60 = .ok (.istore 7, 2) := by decide +kernel
theorem dX0_reckonProduct_62 : decode cX0_reckonProduct 62 = .ok (.iload 7, 2) := by decide +kernel
theorem dX0_reckonProduct_64 : decode cX0_reckonProduct 64 = .ok (.aload_n 0, 1) := by decide +kernel
theorem dX0_reckonProduct_65 : decode cX0_reckonProduct 65 = .ok (.getfield 24, 3) := by decide +kernel
theorem dX0_reckonProduct_68 : decode cX0_reckonProduct 68 = .ok (.getfield 48, 3) := by decide +kernel
theorem dX0_reckonProduct_71 : decode cX0_reckonProduct 71 = .ok (.if_icmp .ge 48, 3) := by decide +kernel
theorem dX0_reckonProduct_74 : decode cX0_reckonProduct 74 = .ok (.iload 6, 2) := by decide +kernel
theorem dX0_reckonProduct_76 : decode cX0_reckonProduct 76 = .ok (.iload 7, 2) := by decide +kernel
theorem dX0_reckonProduct_78 : decode cX0_reckonProduct 78 = .ok (.ishr, 1) := by decide +kernel
theorem dX0_reckonProduct_79 : decode cX0_reckonProduct 79 = .ok (.iconst 1, 1) := by decide +kernel
theorem dX0_reckonProduct_80 : decode cX0_reckonProduct 80 = .ok (.iand, 1) := by decide +kernel
theorem dX0_reckonProduct_81 : decode cX0_reckonProduct 81 = .ok (.iconst 1, 1) := by decide +kernel
theorem dX0_reckonProduct_82 : decode cX0_reckonProduct 82 = .ok (.if_icmp .ne 31, 3) := by decide +kernel
theorem dX0_reckonProduct_85 : decode cX0_reckonProduct 85 = .ok (.aload_n 0, 1) := by decide +kernel
theorem dX0_reckonProduct_86 : decode cX0_reckonProduct 86 = .ok (.getfield 28, 3) := by decide +kernel
theorem dX0_reckonProduct_89 : decode cX0_reckonProduct 89 = .ok (.aload_n 1, 1) := by decide +kernel
theorem dX0_reckonProduct_90 : decode cX0_reckonProduct 90 = .ok (.iload_n 2, 1) := by decide +kernel
theorem dX0_reckonProduct_91 : decode cX0_reckonProduct 91 = .ok (.iconst 0, 1) := by decide +kernel
theorem dX0_reckonProduct_92 : decode cX0_reckonProduct 92 = .ok (.iload 4, 2) := by decide +kernel
theorem dX0_reckonProduct_94 : decode cX0_reckonProduct 94 = .ok (.iload 7, 2) := by decide +kernel
theorem dX0_reckonProduct_96 : decode cX0_reckonProduct 96 = .ok (.invokestatic 32, 3) := by decide +kernel
theorem dX0_reckonProduct_99 : decode cX0_reckonProduct 99 = .ok (.iadd, 1) := by decide +kernel
theorem dX0_reckonProduct_100 : decode cX0_reckonProduct 100 = .ok (.laload, 1) := by decide +kernel
theorem dX0_reckonProduct_101 : decode cX0_reckonProduct 101 = .ok (.aload_n 0, 1) := by decide +kernel
theorem dX0_reckonProduct_102 : decode cX0_reckonProduct 102 = .ok (.iload_n 3, 1) := by decide +kernel
theorem dX0_reckonProduct_103 : decode cX0_reckonProduct 103 = .ok (.iload 7, 2) := by decide +kernel
theorem dX0_reckonProduct_105 : decode cX0_reckonProduct 105 = .ok (.iload 5, 2) := by decide +kernel
theorem dX0_reckonProduct_107 : decode cX0_reckonProduct 107 = .ok (.invokevirtual 97, 3) := by decide +kernel
theorem dX0_reckonProduct_110 : decode cX0_reckonProduct 110 = .ok (.invokevirtual 86, 3) := by decide +kernel
theorem dX0_reckonProduct_113 : decode cX0_reckonProduct 113 = .ok (.iinc 7 1, 3) := by decide +kernel
theorem dX0_reckonProduct_116 : decode cX0_reckonProduct 116 = .ok (.goto (-54), 3) := by decide +kernel
theorem dX0_reckonProduct_119 : decode cX0_reckonProduct 119 = .ok (.aload_n 0, 1) := by decide +kernel
theorem dX0_reckonProduct_120 : decode cX0_reckonProduct 120 = .ok (.getfield 15, 3) := by decide +kernel
theorem dX0_reckonProduct_123 : decode cX0_reckonProduct 123 = .ok (.iconst 0, 1) := by decide +kernel
theorem dX0_reckonProduct_124 : decode cX0_reckonProduct 124 = .ok (.iload 4, 2) := by decide +kernel
theorem dX0_reckonProduct_126 : decode cX0_reckonProduct 126 = .ok (.iload 5, 2) := by decide +kernel
theorem dX0_reckonProduct_128 : decode cX0_reckonProduct 128 = .ok (.invokestatic 32, 3) := by decide +kernel
theorem dX0_reckonProduct_131 : decode cX0_reckonProduct 131 = .ok (.aload_n 0, 1) := by decide +kernel
theorem dX0_reckonProduct_132 : decode cX0_reckonProduct 132 = .ok (.getfield 28, 3) := by decide +kernel
theorem dX0_reckonProduct_135 : decode cX0_reckonProduct 135 = .ok (.getfield 80, 3) := by decide +kernel
theorem dX0_reckonProduct_138 : decode cX0_reckonProduct 138 = .ok (.lastore, 1) := by decide +kernel
theorem dX0_reckonProduct_139 : decode cX0_reckonProduct 139 = .ok (.iinc 5 1, 3) := by decide +kernel
theorem dX0_reckonProduct_142 : decode cX0_reckonProduct 142 = .ok (.goto (-116), 3) := by decide +kernel
theorem dX0_reckonProduct_145 : decode cX0_reckonProduct 145 = .ok (.iinc 4 1, 3) := by decide +kernel
theorem dX0_reckonProduct_148 : decode cX0_reckonProduct 148 = .ok (.goto (-137), 3) := by decide +kernel
theorem dX0_reckonProduct_151 : decode cX0_reckonProduct 151 = .ok (.return_, 1) := by decide +kernel
theorem dX0_reckonPower_0 : decode cX0_reckonPower 0 = .ok (.aload_n 0, 1) := by decide +kernel
theorem dX0_reckonPower_1 : decode cX0_reckonPower 1 = .ok (.iconst 1, 1) := by decide +kernel
theorem dX0_reckonPower_2 : decode cX0_reckonPower 2 = .ok (.invokevirtual 100, 3) := by decide +kernel
theorem dX0_reckonPower_5 : decode cX0_reckonPower 5 = .ok (.iconst 0, 1) := by decide +kernel
theorem dX0_reckonPower_6 : decode cX0_reckonPower 6 = .ok (.istore_n 3, 1) := by decide +kernel
theorem dX0_reckonPower_7 : decode cX0_reckonPower 7 = .ok (.iload_n 3, 1) := by decide +kernel
theorem dX0_reckonPower_8 : decode cX0_reckonPower 8 = .ok (.iload_n 2, 1) := by decide +kernel
theorem dX0_reckonPower_9 : decode cX0_reckonPower 9 = .ok (.if_icmp .ge 45, 3) := by decide +kernel
theorem dX0_reckonPower_12 : decode cX0_reckonPower 12 = .ok (.aload_n 0, 1) := by decide +kernel
theorem dX0_reckonPower_13 : decode cX0_reckonPower 13 = .ok (.getfield 28, 3) := by decide +kernel
theorem dX0_reckonPower_16 : decode cX0_reckonPower 16 = .ok (.getfield 104, 3) := by decide +kernel
theorem dX0_reckonPower_19 : decode cX0_reckonPower 19 = .ok (.ifCond .ne 35, 3) := by decide +kernel
theorem dX0_reckonPower_22 : decode cX0_reckonPower 22 = .ok (.aload_n 0, 1) := by decide +kernel
theorem dX0_reckonPower_23 : decode cX0_reckonPower 23 = .ok (.getfield 15, 3) := by decide +kernel
theorem dX0_reckonPower_26 : decode cX0_reckonPower 26 = .ok (.iconst 0, 1) := by decide +kernel
theorem dX0_reckonPower_27 : decode cX0_reckonPower 27 = .ok (.aload_n 0, 1) := by decide +kernel
theorem dX0_reckonPower_28 : decode cX0_reckonPower 28 = .ok (.getfield 18, 3) := by decide +kernel
theorem dX0_reckonPower_31 : decode cX0_reckonPower 31 = .ok (.iconst 0, 1) := by decide +kernel
theorem dX0_reckonPower_32 : decode cX0_reckonPower 32 = .ok (.sipush 256, 3) := by decide +kernel
theorem dX0_reckonPower_35 : decode cX0_reckonPower 35 = .ok (.invokestatic 42, 3) := by decide +kernel
theorem dX0_reckonPower_38 : decode cX0_reckonPower 38 = .ok (.aload_n 0, 1) := by decide +kernel
theorem dX0_reckonPower_39 : decode cX0_reckonPower 39 = .ok (.aload_n 0, 1) := by decide +kernel
theorem dX0_reckonPower_40 : decode cX0_reckonPower 40 = .ok (.getfield 18, 3) := by decide +kernel
theorem dX0_reckonPower_43 : decode cX0_reckonPower 43 = .ok (.iconst 0, 1) := by decide +kernel
theorem dX0_reckonPower_44 : decode cX0_reckonPower 44 = .ok (.iload_n 1, 1) := by decide +kernel
theorem dX0_reckonPower_45 : decode cX0_reckonPower 45 = .ok (.invokevirtual 108, 3) := by decide +kernel
theorem dX0_reckonPower_48 : decode cX0_reckonPower 48 = .ok (.iinc 3 1, 3) := by decide +kernel
theorem dX0_reckonPower_51 : decode cX0_reckonPower 51 = .ok (.goto (-44), 3) := by decide +kernel
theorem dX0_reckonPower_54 : decode cX0_reckonPower 54 = .ok (.return_, 1) := by decide +kernel
theorem dX0_isInvertible_0 : decode cX0_isInvertible 0 = .ok (.iconst 0, 1) := by decide +kernel
theorem dX0_isInvertible_1 : decode cX0_isInvertible 1 = .ok (.istore_n 2, 1) := by decide +kernel
theorem dX0_isInvertible_2 : decode cX0_isInvertible 2 = .ok (.iload_n 2, 1) := by decide +kernel
theorem dX0_isInvertible_3 : decode cX0_isInvertible 3 = .ok (.aload_n 0, 1) := by decide +kernel
theorem dX0_isInvertible_4 : decode cX0_isInvertible 4 = .ok (.getfield 24, 3) := by decide +kernel
theorem dX0_isInvertible_7 : decode cX0_isInvertible 7 = .ok (.getfield 48, 3) := by decide +kernel
theorem dX0_isInvertible_10 : decode cX0_isInvertible 10 = .ok (.if_icmp .ge 33, 3) := by decide +kernel
theorem dX0_isInvertible_13 : decode cX0_isInvertible 13 = .ok (.aload_n 0, 1) := by decide +kernel
theorem dX0_isInvertible_14 : decode cX0_isInvertible 14 = .ok (.iload_n 1, 1) := by decide +kernel
theorem dX0_isInvertible_15 : decode cX0_isInvertible 15 = .ok (.iload_n 2, 1) := by decide +kernel
theorem dX0_isInvertible_16 : decode cX0_isInvertible 16 = .ok (.iload_n 2, 1) := by decide +kernel
theorem dX0_isInvertible_17 : decode cX0_isInvertible 17 = .ok (.invokevirtual 97, 3) := by decide +kernel
theorem dX0_isInvertible_20 : decode cX0_isInvertible 20 = .ok (.lstore_n 3, 1) := by decide +kernel
theorem dX0_isInvertible_21 : decode cX0_isInvertible 21 = .ok (.lload_n 3, 1) := by decide +kernel
theorem dX0_isInvertible_22 : decode cX0_isInvertible 22 = .ok (.lconst 1, 1) := by decide +kernel
theorem dX0_isInvertible_23 : decode cX0_isInvertible 23 = .ok (.lcmp, 1) := by decide +kernel
theorem dX0_isInvertible_24 : decode cX0_isInvertible 24 = .ok (.ifCond .eq 13, 3) := by decide +kernel
theorem dX0_isInvertible_27 : decode cX0_isInvertible 27 = .ok (.lload_n 3, 1) := by decide +kernel
theorem dX0_isInvertible_28 : decode cX0_isInvertible 28 = .ok (.ldc2_w 112, 3) := by decide +kernel
theorem dX0_isInvertible_31 : decode cX0_isInvertible 31 = .ok (.lcmp, 1) := by decide +kernel
theorem dX0_isInvertible_32 : decode cX0_isInvertible 32 = .ok (.ifCond .eq 5, 3) := by decide +kernel
theorem dX0_isInvertible_35 : decode cX0_isInvertible 35 = .ok (.iconst 0, 1) := by decide +kernel
theorem dX0_isInvertible_36 : decode cX0_isInvertible 36 = .ok (.ireturn, 1) := by decide +kernel
theorem dX0_isInvertible_37 : decode cX0_isInvertible 37 = .ok (.iinc 2 1, 3) := by decide +kernel
theorem dX0_isInvertible_40 : decode cX0_isInvertible 40 = .ok (.goto (-38), 3) := by decide +kernel
theorem dX0_isInvertible_43 : decode cX0_isInvertible 43 = .ok (.iconst 1, 1) := by decide +kernel
theorem dX0_isInvertible_44 : decode cX0_isInvertible 44 = .ok (.ireturn, 1) := by decide +kernel
theorem dX0_reckonInverse_0 : decode cX0_reckonInverse 0 = .ok (.aload_n 0, 1) := by decide +kernel
theorem dX0_reckonInverse_1 : decode cX0_reckonInverse 1 = .ok (.getfield 15, 3) := by decide +kernel
theorem dX0_reckonInverse_4 : decode cX0_reckonInverse 4 = .ok (.lconst 0, 1) := by decide +kernel
theorem dX0_reckonInverse_5 : decode cX0_reckonInverse 5 = .ok (.invokestatic 36, 3) := by decide +kernel
theorem dX0_reckonInverse_8 : decode cX0_reckonInverse 8 = .ok (.iconst 0, 1) := by decide +kernel
theorem dX0_reckonInverse_9 : decode cX0_reckonInverse 9 = .ok (.istore_n 2, 1) := by decide +kernel
theorem dX0_reckonInverse_10 : decode cX0_reckonInverse 10 = .ok (.iload_n 2, 1) := by decide +kernel
theorem dX0_reckonInverse_11 : decode cX0_reckonInverse 11 = .ok (.aload_n 0, 1) := by decide +kernel
theorem dX0_reckonInverse_12 : decode cX0_reckonInverse 12 = .ok (.getfield 24, 3) := by decide +kernel
theorem dX0_reckonInverse_15 : decode cX0_reckonInverse 15 = .ok (.getfield 48, 3) := by decide +kernel
theorem dX0_reckonInverse_18 : decode cX0_reckonInverse 18 = .ok (.if_icmp .ge 103, 3) := by decide +kernel
theorem dX0_reckonInverse_21 : decode cX0_reckonInverse 21 = .ok (.aload_n 0, 1) := by decide +kernel
theorem dX0_reckonInverse_22 : decode cX0_reckonInverse 22 = .ok (.getfield 24, 3) := by decide +kernel
theorem dX0_reckonInverse_25 : decode cX0_reckonInverse 25 = .ok (.getfield 48, 3) := by decide +kernel
theorem dX0_reckonInverse_28 : decode cX0_reckonInverse 28 = .ok (.iconst 1, 1) := by decide +kernel
theorem dX0_reckonInverse_29 : decode cX0_reckonInverse 29 = .ok (.isub, 1) := by decide +kernel
theorem dX0_reckonInverse_30 : decode cX0_reckonInverse 30 = .ok (.istore_n 3, 1) := by decide +kernel
theorem dX0_reckonInverse_31 : decode cX0_reckonInverse 31 = .ok (.iload_n 3, 1) := by decide +kernel
theorem dX0_reckonInverse_32 : decode cX0_reckonInverse 32 = .ok (.ifCond .lt 83, 3) := by decide +kernel
theorem dX0_reckonInverse_35 : decode cX0_reckonInverse 35 = .ok (.aload_n 0, 1) := by decide +kernel
theorem dX0_reckonInverse_36 : decode cX0_reckonInverse 36 = .ok (.getfield 24, 3) := by decide +kernel
theorem dX0_reckonInverse_39 : decode cX0_reckonInverse 39 = .ok (.getfield 114, 3) := by decide +kernel
theorem dX0_reckonInverse_42 : decode cX0_reckonInverse 42 = .ok (.iload_n 3, 1) := by decide +kernel
theorem dX0_reckonInverse_43 : decode cX0_reckonInverse 43 = .ok (.iaload, 1) := by decide +kernel
theorem dX0_reckonInverse_44 : decode cX0_reckonInverse 44 = .ok (.istore 4, 2) := by decide +kernel
theorem dX0_reckonInverse_46 : decode cX0_reckonInverse 46 = .ok (.iload 4, 2) := by decide +kernel
theorem dX0_reckonInverse_48 : decode cX0_reckonInverse 48 = .ok (.iload_n 2, 1) := by decide +kernel
theorem dX0_reckonInverse_49 : decode cX0_reckonInverse 49 = .ok (.if_icmp .ne 27, 3) := by decide +kernel
theorem dX0_reckonInverse_52 : decode cX0_reckonInverse 52 = .ok (.aload_n 0, 1) := by decide +kernel
theorem dX0_reckonInverse_53 : decode cX0_reckonInverse 53 = .ok (.getfield 15, 3) := by decide +kernel
theorem dX0_reckonInverse_56 : decode cX0_reckonInverse 56 = .ok (.iconst 0, 1) := by decide +kernel
theorem dX0_reckonInverse_57 : decode cX0_reckonInverse 57 = .ok (.iload 4, 2) := by decide +kernel
theorem dX0_reckonInverse_59 : decode cX0_reckonInverse 59 = .ok (.iload_n 2, 1) := by decide +kernel
theorem dX0_reckonInverse_60 : decode cX0_reckonInverse 60 = .ok (.invokestatic 32, 3) := by decide +kernel
theorem dX0_reckonInverse_63 : decode cX0_reckonInverse 63 = .ok (.aload_n 0, 1) := by decide +kernel
theorem dX0_reckonInverse_64 : decode cX0_reckonInverse 64 = .ok (.iload_n 1, 1) := by decide +kernel
theorem dX0_reckonInverse_65 : decode cX0_reckonInverse 65 = .ok (.iload 4, 2) := by decide +kernel
theorem dX0_reckonInverse_67 : decode cX0_reckonInverse 67 = .ok (.iload 4, 2) := by decide +kernel
theorem dX0_reckonInverse_69 : decode cX0_reckonInverse 69 = .ok (.invokevirtual 97, 3) := by decide +kernel
theorem dX0_reckonInverse_72 : decode cX0_reckonInverse 72 = .ok (.lastore, 1) := by decide +kernel
theorem dX0_reckonInverse_73 : decode cX0_reckonInverse 73 = .ok (.goto 36, 3) := by decide +kernel
theorem dX0_reckonInverse_76 : decode cX0_reckonInverse 76 = .ok (.aload_n 0, 1) := by decide +kernel
theorem dX0_reckonInverse_77 : decode cX0_reckonInverse 77 = .ok (.getfield 24, 3) := by decide +kernel
theorem dX0_reckonInverse_80 : decode cX0_reckonInverse 80 = .ok (.iload 4, 2) := by decide +kernel
theorem dX0_reckonInverse_82 : decode cX0_reckonInverse 82 = .ok (.iload_n 2, 1) := by decide +kernel
theorem dX0_reckonInverse_83 : decode cX0_reckonInverse 83 = .ok (.invokevirtual 117, 3) := by decide +kernel
theorem dX0_reckonInverse_86 : decode cX0_reckonInverse 86 = .ok (.ifCond .eq 23, 3) := by decide +kernel
theorem dX0_reckonInverse_89 : decode cX0_reckonInverse 89 = .ok (.aload_n 0, 1) := by decide +kernel
theorem dX0_reckonInverse_90 : decode cX0_reckonInverse 90 = .ok (.getfield 15, 3) := by decide +kernel
theorem dX0_reckonInverse_93 : decode cX0_reckonInverse 93 = .ok (.iconst 0, 1) := by decide +kernel
theorem dX0_reckonInverse_94 : decode cX0_reckonInverse 94 = .ok (.iload 4, 2) := by decide +kernel
theorem dX0_reckonInverse_96 : decode cX0_reckonInverse 96 = .ok (.iload_n 2, 1) := by decide +kernel
theorem dX0_reckonInverse_97 : decode cX0_reckonInverse 97 = .ok (.invokestatic 32, 3) := by decide +kernel
theorem dX0_reckonInverse_100 : decode cX0_reckonInverse 100 = .ok (.aload_n 0, 1) := by decide +kernel
theorem dX0_reckonInverse_101 : decode cX0_reckonInverse 101 = .ok (.iload_n 1, 1) := by decide +kernel
theorem dX0_reckonInverse_102 : decode cX0_reckonInverse 102 = .ok (.iload 4, 2) := by decide +kernel
theorem dX0_reckonInverse_104 : decode cX0_reckonInverse 104 = .ok (.iload_n 2, 1) := by decide +kernel
theorem dX0_reckonInverse_105 : decode cX0_reckonInverse 105 = .ok (.invokevirtual 120, 3) := by decide +kernel
theorem dX0_reckonInverse_108 : decode cX0_reckonInverse 108 = .ok (.lastore, 1) := by decide +kernel
theorem dX0_reckonInverse_109 : decode cX0_reckonInverse 109 = .ok (.iinc 3 (-1), 3) := by decide +kernel
theorem dX0_reckonInverse_112 : decode cX0_reckonInverse 112 = .ok (.goto (-81), 3) := by decide +kernel
theorem dX0_reckonInverse_115 : decode cX0_reckonInverse 115 = .ok (.iinc 2 1, 3) := by decide +kernel
theorem dX0_reckonInverse_118 : decode cX0_reckonInverse 118 = .ok (.goto (-108), 3) := by decide +kernel
theorem dX0_reckonInverse_121 : decode cX0_reckonInverse 121 = .ok (.return_, 1) := by decide +kernel
theorem dX0_inverseAt_0 : decode cX0_inverseAt 0 = .ok (.aload_n 0, 1) := by decide +kernel
theorem dX0_inverseAt_1 : decode cX0_inverseAt 1 = .ok (.getfield 24, 3) := by decide +kernel
theorem dX0_inverseAt_4 : decode cX0_inverseAt 4 = .ok (.getfield 123, 3) := by decide +kernel
theorem dX0_inverseAt_7 : decode cX0_inverseAt 7 = .ok (.iload_n 2, 1) := by decide +kernel
theorem dX0_inverseAt_8 : decode cX0_inverseAt 8 = .ok (.iaload, 1) := by decide +kernel
theorem dX0_inverseAt_9 : decode cX0_inverseAt 9 = .ok (.aload_n 0, 1) := by decide +kernel
theorem dX0_inverseAt_10 : decode cX0_inverseAt 10 = .ok (.getfield 24, 3) := by decide +kernel
theorem dX0_inverseAt_13 : decode cX0_inverseAt 13 = .ok (.iload_n 3, 1) := by decide +kernel
theorem dX0_inverseAt_14 : decode cX0_inverseAt 14 = .ok (.invokevirtual 126, 3) := by decide +kernel
theorem dX0_inverseAt_17 : decode cX0_inverseAt 17 = .ok (.iand, 1) := by decide +kernel
theorem dX0_inverseAt_18 : decode cX0_inverseAt 18 = .ok (.istore 4, 2) := by decide +kernel
theorem dX0_inverseAt_20 : decode cX0_inverseAt 20 = .ok (.aload_n 0, 1) := by decide +kernel
theorem dX0_inverseAt_21 : decode cX0_inverseAt 21 = .ok (.getfield 28, 3) := by decide +kernel
theorem dX0_inverseAt_24 : decode cX0_inverseAt 24 = .ok (.lconst 0, 1) := by decide +kernel
theorem dX0_inverseAt_25 : decode cX0_inverseAt 25 = .ok (.putfield 80, 3) := by decide +kernel
theorem dX0_inverseAt_28 : decode cX0_inverseAt 28 = .ok (.iconst 0, 1) := by decide +kernel
theorem dX0_inverseAt_29 : decode cX0_inverseAt 29 = .ok (.istore 5, 2) := by decide +kernel
theorem dX0_inverseAt_31 : decode cX0_inverseAt 31 = .ok (.iload 5, 2) := by decide +kernel
theorem dX0_inverseAt_33 : decode cX0_inverseAt 33 = .ok (.aload_n 0, 1) := by decide +kernel
theorem dX0_inverseAt_34 : decode cX0_inverseAt 34 = .ok (.getfield 24, 3) := by decide +kernel
theorem dX0_inverseAt_37 : decode cX0_inverseAt 37 = .ok (.getfield 48, 3) := by decide +kernel
theorem dX0_inverseAt_40 : decode cX0_inverseAt 40 = .ok (.if_icmp .ge 47, 3) := by decide +kernel
theorem dX0_inverseAt_43 : decode cX0_inverseAt 43 = .ok (.iload 4, 2) := by decide +kernel
theorem dX0_inverseAt_45 : decode cX0_inverseAt 45 = .ok (.iload 5, 2) := by decide +kernel
theorem dX0_inverseAt_47 : decode cX0_inverseAt 47 = .ok (.ishr, 1) := by decide +kernel
theorem dX0_inverseAt_48 : decode cX0_inverseAt 48 = .ok (.iconst 1, 1) := by decide +kernel
theorem dX0_inverseAt_49 : decode cX0_inverseAt 49 = .ok (.iand, 1) := by decide +kernel
theorem dX0_inverseAt_50 : decode cX0_inverseAt 50 = .ok (.iconst 1, 1) := by decide +kernel
theorem dX0_inverseAt_51 : decode cX0_inverseAt 51 = .ok (.if_icmp .ne 30, 3) := by decide +kernel
theorem dX0_inverseAt_54 : decode cX0_inverseAt 54 = .ok (.aload_n 0, 1) := by decide +kernel
theorem dX0_inverseAt_55 : decode cX0_inverseAt 55 = .ok (.getfield 28, 3) := by decide +kernel
theorem dX0_inverseAt_58 : decode cX0_inverseAt 58 = .ok (.aload_n 0, 1) := by decide +kernel
theorem dX0_inverseAt_59 : decode cX0_inverseAt 59 = .ok (.iload_n 1, 1) := by decide +kernel
theorem dX0_inverseAt_60 : decode cX0_inverseAt 60 = .ok (.iload_n 2, 1) := by decide +kernel
theorem dX0_inverseAt_61 : decode cX0_inverseAt 61 = .ok (.iload 5, 2) := by decide +kernel
theorem dX0_inverseAt_63 : decode cX0_inverseAt 63 = .ok (.invokevirtual 97, 3) := by decide +kernel
theorem dX0_inverseAt_66 : decode cX0_inverseAt 66 = .ok (.aload_n 0, 1) := by decide +kernel
theorem dX0_inverseAt_67 : decode cX0_inverseAt 67 = .ok (.getfield 15, 3) := by decide +kernel
theorem dX0_inverseAt_70 : decode cX0_inverseAt 70 = .ok (.iconst 0, 1) := by decide +kernel
theorem dX0_inverseAt_71 : decode cX0_inverseAt 71 = .ok (.iload 5, 2) := by decide +kernel
theorem dX0_inverseAt_73 : decode cX0_inverseAt 73 = .ok (.iload_n 3, 1) := by decide +kernel
theorem dX0_inverseAt_74 : decode cX0_inverseAt 74 = .ok (.invokestatic 32, 3) := by decide +kernel
theorem dX0_inverseAt_77 : decode cX0_inverseAt 77 = .ok (.laload, 1) := by decide +kernel
theorem dX0_inverseAt_78 : decode cX0_inverseAt 78 = .ok (.invokevirtual 86, 3) := by decide +kernel
theorem dX0_inverseAt_81 : decode cX0_inverseAt 81 = .ok (.iinc 5 1, 3) := by decide +kernel
theorem dX0_inverseAt_84 : decode cX0_inverseAt 84 = .ok (.goto (-53), 3) := by decide +kernel
theorem dX0_inverseAt_87 : decode cX0_inverseAt 87 = .ok (.aload_n 0, 1) := by decide +kernel
theorem dX0_inverseAt_88 : decode cX0_inverseAt 88 = .ok (.getfield 28, 3) := by decide +kernel
theorem dX0_inverseAt_91 : decode cX0_inverseAt 91 = .ok (.getfield 80, 3) := by decide +kernel
theorem dX0_inverseAt_94 : decode cX0_inverseAt 94 = .ok (.lstore 5, 2) := by decide +kernel
theorem dX0_inverseAt_96 : decode cX0_inverseAt 96 = .ok (.aload_n 0, 1) := by decide +kernel
theorem dX0_inverseAt_97 : decode cX0_inverseAt 97 = .ok (.getfield 28, 3) := by decide +kernel
theorem dX0_inverseAt_100 : decode cX0_inverseAt 100 = .ok (.lconst 0, 1) := by decide +kernel
theorem dX0_inverseAt_101 : decode cX0_inverseAt 101 = .ok (.putfield 80, 3) := by decide +kernel
theorem dX0_inverseAt_104 : decode cX0_inverseAt 104 = .ok (.aload_n 0, 1) := by decide +kernel
theorem dX0_inverseAt_105 : decode cX0_inverseAt 105 = .ok (.getfield 28, 3) := by decide +kernel
theorem dX0_inverseAt_108 : decode cX0_inverseAt 108 = .ok (.aload_n 0, 1) := by decide +kernel
theorem dX0_inverseAt_109 : decode cX0_inverseAt 109 = .ok (.iload_n 1, 1) := by decide +kernel
theorem dX0_inverseAt_110 : decode cX0_inverseAt 110 = .ok (.iload_n 2, 1) := by decide +kernel
theorem dX0_inverseAt_111 : decode cX0_inverseAt 111 = .ok (.iload_n 2, 1) := by decide +kernel
theorem dX0_inverseAt_112 : decode cX0_inverseAt 112 = .ok (.invokevirtual 97, 3) := by decide +kernel
theorem dX0_inverseAt_115 : decode cX0_inverseAt 115 = .ok (.lneg, 1) := by decide +kernel
theorem dX0_inverseAt_116 : decode cX0_inverseAt 116 = .ok (.lload 5, 2) := by decide +kernel
theorem dX0_inverseAt_118 : decode cX0_inverseAt 118 = .ok (.invokevirtual 86, 3) := by decide +kernel
theorem dX0_inverseAt_121 : decode cX0_inverseAt 121 = .ok (.aload_n 0, 1) := by decide +kernel
theorem dX0_inverseAt_122 : decode cX0_inverseAt 122 = .ok (.getfield 28, 3) := by decide +kernel
theorem dX0_inverseAt_125 : decode cX0_inverseAt 125 = .ok (.getfield 80, 3) := by decide +kernel
theorem dX0_inverseAt_128 : decode cX0_inverseAt 128 = .ok (.lreturn, 1) := by decide +kernel
theorem dX1_init_0 : decode cX1_init 0 = .ok (.aload_n 0, 1) := by decide +kernel
theorem dX1_init_1 : decode cX1_init 1 = .ok (.invokespecial 3, 3) := by decide +kernel
theorem dX1_init_4 : decode cX1_init 4 = .ok (.aload_n 0, 1) := by decide +kernel
theorem dX1_init_5 : decode cX1_init 5 = .ok (.bipush 8, 2) := by decide +kernel
theorem dX1_init_7 : decode cX1_init 7 = .ok (.anewarray 9, 3) := by decide +kernel
theorem dX1_init_10 : decode cX1_init 10 = .ok (.putfield 11, 3) := by decide +kernel
theorem dX1_init_13 : decode cX1_init 13 = .ok (.return_, 1) := by decide +kernel
theorem dX1_push_0 : decode cX1_push 0 = .ok (.aload_n 0, 1) := by decide +kernel
theorem dX1_push_1 : decode cX1_push 1 = .ok (.getfield 11, 3) := by decide +kernel
theorem dX1_push_4 : decode cX1_push 4 = .ok (.aload_n 0, 1) := by decide +kernel
theorem dX1_push_5 : decode cX1_push 5 = .ok (.getfield 17, 3) := by decide +kernel
theorem dX1_push_8 : decode cX1_push 8 = .ok (.aaload, 1) := by decide +kernel
theorem dX1_push_9 : decode cX1_push 9 = .ok (.astore_n 1, 1) := by decide +kernel
theorem dX1_push_10 : decode cX1_push 10 = .ok (.aload_n 1, 1) := by decide +kernel
theorem dX1_push_11 : decode cX1_push 11 = .ok (.ifnonnull 21, 3) := by decide +kernel
theorem dX1_push_14 : decode cX1_push 14 = .ok (.new 9, 3) := by decide +kernel
theorem dX1_push_17 : decode cX1_push 17 = .ok (.dup, 1) := by decide +kernel
theorem dX1_push_18 : decode cX1_push 18 = .ok (.invokespecial 21, 3) := by decide +kernel
theorem dX1_push_21 : decode cX1_push 21 = .ok (.astore_n 1, 1) := by decide +kernel
theorem dX1_push_22 : decode cX1_push 22 = .ok (.aload_n 0, 1) := by decide +kernel
theorem dX1_push_23 : decode cX1_push 23 = .ok (.getfield 11, 3) := by decide +kernel
theorem dX1_push_26 : decode cX1_push 26 = .ok (.aload_n 0, 1) := by decide +kernel
theorem dX1_push_27 : decode cX1_push 27 = .ok (.getfield 17, 3) := by decide +kernel
theorem dX1_push_30 : decode cX1_push 30 = .ok (.aload_n 1, 1) := by decide +kernel
theorem dX1_push_31 : decode cX1_push 31 = .ok (.aastore, 1) := by decide +kernel
theorem dX1_push_32 : decode cX1_push 32 = .ok (.aload_n 0, 1) := by decide +kernel
theorem dX1_push_33 : decode cX1_push 33 = .ok (.aload_n 0, 1) := by decide +kernel
theorem dX1_push_34 : decode cX1_push 34 = .ok (.getfield 17, 3) := by decide +kernel
theorem dX1_push_37 : decode cX1_push 37 = .ok (.iconst 1, 1) := by decide +kernel
theorem dX1_push_38 : decode cX1_push 38 = .ok (.iadd, 1) := by decide +kernel
theorem dX1_push_39 : decode cX1_push 39 = .ok (.bipush 8, 2) := by decide +kernel
theorem dX1_push_41 : decode cX1_push 41 = .ok (.irem, 1) := by decide +kernel
theorem dX1_push_42 : decode cX1_push 42 = .ok (.putfield 17, 3) := by decide +kernel
theorem dX1_push_45 : decode cX1_push 45 = .ok (.aload_n 0, 1) := by decide +kernel
theorem dX1_push_46 : decode cX1_push 46 = .ok (.aload_n 0, 1) := by decide +kernel
theorem dX1_push_47 : decode cX1_push 47 = .ok (.getfield 22, 3) := by decide +kernel
theorem dX1_push_50 : decode cX1_push 50 = .ok (.iconst 1, 1) := by decide +kernel
theorem dX1_push_51 : decode cX1_push 51 = .ok (.iadd, 1) := by decide +kernel
theorem dX1_push_52 : decode cX1_push 52 = .ok (.bipush 8, 2) := by decide +kernel
theorem dX1_push_54 : decode cX1_push 54 = .ok (.invokestatic 25, 3) := by decide +kernel
theorem dX1_push_57 : decode cX1_push 57 = .ok (.putfield 22, 3) := by decide +kernel
theorem dX1_push_60 : decode cX1_push 60 = .ok (.aload_n 1, 1) := by decide +kernel
theorem dX1_push_61 : decode cX1_push 61 = .ok (.areturn, 1) := by decide +kernel
theorem dX1_pop_0 : decode cX1_pop 0 = .ok (.aload_n 0, 1) := by decide +kernel
theorem dX1_pop_1 : decode cX1_pop 1 = .ok (.getfield 22, 3) := by decide +kernel
theorem dX1_pop_4 : decode cX1_pop 4 = .ok (.ifCond .ne 5, 3) := by decide +kernel
theorem dX1_pop_7 : decode cX1_pop 7 = .ok (.aconst_null, 1) := by decide +kernel
theorem dX1_pop_8 : decode cX1_pop 8 = .ok (.areturn, 1) := by decide +kernel
theorem dX1_pop_9 : decode cX1_pop 9 = .ok (.aload_n 0, 1) := by decide +kernel
theorem dX1_pop_10 : decode cX1_pop 10 = .ok (.dup, 1) := by decide +kernel
theorem dX1_pop_11 : decode cX1_pop 11 = .ok (.getfield 22, 3) := by decide +kernel
theorem dX1_pop_14 : decode cX1_pop 14 = .ok (.iconst 1, 1) := by decide +kernel
theorem dX1_pop_15 : decode cX1_pop 15 = .ok (.isub, 1) := by decide +kernel
theorem dX1_pop_16 : decode cX1_pop 16 = .ok (.putfield 22, 3) := by decide +kernel
theorem dX1_pop_19 : decode cX1_pop 19 = .ok (.aload_n 0, 1) := by decide +kernel
theorem dX1_pop_20 : decode cX1_pop 20 = .ok (.aload_n 0, 1) := by decide +kernel
theorem dX1_pop_21 : decode cX1_pop 21 = .ok (.getfield 17, 3) := by decide +kernel
theorem dX1_pop_24 : decode cX1_pop 24 = .ok (.bipush 8, 2) := by decide +kernel
theorem dX1_pop_26 : decode cX1_pop 26 = .ok (.iadd, 1) := by decide +kernel
theorem dX1_pop_27 : decode cX1_pop 27 = .ok (.iconst 1, 1) := by decide +kernel
theorem dX1_pop_28 : decode cX1_pop 28 = .ok (.isub, 1) := by decide +kernel
theorem dX1_pop_29 : decode cX1_pop 29 = .ok (.bipush 8, 2) := by decide +kernel
theorem dX1_pop_31 : decode cX1_pop 31 = .ok (.irem, 1) := by decide +kernel
theorem dX1_pop_32 : decode cX1_pop 32 = .ok (.putfield 17, 3) := by decide +kernel
theorem dX1_pop_35 : decode cX1_pop 35 = .ok (.aload_n 0, 1) := by decide +kernel
theorem dX1_pop_36 : decode cX1_pop 36 = .ok (.getfield 11, 3) := by decide +kernel
theorem dX1_pop_39 : decode cX1_pop 39 = .ok (.aload_n 0, 1) := by decide +kernel
theorem dX1_pop_40 : decode cX1_pop 40 = .ok (.getfield 17, 3) := by decide +kernel
theorem dX1_pop_43 : decode cX1_pop 43 = .ok (.aaload, 1) := by decide +kernel
theorem dX1_pop_44 : decode cX1_pop 44 = .ok (.areturn, 1) := by decide +kernel
theorem dX2_init_0 : decode cX2_init 0 = .ok (.aload_n 0, 1) := by decide +kernel
theorem dX2_init_1 : decode cX2_init 1 = .ok (.invokespecial 3, 3) := by decide +kernel
theorem dX2_init_4 : decode cX2_init 4 = .ok (.aload_n 0, 1) := by decide +kernel
theorem dX2_init_5 : decode cX2_init 5 = .ok (.sipush 136, 3) := by decide +kernel
theorem dX2_init_8 : decode cX2_init 8 = .ok (.newarray .int, 2) := by decide +kernel
theorem dX2_init_10 : decode cX2_init 10 = .ok (.putfield 9, 3) := by decide +kernel
theorem dX2_init_13 : decode cX2_init 13 = .ok (.aload_n 0, 1) := by decide +kernel
theorem dX2_init_14 : decode cX2_init 14 = .ok (.sipush 136, 3) := by decide +kernel
theorem dX2_init_17 : decode cX2_init 17 = .ok (.newarray .int, 2) := by decide +kernel
theorem dX2_init_19 : decode cX2_init 19 = .ok (.putfield 15, 3) := by decide +kernel
theorem dX2_init_22 : decode cX2_init 22 = .ok (.aload_n 0, 1) := by decide +kernel
theorem dX2_init_23 : decode cX2_init 23 = .ok (.sipush 136, 3) := by decide +kernel
theorem dX2_init_26 : decode cX2_init 26 = .ok (.newarray .int, 2) := by decide +kernel
theorem dX2_init_28 : decode cX2_init 28 = .ok (.putfield 18, 3) := by decide +kernel
theorem dX2_init_31 : decode cX2_init 31 = .ok (.aload_n 0, 1) := by decide +kernel
theorem dX2_init_32 : decode cX2_init 32 = .ok (.sipush 256, 3) := by decide +kernel
theorem dX2_init_35 : decode cX2_init 35 = .ok (.newarray .int, 2) := by decide +kernel
theorem dX2_init_37 : decode cX2_init 37 = .ok (.putfield 21, 3) := by decide +kernel
theorem dX2_init_40 : decode cX2_init 40 = .ok (.aload_n 0, 1) := by decide +kernel
theorem dX2_init_41 : decode cX2_init 41 = .ok (.bipush 16, 2) := by decide +kernel
theorem dX2_init_43 : decode cX2_init 43 = .ok (.newarray .int, 2) := by decide +kernel
theorem dX2_init_45 : decode cX2_init 45 = .ok (.putfield 24, 3) := by decide +kernel
theorem dX2_init_48 : decode cX2_init 48 = .ok (.aload_n 0, 1) := by decide +kernel
theorem dX2_init_49 : decode cX2_init 49 = .ok (.bipush 16, 2) := by decide +kernel
theorem dX2_init_51 : decode cX2_init 51 = .ok (.newarray .int, 2) := by decide +kernel
theorem dX2_init_53 : decode cX2_init 53 = .ok (.putfield 27, 3) := by decide +kernel
theorem dX2_init_56 : decode cX2_init 56 = .ok (.aload_n 0, 1) := by decide +kernel
theorem dX2_init_57 : decode cX2_init 57 = .ok (.bipush 16, 2) := by decide +kernel
theorem dX2_init_59 : decode cX2_init 59 = .ok (.newarray .int, 2) := by decide +kernel
theorem dX2_init_61 : decode cX2_init 61 = .ok (.putfield 30, 3) := by decide +kernel
theorem dX2_init_64 : decode cX2_init 64 = .ok (.aload_n 0, 1) := by decide +kernel
theorem dX2_init_65 : decode cX2_init 65 = .ok (.bipush 16, 2) := by decide +kernel
theorem dX2_init_67 : decode cX2_init 67 = .ok (.newarray .int, 2) := by decide +kernel
theorem dX2_init_69 : decode cX2_init 69 = .ok (.putfield 33, 3) := by decide +kernel
theorem dX2_init_72 : decode cX2_init 72 = .ok (.aload_n 0, 1) := by decide +kernel
theorem dX2_init_73 : decode cX2_init 73 = .ok (.bipush 16, 2) := by decide +kernel
theorem dX2_init_75 : decode cX2_init 75 = .ok (.newarray .int, 2) := by decide +kernel
theorem dX2_init_77 : decode cX2_init 77 = .ok (.putfield 36, 3) := by decide +kernel
theorem dX2_init_80 : decode cX2_init 80 = .ok (.aload_n 0, 1) := by decide +kernel
theorem dX2_init_81 : decode cX2_init 81 = .ok (.aload_n 1, 1) := by decide +kernel
theorem dX2_init_82 : decode cX2_init 82 = .ok (.putfield 39, 3) := by decide +kernel
theorem dX2_init_85 : decode cX2_init 85 = .ok (.return_, 1) := by decide +kernel
theorem dX2_forget_0 : decode cX2_forget 0 = .ok (.aload_n 0, 1) := by decide +kernel
theorem dX2_forget_1 : decode cX2_forget 1 = .ok (.iconst 0, 1) := by decide +kernel
theorem dX2_forget_2 : decode cX2_forget 2 = .ok (.putfield 43, 3) := by decide +kernel
theorem dX2_forget_5 : decode cX2_forget 5 = .ok (.return_, 1) := by decide +kernel
theorem dX2_countTypes_0 : decode cX2_countTypes 0 = .ok (.aload_n 0, 1) := by decide +kernel
theorem dX2_countTypes_1 : decode cX2_countTypes 1 = .ok (.invokevirtual 47, 3) := by decide +kernel
theorem dX2_countTypes_4 : decode cX2_countTypes 4 = .ok (.aload_n 0, 1) := by decide +kernel
theorem dX2_countTypes_5 : decode cX2_countTypes 5 = .ok (.getfield 50, 3) := by decide +kernel
theorem dX2_countTypes_8 : decode cX2_countTypes 8 = .ok (.ireturn, 1) := by decide +kernel
theorem dX2_hasType_0 : decode cX2_hasType 0 = .ok (.iload_n 1, 1) := by decide +kernel
theorem dX2_hasType_1 : decode cX2_hasType 1 = .ok (.ifCond .lt 15, 3) := by decide +kernel
theorem dX2_hasType_4 : decode cX2_hasType 4 = .ok (.iload_n 1, 1) := by decide +kernel
theorem dX2_hasType_5 : decode cX2_hasType 5 = .ok (.aload_n 0, 1) := by decide +kernel
theorem dX2_hasType_6 : decode cX2_hasType 6 = .ok (.getfield 50, 3) := by decide +kernel
theorem dX2_hasType_9 : decode cX2_hasType 9 = .ok (.if_icmp .ge 7, 3) := by decide +kernel
theorem dX2_hasType_12 : decode cX2_hasType 12 = .ok (.iconst 1, 1) := by decide +kernel
theorem dX2_hasType_13 : decode cX2_hasType 13 = .ok (.goto 4, 3) := by decide +kernel
theorem dX2_hasType_16 : decode cX2_hasType 16 = .ok (.iconst 0, 1) := by decide +kernel
theorem dX2_hasType_17 : decode cX2_hasType 17 = .ok (.ireturn, 1) := by decide +kernel
theorem dX2_typeOf_0 : decode cX2_typeOf 0 = .ok (.aload_n 0, 1) := by decide +kernel
theorem dX2_typeOf_1 : decode cX2_typeOf 1 = .ok (.getfield 21, 3) := by decide +kernel
theorem dX2_typeOf_4 : decode cX2_typeOf 4 = .ok (.iload_n 1, 1) := by decide +kernel
theorem dX2_typeOf_5 : decode cX2_typeOf 5 = .ok (.bipush 16, 2) := by decide +kernel
theorem dX2_typeOf_7 : decode cX2_typeOf 7 = .ok (.imul, 1) := by decide +kernel
theorem dX2_typeOf_8 : decode cX2_typeOf 8 = .ok (.iload_n 2, 1) := by decide +kernel
theorem dX2_typeOf_9 : decode cX2_typeOf 9 = .ok (.iadd, 1) := by decide +kernel
theorem dX2_typeOf_10 : decode cX2_typeOf 10 = .ok (.iaload, 1) := by decide +kernel
theorem dX2_typeOf_11 : decode cX2_typeOf 11 = .ok (.ireturn, 1) := by decide +kernel
theorem dX2_splits_0 : decode cX2_splits 0 = .ok (.aload_n 0, 1) := by decide +kernel
theorem dX2_splits_1 : decode cX2_splits 1 = .ok (.getfield 9, 3) := by decide +kernel
theorem dX2_splits_4 : decode cX2_splits 4 = .ok (.iload_n 1, 1) := by decide +kernel
theorem dX2_splits_5 : decode cX2_splits 5 = .ok (.iaload, 1) := by decide +kernel
theorem dX2_splits_6 : decode cX2_splits 6 = .ok (.istore 4, 2) := by decide +kernel
theorem dX2_splits_8 : decode cX2_splits 8 = .ok (.aload_n 0, 1) := by decide +kernel
theorem dX2_splits_9 : decode cX2_splits 9 = .ok (.getfield 15, 3) := by decide +kernel
theorem dX2_splits_12 : decode cX2_splits 12 = .ok (.iload_n 1, 1) := by decide +kernel
theorem dX2_splits_13 : decode cX2_splits 13 = .ok (.iaload, 1) := by decide +kernel
theorem dX2_splits_14 : decode cX2_splits 14 = .ok (.istore 5, 2) := by decide +kernel
theorem dX2_splits_16 : decode cX2_splits 16 = .ok (.aload_n 0, 1) := by decide +kernel
theorem dX2_splits_17 : decode cX2_splits 17 = .ok (.getfield 39, 3) := by decide +kernel
theorem dX2_splits_20 : decode cX2_splits 20 = .ok (.iload 4, 2) := by decide +kernel
theorem dX2_splits_22 : decode cX2_splits 22 = .ok (.iload 5, 2) := by decide +kernel
theorem dX2_splits_24 : decode cX2_splits 24 = .ok (.invokevirtual 54, 3) := by decide +kernel
theorem dX2_splits_27 : decode cX2_splits 27 = .ok (.istore 6, 2) := by decide +kernel
theorem dX2_splits_29 : decode cX2_splits 29 = .ok (.iconst 0, 1) := by decide +kernel
theorem dX2_splits_30 : decode cX2_splits 30 = .ok (.istore 7, 2) := by decide +kernel
theorem dX2_splits_32 : decode cX2_splits 32 = .ok (.iconst 0, 1) := by decide +kernel
theorem dX2_splits_33 : decode cX2_splits 33 = .ok (.istore 8, 2) := by decide +kernel
theorem dX2_splits_35 : decode cX2_splits 35 = .ok (.iload 8, 2) := by decide +kernel
theorem dX2_splits_37 : decode cX2_splits 37 = .ok (.aload_n 0, 1) := by decide +kernel
theorem dX2_splits_38 : decode cX2_splits 38 = .ok (.getfield 39, 3) := by decide +kernel
theorem dX2_splits_41 : decode cX2_splits 41 = .ok (.getfield 60, 3) := by decide +kernel
theorem dX2_splits_44 : decode cX2_splits 44 = .ok (.if_icmp .ge 47, 3) := by decide +kernel
theorem dX2_splits_47 : decode cX2_splits 47 = .ok (.iload 6, 2) := by decide +kernel
theorem dX2_splits_49 : decode cX2_splits 49 = .ok (.iload 8, 2) := by decide +kernel
theorem dX2_splits_51 : decode cX2_splits 51 = .ok (.ishr, 1) := by decide +kernel
theorem dX2_splits_52 : decode cX2_splits 52 = .ok (.iconst 1, 1) := by decide +kernel
theorem dX2_splits_53 : decode cX2_splits 53 = .ok (.iand, 1) := by decide +kernel
theorem dX2_splits_54 : decode cX2_splits 54 = .ok (.iconst 1, 1) := by decide +kernel
theorem dX2_splits_55 : decode cX2_splits 55 = .ok (.if_icmp .ne 30, 3) := by decide +kernel
theorem dX2_splits_58 : decode cX2_splits 58 = .ok (.aload_n 0, 1) := by decide +kernel
theorem dX2_splits_59 : decode cX2_splits 59 = .ok (.iload 4, 2) := by decide +kernel
theorem dX2_splits_61 : decode cX2_splits 61 = .ok (.iload 8, 2) := by decide +kernel
theorem dX2_splits_63 : decode cX2_splits 63 = .ok (.invokevirtual 61, 3) := by decide +kernel
theorem dX2_splits_66 : decode cX2_splits 66 = .ok (.iload_n 2, 1) := by decide +kernel
theorem dX2_splits_67 : decode cX2_splits 67 = .ok (.if_icmp .ne 18, 3) := by decide +kernel
theorem dX2_splits_70 : decode cX2_splits 70 = .ok (.aload_n 0, 1) := by decide +kernel
theorem dX2_splits_71 : decode cX2_splits 71 = .ok (.iload 8, 2) := by decide +kernel
theorem dX2_splits_73 : decode cX2_splits 73 = .ok (.iload 5, 2) := by decide +kernel
theorem dX2_splits_75 : decode cX2_splits 75 = .ok (.invokevirtual 61, 3) := by decide +kernel
theorem dX2_splits_78 : decode cX2_splits 78 = .ok (.iload_n 3, 1) := by decide +kernel
theorem dX2_splits_79 : decode cX2_splits 79 = .ok (.if_icmp .ne 6, 3) := by decide +kernel
theorem dX2_splits_82 : decode cX2_splits 82 = .ok (.iinc 7 1, 3) := by decide +kernel
theorem dX2_splits_85 : decode cX2_splits 85 = .ok (.iinc 8 1, 3) := by decide +kernel
theorem dX2_splits_88 : decode cX2_splits 88 = .ok (.goto (-53), 3) := by decide +kernel
theorem dX2_splits_91 : decode cX2_splits 91 = .ok (.iload 7, 2) := by decide +kernel
theorem dX2_splits_93 : decode cX2_splits 93 = .ok (.ireturn, 1) := by decide +kernel
theorem dX2_learn_0 : decode cX2_learn 0 = .ok (.aload_n 0, 1) := by decide +kernel
theorem dX2_learn_1 : decode cX2_learn 1 = .ok (.getfield 43, 3) := by decide +kernel
theorem dX2_learn_4 : decode cX2_learn 4 = .ok (.ifCond .eq 4, 3) := by decide +kernel
theorem dX2_learn_7 : decode cX2_learn 7 = .ok (.return_, 1) := by decide +kernel
theorem dX2_learn_8 : decode cX2_learn 8 = .ok (.aload_n 0, 1) := by decide +kernel
theorem dX2_learn_9 : decode cX2_learn 9 = .ok (.iconst 1, 1) := by decide +kernel
theorem dX2_learn_10 : decode cX2_learn 10 = .ok (.putfield 43, 3) := by decide +kernel
theorem dX2_learn_13 : decode cX2_learn 13 = .ok (.aload_n 0, 1) := by decide +kernel
theorem dX2_learn_14 : decode cX2_learn 14 = .ok (.iconst 0, 1) := by decide +kernel
theorem dX2_learn_15 : decode cX2_learn 15 = .ok (.putfield 50, 3) := by decide +kernel
theorem dX2_learn_18 : decode cX2_learn 18 = .ok (.iconst 0, 1) := by decide +kernel
theorem dX2_learn_19 : decode cX2_learn 19 = .ok (.istore_n 1, 1) := by decide +kernel
theorem dX2_learn_20 : decode cX2_learn 20 = .ok (.iload_n 1, 1) := by decide +kernel
theorem dX2_learn_21 : decode cX2_learn 21 = .ok (.aload_n 0, 1) := by decide +kernel
theorem dX2_learn_22 : decode cX2_learn 22 = .ok (.getfield 39, 3) := by decide +kernel
theorem dX2_learn_25 : decode cX2_learn 25 = .ok (.getfield 60, 3) := by decide +kernel
theorem dX2_learn_28 : decode cX2_learn 28 = .ok (.if_icmp .ge 57, 3) := by decide +kernel
theorem dX2_learn_31 : decode cX2_learn 31 = .ok (.iconst 0, 1) := by decide +kernel
theorem dX2_learn_32 : decode cX2_learn 32 = .ok (.istore_n 2, 1) := by decide +kernel
theorem dX2_learn_33 : decode cX2_learn 33 = .ok (.iload_n 2, 1) := by decide +kernel
theorem dX2_learn_34 : decode cX2_learn 34 = .ok (.aload_n 0, 1) := by decide +kernel
theorem dX2_learn_35 : decode cX2_learn 35 = .ok (.getfield 39, 3) := by decide +kernel
theorem dX2_learn_38 : decode cX2_learn 38 = .ok (.getfield 60, 3) := by decide +kernel
theorem dX2_learn_41 : decode cX2_learn 41 = .ok (.if_icmp .ge 38, 3) := by decide +kernel
theorem dX2_learn_44 : decode cX2_learn 44 = .ok (.aload_n 0, 1) := by decide +kernel
theorem dX2_learn_45 : decode cX2_learn 45 = .ok (.getfield 39, 3) := by decide +kernel
theorem dX2_learn_48 : decode cX2_learn 48 = .ok (.iload_n 1, 1) := by decide +kernel
theorem dX2_learn_49 : decode cX2_learn 49 = .ok (.iload_n 2, 1) := by decide +kernel
theorem dX2_learn_50 : decode cX2_learn 50 = .ok (.invokevirtual 64, 3) := by decide +kernel
theorem dX2_learn_53 : decode cX2_learn 53 = .ok (.ifCond .eq 20, 3) := by decide +kernel
theorem dX2_learn_56 : decode cX2_learn 56 = .ok (.aload_n 0, 1) := by decide +kernel
theorem dX2_learn_57 : decode cX2_learn 57 = .ok (.getfield 21, 3) := by decide +kernel
theorem dX2_learn_60 : decode cX2_learn 60 = .ok (.iload_n 1, 1) := by decide +kernel
theorem dX2_learn_61 : decode cX2_learn 61 = .ok (.bipush 16, 2) := by decide +kernel
theorem dX2_learn_63 : decode cX2_learn 63 = .ok (.imul, 1) := by decide +kernel
theorem dX2_learn_64 : decode cX2_learn 64 = .ok (.iload_n 2, 1) := by decide +kernel
theorem dX2_learn_65 : decode cX2_learn 65 = .ok (.iadd, 1) := by decide +kernel
theorem dX2_learn_66 : decode cX2_learn 66 = .ok (.aload_n 0, 1) := by decide +kernel
theorem dX2_learn_67 : decode cX2_learn 67 = .ok (.iload_n 1, 1) := by decide +kernel
theorem dX2_learn_68 : decode cX2_learn 68 = .ok (.iload_n 2, 1) := by decide +kernel
theorem dX2_learn_69 : decode cX2_learn 69 = .ok (.invokevirtual 68, 3) := by decide +kernel
theorem dX2_learn_72 : decode cX2_learn 72 = .ok (.iastore, 1) := by decide +kernel
theorem dX2_learn_73 : decode cX2_learn 73 = .ok (.iinc 2 1, 3) := by decide +kernel
theorem dX2_learn_76 : decode cX2_learn 76 = .ok (.goto (-43), 3) := by decide +kernel
theorem dX2_learn_79 : decode cX2_learn 79 = .ok (.iinc 1 1, 3) := by decide +kernel
theorem dX2_learn_82 : decode cX2_learn 82 = .ok (.goto (-62), 3) := by decide +kernel
theorem dX2_learn_85 : decode cX2_learn 85 = .ok (.return_, 1) := by decide +kernel
theorem dX2_findOrAdd_0 : decode cX2_findOrAdd 0 = .ok (.aload_n 0, 1) := by decide +kernel
theorem dX2_findOrAdd_1 : decode cX2_findOrAdd 1 = .ok (.getfield 39, 3) := by decide +kernel
theorem dX2_findOrAdd_4 : decode cX2_findOrAdd 4 = .ok (.iload_n 1, 1) := by decide +kernel
theorem dX2_findOrAdd_5 : decode cX2_findOrAdd 5 = .ok (.iload_n 2, 1) := by decide +kernel
theorem dX2_findOrAdd_6 : decode cX2_findOrAdd 6 = .ok (.invokevirtual 54, 3) := by decide +kernel
theorem dX2_findOrAdd_9 : decode cX2_findOrAdd 9 = .ok (.istore_n 3, 1) := by decide +kernel
theorem dX2_findOrAdd_10 : decode cX2_findOrAdd 10 = .ok (.aload_n 0, 1) := by decide +kernel
theorem dX2_findOrAdd_11 : decode cX2_findOrAdd 11 = .ok (.iload_n 3, 1) := by decide +kernel
theorem dX2_findOrAdd_12 : decode cX2_findOrAdd 12 = .ok (.aload_n 0, 1) := by decide +kernel
theorem dX2_findOrAdd_13 : decode cX2_findOrAdd 13 = .ok (.getfield 27, 3) := by decide +kernel
theorem dX2_findOrAdd_16 : decode cX2_findOrAdd 16 = .ok (.invokevirtual 71, 3) := by decide +kernel
theorem dX2_findOrAdd_19 : decode cX2_findOrAdd 19 = .ok (.istore 4, 2) := by decide +kernel
theorem dX2_findOrAdd_21 : decode cX2_findOrAdd 21 = .ok (.iconst 0, 1) := by decide +kernel
theorem dX2_findOrAdd_22 : decode cX2_findOrAdd 22 = .ok (.istore 5, 2) := by decide +kernel
theorem dX2_findOrAdd_24 : decode cX2_findOrAdd 24 = .ok (.iload 5, 2) := by decide +kernel
theorem dX2_findOrAdd_26 : decode cX2_findOrAdd 26 = .ok (.aload_n 0, 1) := by decide +kernel
theorem dX2_findOrAdd_27 : decode cX2_findOrAdd 27 = .ok (.getfield 50, 3) := by decide +kernel
theorem dX2_findOrAdd_30 : decode cX2_findOrAdd 30 = .ok (.if_icmp .ge 53, 3) := by decide +kernel
theorem dX2_findOrAdd_33 : decode cX2_findOrAdd 33 = .ok (.aload_n 0, 1) := by decide +kernel
theorem dX2_findOrAdd_34 : decode cX2_findOrAdd 34 = .ok (.getfield 18, 3) := by decide +kernel
theorem dX2_findOrAdd_37 : decode cX2_findOrAdd 37 = .ok (.iload 5, 2) := by decide +kernel
theorem dX2_findOrAdd_39 : decode cX2_findOrAdd 39 = .ok (.iaload, 1) := by decide +kernel
theorem dX2_findOrAdd_40 : decode cX2_findOrAdd 40 = .ok (.iload 4, 2) := by decide +kernel
theorem dX2_findOrAdd_42 : decode cX2_findOrAdd 42 = .ok (.if_icmp .ne 35, 3) := by decide +kernel
theorem dX2_findOrAdd_45 : decode cX2_findOrAdd 45 = .ok (.aload_n 0, 1) := by decide +kernel
theorem dX2_findOrAdd_46 : decode cX2_findOrAdd 46 = .ok (.iload_n 3, 1) := by decide +kernel
theorem dX2_findOrAdd_47 : decode cX2_findOrAdd 47 = .ok (.aload_n 0, 1) := by decide +kernel
theorem dX2_findOrAdd_48 : decode cX2_findOrAdd 48 = .ok (.getfield 39, 3) := by decide +kernel
theorem dX2_findOrAdd_51 : decode cX2_findOrAdd 51 = .ok (.aload_n 0, 1) := by decide +kernel
theorem dX2_findOrAdd_52 : decode cX2_findOrAdd 52 = .ok (.getfield 9, 3) := by decide +kernel
theorem dX2_findOrAdd_55 : decode cX2_findOrAdd 55 = .ok (.iload 5, 2) := by decide +kernel
theorem dX2_findOrAdd_57 : decode cX2_findOrAdd 57 = .ok (.iaload, 1) := by decide +kernel
theorem dX2_findOrAdd_58 : decode cX2_findOrAdd 58 = .ok (.aload_n 0, 1) := by decide +kernel
theorem dX2_findOrAdd_59 : decode cX2_findOrAdd 59 = .ok (.getfield 15, 3) := by decide +kernel
theorem dX2_findOrAdd_62 : decode cX2_findOrAdd 62 = .ok (.iload 5, 2) := by decide +kernel
theorem dX2_findOrAdd_64 : decode cX2_findOrAdd 64 = .ok (.iaload, 1) := by decide +kernel
theorem dX2_findOrAdd_65 : decode cX2_findOrAdd 65 = .ok (.invokevirtual 54, 3) := by decide +kernel
theorem dX2_findOrAdd_68 : decode cX2_findOrAdd 68 = .ok (.invokevirtual 75, 3) := by decide +kernel
theorem dX2_findOrAdd_71 : decode cX2_findOrAdd 71 = .ok (.ifCond .eq 6, 3) := by decide +kernel
theorem dX2_findOrAdd_74 : decode cX2_findOrAdd 74 = .ok (.iload 5, 2) := by decide +kernel
theorem dX2_findOrAdd_76 : decode cX2_findOrAdd 76 = .ok (.ireturn, 1) := by decide +kernel
theorem dX2_findOrAdd_77 : decode cX2_findOrAdd 77 = .ok (.iinc 5 1, 3) := by decide +kernel
theorem dX2_findOrAdd_80 : decode cX2_findOrAdd 80 = .ok (.goto (-56), 3) := by decide +kernel
theorem dX2_findOrAdd_83 : decode cX2_findOrAdd 83 = .ok (.aload_n 0, 1) := by decide +kernel
theorem dX2_findOrAdd_84 : decode cX2_findOrAdd 84 = .ok (.getfield 50, 3) := by decide +kernel
theorem dX2_findOrAdd_87 : decode cX2_findOrAdd 87 = .ok (.istore 5, 2) := by decide +kernel
theorem dX2_findOrAdd_89 : decode cX2_findOrAdd 89 = .ok (.aload_n 0, 1) := by decide +kernel
theorem dX2_findOrAdd_90 : decode cX2_findOrAdd 90 = .ok (.getfield 50, 3) := by decide +kernel
theorem dX2_findOrAdd_93 : decode cX2_findOrAdd 93 = .ok (.sipush 136, 3) := by decide +kernel
theorem dX2_findOrAdd_96 : decode cX2_findOrAdd 96 = .ok (.if_icmp .ge 44, 3) := by decide +kernel
theorem dX2_findOrAdd_99 : decode cX2_findOrAdd 99 = .ok (.aload_n 0, 1) := by decide +kernel
theorem dX2_findOrAdd_100 : decode cX2_findOrAdd 100 = .ok (.getfield 9, 3) := by decide +kernel
theorem dX2_findOrAdd_103 : decode cX2_findOrAdd 103 = .ok (.aload_n 0, 1) := by decide +kernel
theorem dX2_findOrAdd_104 : decode cX2_findOrAdd 104 = .ok (.getfield 50, 3) := by decide +kernel
theorem dX2_findOrAdd_107 : decode cX2_findOrAdd 107 = .ok (.iload_n 1, 1) := by decide +kernel
theorem dX2_findOrAdd_108 : decode cX2_findOrAdd 108 = .ok (.iastore, 1) := by decide +kernel
theorem dX2_findOrAdd_109 : decode cX2_findOrAdd 109 = .ok (.aload_n 0, 1) := by decide +kernel
theorem dX2_findOrAdd_110 : decode cX2_findOrAdd 110 = .ok (.getfield 15, 3) := by decide +kernel
theorem dX2_findOrAdd_113 : decode cX2_findOrAdd 113 = .ok (.aload_n 0, 1) := by decide +kernel
theorem dX2_findOrAdd_114 : decode cX2_findOrAdd 114 = .ok (.getfield 50, 3) := by decide +kernel
theorem dX2_findOrAdd_117 : decode cX2_findOrAdd 117 = .ok (.iload_n 2, 1) := by decide +kernel
theorem dX2_findOrAdd_118 : decode cX2_findOrAdd 118 = .ok (.iastore, 1) := by decide +kernel
theorem dX2_findOrAdd_119 : decode cX2_findOrAdd 119 = .ok (.aload_n 0, 1) := by decide +kernel
theorem dX2_findOrAdd_120 : decode cX2_findOrAdd 120 = .ok (.getfield 18, 3) := by decide +kernel
theorem dX2_findOrAdd_123 : decode cX2_findOrAdd 123 = .ok (.aload_n 0, 1) := by decide +kernel
theorem dX2_findOrAdd_124 : decode cX2_findOrAdd 124 = .ok (.getfield 50, 3) := by decide +kernel
theorem dX2_findOrAdd_127 : decode cX2_findOrAdd 127 = .ok (.iload 4, 2) := by decide +kernel
theorem dX2_findOrAdd_129 : decode cX2_findOrAdd 129 = .ok (.iastore, 1) := by decide +kernel
theorem dX2_findOrAdd_130 : decode cX2_findOrAdd 130 = .ok (.aload_n 0, 1) := by decide +kernel
theorem dX2_findOrAdd_131 : decode cX2_findOrAdd 131 = .ok (.dup, 1) := by decide +kernel
theorem dX2_findOrAdd_132 : decode cX2_findOrAdd 132 = .ok (.getfield 50, 3) := by decide +kernel
theorem dX2_findOrAdd_135 : decode cX2_findOrAdd 135 = .ok (.iconst 1, 1) := by decide +kernel
theorem dX2_findOrAdd_136 : decode cX2_findOrAdd 136 = .ok (.iadd, 1) := by decide +kernel
theorem dX2_findOrAdd_137 : decode cX2_findOrAdd 137 = .ok (.putfield 50, 3) := by decide +kernel
theorem dX2_findOrAdd_140 : decode cX2_findOrAdd 140 = .ok (.iload 5, 2) := by decide +kernel
theorem dX2_findOrAdd_142 : decode cX2_findOrAdd 142 = .ok (.ireturn, 1) := by decide +kernel
theorem dX2_markAll_0 : decode cX2_markAll 0 = .ok (.iconst 0, 1) := by decide +kernel
theorem dX2_markAll_1 : decode cX2_markAll 1 = .ok (.istore_n 3, 1) := by decide +kernel
theorem dX2_markAll_2 : decode cX2_markAll 2 = .ok (.iload_n 3, 1) := by decide +kernel
theorem dX2_markAll_3 : decode cX2_markAll 3 = .ok (.aload_n 0, 1) := by decide +kernel
theorem dX2_markAll_4 : decode cX2_markAll 4 = .ok (.getfield 39, 3) := by decide +kernel
theorem dX2_markAll_7 : decode cX2_markAll 7 = .ok (.getfield 60, 3) := by decide +kernel
theorem dX2_markAll_10 : decode cX2_markAll 10 = .ok (.if_icmp .ge 57, 3) := by decide +kernel
theorem dX2_markAll_13 : decode cX2_markAll 13 = .ok (.iload_n 1, 1) := by decide +kernel
theorem dX2_markAll_14 : decode cX2_markAll 14 = .ok (.aload_n 0, 1) := by decide +kernel
theorem dX2_markAll_15 : decode cX2_markAll 15 = .ok (.getfield 39, 3) := by decide +kernel
theorem dX2_markAll_18 : decode cX2_markAll 18 = .ok (.getfield 78, 3) := by decide +kernel
theorem dX2_markAll_21 : decode cX2_markAll 21 = .ok (.iload_n 3, 1) := by decide +kernel
theorem dX2_markAll_22 : decode cX2_markAll 22 = .ok (.iaload, 1) := by decide +kernel
theorem dX2_markAll_23 : decode cX2_markAll 23 = .ok (.iand, 1) := by decide +kernel
theorem dX2_markAll_24 : decode cX2_markAll 24 = .ok (.invokestatic 81, 3) := by decide +kernel
theorem dX2_markAll_27 : decode cX2_markAll 27 = .ok (.istore 4, 2) := by decide +kernel
theorem dX2_markAll_29 : decode cX2_markAll 29 = .ok (.iload_n 1, 1) := by decide +kernel
theorem dX2_markAll_30 : decode cX2_markAll 30 = .ok (.aload_n 0, 1) := by decide +kernel
theorem dX2_markAll_31 : decode cX2_markAll 31 = .ok (.getfield 39, 3) := by decide +kernel
theorem dX2_markAll_34 : decode cX2_markAll 34 = .ok (.getfield 87, 3) := by decide +kernel
theorem dX2_markAll_37 : decode cX2_markAll 37 = .ok (.iload_n 3, 1) := by decide +kernel
theorem dX2_markAll_38 : decode cX2_markAll 38 = .ok (.iaload, 1) := by decide +kernel
theorem dX2_markAll_39 : decode cX2_markAll 39 = .ok (.iand, 1) := by decide +kernel
theorem dX2_markAll_40 : decode cX2_markAll 40 = .ok (.invokestatic 81, 3) := by decide +kernel
theorem dX2_markAll_43 : decode cX2_markAll 43 = .ok (.istore 5, 2) := by decide +kernel
theorem dX2_markAll_45 : decode cX2_markAll 45 = .ok (.aload_n 0, 1) := by decide +kernel
theorem dX2_markAll_46 : decode cX2_markAll 46 = .ok (.getfield 24, 3) := by decide +kernel
theorem dX2_markAll_49 : decode cX2_markAll 49 = .ok (.iload_n 3, 1) := by decide +kernel
theorem dX2_markAll_50 : decode cX2_markAll 50 = .ok (.iconst 1, 1) := by decide +kernel
theorem dX2_markAll_51 : decode cX2_markAll 51 = .ok (.iload 4, 2) := by decide +kernel
theorem dX2_markAll_53 : decode cX2_markAll 53 = .ok (.iadd, 1) := by decide +kernel
theorem dX2_markAll_54 : decode cX2_markAll 54 = .ok (.bipush 17, 2) := by decide +kernel
theorem dX2_markAll_56 : decode cX2_markAll 56 = .ok (.iload 5, 2) := by decide +kernel
theorem dX2_markAll_58 : decode cX2_markAll 58 = .ok (.imul, 1) := by decide +kernel
theorem dX2_markAll_59 : decode cX2_markAll 59 = .ok (.iadd, 1) := by decide +kernel
theorem dX2_markAll_60 : decode cX2_markAll 60 = .ok (.iastore, 1) := by decide +kernel
theorem dX2_markAll_61 : decode cX2_markAll 61 = .ok (.iinc 3 1, 3) := by decide +kernel
theorem dX2_markAll_64 : decode cX2_markAll 64 = .ok (.goto (-62), 3) := by decide +kernel
theorem dX2_markAll_67 : decode cX2_markAll 67 = .ok (.iconst 0, 1) := by decide +kernel
theorem dX2_markAll_68 : decode cX2_markAll 68 = .ok (.istore_n 3, 1) := by decide +kernel
theorem dX2_markAll_69 : decode cX2_markAll 69 = .ok (.iconst 0, 1) := by decide +kernel
theorem dX2_markAll_70 : decode cX2_markAll 70 = .ok (.istore 4, 2) := by decide +kernel
theorem dX2_markAll_72 : decode cX2_markAll 72 = .ok (.iload 4, 2) := by decide +kernel
theorem dX2_markAll_74 : decode cX2_markAll 74 = .ok (.aload_n 0, 1) := by decide +kernel
theorem dX2_markAll_75 : decode cX2_markAll 75 = .ok (.getfield 39, 3) := by decide +kernel
theorem dX2_markAll_78 : decode cX2_markAll 78 = .ok (.getfield 60, 3) := by decide +kernel
theorem dX2_markAll_81 : decode cX2_markAll 81 = .ok (.if_icmp .ge 94, 3) := by decide +kernel
theorem dX2_markAll_84 : decode cX2_markAll 84 = .ok (.iload_n 1, 1) := by decide +kernel
theorem dX2_markAll_85 : decode cX2_markAll 85 = .ok (.iload 4, 2) := by decide +kernel
theorem dX2_markAll_87 : decode cX2_markAll 87 = .ok (.ishr, 1) := by decide +kernel
theorem dX2_markAll_88 : decode cX2_markAll 88 = .ok (.iconst 1, 1) := by decide +kernel
theorem dX2_markAll_89 : decode cX2_markAll 89 = .ok (.iand, 1) := by decide +kernel
theorem dX2_markAll_90 : decode cX2_markAll 90 = .ok (.iconst 1, 1) := by decide +kernel
theorem dX2_markAll_91 : decode cX2_markAll 91 = .ok (.if_icmp .ne 78, 3) := by decide +kernel
theorem dX2_markAll_94 : decode cX2_markAll 94 = .ok (.aload_n 0, 1) := by decide +kernel
theorem dX2_markAll_95 : decode cX2_markAll 95 = .ok (.iload_n 1, 1) := by decide +kernel
theorem dX2_markAll_96 : decode cX2_markAll 96 = .ok (.aload_n 0, 1) := by decide +kernel
theorem dX2_markAll_97 : decode cX2_markAll 97 = .ok (.getfield 39, 3) := by decide +kernel
theorem dX2_markAll_100 : decode cX2_markAll 100 = .ok (.getfield 78, 3) := by decide +kernel
theorem dX2_markAll_103 : decode cX2_markAll 103 = .ok (.iload 4, 2) := by decide +kernel
theorem dX2_markAll_105 : decode cX2_markAll 105 = .ok (.iaload, 1) := by decide +kernel
theorem dX2_markAll_106 : decode cX2_markAll 106 = .ok (.iand, 1) := by decide +kernel
theorem dX2_markAll_107 : decode cX2_markAll 107 = .ok (.invokevirtual 90, 3) := by decide +kernel
theorem dX2_markAll_110 : decode cX2_markAll 110 = .ok (.istore 5, 2) := by decide +kernel
theorem dX2_markAll_112 : decode cX2_markAll 112 = .ok (.aload_n 0, 1) := by decide +kernel
theorem dX2_markAll_113 : decode cX2_markAll 113 = .ok (.iload_n 1, 1) := by decide +kernel
theorem dX2_markAll_114 : decode cX2_markAll 114 = .ok (.aload_n 0, 1) := by decide +kernel
theorem dX2_markAll_115 : decode cX2_markAll 115 = .ok (.getfield 39, 3) := by decide +kernel
theorem dX2_markAll_118 : decode cX2_markAll 118 = .ok (.getfield 87, 3) := by decide +kernel
theorem dX2_markAll_121 : decode cX2_markAll 121 = .ok (.iload 4, 2) := by decide +kernel
theorem dX2_markAll_123 : decode cX2_markAll 123 = .ok (.iaload, 1) := by decide +kernel
theorem dX2_markAll_124 : decode cX2_markAll 124 = .ok (.iand, 1) := by decide +kernel
theorem dX2_markAll_125 : decode cX2_markAll 125 = .ok (.invokevirtual 90, 3) := by decide +kernel
theorem dX2_markAll_128 : decode cX2_markAll 128 = .ok (.istore 6, 2) := by decide +kernel
theorem dX2_markAll_130 : decode cX2_markAll 130 = .ok (.aload_n 2, 1) := by decide +kernel
theorem dX2_markAll_131 : decode cX2_markAll 131 = .ok (.iload 4, 2) := by decide +kernel
theorem dX2_markAll_133 : decode cX2_markAll 133 = .ok (.aload_n 0, 1) := by decide +kernel
theorem dX2_markAll_134 : decode cX2_markAll 134 = .ok (.getfield 24, 3) := by decide +kernel
theorem dX2_markAll_137 : decode cX2_markAll 137 = .ok (.iload 4, 2) := by decide +kernel
theorem dX2_markAll_139 : decode cX2_markAll 139 = .ok (.iaload, 1) := by decide +kernel
theorem dX2_markAll_140 : decode cX2_markAll 140 = .ok (.sipush 331, 3) := by decide +kernel
theorem dX2_markAll_143 : decode cX2_markAll 143 = .ok (.iload 5, 2) := by decide +kernel
theorem dX2_markAll_145 : decode cX2_markAll 145 = .ok (.imul, 1) := by decide +kernel
theorem dX2_markAll_146 : decode cX2_markAll 146 = .ok (.iadd, 1) := by decide +kernel
theorem dX2_markAll_147 : decode cX2_markAll 147 = .ok (.sipush 7919, 3) := by decide +kernel
theorem dX2_markAll_150 : decode cX2_markAll 150 = .ok (.iload 6, 2) := by decide +kernel
theorem dX2_markAll_152 : decode cX2_markAll 152 = .ok (.imul, 1) := by decide +kernel
theorem dX2_markAll_153 : decode cX2_markAll 153 = .ok (.iadd, 1) := by decide +kernel
theorem dX2_markAll_154 : decode cX2_markAll 154 = .ok (.iastore, 1) := by decide +kernel
theorem dX2_markAll_155 : decode cX2_markAll 155 = .ok (.iload_n 3, 1) := by decide +kernel
theorem dX2_markAll_156 : decode cX2_markAll 156 = .ok (.aload_n 2, 1) := by decide +kernel
theorem dX2_markAll_157 : decode cX2_markAll 157 = .ok (.iload 4, 2) := by decide +kernel
theorem dX2_markAll_159 : decode cX2_markAll 159 = .ok (.iaload, 1) := by decide +kernel
theorem dX2_markAll_160 : decode cX2_markAll 160 = .ok (.aload_n 2, 1) := by decide +kernel
theorem dX2_markAll_161 : decode cX2_markAll 161 = .ok (.iload 4, 2) := by decide +kernel
theorem dX2_markAll_163 : decode cX2_markAll 163 = .ok (.iaload, 1) := by decide +kernel
theorem dX2_markAll_164 : decode cX2_markAll 164 = .ok (.imul, 1) := by decide +kernel
theorem dX2_markAll_165 : decode cX2_markAll 165 = .ok (.iconst 1, 1) := by decide +kernel
theorem dX2_markAll_166 : decode cX2_markAll 166 = .ok (.iadd, 1) := by decide +kernel
theorem dX2_markAll_167 : decode cX2_markAll 167 = .ok (.iadd, 1) := by decide +kernel
theorem dX2_markAll_168 : decode cX2_markAll 168 = .ok (.istore_n 3, 1) := by decide +kernel
theorem dX2_markAll_169 : decode cX2_markAll 169 = .ok (.iinc 4 1, 3) := by decide +kernel
theorem dX2_markAll_172 : decode cX2_markAll 172 = .ok (.goto (-100), 3) := by decide +kernel
theorem dX2_markAll_175 : decode cX2_markAll 175 = .ok (.iload_n 3, 1) := by decide +kernel
theorem dX2_markAll_176 : decode cX2_markAll 176 = .ok (.ireturn, 1) := by decide +kernel
theorem dX2_sumOfSquares_0 : decode cX2_sumOfSquares 0 = .ok (.iconst 0, 1) := by decide +kernel
theorem dX2_sumOfSquares_1 : decode cX2_sumOfSquares 1 = .ok (.istore_n 2, 1) := by decide +kernel
theorem dX2_sumOfSquares_2 : decode cX2_sumOfSquares 2 = .ok (.iconst 0, 1) := by decide +kernel
theorem dX2_sumOfSquares_3 : decode cX2_sumOfSquares 3 = .ok (.istore_n 3, 1) := by decide +kernel
theorem dX2_sumOfSquares_4 : decode cX2_sumOfSquares 4 = .ok (.iload_n 3, 1) := by decide +kernel
theorem dX2_sumOfSquares_5 : decode cX2_sumOfSquares 5 = .ok (.aload_n 0, 1) := by decide +kernel
theorem dX2_sumOfSquares_6 : decode cX2_sumOfSquares 6 = .ok (.getfield 39, 3) := by decide +kernel
theorem dX2_sumOfSquares_9 : decode cX2_sumOfSquares 9 = .ok (.getfield 60, 3) := by decide +kernel
theorem dX2_sumOfSquares_12 : decode cX2_sumOfSquares 12 = .ok (.if_icmp .ge 34, 3) := by decide +kernel
theorem dX2_sumOfSquares_15 : decode cX2_sumOfSquares 15 = .ok (.iload_n 1, 1) := by decide +kernel
theorem dX2_sumOfSquares_16 : decode cX2_sumOfSquares 16 = .ok (.iload_n 3, 1) := by decide +kernel
theorem dX2_sumOfSquares_17 : decode cX2_sumOfSquares 17 = .ok (.ishr, 1) := by decide +kernel
theorem dX2_sumOfSquares_18 : decode cX2_sumOfSquares 18 = .ok (.iconst 1, 1) := by decide +kernel
theorem dX2_sumOfSquares_19 : decode cX2_sumOfSquares 19 = .ok (.iand, 1) := by decide +kernel
theorem dX2_sumOfSquares_20 : decode cX2_sumOfSquares 20 = .ok (.iconst 1, 1) := by decide +kernel
theorem dX2_sumOfSquares_21 : decode cX2_sumOfSquares 21 = .ok (.if_icmp .ne 19, 3) := by decide +kernel
theorem dX2_sumOfSquares_24 : decode cX2_sumOfSquares 24 = .ok (.iload_n 2, 1) := by decide +kernel
theorem dX2_sumOfSquares_25 : decode cX2_sumOfSquares 25 = .ok (.aload_n 0, 1) := by decide +kernel
theorem dX2_sumOfSquares_26 : decode cX2_sumOfSquares 26 = .ok (.getfield 24, 3) := by decide +kernel
theorem dX2_sumOfSquares_29 : decode cX2_sumOfSquares 29 = .ok (.iload_n 3, 1) := by decide +kernel
theorem dX2_sumOfSquares_30 : decode cX2_sumOfSquares 30 = .ok (.iaload, 1) := by decide +kernel
theorem dX2_sumOfSquares_31 : decode cX2_sumOfSquares 31 = .ok (.aload_n 0, 1) := by decide +kernel
theorem dX2_sumOfSquares_32 : decode cX2_sumOfSquares 32 = .ok (.getfield 24, 3) := by decide +kernel
theorem dX2_sumOfSquares_35 : decode cX2_sumOfSquares 35 = .ok (.iload_n 3, 1) := by decide +kernel
theorem dX2_sumOfSquares_36 : decode cX2_sumOfSquares 36 = .ok (.iaload, 1) := by decide +kernel
theorem dX2_sumOfSquares_37 : decode cX2_sumOfSquares 37 = .ok (.imul, 1) := by decide +kernel
theorem dX2_sumOfSquares_38 : decode cX2_sumOfSquares 38 = .ok (.iadd, 1) := by decide +kernel
theorem dX2_sumOfSquares_39 : decode cX2_sumOfSquares 39 = .ok (.istore_n 2, 1) := by decide +kernel
theorem dX2_sumOfSquares_40 : decode cX2_sumOfSquares 40 = .ok (.iinc 3 1, 3) := by decide +kernel
theorem dX2_sumOfSquares_43 : decode cX2_sumOfSquares 43 = .ok (.goto (-39), 3) := by decide +kernel
theorem dX2_sumOfSquares_46 : decode cX2_sumOfSquares 46 = .ok (.iload_n 2, 1) := by decide +kernel
theorem dX2_sumOfSquares_47 : decode cX2_sumOfSquares 47 = .ok (.ireturn, 1) := by decide +kernel
theorem dX2_isAlike_0 : decode cX2_isAlike 0 = .ok (.iload_n 1, 1) := by decide +kernel
theorem dX2_isAlike_1 : decode cX2_isAlike 1 = .ok (.invokestatic 81, 3) := by decide +kernel
theorem dX2_isAlike_4 : decode cX2_isAlike 4 = .ok (.iload_n 2, 1) := by decide +kernel
theorem dX2_isAlike_5 : decode cX2_isAlike 5 = .ok (.invokestatic 81, 3) := by decide +kernel
theorem dX2_isAlike_8 : decode cX2_isAlike 8 = .ok (.if_icmp .eq 5, 3) := by decide +kernel
theorem dX2_isAlike_11 : decode cX2_isAlike 11 = .ok (.iconst 0, 1) := by decide +kernel
theorem dX2_isAlike_12 : decode cX2_isAlike 12 = .ok (.ireturn, 1) := by decide +kernel
theorem dX2_isAlike_13 : decode cX2_isAlike 13 = .ok (.aload_n 0, 1) := by decide +kernel
theorem dX2_isAlike_14 : decode cX2_isAlike 14 = .ok (.iload_n 2, 1) := by decide +kernel
theorem dX2_isAlike_15 : decode cX2_isAlike 15 = .ok (.aload_n 0, 1) := by decide +kernel
theorem dX2_isAlike_16 : decode cX2_isAlike 16 = .ok (.getfield 30, 3) := by decide +kernel
theorem dX2_isAlike_19 : decode cX2_isAlike 19 = .ok (.invokevirtual 71, 3) := by decide +kernel
theorem dX2_isAlike_22 : decode cX2_isAlike 22 = .ok (.pop, 1) := by decide +kernel
theorem dX2_isAlike_23 : decode cX2_isAlike 23 = .ok (.aload_n 0, 1) := by decide +kernel
theorem dX2_isAlike_24 : decode cX2_isAlike 24 = .ok (.iconst 0, 1) := by decide +kernel
theorem dX2_isAlike_25 : decode cX2_isAlike 25 = .ok (.putfield 93, 3) := by decide +kernel
theorem dX2_isAlike_28 : decode cX2_isAlike 28 = .ok (.iconst 0, 1) := by decide +kernel
theorem dX2_isAlike_29 : decode cX2_isAlike 29 = .ok (.istore_n 3, 1) := by decide +kernel
theorem dX2_isAlike_30 : decode cX2_isAlike 30 = .ok (.iload_n 3, 1) := by decide +kernel
theorem dX2_isAlike_31 : decode cX2_isAlike 31 = .ok (.aload_n 0, 1) := by decide +kernel
theorem dX2_isAlike_32 : decode cX2_isAlike 32 = .ok (.getfield 39, 3) := by decide +kernel
theorem dX2_isAlike_35 : decode cX2_isAlike 35 = .ok (.getfield 60, 3) := by decide +kernel
theorem dX2_isAlike_38 : decode cX2_isAlike 38 = .ok (.if_icmp .ge 63, 3) := by decide +kernel
theorem dX2_isAlike_41 : decode cX2_isAlike 41 = .ok (.iload_n 1, 1) := by decide +kernel
theorem dX2_isAlike_42 : decode cX2_isAlike 42 = .ok (.aload_n 0, 1) := by decide +kernel
theorem dX2_isAlike_43 : decode cX2_isAlike 43 = .ok (.getfield 39, 3) := by decide +kernel
theorem dX2_isAlike_46 : decode cX2_isAlike 46 = .ok (.getfield 96, 3) := by decide +kernel
theorem dX2_isAlike_49 : decode cX2_isAlike 49 = .ok (.iload_n 3, 1) := by decide +kernel
theorem dX2_isAlike_50 : decode cX2_isAlike 50 = .ok (.iaload, 1) := by decide +kernel
theorem dX2_isAlike_51 : decode cX2_isAlike 51 = .ok (.ishr, 1) := by decide +kernel
theorem dX2_isAlike_52 : decode cX2_isAlike 52 = .ok (.iconst 1, 1) := by decide +kernel
theorem dX2_isAlike_53 : decode cX2_isAlike 53 = .ok (.iand, 1) := by decide +kernel
theorem dX2_isAlike_54 : decode cX2_isAlike 54 = .ok (.iconst 1, 1) := by decide +kernel
theorem dX2_isAlike_55 : decode cX2_isAlike 55 = .ok (.if_icmp .ne 40, 3) := by decide +kernel
theorem dX2_isAlike_58 : decode cX2_isAlike 58 = .ok (.aload_n 0, 1) := by decide +kernel
theorem dX2_isAlike_59 : decode cX2_isAlike 59 = .ok (.getfield 93, 3) := by decide +kernel
theorem dX2_isAlike_62 : decode cX2_isAlike 62 = .ok (.bipush 16, 2) := by decide +kernel
theorem dX2_isAlike_64 : decode cX2_isAlike 64 = .ok (.if_icmp .ge 31, 3) := by decide +kernel
theorem dX2_isAlike_67 : decode cX2_isAlike 67 = .ok (.aload_n 0, 1) := by decide +kernel
theorem dX2_isAlike_68 : decode cX2_isAlike 68 = .ok (.getfield 33, 3) := by decide +kernel
theorem dX2_isAlike_71 : decode cX2_isAlike 71 = .ok (.aload_n 0, 1) := by decide +kernel
theorem dX2_isAlike_72 : decode cX2_isAlike 72 = .ok (.getfield 93, 3) := by decide +kernel
theorem dX2_isAlike_75 : decode cX2_isAlike 75 = .ok (.aload_n 0, 1) := by decide +kernel
theorem dX2_isAlike_76 : decode cX2_isAlike 76 = .ok (.getfield 39, 3) := by decide +kernel
theorem dX2_isAlike_79 : decode cX2_isAlike 79 = .ok (.getfield 96, 3) := by decide +kernel
theorem dX2_isAlike_82 : decode cX2_isAlike 82 = .ok (.iload_n 3, 1) := by decide +kernel
theorem dX2_isAlike_83 : decode cX2_isAlike 83 = .ok (.iaload, 1) := by decide +kernel
theorem dX2_isAlike_84 : decode cX2_isAlike 84 = .ok (.iastore, 1) := by decide +kernel
theorem dX2_isAlike_85 : decode cX2_isAlike 85 = .ok (.aload_n 0, 1) := by decide +kernel
theorem dX2_isAlike_86 : decode cX2_isAlike 86 = .ok (.dup, 1) := by decide +kernel
theorem dX2_isAlike_87 : decode cX2_isAlike 87 = .ok (.getfield 93, 3) := by decide +kernel
theorem dX2_isAlike_90 : decode cX2_isAlike 90 = .ok (.iconst 1, 1) := by decide +kernel
theorem dX2_isAlike_91 : decode cX2_isAlike 91 = .ok (.iadd, 1) := by decide +kernel
theorem dX2_isAlike_92 : decode cX2_isAlike 92 = .ok (.putfield 93, 3) := by decide +kernel
theorem dX2_isAlike_95 : decode cX2_isAlike 95 = .ok (.iinc 3 1, 3) := by decide +kernel
theorem dX2_isAlike_98 : decode cX2_isAlike 98 = .ok (.goto (-68), 3) := by decide +kernel
theorem dX2_isAlike_101 : decode cX2_isAlike 101 = .ok (.aload_n 0, 1) := by decide +kernel
theorem dX2_isAlike_102 : decode cX2_isAlike 102 = .ok (.iconst 0, 1) := by decide +kernel
theorem dX2_isAlike_103 : decode cX2_isAlike 103 = .ok (.iload_n 1, 1) := by decide +kernel
theorem dX2_isAlike_104 : decode cX2_isAlike 104 = .ok (.iload_n 2, 1) := by decide +kernel
theorem dX2_isAlike_105 : decode cX2_isAlike 105 = .ok (.iload_n 2, 1) := by decide +kernel
theorem dX2_isAlike_106 : decode cX2_isAlike 106 = .ok (.invokevirtual 99, 3) := by decide +kernel
theorem dX2_isAlike_109 : decode cX2_isAlike 109 = .ok (.ireturn, 1) := by decide +kernel
theorem dX2_pairOff_0 : decode cX2_pairOff 0 = .ok (.iload_n 1, 1) := by decide +kernel
theorem dX2_pairOff_1 : decode cX2_pairOff 1 = .ok (.aload_n 0, 1) := by decide +kernel
theorem dX2_pairOff_2 : decode cX2_pairOff 2 = .ok (.getfield 93, 3) := by decide +kernel
theorem dX2_pairOff_5 : decode cX2_pairOff 5 = .ok (.if_icmp .ge 9, 3) := by decide +kernel
theorem dX2_pairOff_8 : decode cX2_pairOff 8 = .ok (.iload_n 1, 1) := by decide +kernel
theorem dX2_pairOff_9 : decode cX2_pairOff 9 = .ok (.bipush 16, 2) := by decide +kernel
theorem dX2_pairOff_11 : decode cX2_pairOff 11 = .ok (.if_icmp .lt 5, 3) := by decide +kernel
theorem dX2_pairOff_14 : decode cX2_pairOff 14 = .ok (.iconst 1, 1) := by decide +kernel
theorem dX2_pairOff_15 : decode cX2_pairOff 15 = .ok (.ireturn, 1) := by decide +kernel
theorem dX2_pairOff_16 : decode cX2_pairOff 16 = .ok (.aload_n 0, 1) := by decide +kernel
theorem dX2_pairOff_17 : decode cX2_pairOff 17 = .ok (.getfield 33, 3) := by decide +kernel
theorem dX2_pairOff_20 : decode cX2_pairOff 20 = .ok (.iload_n 1, 1) := by decide +kernel
theorem dX2_pairOff_21 : decode cX2_pairOff 21 = .ok (.iaload, 1) := by decide +kernel
theorem dX2_pairOff_22 : decode cX2_pairOff 22 = .ok (.istore 5, 2) := by decide +kernel
theorem dX2_pairOff_24 : decode cX2_pairOff 24 = .ok (.aload_n 0, 1) := by decide +kernel
theorem dX2_pairOff_25 : decode cX2_pairOff 25 = .ok (.iload_n 2, 1) := by decide +kernel
theorem dX2_pairOff_26 : decode cX2_pairOff 26 = .ok (.aload_n 0, 1) := by decide +kernel
theorem dX2_pairOff_27 : decode cX2_pairOff 27 = .ok (.getfield 39, 3) := by decide +kernel
theorem dX2_pairOff_30 : decode cX2_pairOff 30 = .ok (.getfield 78, 3) := by decide +kernel
theorem dX2_pairOff_33 : decode cX2_pairOff 33 = .ok (.iload 5, 2) := by decide +kernel
theorem dX2_pairOff_35 : decode cX2_pairOff 35 = .ok (.iaload, 1) := by decide +kernel
theorem dX2_pairOff_36 : decode cX2_pairOff 36 = .ok (.iand, 1) := by decide +kernel
theorem dX2_pairOff_37 : decode cX2_pairOff 37 = .ok (.invokevirtual 103, 3) := by decide +kernel
theorem dX2_pairOff_40 : decode cX2_pairOff 40 = .ok (.istore 6, 2) := by decide +kernel
theorem dX2_pairOff_42 : decode cX2_pairOff 42 = .ok (.iconst 0, 1) := by decide +kernel
theorem dX2_pairOff_43 : decode cX2_pairOff 43 = .ok (.istore 7, 2) := by decide +kernel
theorem dX2_pairOff_45 : decode cX2_pairOff 45 = .ok (.iload 7, 2) := by decide +kernel
theorem dX2_pairOff_47 : decode cX2_pairOff 47 = .ok (.aload_n 0, 1) := by decide +kernel
theorem dX2_pairOff_48 : decode cX2_pairOff 48 = .ok (.getfield 39, 3) := by decide +kernel
theorem dX2_pairOff_51 : decode cX2_pairOff 51 = .ok (.getfield 60, 3) := by decide +kernel
theorem dX2_pairOff_54 : decode cX2_pairOff 54 = .ok (.if_icmp .ge 98, 3) := by decide +kernel
theorem dX2_pairOff_57 : decode cX2_pairOff 57 = .ok (.iload 4, 2) := by decide +kernel
theorem dX2_pairOff_59 : decode cX2_pairOff 59 = .ok (.iload 7, 2) := by decide +kernel
theorem dX2_pairOff_61 : decode cX2_pairOff 61 = .ok (.ishr, 1) := by decide +kernel
theorem dX2_pairOff_62 : decode cX2_pairOff 62 = .ok (.iconst 1, 1) := by decide +kernel
theorem dX2_pairOff_63 : decode cX2_pairOff 63 = .ok (.iand, 1) := by decide +kernel
theorem dX2_pairOff_64 : decode cX2_pairOff 64 = .ok (.iconst 1, 1) := by decide +kernel
theorem dX2_pairOff_65 : decode cX2_pairOff 65 = .ok (.if_icmp .ne 24, 3) := by decide +kernel
theorem dX2_pairOff_68 : decode cX2_pairOff 68 = .ok (.aload_n 0, 1) := by decide +kernel
theorem dX2_pairOff_69 : decode cX2_pairOff 69 = .ok (.getfield 30, 3) := by decide +kernel
theorem dX2_pairOff_72 : decode cX2_pairOff 72 = .ok (.iload 7, 2) := by decide +kernel
theorem dX2_pairOff_74 : decode cX2_pairOff 74 = .ok (.iaload, 1) := by decide +kernel
theorem dX2_pairOff_75 : decode cX2_pairOff 75 = .ok (.aload_n 0, 1) := by decide +kernel
theorem dX2_pairOff_76 : decode cX2_pairOff 76 = .ok (.getfield 27, 3) := by decide +kernel
theorem dX2_pairOff_79 : decode cX2_pairOff 79 = .ok (.iload 5, 2) := by decide +kernel
theorem dX2_pairOff_81 : decode cX2_pairOff 81 = .ok (.iaload, 1) := by decide +kernel
theorem dX2_pairOff_82 : decode cX2_pairOff 82 = .ok (.if_icmp .ne 7, 3) := by decide +kernel
theorem dX2_pairOff_85 : decode cX2_pairOff 85 = .ok (.iconst 1, 1) := by decide +kernel
theorem dX2_pairOff_86 : decode cX2_pairOff 86 = .ok (.goto 4, 3) := by decide +kernel
theorem dX2_pairOff_89 : decode cX2_pairOff 89 = .ok (.iconst 0, 1) := by decide +kernel
theorem dX2_pairOff_90 : decode cX2_pairOff 90 = .ok (.istore 8, 2) := by decide +kernel
theorem dX2_pairOff_92 : decode cX2_pairOff 92 = .ok (.iload 8, 2) := by decide +kernel
theorem dX2_pairOff_94 : decode cX2_pairOff 94 = .ok (.ifCond .eq 52, 3) := by decide +kernel
theorem dX2_pairOff_97 : decode cX2_pairOff 97 = .ok (.iload_n 3, 1) := by decide +kernel
theorem dX2_pairOff_98 : decode cX2_pairOff 98 = .ok (.aload_n 0, 1) := by decide +kernel
theorem dX2_pairOff_99 : decode cX2_pairOff 99 = .ok (.getfield 39, 3) := by decide +kernel
theorem dX2_pairOff_102 : decode cX2_pairOff 102 = .ok (.getfield 78, 3) := by decide +kernel
theorem dX2_pairOff_105 : decode cX2_pairOff 105 = .ok (.iload 7, 2) := by decide +kernel
theorem dX2_pairOff_107 : decode cX2_pairOff 107 = .ok (.iaload, 1) := by decide +kernel
theorem dX2_pairOff_108 : decode cX2_pairOff 108 = .ok (.iand, 1) := by decide +kernel
theorem dX2_pairOff_109 : decode cX2_pairOff 109 = .ok (.iload 6, 2) := by decide +kernel
theorem dX2_pairOff_111 : decode cX2_pairOff 111 = .ok (.if_icmp .ne 35, 3) := by decide +kernel
theorem dX2_pairOff_114 : decode cX2_pairOff 114 = .ok (.aload_n 0, 1) := by decide +kernel
theorem dX2_pairOff_115 : decode cX2_pairOff 115 = .ok (.getfield 36, 3) := by decide +kernel
theorem dX2_pairOff_118 : decode cX2_pairOff 118 = .ok (.iload 5, 2) := by decide +kernel
theorem dX2_pairOff_120 : decode cX2_pairOff 120 = .ok (.iload 7, 2) := by decide +kernel
theorem dX2_pairOff_122 : decode cX2_pairOff 122 = .ok (.iastore, 1) := by decide +kernel
theorem dX2_pairOff_123 : decode cX2_pairOff 123 = .ok (.aload_n 0, 1) := by decide +kernel
theorem dX2_pairOff_124 : decode cX2_pairOff 124 = .ok (.iload_n 1, 1) := by decide +kernel
theorem dX2_pairOff_125 : decode cX2_pairOff 125 = .ok (.iconst 1, 1) := by decide +kernel
theorem dX2_pairOff_126 : decode cX2_pairOff 126 = .ok (.iadd, 1) := by decide +kernel
theorem dX2_pairOff_127 : decode cX2_pairOff 127 = .ok (.iload_n 2, 1) := by decide +kernel
theorem dX2_pairOff_128 : decode cX2_pairOff 128 = .ok (.iload_n 3, 1) := by decide +kernel
theorem dX2_pairOff_129 : decode cX2_pairOff 129 = .ok (.iload 4, 2) := by decide +kernel
theorem dX2_pairOff_131 : decode cX2_pairOff 131 = .ok (.iconst 1, 1) := by decide +kernel
theorem dX2_pairOff_132 : decode cX2_pairOff 132 = .ok (.iload 7, 2) := by decide +kernel
theorem dX2_pairOff_134 : decode cX2_pairOff 134 = .ok (.ishl, 1) := by decide +kernel
theorem dX2_pairOff_135 : decode cX2_pairOff 135 = .ok (.iconst (-1), 1) := by decide +kernel
theorem dX2_pairOff_136 : decode cX2_pairOff 136 = .ok (.ixor, 1) := by decide +kernel
theorem dX2_pairOff_137 : decode cX2_pairOff 137 = .ok (.iand, 1) := by decide +kernel
theorem dX2_pairOff_138 : decode cX2_pairOff 138 = .ok (.invokevirtual 99, 3) := by decide +kernel
theorem dX2_pairOff_141 : decode cX2_pairOff 141 = .ok (.ifCond .eq 5, 3) := by decide +kernel
theorem dX2_pairOff_144 : decode cX2_pairOff 144 = .ok (.iconst 1, 1) := by decide +kernel
theorem dX2_pairOff_145 : decode cX2_pairOff 145 = .ok (.ireturn, 1) := by decide +kernel
theorem dX2_pairOff_146 : decode cX2_pairOff 146 = .ok (.iinc 7 1, 3) := by decide +kernel
theorem dX2_pairOff_149 : decode cX2_pairOff 149 = .ok (.goto (-104), 3) := by decide +kernel
theorem dX2_pairOff_152 : decode cX2_pairOff 152 = .ok (.iconst 0, 1) := by decide +kernel
theorem dX2_pairOff_153 : decode cX2_pairOff 153 = .ok (.ireturn, 1) := by decide +kernel
theorem dX2_partnersOf_0 : decode cX2_partnersOf 0 = .ok (.iconst 0, 1) := by decide +kernel
theorem dX2_partnersOf_1 : decode cX2_partnersOf 1 = .ok (.istore_n 2, 1) := by decide +kernel
theorem dX2_partnersOf_2 : decode cX2_partnersOf 2 = .ok (.iconst 0, 1) := by decide +kernel
theorem dX2_partnersOf_3 : decode cX2_partnersOf 3 = .ok (.istore_n 3, 1) := by decide +kernel
theorem dX2_partnersOf_4 : decode cX2_partnersOf 4 = .ok (.iload_n 3, 1) := by decide +kernel
theorem dX2_partnersOf_5 : decode cX2_partnersOf 5 = .ok (.aload_n 0, 1) := by decide +kernel
theorem dX2_partnersOf_6 : decode cX2_partnersOf 6 = .ok (.getfield 39, 3) := by decide +kernel
theorem dX2_partnersOf_9 : decode cX2_partnersOf 9 = .ok (.getfield 60, 3) := by decide +kernel
theorem dX2_partnersOf_12 : decode cX2_partnersOf 12 = .ok (.if_icmp .ge 29, 3) := by decide +kernel
theorem dX2_partnersOf_15 : decode cX2_partnersOf 15 = .ok (.iload_n 1, 1) := by decide +kernel
theorem dX2_partnersOf_16 : decode cX2_partnersOf 16 = .ok (.iload_n 3, 1) := by decide +kernel
theorem dX2_partnersOf_17 : decode cX2_partnersOf 17 = .ok (.ishr, 1) := by decide +kernel
theorem dX2_partnersOf_18 : decode cX2_partnersOf 18 = .ok (.iconst 1, 1) := by decide +kernel
theorem dX2_partnersOf_19 : decode cX2_partnersOf 19 = .ok (.iand, 1) := by decide +kernel
theorem dX2_partnersOf_20 : decode cX2_partnersOf 20 = .ok (.iconst 1, 1) := by decide +kernel
theorem dX2_partnersOf_21 : decode cX2_partnersOf 21 = .ok (.if_icmp .ne 14, 3) := by decide +kernel
theorem dX2_partnersOf_24 : decode cX2_partnersOf 24 = .ok (.iload_n 2, 1) := by decide +kernel
theorem dX2_partnersOf_25 : decode cX2_partnersOf 25 = .ok (.iconst 1, 1) := by decide +kernel
theorem dX2_partnersOf_26 : decode cX2_partnersOf 26 = .ok (.aload_n 0, 1) := by decide +kernel
theorem dX2_partnersOf_27 : decode cX2_partnersOf 27 = .ok (.getfield 36, 3) := by decide +kernel
theorem dX2_partnersOf_30 : decode cX2_partnersOf 30 = .ok (.iload_n 3, 1) := by decide +kernel
theorem dX2_partnersOf_31 : decode cX2_partnersOf 31 = .ok (.iaload, 1) := by decide +kernel
theorem dX2_partnersOf_32 : decode cX2_partnersOf 32 = .ok (.ishl, 1) := by decide +kernel
theorem dX2_partnersOf_33 : decode cX2_partnersOf 33 = .ok (.ior, 1) := by decide +kernel
theorem dX2_partnersOf_34 : decode cX2_partnersOf 34 = .ok (.istore_n 2, 1) := by decide +kernel
theorem dX2_partnersOf_35 : decode cX2_partnersOf 35 = .ok (.iinc 3 1, 3) := by decide +kernel
theorem dX2_partnersOf_38 : decode cX2_partnersOf 38 = .ok (.goto (-34), 3) := by decide +kernel
theorem dX2_partnersOf_41 : decode cX2_partnersOf 41 = .ok (.iload_n 2, 1) := by decide +kernel
theorem dX2_partnersOf_42 : decode cX2_partnersOf 42 = .ok (.ireturn, 1) := by decide +kernel
theorem dX3_init_0 : decode cX3_init 0 = .ok (.aload_n 0, 1) := by decide +kernel
theorem dX3_init_1 : decode cX3_init 1 = .ok (.invokespecial 3, 3) := by decide +kernel
theorem dX3_init_4 : decode cX3_init 4 = .ok (.aload_n 0, 1) := by decide +kernel
theorem dX3_init_5 : decode cX3_init 5 = .ok (.bipush 16, 2) := by decide +kernel
theorem dX3_init_7 : decode cX3_init 7 = .ok (.newarray .int, 2) := by decide +kernel
theorem dX3_init_9 : decode cX3_init 9 = .ok (.putfield 9, 3) := by decide +kernel
theorem dX3_init_12 : decode cX3_init 12 = .ok (.aload_n 0, 1) := by decide +kernel
theorem dX3_init_13 : decode cX3_init 13 = .ok (.aload_n 1, 1) := by decide +kernel
theorem dX3_init_14 : decode cX3_init 14 = .ok (.putfield 15, 3) := by decide +kernel
theorem dX3_init_17 : decode cX3_init 17 = .ok (.aload_n 0, 1) := by decide +kernel
theorem dX3_init_18 : decode cX3_init 18 = .ok (.aload_n 2, 1) := by decide +kernel
theorem dX3_init_19 : decode cX3_init 19 = .ok (.putfield 19, 3) := by decide +kernel
theorem dX3_init_22 : decode cX3_init 22 = .ok (.aload_n 0, 1) := by decide +kernel
theorem dX3_init_23 : decode cX3_init 23 = .ok (.getfield 9, 3) := by decide +kernel
theorem dX3_init_26 : decode cX3_init 26 = .ok (.iconst (-1), 1) := by decide +kernel
theorem dX3_init_27 : decode cX3_init 27 = .ok (.invokestatic 22, 3) := by decide +kernel
theorem dX3_init_30 : decode cX3_init 30 = .ok (.return_, 1) := by decide +kernel
theorem dX3_clear_0 : decode cX3_clear 0 = .ok (.aload_n 0, 1) := by decide +kernel
theorem dX3_clear_1 : decode cX3_clear 1 = .ok (.getfield 9, 3) := by decide +kernel
theorem dX3_clear_4 : decode cX3_clear 4 = .ok (.iconst (-1), 1) := by decide +kernel
theorem dX3_clear_5 : decode cX3_clear 5 = .ok (.invokestatic 22, 3) := by decide +kernel
theorem dX3_clear_8 : decode cX3_clear 8 = .ok (.return_, 1) := by decide +kernel
theorem dX3_isWhole_0 : decode cX3_isWhole 0 = .ok (.iconst 0, 1) := by decide +kernel
theorem dX3_isWhole_1 : decode cX3_isWhole 1 = .ok (.istore_n 1, 1) := by decide +kernel
theorem dX3_isWhole_2 : decode cX3_isWhole 2 = .ok (.iload_n 1, 1) := by decide +kernel
theorem dX3_isWhole_3 : decode cX3_isWhole 3 = .ok (.aload_n 0, 1) := by decide +kernel
theorem dX3_isWhole_4 : decode cX3_isWhole 4 = .ok (.getfield 15, 3) := by decide +kernel
theorem dX3_isWhole_7 : decode cX3_isWhole 7 = .ok (.getfield 28, 3) := by decide +kernel
theorem dX3_isWhole_10 : decode cX3_isWhole 10 = .ok (.if_icmp .ge 20, 3) := by decide +kernel
theorem dX3_isWhole_13 : decode cX3_isWhole 13 = .ok (.aload_n 0, 1) := by decide +kernel
theorem dX3_isWhole_14 : decode cX3_isWhole 14 = .ok (.getfield 9, 3) := by decide +kernel
theorem dX3_isWhole_17 : decode cX3_isWhole 17 = .ok (.iload_n 1, 1) := by decide +kernel
theorem dX3_isWhole_18 : decode cX3_isWhole 18 = .ok (.iaload, 1) := by decide +kernel
theorem dX3_isWhole_19 : decode cX3_isWhole 19 = .ok (.ifCond .ge 5, 3) := by decide +kernel
theorem dX3_isWhole_22 : decode cX3_isWhole 22 = .ok (.iconst 0, 1) := by decide +kernel
theorem dX3_isWhole_23 : decode cX3_isWhole 23 = .ok (.ireturn, 1) := by decide +kernel
theorem dX3_isWhole_24 : decode cX3_isWhole 24 = .ok (.iinc 1 1, 3) := by decide +kernel
theorem dX3_isWhole_27 : decode cX3_isWhole 27 = .ok (.goto (-25), 3) := by decide +kernel
theorem dX3_isWhole_30 : decode cX3_isWhole 30 = .ok (.iconst 1, 1) := by decide +kernel
theorem dX3_isWhole_31 : decode cX3_isWhole 31 = .ok (.ireturn, 1) := by decide +kernel
theorem dX3_isMonotone_0 : decode cX3_isMonotone 0 = .ok (.iconst 0, 1) := by decide +kernel
theorem dX3_isMonotone_1 : decode cX3_isMonotone 1 = .ok (.istore_n 1, 1) := by decide +kernel
theorem dX3_isMonotone_2 : decode cX3_isMonotone 2 = .ok (.iload_n 1, 1) := by decide +kernel
theorem dX3_isMonotone_3 : decode cX3_isMonotone 3 = .ok (.aload_n 0, 1) := by decide +kernel
theorem dX3_isMonotone_4 : decode cX3_isMonotone 4 = .ok (.getfield 15, 3) := by decide +kernel
theorem dX3_isMonotone_7 : decode cX3_isMonotone 7 = .ok (.getfield 28, 3) := by decide +kernel
theorem dX3_isMonotone_10 : decode cX3_isMonotone 10 = .ok (.if_icmp .ge 64, 3) := by decide +kernel
theorem dX3_isMonotone_13 : decode cX3_isMonotone 13 = .ok (.iconst 0, 1) := by decide +kernel
theorem dX3_isMonotone_14 : decode cX3_isMonotone 14 = .ok (.istore_n 2, 1) := by decide +kernel
theorem dX3_isMonotone_15 : decode cX3_isMonotone 15 = .ok (.iload_n 2, 1) := by decide +kernel
theorem dX3_isMonotone_16 : decode cX3_isMonotone 16 = .ok (.aload_n 0, 1) := by decide +kernel
theorem dX3_isMonotone_17 : decode cX3_isMonotone 17 = .ok (.getfield 15, 3) := by decide +kernel
theorem dX3_isMonotone_20 : decode cX3_isMonotone 20 = .ok (.getfield 28, 3) := by decide +kernel
theorem dX3_isMonotone_23 : decode cX3_isMonotone 23 = .ok (.if_icmp .ge 45, 3) := by decide +kernel
theorem dX3_isMonotone_26 : decode cX3_isMonotone 26 = .ok (.aload_n 0, 1) := by decide +kernel
theorem dX3_isMonotone_27 : decode cX3_isMonotone 27 = .ok (.getfield 15, 3) := by decide +kernel
theorem dX3_isMonotone_30 : decode cX3_isMonotone 30 = .ok (.iload_n 1, 1) := by decide +kernel
theorem dX3_isMonotone_31 : decode cX3_isMonotone 31 = .ok (.iload_n 2, 1) := by decide +kernel
theorem dX3_isMonotone_32 : decode cX3_isMonotone 32 = .ok (.invokevirtual 34, 3) := by decide +kernel
theorem dX3_isMonotone_35 : decode cX3_isMonotone 35 = .ok (.ifCond .eq 27, 3) := by decide +kernel
theorem dX3_isMonotone_38 : decode cX3_isMonotone 38 = .ok (.aload_n 0, 1) := by decide +kernel
theorem dX3_isMonotone_39 : decode cX3_isMonotone 39 = .ok (.getfield 19, 3) := by decide +kernel
theorem dX3_isMonotone_42 : decode cX3_isMonotone 42 = .ok (.aload_n 0, 1) := by decide +kernel
theorem dX3_isMonotone_43 : decode cX3_isMonotone 43 = .ok (.getfield 9, 3) := by decide +kernel
theorem dX3_isMonotone_46 : decode cX3_isMonotone 46 = .ok (.iload_n 1, 1) := by decide +kernel
theorem dX3_isMonotone_47 : decode cX3_isMonotone 47 = .ok (.iaload, 1) := by decide +kernel
theorem dX3_isMonotone_48 : decode cX3_isMonotone 48 = .ok (.aload_n 0, 1) := by decide +kernel
theorem dX3_isMonotone_49 : decode cX3_isMonotone 49 = .ok (.getfield 9, 3) := by decide +kernel
theorem dX3_isMonotone_52 : decode cX3_isMonotone 52 = .ok (.iload_n 2, 1) := by decide +kernel
theorem dX3_isMonotone_53 : decode cX3_isMonotone 53 = .ok (.iaload, 1) := by decide +kernel
theorem dX3_isMonotone_54 : decode cX3_isMonotone 54 = .ok (.invokevirtual 34, 3) := by decide +kernel
theorem dX3_isMonotone_57 : decode cX3_isMonotone 57 = .ok (.ifCond .ne 5, 3) := by decide +kernel
theorem dX3_isMonotone_60 : decode cX3_isMonotone 60 = .ok (.iconst 0, 1) := by decide +kernel
theorem dX3_isMonotone_61 : decode cX3_isMonotone 61 = .ok (.ireturn, 1) := by decide +kernel
theorem dX3_isMonotone_62 : decode cX3_isMonotone 62 = .ok (.iinc 2 1, 3) := by decide +kernel
theorem dX3_isMonotone_65 : decode cX3_isMonotone 65 = .ok (.goto (-50), 3) := by decide +kernel
theorem dX3_isMonotone_68 : decode cX3_isMonotone 68 = .ok (.iinc 1 1, 3) := by decide +kernel
theorem dX3_isMonotone_71 : decode cX3_isMonotone 71 = .ok (.goto (-69), 3) := by decide +kernel
theorem dX3_isMonotone_74 : decode cX3_isMonotone 74 = .ok (.iconst 1, 1) := by decide +kernel
theorem dX3_isMonotone_75 : decode cX3_isMonotone 75 = .ok (.ireturn, 1) := by decide +kernel
theorem dX3_adjointOf_0 : decode cX3_adjointOf 0 = .ok (.iconst 0, 1) := by decide +kernel
theorem dX3_adjointOf_1 : decode cX3_adjointOf 1 = .ok (.istore_n 2, 1) := by decide +kernel
theorem dX3_adjointOf_2 : decode cX3_adjointOf 2 = .ok (.iconst 0, 1) := by decide +kernel
theorem dX3_adjointOf_3 : decode cX3_adjointOf 3 = .ok (.istore_n 3, 1) := by decide +kernel
theorem dX3_adjointOf_4 : decode cX3_adjointOf 4 = .ok (.iload_n 3, 1) := by decide +kernel
theorem dX3_adjointOf_5 : decode cX3_adjointOf 5 = .ok (.aload_n 0, 1) := by decide +kernel
theorem dX3_adjointOf_6 : decode cX3_adjointOf 6 = .ok (.getfield 15, 3) := by decide +kernel
theorem dX3_adjointOf_9 : decode cX3_adjointOf 9 = .ok (.getfield 28, 3) := by decide +kernel
theorem dX3_adjointOf_12 : decode cX3_adjointOf 12 = .ok (.if_icmp .ge 32, 3) := by decide +kernel
theorem dX3_adjointOf_15 : decode cX3_adjointOf 15 = .ok (.aload_n 0, 1) := by decide +kernel
theorem dX3_adjointOf_16 : decode cX3_adjointOf 16 = .ok (.getfield 19, 3) := by decide +kernel
theorem dX3_adjointOf_19 : decode cX3_adjointOf 19 = .ok (.aload_n 0, 1) := by decide +kernel
theorem dX3_adjointOf_20 : decode cX3_adjointOf 20 = .ok (.getfield 9, 3) := by decide +kernel
theorem dX3_adjointOf_23 : decode cX3_adjointOf 23 = .ok (.iload_n 3, 1) := by decide +kernel
theorem dX3_adjointOf_24 : decode cX3_adjointOf 24 = .ok (.iaload, 1) := by decide +kernel
theorem dX3_adjointOf_25 : decode cX3_adjointOf 25 = .ok (.iload_n 1, 1) := by decide +kernel
theorem dX3_adjointOf_26 : decode cX3_adjointOf 26 = .ok (.invokevirtual 34, 3) := by decide +kernel
theorem dX3_adjointOf_29 : decode cX3_adjointOf 29 = .ok (.ifCond .eq 9, 3) := by decide +kernel
theorem dX3_adjointOf_32 : decode cX3_adjointOf 32 = .ok (.iload_n 2, 1) := by decide +kernel
theorem dX3_adjointOf_33 : decode cX3_adjointOf 33 = .ok (.iconst 1, 1) := by decide +kernel
theorem dX3_adjointOf_34 : decode cX3_adjointOf 34 = .ok (.iload_n 3, 1) := by decide +kernel
theorem dX3_adjointOf_35 : decode cX3_adjointOf 35 = .ok (.ishl, 1) := by decide +kernel
theorem dX3_adjointOf_36 : decode cX3_adjointOf 36 = .ok (.ior, 1) := by decide +kernel
theorem dX3_adjointOf_37 : decode cX3_adjointOf 37 = .ok (.istore_n 2, 1) := by decide +kernel
theorem dX3_adjointOf_38 : decode cX3_adjointOf 38 = .ok (.iinc 3 1, 3) := by decide +kernel
theorem dX3_adjointOf_41 : decode cX3_adjointOf 41 = .ok (.goto (-37), 3) := by decide +kernel
theorem dX3_adjointOf_44 : decode cX3_adjointOf 44 = .ok (.aload_n 0, 1) := by decide +kernel
theorem dX3_adjointOf_45 : decode cX3_adjointOf 45 = .ok (.getfield 15, 3) := by decide +kernel
theorem dX3_adjointOf_48 : decode cX3_adjointOf 48 = .ok (.iload_n 2, 1) := by decide +kernel
theorem dX3_adjointOf_49 : decode cX3_adjointOf 49 = .ok (.invokevirtual 38, 3) := by decide +kernel
theorem dX3_adjointOf_52 : decode cX3_adjointOf 52 = .ok (.ireturn, 1) := by decide +kernel
theorem dX3_isJoined_0 : decode cX3_isJoined 0 = .ok (.iconst 0, 1) := by decide +kernel
theorem dX3_isJoined_1 : decode cX3_isJoined 1 = .ok (.istore_n 1, 1) := by decide +kernel
theorem dX3_isJoined_2 : decode cX3_isJoined 2 = .ok (.iload_n 1, 1) := by decide +kernel
theorem dX3_isJoined_3 : decode cX3_isJoined 3 = .ok (.aload_n 0, 1) := by decide +kernel
theorem dX3_isJoined_4 : decode cX3_isJoined 4 = .ok (.getfield 19, 3) := by decide +kernel
theorem dX3_isJoined_7 : decode cX3_isJoined 7 = .ok (.getfield 28, 3) := by decide +kernel
theorem dX3_isJoined_10 : decode cX3_isJoined 10 = .ok (.if_icmp .ge 19, 3) := by decide +kernel
theorem dX3_isJoined_13 : decode cX3_isJoined 13 = .ok (.aload_n 0, 1) := by decide +kernel
theorem dX3_isJoined_14 : decode cX3_isJoined 14 = .ok (.iload_n 1, 1) := by decide +kernel
theorem dX3_isJoined_15 : decode cX3_isJoined 15 = .ok (.invokevirtual 42, 3) := by decide +kernel
theorem dX3_isJoined_18 : decode cX3_isJoined 18 = .ok (.ifCond .ge 5, 3) := by decide +kernel
theorem dX3_isJoined_21 : decode cX3_isJoined 21 = .ok (.iconst 0, 1) := by decide +kernel
theorem dX3_isJoined_22 : decode cX3_isJoined 22 = .ok (.ireturn, 1) := by decide +kernel
theorem dX3_isJoined_23 : decode cX3_isJoined 23 = .ok (.iinc 1 1, 3) := by decide +kernel
theorem dX3_isJoined_26 : decode cX3_isJoined 26 = .ok (.goto (-24), 3) := by decide +kernel
theorem dX3_isJoined_29 : decode cX3_isJoined 29 = .ok (.aload_n 0, 1) := by decide +kernel
theorem dX3_isJoined_30 : decode cX3_isJoined 30 = .ok (.invokevirtual 45, 3) := by decide +kernel
theorem dX3_isJoined_33 : decode cX3_isJoined 33 = .ok (.ireturn, 1) := by decide +kernel
theorem dX3_sideHere_0 : decode cX3_sideHere 0 = .ok (.aload_n 0, 1) := by decide +kernel
theorem dX3_sideHere_1 : decode cX3_sideHere 1 = .ok (.getfield 15, 3) := by decide +kernel
theorem dX3_sideHere_4 : decode cX3_sideHere 4 = .ok (.iload_n 1, 1) := by decide +kernel
theorem dX3_sideHere_5 : decode cX3_sideHere 5 = .ok (.aload_n 3, 1) := by decide +kernel
theorem dX3_sideHere_6 : decode cX3_sideHere 6 = .ok (.invokevirtual 49, 3) := by decide +kernel
theorem dX3_sideHere_9 : decode cX3_sideHere 9 = .ok (.lconst 0, 1) := by decide +kernel
theorem dX3_sideHere_10 : decode cX3_sideHere 10 = .ok (.lstore 4, 2) := by decide +kernel
theorem dX3_sideHere_12 : decode cX3_sideHere 12 = .ok (.iconst 0, 1) := by decide +kernel
theorem dX3_sideHere_13 : decode cX3_sideHere 13 = .ok (.istore 6, 2) := by decide +kernel
theorem dX3_sideHere_15 : decode cX3_sideHere 15 = .ok (.iload 6, 2) := by decide +kernel
theorem dX3_sideHere_17 : decode cX3_sideHere 17 = .ok (.aload_n 0, 1) := by decide +kernel
theorem dX3_sideHere_18 : decode cX3_sideHere 18 = .ok (.getfield 15, 3) := by decide +kernel
theorem dX3_sideHere_21 : decode cX3_sideHere 21 = .ok (.getfield 28, 3) := by decide +kernel
theorem dX3_sideHere_24 : decode cX3_sideHere 24 = .ok (.if_icmp .ge 42, 3) := by decide +kernel
theorem dX3_sideHere_27 : decode cX3_sideHere 27 = .ok (.aload_n 0, 1) := by decide +kernel
theorem dX3_sideHere_28 : decode cX3_sideHere 28 = .ok (.getfield 9, 3) := by decide +kernel
theorem dX3_sideHere_31 : decode cX3_sideHere 31 = .ok (.iload 6, 2) := by decide +kernel
theorem dX3_sideHere_33 : decode cX3_sideHere 33 = .ok (.iaload, 1) := by decide +kernel
theorem dX3_sideHere_34 : decode cX3_sideHere 34 = .ok (.iload_n 2, 1) := by decide +kernel
theorem dX3_sideHere_35 : decode cX3_sideHere 35 = .ok (.if_icmp .ne 25, 3) := by decide +kernel
theorem dX3_sideHere_38 : decode cX3_sideHere 38 = .ok (.aload_n 0, 1) := by decide +kernel
theorem dX3_sideHere_39 : decode cX3_sideHere 39 = .ok (.getfield 15, 3) := by decide +kernel
theorem dX3_sideHere_42 : decode cX3_sideHere 42 = .ok (.iload_n 1, 1) := by decide +kernel
theorem dX3_sideHere_43 : decode cX3_sideHere 43 = .ok (.iload 6, 2) := by decide +kernel
theorem dX3_sideHere_45 : decode cX3_sideHere 45 = .ok (.invokevirtual 34, 3) := by decide +kernel
theorem dX3_sideHere_48 : decode cX3_sideHere 48 = .ok (.ifCond .eq 12, 3) := by decide +kernel
theorem dX3_sideHere_51 : decode cX3_sideHere 51 = .ok (.lload 4, 2) := by decide +kernel
theorem dX3_sideHere_53 : decode cX3_sideHere 53 = .ok (.aload_n 3, 1) := by decide +kernel
theorem dX3_sideHere_54 : decode cX3_sideHere 54 = .ok (.iload 6, 2) := by decide +kernel
theorem dX3_sideHere_56 : decode cX3_sideHere 56 = .ok (.laload, 1) := by decide +kernel
theorem dX3_sideHere_57 : decode cX3_sideHere 57 = .ok (.ladd, 1) := by decide +kernel
theorem dX3_sideHere_58 : decode cX3_sideHere 58 = .ok (.lstore 4, 2) := by decide +kernel
theorem dX3_sideHere_60 : decode cX3_sideHere 60 = .ok (.iinc 6 1, 3) := by decide +kernel
theorem dX3_sideHere_63 : decode cX3_sideHere 63 = .ok (.goto (-48), 3) := by decide +kernel
theorem dX3_sideHere_66 : decode cX3_sideHere 66 = .ok (.lload 4, 2) := by decide +kernel
theorem dX3_sideHere_68 : decode cX3_sideHere 68 = .ok (.lreturn, 1) := by decide +kernel
theorem dX3_sideThere_0 : decode cX3_sideThere 0 = .ok (.aload_n 0, 1) := by decide +kernel
theorem dX3_sideThere_1 : decode cX3_sideThere 1 = .ok (.getfield 19, 3) := by decide +kernel
theorem dX3_sideThere_4 : decode cX3_sideThere 4 = .ok (.iload_n 2, 1) := by decide +kernel
theorem dX3_sideThere_5 : decode cX3_sideThere 5 = .ok (.aload_n 3, 1) := by decide +kernel
theorem dX3_sideThere_6 : decode cX3_sideThere 6 = .ok (.invokevirtual 53, 3) := by decide +kernel
theorem dX3_sideThere_9 : decode cX3_sideThere 9 = .ok (.lconst 0, 1) := by decide +kernel
theorem dX3_sideThere_10 : decode cX3_sideThere 10 = .ok (.lstore 4, 2) := by decide +kernel
theorem dX3_sideThere_12 : decode cX3_sideThere 12 = .ok (.iconst 0, 1) := by decide +kernel
theorem dX3_sideThere_13 : decode cX3_sideThere 13 = .ok (.istore 6, 2) := by decide +kernel
theorem dX3_sideThere_15 : decode cX3_sideThere 15 = .ok (.iload 6, 2) := by decide +kernel
theorem dX3_sideThere_17 : decode cX3_sideThere 17 = .ok (.aload_n 0, 1) := by decide +kernel
theorem dX3_sideThere_18 : decode cX3_sideThere 18 = .ok (.getfield 19, 3) := by decide +kernel
theorem dX3_sideThere_21 : decode cX3_sideThere 21 = .ok (.getfield 28, 3) := by decide +kernel
theorem dX3_sideThere_24 : decode cX3_sideThere 24 = .ok (.if_icmp .ge 41, 3) := by decide +kernel
theorem dX3_sideThere_27 : decode cX3_sideThere 27 = .ok (.aload_n 0, 1) := by decide +kernel
theorem dX3_sideThere_28 : decode cX3_sideThere 28 = .ok (.getfield 19, 3) := by decide +kernel
theorem dX3_sideThere_31 : decode cX3_sideThere 31 = .ok (.iload 6, 2) := by decide +kernel
theorem dX3_sideThere_33 : decode cX3_sideThere 33 = .ok (.iload_n 2, 1) := by decide +kernel
theorem dX3_sideThere_34 : decode cX3_sideThere 34 = .ok (.invokevirtual 34, 3) := by decide +kernel
theorem dX3_sideThere_37 : decode cX3_sideThere 37 = .ok (.ifCond .eq 22, 3) := by decide +kernel
theorem dX3_sideThere_40 : decode cX3_sideThere 40 = .ok (.aload_n 0, 1) := by decide +kernel
theorem dX3_sideThere_41 : decode cX3_sideThere 41 = .ok (.iload 6, 2) := by decide +kernel
theorem dX3_sideThere_43 : decode cX3_sideThere 43 = .ok (.invokevirtual 42, 3) := by decide +kernel
theorem dX3_sideThere_46 : decode cX3_sideThere 46 = .ok (.iload_n 1, 1) := by decide +kernel
theorem dX3_sideThere_47 : decode cX3_sideThere 47 = .ok (.if_icmp .ne 12, 3) := by decide +kernel
theorem dX3_sideThere_50 : decode cX3_sideThere 50 = .ok (.lload 4, 2) := by decide +kernel
theorem dX3_sideThere_52 : decode cX3_sideThere 52 = .ok (.aload_n 3, 1) := by decide +kernel
theorem dX3_sideThere_53 : decode cX3_sideThere 53 = .ok (.iload 6, 2) := by decide +kernel
theorem dX3_sideThere_55 : decode cX3_sideThere 55 = .ok (.laload, 1) := by decide +kernel
theorem dX3_sideThere_56 : decode cX3_sideThere 56 = .ok (.ladd, 1) := by decide +kernel
theorem dX3_sideThere_57 : decode cX3_sideThere 57 = .ok (.lstore 4, 2) := by decide +kernel
theorem dX3_sideThere_59 : decode cX3_sideThere 59 = .ok (.iinc 6 1, 3) := by decide +kernel
theorem dX3_sideThere_62 : decode cX3_sideThere 62 = .ok (.goto (-47), 3) := by decide +kernel
theorem dX3_sideThere_65 : decode cX3_sideThere 65 = .ok (.lload 4, 2) := by decide +kernel
theorem dX3_sideThere_67 : decode cX3_sideThere 67 = .ok (.lreturn, 1) := by decide +kernel
theorem dX4_init_0 : decode cX4_init 0 = .ok (.aload_n 0, 1) := by decide +kernel
theorem dX4_init_1 : decode cX4_init 1 = .ok (.invokespecial 3, 3) := by decide +kernel
theorem dX4_init_4 : decode cX4_init 4 = .ok (.aload_n 0, 1) := by decide +kernel
theorem dX4_init_5 : decode cX4_init 5 = .ok (.iconst 1, 1) := by decide +kernel
theorem dX4_init_6 : decode cX4_init 6 = .ok (.putfield 9, 3) := by decide +kernel
theorem dX4_init_9 : decode cX4_init 9 = .ok (.aload_n 0, 1) := by decide +kernel
theorem dX4_init_10 : decode cX4_init 10 = .ok (.bipush 16, 2) := by decide +kernel
theorem dX4_init_12 : decode cX4_init 12 = .ok (.newarray .int, 2) := by decide +kernel
theorem dX4_init_14 : decode cX4_init 14 = .ok (.putfield 15, 3) := by decide +kernel
theorem dX4_init_17 : decode cX4_init 17 = .ok (.aload_n 0, 1) := by decide +kernel
theorem dX4_init_18 : decode cX4_init 18 = .ok (.bipush 16, 2) := by decide +kernel
theorem dX4_init_20 : decode cX4_init 20 = .ok (.newarray .int, 2) := by decide +kernel
theorem dX4_init_22 : decode cX4_init 22 = .ok (.putfield 19, 3) := by decide +kernel
theorem dX4_init_25 : decode cX4_init 25 = .ok (.aload_n 0, 1) := by decide +kernel
theorem dX4_init_26 : decode cX4_init 26 = .ok (.bipush 16, 2) := by decide +kernel
theorem dX4_init_28 : decode cX4_init 28 = .ok (.newarray .int, 2) := by decide +kernel
theorem dX4_init_30 : decode cX4_init 30 = .ok (.putfield 22, 3) := by decide +kernel
theorem dX4_init_33 : decode cX4_init 33 = .ok (.aload_n 0, 1) := by decide +kernel
theorem dX4_init_34 : decode cX4_init 34 = .ok (.bipush 16, 2) := by decide +kernel
theorem dX4_init_36 : decode cX4_init 36 = .ok (.newarray .int, 2) := by decide +kernel
theorem dX4_init_38 : decode cX4_init 38 = .ok (.putfield 25, 3) := by decide +kernel
theorem dX4_init_41 : decode cX4_init 41 = .ok (.aload_n 0, 1) := by decide +kernel
theorem dX4_init_42 : decode cX4_init 42 = .ok (.bipush 16, 2) := by decide +kernel
theorem dX4_init_44 : decode cX4_init 44 = .ok (.newarray .int, 2) := by decide +kernel
theorem dX4_init_46 : decode cX4_init 46 = .ok (.putfield 28, 3) := by decide +kernel
theorem dX4_init_49 : decode cX4_init 49 = .ok (.aload_n 0, 1) := by decide +kernel
theorem dX4_init_50 : decode cX4_init 50 = .ok (.bipush 16, 2) := by decide +kernel
theorem dX4_init_52 : decode cX4_init 52 = .ok (.newarray .int, 2) := by decide +kernel
theorem dX4_init_54 : decode cX4_init 54 = .ok (.putfield 31, 3) := by decide +kernel
theorem dX4_init_57 : decode cX4_init 57 = .ok (.return_, 1) := by decide +kernel
theorem dX4_begin_0 : decode cX4_begin 0 = .ok (.aload_n 0, 1) := by decide +kernel
theorem dX4_begin_1 : decode cX4_begin 1 = .ok (.iconst 1, 1) := by decide +kernel
theorem dX4_begin_2 : decode cX4_begin 2 = .ok (.iload_n 1, 1) := by decide +kernel
theorem dX4_begin_3 : decode cX4_begin 3 = .ok (.bipush 16, 2) := by decide +kernel
theorem dX4_begin_5 : decode cX4_begin 5 = .ok (.invokestatic 34, 3) := by decide +kernel
theorem dX4_begin_8 : decode cX4_begin 8 = .ok (.invokestatic 40, 3) := by decide +kernel
theorem dX4_begin_11 : decode cX4_begin 11 = .ok (.putfield 9, 3) := by decide +kernel
theorem dX4_begin_14 : decode cX4_begin 14 = .ok (.aload_n 0, 1) := by decide +kernel
theorem dX4_begin_15 : decode cX4_begin 15 = .ok (.getfield 15, 3) := by decide +kernel
theorem dX4_begin_18 : decode cX4_begin 18 = .ok (.iconst 0, 1) := by decide +kernel
theorem dX4_begin_19 : decode cX4_begin 19 = .ok (.invokestatic 43, 3) := by decide +kernel
theorem dX4_begin_22 : decode cX4_begin 22 = .ok (.return_, 1) := by decide +kernel
theorem dX4_copy_0 : decode cX4_copy 0 = .ok (.aload_n 0, 1) := by decide +kernel
theorem dX4_copy_1 : decode cX4_copy 1 = .ok (.iload_n 1, 1) := by decide +kernel
theorem dX4_copy_2 : decode cX4_copy 2 = .ok (.invokevirtual 49, 3) := by decide +kernel
theorem dX4_copy_5 : decode cX4_copy 5 = .ok (.iconst 0, 1) := by decide +kernel
theorem dX4_copy_6 : decode cX4_copy 6 = .ok (.istore_n 3, 1) := by decide +kernel
theorem dX4_copy_7 : decode cX4_copy 7 = .ok (.iload_n 3, 1) := by decide +kernel
theorem dX4_copy_8 : decode cX4_copy 8 = .ok (.aload_n 0, 1) := by decide +kernel
theorem dX4_copy_9 : decode cX4_copy 9 = .ok (.getfield 9, 3) := by decide +kernel
theorem dX4_copy_12 : decode cX4_copy 12 = .ok (.if_icmp .ge 24, 3) := by decide +kernel
theorem dX4_copy_15 : decode cX4_copy 15 = .ok (.iload_n 3, 1) := by decide +kernel
theorem dX4_copy_16 : decode cX4_copy 16 = .ok (.aload_n 2, 1) := by decide +kernel
theorem dX4_copy_17 : decode cX4_copy 17 = .ok (.arraylength, 1) := by decide +kernel
theorem dX4_copy_18 : decode cX4_copy 18 = .ok (.if_icmp .ge 18, 3) := by decide +kernel
theorem dX4_copy_21 : decode cX4_copy 21 = .ok (.aload_n 0, 1) := by decide +kernel
theorem dX4_copy_22 : decode cX4_copy 22 = .ok (.getfield 15, 3) := by decide +kernel
theorem dX4_copy_25 : decode cX4_copy 25 = .ok (.iload_n 3, 1) := by decide +kernel
theorem dX4_copy_26 : decode cX4_copy 26 = .ok (.aload_n 2, 1) := by decide +kernel
theorem dX4_copy_27 : decode cX4_copy 27 = .ok (.iload_n 3, 1) := by decide +kernel
theorem dX4_copy_28 : decode cX4_copy 28 = .ok (.iaload, 1) := by decide +kernel
theorem dX4_copy_29 : decode cX4_copy 29 = .ok (.iastore, 1) := by decide +kernel
theorem dX4_copy_30 : decode cX4_copy 30 = .ok (.iinc 3 1, 3) := by decide +kernel
theorem dX4_copy_33 : decode cX4_copy 33 = .ok (.goto (-26), 3) := by decide +kernel
theorem dX4_copy_36 : decode cX4_copy 36 = .ok (.return_, 1) := by decide +kernel
theorem dX4_isTold_0 : decode cX4_isTold 0 = .ok (.aload_n 0, 1) := by decide +kernel
theorem dX4_isTold_1 : decode cX4_isTold 1 = .ok (.getfield 9, 3) := by decide +kernel
theorem dX4_isTold_4 : decode cX4_isTold 4 = .ok (.iload_n 1, 1) := by decide +kernel
theorem dX4_isTold_5 : decode cX4_isTold 5 = .ok (.if_icmp .eq 5, 3) := by decide +kernel
theorem dX4_isTold_8 : decode cX4_isTold 8 = .ok (.iconst 0, 1) := by decide +kernel
theorem dX4_isTold_9 : decode cX4_isTold 9 = .ok (.ireturn, 1) := by decide +kernel
theorem dX4_isTold_10 : decode cX4_isTold 10 = .ok (.iconst 0, 1) := by decide +kernel
theorem dX4_isTold_11 : decode cX4_isTold 11 = .ok (.istore_n 3, 1) := by decide +kernel
theorem dX4_isTold_12 : decode cX4_isTold 12 = .ok (.iload_n 3, 1) := by decide +kernel
theorem dX4_isTold_13 : decode cX4_isTold 13 = .ok (.aload_n 0, 1) := by decide +kernel
theorem dX4_isTold_14 : decode cX4_isTold 14 = .ok (.getfield 9, 3) := by decide +kernel
theorem dX4_isTold_17 : decode cX4_isTold 17 = .ok (.if_icmp .ge 29, 3) := by decide +kernel
theorem dX4_isTold_20 : decode cX4_isTold 20 = .ok (.iload_n 3, 1) := by decide +kernel
theorem dX4_isTold_21 : decode cX4_isTold 21 = .ok (.aload_n 2, 1) := by decide +kernel
theorem dX4_isTold_22 : decode cX4_isTold 22 = .ok (.arraylength, 1) := by decide +kernel
theorem dX4_isTold_23 : decode cX4_isTold 23 = .ok (.if_icmp .ge 23, 3) := by decide +kernel
theorem dX4_isTold_26 : decode cX4_isTold 26 = .ok (.aload_n 0, 1) := by decide +kernel
theorem dX4_isTold_27 : decode cX4_isTold 27 = .ok (.getfield 15, 3) := by decide +kernel
theorem dX4_isTold_30 : decode cX4_isTold 30 = .ok (.iload_n 3, 1) := by decide +kernel
theorem dX4_isTold_31 : decode cX4_isTold 31 = .ok (.iaload, 1) := by decide +kernel
theorem dX4_isTold_32 : decode cX4_isTold 32 = .ok (.aload_n 2, 1) := by decide +kernel
theorem dX4_isTold_33 : decode cX4_isTold 33 = .ok (.iload_n 3, 1) := by decide +kernel
theorem dX4_isTold_34 : decode cX4_isTold 34 = .ok (.iaload, 1) := by decide +kernel
theorem dX4_isTold_35 : decode cX4_isTold 35 = .ok (.if_icmp .eq 5, 3) := by decide +kernel
theorem dX4_isTold_38 : decode cX4_isTold 38 = .ok (.iconst 0, 1) := by decide +kernel
theorem dX4_isTold_39 : decode cX4_isTold 39 = .ok (.ireturn, 1) := by decide +kernel
theorem dX4_isTold_40 : decode cX4_isTold 40 = .ok (.iinc 3 1, 3) := by decide +kernel
theorem dX4_isTold_43 : decode cX4_isTold 43 = .ok (.goto (-31), 3) := by decide +kernel
theorem dX4_isTold_46 : decode cX4_isTold 46 = .ok (.iconst 1, 1) := by decide +kernel
theorem dX4_isTold_47 : decode cX4_isTold 47 = .ok (.ireturn, 1) := by decide +kernel
theorem dX4_link_0 : decode cX4_link 0 = .ok (.aload_n 0, 1) := by decide +kernel
theorem dX4_link_1 : decode cX4_link 1 = .ok (.iload_n 2, 1) := by decide +kernel
theorem dX4_link_2 : decode cX4_link 2 = .ok (.invokevirtual 53, 3) := by decide +kernel
theorem dX4_link_5 : decode cX4_link 5 = .ok (.istore_n 3, 1) := by decide +kernel
theorem dX4_link_6 : decode cX4_link 6 = .ok (.iconst 0, 1) := by decide +kernel
theorem dX4_link_7 : decode cX4_link 7 = .ok (.istore 4, 2) := by decide +kernel
theorem dX4_link_9 : decode cX4_link 9 = .ok (.iload 4, 2) := by decide +kernel
theorem dX4_link_11 : decode cX4_link 11 = .ok (.aload_n 0, 1) := by decide +kernel
theorem dX4_link_12 : decode cX4_link 12 = .ok (.getfield 9, 3) := by decide +kernel
theorem dX4_link_15 : decode cX4_link 15 = .ok (.if_icmp .ge 30, 3) := by decide +kernel
theorem dX4_link_18 : decode cX4_link 18 = .ok (.aload_n 0, 1) := by decide +kernel
theorem dX4_link_19 : decode cX4_link 19 = .ok (.iload 4, 2) := by decide +kernel
theorem dX4_link_21 : decode cX4_link 21 = .ok (.iload_n 1, 1) := by decide +kernel
theorem dX4_link_22 : decode cX4_link 22 = .ok (.invokevirtual 57, 3) := by decide +kernel
theorem dX4_link_25 : decode cX4_link 25 = .ok (.ifCond .eq 14, 3) := by decide +kernel
theorem dX4_link_28 : decode cX4_link 28 = .ok (.aload_n 0, 1) := by decide +kernel
theorem dX4_link_29 : decode cX4_link 29 = .ok (.getfield 15, 3) := by decide +kernel
theorem dX4_link_32 : decode cX4_link 32 = .ok (.iload 4, 2) := by decide +kernel
theorem dX4_link_34 : decode cX4_link 34 = .ok (.dup2, 1) := by decide +kernel
theorem dX4_link_35 : decode cX4_link 35 = .ok (.iaload, 1) := by decide +kernel
theorem dX4_link_36 : decode cX4_link 36 = .ok (.iload_n 3, 1) := by decide +kernel
theorem dX4_link_37 : decode cX4_link 37 = .ok (.ior, 1) := by decide +kernel
theorem dX4_link_38 : decode cX4_link 38 = .ok (.iastore, 1) := by decide +kernel
theorem dX4_link_39 : decode cX4_link 39 = .ok (.iinc 4 1, 3) := by decide +kernel
theorem dX4_link_42 : decode cX4_link 42 = .ok (.goto (-33), 3) := by decide +kernel
theorem dX4_link_45 : decode cX4_link 45 = .ok (.return_, 1) := by decide +kernel
theorem dX4_becomeTurned_0 : decode cX4_becomeTurned 0 = .ok (.aload_n 0, 1) := by decide +kernel
theorem dX4_becomeTurned_1 : decode cX4_becomeTurned 1 = .ok (.aload_n 1, 1) := by decide +kernel
theorem dX4_becomeTurned_2 : decode cX4_becomeTurned 2 = .ok (.getfield 9, 3) := by decide +kernel
theorem dX4_becomeTurned_5 : decode cX4_becomeTurned 5 = .ok (.invokevirtual 49, 3) := by decide +kernel
theorem dX4_becomeTurned_8 : decode cX4_becomeTurned 8 = .ok (.aload_n 1, 1) := by decide +kernel
theorem dX4_becomeTurned_9 : decode cX4_becomeTurned 9 = .ok (.getfield 19, 3) := by decide +kernel
theorem dX4_becomeTurned_12 : decode cX4_becomeTurned 12 = .ok (.iconst 0, 1) := by decide +kernel
theorem dX4_becomeTurned_13 : decode cX4_becomeTurned 13 = .ok (.aload_n 0, 1) := by decide +kernel
theorem dX4_becomeTurned_14 : decode cX4_becomeTurned 14 = .ok (.getfield 15, 3) := by decide +kernel
theorem dX4_becomeTurned_17 : decode cX4_becomeTurned 17 = .ok (.iconst 0, 1) := by decide +kernel
theorem dX4_becomeTurned_18 : decode cX4_becomeTurned 18 = .ok (.bipush 16, 2) := by decide +kernel
theorem dX4_becomeTurned_20 : decode cX4_becomeTurned 20 = .ok (.invokestatic 61, 3) := by decide +kernel
theorem dX4_becomeTurned_23 : decode cX4_becomeTurned 23 = .ok (.return_, 1) := by decide +kernel
theorem dX4_becomePart_0 : decode cX4_becomePart 0 = .ok (.aload_n 0, 1) := by decide +kernel
theorem dX4_becomePart_1 : decode cX4_becomePart 1 = .ok (.iload_n 2, 1) := by decide +kernel
theorem dX4_becomePart_2 : decode cX4_becomePart 2 = .ok (.aload_n 1, 1) := by decide +kernel
theorem dX4_becomePart_3 : decode cX4_becomePart 3 = .ok (.invokevirtual 67, 3) := by decide +kernel
theorem dX4_becomePart_6 : decode cX4_becomePart 6 = .ok (.iand, 1) := by decide +kernel
theorem dX4_becomePart_7 : decode cX4_becomePart 7 = .ok (.invokestatic 71, 3) := by decide +kernel
theorem dX4_becomePart_10 : decode cX4_becomePart 10 = .ok (.invokevirtual 49, 3) := by decide +kernel
theorem dX4_becomePart_13 : decode cX4_becomePart 13 = .ok (.iconst 0, 1) := by decide +kernel
theorem dX4_becomePart_14 : decode cX4_becomePart 14 = .ok (.istore_n 3, 1) := by decide +kernel
theorem dX4_becomePart_15 : decode cX4_becomePart 15 = .ok (.iconst 0, 1) := by decide +kernel
theorem dX4_becomePart_16 : decode cX4_becomePart 16 = .ok (.istore 4, 2) := by decide +kernel
theorem dX4_becomePart_18 : decode cX4_becomePart 18 = .ok (.iload 4, 2) := by decide +kernel
theorem dX4_becomePart_20 : decode cX4_becomePart 20 = .ok (.aload_n 1, 1) := by decide +kernel
theorem dX4_becomePart_21 : decode cX4_becomePart 21 = .ok (.getfield 9, 3) := by decide +kernel
theorem dX4_becomePart_24 : decode cX4_becomePart 24 = .ok (.if_icmp .ge 43, 3) := by decide +kernel
theorem dX4_becomePart_27 : decode cX4_becomePart 27 = .ok (.iload_n 2, 1) := by decide +kernel
theorem dX4_becomePart_28 : decode cX4_becomePart 28 = .ok (.iload 4, 2) := by decide +kernel
theorem dX4_becomePart_30 : decode cX4_becomePart 30 = .ok (.ishr, 1) := by decide +kernel
theorem dX4_becomePart_31 : decode cX4_becomePart 31 = .ok (.iconst 1, 1) := by decide +kernel
theorem dX4_becomePart_32 : decode cX4_becomePart 32 = .ok (.iand, 1) := by decide +kernel
theorem dX4_becomePart_33 : decode cX4_becomePart 33 = .ok (.iconst 1, 1) := by decide +kernel
theorem dX4_becomePart_34 : decode cX4_becomePart 34 = .ok (.if_icmp .ne 27, 3) := by decide +kernel
theorem dX4_becomePart_37 : decode cX4_becomePart 37 = .ok (.aload_n 0, 1) := by decide +kernel
theorem dX4_becomePart_38 : decode cX4_becomePart 38 = .ok (.getfield 15, 3) := by decide +kernel
theorem dX4_becomePart_41 : decode cX4_becomePart 41 = .ok (.iload_n 3, 1) := by decide +kernel
theorem dX4_becomePart_42 : decode cX4_becomePart 42 = .ok (.aload_n 1, 1) := by decide +kernel
theorem dX4_becomePart_43 : decode cX4_becomePart 43 = .ok (.getfield 15, 3) := by decide +kernel
theorem dX4_becomePart_46 : decode cX4_becomePart 46 = .ok (.iload 4, 2) := by decide +kernel
theorem dX4_becomePart_48 : decode cX4_becomePart 48 = .ok (.iaload, 1) := by decide +kernel
theorem dX4_becomePart_49 : decode cX4_becomePart 49 = .ok (.iload_n 2, 1) := by decide +kernel
theorem dX4_becomePart_50 : decode cX4_becomePart 50 = .ok (.aload_n 1, 1) := by decide +kernel
theorem dX4_becomePart_51 : decode cX4_becomePart 51 = .ok (.getfield 9, 3) := by decide +kernel
theorem dX4_becomePart_54 : decode cX4_becomePart 54 = .ok (.invokestatic 76, 3) := by decide +kernel
theorem dX4_becomePart_57 : decode cX4_becomePart 57 = .ok (.iastore, 1) := by decide +kernel
theorem dX4_becomePart_58 : decode cX4_becomePart 58 = .ok (.iinc 3 1, 3) := by decide +kernel
theorem dX4_becomePart_61 : decode cX4_becomePart 61 = .ok (.iinc 4 1, 3) := by decide +kernel
theorem dX4_becomePart_64 : decode cX4_becomePart 64 = .ok (.goto (-46), 3) := by decide +kernel
theorem dX4_becomePart_67 : decode cX4_becomePart 67 = .ok (.return_, 1) := by decide +kernel
theorem dX4_packed_0 : decode cX4_packed 0 = .ok (.iconst 0, 1) := by decide +kernel
theorem dX4_packed_1 : decode cX4_packed 1 = .ok (.istore_n 3, 1) := by decide +kernel
theorem dX4_packed_2 : decode cX4_packed 2 = .ok (.iconst 0, 1) := by decide +kernel
theorem dX4_packed_3 : decode cX4_packed 3 = .ok (.istore 4, 2) := by decide +kernel
theorem dX4_packed_5 : decode cX4_packed 5 = .ok (.iconst 0, 1) := by decide +kernel
theorem dX4_packed_6 : decode cX4_packed 6 = .ok (.istore 5, 2) := by decide +kernel
theorem dX4_packed_8 : decode cX4_packed 8 = .ok (.iload 5, 2) := by decide +kernel
theorem dX4_packed_10 : decode cX4_packed 10 = .ok (.iload_n 2, 1) := by decide +kernel
theorem dX4_packed_11 : decode cX4_packed 11 = .ok (.if_icmp .ge 34, 3) := by decide +kernel
theorem dX4_packed_14 : decode cX4_packed 14 = .ok (.iload_n 1, 1) := by decide +kernel
theorem dX4_packed_15 : decode cX4_packed 15 = .ok (.iload 5, 2) := by decide +kernel
theorem dX4_packed_17 : decode cX4_packed 17 = .ok (.ishr, 1) := by decide +kernel
theorem dX4_packed_18 : decode cX4_packed 18 = .ok (.iconst 1, 1) := by decide +kernel
theorem dX4_packed_19 : decode cX4_packed 19 = .ok (.iand, 1) := by decide +kernel
theorem dX4_packed_20 : decode cX4_packed 20 = .ok (.iconst 1, 1) := by decide +kernel
theorem dX4_packed_21 : decode cX4_packed 21 = .ok (.if_icmp .ne 18, 3) := by decide +kernel
theorem dX4_packed_24 : decode cX4_packed 24 = .ok (.iload_n 3, 1) := by decide +kernel
theorem dX4_packed_25 : decode cX4_packed 25 = .ok (.iload_n 0, 1) := by decide +kernel
theorem dX4_packed_26 : decode cX4_packed 26 = .ok (.iload 5, 2) := by decide +kernel
theorem dX4_packed_28 : decode cX4_packed 28 = .ok (.ishr, 1) := by decide +kernel
theorem dX4_packed_29 : decode cX4_packed 29 = .ok (.iconst 1, 1) := by decide +kernel
theorem dX4_packed_30 : decode cX4_packed 30 = .ok (.iand, 1) := by decide +kernel
theorem dX4_packed_31 : decode cX4_packed 31 = .ok (.iload 4, 2) := by decide +kernel
theorem dX4_packed_33 : decode cX4_packed 33 = .ok (.ishl, 1) := by decide +kernel
theorem dX4_packed_34 : decode cX4_packed 34 = .ok (.ior, 1) := by decide +kernel
theorem dX4_packed_35 : decode cX4_packed 35 = .ok (.istore_n 3, 1) := by decide +kernel
theorem dX4_packed_36 : decode cX4_packed 36 = .ok (.iinc 4 1, 3) := by decide +kernel
theorem dX4_packed_39 : decode cX4_packed 39 = .ok (.iinc 5 1, 3) := by decide +kernel
theorem dX4_packed_42 : decode cX4_packed 42 = .ok (.goto (-34), 3) := by decide +kernel
theorem dX4_packed_45 : decode cX4_packed 45 = .ok (.iload_n 3, 1) := by decide +kernel
theorem dX4_packed_46 : decode cX4_packed 46 = .ok (.ireturn, 1) := by decide +kernel
theorem dX4_becomeBoth_0 : decode cX4_becomeBoth 0 = .ok (.aload_n 0, 1) := by decide +kernel
theorem dX4_becomeBoth_1 : decode cX4_becomeBoth 1 = .ok (.aload_n 1, 1) := by decide +kernel
theorem dX4_becomeBoth_2 : decode cX4_becomeBoth 2 = .ok (.getfield 9, 3) := by decide +kernel
theorem dX4_becomeBoth_5 : decode cX4_becomeBoth 5 = .ok (.aload_n 2, 1) := by decide +kernel
theorem dX4_becomeBoth_6 : decode cX4_becomeBoth 6 = .ok (.getfield 9, 3) := by decide +kernel
theorem dX4_becomeBoth_9 : decode cX4_becomeBoth 9 = .ok (.iadd, 1) := by decide +kernel
theorem dX4_becomeBoth_10 : decode cX4_becomeBoth 10 = .ok (.invokevirtual 49, 3) := by decide +kernel
theorem dX4_becomeBoth_13 : decode cX4_becomeBoth 13 = .ok (.iload_n 3, 1) := by decide +kernel
theorem dX4_becomeBoth_14 : decode cX4_becomeBoth 14 = .ok (.ifCond .eq 15, 3) := by decide +kernel
theorem dX4_becomeBoth_17 : decode cX4_becomeBoth 17 = .ok (.aload_n 2, 1) := by decide +kernel
theorem dX4_becomeBoth_18 : decode cX4_becomeBoth 18 = .ok (.invokevirtual 67, 3) := by decide +kernel
theorem dX4_becomeBoth_21 : decode cX4_becomeBoth 21 = .ok (.aload_n 1, 1) := by decide +kernel
theorem dX4_becomeBoth_22 : decode cX4_becomeBoth 22 = .ok (.getfield 9, 3) := by decide +kernel
theorem dX4_becomeBoth_25 : decode cX4_becomeBoth 25 = .ok (.ishl, 1) := by decide +kernel
theorem dX4_becomeBoth_26 : decode cX4_becomeBoth 26 = .ok (.goto 4, 3) := by decide +kernel
theorem dX4_becomeBoth_29 : decode cX4_becomeBoth 29 = .ok (.iconst 0, 1) := by decide +kernel
theorem dX4_becomeBoth_30 : decode cX4_becomeBoth 30 = .ok (.istore 4, 2) := by decide +kernel
theorem dX4_becomeBoth_32 : decode cX4_becomeBoth 32 = .ok (.iconst 0, 1) := by decide +kernel
theorem dX4_becomeBoth_33 : decode cX4_becomeBoth 33 = .ok (.istore 5, 2) := by decide +kernel
theorem dX4_becomeBoth_35 : decode cX4_becomeBoth 35 = .ok (.iload 5, 2) := by decide +kernel
theorem dX4_becomeBoth_37 : decode cX4_becomeBoth 37 = .ok (.aload_n 1, 1) := by decide +kernel
theorem dX4_becomeBoth_38 : decode cX4_becomeBoth 38 = .ok (.getfield 9, 3) := by decide +kernel
theorem dX4_becomeBoth_41 : decode cX4_becomeBoth 41 = .ok (.if_icmp .ge 26, 3) := by decide +kernel
theorem dX4_becomeBoth_44 : decode cX4_becomeBoth 44 = .ok (.aload_n 0, 1) := by decide +kernel
theorem dX4_becomeBoth_45 : decode cX4_becomeBoth 45 = .ok (.getfield 15, 3) := by decide +kernel
theorem dX4_becomeBoth_48 : decode cX4_becomeBoth 48 = .ok (.iload 5, 2) := by decide +kernel
theorem dX4_becomeBoth_50 : decode cX4_becomeBoth 50 = .ok (.aload_n 1, 1) := by decide +kernel
theorem dX4_becomeBoth_51 : decode cX4_becomeBoth 51 = .ok (.getfield 15, 3) := by decide +kernel
theorem dX4_becomeBoth_54 : decode cX4_becomeBoth 54 = .ok (.iload 5, 2) := by decide +kernel
theorem dX4_becomeBoth_56 : decode cX4_becomeBoth 56 = .ok (.iaload, 1) := by decide +kernel
theorem dX4_becomeBoth_57 : decode cX4_becomeBoth 57 = .ok (.iload 4, 2) := by decide +kernel
theorem dX4_becomeBoth_59 : decode cX4_becomeBoth 59 = .ok (.ior, 1) := by decide +kernel
theorem dX4_becomeBoth_60 : decode cX4_becomeBoth 60 = .ok (.iastore, 1) := by decide +kernel
theorem dX4_becomeBoth_61 : decode cX4_becomeBoth 61 = .ok (.iinc 5 1, 3) := by decide +kernel
theorem dX4_becomeBoth_64 : decode cX4_becomeBoth 64 = .ok (.goto (-29), 3) := by decide +kernel
theorem dX4_becomeBoth_67 : decode cX4_becomeBoth 67 = .ok (.iconst 0, 1) := by decide +kernel
theorem dX4_becomeBoth_68 : decode cX4_becomeBoth 68 = .ok (.istore 5, 2) := by decide +kernel
theorem dX4_becomeBoth_70 : decode cX4_becomeBoth 70 = .ok (.iload 5, 2) := by decide +kernel
theorem dX4_becomeBoth_72 : decode cX4_becomeBoth 72 = .ok (.aload_n 2, 1) := by decide +kernel
theorem dX4_becomeBoth_73 : decode cX4_becomeBoth 73 = .ok (.getfield 9, 3) := by decide +kernel
theorem dX4_becomeBoth_76 : decode cX4_becomeBoth 76 = .ok (.if_icmp .ge 45, 3) := by decide +kernel
theorem dX4_becomeBoth_79 : decode cX4_becomeBoth 79 = .ok (.aload_n 1, 1) := by decide +kernel
theorem dX4_becomeBoth_80 : decode cX4_becomeBoth 80 = .ok (.getfield 9, 3) := by decide +kernel
theorem dX4_becomeBoth_83 : decode cX4_becomeBoth 83 = .ok (.iload 5, 2) := by decide +kernel
theorem dX4_becomeBoth_85 : decode cX4_becomeBoth 85 = .ok (.iadd, 1) := by decide +kernel
theorem dX4_becomeBoth_86 : decode cX4_becomeBoth 86 = .ok (.bipush 16, 2) := by decide +kernel
theorem dX4_becomeBoth_88 : decode cX4_becomeBoth 88 = .ok (.if_icmp .ge 33, 3) := by decide +kernel
theorem dX4_becomeBoth_91 : decode cX4_becomeBoth 91 = .ok (.aload_n 0, 1) := by decide +kernel
theorem dX4_becomeBoth_92 : decode cX4_becomeBoth 92 = .ok (.getfield 15, 3) := by decide +kernel
theorem dX4_becomeBoth_95 : decode cX4_becomeBoth 95 = .ok (.aload_n 1, 1) := by decide +kernel
theorem dX4_becomeBoth_96 : decode cX4_becomeBoth 96 = .ok (.getfield 9, 3) := by decide +kernel
theorem dX4_becomeBoth_99 : decode cX4_becomeBoth 99 = .ok (.iload 5, 2) := by decide +kernel
theorem dX4_becomeBoth_101 : decode cX4_becomeBoth 101 = .ok (.iadd, 1) := by decide +kernel
theorem dX4_becomeBoth_102 : decode cX4_becomeBoth 102 = .ok (.aload_n 2, 1) := by decide +kernel
theorem dX4_becomeBoth_103 : decode cX4_becomeBoth 103 = .ok (.getfield 15, 3) := by decide +kernel
theorem dX4_becomeBoth_106 : decode cX4_becomeBoth 106 = .ok (.iload 5, 2) := by decide +kernel
theorem dX4_becomeBoth_108 : decode cX4_becomeBoth 108 = .ok (.iaload, 1) := by decide +kernel
theorem dX4_becomeBoth_109 : decode cX4_becomeBoth 109 = .ok (.aload_n 1, 1) := by decide +kernel
theorem dX4_becomeBoth_110 : decode cX4_becomeBoth 110 = .ok (.getfield 9, 3) := by decide +kernel
theorem dX4_becomeBoth_113 : decode cX4_becomeBoth 113 = .ok (.ishl, 1) := by decide +kernel
theorem dX4_becomeBoth_114 : decode cX4_becomeBoth 114 = .ok (.iastore, 1) := by decide +kernel
theorem dX4_becomeBoth_115 : decode cX4_becomeBoth 115 = .ok (.iinc 5 1, 3) := by decide +kernel
theorem dX4_becomeBoth_118 : decode cX4_becomeBoth 118 = .ok (.goto (-48), 3) := by decide +kernel
theorem dX4_becomeBoth_121 : decode cX4_becomeBoth 121 = .ok (.return_, 1) := by decide +kernel
theorem dX4_becomePairs_0 : decode cX4_becomePairs 0 = .ok (.aload_n 0, 1) := by decide +kernel
theorem dX4_becomePairs_1 : decode cX4_becomePairs 1 = .ok (.aload_n 1, 1) := by decide +kernel
theorem dX4_becomePairs_2 : decode cX4_becomePairs 2 = .ok (.getfield 9, 3) := by decide +kernel
theorem dX4_becomePairs_5 : decode cX4_becomePairs 5 = .ok (.aload_n 2, 1) := by decide +kernel
theorem dX4_becomePairs_6 : decode cX4_becomePairs 6 = .ok (.getfield 9, 3) := by decide +kernel
theorem dX4_becomePairs_9 : decode cX4_becomePairs 9 = .ok (.imul, 1) := by decide +kernel
theorem dX4_becomePairs_10 : decode cX4_becomePairs 10 = .ok (.invokevirtual 49, 3) := by decide +kernel
theorem dX4_becomePairs_13 : decode cX4_becomePairs 13 = .ok (.iconst 0, 1) := by decide +kernel
theorem dX4_becomePairs_14 : decode cX4_becomePairs 14 = .ok (.istore_n 3, 1) := by decide +kernel
theorem dX4_becomePairs_15 : decode cX4_becomePairs 15 = .ok (.iload_n 3, 1) := by decide +kernel
theorem dX4_becomePairs_16 : decode cX4_becomePairs 16 = .ok (.aload_n 1, 1) := by decide +kernel
theorem dX4_becomePairs_17 : decode cX4_becomePairs 17 = .ok (.getfield 9, 3) := by decide +kernel
theorem dX4_becomePairs_20 : decode cX4_becomePairs 20 = .ok (.if_icmp .ge 67, 3) := by decide +kernel
theorem dX4_becomePairs_23 : decode cX4_becomePairs 23 = .ok (.iconst 0, 1) := by decide +kernel
theorem dX4_becomePairs_24 : decode cX4_becomePairs 24 = .ok (.istore 4, 2) := by decide +kernel
theorem dX4_becomePairs_26 : decode cX4_becomePairs 26 = .ok (.iload 4, 2) := by decide +kernel
theorem dX4_becomePairs_28 : decode cX4_becomePairs 28 = .ok (.aload_n 2, 1) := by decide +kernel
theorem dX4_becomePairs_29 : decode cX4_becomePairs 29 = .ok (.getfield 9, 3) := by decide +kernel
theorem dX4_becomePairs_32 : decode cX4_becomePairs 32 = .ok (.if_icmp .ge 49, 3) := by decide +kernel
theorem dX4_becomePairs_35 : decode cX4_becomePairs 35 = .ok (.iload_n 3, 1) := by decide +kernel
theorem dX4_becomePairs_36 : decode cX4_becomePairs 36 = .ok (.aload_n 2, 1) := by decide +kernel
theorem dX4_becomePairs_37 : decode cX4_becomePairs 37 = .ok (.getfield 9, 3) := by decide +kernel
theorem dX4_becomePairs_40 : decode cX4_becomePairs 40 = .ok (.imul, 1) := by decide +kernel
theorem dX4_becomePairs_41 : decode cX4_becomePairs 41 = .ok (.iload 4, 2) := by decide +kernel
theorem dX4_becomePairs_43 : decode cX4_becomePairs 43 = .ok (.iadd, 1) := by decide +kernel
theorem dX4_becomePairs_44 : decode cX4_becomePairs 44 = .ok (.istore 5, 2) := by decide +kernel
theorem dX4_becomePairs_46 : decode cX4_becomePairs 46 = .ok (.iload 5, 2) := by decide +kernel
theorem dX4_becomePairs_48 : decode cX4_becomePairs 48 = .ok (.bipush 16, 2) := by decide +kernel
theorem dX4_becomePairs_50 : decode cX4_becomePairs 50 = .ok (.if_icmp .ge 25, 3) := by decide +kernel
theorem dX4_becomePairs_53 : decode cX4_becomePairs 53 = .ok (.aload_n 0, 1) := by decide +kernel
theorem dX4_becomePairs_54 : decode cX4_becomePairs 54 = .ok (.getfield 15, 3) := by decide +kernel
theorem dX4_becomePairs_57 : decode cX4_becomePairs 57 = .ok (.iload 5, 2) := by decide +kernel
theorem dX4_becomePairs_59 : decode cX4_becomePairs 59 = .ok (.aload_n 1, 1) := by decide +kernel
theorem dX4_becomePairs_60 : decode cX4_becomePairs 60 = .ok (.aload_n 2, 1) := by decide +kernel
theorem dX4_becomePairs_61 : decode cX4_becomePairs 61 = .ok (.iload_n 3, 1) := by decide +kernel
theorem dX4_becomePairs_62 : decode cX4_becomePairs 62 = .ok (.iload 4, 2) := by decide +kernel
theorem dX4_becomePairs_64 : decode cX4_becomePairs 64 = .ok (.invokestatic 80, 3) := by decide +kernel
theorem dX4_becomePairs_67 : decode cX4_becomePairs 67 = .ok (.iconst 1, 1) := by decide +kernel
theorem dX4_becomePairs_68 : decode cX4_becomePairs 68 = .ok (.iload 5, 2) := by decide +kernel
theorem dX4_becomePairs_70 : decode cX4_becomePairs 70 = .ok (.ishl, 1) := by decide +kernel
theorem dX4_becomePairs_71 : decode cX4_becomePairs 71 = .ok (.iconst (-1), 1) := by decide +kernel
theorem dX4_becomePairs_72 : decode cX4_becomePairs 72 = .ok (.ixor, 1) := by decide +kernel
theorem dX4_becomePairs_73 : decode cX4_becomePairs 73 = .ok (.iand, 1) := by decide +kernel
theorem dX4_becomePairs_74 : decode cX4_becomePairs 74 = .ok (.iastore, 1) := by decide +kernel
theorem dX4_becomePairs_75 : decode cX4_becomePairs 75 = .ok (.iinc 4 1, 3) := by decide +kernel
theorem dX4_becomePairs_78 : decode cX4_becomePairs 78 = .ok (.goto (-52), 3) := by decide +kernel
theorem dX4_becomePairs_81 : decode cX4_becomePairs 81 = .ok (.iinc 3 1, 3) := by decide +kernel
theorem dX4_becomePairs_84 : decode cX4_becomePairs 84 = .ok (.goto (-69), 3) := by decide +kernel
theorem dX4_becomePairs_87 : decode cX4_becomePairs 87 = .ok (.return_, 1) := by decide +kernel
theorem dX4_pairsFrom_0 : decode cX4_pairsFrom 0 = .ok (.iconst 0, 1) := by decide +kernel
theorem dX4_pairsFrom_1 : decode cX4_pairsFrom 1 = .ok (.istore 4, 2) := by decide +kernel
theorem dX4_pairsFrom_3 : decode cX4_pairsFrom 3 = .ok (.iconst 0, 1) := by decide +kernel
theorem dX4_pairsFrom_4 : decode cX4_pairsFrom 4 = .ok (.istore 5, 2) := by decide +kernel
theorem dX4_pairsFrom_6 : decode cX4_pairsFrom 6 = .ok (.iload 5, 2) := by decide +kernel
theorem dX4_pairsFrom_8 : decode cX4_pairsFrom 8 = .ok (.aload_n 0, 1) := by decide +kernel
theorem dX4_pairsFrom_9 : decode cX4_pairsFrom 9 = .ok (.getfield 9, 3) := by decide +kernel
theorem dX4_pairsFrom_12 : decode cX4_pairsFrom 12 = .ok (.if_icmp .ge 37, 3) := by decide +kernel
theorem dX4_pairsFrom_15 : decode cX4_pairsFrom 15 = .ok (.aload_n 0, 1) := by decide +kernel
theorem dX4_pairsFrom_16 : decode cX4_pairsFrom 16 = .ok (.iload_n 2, 1) := by decide +kernel
theorem dX4_pairsFrom_17 : decode cX4_pairsFrom 17 = .ok (.iload 5, 2) := by decide +kernel
theorem dX4_pairsFrom_19 : decode cX4_pairsFrom 19 = .ok (.invokevirtual 57, 3) := by decide +kernel
theorem dX4_pairsFrom_22 : decode cX4_pairsFrom 22 = .ok (.ifCond .eq 21, 3) := by decide +kernel
theorem dX4_pairsFrom_25 : decode cX4_pairsFrom 25 = .ok (.iload 4, 2) := by decide +kernel
theorem dX4_pairsFrom_27 : decode cX4_pairsFrom 27 = .ok (.aload_n 1, 1) := by decide +kernel
theorem dX4_pairsFrom_28 : decode cX4_pairsFrom 28 = .ok (.iload_n 3, 1) := by decide +kernel
theorem dX4_pairsFrom_29 : decode cX4_pairsFrom 29 = .ok (.invokevirtual 53, 3) := by decide +kernel
theorem dX4_pairsFrom_32 : decode cX4_pairsFrom 32 = .ok (.iload 5, 2) := by decide +kernel
theorem dX4_pairsFrom_34 : decode cX4_pairsFrom 34 = .ok (.aload_n 1, 1) := by decide +kernel
theorem dX4_pairsFrom_35 : decode cX4_pairsFrom 35 = .ok (.getfield 9, 3) := by decide +kernel
theorem dX4_pairsFrom_38 : decode cX4_pairsFrom 38 = .ok (.imul, 1) := by decide +kernel
theorem dX4_pairsFrom_39 : decode cX4_pairsFrom 39 = .ok (.ishl, 1) := by decide +kernel
theorem dX4_pairsFrom_40 : decode cX4_pairsFrom 40 = .ok (.ior, 1) := by decide +kernel
theorem dX4_pairsFrom_41 : decode cX4_pairsFrom 41 = .ok (.istore 4, 2) := by decide +kernel
theorem dX4_pairsFrom_43 : decode cX4_pairsFrom 43 = .ok (.iinc 5 1, 3) := by decide +kernel
theorem dX4_pairsFrom_46 : decode cX4_pairsFrom 46 = .ok (.goto (-40), 3) := by decide +kernel
theorem dX4_pairsFrom_49 : decode cX4_pairsFrom 49 = .ok (.iload 4, 2) := by decide +kernel
theorem dX4_pairsFrom_51 : decode cX4_pairsFrom 51 = .ok (.ireturn, 1) := by decide +kernel
theorem dX4_derive_0 : decode cX4_derive 0 = .ok (.aload_n 0, 1) := by decide +kernel
theorem dX4_derive_1 : decode cX4_derive 1 = .ok (.invokevirtual 84, 3) := by decide +kernel
theorem dX4_derive_4 : decode cX4_derive 4 = .ok (.aload_n 0, 1) := by decide +kernel
theorem dX4_derive_5 : decode cX4_derive 5 = .ok (.invokevirtual 87, 3) := by decide +kernel
theorem dX4_derive_8 : decode cX4_derive 8 = .ok (.aload_n 0, 1) := by decide +kernel
theorem dX4_derive_9 : decode cX4_derive 9 = .ok (.invokevirtual 90, 3) := by decide +kernel
theorem dX4_derive_12 : decode cX4_derive 12 = .ok (.aload_n 0, 1) := by decide +kernel
theorem dX4_derive_13 : decode cX4_derive 13 = .ok (.invokevirtual 93, 3) := by decide +kernel
theorem dX4_derive_16 : decode cX4_derive 16 = .ok (.return_, 1) := by decide +kernel
theorem dX4_deriveBeneath_0 : decode cX4_deriveBeneath 0 = .ok (.aload_n 0, 1) := by decide +kernel
theorem dX4_deriveBeneath_1 : decode cX4_deriveBeneath 1 = .ok (.getfield 19, 3) := by decide +kernel
theorem dX4_deriveBeneath_4 : decode cX4_deriveBeneath 4 = .ok (.iconst 0, 1) := by decide +kernel
theorem dX4_deriveBeneath_5 : decode cX4_deriveBeneath 5 = .ok (.invokestatic 43, 3) := by decide +kernel
theorem dX4_deriveBeneath_8 : decode cX4_deriveBeneath 8 = .ok (.iconst 0, 1) := by decide +kernel
theorem dX4_deriveBeneath_9 : decode cX4_deriveBeneath 9 = .ok (.istore_n 1, 1) := by decide +kernel
theorem dX4_deriveBeneath_10 : decode cX4_deriveBeneath 10 = .ok (.iload_n 1, 1) := by decide +kernel
theorem dX4_deriveBeneath_11 : decode cX4_deriveBeneath 11 = .ok (.aload_n 0, 1) := by decide +kernel
theorem dX4_deriveBeneath_12 : decode cX4_deriveBeneath 12 = .ok (.getfield 9, 3) := by decide +kernel
theorem dX4_deriveBeneath_15 : decode cX4_deriveBeneath 15 = .ok (.if_icmp .ge 51, 3) := by decide +kernel
theorem dX4_deriveBeneath_18 : decode cX4_deriveBeneath 18 = .ok (.iconst 0, 1) := by decide +kernel
theorem dX4_deriveBeneath_19 : decode cX4_deriveBeneath 19 = .ok (.istore_n 2, 1) := by decide +kernel
theorem dX4_deriveBeneath_20 : decode cX4_deriveBeneath 20 = .ok (.iload_n 2, 1) := by decide +kernel
theorem dX4_deriveBeneath_21 : decode cX4_deriveBeneath 21 = .ok (.aload_n 0, 1) := by decide +kernel
theorem dX4_deriveBeneath_22 : decode cX4_deriveBeneath 22 = .ok (.getfield 9, 3) := by decide +kernel
theorem dX4_deriveBeneath_25 : decode cX4_deriveBeneath 25 = .ok (.if_icmp .ge 35, 3) := by decide +kernel
theorem dX4_deriveBeneath_28 : decode cX4_deriveBeneath 28 = .ok (.aload_n 0, 1) := by decide +kernel
theorem dX4_deriveBeneath_29 : decode cX4_deriveBeneath 29 = .ok (.getfield 15, 3) := by decide +kernel
theorem dX4_deriveBeneath_32 : decode cX4_deriveBeneath 32 = .ok (.iload_n 1, 1) := by decide +kernel
theorem dX4_deriveBeneath_33 : decode cX4_deriveBeneath 33 = .ok (.iaload, 1) := by decide +kernel
theorem dX4_deriveBeneath_34 : decode cX4_deriveBeneath 34 = .ok (.iload_n 2, 1) := by decide +kernel
theorem dX4_deriveBeneath_35 : decode cX4_deriveBeneath 35 = .ok (.ishr, 1) := by decide +kernel
theorem dX4_deriveBeneath_36 : decode cX4_deriveBeneath 36 = .ok (.iconst 1, 1) := by decide +kernel
theorem dX4_deriveBeneath_37 : decode cX4_deriveBeneath 37 = .ok (.iand, 1) := by decide +kernel
theorem dX4_deriveBeneath_38 : decode cX4_deriveBeneath 38 = .ok (.iconst 1, 1) := by decide +kernel
theorem dX4_deriveBeneath_39 : decode cX4_deriveBeneath 39 = .ok (.if_icmp .ne 15, 3) := by decide +kernel
theorem dX4_deriveBeneath_42 : decode cX4_deriveBeneath 42 = .ok (.aload_n 0, 1) := by decide +kernel
theorem dX4_deriveBeneath_43 : decode cX4_deriveBeneath 43 = .ok (.getfield 19, 3) := by decide +kernel
theorem dX4_deriveBeneath_46 : decode cX4_deriveBeneath 46 = .ok (.iload_n 2, 1) := by decide +kernel
theorem dX4_deriveBeneath_47 : decode cX4_deriveBeneath 47 = .ok (.dup2, 1) := by decide +kernel
theorem dX4_deriveBeneath_48 : decode cX4_deriveBeneath 48 = .ok (.iaload, 1) := by decide +kernel
theorem dX4_deriveBeneath_49 : decode cX4_deriveBeneath 49 = .ok (.iconst 1, 1) := by decide +kernel
theorem dX4_deriveBeneath_50 : decode cX4_deriveBeneath 50 = .ok (.iload_n 1, 1) := by decide +kernel
theorem dX4_deriveBeneath_51 : decode cX4_deriveBeneath 51 = .ok (.ishl, 1) := by decide +kernel
theorem dX4_deriveBeneath_52 : decode cX4_deriveBeneath 52 = .ok (.ior, 1) := by decide +kernel
theorem dX4_deriveBeneath_53 : decode cX4_deriveBeneath 53 = .ok (.iastore, 1) := by decide +kernel
theorem dX4_deriveBeneath_54 : decode cX4_deriveBeneath 54 = .ok (.iinc 2 1, 3) := by decide +kernel
theorem dX4_deriveBeneath_57 : decode cX4_deriveBeneath 57 = .ok (.goto (-37), 3) := by decide +kernel
theorem dX4_deriveBeneath_60 : decode cX4_deriveBeneath 60 = .ok (.iinc 1 1, 3) := by decide +kernel
theorem dX4_deriveBeneath_63 : decode cX4_deriveBeneath 63 = .ok (.goto (-53), 3) := by decide +kernel
theorem dX4_deriveBeneath_66 : decode cX4_deriveBeneath 66 = .ok (.return_, 1) := by decide +kernel
theorem dX4_deriveCovers_0 : decode cX4_deriveCovers 0 = .ok (.aload_n 0, 1) := by decide +kernel
theorem dX4_deriveCovers_1 : decode cX4_deriveCovers 1 = .ok (.getfield 22, 3) := by decide +kernel
theorem dX4_deriveCovers_4 : decode cX4_deriveCovers 4 = .ok (.iconst 0, 1) := by decide +kernel
theorem dX4_deriveCovers_5 : decode cX4_deriveCovers 5 = .ok (.invokestatic 43, 3) := by decide +kernel
theorem dX4_deriveCovers_8 : decode cX4_deriveCovers 8 = .ok (.aload_n 0, 1) := by decide +kernel
theorem dX4_deriveCovers_9 : decode cX4_deriveCovers 9 = .ok (.getfield 25, 3) := by decide +kernel
theorem dX4_deriveCovers_12 : decode cX4_deriveCovers 12 = .ok (.iconst 0, 1) := by decide +kernel
theorem dX4_deriveCovers_13 : decode cX4_deriveCovers 13 = .ok (.invokestatic 43, 3) := by decide +kernel
theorem dX4_deriveCovers_16 : decode cX4_deriveCovers 16 = .ok (.iconst 0, 1) := by decide +kernel
theorem dX4_deriveCovers_17 : decode cX4_deriveCovers 17 = .ok (.istore_n 1, 1) := by decide +kernel
theorem dX4_deriveCovers_18 : decode cX4_deriveCovers 18 = .ok (.iload_n 1, 1) := by decide +kernel
theorem dX4_deriveCovers_19 : decode cX4_deriveCovers 19 = .ok (.aload_n 0, 1) := by decide +kernel
theorem dX4_deriveCovers_20 : decode cX4_deriveCovers 20 = .ok (.getfield 9, 3) := by decide +kernel
theorem dX4_deriveCovers_23 : decode cX4_deriveCovers 23 = .ok (.if_icmp .ge 79, 3) := by decide +kernel
theorem dX4_deriveCovers_26 : decode cX4_deriveCovers 26 = .ok (.iconst 0, 1) := by decide +kernel
theorem dX4_deriveCovers_27 : decode cX4_deriveCovers 27 = .ok (.istore_n 2, 1) := by decide +kernel
theorem dX4_deriveCovers_28 : decode cX4_deriveCovers 28 = .ok (.iload_n 2, 1) := by decide +kernel
theorem dX4_deriveCovers_29 : decode cX4_deriveCovers 29 = .ok (.aload_n 0, 1) := by decide +kernel
theorem dX4_deriveCovers_30 : decode cX4_deriveCovers 30 = .ok (.getfield 9, 3) := by decide +kernel
theorem dX4_deriveCovers_33 : decode cX4_deriveCovers 33 = .ok (.if_icmp .ge 63, 3) := by decide +kernel
theorem dX4_deriveCovers_36 : decode cX4_deriveCovers 36 = .ok (.aload_n 0, 1) := by decide +kernel
theorem dX4_deriveCovers_37 : decode cX4_deriveCovers 37 = .ok (.getfield 15, 3) := by decide +kernel
theorem dX4_deriveCovers_40 : decode cX4_deriveCovers 40 = .ok (.iload_n 1, 1) := by decide +kernel
theorem dX4_deriveCovers_41 : decode cX4_deriveCovers 41 = .ok (.iaload, 1) := by decide +kernel
theorem dX4_deriveCovers_42 : decode cX4_deriveCovers 42 = .ok (.iload_n 2, 1) := by decide +kernel
theorem dX4_deriveCovers_43 : decode cX4_deriveCovers 43 = .ok (.ishr, 1) := by decide +kernel
theorem dX4_deriveCovers_44 : decode cX4_deriveCovers 44 = .ok (.iconst 1, 1) := by decide +kernel
theorem dX4_deriveCovers_45 : decode cX4_deriveCovers 45 = .ok (.iand, 1) := by decide +kernel
theorem dX4_deriveCovers_46 : decode cX4_deriveCovers 46 = .ok (.iconst 1, 1) := by decide +kernel
theorem dX4_deriveCovers_47 : decode cX4_deriveCovers 47 = .ok (.if_icmp .ne 43, 3) := by decide +kernel
theorem dX4_deriveCovers_50 : decode cX4_deriveCovers 50 = .ok (.aload_n 0, 1) := by decide +kernel
theorem dX4_deriveCovers_51 : decode cX4_deriveCovers 51 = .ok (.getfield 15, 3) := by decide +kernel
theorem dX4_deriveCovers_54 : decode cX4_deriveCovers 54 = .ok (.iload_n 1, 1) := by decide +kernel
theorem dX4_deriveCovers_55 : decode cX4_deriveCovers 55 = .ok (.iaload, 1) := by decide +kernel
theorem dX4_deriveCovers_56 : decode cX4_deriveCovers 56 = .ok (.aload_n 0, 1) := by decide +kernel
theorem dX4_deriveCovers_57 : decode cX4_deriveCovers 57 = .ok (.getfield 19, 3) := by decide +kernel
theorem dX4_deriveCovers_60 : decode cX4_deriveCovers 60 = .ok (.iload_n 2, 1) := by decide +kernel
theorem dX4_deriveCovers_61 : decode cX4_deriveCovers 61 = .ok (.iaload, 1) := by decide +kernel
theorem dX4_deriveCovers_62 : decode cX4_deriveCovers 62 = .ok (.iand, 1) := by decide +kernel
theorem dX4_deriveCovers_63 : decode cX4_deriveCovers 63 = .ok (.ifCond .ne 27, 3) := by decide +kernel
theorem dX4_deriveCovers_66 : decode cX4_deriveCovers 66 = .ok (.aload_n 0, 1) := by decide +kernel
theorem dX4_deriveCovers_67 : decode cX4_deriveCovers 67 = .ok (.getfield 22, 3) := by decide +kernel
theorem dX4_deriveCovers_70 : decode cX4_deriveCovers 70 = .ok (.iload_n 1, 1) := by decide +kernel
theorem dX4_deriveCovers_71 : decode cX4_deriveCovers 71 = .ok (.dup2, 1) := by decide +kernel
theorem dX4_deriveCovers_72 : decode cX4_deriveCovers 72 = .ok (.iaload, 1) := by decide +kernel
theorem dX4_deriveCovers_73 : decode cX4_deriveCovers 73 = .ok (.iconst 1, 1) := by decide +kernel
theorem dX4_deriveCovers_74 : decode cX4_deriveCovers 74 = .ok (.iload_n 2, 1) := by decide +kernel
theorem dX4_deriveCovers_75 : decode cX4_deriveCovers 75 = .ok (.ishl, 1) := by decide +kernel
theorem dX4_deriveCovers_76 : decode cX4_deriveCovers 76 = .ok (.ior, 1) := by decide +kernel
theorem dX4_deriveCovers_77 : decode cX4_deriveCovers 77 = .ok (.iastore, 1) := by decide +kernel
theorem dX4_deriveCovers_78 : decode cX4_deriveCovers 78 = .ok (.aload_n 0, 1) := by decide +kernel
theorem dX4_deriveCovers_79 : decode cX4_deriveCovers 79 = .ok (.getfield 25, 3) := by decide +kernel
theorem dX4_deriveCovers_82 : decode cX4_deriveCovers 82 = .ok (.iload_n 2, 1) := by decide +kernel
theorem dX4_deriveCovers_83 : decode cX4_deriveCovers 83 = .ok (.dup2, 1) := by decide +kernel
theorem dX4_deriveCovers_84 : decode cX4_deriveCovers 84 = .ok (.iaload, 1) := by decide +kernel
theorem dX4_deriveCovers_85 : decode cX4_deriveCovers 85 = .ok (.iconst 1, 1) := by decide +kernel
theorem dX4_deriveCovers_86 : decode cX4_deriveCovers 86 = .ok (.iload_n 1, 1) := by decide +kernel
theorem dX4_deriveCovers_87 : decode cX4_deriveCovers 87 = .ok (.ishl, 1) := by decide +kernel
theorem dX4_deriveCovers_88 : decode cX4_deriveCovers 88 = .ok (.ior, 1) := by decide +kernel
theorem dX4_deriveCovers_89 : decode cX4_deriveCovers 89 = .ok (.iastore, 1) := by decide +kernel
theorem dX4_deriveCovers_90 : decode cX4_deriveCovers 90 = .ok (.iinc 2 1, 3) := by decide +kernel
theorem dX4_deriveCovers_93 : decode cX4_deriveCovers 93 = .ok (.goto (-65), 3) := by decide +kernel
theorem dX4_deriveCovers_96 : decode cX4_deriveCovers 96 = .ok (.iinc 1 1, 3) := by decide +kernel
theorem dX4_deriveCovers_99 : decode cX4_deriveCovers 99 = .ok (.goto (-81), 3) := by decide +kernel
theorem dX4_deriveCovers_102 : decode cX4_deriveCovers 102 = .ok (.return_, 1) := by decide +kernel
theorem dX4_deriveRow_0 : decode cX4_deriveRow 0 = .ok (.iconst 0, 1) := by decide +kernel
theorem dX4_deriveRow_1 : decode cX4_deriveRow 1 = .ok (.istore_n 1, 1) := by decide +kernel
theorem dX4_deriveRow_2 : decode cX4_deriveRow 2 = .ok (.iconst 0, 1) := by decide +kernel
theorem dX4_deriveRow_3 : decode cX4_deriveRow 3 = .ok (.istore_n 2, 1) := by decide +kernel
theorem dX4_deriveRow_4 : decode cX4_deriveRow 4 = .ok (.iload_n 2, 1) := by decide +kernel
theorem dX4_deriveRow_5 : decode cX4_deriveRow 5 = .ok (.aload_n 0, 1) := by decide +kernel
theorem dX4_deriveRow_6 : decode cX4_deriveRow 6 = .ok (.getfield 9, 3) := by decide +kernel
theorem dX4_deriveRow_9 : decode cX4_deriveRow 9 = .ok (.if_icmp .ge 54, 3) := by decide +kernel
theorem dX4_deriveRow_12 : decode cX4_deriveRow 12 = .ok (.iconst 0, 1) := by decide +kernel
theorem dX4_deriveRow_13 : decode cX4_deriveRow 13 = .ok (.istore_n 3, 1) := by decide +kernel
theorem dX4_deriveRow_14 : decode cX4_deriveRow 14 = .ok (.iload_n 3, 1) := by decide +kernel
theorem dX4_deriveRow_15 : decode cX4_deriveRow 15 = .ok (.aload_n 0, 1) := by decide +kernel
theorem dX4_deriveRow_16 : decode cX4_deriveRow 16 = .ok (.getfield 9, 3) := by decide +kernel
theorem dX4_deriveRow_19 : decode cX4_deriveRow 19 = .ok (.if_icmp .ge 38, 3) := by decide +kernel
theorem dX4_deriveRow_22 : decode cX4_deriveRow 22 = .ok (.aload_n 0, 1) := by decide +kernel
theorem dX4_deriveRow_23 : decode cX4_deriveRow 23 = .ok (.getfield 19, 3) := by decide +kernel
theorem dX4_deriveRow_26 : decode cX4_deriveRow 26 = .ok (.iload_n 3, 1) := by decide +kernel
theorem dX4_deriveRow_27 : decode cX4_deriveRow 27 = .ok (.iaload, 1) := by decide +kernel
theorem dX4_deriveRow_28 : decode cX4_deriveRow 28 = .ok (.invokestatic 71, 3) := by decide +kernel
theorem dX4_deriveRow_31 : decode cX4_deriveRow 31 = .ok (.iload_n 2, 1) := by decide +kernel
theorem dX4_deriveRow_32 : decode cX4_deriveRow 32 = .ok (.if_icmp .ne 19, 3) := by decide +kernel
theorem dX4_deriveRow_35 : decode cX4_deriveRow 35 = .ok (.iload_n 1, 1) := by decide +kernel
theorem dX4_deriveRow_36 : decode cX4_deriveRow 36 = .ok (.bipush 16, 2) := by decide +kernel
theorem dX4_deriveRow_38 : decode cX4_deriveRow 38 = .ok (.if_icmp .ge 13, 3) := by decide +kernel
theorem dX4_deriveRow_41 : decode cX4_deriveRow 41 = .ok (.aload_n 0, 1) := by decide +kernel
theorem dX4_deriveRow_42 : decode cX4_deriveRow 42 = .ok (.getfield 31, 3) := by decide +kernel
theorem dX4_deriveRow_45 : decode cX4_deriveRow 45 = .ok (.iload_n 1, 1) := by decide +kernel
theorem dX4_deriveRow_46 : decode cX4_deriveRow 46 = .ok (.iload_n 3, 1) := by decide +kernel
theorem dX4_deriveRow_47 : decode cX4_deriveRow 47 = .ok (.iastore, 1) := by decide +kernel
theorem dX4_deriveRow_48 : decode cX4_deriveRow 48 = .ok (.iinc 1 1, 3) := by decide +kernel
theorem dX4_deriveRow_51 : decode cX4_deriveRow 51 = .ok (.iinc 3 1, 3) := by decide +kernel
theorem dX4_deriveRow_54 : decode cX4_deriveRow 54 = .ok (.goto (-40), 3) := by decide +kernel
theorem dX4_deriveRow_57 : decode cX4_deriveRow 57 = .ok (.iinc 2 1, 3) := by decide +kernel
theorem dX4_deriveRow_60 : decode cX4_deriveRow 60 = .ok (.goto (-56), 3) := by decide +kernel
theorem dX4_deriveRow_63 : decode cX4_deriveRow 63 = .ok (.return_, 1) := by decide +kernel
theorem dX4_deriveHeights_0 : decode cX4_deriveHeights 0 = .ok (.iconst 0, 1) := by decide +kernel
theorem dX4_deriveHeights_1 : decode cX4_deriveHeights 1 = .ok (.istore_n 1, 1) := by decide +kernel
theorem dX4_deriveHeights_2 : decode cX4_deriveHeights 2 = .ok (.iload_n 1, 1) := by decide +kernel
theorem dX4_deriveHeights_3 : decode cX4_deriveHeights 3 = .ok (.aload_n 0, 1) := by decide +kernel
theorem dX4_deriveHeights_4 : decode cX4_deriveHeights 4 = .ok (.getfield 9, 3) := by decide +kernel
theorem dX4_deriveHeights_7 : decode cX4_deriveHeights 7 = .ok (.if_icmp .ge 72, 3) := by decide +kernel
theorem dX4_deriveHeights_10 : decode cX4_deriveHeights 10 = .ok (.aload_n 0, 1) := by decide +kernel
theorem dX4_deriveHeights_11 : decode cX4_deriveHeights 11 = .ok (.getfield 31, 3) := by decide +kernel
theorem dX4_deriveHeights_14 : decode cX4_deriveHeights 14 = .ok (.iload_n 1, 1) := by decide +kernel
theorem dX4_deriveHeights_15 : decode cX4_deriveHeights 15 = .ok (.iaload, 1) := by decide +kernel
theorem dX4_deriveHeights_16 : decode cX4_deriveHeights 16 = .ok (.istore_n 2, 1) := by decide +kernel
theorem dX4_deriveHeights_17 : decode cX4_deriveHeights 17 = .ok (.iconst 0, 1) := by decide +kernel
theorem dX4_deriveHeights_18 : decode cX4_deriveHeights 18 = .ok (.istore_n 3, 1) := by decide +kernel
theorem dX4_deriveHeights_19 : decode cX4_deriveHeights 19 = .ok (.iconst 0, 1) := by decide +kernel
theorem dX4_deriveHeights_20 : decode cX4_deriveHeights 20 = .ok (.istore 4, 2) := by decide +kernel
theorem dX4_deriveHeights_22 : decode cX4_deriveHeights 22 = .ok (.iload 4, 2) := by decide +kernel
theorem dX4_deriveHeights_24 : decode cX4_deriveHeights 24 = .ok (.aload_n 0, 1) := by decide +kernel
theorem dX4_deriveHeights_25 : decode cX4_deriveHeights 25 = .ok (.getfield 9, 3) := by decide +kernel
theorem dX4_deriveHeights_28 : decode cX4_deriveHeights 28 = .ok (.if_icmp .ge 38, 3) := by decide +kernel
theorem dX4_deriveHeights_31 : decode cX4_deriveHeights 31 = .ok (.aload_n 0, 1) := by decide +kernel
theorem dX4_deriveHeights_32 : decode cX4_deriveHeights 32 = .ok (.getfield 19, 3) := by decide +kernel
theorem dX4_deriveHeights_35 : decode cX4_deriveHeights 35 = .ok (.iload_n 2, 1) := by decide +kernel
theorem dX4_deriveHeights_36 : decode cX4_deriveHeights 36 = .ok (.iaload, 1) := by decide +kernel
theorem dX4_deriveHeights_37 : decode cX4_deriveHeights 37 = .ok (.iload 4, 2) := by decide +kernel
theorem dX4_deriveHeights_39 : decode cX4_deriveHeights 39 = .ok (.ishr, 1) := by decide +kernel
theorem dX4_deriveHeights_40 : decode cX4_deriveHeights 40 = .ok (.iconst 1, 1) := by decide +kernel
theorem dX4_deriveHeights_41 : decode cX4_deriveHeights 41 = .ok (.iand, 1) := by decide +kernel
theorem dX4_deriveHeights_42 : decode cX4_deriveHeights 42 = .ok (.iconst 1, 1) := by decide +kernel
theorem dX4_deriveHeights_43 : decode cX4_deriveHeights 43 = .ok (.if_icmp .ne 17, 3) := by decide +kernel
theorem dX4_deriveHeights_46 : decode cX4_deriveHeights 46 = .ok (.iload_n 3, 1) := by decide +kernel
theorem dX4_deriveHeights_47 : decode cX4_deriveHeights 47 = .ok (.aload_n 0, 1) := by decide +kernel
theorem dX4_deriveHeights_48 : decode cX4_deriveHeights 48 = .ok (.getfield 28, 3) := by decide +kernel
theorem dX4_deriveHeights_51 : decode cX4_deriveHeights 51 = .ok (.iload 4, 2) := by decide +kernel
theorem dX4_deriveHeights_53 : decode cX4_deriveHeights 53 = .ok (.iaload, 1) := by decide +kernel
theorem dX4_deriveHeights_54 : decode cX4_deriveHeights 54 = .ok (.iconst 1, 1) := by decide +kernel
theorem dX4_deriveHeights_55 : decode cX4_deriveHeights 55 = .ok (.iadd, 1) := by decide +kernel
theorem dX4_deriveHeights_56 : decode cX4_deriveHeights 56 = .ok (.invokestatic 40, 3) := by decide +kernel
theorem dX4_deriveHeights_59 : decode cX4_deriveHeights 59 = .ok (.istore_n 3, 1) := by decide +kernel
theorem dX4_deriveHeights_60 : decode cX4_deriveHeights 60 = .ok (.iinc 4 1, 3) := by decide +kernel
theorem dX4_deriveHeights_63 : decode cX4_deriveHeights 63 = .ok (.goto (-41), 3) := by decide +kernel
theorem dX4_deriveHeights_66 : decode cX4_deriveHeights 66 = .ok (.aload_n 0, 1) := by decide +kernel
theorem dX4_deriveHeights_67 : decode cX4_deriveHeights 67 = .ok (.getfield 28, 3) := by decide +kernel
theorem dX4_deriveHeights_70 : decode cX4_deriveHeights 70 = .ok (.iload_n 2, 1) := by decide +kernel
theorem dX4_deriveHeights_71 : decode cX4_deriveHeights 71 = .ok (.iload_n 3, 1) := by decide +kernel
theorem dX4_deriveHeights_72 : decode cX4_deriveHeights 72 = .ok (.iastore, 1) := by decide +kernel
theorem dX4_deriveHeights_73 : decode cX4_deriveHeights 73 = .ok (.iinc 1 1, 3) := by decide +kernel
theorem dX4_deriveHeights_76 : decode cX4_deriveHeights 76 = .ok (.goto (-74), 3) := by decide +kernel
theorem dX4_deriveHeights_79 : decode cX4_deriveHeights 79 = .ok (.return_, 1) := by decide +kernel
theorem dX4_all_0 : decode cX4_all 0 = .ok (.iconst 1, 1) := by decide +kernel
theorem dX4_all_1 : decode cX4_all 1 = .ok (.aload_n 0, 1) := by decide +kernel
theorem dX4_all_2 : decode cX4_all 2 = .ok (.getfield 9, 3) := by decide +kernel
theorem dX4_all_5 : decode cX4_all 5 = .ok (.ishl, 1) := by decide +kernel
theorem dX4_all_6 : decode cX4_all 6 = .ok (.iconst 1, 1) := by decide +kernel
theorem dX4_all_7 : decode cX4_all 7 = .ok (.isub, 1) := by decide +kernel
theorem dX4_all_8 : decode cX4_all 8 = .ok (.ireturn, 1) := by decide +kernel
theorem dX4_has_0 : decode cX4_has 0 = .ok (.iload_n 1, 1) := by decide +kernel
theorem dX4_has_1 : decode cX4_has 1 = .ok (.ifCond .lt 15, 3) := by decide +kernel
theorem dX4_has_4 : decode cX4_has 4 = .ok (.iload_n 1, 1) := by decide +kernel
theorem dX4_has_5 : decode cX4_has 5 = .ok (.aload_n 0, 1) := by decide +kernel
theorem dX4_has_6 : decode cX4_has 6 = .ok (.getfield 9, 3) := by decide +kernel
theorem dX4_has_9 : decode cX4_has 9 = .ok (.if_icmp .ge 7, 3) := by decide +kernel
theorem dX4_has_12 : decode cX4_has 12 = .ok (.iconst 1, 1) := by decide +kernel
theorem dX4_has_13 : decode cX4_has 13 = .ok (.goto 4, 3) := by decide +kernel
theorem dX4_has_16 : decode cX4_has 16 = .ok (.iconst 0, 1) := by decide +kernel
theorem dX4_has_17 : decode cX4_has 17 = .ok (.ireturn, 1) := by decide +kernel
theorem dX4_isBelow_0 : decode cX4_isBelow 0 = .ok (.aload_n 0, 1) := by decide +kernel
theorem dX4_isBelow_1 : decode cX4_isBelow 1 = .ok (.iload_n 1, 1) := by decide +kernel
theorem dX4_isBelow_2 : decode cX4_isBelow 2 = .ok (.invokevirtual 96, 3) := by decide +kernel
theorem dX4_isBelow_5 : decode cX4_isBelow 5 = .ok (.ifCond .eq 29, 3) := by decide +kernel
theorem dX4_isBelow_8 : decode cX4_isBelow 8 = .ok (.aload_n 0, 1) := by decide +kernel
theorem dX4_isBelow_9 : decode cX4_isBelow 9 = .ok (.iload_n 2, 1) := by decide +kernel
theorem dX4_isBelow_10 : decode cX4_isBelow 10 = .ok (.invokevirtual 96, 3) := by decide +kernel
theorem dX4_isBelow_13 : decode cX4_isBelow 13 = .ok (.ifCond .eq 21, 3) := by decide +kernel
theorem dX4_isBelow_16 : decode cX4_isBelow 16 = .ok (.aload_n 0, 1) := by decide +kernel
theorem dX4_isBelow_17 : decode cX4_isBelow 17 = .ok (.getfield 15, 3) := by decide +kernel
theorem dX4_isBelow_20 : decode cX4_isBelow 20 = .ok (.iload_n 1, 1) := by decide +kernel
theorem dX4_isBelow_21 : decode cX4_isBelow 21 = .ok (.iaload, 1) := by decide +kernel
theorem dX4_isBelow_22 : decode cX4_isBelow 22 = .ok (.iload_n 2, 1) := by decide +kernel
theorem dX4_isBelow_23 : decode cX4_isBelow 23 = .ok (.ishr, 1) := by decide +kernel
theorem dX4_isBelow_24 : decode cX4_isBelow 24 = .ok (.iconst 1, 1) := by decide +kernel
theorem dX4_isBelow_25 : decode cX4_isBelow 25 = .ok (.iand, 1) := by decide +kernel
theorem dX4_isBelow_26 : decode cX4_isBelow 26 = .ok (.iconst 1, 1) := by decide +kernel
theorem dX4_isBelow_27 : decode cX4_isBelow 27 = .ok (.if_icmp .ne 7, 3) := by decide +kernel
theorem dX4_isBelow_30 : decode cX4_isBelow 30 = .ok (.iconst 1, 1) := by decide +kernel
theorem dX4_isBelow_31 : decode cX4_isBelow 31 = .ok (.goto 4, 3) := by decide +kernel
theorem dX4_isBelow_34 : decode cX4_isBelow 34 = .ok (.iconst 0, 1) := by decide +kernel
theorem dX4_isBelow_35 : decode cX4_isBelow 35 = .ok (.ireturn, 1) := by decide +kernel
theorem dX4_atMost_0 : decode cX4_atMost 0 = .ok (.aload_n 0, 1) := by decide +kernel
theorem dX4_atMost_1 : decode cX4_atMost 1 = .ok (.iload_n 1, 1) := by decide +kernel
theorem dX4_atMost_2 : decode cX4_atMost 2 = .ok (.invokevirtual 96, 3) := by decide +kernel
theorem dX4_atMost_5 : decode cX4_atMost 5 = .ok (.ifCond .eq 21, 3) := by decide +kernel
theorem dX4_atMost_8 : decode cX4_atMost 8 = .ok (.iload_n 1, 1) := by decide +kernel
theorem dX4_atMost_9 : decode cX4_atMost 9 = .ok (.iload_n 2, 1) := by decide +kernel
theorem dX4_atMost_10 : decode cX4_atMost 10 = .ok (.if_icmp .eq 12, 3) := by decide +kernel
theorem dX4_atMost_13 : decode cX4_atMost 13 = .ok (.aload_n 0, 1) := by decide +kernel
theorem dX4_atMost_14 : decode cX4_atMost 14 = .ok (.iload_n 1, 1) := by decide +kernel
theorem dX4_atMost_15 : decode cX4_atMost 15 = .ok (.iload_n 2, 1) := by decide +kernel
theorem dX4_atMost_16 : decode cX4_atMost 16 = .ok (.invokevirtual 100, 3) := by decide +kernel
theorem dX4_atMost_19 : decode cX4_atMost 19 = .ok (.ifCond .eq 7, 3) := by decide +kernel
theorem dX4_atMost_22 : decode cX4_atMost 22 = .ok (.iconst 1, 1) := by decide +kernel
theorem dX4_atMost_23 : decode cX4_atMost 23 = .ok (.goto 4, 3) := by decide +kernel
theorem dX4_atMost_26 : decode cX4_atMost 26 = .ok (.iconst 0, 1) := by decide +kernel
theorem dX4_atMost_27 : decode cX4_atMost 27 = .ok (.ireturn, 1) := by decide +kernel
theorem dX4_from_0 : decode cX4_from 0 = .ok (.aload_n 0, 1) := by decide +kernel
theorem dX4_from_1 : decode cX4_from 1 = .ok (.iload_n 1, 1) := by decide +kernel
theorem dX4_from_2 : decode cX4_from 2 = .ok (.invokevirtual 96, 3) := by decide +kernel
theorem dX4_from_5 : decode cX4_from 5 = .ok (.ifCond .eq 16, 3) := by decide +kernel
theorem dX4_from_8 : decode cX4_from 8 = .ok (.aload_n 0, 1) := by decide +kernel
theorem dX4_from_9 : decode cX4_from 9 = .ok (.getfield 15, 3) := by decide +kernel
theorem dX4_from_12 : decode cX4_from 12 = .ok (.iload_n 1, 1) := by decide +kernel
theorem dX4_from_13 : decode cX4_from 13 = .ok (.iaload, 1) := by decide +kernel
theorem dX4_from_14 : decode cX4_from 14 = .ok (.iconst 1, 1) := by decide +kernel
theorem dX4_from_15 : decode cX4_from 15 = .ok (.iload_n 1, 1) := by decide +kernel
theorem dX4_from_16 : decode cX4_from 16 = .ok (.ishl, 1) := by decide +kernel
theorem dX4_from_17 : decode cX4_from 17 = .ok (.ior, 1) := by decide +kernel
theorem dX4_from_18 : decode cX4_from 18 = .ok (.goto 4, 3) := by decide +kernel
theorem dX4_from_21 : decode cX4_from 21 = .ok (.iconst 0, 1) := by decide +kernel
theorem dX4_from_22 : decode cX4_from 22 = .ok (.ireturn, 1) := by decide +kernel
theorem dX4_upTo_0 : decode cX4_upTo 0 = .ok (.aload_n 0, 1) := by decide +kernel
theorem dX4_upTo_1 : decode cX4_upTo 1 = .ok (.iload_n 1, 1) := by decide +kernel
theorem dX4_upTo_2 : decode cX4_upTo 2 = .ok (.invokevirtual 96, 3) := by decide +kernel
theorem dX4_upTo_5 : decode cX4_upTo 5 = .ok (.ifCond .eq 16, 3) := by decide +kernel
theorem dX4_upTo_8 : decode cX4_upTo 8 = .ok (.aload_n 0, 1) := by decide +kernel
theorem dX4_upTo_9 : decode cX4_upTo 9 = .ok (.getfield 19, 3) := by decide +kernel
theorem dX4_upTo_12 : decode cX4_upTo 12 = .ok (.iload_n 1, 1) := by decide +kernel
theorem dX4_upTo_13 : decode cX4_upTo 13 = .ok (.iaload, 1) := by decide +kernel
theorem dX4_upTo_14 : decode cX4_upTo 14 = .ok (.iconst 1, 1) := by decide +kernel
theorem dX4_upTo_15 : decode cX4_upTo 15 = .ok (.iload_n 1, 1) := by decide +kernel
theorem dX4_upTo_16 : decode cX4_upTo 16 = .ok (.ishl, 1) := by decide +kernel
theorem dX4_upTo_17 : decode cX4_upTo 17 = .ok (.ior, 1) := by decide +kernel
theorem dX4_upTo_18 : decode cX4_upTo 18 = .ok (.goto 4, 3) := by decide +kernel
theorem dX4_upTo_21 : decode cX4_upTo 21 = .ok (.iconst 0, 1) := by decide +kernel
theorem dX4_upTo_22 : decode cX4_upTo 22 = .ok (.ireturn, 1) := by decide +kernel
theorem dX4_between_0 : decode cX4_between 0 = .ok (.aload_n 0, 1) := by decide +kernel
theorem dX4_between_1 : decode cX4_between 1 = .ok (.iload_n 1, 1) := by decide +kernel
theorem dX4_between_2 : decode cX4_between 2 = .ok (.invokevirtual 53, 3) := by decide +kernel
theorem dX4_between_5 : decode cX4_between 5 = .ok (.aload_n 0, 1) := by decide +kernel
theorem dX4_between_6 : decode cX4_between 6 = .ok (.iload_n 2, 1) := by decide +kernel
theorem dX4_between_7 : decode cX4_between 7 = .ok (.invokevirtual 103, 3) := by decide +kernel
theorem dX4_between_10 : decode cX4_between 10 = .ok (.iand, 1) := by decide +kernel
theorem dX4_between_11 : decode cX4_between 11 = .ok (.ireturn, 1) := by decide +kernel
theorem dX4_pairs_0 : decode cX4_pairs 0 = .ok (.iconst 0, 1) := by decide +kernel
theorem dX4_pairs_1 : decode cX4_pairs 1 = .ok (.istore_n 2, 1) := by decide +kernel
theorem dX4_pairs_2 : decode cX4_pairs 2 = .ok (.iconst 0, 1) := by decide +kernel
theorem dX4_pairs_3 : decode cX4_pairs 3 = .ok (.istore_n 3, 1) := by decide +kernel
theorem dX4_pairs_4 : decode cX4_pairs 4 = .ok (.iload_n 3, 1) := by decide +kernel
theorem dX4_pairs_5 : decode cX4_pairs 5 = .ok (.aload_n 0, 1) := by decide +kernel
theorem dX4_pairs_6 : decode cX4_pairs 6 = .ok (.getfield 9, 3) := by decide +kernel
theorem dX4_pairs_9 : decode cX4_pairs 9 = .ok (.if_icmp .ge 24, 3) := by decide +kernel
theorem dX4_pairs_12 : decode cX4_pairs 12 = .ok (.iload_n 3, 1) := by decide +kernel
theorem dX4_pairs_13 : decode cX4_pairs 13 = .ok (.aload_n 1, 1) := by decide +kernel
theorem dX4_pairs_14 : decode cX4_pairs 14 = .ok (.arraylength, 1) := by decide +kernel
theorem dX4_pairs_15 : decode cX4_pairs 15 = .ok (.if_icmp .ge 18, 3) := by decide +kernel
theorem dX4_pairs_18 : decode cX4_pairs 18 = .ok (.iload_n 2, 1) := by decide +kernel
theorem dX4_pairs_19 : decode cX4_pairs 19 = .ok (.aload_n 1, 1) := by decide +kernel
theorem dX4_pairs_20 : decode cX4_pairs 20 = .ok (.iload_n 3, 1) := by decide +kernel
theorem dX4_pairs_21 : decode cX4_pairs 21 = .ok (.iaload, 1) := by decide +kernel
theorem dX4_pairs_22 : decode cX4_pairs 22 = .ok (.invokestatic 71, 3) := by decide +kernel
theorem dX4_pairs_25 : decode cX4_pairs 25 = .ok (.iadd, 1) := by decide +kernel
theorem dX4_pairs_26 : decode cX4_pairs 26 = .ok (.istore_n 2, 1) := by decide +kernel
theorem dX4_pairs_27 : decode cX4_pairs 27 = .ok (.iinc 3 1, 3) := by decide +kernel
theorem dX4_pairs_30 : decode cX4_pairs 30 = .ok (.goto (-26), 3) := by decide +kernel
theorem dX4_pairs_33 : decode cX4_pairs 33 = .ok (.iload_n 2, 1) := by decide +kernel
theorem dX4_pairs_34 : decode cX4_pairs 34 = .ok (.ireturn, 1) := by decide +kernel
theorem dX4_without_0 : decode cX4_without 0 = .ok (.iconst 0, 1) := by decide +kernel
theorem dX4_without_1 : decode cX4_without 1 = .ok (.istore_n 2, 1) := by decide +kernel
theorem dX4_without_2 : decode cX4_without 2 = .ok (.iconst 0, 1) := by decide +kernel
theorem dX4_without_3 : decode cX4_without 3 = .ok (.istore_n 3, 1) := by decide +kernel
theorem dX4_without_4 : decode cX4_without 4 = .ok (.iload_n 3, 1) := by decide +kernel
theorem dX4_without_5 : decode cX4_without 5 = .ok (.aload_n 0, 1) := by decide +kernel
theorem dX4_without_6 : decode cX4_without 6 = .ok (.getfield 9, 3) := by decide +kernel
theorem dX4_without_9 : decode cX4_without 9 = .ok (.if_icmp .ge 27, 3) := by decide +kernel
theorem dX4_without_12 : decode cX4_without 12 = .ok (.iload_n 3, 1) := by decide +kernel
theorem dX4_without_13 : decode cX4_without 13 = .ok (.aload_n 1, 1) := by decide +kernel
theorem dX4_without_14 : decode cX4_without 14 = .ok (.arraylength, 1) := by decide +kernel
theorem dX4_without_15 : decode cX4_without 15 = .ok (.if_icmp .ge 21, 3) := by decide +kernel
theorem dX4_without_18 : decode cX4_without 18 = .ok (.aload_n 1, 1) := by decide +kernel
theorem dX4_without_19 : decode cX4_without 19 = .ok (.iload_n 3, 1) := by decide +kernel
theorem dX4_without_20 : decode cX4_without 20 = .ok (.iaload, 1) := by decide +kernel
theorem dX4_without_21 : decode cX4_without 21 = .ok (.ifCond .ne 9, 3) := by decide +kernel
theorem dX4_without_24 : decode cX4_without 24 = .ok (.iload_n 2, 1) := by decide +kernel
theorem dX4_without_25 : decode cX4_without 25 = .ok (.iconst 1, 1) := by decide +kernel
theorem dX4_without_26 : decode cX4_without 26 = .ok (.iload_n 3, 1) := by decide +kernel
theorem dX4_without_27 : decode cX4_without 27 = .ok (.ishl, 1) := by decide +kernel
theorem dX4_without_28 : decode cX4_without 28 = .ok (.ior, 1) := by decide +kernel
theorem dX4_without_29 : decode cX4_without 29 = .ok (.istore_n 2, 1) := by decide +kernel
theorem dX4_without_30 : decode cX4_without 30 = .ok (.iinc 3 1, 3) := by decide +kernel
theorem dX4_without_33 : decode cX4_without 33 = .ok (.goto (-29), 3) := by decide +kernel
theorem dX4_without_36 : decode cX4_without 36 = .ok (.iload_n 2, 1) := by decide +kernel
theorem dX4_without_37 : decode cX4_without 37 = .ok (.ireturn, 1) := by decide +kernel
theorem dX4_least_0 : decode cX4_least 0 = .ok (.iconst 0, 1) := by decide +kernel
theorem dX4_least_1 : decode cX4_least 1 = .ok (.istore_n 2, 1) := by decide +kernel
theorem dX4_least_2 : decode cX4_least 2 = .ok (.iload_n 2, 1) := by decide +kernel
theorem dX4_least_3 : decode cX4_least 3 = .ok (.aload_n 0, 1) := by decide +kernel
theorem dX4_least_4 : decode cX4_least 4 = .ok (.getfield 9, 3) := by decide +kernel
theorem dX4_least_7 : decode cX4_least 7 = .ok (.if_icmp .ge 32, 3) := by decide +kernel
theorem dX4_least_10 : decode cX4_least 10 = .ok (.iload_n 1, 1) := by decide +kernel
theorem dX4_least_11 : decode cX4_least 11 = .ok (.iload_n 2, 1) := by decide +kernel
theorem dX4_least_12 : decode cX4_least 12 = .ok (.ishr, 1) := by decide +kernel
theorem dX4_least_13 : decode cX4_least 13 = .ok (.iconst 1, 1) := by decide +kernel
theorem dX4_least_14 : decode cX4_least 14 = .ok (.iand, 1) := by decide +kernel
theorem dX4_least_15 : decode cX4_least 15 = .ok (.iconst 1, 1) := by decide +kernel
theorem dX4_least_16 : decode cX4_least 16 = .ok (.if_icmp .ne 17, 3) := by decide +kernel
theorem dX4_least_19 : decode cX4_least 19 = .ok (.iload_n 1, 1) := by decide +kernel
theorem dX4_least_20 : decode cX4_least 20 = .ok (.aload_n 0, 1) := by decide +kernel
theorem dX4_least_21 : decode cX4_least 21 = .ok (.iload_n 2, 1) := by decide +kernel
theorem dX4_least_22 : decode cX4_least 22 = .ok (.invokevirtual 53, 3) := by decide +kernel
theorem dX4_least_25 : decode cX4_least 25 = .ok (.iconst (-1), 1) := by decide +kernel
theorem dX4_least_26 : decode cX4_least 26 = .ok (.ixor, 1) := by decide +kernel
theorem dX4_least_27 : decode cX4_least 27 = .ok (.iand, 1) := by decide +kernel
theorem dX4_least_28 : decode cX4_least 28 = .ok (.ifCond .ne 5, 3) := by decide +kernel
theorem dX4_least_31 : decode cX4_least 31 = .ok (.iload_n 2, 1) := by decide +kernel
theorem dX4_least_32 : decode cX4_least 32 = .ok (.ireturn, 1) := by decide +kernel
theorem dX4_least_33 : decode cX4_least 33 = .ok (.iinc 2 1, 3) := by decide +kernel
theorem dX4_least_36 : decode cX4_least 36 = .ok (.goto (-34), 3) := by decide +kernel
theorem dX4_least_39 : decode cX4_least 39 = .ok (.bipush (-2), 2) := by decide +kernel
theorem dX4_least_41 : decode cX4_least 41 = .ok (.ireturn, 1) := by decide +kernel
theorem dX4_greatest_0 : decode cX4_greatest 0 = .ok (.iconst 0, 1) := by decide +kernel
theorem dX4_greatest_1 : decode cX4_greatest 1 = .ok (.istore_n 2, 1) := by decide +kernel
theorem dX4_greatest_2 : decode cX4_greatest 2 = .ok (.iload_n 2, 1) := by decide +kernel
theorem dX4_greatest_3 : decode cX4_greatest 3 = .ok (.aload_n 0, 1) := by decide +kernel
theorem dX4_greatest_4 : decode cX4_greatest 4 = .ok (.getfield 9, 3) := by decide +kernel
theorem dX4_greatest_7 : decode cX4_greatest 7 = .ok (.if_icmp .ge 32, 3) := by decide +kernel
theorem dX4_greatest_10 : decode cX4_greatest 10 = .ok (.iload_n 1, 1) := by decide +kernel
theorem dX4_greatest_11 : decode cX4_greatest 11 = .ok (.iload_n 2, 1) := by decide +kernel
theorem dX4_greatest_12 : decode cX4_greatest 12 = .ok (.ishr, 1) := by decide +kernel
theorem dX4_greatest_13 : decode cX4_greatest 13 = .ok (.iconst 1, 1) := by decide +kernel
theorem dX4_greatest_14 : decode cX4_greatest 14 = .ok (.iand, 1) := by decide +kernel
theorem dX4_greatest_15 : decode cX4_greatest 15 = .ok (.iconst 1, 1) := by decide +kernel
theorem dX4_greatest_16 : decode cX4_greatest 16 = .ok (.if_icmp .ne 17, 3) := by decide +kernel
theorem dX4_greatest_19 : decode cX4_greatest 19 = .ok (.iload_n 1, 1) := by decide +kernel
theorem dX4_greatest_20 : decode cX4_greatest 20 = .ok (.aload_n 0, 1) := by decide +kernel
theorem dX4_greatest_21 : decode cX4_greatest 21 = .ok (.iload_n 2, 1) := by decide +kernel
theorem dX4_greatest_22 : decode cX4_greatest 22 = .ok (.invokevirtual 103, 3) := by decide +kernel
theorem dX4_greatest_25 : decode cX4_greatest 25 = .ok (.iconst (-1), 1) := by decide +kernel
theorem dX4_greatest_26 : decode cX4_greatest 26 = .ok (.ixor, 1) := by decide +kernel
theorem dX4_greatest_27 : decode cX4_greatest 27 = .ok (.iand, 1) := by decide +kernel
theorem dX4_greatest_28 : decode cX4_greatest 28 = .ok (.ifCond .ne 5, 3) := by decide +kernel
theorem dX4_greatest_31 : decode cX4_greatest 31 = .ok (.iload_n 2, 1) := by decide +kernel
theorem dX4_greatest_32 : decode cX4_greatest 32 = .ok (.ireturn, 1) := by decide +kernel
theorem dX4_greatest_33 : decode cX4_greatest 33 = .ok (.iinc 2 1, 3) := by decide +kernel
theorem dX4_greatest_36 : decode cX4_greatest 36 = .ok (.goto (-34), 3) := by decide +kernel
theorem dX4_greatest_39 : decode cX4_greatest 39 = .ok (.bipush (-2), 2) := by decide +kernel
theorem dX4_greatest_41 : decode cX4_greatest 41 = .ok (.ireturn, 1) := by decide +kernel
theorem dX4_hasJoinsWithin_0 : decode cX4_hasJoinsWithin 0 = .ok (.iconst 0, 1) := by decide +kernel
theorem dX4_hasJoinsWithin_1 : decode cX4_hasJoinsWithin 1 = .ok (.istore_n 2, 1) := by decide +kernel
theorem dX4_hasJoinsWithin_2 : decode cX4_hasJoinsWithin 2 = .ok (.iload_n 2, 1) := by decide +kernel
theorem dX4_hasJoinsWithin_3 : decode cX4_hasJoinsWithin 3 = .ok (.aload_n 0, 1) := by decide +kernel
theorem dX4_hasJoinsWithin_4 : decode cX4_hasJoinsWithin 4 = .ok (.getfield 9, 3) := by decide +kernel
theorem dX4_hasJoinsWithin_7 : decode cX4_hasJoinsWithin 7 = .ok (.if_icmp .ge 74, 3) := by decide +kernel
theorem dX4_hasJoinsWithin_10 : decode cX4_hasJoinsWithin 10 = .ok (.iconst 0, 1) := by decide +kernel
theorem dX4_hasJoinsWithin_11 : decode cX4_hasJoinsWithin 11 = .ok (.istore_n 3, 1) := by decide +kernel
theorem dX4_hasJoinsWithin_12 : decode cX4_hasJoinsWithin 12 = .ok (.iload_n 3, 1) := by decide +kernel
theorem dX4_hasJoinsWithin_13 : decode cX4_hasJoinsWithin 13 = .ok (.iload_n 2, 1) := by decide +kernel
theorem dX4_hasJoinsWithin_14 : decode cX4_hasJoinsWithin 14 = .ok (.if_icmp .ge 61, 3) := by decide +kernel
theorem dX4_hasJoinsWithin_17 : decode cX4_hasJoinsWithin 17 = .ok (.iload_n 1, 1) := by decide +kernel
theorem dX4_hasJoinsWithin_18 : decode cX4_hasJoinsWithin 18 = .ok (.iload_n 2, 1) := by decide +kernel
theorem dX4_hasJoinsWithin_19 : decode cX4_hasJoinsWithin 19 = .ok (.ishr, 1) := by decide +kernel
theorem dX4_hasJoinsWithin_20 : decode cX4_hasJoinsWithin 20 = .ok (.iconst 1, 1) := by decide +kernel
theorem dX4_hasJoinsWithin_21 : decode cX4_hasJoinsWithin 21 = .ok (.iand, 1) := by decide +kernel
theorem dX4_hasJoinsWithin_22 : decode cX4_hasJoinsWithin 22 = .ok (.iconst 1, 1) := by decide +kernel
theorem dX4_hasJoinsWithin_23 : decode cX4_hasJoinsWithin 23 = .ok (.if_icmp .ne 16, 3) := by decide +kernel
theorem dX4_hasJoinsWithin_26 : decode cX4_hasJoinsWithin 26 = .ok (.iload_n 1, 1) := by decide +kernel
theorem dX4_hasJoinsWithin_27 : decode cX4_hasJoinsWithin 27 = .ok (.iload_n 3, 1) := by decide +kernel
theorem dX4_hasJoinsWithin_28 : decode cX4_hasJoinsWithin 28 = .ok (.ishr, 1) := by decide +kernel
theorem dX4_hasJoinsWithin_29 : decode cX4_hasJoinsWithin 29 = .ok (.iconst 1, 1) := by decide +kernel
theorem dX4_hasJoinsWithin_30 : decode cX4_hasJoinsWithin 30 = .ok (.iand, 1) := by decide +kernel
theorem dX4_hasJoinsWithin_31 : decode cX4_hasJoinsWithin 31 = .ok (.iconst 1, 1) := by decide +kernel
theorem dX4_hasJoinsWithin_32 : decode cX4_hasJoinsWithin 32 = .ok (.if_icmp .ne 7, 3) := by decide +kernel
theorem dX4_hasJoinsWithin_35 : decode cX4_hasJoinsWithin 35 = .ok (.iconst 1, 1) := by decide +kernel
theorem dX4_hasJoinsWithin_36 : decode cX4_hasJoinsWithin 36 = .ok (.goto 4, 3) := by decide +kernel
theorem dX4_hasJoinsWithin_39 : decode cX4_hasJoinsWithin 39 = .ok (.iconst 0, 1) := by decide +kernel
theorem dX4_hasJoinsWithin_40 : decode cX4_hasJoinsWithin 40 = .ok (.istore 4, 2) := by decide +kernel
theorem dX4_hasJoinsWithin_42 : decode cX4_hasJoinsWithin 42 = .ok (.iload 4, 2) := by decide +kernel
theorem dX4_hasJoinsWithin_44 : decode cX4_hasJoinsWithin 44 = .ok (.ifCond .eq 25, 3) := by decide +kernel
theorem dX4_hasJoinsWithin_47 : decode cX4_hasJoinsWithin 47 = .ok (.aload_n 0, 1) := by decide +kernel
theorem dX4_hasJoinsWithin_48 : decode cX4_hasJoinsWithin 48 = .ok (.iload_n 1, 1) := by decide +kernel
theorem dX4_hasJoinsWithin_49 : decode cX4_hasJoinsWithin 49 = .ok (.aload_n 0, 1) := by decide +kernel
theorem dX4_hasJoinsWithin_50 : decode cX4_hasJoinsWithin 50 = .ok (.iload_n 2, 1) := by decide +kernel
theorem dX4_hasJoinsWithin_51 : decode cX4_hasJoinsWithin 51 = .ok (.invokevirtual 53, 3) := by decide +kernel
theorem dX4_hasJoinsWithin_54 : decode cX4_hasJoinsWithin 54 = .ok (.iand, 1) := by decide +kernel
theorem dX4_hasJoinsWithin_55 : decode cX4_hasJoinsWithin 55 = .ok (.aload_n 0, 1) := by decide +kernel
theorem dX4_hasJoinsWithin_56 : decode cX4_hasJoinsWithin 56 = .ok (.iload_n 3, 1) := by decide +kernel
theorem dX4_hasJoinsWithin_57 : decode cX4_hasJoinsWithin 57 = .ok (.invokevirtual 53, 3) := by decide +kernel
theorem dX4_hasJoinsWithin_60 : decode cX4_hasJoinsWithin 60 = .ok (.iand, 1) := by decide +kernel
theorem dX4_hasJoinsWithin_61 : decode cX4_hasJoinsWithin 61 = .ok (.invokevirtual 106, 3) := by decide +kernel
theorem dX4_hasJoinsWithin_64 : decode cX4_hasJoinsWithin 64 = .ok (.ifCond .ge 5, 3) := by decide +kernel
theorem dX4_hasJoinsWithin_67 : decode cX4_hasJoinsWithin 67 = .ok (.iconst 0, 1) := by decide +kernel
theorem dX4_hasJoinsWithin_68 : decode cX4_hasJoinsWithin 68 = .ok (.ireturn, 1) := by decide +kernel
theorem dX4_hasJoinsWithin_69 : decode cX4_hasJoinsWithin 69 = .ok (.iinc 3 1, 3) := by decide +kernel
theorem dX4_hasJoinsWithin_72 : decode cX4_hasJoinsWithin 72 = .ok (.goto (-60), 3) := by decide +kernel
theorem dX4_hasJoinsWithin_75 : decode cX4_hasJoinsWithin 75 = .ok (.iinc 2 1, 3) := by decide +kernel
theorem dX4_hasJoinsWithin_78 : decode cX4_hasJoinsWithin 78 = .ok (.goto (-76), 3) := by decide +kernel
theorem dX4_hasJoinsWithin_81 : decode cX4_hasJoinsWithin 81 = .ok (.iconst 1, 1) := by decide +kernel
theorem dX4_hasJoinsWithin_82 : decode cX4_hasJoinsWithin 82 = .ok (.ireturn, 1) := by decide +kernel
theorem dX4_isLattice_0 : decode cX4_isLattice 0 = .ok (.iconst 0, 1) := by decide +kernel
theorem dX4_isLattice_1 : decode cX4_isLattice 1 = .ok (.istore_n 1, 1) := by decide +kernel
theorem dX4_isLattice_2 : decode cX4_isLattice 2 = .ok (.iload_n 1, 1) := by decide +kernel
theorem dX4_isLattice_3 : decode cX4_isLattice 3 = .ok (.aload_n 0, 1) := by decide +kernel
theorem dX4_isLattice_4 : decode cX4_isLattice 4 = .ok (.getfield 9, 3) := by decide +kernel
theorem dX4_isLattice_7 : decode cX4_isLattice 7 = .ok (.if_icmp .ge 42, 3) := by decide +kernel
theorem dX4_isLattice_10 : decode cX4_isLattice 10 = .ok (.iconst 0, 1) := by decide +kernel
theorem dX4_isLattice_11 : decode cX4_isLattice 11 = .ok (.istore_n 2, 1) := by decide +kernel
theorem dX4_isLattice_12 : decode cX4_isLattice 12 = .ok (.iload_n 2, 1) := by decide +kernel
theorem dX4_isLattice_13 : decode cX4_isLattice 13 = .ok (.iload_n 1, 1) := by decide +kernel
theorem dX4_isLattice_14 : decode cX4_isLattice 14 = .ok (.if_icmp .ge 29, 3) := by decide +kernel
theorem dX4_isLattice_17 : decode cX4_isLattice 17 = .ok (.aload_n 0, 1) := by decide +kernel
theorem dX4_isLattice_18 : decode cX4_isLattice 18 = .ok (.aload_n 0, 1) := by decide +kernel
theorem dX4_isLattice_19 : decode cX4_isLattice 19 = .ok (.iload_n 1, 1) := by decide +kernel
theorem dX4_isLattice_20 : decode cX4_isLattice 20 = .ok (.invokevirtual 103, 3) := by decide +kernel
theorem dX4_isLattice_23 : decode cX4_isLattice 23 = .ok (.aload_n 0, 1) := by decide +kernel
theorem dX4_isLattice_24 : decode cX4_isLattice 24 = .ok (.iload_n 2, 1) := by decide +kernel
theorem dX4_isLattice_25 : decode cX4_isLattice 25 = .ok (.invokevirtual 103, 3) := by decide +kernel
theorem dX4_isLattice_28 : decode cX4_isLattice 28 = .ok (.iand, 1) := by decide +kernel
theorem dX4_isLattice_29 : decode cX4_isLattice 29 = .ok (.invokevirtual 109, 3) := by decide +kernel
theorem dX4_isLattice_32 : decode cX4_isLattice 32 = .ok (.ifCond .ge 5, 3) := by decide +kernel
theorem dX4_isLattice_35 : decode cX4_isLattice 35 = .ok (.iconst 0, 1) := by decide +kernel
theorem dX4_isLattice_36 : decode cX4_isLattice 36 = .ok (.ireturn, 1) := by decide +kernel
theorem dX4_isLattice_37 : decode cX4_isLattice 37 = .ok (.iinc 2 1, 3) := by decide +kernel
theorem dX4_isLattice_40 : decode cX4_isLattice 40 = .ok (.goto (-28), 3) := by decide +kernel
theorem dX4_isLattice_43 : decode cX4_isLattice 43 = .ok (.iinc 1 1, 3) := by decide +kernel
theorem dX4_isLattice_46 : decode cX4_isLattice 46 = .ok (.goto (-44), 3) := by decide +kernel
theorem dX4_isLattice_49 : decode cX4_isLattice 49 = .ok (.aload_n 0, 1) := by decide +kernel
theorem dX4_isLattice_50 : decode cX4_isLattice 50 = .ok (.aload_n 0, 1) := by decide +kernel
theorem dX4_isLattice_51 : decode cX4_isLattice 51 = .ok (.invokevirtual 67, 3) := by decide +kernel
theorem dX4_isLattice_54 : decode cX4_isLattice 54 = .ok (.invokevirtual 112, 3) := by decide +kernel
theorem dX4_isLattice_57 : decode cX4_isLattice 57 = .ok (.ireturn, 1) := by decide +kernel
theorem dX4_greatestHeight_0 : decode cX4_greatestHeight 0 = .ok (.iconst 0, 1) := by decide +kernel
theorem dX4_greatestHeight_1 : decode cX4_greatestHeight 1 = .ok (.istore_n 1, 1) := by decide +kernel
theorem dX4_greatestHeight_2 : decode cX4_greatestHeight 2 = .ok (.iconst 0, 1) := by decide +kernel
theorem dX4_greatestHeight_3 : decode cX4_greatestHeight 3 = .ok (.istore_n 2, 1) := by decide +kernel
theorem dX4_greatestHeight_4 : decode cX4_greatestHeight 4 = .ok (.iload_n 2, 1) := by decide +kernel
theorem dX4_greatestHeight_5 : decode cX4_greatestHeight 5 = .ok (.aload_n 0, 1) := by decide +kernel
theorem dX4_greatestHeight_6 : decode cX4_greatestHeight 6 = .ok (.getfield 9, 3) := by decide +kernel
theorem dX4_greatestHeight_9 : decode cX4_greatestHeight 9 = .ok (.if_icmp .ge 20, 3) := by decide +kernel
theorem dX4_greatestHeight_12 : decode cX4_greatestHeight 12 = .ok (.iload_n 1, 1) := by decide +kernel
theorem dX4_greatestHeight_13 : decode cX4_greatestHeight 13 = .ok (.aload_n 0, 1) := by decide +kernel
theorem dX4_greatestHeight_14 : decode cX4_greatestHeight 14 = .ok (.getfield 28, 3) := by decide +kernel
theorem dX4_greatestHeight_17 : decode cX4_greatestHeight 17 = .ok (.iload_n 2, 1) := by decide +kernel
theorem dX4_greatestHeight_18 : decode cX4_greatestHeight 18 = .ok (.iaload, 1) := by decide +kernel
theorem dX4_greatestHeight_19 : decode cX4_greatestHeight 19 = .ok (.invokestatic 40, 3) := by decide +kernel
theorem dX4_greatestHeight_22 : decode cX4_greatestHeight 22 = .ok (.istore_n 1, 1) := by decide +kernel
theorem dX4_greatestHeight_23 : decode cX4_greatestHeight 23 = .ok (.iinc 2 1, 3) := by decide +kernel
theorem dX4_greatestHeight_26 : decode cX4_greatestHeight 26 = .ok (.goto (-22), 3) := by decide +kernel
theorem dX4_greatestHeight_29 : decode cX4_greatestHeight 29 = .ok (.iload_n 1, 1) := by decide +kernel
theorem dX4_greatestHeight_30 : decode cX4_greatestHeight 30 = .ok (.ireturn, 1) := by decide +kernel
theorem dX4_isGraded_0 : decode cX4_isGraded 0 = .ok (.iconst 0, 1) := by decide +kernel
theorem dX4_isGraded_1 : decode cX4_isGraded 1 = .ok (.istore_n 1, 1) := by decide +kernel
theorem dX4_isGraded_2 : decode cX4_isGraded 2 = .ok (.iload_n 1, 1) := by decide +kernel
theorem dX4_isGraded_3 : decode cX4_isGraded 3 = .ok (.aload_n 0, 1) := by decide +kernel
theorem dX4_isGraded_4 : decode cX4_isGraded 4 = .ok (.getfield 9, 3) := by decide +kernel
theorem dX4_isGraded_7 : decode cX4_isGraded 7 = .ok (.if_icmp .ge 58, 3) := by decide +kernel
theorem dX4_isGraded_10 : decode cX4_isGraded 10 = .ok (.iconst 0, 1) := by decide +kernel
theorem dX4_isGraded_11 : decode cX4_isGraded 11 = .ok (.istore_n 2, 1) := by decide +kernel
theorem dX4_isGraded_12 : decode cX4_isGraded 12 = .ok (.iload_n 2, 1) := by decide +kernel
theorem dX4_isGraded_13 : decode cX4_isGraded 13 = .ok (.aload_n 0, 1) := by decide +kernel
theorem dX4_isGraded_14 : decode cX4_isGraded 14 = .ok (.getfield 9, 3) := by decide +kernel
theorem dX4_isGraded_17 : decode cX4_isGraded 17 = .ok (.if_icmp .ge 42, 3) := by decide +kernel
theorem dX4_isGraded_20 : decode cX4_isGraded 20 = .ok (.aload_n 0, 1) := by decide +kernel
theorem dX4_isGraded_21 : decode cX4_isGraded 21 = .ok (.getfield 25, 3) := by decide +kernel
theorem dX4_isGraded_24 : decode cX4_isGraded 24 = .ok (.iload_n 1, 1) := by decide +kernel
theorem dX4_isGraded_25 : decode cX4_isGraded 25 = .ok (.iaload, 1) := by decide +kernel
theorem dX4_isGraded_26 : decode cX4_isGraded 26 = .ok (.iload_n 2, 1) := by decide +kernel
theorem dX4_isGraded_27 : decode cX4_isGraded 27 = .ok (.ishr, 1) := by decide +kernel
theorem dX4_isGraded_28 : decode cX4_isGraded 28 = .ok (.iconst 1, 1) := by decide +kernel
theorem dX4_isGraded_29 : decode cX4_isGraded 29 = .ok (.iand, 1) := by decide +kernel
theorem dX4_isGraded_30 : decode cX4_isGraded 30 = .ok (.iconst 1, 1) := by decide +kernel
theorem dX4_isGraded_31 : decode cX4_isGraded 31 = .ok (.if_icmp .ne 22, 3) := by decide +kernel
theorem dX4_isGraded_34 : decode cX4_isGraded 34 = .ok (.aload_n 0, 1) := by decide +kernel
theorem dX4_isGraded_35 : decode cX4_isGraded 35 = .ok (.getfield 28, 3) := by decide +kernel
theorem dX4_isGraded_38 : decode cX4_isGraded 38 = .ok (.iload_n 2, 1) := by decide +kernel
theorem dX4_isGraded_39 : decode cX4_isGraded 39 = .ok (.iaload, 1) := by decide +kernel
theorem dX4_isGraded_40 : decode cX4_isGraded 40 = .ok (.iconst 1, 1) := by decide +kernel
theorem dX4_isGraded_41 : decode cX4_isGraded 41 = .ok (.iadd, 1) := by decide +kernel
theorem dX4_isGraded_42 : decode cX4_isGraded 42 = .ok (.aload_n 0, 1) := by decide +kernel
theorem dX4_isGraded_43 : decode cX4_isGraded 43 = .ok (.getfield 28, 3) := by decide +kernel
theorem dX4_isGraded_46 : decode cX4_isGraded 46 = .ok (.iload_n 1, 1) := by decide +kernel
theorem dX4_isGraded_47 : decode cX4_isGraded 47 = .ok (.iaload, 1) := by decide +kernel
theorem dX4_isGraded_48 : decode cX4_isGraded 48 = .ok (.if_icmp .eq 5, 3) := by decide +kernel
theorem dX4_isGraded_51 : decode cX4_isGraded 51 = .ok (.iconst 0, 1) := by decide +kernel
theorem dX4_isGraded_52 : decode cX4_isGraded 52 = .ok (.ireturn, 1) := by decide +kernel
theorem dX4_isGraded_53 : decode cX4_isGraded 53 = .ok (.iinc 2 1, 3) := by decide +kernel
theorem dX4_isGraded_56 : decode cX4_isGraded 56 = .ok (.goto (-44), 3) := by decide +kernel
theorem dX4_isGraded_59 : decode cX4_isGraded 59 = .ok (.iinc 1 1, 3) := by decide +kernel
theorem dX4_isGraded_62 : decode cX4_isGraded 62 = .ok (.goto (-60), 3) := by decide +kernel
theorem dX4_isGraded_65 : decode cX4_isGraded 65 = .ok (.iconst 1, 1) := by decide +kernel
theorem dX4_isGraded_66 : decode cX4_isGraded 66 = .ok (.ireturn, 1) := by decide +kernel
theorem dX4_moebiusFrom_0 : decode cX4_moebiusFrom 0 = .ok (.iconst 0, 1) := by decide +kernel
theorem dX4_moebiusFrom_1 : decode cX4_moebiusFrom 1 = .ok (.istore_n 3, 1) := by decide +kernel
theorem dX4_moebiusFrom_2 : decode cX4_moebiusFrom 2 = .ok (.iload_n 3, 1) := by decide +kernel
theorem dX4_moebiusFrom_3 : decode cX4_moebiusFrom 3 = .ok (.aload_n 0, 1) := by decide +kernel
theorem dX4_moebiusFrom_4 : decode cX4_moebiusFrom 4 = .ok (.getfield 9, 3) := by decide +kernel
theorem dX4_moebiusFrom_7 : decode cX4_moebiusFrom 7 = .ok (.if_icmp .ge 50, 3) := by decide +kernel
theorem dX4_moebiusFrom_10 : decode cX4_moebiusFrom 10 = .ok (.aload_n 0, 1) := by decide +kernel
theorem dX4_moebiusFrom_11 : decode cX4_moebiusFrom 11 = .ok (.getfield 31, 3) := by decide +kernel
theorem dX4_moebiusFrom_14 : decode cX4_moebiusFrom 14 = .ok (.iload_n 3, 1) := by decide +kernel
theorem dX4_moebiusFrom_15 : decode cX4_moebiusFrom 15 = .ok (.iaload, 1) := by decide +kernel
theorem dX4_moebiusFrom_16 : decode cX4_moebiusFrom 16 = .ok (.istore 4, 2) := by decide +kernel
theorem dX4_moebiusFrom_18 : decode cX4_moebiusFrom 18 = .ok (.aload_n 2, 1) := by decide +kernel
theorem dX4_moebiusFrom_19 : decode cX4_moebiusFrom 19 = .ok (.iload 4, 2) := by decide +kernel
theorem dX4_moebiusFrom_21 : decode cX4_moebiusFrom 21 = .ok (.iload 4, 2) := by decide +kernel
theorem dX4_moebiusFrom_23 : decode cX4_moebiusFrom 23 = .ok (.iload_n 1, 1) := by decide +kernel
theorem dX4_moebiusFrom_24 : decode cX4_moebiusFrom 24 = .ok (.if_icmp .ne 7, 3) := by decide +kernel
theorem dX4_moebiusFrom_27 : decode cX4_moebiusFrom 27 = .ok (.lconst 1, 1) := by decide +kernel
theorem dX4_moebiusFrom_28 : decode cX4_moebiusFrom 28 = .ok (.goto 22, 3) := by decide +kernel
theorem dX4_moebiusFrom_31 : decode cX4_moebiusFrom 31 = .ok (.aload_n 0, 1) := by decide +kernel
theorem dX4_moebiusFrom_32 : decode cX4_moebiusFrom 32 = .ok (.aload_n 2, 1) := by decide +kernel
theorem dX4_moebiusFrom_33 : decode cX4_moebiusFrom 33 = .ok (.aload_n 0, 1) := by decide +kernel
theorem dX4_moebiusFrom_34 : decode cX4_moebiusFrom 34 = .ok (.iload_n 1, 1) := by decide +kernel
theorem dX4_moebiusFrom_35 : decode cX4_moebiusFrom 35 = .ok (.invokevirtual 53, 3) := by decide +kernel
theorem dX4_moebiusFrom_38 : decode cX4_moebiusFrom 38 = .ok (.aload_n 0, 1) := by decide +kernel
theorem dX4_moebiusFrom_39 : decode cX4_moebiusFrom 39 = .ok (.getfield 19, 3) := by decide +kernel
theorem dX4_moebiusFrom_42 : decode cX4_moebiusFrom 42 = .ok (.iload 4, 2) := by decide +kernel
theorem dX4_moebiusFrom_44 : decode cX4_moebiusFrom 44 = .ok (.iaload, 1) := by decide +kernel
theorem dX4_moebiusFrom_45 : decode cX4_moebiusFrom 45 = .ok (.iand, 1) := by decide +kernel
theorem dX4_moebiusFrom_46 : decode cX4_moebiusFrom 46 = .ok (.invokevirtual 115, 3) := by decide +kernel
theorem dX4_moebiusFrom_49 : decode cX4_moebiusFrom 49 = .ok (.lneg, 1) := by decide +kernel
theorem dX4_moebiusFrom_50 : decode cX4_moebiusFrom 50 = .ok (.lastore, 1) := by decide +kernel
theorem dX4_moebiusFrom_51 : decode cX4_moebiusFrom 51 = .ok (.iinc 3 1, 3) := by decide +kernel
theorem dX4_moebiusFrom_54 : decode cX4_moebiusFrom 54 = .ok (.goto (-52), 3) := by decide +kernel
theorem dX4_moebiusFrom_57 : decode cX4_moebiusFrom 57 = .ok (.return_, 1) := by decide +kernel
theorem dX4_moebiusTo_0 : decode cX4_moebiusTo 0 = .ok (.aload_n 0, 1) := by decide +kernel
theorem dX4_moebiusTo_1 : decode cX4_moebiusTo 1 = .ok (.getfield 9, 3) := by decide +kernel
theorem dX4_moebiusTo_4 : decode cX4_moebiusTo 4 = .ok (.iconst 1, 1) := by decide +kernel
theorem dX4_moebiusTo_5 : decode cX4_moebiusTo 5 = .ok (.isub, 1) := by decide +kernel
theorem dX4_moebiusTo_6 : decode cX4_moebiusTo 6 = .ok (.istore_n 3, 1) := by decide +kernel
theorem dX4_moebiusTo_7 : decode cX4_moebiusTo 7 = .ok (.iload_n 3, 1) := by decide +kernel
theorem dX4_moebiusTo_8 : decode cX4_moebiusTo 8 = .ok (.ifCond .lt 50, 3) := by decide +kernel
theorem dX4_moebiusTo_11 : decode cX4_moebiusTo 11 = .ok (.aload_n 0, 1) := by decide +kernel
theorem dX4_moebiusTo_12 : decode cX4_moebiusTo 12 = .ok (.getfield 31, 3) := by decide +kernel
theorem dX4_moebiusTo_15 : decode cX4_moebiusTo 15 = .ok (.iload_n 3, 1) := by decide +kernel
theorem dX4_moebiusTo_16 : decode cX4_moebiusTo 16 = .ok (.iaload, 1) := by decide +kernel
theorem dX4_moebiusTo_17 : decode cX4_moebiusTo 17 = .ok (.istore 4, 2) := by decide +kernel
theorem dX4_moebiusTo_19 : decode cX4_moebiusTo 19 = .ok (.aload_n 2, 1) := by decide +kernel
theorem dX4_moebiusTo_20 : decode cX4_moebiusTo 20 = .ok (.iload 4, 2) := by decide +kernel
theorem dX4_moebiusTo_22 : decode cX4_moebiusTo 22 = .ok (.iload 4, 2) := by decide +kernel
theorem dX4_moebiusTo_24 : decode cX4_moebiusTo 24 = .ok (.iload_n 1, 1) := by decide +kernel
theorem dX4_moebiusTo_25 : decode cX4_moebiusTo 25 = .ok (.if_icmp .ne 7, 3) := by decide +kernel
theorem dX4_moebiusTo_28 : decode cX4_moebiusTo 28 = .ok (.lconst 1, 1) := by decide +kernel
theorem dX4_moebiusTo_29 : decode cX4_moebiusTo 29 = .ok (.goto 22, 3) := by decide +kernel
theorem dX4_moebiusTo_32 : decode cX4_moebiusTo 32 = .ok (.aload_n 0, 1) := by decide +kernel
theorem dX4_moebiusTo_33 : decode cX4_moebiusTo 33 = .ok (.aload_n 2, 1) := by decide +kernel
theorem dX4_moebiusTo_34 : decode cX4_moebiusTo 34 = .ok (.aload_n 0, 1) := by decide +kernel
theorem dX4_moebiusTo_35 : decode cX4_moebiusTo 35 = .ok (.iload_n 1, 1) := by decide +kernel
theorem dX4_moebiusTo_36 : decode cX4_moebiusTo 36 = .ok (.invokevirtual 103, 3) := by decide +kernel
theorem dX4_moebiusTo_39 : decode cX4_moebiusTo 39 = .ok (.aload_n 0, 1) := by decide +kernel
theorem dX4_moebiusTo_40 : decode cX4_moebiusTo 40 = .ok (.getfield 15, 3) := by decide +kernel
theorem dX4_moebiusTo_43 : decode cX4_moebiusTo 43 = .ok (.iload 4, 2) := by decide +kernel
theorem dX4_moebiusTo_45 : decode cX4_moebiusTo 45 = .ok (.iaload, 1) := by decide +kernel
theorem dX4_moebiusTo_46 : decode cX4_moebiusTo 46 = .ok (.iand, 1) := by decide +kernel
theorem dX4_moebiusTo_47 : decode cX4_moebiusTo 47 = .ok (.invokevirtual 115, 3) := by decide +kernel
theorem dX4_moebiusTo_50 : decode cX4_moebiusTo 50 = .ok (.lneg, 1) := by decide +kernel
theorem dX4_moebiusTo_51 : decode cX4_moebiusTo 51 = .ok (.lastore, 1) := by decide +kernel
theorem dX4_moebiusTo_52 : decode cX4_moebiusTo 52 = .ok (.iinc 3 (-1), 3) := by decide +kernel
theorem dX4_moebiusTo_55 : decode cX4_moebiusTo 55 = .ok (.goto (-48), 3) := by decide +kernel
theorem dX4_moebiusTo_58 : decode cX4_moebiusTo 58 = .ok (.return_, 1) := by decide +kernel
theorem dX4_sumOf_0 : decode cX4_sumOf 0 = .ok (.lconst 0, 1) := by decide +kernel
theorem dX4_sumOf_1 : decode cX4_sumOf 1 = .ok (.lstore_n 3, 1) := by decide +kernel
theorem dX4_sumOf_2 : decode cX4_sumOf 2 = .ok (.iconst 0, 1) := by decide +kernel
theorem dX4_sumOf_3 : decode cX4_sumOf 3 = .ok (.istore 5, 2) := by decide +kernel
theorem dX4_sumOf_5 : decode cX4_sumOf 5 = .ok (.iload 5, 2) := by decide +kernel
theorem dX4_sumOf_7 : decode cX4_sumOf 7 = .ok (.aload_n 0, 1) := by decide +kernel
theorem dX4_sumOf_8 : decode cX4_sumOf 8 = .ok (.getfield 9, 3) := by decide +kernel
theorem dX4_sumOf_11 : decode cX4_sumOf 11 = .ok (.if_icmp .ge 33, 3) := by decide +kernel
theorem dX4_sumOf_14 : decode cX4_sumOf 14 = .ok (.iload 5, 2) := by decide +kernel
theorem dX4_sumOf_16 : decode cX4_sumOf 16 = .ok (.aload_n 1, 1) := by decide +kernel
theorem dX4_sumOf_17 : decode cX4_sumOf 17 = .ok (.arraylength, 1) := by decide +kernel
theorem dX4_sumOf_18 : decode cX4_sumOf 18 = .ok (.if_icmp .ge 26, 3) := by decide +kernel
theorem dX4_sumOf_21 : decode cX4_sumOf 21 = .ok (.iload_n 2, 1) := by decide +kernel
theorem dX4_sumOf_22 : decode cX4_sumOf 22 = .ok (.iload 5, 2) := by decide +kernel
theorem dX4_sumOf_24 : decode cX4_sumOf 24 = .ok (.ishr, 1) := by decide +kernel
theorem dX4_sumOf_25 : decode cX4_sumOf 25 = .ok (.iconst 1, 1) := by decide +kernel
theorem dX4_sumOf_26 : decode cX4_sumOf 26 = .ok (.iand, 1) := by decide +kernel
theorem dX4_sumOf_27 : decode cX4_sumOf 27 = .ok (.iconst 1, 1) := by decide +kernel
theorem dX4_sumOf_28 : decode cX4_sumOf 28 = .ok (.if_icmp .ne 10, 3) := by decide +kernel
theorem dX4_sumOf_31 : decode cX4_sumOf 31 = .ok (.lload_n 3, 1) := by decide +kernel
theorem dX4_sumOf_32 : decode cX4_sumOf 32 = .ok (.aload_n 1, 1) := by decide +kernel
theorem dX4_sumOf_33 : decode cX4_sumOf 33 = .ok (.iload 5, 2) := by decide +kernel
theorem dX4_sumOf_35 : decode cX4_sumOf 35 = .ok (.laload, 1) := by decide +kernel
theorem dX4_sumOf_36 : decode cX4_sumOf 36 = .ok (.ladd, 1) := by decide +kernel
theorem dX4_sumOf_37 : decode cX4_sumOf 37 = .ok (.lstore_n 3, 1) := by decide +kernel
theorem dX4_sumOf_38 : decode cX4_sumOf 38 = .ok (.iinc 5 1, 3) := by decide +kernel
theorem dX4_sumOf_41 : decode cX4_sumOf 41 = .ok (.goto (-36), 3) := by decide +kernel
theorem dX4_sumOf_44 : decode cX4_sumOf 44 = .ok (.lload_n 3, 1) := by decide +kernel
theorem dX4_sumOf_45 : decode cX4_sumOf 45 = .ok (.lreturn, 1) := by decide +kernel
theorem dX5_init_0 : decode cX5_init 0 = .ok (.aload_n 0, 1) := by decide +kernel
theorem dX5_init_1 : decode cX5_init 1 = .ok (.invokespecial 3, 3) := by decide +kernel
theorem dX5_init_4 : decode cX5_init 4 = .ok (.aload_n 0, 1) := by decide +kernel
theorem dX5_init_5 : decode cX5_init 5 = .ok (.bipush 16, 2) := by decide +kernel
theorem dX5_init_7 : decode cX5_init 7 = .ok (.newarray .long, 2) := by decide +kernel
theorem dX5_init_9 : decode cX5_init 9 = .ok (.putfield 9, 3) := by decide +kernel
theorem dX5_init_12 : decode cX5_init 12 = .ok (.aload_n 0, 1) := by decide +kernel
theorem dX5_init_13 : decode cX5_init 13 = .ok (.bipush 16, 2) := by decide +kernel
theorem dX5_init_15 : decode cX5_init 15 = .ok (.newarray .long, 2) := by decide +kernel
theorem dX5_init_17 : decode cX5_init 17 = .ok (.putfield 15, 3) := by decide +kernel
theorem dX5_init_20 : decode cX5_init 20 = .ok (.aload_n 0, 1) := by decide +kernel
theorem dX5_init_21 : decode cX5_init 21 = .ok (.aload_n 1, 1) := by decide +kernel
theorem dX5_init_22 : decode cX5_init 22 = .ok (.putfield 18, 3) := by decide +kernel
theorem dX5_init_25 : decode cX5_init 25 = .ok (.return_, 1) := by decide +kernel
theorem dX5_start_0 : decode cX5_start 0 = .ok (.aload_n 0, 1) := by decide +kernel
theorem dX5_start_1 : decode cX5_start 1 = .ok (.getfield 9, 3) := by decide +kernel
theorem dX5_start_4 : decode cX5_start 4 = .ok (.lconst 0, 1) := by decide +kernel
theorem dX5_start_5 : decode cX5_start 5 = .ok (.invokestatic 22, 3) := by decide +kernel
theorem dX5_start_8 : decode cX5_start 8 = .ok (.aload_n 0, 1) := by decide +kernel
theorem dX5_start_9 : decode cX5_start 9 = .ok (.getfield 9, 3) := by decide +kernel
theorem dX5_start_12 : decode cX5_start 12 = .ok (.iload_n 1, 1) := by decide +kernel
theorem dX5_start_13 : decode cX5_start 13 = .ok (.lconst 1, 1) := by decide +kernel
theorem dX5_start_14 : decode cX5_start 14 = .ok (.lastore, 1) := by decide +kernel
theorem dX5_start_15 : decode cX5_start 15 = .ok (.return_, 1) := by decide +kernel
theorem dX5_step_0 : decode cX5_step 0 = .ok (.iconst 0, 1) := by decide +kernel
theorem dX5_step_1 : decode cX5_step 1 = .ok (.istore_n 3, 1) := by decide +kernel
theorem dX5_step_2 : decode cX5_step 2 = .ok (.iload_n 3, 1) := by decide +kernel
theorem dX5_step_3 : decode cX5_step 3 = .ok (.aload_n 0, 1) := by decide +kernel
theorem dX5_step_4 : decode cX5_step 4 = .ok (.getfield 18, 3) := by decide +kernel
theorem dX5_step_7 : decode cX5_step 7 = .ok (.getfield 28, 3) := by decide +kernel
theorem dX5_step_10 : decode cX5_step 10 = .ok (.if_icmp .ge 78, 3) := by decide +kernel
theorem dX5_step_13 : decode cX5_step 13 = .ok (.iload_n 2, 1) := by decide +kernel
theorem dX5_step_14 : decode cX5_step 14 = .ok (.ifCond .eq 12, 3) := by decide +kernel
theorem dX5_step_17 : decode cX5_step 17 = .ok (.aload_n 0, 1) := by decide +kernel
theorem dX5_step_18 : decode cX5_step 18 = .ok (.getfield 9, 3) := by decide +kernel
theorem dX5_step_21 : decode cX5_step 21 = .ok (.iload_n 3, 1) := by decide +kernel
theorem dX5_step_22 : decode cX5_step 22 = .ok (.laload, 1) := by decide +kernel
theorem dX5_step_23 : decode cX5_step 23 = .ok (.goto 4, 3) := by decide +kernel
theorem dX5_step_26 : decode cX5_step 26 = .ok (.lconst 0, 1) := by decide +kernel
theorem dX5_step_27 : decode cX5_step 27 = .ok (.lstore 4, 2) := by decide +kernel
theorem dX5_step_29 : decode cX5_step 29 = .ok (.iconst 0, 1) := by decide +kernel
theorem dX5_step_30 : decode cX5_step 30 = .ok (.istore 6, 2) := by decide +kernel
theorem dX5_step_32 : decode cX5_step 32 = .ok (.iload 6, 2) := by decide +kernel
theorem dX5_step_34 : decode cX5_step 34 = .ok (.aload_n 0, 1) := by decide +kernel
theorem dX5_step_35 : decode cX5_step 35 = .ok (.getfield 18, 3) := by decide +kernel
theorem dX5_step_38 : decode cX5_step 38 = .ok (.getfield 28, 3) := by decide +kernel
theorem dX5_step_41 : decode cX5_step 41 = .ok (.if_icmp .ge 33, 3) := by decide +kernel
theorem dX5_step_44 : decode cX5_step 44 = .ok (.aload_n 1, 1) := by decide +kernel
theorem dX5_step_45 : decode cX5_step 45 = .ok (.iload_n 3, 1) := by decide +kernel
theorem dX5_step_46 : decode cX5_step 46 = .ok (.iaload, 1) := by decide +kernel
theorem dX5_step_47 : decode cX5_step 47 = .ok (.iload 6, 2) := by decide +kernel
theorem dX5_step_49 : decode cX5_step 49 = .ok (.ishr, 1) := by decide +kernel
theorem dX5_step_50 : decode cX5_step 50 = .ok (.iconst 1, 1) := by decide +kernel
theorem dX5_step_51 : decode cX5_step 51 = .ok (.iand, 1) := by decide +kernel
theorem dX5_step_52 : decode cX5_step 52 = .ok (.iconst 1, 1) := by decide +kernel
theorem dX5_step_53 : decode cX5_step 53 = .ok (.if_icmp .ne 15, 3) := by decide +kernel
theorem dX5_step_56 : decode cX5_step 56 = .ok (.lload 4, 2) := by decide +kernel
theorem dX5_step_58 : decode cX5_step 58 = .ok (.aload_n 0, 1) := by decide +kernel
theorem dX5_step_59 : decode cX5_step 59 = .ok (.getfield 9, 3) := by decide +kernel
theorem dX5_step_62 : decode cX5_step 62 = .ok (.iload 6, 2) := by decide +kernel
theorem dX5_step_64 : decode cX5_step 64 = .ok (.laload, 1) := by decide +kernel
theorem dX5_step_65 : decode cX5_step 65 = .ok (.ladd, 1) := by decide +kernel
theorem dX5_step_66 : decode cX5_step 66 = .ok (.lstore 4, 2) := by decide +kernel
theorem dX5_step_68 : decode cX5_step 68 = .ok (.iinc 6 1, 3) := by decide +kernel
theorem dX5_step_71 : decode cX5_step 71 = .ok (.goto (-39), 3) := by decide +kernel
theorem dX5_step_74 : decode cX5_step 74 = .ok (.aload_n 0, 1) := by decide +kernel
theorem dX5_step_75 : decode cX5_step 75 = .ok (.getfield 15, 3) := by decide +kernel
theorem dX5_step_78 : decode cX5_step 78 = .ok (.iload_n 3, 1) := by decide +kernel
theorem dX5_step_79 : decode cX5_step 79 = .ok (.lload 4, 2) := by decide +kernel
theorem dX5_step_81 : decode cX5_step 81 = .ok (.lastore, 1) := by decide +kernel
theorem dX5_step_82 : decode cX5_step 82 = .ok (.iinc 3 1, 3) := by decide +kernel
theorem dX5_step_85 : decode cX5_step 85 = .ok (.goto (-83), 3) := by decide +kernel
theorem dX5_step_88 : decode cX5_step 88 = .ok (.aload_n 0, 1) := by decide +kernel
theorem dX5_step_89 : decode cX5_step 89 = .ok (.getfield 15, 3) := by decide +kernel
theorem dX5_step_92 : decode cX5_step 92 = .ok (.iconst 0, 1) := by decide +kernel
theorem dX5_step_93 : decode cX5_step 93 = .ok (.aload_n 0, 1) := by decide +kernel
theorem dX5_step_94 : decode cX5_step 94 = .ok (.getfield 9, 3) := by decide +kernel
theorem dX5_step_97 : decode cX5_step 97 = .ok (.iconst 0, 1) := by decide +kernel
theorem dX5_step_98 : decode cX5_step 98 = .ok (.bipush 16, 2) := by decide +kernel
theorem dX5_step_100 : decode cX5_step 100 = .ok (.invokestatic 34, 3) := by decide +kernel
theorem dX5_step_103 : decode cX5_step 103 = .ok (.return_, 1) := by decide +kernel
theorem dX5_chainsOf_0 : decode cX5_chainsOf 0 = .ok (.aload_n 0, 1) := by decide +kernel
theorem dX5_chainsOf_1 : decode cX5_chainsOf 1 = .ok (.iload_n 1, 1) := by decide +kernel
theorem dX5_chainsOf_2 : decode cX5_chainsOf 2 = .ok (.invokevirtual 40, 3) := by decide +kernel
theorem dX5_chainsOf_5 : decode cX5_chainsOf 5 = .ok (.iconst 0, 1) := by decide +kernel
theorem dX5_chainsOf_6 : decode cX5_chainsOf 6 = .ok (.istore 4, 2) := by decide +kernel
theorem dX5_chainsOf_8 : decode cX5_chainsOf 8 = .ok (.iload 4, 2) := by decide +kernel
theorem dX5_chainsOf_10 : decode cX5_chainsOf 10 = .ok (.iload_n 3, 1) := by decide +kernel
theorem dX5_chainsOf_11 : decode cX5_chainsOf 11 = .ok (.if_icmp .ge 21, 3) := by decide +kernel
theorem dX5_chainsOf_14 : decode cX5_chainsOf 14 = .ok (.aload_n 0, 1) := by decide +kernel
theorem dX5_chainsOf_15 : decode cX5_chainsOf 15 = .ok (.aload_n 0, 1) := by decide +kernel
theorem dX5_chainsOf_16 : decode cX5_chainsOf 16 = .ok (.getfield 18, 3) := by decide +kernel
theorem dX5_chainsOf_19 : decode cX5_chainsOf 19 = .ok (.getfield 44, 3) := by decide +kernel
theorem dX5_chainsOf_22 : decode cX5_chainsOf 22 = .ok (.iconst 0, 1) := by decide +kernel
theorem dX5_chainsOf_23 : decode cX5_chainsOf 23 = .ok (.invokevirtual 48, 3) := by decide +kernel
theorem dX5_chainsOf_26 : decode cX5_chainsOf 26 = .ok (.iinc 4 1, 3) := by decide +kernel
theorem dX5_chainsOf_29 : decode cX5_chainsOf 29 = .ok (.goto (-21), 3) := by decide +kernel
theorem dX5_chainsOf_32 : decode cX5_chainsOf 32 = .ok (.aload_n 0, 1) := by decide +kernel
theorem dX5_chainsOf_33 : decode cX5_chainsOf 33 = .ok (.getfield 9, 3) := by decide +kernel
theorem dX5_chainsOf_36 : decode cX5_chainsOf 36 = .ok (.iload_n 2, 1) := by decide +kernel
theorem dX5_chainsOf_37 : decode cX5_chainsOf 37 = .ok (.laload, 1) := by decide +kernel
theorem dX5_chainsOf_38 : decode cX5_chainsOf 38 = .ok (.lreturn, 1) := by decide +kernel
theorem dX5_chainsOfAll_0 : decode cX5_chainsOfAll 0 = .ok (.aload_n 0, 1) := by decide +kernel
theorem dX5_chainsOfAll_1 : decode cX5_chainsOfAll 1 = .ok (.iload_n 1, 1) := by decide +kernel
theorem dX5_chainsOfAll_2 : decode cX5_chainsOfAll 2 = .ok (.invokevirtual 40, 3) := by decide +kernel
theorem dX5_chainsOfAll_5 : decode cX5_chainsOfAll 5 = .ok (.aload_n 0, 1) := by decide +kernel
theorem dX5_chainsOfAll_6 : decode cX5_chainsOfAll 6 = .ok (.getfield 9, 3) := by decide +kernel
theorem dX5_chainsOfAll_9 : decode cX5_chainsOfAll 9 = .ok (.iload_n 2, 1) := by decide +kernel
theorem dX5_chainsOfAll_10 : decode cX5_chainsOfAll 10 = .ok (.laload, 1) := by decide +kernel
theorem dX5_chainsOfAll_11 : decode cX5_chainsOfAll 11 = .ok (.lstore 5, 2) := by decide +kernel
theorem dX5_chainsOfAll_13 : decode cX5_chainsOfAll 13 = .ok (.lconst 1, 1) := by decide +kernel
theorem dX5_chainsOfAll_14 : decode cX5_chainsOfAll 14 = .ok (.lstore 7, 2) := by decide +kernel
theorem dX5_chainsOfAll_16 : decode cX5_chainsOfAll 16 = .ok (.iconst 1, 1) := by decide +kernel
theorem dX5_chainsOfAll_17 : decode cX5_chainsOfAll 17 = .ok (.istore 9, 2) := by decide +kernel
theorem dX5_chainsOfAll_19 : decode cX5_chainsOfAll 19 = .ok (.iload 9, 2) := by decide +kernel
theorem dX5_chainsOfAll_21 : decode cX5_chainsOfAll 21 = .ok (.aload_n 0, 1) := by decide +kernel
theorem dX5_chainsOfAll_22 : decode cX5_chainsOfAll 22 = .ok (.getfield 18, 3) := by decide +kernel
theorem dX5_chainsOfAll_25 : decode cX5_chainsOfAll 25 = .ok (.getfield 28, 3) := by decide +kernel
theorem dX5_chainsOfAll_28 : decode cX5_chainsOfAll 28 = .ok (.if_icmp .ge 37, 3) := by decide +kernel
theorem dX5_chainsOfAll_31 : decode cX5_chainsOfAll 31 = .ok (.aload_n 0, 1) := by decide +kernel
theorem dX5_chainsOfAll_32 : decode cX5_chainsOfAll 32 = .ok (.aload_n 3, 1) := by decide +kernel
theorem dX5_chainsOfAll_33 : decode cX5_chainsOfAll 33 = .ok (.iconst 0, 1) := by decide +kernel
theorem dX5_chainsOfAll_34 : decode cX5_chainsOfAll 34 = .ok (.invokevirtual 48, 3) := by decide +kernel
theorem dX5_chainsOfAll_37 : decode cX5_chainsOfAll 37 = .ok (.lload 7, 2) := by decide +kernel
theorem dX5_chainsOfAll_39 : decode cX5_chainsOfAll 39 = .ok (.iload 4, 2) := by decide +kernel
theorem dX5_chainsOfAll_41 : decode cX5_chainsOfAll 41 = .ok (.i2l, 1) := by decide +kernel
theorem dX5_chainsOfAll_42 : decode cX5_chainsOfAll 42 = .ok (.lmul, 1) := by decide +kernel
theorem dX5_chainsOfAll_43 : decode cX5_chainsOfAll 43 = .ok (.lstore 7, 2) := by decide +kernel
theorem dX5_chainsOfAll_45 : decode cX5_chainsOfAll 45 = .ok (.lload 5, 2) := by decide +kernel
theorem dX5_chainsOfAll_47 : decode cX5_chainsOfAll 47 = .ok (.lload 7, 2) := by decide +kernel
theorem dX5_chainsOfAll_49 : decode cX5_chainsOfAll 49 = .ok (.aload_n 0, 1) := by decide +kernel
theorem dX5_chainsOfAll_50 : decode cX5_chainsOfAll 50 = .ok (.getfield 9, 3) := by decide +kernel
theorem dX5_chainsOfAll_53 : decode cX5_chainsOfAll 53 = .ok (.iload_n 2, 1) := by decide +kernel
theorem dX5_chainsOfAll_54 : decode cX5_chainsOfAll 54 = .ok (.laload, 1) := by decide +kernel
theorem dX5_chainsOfAll_55 : decode cX5_chainsOfAll 55 = .ok (.lmul, 1) := by decide +kernel
theorem dX5_chainsOfAll_56 : decode cX5_chainsOfAll 56 = .ok (.ladd, 1) := by decide +kernel
theorem dX5_chainsOfAll_57 : decode cX5_chainsOfAll 57 = .ok (.lstore 5, 2) := by decide +kernel
theorem dX5_chainsOfAll_59 : decode cX5_chainsOfAll 59 = .ok (.iinc 9 1, 3) := by decide +kernel
theorem dX5_chainsOfAll_62 : decode cX5_chainsOfAll 62 = .ok (.goto (-43), 3) := by decide +kernel
theorem dX5_chainsOfAll_65 : decode cX5_chainsOfAll 65 = .ok (.lload 5, 2) := by decide +kernel
theorem dX5_chainsOfAll_67 : decode cX5_chainsOfAll 67 = .ok (.lreturn, 1) := by decide +kernel
theorem dX5_multichainsOf_0 : decode cX5_multichainsOf 0 = .ok (.aload_n 0, 1) := by decide +kernel
theorem dX5_multichainsOf_1 : decode cX5_multichainsOf 1 = .ok (.iload_n 1, 1) := by decide +kernel
theorem dX5_multichainsOf_2 : decode cX5_multichainsOf 2 = .ok (.invokevirtual 40, 3) := by decide +kernel
theorem dX5_multichainsOf_5 : decode cX5_multichainsOf 5 = .ok (.iconst 0, 1) := by decide +kernel
theorem dX5_multichainsOf_6 : decode cX5_multichainsOf 6 = .ok (.istore 4, 2) := by decide +kernel
theorem dX5_multichainsOf_8 : decode cX5_multichainsOf 8 = .ok (.iload 4, 2) := by decide +kernel
theorem dX5_multichainsOf_10 : decode cX5_multichainsOf 10 = .ok (.iload_n 3, 1) := by decide +kernel
theorem dX5_multichainsOf_11 : decode cX5_multichainsOf 11 = .ok (.if_icmp .ge 21, 3) := by decide +kernel
theorem dX5_multichainsOf_14 : decode cX5_multichainsOf 14 = .ok (.aload_n 0, 1) := by decide +kernel
theorem dX5_multichainsOf_15 : decode cX5_multichainsOf 15 = .ok (.aload_n 0, 1) := by decide +kernel
theorem dX5_multichainsOf_16 : decode cX5_multichainsOf 16 = .ok (.getfield 18, 3) := by decide +kernel
theorem dX5_multichainsOf_19 : decode cX5_multichainsOf 19 = .ok (.getfield 44, 3) := by decide +kernel
theorem dX5_multichainsOf_22 : decode cX5_multichainsOf 22 = .ok (.iconst 1, 1) := by decide +kernel
theorem dX5_multichainsOf_23 : decode cX5_multichainsOf 23 = .ok (.invokevirtual 48, 3) := by decide +kernel
theorem dX5_multichainsOf_26 : decode cX5_multichainsOf 26 = .ok (.iinc 4 1, 3) := by decide +kernel
theorem dX5_multichainsOf_29 : decode cX5_multichainsOf 29 = .ok (.goto (-21), 3) := by decide +kernel
theorem dX5_multichainsOf_32 : decode cX5_multichainsOf 32 = .ok (.aload_n 0, 1) := by decide +kernel
theorem dX5_multichainsOf_33 : decode cX5_multichainsOf 33 = .ok (.getfield 9, 3) := by decide +kernel
theorem dX5_multichainsOf_36 : decode cX5_multichainsOf 36 = .ok (.iload_n 2, 1) := by decide +kernel
theorem dX5_multichainsOf_37 : decode cX5_multichainsOf 37 = .ok (.laload, 1) := by decide +kernel
theorem dX5_multichainsOf_38 : decode cX5_multichainsOf 38 = .ok (.lreturn, 1) := by decide +kernel
theorem dX5_crossCut_0 : decode cX5_crossCut 0 = .ok (.aload_n 0, 1) := by decide +kernel
theorem dX5_crossCut_1 : decode cX5_crossCut 1 = .ok (.getfield 18, 3) := by decide +kernel
theorem dX5_crossCut_4 : decode cX5_crossCut 4 = .ok (.iload_n 1, 1) := by decide +kernel
theorem dX5_crossCut_5 : decode cX5_crossCut 5 = .ok (.iload_n 2, 1) := by decide +kernel
theorem dX5_crossCut_6 : decode cX5_crossCut 6 = .ok (.invokevirtual 52, 3) := by decide +kernel
theorem dX5_crossCut_9 : decode cX5_crossCut 9 = .ok (.istore_n 3, 1) := by decide +kernel
theorem dX5_crossCut_10 : decode cX5_crossCut 10 = .ok (.aload_n 0, 1) := by decide +kernel
theorem dX5_crossCut_11 : decode cX5_crossCut 11 = .ok (.getfield 18, 3) := by decide +kernel
theorem dX5_crossCut_14 : decode cX5_crossCut 14 = .ok (.getfield 56, 3) := by decide +kernel
theorem dX5_crossCut_17 : decode cX5_crossCut 17 = .ok (.iload_n 1, 1) := by decide +kernel
theorem dX5_crossCut_18 : decode cX5_crossCut 18 = .ok (.iaload, 1) := by decide +kernel
theorem dX5_crossCut_19 : decode cX5_crossCut 19 = .ok (.iload_n 3, 1) := by decide +kernel
theorem dX5_crossCut_20 : decode cX5_crossCut 20 = .ok (.iand, 1) := by decide +kernel
theorem dX5_crossCut_21 : decode cX5_crossCut 21 = .ok (.istore 4, 2) := by decide +kernel
theorem dX5_crossCut_23 : decode cX5_crossCut 23 = .ok (.aload_n 0, 1) := by decide +kernel
theorem dX5_crossCut_24 : decode cX5_crossCut 24 = .ok (.iload_n 1, 1) := by decide +kernel
theorem dX5_crossCut_25 : decode cX5_crossCut 25 = .ok (.invokevirtual 40, 3) := by decide +kernel
theorem dX5_crossCut_28 : decode cX5_crossCut 28 = .ok (.iconst 0, 1) := by decide +kernel
theorem dX5_crossCut_29 : decode cX5_crossCut 29 = .ok (.istore 5, 2) := by decide +kernel
theorem dX5_crossCut_31 : decode cX5_crossCut 31 = .ok (.iload 5, 2) := by decide +kernel
theorem dX5_crossCut_33 : decode cX5_crossCut 33 = .ok (.aload_n 0, 1) := by decide +kernel
theorem dX5_crossCut_34 : decode cX5_crossCut 34 = .ok (.getfield 18, 3) := by decide +kernel
theorem dX5_crossCut_37 : decode cX5_crossCut 37 = .ok (.getfield 28, 3) := by decide +kernel
theorem dX5_crossCut_40 : decode cX5_crossCut 40 = .ok (.if_icmp .ge 27, 3) := by decide +kernel
theorem dX5_crossCut_43 : decode cX5_crossCut 43 = .ok (.iload 4, 2) := by decide +kernel
theorem dX5_crossCut_45 : decode cX5_crossCut 45 = .ok (.iload 5, 2) := by decide +kernel
theorem dX5_crossCut_47 : decode cX5_crossCut 47 = .ok (.ishr, 1) := by decide +kernel
theorem dX5_crossCut_48 : decode cX5_crossCut 48 = .ok (.iconst 1, 1) := by decide +kernel
theorem dX5_crossCut_49 : decode cX5_crossCut 49 = .ok (.iand, 1) := by decide +kernel
theorem dX5_crossCut_50 : decode cX5_crossCut 50 = .ok (.iconst 1, 1) := by decide +kernel
theorem dX5_crossCut_51 : decode cX5_crossCut 51 = .ok (.if_icmp .ne 10, 3) := by decide +kernel
theorem dX5_crossCut_54 : decode cX5_crossCut 54 = .ok (.aload_n 0, 1) := by decide +kernel
theorem dX5_crossCut_55 : decode cX5_crossCut 55 = .ok (.iload 5, 2) := by decide +kernel
theorem dX5_crossCut_57 : decode cX5_crossCut 57 = .ok (.iload_n 3, 1) := by decide +kernel
theorem dX5_crossCut_58 : decode cX5_crossCut 58 = .ok (.invokevirtual 59, 3) := by decide +kernel
theorem dX5_crossCut_61 : decode cX5_crossCut 61 = .ok (.iinc 5 1, 3) := by decide +kernel
theorem dX5_crossCut_64 : decode cX5_crossCut 64 = .ok (.goto (-33), 3) := by decide +kernel
theorem dX5_crossCut_67 : decode cX5_crossCut 67 = .ok (.aload_n 0, 1) := by decide +kernel
theorem dX5_crossCut_68 : decode cX5_crossCut 68 = .ok (.getfield 9, 3) := by decide +kernel
theorem dX5_crossCut_71 : decode cX5_crossCut 71 = .ok (.iload_n 2, 1) := by decide +kernel
theorem dX5_crossCut_72 : decode cX5_crossCut 72 = .ok (.laload, 1) := by decide +kernel
theorem dX5_crossCut_73 : decode cX5_crossCut 73 = .ok (.lreturn, 1) := by decide +kernel
theorem dX5_takeAtom_0 : decode cX5_takeAtom 0 = .ok (.aload_n 0, 1) := by decide +kernel
theorem dX5_takeAtom_1 : decode cX5_takeAtom 1 = .ok (.getfield 9, 3) := by decide +kernel
theorem dX5_takeAtom_4 : decode cX5_takeAtom 4 = .ok (.iconst 0, 1) := by decide +kernel
theorem dX5_takeAtom_5 : decode cX5_takeAtom 5 = .ok (.aload_n 0, 1) := by decide +kernel
theorem dX5_takeAtom_6 : decode cX5_takeAtom 6 = .ok (.getfield 15, 3) := by decide +kernel
theorem dX5_takeAtom_9 : decode cX5_takeAtom 9 = .ok (.iconst 0, 1) := by decide +kernel
theorem dX5_takeAtom_10 : decode cX5_takeAtom 10 = .ok (.bipush 16, 2) := by decide +kernel
theorem dX5_takeAtom_12 : decode cX5_takeAtom 12 = .ok (.invokestatic 34, 3) := by decide +kernel
theorem dX5_takeAtom_15 : decode cX5_takeAtom 15 = .ok (.iconst 0, 1) := by decide +kernel
theorem dX5_takeAtom_16 : decode cX5_takeAtom 16 = .ok (.istore_n 3, 1) := by decide +kernel
theorem dX5_takeAtom_17 : decode cX5_takeAtom 17 = .ok (.iload_n 3, 1) := by decide +kernel
theorem dX5_takeAtom_18 : decode cX5_takeAtom 18 = .ok (.aload_n 0, 1) := by decide +kernel
theorem dX5_takeAtom_19 : decode cX5_takeAtom 19 = .ok (.getfield 18, 3) := by decide +kernel
theorem dX5_takeAtom_22 : decode cX5_takeAtom 22 = .ok (.getfield 28, 3) := by decide +kernel
theorem dX5_takeAtom_25 : decode cX5_takeAtom 25 = .ok (.if_icmp .ge 67, 3) := by decide +kernel
theorem dX5_takeAtom_28 : decode cX5_takeAtom 28 = .ok (.iload_n 2, 1) := by decide +kernel
theorem dX5_takeAtom_29 : decode cX5_takeAtom 29 = .ok (.iload_n 3, 1) := by decide +kernel
theorem dX5_takeAtom_30 : decode cX5_takeAtom 30 = .ok (.ishr, 1) := by decide +kernel
theorem dX5_takeAtom_31 : decode cX5_takeAtom 31 = .ok (.iconst 1, 1) := by decide +kernel
theorem dX5_takeAtom_32 : decode cX5_takeAtom 32 = .ok (.iand, 1) := by decide +kernel
theorem dX5_takeAtom_33 : decode cX5_takeAtom 33 = .ok (.iconst 1, 1) := by decide +kernel
theorem dX5_takeAtom_34 : decode cX5_takeAtom 34 = .ok (.if_icmp .ne 52, 3) := by decide +kernel
theorem dX5_takeAtom_37 : decode cX5_takeAtom 37 = .ok (.aload_n 0, 1) := by decide +kernel
theorem dX5_takeAtom_38 : decode cX5_takeAtom 38 = .ok (.getfield 18, 3) := by decide +kernel
theorem dX5_takeAtom_41 : decode cX5_takeAtom 41 = .ok (.iload_n 2, 1) := by decide +kernel
theorem dX5_takeAtom_42 : decode cX5_takeAtom 42 = .ok (.aload_n 0, 1) := by decide +kernel
theorem dX5_takeAtom_43 : decode cX5_takeAtom 43 = .ok (.getfield 18, 3) := by decide +kernel
theorem dX5_takeAtom_46 : decode cX5_takeAtom 46 = .ok (.iload_n 3, 1) := by decide +kernel
theorem dX5_takeAtom_47 : decode cX5_takeAtom 47 = .ok (.invokevirtual 63, 3) := by decide +kernel
theorem dX5_takeAtom_50 : decode cX5_takeAtom 50 = .ok (.iand, 1) := by decide +kernel
theorem dX5_takeAtom_51 : decode cX5_takeAtom 51 = .ok (.aload_n 0, 1) := by decide +kernel
theorem dX5_takeAtom_52 : decode cX5_takeAtom 52 = .ok (.getfield 18, 3) := by decide +kernel
theorem dX5_takeAtom_55 : decode cX5_takeAtom 55 = .ok (.iload_n 1, 1) := by decide +kernel
theorem dX5_takeAtom_56 : decode cX5_takeAtom 56 = .ok (.invokevirtual 63, 3) := by decide +kernel
theorem dX5_takeAtom_59 : decode cX5_takeAtom 59 = .ok (.iand, 1) := by decide +kernel
theorem dX5_takeAtom_60 : decode cX5_takeAtom 60 = .ok (.invokevirtual 67, 3) := by decide +kernel
theorem dX5_takeAtom_63 : decode cX5_takeAtom 63 = .ok (.istore 4, 2) := by decide +kernel
theorem dX5_takeAtom_65 : decode cX5_takeAtom 65 = .ok (.iload 4, 2) := by decide +kernel
theorem dX5_takeAtom_67 : decode cX5_takeAtom 67 = .ok (.ifCond .lt 19, 3) := by decide +kernel
theorem dX5_takeAtom_70 : decode cX5_takeAtom 70 = .ok (.aload_n 0, 1) := by decide +kernel
theorem dX5_takeAtom_71 : decode cX5_takeAtom 71 = .ok (.getfield 15, 3) := by decide +kernel
theorem dX5_takeAtom_74 : decode cX5_takeAtom 74 = .ok (.iload 4, 2) := by decide +kernel
theorem dX5_takeAtom_76 : decode cX5_takeAtom 76 = .ok (.dup2, 1) := by decide +kernel
theorem dX5_takeAtom_77 : decode cX5_takeAtom 77 = .ok (.laload, 1) := by decide +kernel
theorem dX5_takeAtom_78 : decode cX5_takeAtom 78 = .ok (.aload_n 0, 1) := by decide +kernel
theorem dX5_takeAtom_79 : decode cX5_takeAtom 79 = .ok (.getfield 9, 3) := by decide +kernel
theorem dX5_takeAtom_82 : decode cX5_takeAtom 82 = .ok (.iload_n 3, 1) := by decide +kernel
theorem dX5_takeAtom_83 : decode cX5_takeAtom 83 = .ok (.laload, 1) := by decide +kernel
theorem dX5_takeAtom_84 : decode cX5_takeAtom 84 = .ok (.lsub, 1) := by decide +kernel
theorem dX5_takeAtom_85 : decode cX5_takeAtom 85 = .ok (.lastore, 1) := by decide +kernel
theorem dX5_takeAtom_86 : decode cX5_takeAtom 86 = .ok (.iinc 3 1, 3) := by decide +kernel
theorem dX5_takeAtom_89 : decode cX5_takeAtom 89 = .ok (.goto (-72), 3) := by decide +kernel
theorem dX5_takeAtom_92 : decode cX5_takeAtom 92 = .ok (.aload_n 0, 1) := by decide +kernel
theorem dX5_takeAtom_93 : decode cX5_takeAtom 93 = .ok (.getfield 15, 3) := by decide +kernel
theorem dX5_takeAtom_96 : decode cX5_takeAtom 96 = .ok (.iconst 0, 1) := by decide +kernel
theorem dX5_takeAtom_97 : decode cX5_takeAtom 97 = .ok (.aload_n 0, 1) := by decide +kernel
theorem dX5_takeAtom_98 : decode cX5_takeAtom 98 = .ok (.getfield 9, 3) := by decide +kernel
theorem dX5_takeAtom_101 : decode cX5_takeAtom 101 = .ok (.iconst 0, 1) := by decide +kernel
theorem dX5_takeAtom_102 : decode cX5_takeAtom 102 = .ok (.bipush 16, 2) := by decide +kernel
theorem dX5_takeAtom_104 : decode cX5_takeAtom 104 = .ok (.invokestatic 34, 3) := by decide +kernel
theorem dX5_takeAtom_107 : decode cX5_takeAtom 107 = .ok (.return_, 1) := by decide +kernel
theorem dX6_init_0 : decode cX6_init 0 = .ok (.aload_n 0, 1) := by decide +kernel
theorem dX6_init_1 : decode cX6_init 1 = .ok (.invokespecial 3, 3) := by decide +kernel
theorem dX6_init_4 : decode cX6_init 4 = .ok (.aload_n 0, 1) := by decide +kernel
theorem dX6_init_5 : decode cX6_init 5 = .ok (.bipush 16, 2) := by decide +kernel
theorem dX6_init_7 : decode cX6_init 7 = .ok (.newarray .int, 2) := by decide +kernel
theorem dX6_init_9 : decode cX6_init 9 = .ok (.putfield 9, 3) := by decide +kernel
theorem dX6_init_12 : decode cX6_init 12 = .ok (.aload_n 0, 1) := by decide +kernel
theorem dX6_init_13 : decode cX6_init 13 = .ok (.aload_n 1, 1) := by decide +kernel
theorem dX6_init_14 : decode cX6_init 14 = .ok (.putfield 15, 3) := by decide +kernel
theorem dX6_init_17 : decode cX6_init 17 = .ok (.aload_n 0, 1) := by decide +kernel
theorem dX6_init_18 : decode cX6_init 18 = .ok (.aload_n 2, 1) := by decide +kernel
theorem dX6_init_19 : decode cX6_init 19 = .ok (.putfield 19, 3) := by decide +kernel
theorem dX6_init_22 : decode cX6_init 22 = .ok (.return_, 1) := by decide +kernel
theorem dX6_read_0 : decode cX6_read 0 = .ok (.aload_n 0, 1) := by decide +kernel
theorem dX6_read_1 : decode cX6_read 1 = .ok (.iconst 0, 1) := by decide +kernel
theorem dX6_read_2 : decode cX6_read 2 = .ok (.putfield 23, 3) := by decide +kernel
theorem dX6_read_5 : decode cX6_read 5 = .ok (.aload_n 0, 1) := by decide +kernel
theorem dX6_read_6 : decode cX6_read 6 = .ok (.iconst 0, 1) := by decide +kernel
theorem dX6_read_7 : decode cX6_read 7 = .ok (.putfield 27, 3) := by decide +kernel
theorem dX6_read_10 : decode cX6_read 10 = .ok (.aload_n 0, 1) := by decide +kernel
theorem dX6_read_11 : decode cX6_read 11 = .ok (.invokevirtual 30, 3) := by decide +kernel
theorem dX6_read_14 : decode cX6_read 14 = .ok (.istore_n 1, 1) := by decide +kernel
theorem dX6_read_15 : decode cX6_read 15 = .ok (.aload_n 0, 1) := by decide +kernel
theorem dX6_read_16 : decode cX6_read 16 = .ok (.getfield 27, 3) := by decide +kernel
theorem dX6_read_19 : decode cX6_read 19 = .ok (.ifCond .ne 33, 3) := by decide +kernel
theorem dX6_read_22 : decode cX6_read 22 = .ok (.aload_n 0, 1) := by decide +kernel
theorem dX6_read_23 : decode cX6_read 23 = .ok (.invokevirtual 34, 3) := by decide +kernel
theorem dX6_read_26 : decode cX6_read 26 = .ok (.istore_n 2, 1) := by decide +kernel
theorem dX6_read_27 : decode cX6_read 27 = .ok (.aload_n 0, 1) := by decide +kernel
theorem dX6_read_28 : decode cX6_read 28 = .ok (.getfield 27, 3) := by decide +kernel
theorem dX6_read_31 : decode cX6_read 31 = .ok (.ifCond .ne 21, 3) := by decide +kernel
theorem dX6_read_34 : decode cX6_read 34 = .ok (.aload_n 0, 1) := by decide +kernel
theorem dX6_read_35 : decode cX6_read 35 = .ok (.iload_n 1, 1) := by decide +kernel
theorem dX6_read_36 : decode cX6_read 36 = .ok (.iload_n 2, 1) := by decide +kernel
theorem dX6_read_37 : decode cX6_read 37 = .ok (.invokevirtual 37, 3) := by decide +kernel
theorem dX6_read_40 : decode cX6_read 40 = .ok (.ifCond .ne 12, 3) := by decide +kernel
theorem dX6_read_43 : decode cX6_read 43 = .ok (.aload_n 0, 1) := by decide +kernel
theorem dX6_read_44 : decode cX6_read 44 = .ok (.aload_n 0, 1) := by decide +kernel
theorem dX6_read_45 : decode cX6_read 45 = .ok (.getfield 41, 3) := by decide +kernel
theorem dX6_read_48 : decode cX6_read 48 = .ok (.iconst 2, 1) := by decide +kernel
theorem dX6_read_49 : decode cX6_read 49 = .ok (.invokevirtual 44, 3) := by decide +kernel
theorem dX6_read_52 : decode cX6_read 52 = .ok (.aload_n 0, 1) := by decide +kernel
theorem dX6_read_53 : decode cX6_read 53 = .ok (.getfield 27, 3) := by decide +kernel
theorem dX6_read_56 : decode cX6_read 56 = .ok (.ifCond .ne 7, 3) := by decide +kernel
theorem dX6_read_59 : decode cX6_read 59 = .ok (.aload_n 0, 1) := by decide +kernel
theorem dX6_read_60 : decode cX6_read 60 = .ok (.invokevirtual 48, 3) := by decide +kernel
theorem dX6_read_63 : decode cX6_read 63 = .ok (.aload_n 0, 1) := by decide +kernel
theorem dX6_read_64 : decode cX6_read 64 = .ok (.getfield 27, 3) := by decide +kernel
theorem dX6_read_67 : decode cX6_read 67 = .ok (.ireturn, 1) := by decide +kernel
theorem dX6_blame_0 : decode cX6_blame 0 = .ok (.aload_n 0, 1) := by decide +kernel
theorem dX6_blame_1 : decode cX6_blame 1 = .ok (.getfield 27, 3) := by decide +kernel
theorem dX6_blame_4 : decode cX6_blame 4 = .ok (.ifCond .ne 13, 3) := by decide +kernel
theorem dX6_blame_7 : decode cX6_blame 7 = .ok (.aload_n 0, 1) := by decide +kernel
theorem dX6_blame_8 : decode cX6_blame 8 = .ok (.bipush 8, 2) := by decide +kernel
theorem dX6_blame_10 : decode cX6_blame 10 = .ok (.iload_n 1, 1) := by decide +kernel
theorem dX6_blame_11 : decode cX6_blame 11 = .ok (.imul, 1) := by decide +kernel
theorem dX6_blame_12 : decode cX6_blame 12 = .ok (.iload_n 2, 1) := by decide +kernel
theorem dX6_blame_13 : decode cX6_blame 13 = .ok (.iadd, 1) := by decide +kernel
theorem dX6_blame_14 : decode cX6_blame 14 = .ok (.putfield 27, 3) := by decide +kernel
theorem dX6_blame_17 : decode cX6_blame 17 = .ok (.return_, 1) := by decide +kernel
theorem dX6_skipBlanks_0 : decode cX6_skipBlanks 0 = .ok (.aload_n 0, 1) := by decide +kernel
theorem dX6_skipBlanks_1 : decode cX6_skipBlanks 1 = .ok (.getfield 23, 3) := by decide +kernel
theorem dX6_skipBlanks_4 : decode cX6_skipBlanks 4 = .ok (.aload_n 0, 1) := by decide +kernel
theorem dX6_skipBlanks_5 : decode cX6_skipBlanks 5 = .ok (.getfield 15, 3) := by decide +kernel
theorem dX6_skipBlanks_8 : decode cX6_skipBlanks 8 = .ok (.getfield 51, 3) := by decide +kernel
theorem dX6_skipBlanks_11 : decode cX6_skipBlanks 11 = .ok (.if_icmp .ge 32, 3) := by decide +kernel
theorem dX6_skipBlanks_14 : decode cX6_skipBlanks 14 = .ok (.aload_n 0, 1) := by decide +kernel
theorem dX6_skipBlanks_15 : decode cX6_skipBlanks 15 = .ok (.getfield 15, 3) := by decide +kernel
theorem dX6_skipBlanks_18 : decode cX6_skipBlanks 18 = .ok (.aload_n 0, 1) := by decide +kernel
theorem dX6_skipBlanks_19 : decode cX6_skipBlanks 19 = .ok (.getfield 23, 3) := by decide +kernel
theorem dX6_skipBlanks_22 : decode cX6_skipBlanks 22 = .ok (.invokevirtual 56, 3) := by decide +kernel
theorem dX6_skipBlanks_25 : decode cX6_skipBlanks 25 = .ok (.bipush 32, 2) := by decide +kernel
theorem dX6_skipBlanks_27 : decode cX6_skipBlanks 27 = .ok (.if_icmp .ne 16, 3) := by decide +kernel
theorem dX6_skipBlanks_30 : decode cX6_skipBlanks 30 = .ok (.aload_n 0, 1) := by decide +kernel
theorem dX6_skipBlanks_31 : decode cX6_skipBlanks 31 = .ok (.dup, 1) := by decide +kernel
theorem dX6_skipBlanks_32 : decode cX6_skipBlanks 32 = .ok (.getfield 23, 3) := by decide +kernel
theorem dX6_skipBlanks_35 : decode cX6_skipBlanks 35 = .ok (.iconst 1, 1) := by decide +kernel
theorem dX6_skipBlanks_36 : decode cX6_skipBlanks 36 = .ok (.iadd, 1) := by decide +kernel
theorem dX6_skipBlanks_37 : decode cX6_skipBlanks 37 = .ok (.putfield 23, 3) := by decide +kernel
theorem dX6_skipBlanks_40 : decode cX6_skipBlanks 40 = .ok (.goto (-40), 3) := by decide +kernel
theorem dX6_skipBlanks_43 : decode cX6_skipBlanks 43 = .ok (.return_, 1) := by decide +kernel
theorem dX6_readKind_0 : decode cX6_readKind 0 = .ok (.aload_n 0, 1) := by decide +kernel
theorem dX6_readKind_1 : decode cX6_readKind 1 = .ok (.invokevirtual 60, 3) := by decide +kernel
theorem dX6_readKind_4 : decode cX6_readKind 4 = .ok (.aload_n 0, 1) := by decide +kernel
theorem dX6_readKind_5 : decode cX6_readKind 5 = .ok (.aload_n 0, 1) := by decide +kernel
theorem dX6_readKind_6 : decode cX6_readKind 6 = .ok (.getfield 23, 3) := by decide +kernel
theorem dX6_readKind_9 : decode cX6_readKind 9 = .ok (.putfield 41, 3) := by decide +kernel
theorem dX6_readKind_12 : decode cX6_readKind 12 = .ok (.aload_n 0, 1) := by decide +kernel
theorem dX6_readKind_13 : decode cX6_readKind 13 = .ok (.getfield 23, 3) := by decide +kernel
theorem dX6_readKind_16 : decode cX6_readKind 16 = .ok (.aload_n 0, 1) := by decide +kernel
theorem dX6_readKind_17 : decode cX6_readKind 17 = .ok (.getfield 15, 3) := by decide +kernel
theorem dX6_readKind_20 : decode cX6_readKind 20 = .ok (.getfield 51, 3) := by decide +kernel
theorem dX6_readKind_23 : decode cX6_readKind 23 = .ok (.if_icmp .ge 30, 3) := by decide +kernel
theorem dX6_readKind_26 : decode cX6_readKind 26 = .ok (.aload_n 0, 1) := by decide +kernel
theorem dX6_readKind_27 : decode cX6_readKind 27 = .ok (.getfield 15, 3) := by decide +kernel
theorem dX6_readKind_30 : decode cX6_readKind 30 = .ok (.aload_n 0, 1) := by decide +kernel
theorem dX6_readKind_31 : decode cX6_readKind 31 = .ok (.getfield 23, 3) := by decide +kernel
theorem dX6_readKind_34 : decode cX6_readKind 34 = .ok (.invokevirtual 63, 3) := by decide +kernel
theorem dX6_readKind_37 : decode cX6_readKind 37 = .ok (.ifCond .eq 16, 3) := by decide +kernel
theorem dX6_readKind_40 : decode cX6_readKind 40 = .ok (.aload_n 0, 1) := by decide +kernel
theorem dX6_readKind_41 : decode cX6_readKind 41 = .ok (.dup, 1) := by decide +kernel
theorem dX6_readKind_42 : decode cX6_readKind 42 = .ok (.getfield 23, 3) := by decide +kernel
theorem dX6_readKind_45 : decode cX6_readKind 45 = .ok (.iconst 1, 1) := by decide +kernel
theorem dX6_readKind_46 : decode cX6_readKind 46 = .ok (.iadd, 1) := by decide +kernel
theorem dX6_readKind_47 : decode cX6_readKind 47 = .ok (.putfield 23, 3) := by decide +kernel
theorem dX6_readKind_50 : decode cX6_readKind 50 = .ok (.goto (-38), 3) := by decide +kernel
theorem dX6_readKind_53 : decode cX6_readKind 53 = .ok (.iconst 0, 1) := by decide +kernel
theorem dX6_readKind_54 : decode cX6_readKind 54 = .ok (.istore_n 1, 1) := by decide +kernel
theorem dX6_readKind_55 : decode cX6_readKind 55 = .ok (.iload_n 1, 1) := by decide +kernel
theorem dX6_readKind_56 : decode cX6_readKind 56 = .ok (.iconst 5, 1) := by decide +kernel
theorem dX6_readKind_57 : decode cX6_readKind 57 = .ok (.if_icmp .ge 22, 3) := by decide +kernel
theorem dX6_readKind_60 : decode cX6_readKind 60 = .ok (.aload_n 0, 1) := by decide +kernel
theorem dX6_readKind_61 : decode cX6_readKind 61 = .ok (.iload_n 1, 1) := by decide +kernel
theorem dX6_readKind_62 : decode cX6_readKind 62 = .ok (.invokestatic 67, 3) := by decide +kernel
theorem dX6_readKind_65 : decode cX6_readKind 65 = .ok (.invokevirtual 71, 3) := by decide +kernel
theorem dX6_readKind_68 : decode cX6_readKind 68 = .ok (.ifCond .eq 5, 3) := by decide +kernel
theorem dX6_readKind_71 : decode cX6_readKind 71 = .ok (.iload_n 1, 1) := by decide +kernel
theorem dX6_readKind_72 : decode cX6_readKind 72 = .ok (.ireturn, 1) := by decide +kernel
theorem dX6_readKind_73 : decode cX6_readKind 73 = .ok (.iinc 1 1, 3) := by decide +kernel
theorem dX6_readKind_76 : decode cX6_readKind 76 = .ok (.goto (-21), 3) := by decide +kernel
theorem dX6_readKind_79 : decode cX6_readKind 79 = .ok (.aload_n 0, 1) := by decide +kernel
theorem dX6_readKind_80 : decode cX6_readKind 80 = .ok (.aload_n 0, 1) := by decide +kernel
theorem dX6_readKind_81 : decode cX6_readKind 81 = .ok (.getfield 41, 3) := by decide +kernel
theorem dX6_readKind_84 : decode cX6_readKind 84 = .ok (.iconst 1, 1) := by decide +kernel
theorem dX6_readKind_85 : decode cX6_readKind 85 = .ok (.invokevirtual 44, 3) := by decide +kernel
theorem dX6_readKind_88 : decode cX6_readKind 88 = .ok (.iconst (-1), 1) := by decide +kernel
theorem dX6_readKind_89 : decode cX6_readKind 89 = .ok (.ireturn, 1) := by decide +kernel
theorem dX6_kindWord_0 : decode cX6_kindWord 0 = .ok (.iload_n 0, 1) := by decide +kernel
theorem dX6_kindWord_1 : decode cX6_kindWord 1 = .ok (.tableswitch 43 0 3 #[31, 34, 37, 40], 31) := by decide +kernel
theorem dX6_kindWord_32 : decode cX6_kindWord 32 = .ok (.ldc 75, 2) := by decide +kernel
theorem dX6_kindWord_34 : decode cX6_kindWord 34 = .ok (.areturn, 1) := by decide +kernel
theorem dX6_kindWord_35 : decode cX6_kindWord 35 = .ok (.ldc 77, 2) := by decide +kernel
theorem dX6_kindWord_37 : decode cX6_kindWord 37 = .ok (.areturn, 1) := by decide +kernel
theorem dX6_kindWord_38 : decode cX6_kindWord 38 = .ok (.ldc 79, 2) := by decide +kernel
theorem dX6_kindWord_40 : decode cX6_kindWord 40 = .ok (.areturn, 1) := by decide +kernel
theorem dX6_kindWord_41 : decode cX6_kindWord 41 = .ok (.ldc 81, 2) := by decide +kernel
theorem dX6_kindWord_43 : decode cX6_kindWord 43 = .ok (.areturn, 1) := by decide +kernel
theorem dX6_kindWord_44 : decode cX6_kindWord 44 = .ok (.ldc 83, 2) := by decide +kernel
theorem dX6_kindWord_46 : decode cX6_kindWord 46 = .ok (.areturn, 1) := by decide +kernel
theorem dX6_isWord_0 : decode cX6_isWord 0 = .ok (.aload_n 0, 1) := by decide +kernel
theorem dX6_isWord_1 : decode cX6_isWord 1 = .ok (.getfield 23, 3) := by decide +kernel
theorem dX6_isWord_4 : decode cX6_isWord 4 = .ok (.aload_n 0, 1) := by decide +kernel
theorem dX6_isWord_5 : decode cX6_isWord 5 = .ok (.getfield 41, 3) := by decide +kernel
theorem dX6_isWord_8 : decode cX6_isWord 8 = .ok (.isub, 1) := by decide +kernel
theorem dX6_isWord_9 : decode cX6_isWord 9 = .ok (.aload_n 1, 1) := by decide +kernel
theorem dX6_isWord_10 : decode cX6_isWord 10 = .ok (.invokevirtual 85, 3) := by decide +kernel
theorem dX6_isWord_13 : decode cX6_isWord 13 = .ok (.if_icmp .eq 5, 3) := by decide +kernel
theorem dX6_isWord_16 : decode cX6_isWord 16 = .ok (.iconst 0, 1) := by decide +kernel
theorem dX6_isWord_17 : decode cX6_isWord 17 = .ok (.ireturn, 1) := by decide +kernel
theorem dX6_isWord_18 : decode cX6_isWord 18 = .ok (.iconst 0, 1) := by decide +kernel
theorem dX6_isWord_19 : decode cX6_isWord 19 = .ok (.istore_n 2, 1) := by decide +kernel
theorem dX6_isWord_20 : decode cX6_isWord 20 = .ok (.iload_n 2, 1) := by decide +kernel
theorem dX6_isWord_21 : decode cX6_isWord 21 = .ok (.aload_n 1, 1) := by decide +kernel
theorem dX6_isWord_22 : decode cX6_isWord 22 = .ok (.invokevirtual 85, 3) := by decide +kernel
theorem dX6_isWord_25 : decode cX6_isWord 25 = .ok (.if_icmp .ge 32, 3) := by decide +kernel
theorem dX6_isWord_28 : decode cX6_isWord 28 = .ok (.aload_n 0, 1) := by decide +kernel
theorem dX6_isWord_29 : decode cX6_isWord 29 = .ok (.getfield 15, 3) := by decide +kernel
theorem dX6_isWord_32 : decode cX6_isWord 32 = .ok (.aload_n 0, 1) := by decide +kernel
theorem dX6_isWord_33 : decode cX6_isWord 33 = .ok (.getfield 41, 3) := by decide +kernel
theorem dX6_isWord_36 : decode cX6_isWord 36 = .ok (.iload_n 2, 1) := by decide +kernel
theorem dX6_isWord_37 : decode cX6_isWord 37 = .ok (.iadd, 1) := by decide +kernel
theorem dX6_isWord_38 : decode cX6_isWord 38 = .ok (.invokevirtual 56, 3) := by decide +kernel
theorem dX6_isWord_41 : decode cX6_isWord 41 = .ok (.aload_n 1, 1) := by decide +kernel
theorem dX6_isWord_42 : decode cX6_isWord 42 = .ok (.iload_n 2, 1) := by decide +kernel
theorem dX6_isWord_43 : decode cX6_isWord 43 = .ok (.invokevirtual 90, 3) := by decide +kernel
theorem dX6_isWord_46 : decode cX6_isWord 46 = .ok (.if_icmp .eq 5, 3) := by decide +kernel
theorem dX6_isWord_49 : decode cX6_isWord 49 = .ok (.iconst 0, 1) := by decide +kernel
theorem dX6_isWord_50 : decode cX6_isWord 50 = .ok (.ireturn, 1) := by decide +kernel
theorem dX6_isWord_51 : decode cX6_isWord 51 = .ok (.iinc 2 1, 3) := by decide +kernel
theorem dX6_isWord_54 : decode cX6_isWord 54 = .ok (.goto (-34), 3) := by decide +kernel
theorem dX6_isWord_57 : decode cX6_isWord 57 = .ok (.iconst 1, 1) := by decide +kernel
theorem dX6_isWord_58 : decode cX6_isWord 58 = .ok (.ireturn, 1) := by decide +kernel
theorem dX6_readNumber_0 : decode cX6_readNumber 0 = .ok (.aload_n 0, 1) := by decide +kernel
theorem dX6_readNumber_1 : decode cX6_readNumber 1 = .ok (.invokevirtual 60, 3) := by decide +kernel
theorem dX6_readNumber_4 : decode cX6_readNumber 4 = .ok (.aload_n 0, 1) := by decide +kernel
theorem dX6_readNumber_5 : decode cX6_readNumber 5 = .ok (.aload_n 0, 1) := by decide +kernel
theorem dX6_readNumber_6 : decode cX6_readNumber 6 = .ok (.getfield 23, 3) := by decide +kernel
theorem dX6_readNumber_9 : decode cX6_readNumber 9 = .ok (.putfield 41, 3) := by decide +kernel
theorem dX6_readNumber_12 : decode cX6_readNumber 12 = .ok (.iconst 0, 1) := by decide +kernel
theorem dX6_readNumber_13 : decode cX6_readNumber 13 = .ok (.istore_n 1, 1) := by decide +kernel
theorem dX6_readNumber_14 : decode cX6_readNumber 14 = .ok (.aload_n 0, 1) := by decide +kernel
theorem dX6_readNumber_15 : decode cX6_readNumber 15 = .ok (.getfield 23, 3) := by decide +kernel
theorem dX6_readNumber_18 : decode cX6_readNumber 18 = .ok (.aload_n 0, 1) := by decide +kernel
theorem dX6_readNumber_19 : decode cX6_readNumber 19 = .ok (.getfield 15, 3) := by decide +kernel
theorem dX6_readNumber_22 : decode cX6_readNumber 22 = .ok (.getfield 51, 3) := by decide +kernel
theorem dX6_readNumber_25 : decode cX6_readNumber 25 = .ok (.if_icmp .ge 55, 3) := by decide +kernel
theorem dX6_readNumber_28 : decode cX6_readNumber 28 = .ok (.aload_n 0, 1) := by decide +kernel
theorem dX6_readNumber_29 : decode cX6_readNumber 29 = .ok (.getfield 15, 3) := by decide +kernel
theorem dX6_readNumber_32 : decode cX6_readNumber 32 = .ok (.aload_n 0, 1) := by decide +kernel
theorem dX6_readNumber_33 : decode cX6_readNumber 33 = .ok (.getfield 23, 3) := by decide +kernel
theorem dX6_readNumber_36 : decode cX6_readNumber 36 = .ok (.invokevirtual 94, 3) := by decide +kernel
theorem dX6_readNumber_39 : decode cX6_readNumber 39 = .ok (.ifCond .eq 41, 3) := by decide +kernel
theorem dX6_readNumber_42 : decode cX6_readNumber 42 = .ok (.ldc 97, 2) := by decide +kernel
theorem dX6_readNumber_44 : decode cX6_readNumber 44 = .ok (.bipush 10, 2) := by decide +kernel
theorem dX6_readNumber_46 : decode cX6_readNumber 46 = .ok (.iload_n 1, 1) := by decide +kernel
theorem dX6_readNumber_47 : decode cX6_readNumber 47 = .ok (.imul, 1) := by decide +kernel
theorem dX6_readNumber_48 : decode cX6_readNumber 48 = .ok (.aload_n 0, 1) := by decide +kernel
theorem dX6_readNumber_49 : decode cX6_readNumber 49 = .ok (.getfield 15, 3) := by decide +kernel
theorem dX6_readNumber_52 : decode cX6_readNumber 52 = .ok (.aload_n 0, 1) := by decide +kernel
theorem dX6_readNumber_53 : decode cX6_readNumber 53 = .ok (.getfield 23, 3) := by decide +kernel
theorem dX6_readNumber_56 : decode cX6_readNumber 56 = .ok (.invokevirtual 56, 3) := by decide +kernel
theorem dX6_readNumber_59 : decode cX6_readNumber 59 = .ok (.iadd, 1) := by decide +kernel
theorem dX6_readNumber_60 : decode cX6_readNumber 60 = .ok (.bipush 48, 2) := by decide +kernel
theorem dX6_readNumber_62 : decode cX6_readNumber 62 = .ok (.isub, 1) := by decide +kernel
theorem dX6_readNumber_63 : decode cX6_readNumber 63 = .ok (.invokestatic 98, 3) := by decide +kernel
theorem dX6_readNumber_66 : decode cX6_readNumber 66 = .ok (.istore_n 1, 1) := by decide +kernel
theorem dX6_readNumber_67 : decode cX6_readNumber 67 = .ok (.aload_n 0, 1) := by decide +kernel
theorem dX6_readNumber_68 : decode cX6_readNumber 68 = .ok (.dup, 1) := by decide +kernel
theorem dX6_readNumber_69 : decode cX6_readNumber 69 = .ok (.getfield 23, 3) := by decide +kernel
theorem dX6_readNumber_72 : decode cX6_readNumber 72 = .ok (.iconst 1, 1) := by decide +kernel
theorem dX6_readNumber_73 : decode cX6_readNumber 73 = .ok (.iadd, 1) := by decide +kernel
theorem dX6_readNumber_74 : decode cX6_readNumber 74 = .ok (.putfield 23, 3) := by decide +kernel
theorem dX6_readNumber_77 : decode cX6_readNumber 77 = .ok (.goto (-63), 3) := by decide +kernel
theorem dX6_readNumber_80 : decode cX6_readNumber 80 = .ok (.aload_n 0, 1) := by decide +kernel
theorem dX6_readNumber_81 : decode cX6_readNumber 81 = .ok (.getfield 23, 3) := by decide +kernel
theorem dX6_readNumber_84 : decode cX6_readNumber 84 = .ok (.aload_n 0, 1) := by decide +kernel
theorem dX6_readNumber_85 : decode cX6_readNumber 85 = .ok (.getfield 41, 3) := by decide +kernel
theorem dX6_readNumber_88 : decode cX6_readNumber 88 = .ok (.if_icmp .ne 12, 3) := by decide +kernel
theorem dX6_readNumber_91 : decode cX6_readNumber 91 = .ok (.aload_n 0, 1) := by decide +kernel
theorem dX6_readNumber_92 : decode cX6_readNumber 92 = .ok (.aload_n 0, 1) := by decide +kernel
theorem dX6_readNumber_93 : decode cX6_readNumber 93 = .ok (.getfield 23, 3) := by decide +kernel
theorem dX6_readNumber_96 : decode cX6_readNumber 96 = .ok (.iconst 1, 1) := by decide +kernel
theorem dX6_readNumber_97 : decode cX6_readNumber 97 = .ok (.invokevirtual 44, 3) := by decide +kernel
theorem dX6_readNumber_100 : decode cX6_readNumber 100 = .ok (.iload_n 1, 1) := by decide +kernel
theorem dX6_readNumber_101 : decode cX6_readNumber 101 = .ok (.ireturn, 1) := by decide +kernel
theorem dX6_readLines_0 : decode cX6_readLines 0 = .ok (.iconst 0, 1) := by decide +kernel
theorem dX6_readLines_1 : decode cX6_readLines 1 = .ok (.istore_n 1, 1) := by decide +kernel
theorem dX6_readLines_2 : decode cX6_readLines 2 = .ok (.iload_n 1, 1) := by decide +kernel
theorem dX6_readLines_3 : decode cX6_readLines 3 = .ok (.bipush 120, 2) := by decide +kernel
theorem dX6_readLines_5 : decode cX6_readLines 5 = .ok (.if_icmp .gt 45, 3) := by decide +kernel
theorem dX6_readLines_8 : decode cX6_readLines 8 = .ok (.aload_n 0, 1) := by decide +kernel
theorem dX6_readLines_9 : decode cX6_readLines 9 = .ok (.getfield 27, 3) := by decide +kernel
theorem dX6_readLines_12 : decode cX6_readLines 12 = .ok (.ifCond .ne 38, 3) := by decide +kernel
theorem dX6_readLines_15 : decode cX6_readLines 15 = .ok (.aload_n 0, 1) := by decide +kernel
theorem dX6_readLines_16 : decode cX6_readLines 16 = .ok (.invokevirtual 60, 3) := by decide +kernel
theorem dX6_readLines_19 : decode cX6_readLines 19 = .ok (.aload_n 0, 1) := by decide +kernel
theorem dX6_readLines_20 : decode cX6_readLines 20 = .ok (.getfield 23, 3) := by decide +kernel
theorem dX6_readLines_23 : decode cX6_readLines 23 = .ok (.aload_n 0, 1) := by decide +kernel
theorem dX6_readLines_24 : decode cX6_readLines 24 = .ok (.getfield 15, 3) := by decide +kernel
theorem dX6_readLines_27 : decode cX6_readLines 27 = .ok (.getfield 51, 3) := by decide +kernel
theorem dX6_readLines_30 : decode cX6_readLines 30 = .ok (.if_icmp .lt 4, 3) := by decide +kernel
theorem dX6_readLines_33 : decode cX6_readLines 33 = .ok (.return_, 1) := by decide +kernel
theorem dX6_readLines_34 : decode cX6_readLines 34 = .ok (.aload_n 0, 1) := by decide +kernel
theorem dX6_readLines_35 : decode cX6_readLines 35 = .ok (.bipush 59, 2) := by decide +kernel
theorem dX6_readLines_37 : decode cX6_readLines 37 = .ok (.invokevirtual 104, 3) := by decide +kernel
theorem dX6_readLines_40 : decode cX6_readLines 40 = .ok (.aload_n 0, 1) := by decide +kernel
theorem dX6_readLines_41 : decode cX6_readLines 41 = .ok (.invokevirtual 108, 3) := by decide +kernel
theorem dX6_readLines_44 : decode cX6_readLines 44 = .ok (.iinc 1 1, 3) := by decide +kernel
theorem dX6_readLines_47 : decode cX6_readLines 47 = .ok (.goto (-45), 3) := by decide +kernel
theorem dX6_readLines_50 : decode cX6_readLines 50 = .ok (.return_, 1) := by decide +kernel
theorem dX6_readSign_0 : decode cX6_readSign 0 = .ok (.aload_n 0, 1) := by decide +kernel
theorem dX6_readSign_1 : decode cX6_readSign 1 = .ok (.invokevirtual 60, 3) := by decide +kernel
theorem dX6_readSign_4 : decode cX6_readSign 4 = .ok (.aload_n 0, 1) := by decide +kernel
theorem dX6_readSign_5 : decode cX6_readSign 5 = .ok (.getfield 15, 3) := by decide +kernel
theorem dX6_readSign_8 : decode cX6_readSign 8 = .ok (.aload_n 0, 1) := by decide +kernel
theorem dX6_readSign_9 : decode cX6_readSign 9 = .ok (.getfield 23, 3) := by decide +kernel
theorem dX6_readSign_12 : decode cX6_readSign 12 = .ok (.invokevirtual 56, 3) := by decide +kernel
theorem dX6_readSign_15 : decode cX6_readSign 15 = .ok (.iload_n 1, 1) := by decide +kernel
theorem dX6_readSign_16 : decode cX6_readSign 16 = .ok (.if_icmp .eq 15, 3) := by decide +kernel
theorem dX6_readSign_19 : decode cX6_readSign 19 = .ok (.aload_n 0, 1) := by decide +kernel
theorem dX6_readSign_20 : decode cX6_readSign 20 = .ok (.aload_n 0, 1) := by decide +kernel
theorem dX6_readSign_21 : decode cX6_readSign 21 = .ok (.getfield 23, 3) := by decide +kernel
theorem dX6_readSign_24 : decode cX6_readSign 24 = .ok (.iconst 1, 1) := by decide +kernel
theorem dX6_readSign_25 : decode cX6_readSign 25 = .ok (.invokevirtual 44, 3) := by decide +kernel
theorem dX6_readSign_28 : decode cX6_readSign 28 = .ok (.goto 13, 3) := by decide +kernel
theorem dX6_readSign_31 : decode cX6_readSign 31 = .ok (.aload_n 0, 1) := by decide +kernel
theorem dX6_readSign_32 : decode cX6_readSign 32 = .ok (.dup, 1) := by decide +kernel
theorem dX6_readSign_33 : decode cX6_readSign 33 = .ok (.getfield 23, 3) := by decide +kernel
theorem dX6_readSign_36 : decode cX6_readSign 36 = .ok (.iconst 1, 1) := by decide +kernel
theorem dX6_readSign_37 : decode cX6_readSign 37 = .ok (.iadd, 1) := by decide +kernel
theorem dX6_readSign_38 : decode cX6_readSign 38 = .ok (.putfield 23, 3) := by decide +kernel
theorem dX6_readSign_41 : decode cX6_readSign 41 = .ok (.return_, 1) := by decide +kernel
theorem dX6_readLine_0 : decode cX6_readLine 0 = .ok (.aload_n 0, 1) := by decide +kernel
theorem dX6_readLine_1 : decode cX6_readLine 1 = .ok (.invokevirtual 111, 3) := by decide +kernel
theorem dX6_readLine_4 : decode cX6_readLine 4 = .ok (.istore_n 1, 1) := by decide +kernel
theorem dX6_readLine_5 : decode cX6_readLine 5 = .ok (.iconst 1, 1) := by decide +kernel
theorem dX6_readLine_6 : decode cX6_readLine 6 = .ok (.istore_n 2, 1) := by decide +kernel
theorem dX6_readLine_7 : decode cX6_readLine 7 = .ok (.iconst 0, 1) := by decide +kernel
theorem dX6_readLine_8 : decode cX6_readLine 8 = .ok (.istore_n 3, 1) := by decide +kernel
theorem dX6_readLine_9 : decode cX6_readLine 9 = .ok (.iload_n 3, 1) := by decide +kernel
theorem dX6_readLine_10 : decode cX6_readLine 10 = .ok (.bipush 120, 2) := by decide +kernel
theorem dX6_readLine_12 : decode cX6_readLine 12 = .ok (.if_icmp .gt 107, 3) := by decide +kernel
theorem dX6_readLine_15 : decode cX6_readLine 15 = .ok (.iload_n 2, 1) := by decide +kernel
theorem dX6_readLine_16 : decode cX6_readLine 16 = .ok (.ifCond .eq 103, 3) := by decide +kernel
theorem dX6_readLine_19 : decode cX6_readLine 19 = .ok (.aload_n 0, 1) := by decide +kernel
theorem dX6_readLine_20 : decode cX6_readLine 20 = .ok (.getfield 27, 3) := by decide +kernel
theorem dX6_readLine_23 : decode cX6_readLine 23 = .ok (.ifCond .ne 96, 3) := by decide +kernel
theorem dX6_readLine_26 : decode cX6_readLine 26 = .ok (.aload_n 0, 1) := by decide +kernel
theorem dX6_readLine_27 : decode cX6_readLine 27 = .ok (.bipush 60, 2) := by decide +kernel
theorem dX6_readLine_29 : decode cX6_readLine 29 = .ok (.invokevirtual 104, 3) := by decide +kernel
theorem dX6_readLine_32 : decode cX6_readLine 32 = .ok (.aload_n 0, 1) := by decide +kernel
theorem dX6_readLine_33 : decode cX6_readLine 33 = .ok (.invokevirtual 111, 3) := by decide +kernel
theorem dX6_readLine_36 : decode cX6_readLine 36 = .ok (.istore 4, 2) := by decide +kernel
theorem dX6_readLine_38 : decode cX6_readLine 38 = .ok (.aload_n 0, 1) := by decide +kernel
theorem dX6_readLine_39 : decode cX6_readLine 39 = .ok (.getfield 27, 3) := by decide +kernel
theorem dX6_readLine_42 : decode cX6_readLine 42 = .ok (.ifCond .ne 25, 3) := by decide +kernel
theorem dX6_readLine_45 : decode cX6_readLine 45 = .ok (.aload_n 0, 1) := by decide +kernel
theorem dX6_readLine_46 : decode cX6_readLine 46 = .ok (.getfield 19, 3) := by decide +kernel
theorem dX6_readLine_49 : decode cX6_readLine 49 = .ok (.iload 4, 2) := by decide +kernel
theorem dX6_readLine_51 : decode cX6_readLine 51 = .ok (.iload_n 1, 1) := by decide +kernel
theorem dX6_readLine_52 : decode cX6_readLine 52 = .ok (.invokevirtual 114, 3) := by decide +kernel
theorem dX6_readLine_55 : decode cX6_readLine 55 = .ok (.ifCond .eq 12, 3) := by decide +kernel
theorem dX6_readLine_58 : decode cX6_readLine 58 = .ok (.aload_n 0, 1) := by decide +kernel
theorem dX6_readLine_59 : decode cX6_readLine 59 = .ok (.aload_n 0, 1) := by decide +kernel
theorem dX6_readLine_60 : decode cX6_readLine 60 = .ok (.getfield 41, 3) := by decide +kernel
theorem dX6_readLine_63 : decode cX6_readLine 63 = .ok (.iconst 3, 1) := by decide +kernel
theorem dX6_readLine_64 : decode cX6_readLine 64 = .ok (.invokevirtual 44, 3) := by decide +kernel
theorem dX6_readLine_67 : decode cX6_readLine 67 = .ok (.aload_n 0, 1) := by decide +kernel
theorem dX6_readLine_68 : decode cX6_readLine 68 = .ok (.getfield 27, 3) := by decide +kernel
theorem dX6_readLine_71 : decode cX6_readLine 71 = .ok (.ifCond .ne 42, 3) := by decide +kernel
theorem dX6_readLine_74 : decode cX6_readLine 74 = .ok (.aload_n 0, 1) := by decide +kernel
theorem dX6_readLine_75 : decode cX6_readLine 75 = .ok (.getfield 19, 3) := by decide +kernel
theorem dX6_readLine_78 : decode cX6_readLine 78 = .ok (.iload_n 1, 1) := by decide +kernel
theorem dX6_readLine_79 : decode cX6_readLine 79 = .ok (.iload 4, 2) := by decide +kernel
theorem dX6_readLine_81 : decode cX6_readLine 81 = .ok (.invokevirtual 119, 3) := by decide +kernel
theorem dX6_readLine_84 : decode cX6_readLine 84 = .ok (.iload 4, 2) := by decide +kernel
theorem dX6_readLine_86 : decode cX6_readLine 86 = .ok (.istore_n 1, 1) := by decide +kernel
theorem dX6_readLine_87 : decode cX6_readLine 87 = .ok (.aload_n 0, 1) := by decide +kernel
theorem dX6_readLine_88 : decode cX6_readLine 88 = .ok (.invokevirtual 60, 3) := by decide +kernel
theorem dX6_readLine_91 : decode cX6_readLine 91 = .ok (.aload_n 0, 1) := by decide +kernel
theorem dX6_readLine_92 : decode cX6_readLine 92 = .ok (.getfield 15, 3) := by decide +kernel
theorem dX6_readLine_95 : decode cX6_readLine 95 = .ok (.aload_n 0, 1) := by decide +kernel
theorem dX6_readLine_96 : decode cX6_readLine 96 = .ok (.getfield 23, 3) := by decide +kernel
theorem dX6_readLine_99 : decode cX6_readLine 99 = .ok (.invokevirtual 56, 3) := by decide +kernel
theorem dX6_readLine_102 : decode cX6_readLine 102 = .ok (.bipush 60, 2) := by decide +kernel
theorem dX6_readLine_104 : decode cX6_readLine 104 = .ok (.if_icmp .ne 7, 3) := by decide +kernel
theorem dX6_readLine_107 : decode cX6_readLine 107 = .ok (.iconst 1, 1) := by decide +kernel
theorem dX6_readLine_108 : decode cX6_readLine 108 = .ok (.goto 4, 3) := by decide +kernel
theorem dX6_readLine_111 : decode cX6_readLine 111 = .ok (.iconst 0, 1) := by decide +kernel
theorem dX6_readLine_112 : decode cX6_readLine 112 = .ok (.istore_n 2, 1) := by decide +kernel
theorem dX6_readLine_113 : decode cX6_readLine 113 = .ok (.iinc 3 1, 3) := by decide +kernel
theorem dX6_readLine_116 : decode cX6_readLine 116 = .ok (.goto (-107), 3) := by decide +kernel
theorem dX6_readLine_119 : decode cX6_readLine 119 = .ok (.return_, 1) := by decide +kernel
theorem dX6_readElement_0 : decode cX6_readElement 0 = .ok (.aload_n 0, 1) := by decide +kernel
theorem dX6_readElement_1 : decode cX6_readElement 1 = .ok (.getfield 27, 3) := by decide +kernel
theorem dX6_readElement_4 : decode cX6_readElement 4 = .ok (.ifCond .eq 5, 3) := by decide +kernel
theorem dX6_readElement_7 : decode cX6_readElement 7 = .ok (.iconst (-1), 1) := by decide +kernel
theorem dX6_readElement_8 : decode cX6_readElement 8 = .ok (.ireturn, 1) := by decide +kernel
theorem dX6_readElement_9 : decode cX6_readElement 9 = .ok (.aload_n 0, 1) := by decide +kernel
theorem dX6_readElement_10 : decode cX6_readElement 10 = .ok (.invokevirtual 34, 3) := by decide +kernel
theorem dX6_readElement_13 : decode cX6_readElement 13 = .ok (.istore_n 1, 1) := by decide +kernel
theorem dX6_readElement_14 : decode cX6_readElement 14 = .ok (.aload_n 0, 1) := by decide +kernel
theorem dX6_readElement_15 : decode cX6_readElement 15 = .ok (.getfield 27, 3) := by decide +kernel
theorem dX6_readElement_18 : decode cX6_readElement 18 = .ok (.ifCond .ne 23, 3) := by decide +kernel
theorem dX6_readElement_21 : decode cX6_readElement 21 = .ok (.aload_n 0, 1) := by decide +kernel
theorem dX6_readElement_22 : decode cX6_readElement 22 = .ok (.getfield 19, 3) := by decide +kernel
theorem dX6_readElement_25 : decode cX6_readElement 25 = .ok (.iload_n 1, 1) := by decide +kernel
theorem dX6_readElement_26 : decode cX6_readElement 26 = .ok (.invokevirtual 122, 3) := by decide +kernel
theorem dX6_readElement_29 : decode cX6_readElement 29 = .ok (.ifCond .ne 12, 3) := by decide +kernel
theorem dX6_readElement_32 : decode cX6_readElement 32 = .ok (.aload_n 0, 1) := by decide +kernel
theorem dX6_readElement_33 : decode cX6_readElement 33 = .ok (.aload_n 0, 1) := by decide +kernel
theorem dX6_readElement_34 : decode cX6_readElement 34 = .ok (.getfield 41, 3) := by decide +kernel
theorem dX6_readElement_37 : decode cX6_readElement 37 = .ok (.iconst 2, 1) := by decide +kernel
theorem dX6_readElement_38 : decode cX6_readElement 38 = .ok (.invokevirtual 44, 3) := by decide +kernel
theorem dX6_readElement_41 : decode cX6_readElement 41 = .ok (.iload_n 1, 1) := by decide +kernel
theorem dX6_readElement_42 : decode cX6_readElement 42 = .ok (.ireturn, 1) := by decide +kernel
theorem dX6_build_0 : decode cX6_build 0 = .ok (.iload_n 1, 1) := by decide +kernel
theorem dX6_build_1 : decode cX6_build 1 = .ok (.tableswitch 137 0 4 #[35, 35, 61, 87, 113], 35) := by decide +kernel
theorem dX6_build_36 : decode cX6_build 36 = .ok (.iload_n 2, 1) := by decide +kernel
theorem dX6_build_37 : decode cX6_build 37 = .ok (.iconst 1, 1) := by decide +kernel
theorem dX6_build_38 : decode cX6_build 38 = .ok (.if_icmp .lt 22, 3) := by decide +kernel
theorem dX6_build_41 : decode cX6_build 41 = .ok (.iload_n 2, 1) := by decide +kernel
theorem dX6_build_42 : decode cX6_build 42 = .ok (.bipush 16, 2) := by decide +kernel
theorem dX6_build_44 : decode cX6_build 44 = .ok (.if_icmp .gt 16, 3) := by decide +kernel
theorem dX6_build_47 : decode cX6_build 47 = .ok (.aload_n 0, 1) := by decide +kernel
theorem dX6_build_48 : decode cX6_build 48 = .ok (.iload_n 1, 1) := by decide +kernel
theorem dX6_build_49 : decode cX6_build 49 = .ok (.iload_n 2, 1) := by decide +kernel
theorem dX6_build_50 : decode cX6_build 50 = .ok (.invokevirtual 125, 3) := by decide +kernel
theorem dX6_build_53 : decode cX6_build 53 = .ok (.ifCond .eq 7, 3) := by decide +kernel
theorem dX6_build_56 : decode cX6_build 56 = .ok (.iconst 1, 1) := by decide +kernel
theorem dX6_build_57 : decode cX6_build 57 = .ok (.goto 4, 3) := by decide +kernel
theorem dX6_build_60 : decode cX6_build 60 = .ok (.iconst 0, 1) := by decide +kernel
theorem dX6_build_61 : decode cX6_build 61 = .ok (.ireturn, 1) := by decide +kernel
theorem dX6_build_62 : decode cX6_build 62 = .ok (.iload_n 2, 1) := by decide +kernel
theorem dX6_build_63 : decode cX6_build 63 = .ok (.ifCond .lt 23, 3) := by decide +kernel
theorem dX6_build_66 : decode cX6_build 66 = .ok (.iload_n 2, 1) := by decide +kernel
theorem dX6_build_67 : decode cX6_build 67 = .ok (.iconst 4, 1) := by decide +kernel
theorem dX6_build_68 : decode cX6_build 68 = .ok (.if_icmp .gt 18, 3) := by decide +kernel
theorem dX6_build_71 : decode cX6_build 71 = .ok (.aload_n 0, 1) := by decide +kernel
theorem dX6_build_72 : decode cX6_build 72 = .ok (.iload_n 1, 1) := by decide +kernel
theorem dX6_build_73 : decode cX6_build 73 = .ok (.iconst 1, 1) := by decide +kernel
theorem dX6_build_74 : decode cX6_build 74 = .ok (.iload_n 2, 1) := by decide +kernel
theorem dX6_build_75 : decode cX6_build 75 = .ok (.ishl, 1) := by decide +kernel
theorem dX6_build_76 : decode cX6_build 76 = .ok (.invokevirtual 125, 3) := by decide +kernel
theorem dX6_build_79 : decode cX6_build 79 = .ok (.ifCond .eq 7, 3) := by decide +kernel
theorem dX6_build_82 : decode cX6_build 82 = .ok (.iconst 1, 1) := by decide +kernel
theorem dX6_build_83 : decode cX6_build 83 = .ok (.goto 4, 3) := by decide +kernel
theorem dX6_build_86 : decode cX6_build 86 = .ok (.iconst 0, 1) := by decide +kernel
theorem dX6_build_87 : decode cX6_build 87 = .ok (.ireturn, 1) := by decide +kernel
theorem dX6_build_88 : decode cX6_build 88 = .ok (.iload_n 2, 1) := by decide +kernel
theorem dX6_build_89 : decode cX6_build 89 = .ok (.iconst 1, 1) := by decide +kernel
theorem dX6_build_90 : decode cX6_build 90 = .ok (.if_icmp .lt 22, 3) := by decide +kernel
theorem dX6_build_93 : decode cX6_build 93 = .ok (.iload_n 2, 1) := by decide +kernel
theorem dX6_build_94 : decode cX6_build 94 = .ok (.sipush 999, 3) := by decide +kernel
theorem dX6_build_97 : decode cX6_build 97 = .ok (.if_icmp .gt 15, 3) := by decide +kernel
theorem dX6_build_100 : decode cX6_build 100 = .ok (.aload_n 0, 1) := by decide +kernel
theorem dX6_build_101 : decode cX6_build 101 = .ok (.iload_n 2, 1) := by decide +kernel
theorem dX6_build_102 : decode cX6_build 102 = .ok (.invokevirtual 128, 3) := by decide +kernel
theorem dX6_build_105 : decode cX6_build 105 = .ok (.ifCond .eq 7, 3) := by decide +kernel
theorem dX6_build_108 : decode cX6_build 108 = .ok (.iconst 1, 1) := by decide +kernel
theorem dX6_build_109 : decode cX6_build 109 = .ok (.goto 4, 3) := by decide +kernel
theorem dX6_build_112 : decode cX6_build 112 = .ok (.iconst 0, 1) := by decide +kernel
theorem dX6_build_113 : decode cX6_build 113 = .ok (.ireturn, 1) := by decide +kernel
theorem dX6_build_114 : decode cX6_build 114 = .ok (.iload_n 2, 1) := by decide +kernel
theorem dX6_build_115 : decode cX6_build 115 = .ok (.iconst 1, 1) := by decide +kernel
theorem dX6_build_116 : decode cX6_build 116 = .ok (.if_icmp .lt 20, 3) := by decide +kernel
theorem dX6_build_119 : decode cX6_build 119 = .ok (.iload_n 2, 1) := by decide +kernel
theorem dX6_build_120 : decode cX6_build 120 = .ok (.iconst 4, 1) := by decide +kernel
theorem dX6_build_121 : decode cX6_build 121 = .ok (.if_icmp .gt 15, 3) := by decide +kernel
theorem dX6_build_124 : decode cX6_build 124 = .ok (.aload_n 0, 1) := by decide +kernel
theorem dX6_build_125 : decode cX6_build 125 = .ok (.iload_n 2, 1) := by decide +kernel
theorem dX6_build_126 : decode cX6_build 126 = .ok (.invokevirtual 131, 3) := by decide +kernel
theorem dX6_build_129 : decode cX6_build 129 = .ok (.ifCond .eq 7, 3) := by decide +kernel
theorem dX6_build_132 : decode cX6_build 132 = .ok (.iconst 1, 1) := by decide +kernel
theorem dX6_build_133 : decode cX6_build 133 = .ok (.goto 4, 3) := by decide +kernel
theorem dX6_build_136 : decode cX6_build 136 = .ok (.iconst 0, 1) := by decide +kernel
theorem dX6_build_137 : decode cX6_build 137 = .ok (.ireturn, 1) := by decide +kernel
theorem dX6_build_138 : decode cX6_build 138 = .ok (.iconst 0, 1) := by decide +kernel
theorem dX6_build_139 : decode cX6_build 139 = .ok (.ireturn, 1) := by decide +kernel
theorem dX6_buildRow_0 : decode cX6_buildRow 0 = .ok (.iconst 0, 1) := by decide +kernel
theorem dX6_buildRow_1 : decode cX6_buildRow 1 = .ok (.istore_n 3, 1) := by decide +kernel
theorem dX6_buildRow_2 : decode cX6_buildRow 2 = .ok (.iload_n 3, 1) := by decide +kernel
theorem dX6_buildRow_3 : decode cX6_buildRow 3 = .ok (.iload_n 2, 1) := by decide +kernel
theorem dX6_buildRow_4 : decode cX6_buildRow 4 = .ok (.if_icmp .ge 22, 3) := by decide +kernel
theorem dX6_buildRow_7 : decode cX6_buildRow 7 = .ok (.iload_n 3, 1) := by decide +kernel
theorem dX6_buildRow_8 : decode cX6_buildRow 8 = .ok (.bipush 16, 2) := by decide +kernel
theorem dX6_buildRow_10 : decode cX6_buildRow 10 = .ok (.if_icmp .ge 16, 3) := by decide +kernel
theorem dX6_buildRow_13 : decode cX6_buildRow 13 = .ok (.aload_n 0, 1) := by decide +kernel
theorem dX6_buildRow_14 : decode cX6_buildRow 14 = .ok (.getfield 9, 3) := by decide +kernel
theorem dX6_buildRow_17 : decode cX6_buildRow 17 = .ok (.iload_n 3, 1) := by decide +kernel
theorem dX6_buildRow_18 : decode cX6_buildRow 18 = .ok (.iload_n 3, 1) := by decide +kernel
theorem dX6_buildRow_19 : decode cX6_buildRow 19 = .ok (.iastore, 1) := by decide +kernel
theorem dX6_buildRow_20 : decode cX6_buildRow 20 = .ok (.iinc 3 1, 3) := by decide +kernel
theorem dX6_buildRow_23 : decode cX6_buildRow 23 = .ok (.goto (-21), 3) := by decide +kernel
theorem dX6_buildRow_26 : decode cX6_buildRow 26 = .ok (.aload_n 0, 1) := by decide +kernel
theorem dX6_buildRow_27 : decode cX6_buildRow 27 = .ok (.iload_n 1, 1) := by decide +kernel
theorem dX6_buildRow_28 : decode cX6_buildRow 28 = .ok (.iload_n 2, 1) := by decide +kernel
theorem dX6_buildRow_29 : decode cX6_buildRow 29 = .ok (.invokevirtual 134, 3) := by decide +kernel
theorem dX6_buildRow_32 : decode cX6_buildRow 32 = .ok (.ireturn, 1) := by decide +kernel
theorem dX6_buildDivisors_0 : decode cX6_buildDivisors 0 = .ok (.iconst 0, 1) := by decide +kernel
theorem dX6_buildDivisors_1 : decode cX6_buildDivisors 1 = .ok (.istore_n 2, 1) := by decide +kernel
theorem dX6_buildDivisors_2 : decode cX6_buildDivisors 2 = .ok (.iconst 1, 1) := by decide +kernel
theorem dX6_buildDivisors_3 : decode cX6_buildDivisors 3 = .ok (.istore_n 3, 1) := by decide +kernel
theorem dX6_buildDivisors_4 : decode cX6_buildDivisors 4 = .ok (.iload_n 3, 1) := by decide +kernel
theorem dX6_buildDivisors_5 : decode cX6_buildDivisors 5 = .ok (.iload_n 1, 1) := by decide +kernel
theorem dX6_buildDivisors_6 : decode cX6_buildDivisors 6 = .ok (.if_icmp .gt 33, 3) := by decide +kernel
theorem dX6_buildDivisors_9 : decode cX6_buildDivisors 9 = .ok (.iload_n 1, 1) := by decide +kernel
theorem dX6_buildDivisors_10 : decode cX6_buildDivisors 10 = .ok (.iload_n 3, 1) := by decide +kernel
theorem dX6_buildDivisors_11 : decode cX6_buildDivisors 11 = .ok (.irem, 1) := by decide +kernel
theorem dX6_buildDivisors_12 : decode cX6_buildDivisors 12 = .ok (.ifCond .ne 21, 3) := by decide +kernel
theorem dX6_buildDivisors_15 : decode cX6_buildDivisors 15 = .ok (.iload_n 2, 1) := by decide +kernel
theorem dX6_buildDivisors_16 : decode cX6_buildDivisors 16 = .ok (.bipush 16, 2) := by decide +kernel
theorem dX6_buildDivisors_18 : decode cX6_buildDivisors 18 = .ok (.if_icmp .lt 5, 3) := by decide +kernel
theorem dX6_buildDivisors_21 : decode cX6_buildDivisors 21 = .ok (.iconst 0, 1) := by decide +kernel
theorem dX6_buildDivisors_22 : decode cX6_buildDivisors 22 = .ok (.ireturn, 1) := by decide +kernel
theorem dX6_buildDivisors_23 : decode cX6_buildDivisors 23 = .ok (.aload_n 0, 1) := by decide +kernel
theorem dX6_buildDivisors_24 : decode cX6_buildDivisors 24 = .ok (.getfield 9, 3) := by decide +kernel
theorem dX6_buildDivisors_27 : decode cX6_buildDivisors 27 = .ok (.iload_n 2, 1) := by decide +kernel
theorem dX6_buildDivisors_28 : decode cX6_buildDivisors 28 = .ok (.iload_n 3, 1) := by decide +kernel
theorem dX6_buildDivisors_29 : decode cX6_buildDivisors 29 = .ok (.iastore, 1) := by decide +kernel
theorem dX6_buildDivisors_30 : decode cX6_buildDivisors 30 = .ok (.iinc 2 1, 3) := by decide +kernel
theorem dX6_buildDivisors_33 : decode cX6_buildDivisors 33 = .ok (.iinc 3 1, 3) := by decide +kernel
theorem dX6_buildDivisors_36 : decode cX6_buildDivisors 36 = .ok (.goto (-32), 3) := by decide +kernel
theorem dX6_buildDivisors_39 : decode cX6_buildDivisors 39 = .ok (.aload_n 0, 1) := by decide +kernel
theorem dX6_buildDivisors_40 : decode cX6_buildDivisors 40 = .ok (.iconst 3, 1) := by decide +kernel
theorem dX6_buildDivisors_41 : decode cX6_buildDivisors 41 = .ok (.iload_n 2, 1) := by decide +kernel
theorem dX6_buildDivisors_42 : decode cX6_buildDivisors 42 = .ok (.invokevirtual 134, 3) := by decide +kernel
theorem dX6_buildDivisors_45 : decode cX6_buildDivisors 45 = .ok (.ireturn, 1) := by decide +kernel
theorem dX6_buildParts_0 : decode cX6_buildParts 0 = .ok (.iconst 0, 1) := by decide +kernel
theorem dX6_buildParts_1 : decode cX6_buildParts 1 = .ok (.istore_n 2, 1) := by decide +kernel
theorem dX6_buildParts_2 : decode cX6_buildParts 2 = .ok (.iconst 0, 1) := by decide +kernel
theorem dX6_buildParts_3 : decode cX6_buildParts 3 = .ok (.istore_n 3, 1) := by decide +kernel
theorem dX6_buildParts_4 : decode cX6_buildParts 4 = .ok (.iload_n 3, 1) := by decide +kernel
theorem dX6_buildParts_5 : decode cX6_buildParts 5 = .ok (.iconst 1, 1) := by decide +kernel
theorem dX6_buildParts_6 : decode cX6_buildParts 6 = .ok (.iconst 2, 1) := by decide +kernel
theorem dX6_buildParts_7 : decode cX6_buildParts 7 = .ok (.iload_n 1, 1) := by decide +kernel
theorem dX6_buildParts_8 : decode cX6_buildParts 8 = .ok (.imul, 1) := by decide +kernel
theorem dX6_buildParts_9 : decode cX6_buildParts 9 = .ok (.ishl, 1) := by decide +kernel
theorem dX6_buildParts_10 : decode cX6_buildParts 10 = .ok (.if_icmp .ge 33, 3) := by decide +kernel
theorem dX6_buildParts_13 : decode cX6_buildParts 13 = .ok (.iload_n 3, 1) := by decide +kernel
theorem dX6_buildParts_14 : decode cX6_buildParts 14 = .ok (.iload_n 1, 1) := by decide +kernel
theorem dX6_buildParts_15 : decode cX6_buildParts 15 = .ok (.invokestatic 137, 3) := by decide +kernel
theorem dX6_buildParts_18 : decode cX6_buildParts 18 = .ok (.ifCond .eq 19, 3) := by decide +kernel
theorem dX6_buildParts_21 : decode cX6_buildParts 21 = .ok (.iload_n 2, 1) := by decide +kernel
theorem dX6_buildParts_22 : decode cX6_buildParts 22 = .ok (.bipush 16, 2) := by decide +kernel
theorem dX6_buildParts_24 : decode cX6_buildParts 24 = .ok (.if_icmp .ge 13, 3) := by decide +kernel
theorem dX6_buildParts_27 : decode cX6_buildParts 27 = .ok (.aload_n 0, 1) := by decide +kernel
theorem dX6_buildParts_28 : decode cX6_buildParts 28 = .ok (.getfield 9, 3) := by decide +kernel
theorem dX6_buildParts_31 : decode cX6_buildParts 31 = .ok (.iload_n 2, 1) := by decide +kernel
theorem dX6_buildParts_32 : decode cX6_buildParts 32 = .ok (.iload_n 3, 1) := by decide +kernel
theorem dX6_buildParts_33 : decode cX6_buildParts 33 = .ok (.iastore, 1) := by decide +kernel
theorem dX6_buildParts_34 : decode cX6_buildParts 34 = .ok (.iinc 2 1, 3) := by decide +kernel
theorem dX6_buildParts_37 : decode cX6_buildParts 37 = .ok (.iinc 3 1, 3) := by decide +kernel
theorem dX6_buildParts_40 : decode cX6_buildParts 40 = .ok (.goto (-36), 3) := by decide +kernel
theorem dX6_buildParts_43 : decode cX6_buildParts 43 = .ok (.aload_n 0, 1) := by decide +kernel
theorem dX6_buildParts_44 : decode cX6_buildParts 44 = .ok (.iconst 4, 1) := by decide +kernel
theorem dX6_buildParts_45 : decode cX6_buildParts 45 = .ok (.iload_n 2, 1) := by decide +kernel
theorem dX6_buildParts_46 : decode cX6_buildParts 46 = .ok (.invokevirtual 134, 3) := by decide +kernel
theorem dX6_buildParts_49 : decode cX6_buildParts 49 = .ok (.ireturn, 1) := by decide +kernel
theorem dX6_isParting_0 : decode cX6_isParting 0 = .ok (.iconst 0, 1) := by decide +kernel
theorem dX6_isParting_1 : decode cX6_isParting 1 = .ok (.istore_n 2, 1) := by decide +kernel
theorem dX6_isParting_2 : decode cX6_isParting 2 = .ok (.iconst 2, 1) := by decide +kernel
theorem dX6_isParting_3 : decode cX6_isParting 3 = .ok (.iload_n 1, 1) := by decide +kernel
theorem dX6_isParting_4 : decode cX6_isParting 4 = .ok (.imul, 1) := by decide +kernel
theorem dX6_isParting_5 : decode cX6_isParting 5 = .ok (.iconst 2, 1) := by decide +kernel
theorem dX6_isParting_6 : decode cX6_isParting 6 = .ok (.isub, 1) := by decide +kernel
theorem dX6_isParting_7 : decode cX6_isParting 7 = .ok (.istore_n 3, 1) := by decide +kernel
theorem dX6_isParting_8 : decode cX6_isParting 8 = .ok (.iload_n 3, 1) := by decide +kernel
theorem dX6_isParting_9 : decode cX6_isParting 9 = .ok (.ifCond .lt 33, 3) := by decide +kernel
theorem dX6_isParting_12 : decode cX6_isParting 12 = .ok (.iload_n 0, 1) := by decide +kernel
theorem dX6_isParting_13 : decode cX6_isParting 13 = .ok (.iload_n 3, 1) := by decide +kernel
theorem dX6_isParting_14 : decode cX6_isParting 14 = .ok (.ishr, 1) := by decide +kernel
theorem dX6_isParting_15 : decode cX6_isParting 15 = .ok (.iconst 3, 1) := by decide +kernel
theorem dX6_isParting_16 : decode cX6_isParting 16 = .ok (.iand, 1) := by decide +kernel
theorem dX6_isParting_17 : decode cX6_isParting 17 = .ok (.istore 4, 2) := by decide +kernel
theorem dX6_isParting_19 : decode cX6_isParting 19 = .ok (.iload 4, 2) := by decide +kernel
theorem dX6_isParting_21 : decode cX6_isParting 21 = .ok (.iload_n 2, 1) := by decide +kernel
theorem dX6_isParting_22 : decode cX6_isParting 22 = .ok (.if_icmp .le 5, 3) := by decide +kernel
theorem dX6_isParting_25 : decode cX6_isParting 25 = .ok (.iconst 0, 1) := by decide +kernel
theorem dX6_isParting_26 : decode cX6_isParting 26 = .ok (.ireturn, 1) := by decide +kernel
theorem dX6_isParting_27 : decode cX6_isParting 27 = .ok (.iload 4, 2) := by decide +kernel
theorem dX6_isParting_29 : decode cX6_isParting 29 = .ok (.iload_n 2, 1) := by decide +kernel
theorem dX6_isParting_30 : decode cX6_isParting 30 = .ok (.if_icmp .ne 6, 3) := by decide +kernel
theorem dX6_isParting_33 : decode cX6_isParting 33 = .ok (.iinc 2 1, 3) := by decide +kernel
theorem dX6_isParting_36 : decode cX6_isParting 36 = .ok (.iinc 3 (-2), 3) := by decide +kernel
theorem dX6_isParting_39 : decode cX6_isParting 39 = .ok (.goto (-31), 3) := by decide +kernel
theorem dX6_isParting_42 : decode cX6_isParting 42 = .ok (.iconst 1, 1) := by decide +kernel
theorem dX6_isParting_43 : decode cX6_isParting 43 = .ok (.ireturn, 1) := by decide +kernel
theorem dX6_buildOfCodes_0 : decode cX6_buildOfCodes 0 = .ok (.iload_n 2, 1) := by decide +kernel
theorem dX6_buildOfCodes_1 : decode cX6_buildOfCodes 1 = .ok (.iconst 1, 1) := by decide +kernel
theorem dX6_buildOfCodes_2 : decode cX6_buildOfCodes 2 = .ok (.if_icmp .lt 9, 3) := by decide +kernel
theorem dX6_buildOfCodes_5 : decode cX6_buildOfCodes 5 = .ok (.iload_n 2, 1) := by decide +kernel
theorem dX6_buildOfCodes_6 : decode cX6_buildOfCodes 6 = .ok (.bipush 16, 2) := by decide +kernel
theorem dX6_buildOfCodes_8 : decode cX6_buildOfCodes 8 = .ok (.if_icmp .le 5, 3) := by decide +kernel
theorem dX6_buildOfCodes_11 : decode cX6_buildOfCodes 11 = .ok (.iconst 0, 1) := by decide +kernel
theorem dX6_buildOfCodes_12 : decode cX6_buildOfCodes 12 = .ok (.ireturn, 1) := by decide +kernel
theorem dX6_buildOfCodes_13 : decode cX6_buildOfCodes 13 = .ok (.aload_n 0, 1) := by decide +kernel
theorem dX6_buildOfCodes_14 : decode cX6_buildOfCodes 14 = .ok (.getfield 19, 3) := by decide +kernel
theorem dX6_buildOfCodes_17 : decode cX6_buildOfCodes 17 = .ok (.iload_n 2, 1) := by decide +kernel
theorem dX6_buildOfCodes_18 : decode cX6_buildOfCodes 18 = .ok (.invokevirtual 140, 3) := by decide +kernel
theorem dX6_buildOfCodes_21 : decode cX6_buildOfCodes 21 = .ok (.iconst 0, 1) := by decide +kernel
theorem dX6_buildOfCodes_22 : decode cX6_buildOfCodes 22 = .ok (.istore_n 3, 1) := by decide +kernel
theorem dX6_buildOfCodes_23 : decode cX6_buildOfCodes 23 = .ok (.iload_n 3, 1) := by decide +kernel
theorem dX6_buildOfCodes_24 : decode cX6_buildOfCodes 24 = .ok (.iload_n 2, 1) := by decide +kernel
theorem dX6_buildOfCodes_25 : decode cX6_buildOfCodes 25 = .ok (.if_icmp .ge 66, 3) := by decide +kernel
theorem dX6_buildOfCodes_28 : decode cX6_buildOfCodes 28 = .ok (.iconst 0, 1) := by decide +kernel
theorem dX6_buildOfCodes_29 : decode cX6_buildOfCodes 29 = .ok (.istore 4, 2) := by decide +kernel
theorem dX6_buildOfCodes_31 : decode cX6_buildOfCodes 31 = .ok (.iload 4, 2) := by decide +kernel
theorem dX6_buildOfCodes_33 : decode cX6_buildOfCodes 33 = .ok (.iload_n 2, 1) := by decide +kernel
theorem dX6_buildOfCodes_34 : decode cX6_buildOfCodes 34 = .ok (.if_icmp .ge 51, 3) := by decide +kernel
theorem dX6_buildOfCodes_37 : decode cX6_buildOfCodes 37 = .ok (.iload_n 3, 1) := by decide +kernel
theorem dX6_buildOfCodes_38 : decode cX6_buildOfCodes 38 = .ok (.iload 4, 2) := by decide +kernel
theorem dX6_buildOfCodes_40 : decode cX6_buildOfCodes 40 = .ok (.if_icmp .eq 39, 3) := by decide +kernel
theorem dX6_buildOfCodes_43 : decode cX6_buildOfCodes 43 = .ok (.iload_n 1, 1) := by decide +kernel
theorem dX6_buildOfCodes_44 : decode cX6_buildOfCodes 44 = .ok (.aload_n 0, 1) := by decide +kernel
theorem dX6_buildOfCodes_45 : decode cX6_buildOfCodes 45 = .ok (.getfield 9, 3) := by decide +kernel
theorem dX6_buildOfCodes_48 : decode cX6_buildOfCodes 48 = .ok (.iload_n 3, 1) := by decide +kernel
theorem dX6_buildOfCodes_49 : decode cX6_buildOfCodes 49 = .ok (.iaload, 1) := by decide +kernel
theorem dX6_buildOfCodes_50 : decode cX6_buildOfCodes 50 = .ok (.aload_n 0, 1) := by decide +kernel
theorem dX6_buildOfCodes_51 : decode cX6_buildOfCodes 51 = .ok (.getfield 9, 3) := by decide +kernel
theorem dX6_buildOfCodes_54 : decode cX6_buildOfCodes 54 = .ok (.iload 4, 2) := by decide +kernel
theorem dX6_buildOfCodes_56 : decode cX6_buildOfCodes 56 = .ok (.iaload, 1) := by decide +kernel
theorem dX6_buildOfCodes_57 : decode cX6_buildOfCodes 57 = .ok (.invokestatic 144, 3) := by decide +kernel
theorem dX6_buildOfCodes_60 : decode cX6_buildOfCodes 60 = .ok (.ifCond .eq 19, 3) := by decide +kernel
theorem dX6_buildOfCodes_63 : decode cX6_buildOfCodes 63 = .ok (.aload_n 0, 1) := by decide +kernel
theorem dX6_buildOfCodes_64 : decode cX6_buildOfCodes 64 = .ok (.getfield 19, 3) := by decide +kernel
theorem dX6_buildOfCodes_67 : decode cX6_buildOfCodes 67 = .ok (.getfield 148, 3) := by decide +kernel
theorem dX6_buildOfCodes_70 : decode cX6_buildOfCodes 70 = .ok (.iload_n 3, 1) := by decide +kernel
theorem dX6_buildOfCodes_71 : decode cX6_buildOfCodes 71 = .ok (.dup2, 1) := by decide +kernel
theorem dX6_buildOfCodes_72 : decode cX6_buildOfCodes 72 = .ok (.iaload, 1) := by decide +kernel
theorem dX6_buildOfCodes_73 : decode cX6_buildOfCodes 73 = .ok (.iconst 1, 1) := by decide +kernel
theorem dX6_buildOfCodes_74 : decode cX6_buildOfCodes 74 = .ok (.iload 4, 2) := by decide +kernel
theorem dX6_buildOfCodes_76 : decode cX6_buildOfCodes 76 = .ok (.ishl, 1) := by decide +kernel
theorem dX6_buildOfCodes_77 : decode cX6_buildOfCodes 77 = .ok (.ior, 1) := by decide +kernel
theorem dX6_buildOfCodes_78 : decode cX6_buildOfCodes 78 = .ok (.iastore, 1) := by decide +kernel
theorem dX6_buildOfCodes_79 : decode cX6_buildOfCodes 79 = .ok (.iinc 4 1, 3) := by decide +kernel
theorem dX6_buildOfCodes_82 : decode cX6_buildOfCodes 82 = .ok (.goto (-51), 3) := by decide +kernel
theorem dX6_buildOfCodes_85 : decode cX6_buildOfCodes 85 = .ok (.iinc 3 1, 3) := by decide +kernel
theorem dX6_buildOfCodes_88 : decode cX6_buildOfCodes 88 = .ok (.goto (-65), 3) := by decide +kernel
theorem dX6_buildOfCodes_91 : decode cX6_buildOfCodes 91 = .ok (.iconst 1, 1) := by decide +kernel
theorem dX6_buildOfCodes_92 : decode cX6_buildOfCodes 92 = .ok (.ireturn, 1) := by decide +kernel
theorem dX6_codeAtMost_0 : decode cX6_codeAtMost 0 = .ok (.iload_n 0, 1) := by decide +kernel
theorem dX6_codeAtMost_1 : decode cX6_codeAtMost 1 = .ok (.tableswitch 78 1 4 #[31, 42, 56, 72], 31) := by decide +kernel
theorem dX6_codeAtMost_32 : decode cX6_codeAtMost 32 = .ok (.iload_n 1, 1) := by decide +kernel
theorem dX6_codeAtMost_33 : decode cX6_codeAtMost 33 = .ok (.iload_n 2, 1) := by decide +kernel
theorem dX6_codeAtMost_34 : decode cX6_codeAtMost 34 = .ok (.if_icmp .gt 7, 3) := by decide +kernel
theorem dX6_codeAtMost_37 : decode cX6_codeAtMost 37 = .ok (.iconst 1, 1) := by decide +kernel
theorem dX6_codeAtMost_38 : decode cX6_codeAtMost 38 = .ok (.goto 4, 3) := by decide +kernel
theorem dX6_codeAtMost_41 : decode cX6_codeAtMost 41 = .ok (.iconst 0, 1) := by decide +kernel
theorem dX6_codeAtMost_42 : decode cX6_codeAtMost 42 = .ok (.ireturn, 1) := by decide +kernel
theorem dX6_codeAtMost_43 : decode cX6_codeAtMost 43 = .ok (.iload_n 1, 1) := by decide +kernel
theorem dX6_codeAtMost_44 : decode cX6_codeAtMost 44 = .ok (.iload_n 2, 1) := by decide +kernel
theorem dX6_codeAtMost_45 : decode cX6_codeAtMost 45 = .ok (.iconst (-1), 1) := by decide +kernel
theorem dX6_codeAtMost_46 : decode cX6_codeAtMost 46 = .ok (.ixor, 1) := by decide +kernel
theorem dX6_codeAtMost_47 : decode cX6_codeAtMost 47 = .ok (.iand, 1) := by decide +kernel
theorem dX6_codeAtMost_48 : decode cX6_codeAtMost 48 = .ok (.ifCond .ne 7, 3) := by decide +kernel
theorem dX6_codeAtMost_51 : decode cX6_codeAtMost 51 = .ok (.iconst 1, 1) := by decide +kernel
theorem dX6_codeAtMost_52 : decode cX6_codeAtMost 52 = .ok (.goto 4, 3) := by decide +kernel
theorem dX6_codeAtMost_55 : decode cX6_codeAtMost 55 = .ok (.iconst 0, 1) := by decide +kernel
theorem dX6_codeAtMost_56 : decode cX6_codeAtMost 56 = .ok (.ireturn, 1) := by decide +kernel
theorem dX6_codeAtMost_57 : decode cX6_codeAtMost 57 = .ok (.iload_n 1, 1) := by decide +kernel
theorem dX6_codeAtMost_58 : decode cX6_codeAtMost 58 = .ok (.ifCond .le 13, 3) := by decide +kernel
theorem dX6_codeAtMost_61 : decode cX6_codeAtMost 61 = .ok (.iload_n 2, 1) := by decide +kernel
theorem dX6_codeAtMost_62 : decode cX6_codeAtMost 62 = .ok (.iload_n 1, 1) := by decide +kernel
theorem dX6_codeAtMost_63 : decode cX6_codeAtMost 63 = .ok (.irem, 1) := by decide +kernel
theorem dX6_codeAtMost_64 : decode cX6_codeAtMost 64 = .ok (.ifCond .ne 7, 3) := by decide +kernel
theorem dX6_codeAtMost_67 : decode cX6_codeAtMost 67 = .ok (.iconst 1, 1) := by decide +kernel
theorem dX6_codeAtMost_68 : decode cX6_codeAtMost 68 = .ok (.goto 4, 3) := by decide +kernel
theorem dX6_codeAtMost_71 : decode cX6_codeAtMost 71 = .ok (.iconst 0, 1) := by decide +kernel
theorem dX6_codeAtMost_72 : decode cX6_codeAtMost 72 = .ok (.ireturn, 1) := by decide +kernel
theorem dX6_codeAtMost_73 : decode cX6_codeAtMost 73 = .ok (.iload_n 1, 1) := by decide +kernel
theorem dX6_codeAtMost_74 : decode cX6_codeAtMost 74 = .ok (.iload_n 2, 1) := by decide +kernel
theorem dX6_codeAtMost_75 : decode cX6_codeAtMost 75 = .ok (.invokestatic 151, 3) := by decide +kernel
theorem dX6_codeAtMost_78 : decode cX6_codeAtMost 78 = .ok (.ireturn, 1) := by decide +kernel
theorem dX6_codeAtMost_79 : decode cX6_codeAtMost 79 = .ok (.iconst 0, 1) := by decide +kernel
theorem dX6_codeAtMost_80 : decode cX6_codeAtMost 80 = .ok (.ireturn, 1) := by decide +kernel
theorem dX6_isFiner_0 : decode cX6_isFiner 0 = .ok (.iconst 0, 1) := by decide +kernel
theorem dX6_isFiner_1 : decode cX6_isFiner 1 = .ok (.istore_n 2, 1) := by decide +kernel
theorem dX6_isFiner_2 : decode cX6_isFiner 2 = .ok (.iload_n 2, 1) := by decide +kernel
theorem dX6_isFiner_3 : decode cX6_isFiner 3 = .ok (.bipush 8, 2) := by decide +kernel
theorem dX6_isFiner_5 : decode cX6_isFiner 5 = .ok (.if_icmp .ge 62, 3) := by decide +kernel
theorem dX6_isFiner_8 : decode cX6_isFiner 8 = .ok (.iconst 0, 1) := by decide +kernel
theorem dX6_isFiner_9 : decode cX6_isFiner 9 = .ok (.istore_n 3, 1) := by decide +kernel
theorem dX6_isFiner_10 : decode cX6_isFiner 10 = .ok (.iload_n 3, 1) := by decide +kernel
theorem dX6_isFiner_11 : decode cX6_isFiner 11 = .ok (.iload_n 2, 1) := by decide +kernel
theorem dX6_isFiner_12 : decode cX6_isFiner 12 = .ok (.if_icmp .ge 49, 3) := by decide +kernel
theorem dX6_isFiner_15 : decode cX6_isFiner 15 = .ok (.iload_n 0, 1) := by decide +kernel
theorem dX6_isFiner_16 : decode cX6_isFiner 16 = .ok (.iload_n 2, 1) := by decide +kernel
theorem dX6_isFiner_17 : decode cX6_isFiner 17 = .ok (.ishr, 1) := by decide +kernel
theorem dX6_isFiner_18 : decode cX6_isFiner 18 = .ok (.iconst 3, 1) := by decide +kernel
theorem dX6_isFiner_19 : decode cX6_isFiner 19 = .ok (.iand, 1) := by decide +kernel
theorem dX6_isFiner_20 : decode cX6_isFiner 20 = .ok (.iload_n 0, 1) := by decide +kernel
theorem dX6_isFiner_21 : decode cX6_isFiner 21 = .ok (.iload_n 3, 1) := by decide +kernel
theorem dX6_isFiner_22 : decode cX6_isFiner 22 = .ok (.ishr, 1) := by decide +kernel
theorem dX6_isFiner_23 : decode cX6_isFiner 23 = .ok (.iconst 3, 1) := by decide +kernel
theorem dX6_isFiner_24 : decode cX6_isFiner 24 = .ok (.iand, 1) := by decide +kernel
theorem dX6_isFiner_25 : decode cX6_isFiner 25 = .ok (.if_icmp .ne 7, 3) := by decide +kernel
theorem dX6_isFiner_28 : decode cX6_isFiner 28 = .ok (.iconst 1, 1) := by decide +kernel
theorem dX6_isFiner_29 : decode cX6_isFiner 29 = .ok (.goto 4, 3) := by decide +kernel
theorem dX6_isFiner_32 : decode cX6_isFiner 32 = .ok (.iconst 0, 1) := by decide +kernel
theorem dX6_isFiner_33 : decode cX6_isFiner 33 = .ok (.istore 4, 2) := by decide +kernel
theorem dX6_isFiner_35 : decode cX6_isFiner 35 = .ok (.iload 4, 2) := by decide +kernel
theorem dX6_isFiner_37 : decode cX6_isFiner 37 = .ok (.ifCond .eq 18, 3) := by decide +kernel
theorem dX6_isFiner_40 : decode cX6_isFiner 40 = .ok (.iload_n 1, 1) := by decide +kernel
theorem dX6_isFiner_41 : decode cX6_isFiner 41 = .ok (.iload_n 2, 1) := by decide +kernel
theorem dX6_isFiner_42 : decode cX6_isFiner 42 = .ok (.ishr, 1) := by decide +kernel
theorem dX6_isFiner_43 : decode cX6_isFiner 43 = .ok (.iconst 3, 1) := by decide +kernel
theorem dX6_isFiner_44 : decode cX6_isFiner 44 = .ok (.iand, 1) := by decide +kernel
theorem dX6_isFiner_45 : decode cX6_isFiner 45 = .ok (.iload_n 1, 1) := by decide +kernel
theorem dX6_isFiner_46 : decode cX6_isFiner 46 = .ok (.iload_n 3, 1) := by decide +kernel
theorem dX6_isFiner_47 : decode cX6_isFiner 47 = .ok (.ishr, 1) := by decide +kernel
theorem dX6_isFiner_48 : decode cX6_isFiner 48 = .ok (.iconst 3, 1) := by decide +kernel
theorem dX6_isFiner_49 : decode cX6_isFiner 49 = .ok (.iand, 1) := by decide +kernel
theorem dX6_isFiner_50 : decode cX6_isFiner 50 = .ok (.if_icmp .eq 5, 3) := by decide +kernel
theorem dX6_isFiner_53 : decode cX6_isFiner 53 = .ok (.iconst 0, 1) := by decide +kernel
theorem dX6_isFiner_54 : decode cX6_isFiner 54 = .ok (.ireturn, 1) := by decide +kernel
theorem dX6_isFiner_55 : decode cX6_isFiner 55 = .ok (.iinc 3 2, 3) := by decide +kernel
theorem dX6_isFiner_58 : decode cX6_isFiner 58 = .ok (.goto (-48), 3) := by decide +kernel
theorem dX6_isFiner_61 : decode cX6_isFiner 61 = .ok (.iinc 2 2, 3) := by decide +kernel
theorem dX6_isFiner_64 : decode cX6_isFiner 64 = .ok (.goto (-62), 3) := by decide +kernel
theorem dX6_isFiner_67 : decode cX6_isFiner 67 = .ok (.iconst 1, 1) := by decide +kernel
theorem dX6_isFiner_68 : decode cX6_isFiner 68 = .ok (.ireturn, 1) := by decide +kernel
theorem dX7_init_0 : decode cX7_init 0 = .ok (.aload_n 0, 1) := by decide +kernel
theorem dX7_init_1 : decode cX7_init 1 = .ok (.invokespecial 3, 3) := by decide +kernel
theorem dX7_init_4 : decode cX7_init 4 = .ok (.aload_n 0, 1) := by decide +kernel
theorem dX7_init_5 : decode cX7_init 5 = .ok (.bipush 17, 2) := by decide +kernel
theorem dX7_init_7 : decode cX7_init 7 = .ok (.newarray .long, 2) := by decide +kernel
theorem dX7_init_9 : decode cX7_init 9 = .ok (.putfield 9, 3) := by decide +kernel
theorem dX7_init_12 : decode cX7_init 12 = .ok (.aload_n 0, 1) := by decide +kernel
theorem dX7_init_13 : decode cX7_init 13 = .ok (.bipush 17, 2) := by decide +kernel
theorem dX7_init_15 : decode cX7_init 15 = .ok (.newarray .long, 2) := by decide +kernel
theorem dX7_init_17 : decode cX7_init 17 = .ok (.putfield 15, 3) := by decide +kernel
theorem dX7_init_20 : decode cX7_init 20 = .ok (.aload_n 0, 1) := by decide +kernel
theorem dX7_init_21 : decode cX7_init 21 = .ok (.bipush 16, 2) := by decide +kernel
theorem dX7_init_23 : decode cX7_init 23 = .ok (.newarray .int, 2) := by decide +kernel
theorem dX7_init_25 : decode cX7_init 25 = .ok (.putfield 18, 3) := by decide +kernel
theorem dX7_init_28 : decode cX7_init 28 = .ok (.aload_n 0, 1) := by decide +kernel
theorem dX7_init_29 : decode cX7_init 29 = .ok (.iconst 0, 1) := by decide +kernel
theorem dX7_init_30 : decode cX7_init 30 = .ok (.newarray .long, 2) := by decide +kernel
theorem dX7_init_32 : decode cX7_init 32 = .ok (.putfield 22, 3) := by decide +kernel
theorem dX7_init_35 : decode cX7_init 35 = .ok (.aload_n 0, 1) := by decide +kernel
theorem dX7_init_36 : decode cX7_init 36 = .ok (.aload_n 1, 1) := by decide +kernel
theorem dX7_init_37 : decode cX7_init 37 = .ok (.putfield 25, 3) := by decide +kernel
theorem dX7_init_40 : decode cX7_init 40 = .ok (.return_, 1) := by decide +kernel
theorem dX7_forget_0 : decode cX7_forget 0 = .ok (.aload_n 0, 1) := by decide +kernel
theorem dX7_forget_1 : decode cX7_forget 1 = .ok (.iconst 0, 1) := by decide +kernel
theorem dX7_forget_2 : decode cX7_forget 2 = .ok (.putfield 29, 3) := by decide +kernel
theorem dX7_forget_5 : decode cX7_forget 5 = .ok (.aload_n 0, 1) := by decide +kernel
theorem dX7_forget_6 : decode cX7_forget 6 = .ok (.iconst 0, 1) := by decide +kernel
theorem dX7_forget_7 : decode cX7_forget 7 = .ok (.putfield 33, 3) := by decide +kernel
theorem dX7_forget_10 : decode cX7_forget 10 = .ok (.return_, 1) := by decide +kernel
theorem dX7_downSets_0 : decode cX7_downSets 0 = .ok (.lconst 0, 1) := by decide +kernel
theorem dX7_downSets_1 : decode cX7_downSets 1 = .ok (.lstore_n 1, 1) := by decide +kernel
theorem dX7_downSets_2 : decode cX7_downSets 2 = .ok (.iconst 0, 1) := by decide +kernel
theorem dX7_downSets_3 : decode cX7_downSets 3 = .ok (.istore_n 3, 1) := by decide +kernel
theorem dX7_downSets_4 : decode cX7_downSets 4 = .ok (.iload_n 3, 1) := by decide +kernel
theorem dX7_downSets_5 : decode cX7_downSets 5 = .ok (.aload_n 0, 1) := by decide +kernel
theorem dX7_downSets_6 : decode cX7_downSets 6 = .ok (.getfield 25, 3) := by decide +kernel
theorem dX7_downSets_9 : decode cX7_downSets 9 = .ok (.getfield 36, 3) := by decide +kernel
theorem dX7_downSets_12 : decode cX7_downSets 12 = .ok (.if_icmp .gt 17, 3) := by decide +kernel
theorem dX7_downSets_15 : decode cX7_downSets 15 = .ok (.lload_n 1, 1) := by decide +kernel
theorem dX7_downSets_16 : decode cX7_downSets 16 = .ok (.aload_n 0, 1) := by decide +kernel
theorem dX7_downSets_17 : decode cX7_downSets 17 = .ok (.iload_n 3, 1) := by decide +kernel
theorem dX7_downSets_18 : decode cX7_downSets 18 = .ok (.invokevirtual 42, 3) := by decide +kernel
theorem dX7_downSets_21 : decode cX7_downSets 21 = .ok (.ladd, 1) := by decide +kernel
theorem dX7_downSets_22 : decode cX7_downSets 22 = .ok (.lstore_n 1, 1) := by decide +kernel
theorem dX7_downSets_23 : decode cX7_downSets 23 = .ok (.iinc 3 1, 3) := by decide +kernel
theorem dX7_downSets_26 : decode cX7_downSets 26 = .ok (.goto (-22), 3) := by decide +kernel
theorem dX7_downSets_29 : decode cX7_downSets 29 = .ok (.lload_n 1, 1) := by decide +kernel
theorem dX7_downSets_30 : decode cX7_downSets 30 = .ok (.lreturn, 1) := by decide +kernel
theorem dX7_downSetsOf_0 : decode cX7_downSetsOf 0 = .ok (.aload_n 0, 1) := by decide +kernel
theorem dX7_downSetsOf_1 : decode cX7_downSetsOf 1 = .ok (.getfield 29, 3) := by decide +kernel
theorem dX7_downSetsOf_4 : decode cX7_downSetsOf 4 = .ok (.ifCond .ne 29, 3) := by decide +kernel
theorem dX7_downSetsOf_7 : decode cX7_downSetsOf 7 = .ok (.aload_n 0, 1) := by decide +kernel
theorem dX7_downSetsOf_8 : decode cX7_downSetsOf 8 = .ok (.getfield 9, 3) := by decide +kernel
theorem dX7_downSetsOf_11 : decode cX7_downSetsOf 11 = .ok (.lconst 0, 1) := by decide +kernel
theorem dX7_downSetsOf_12 : decode cX7_downSetsOf 12 = .ok (.invokestatic 46, 3) := by decide +kernel
theorem dX7_downSetsOf_15 : decode cX7_downSetsOf 15 = .ok (.aload_n 0, 1) := by decide +kernel
theorem dX7_downSetsOf_16 : decode cX7_downSetsOf 16 = .ok (.aload_n 0, 1) := by decide +kernel
theorem dX7_downSetsOf_17 : decode cX7_downSetsOf 17 = .ok (.getfield 25, 3) := by decide +kernel
theorem dX7_downSetsOf_20 : decode cX7_downSetsOf 20 = .ok (.invokevirtual 52, 3) := by decide +kernel
theorem dX7_downSetsOf_23 : decode cX7_downSetsOf 23 = .ok (.iconst 0, 1) := by decide +kernel
theorem dX7_downSetsOf_24 : decode cX7_downSetsOf 24 = .ok (.iconst 0, 1) := by decide +kernel
theorem dX7_downSetsOf_25 : decode cX7_downSetsOf 25 = .ok (.invokevirtual 56, 3) := by decide +kernel
theorem dX7_downSetsOf_28 : decode cX7_downSetsOf 28 = .ok (.aload_n 0, 1) := by decide +kernel
theorem dX7_downSetsOf_29 : decode cX7_downSetsOf 29 = .ok (.iconst 1, 1) := by decide +kernel
theorem dX7_downSetsOf_30 : decode cX7_downSetsOf 30 = .ok (.putfield 29, 3) := by decide +kernel
theorem dX7_downSetsOf_33 : decode cX7_downSetsOf 33 = .ok (.iload_n 1, 1) := by decide +kernel
theorem dX7_downSetsOf_34 : decode cX7_downSetsOf 34 = .ok (.ifCond .lt 18, 3) := by decide +kernel
theorem dX7_downSetsOf_37 : decode cX7_downSetsOf 37 = .ok (.iload_n 1, 1) := by decide +kernel
theorem dX7_downSetsOf_38 : decode cX7_downSetsOf 38 = .ok (.bipush 16, 2) := by decide +kernel
theorem dX7_downSetsOf_40 : decode cX7_downSetsOf 40 = .ok (.if_icmp .gt 12, 3) := by decide +kernel
theorem dX7_downSetsOf_43 : decode cX7_downSetsOf 43 = .ok (.aload_n 0, 1) := by decide +kernel
theorem dX7_downSetsOf_44 : decode cX7_downSetsOf 44 = .ok (.getfield 9, 3) := by decide +kernel
theorem dX7_downSetsOf_47 : decode cX7_downSetsOf 47 = .ok (.iload_n 1, 1) := by decide +kernel
theorem dX7_downSetsOf_48 : decode cX7_downSetsOf 48 = .ok (.laload, 1) := by decide +kernel
theorem dX7_downSetsOf_49 : decode cX7_downSetsOf 49 = .ok (.goto 4, 3) := by decide +kernel
theorem dX7_downSetsOf_52 : decode cX7_downSetsOf 52 = .ok (.lconst 0, 1) := by decide +kernel
theorem dX7_downSetsOf_53 : decode cX7_downSetsOf 53 = .ok (.lreturn, 1) := by decide +kernel
theorem dX7_addDownSets_0 : decode cX7_addDownSets 0 = .ok (.aload_n 0, 1) := by decide +kernel
theorem dX7_addDownSets_1 : decode cX7_addDownSets 1 = .ok (.iload_n 1, 1) := by decide +kernel
theorem dX7_addDownSets_2 : decode cX7_addDownSets 2 = .ok (.invokevirtual 60, 3) := by decide +kernel
theorem dX7_addDownSets_5 : decode cX7_addDownSets 5 = .ok (.istore 4, 2) := by decide +kernel
theorem dX7_addDownSets_7 : decode cX7_addDownSets 7 = .ok (.iload 4, 2) := by decide +kernel
theorem dX7_addDownSets_9 : decode cX7_addDownSets 9 = .ok (.ifCond .lt 9, 3) := by decide +kernel
theorem dX7_addDownSets_12 : decode cX7_addDownSets 12 = .ok (.iload_n 3, 1) := by decide +kernel
theorem dX7_addDownSets_13 : decode cX7_addDownSets 13 = .ok (.bipush 16, 2) := by decide +kernel
theorem dX7_addDownSets_15 : decode cX7_addDownSets 15 = .ok (.if_icmp .le 60, 3) := by decide +kernel
theorem dX7_addDownSets_18 : decode cX7_addDownSets 18 = .ok (.iload_n 1, 1) := by decide +kernel
theorem dX7_addDownSets_19 : decode cX7_addDownSets 19 = .ok (.invokestatic 64, 3) := by decide +kernel
theorem dX7_addDownSets_22 : decode cX7_addDownSets 22 = .ok (.istore 5, 2) := by decide +kernel
theorem dX7_addDownSets_24 : decode cX7_addDownSets 24 = .ok (.aload_n 0, 1) := by decide +kernel
theorem dX7_addDownSets_25 : decode cX7_addDownSets 25 = .ok (.iload 5, 2) := by decide +kernel
theorem dX7_addDownSets_27 : decode cX7_addDownSets 27 = .ok (.invokevirtual 69, 3) := by decide +kernel
theorem dX7_addDownSets_30 : decode cX7_addDownSets 30 = .ok (.iconst 0, 1) := by decide +kernel
theorem dX7_addDownSets_31 : decode cX7_addDownSets 31 = .ok (.istore 6, 2) := by decide +kernel
theorem dX7_addDownSets_33 : decode cX7_addDownSets 33 = .ok (.iload 6, 2) := by decide +kernel
theorem dX7_addDownSets_35 : decode cX7_addDownSets 35 = .ok (.iload 5, 2) := by decide +kernel
theorem dX7_addDownSets_37 : decode cX7_addDownSets 37 = .ok (.if_icmp .gt 37, 3) := by decide +kernel
theorem dX7_addDownSets_40 : decode cX7_addDownSets 40 = .ok (.iload_n 2, 1) := by decide +kernel
theorem dX7_addDownSets_41 : decode cX7_addDownSets 41 = .ok (.iload 6, 2) := by decide +kernel
theorem dX7_addDownSets_43 : decode cX7_addDownSets 43 = .ok (.iadd, 1) := by decide +kernel
theorem dX7_addDownSets_44 : decode cX7_addDownSets 44 = .ok (.bipush 16, 2) := by decide +kernel
theorem dX7_addDownSets_46 : decode cX7_addDownSets 46 = .ok (.if_icmp .gt 28, 3) := by decide +kernel
theorem dX7_addDownSets_49 : decode cX7_addDownSets 49 = .ok (.aload_n 0, 1) := by decide +kernel
theorem dX7_addDownSets_50 : decode cX7_addDownSets 50 = .ok (.getfield 9, 3) := by decide +kernel
theorem dX7_addDownSets_53 : decode cX7_addDownSets 53 = .ok (.iload_n 2, 1) := by decide +kernel
theorem dX7_addDownSets_54 : decode cX7_addDownSets 54 = .ok (.iload 6, 2) := by decide +kernel
theorem dX7_addDownSets_56 : decode cX7_addDownSets 56 = .ok (.iadd, 1) := by decide +kernel
theorem dX7_addDownSets_57 : decode cX7_addDownSets 57 = .ok (.dup2, 1) := by decide +kernel
theorem dX7_addDownSets_58 : decode cX7_addDownSets 58 = .ok (.laload, 1) := by decide +kernel
theorem dX7_addDownSets_59 : decode cX7_addDownSets 59 = .ok (.aload_n 0, 1) := by decide +kernel
theorem dX7_addDownSets_60 : decode cX7_addDownSets 60 = .ok (.getfield 15, 3) := by decide +kernel
theorem dX7_addDownSets_63 : decode cX7_addDownSets 63 = .ok (.iload 6, 2) := by decide +kernel
theorem dX7_addDownSets_65 : decode cX7_addDownSets 65 = .ok (.laload, 1) := by decide +kernel
theorem dX7_addDownSets_66 : decode cX7_addDownSets 66 = .ok (.ladd, 1) := by decide +kernel
theorem dX7_addDownSets_67 : decode cX7_addDownSets 67 = .ok (.lastore, 1) := by decide +kernel
theorem dX7_addDownSets_68 : decode cX7_addDownSets 68 = .ok (.iinc 6 1, 3) := by decide +kernel
theorem dX7_addDownSets_71 : decode cX7_addDownSets 71 = .ok (.goto (-38), 3) := by decide +kernel
theorem dX7_addDownSets_74 : decode cX7_addDownSets 74 = .ok (.return_, 1) := by decide +kernel
theorem dX7_addDownSets_75 : decode cX7_addDownSets 75 = .ok (.iload_n 1, 1) := by decide +kernel
theorem dX7_addDownSets_76 : decode cX7_addDownSets 76 = .ok (.aload_n 0, 1) := by decide +kernel
theorem dX7_addDownSets_77 : decode cX7_addDownSets 77 = .ok (.getfield 25, 3) := by decide +kernel
theorem dX7_addDownSets_80 : decode cX7_addDownSets 80 = .ok (.iload 4, 2) := by decide +kernel
theorem dX7_addDownSets_82 : decode cX7_addDownSets 82 = .ok (.invokevirtual 73, 3) := by decide +kernel
theorem dX7_addDownSets_85 : decode cX7_addDownSets 85 = .ok (.iand, 1) := by decide +kernel
theorem dX7_addDownSets_86 : decode cX7_addDownSets 86 = .ok (.istore 5, 2) := by decide +kernel
theorem dX7_addDownSets_88 : decode cX7_addDownSets 88 = .ok (.aload_n 0, 1) := by decide +kernel
theorem dX7_addDownSets_89 : decode cX7_addDownSets 89 = .ok (.iload_n 1, 1) := by decide +kernel
theorem dX7_addDownSets_90 : decode cX7_addDownSets 90 = .ok (.iload 5, 2) := by decide +kernel
theorem dX7_addDownSets_92 : decode cX7_addDownSets 92 = .ok (.iconst (-1), 1) := by decide +kernel
theorem dX7_addDownSets_93 : decode cX7_addDownSets 93 = .ok (.ixor, 1) := by decide +kernel
theorem dX7_addDownSets_94 : decode cX7_addDownSets 94 = .ok (.iand, 1) := by decide +kernel
theorem dX7_addDownSets_95 : decode cX7_addDownSets 95 = .ok (.iload_n 2, 1) := by decide +kernel
theorem dX7_addDownSets_96 : decode cX7_addDownSets 96 = .ok (.iload 5, 2) := by decide +kernel
theorem dX7_addDownSets_98 : decode cX7_addDownSets 98 = .ok (.invokestatic 64, 3) := by decide +kernel
theorem dX7_addDownSets_101 : decode cX7_addDownSets 101 = .ok (.iadd, 1) := by decide +kernel
theorem dX7_addDownSets_102 : decode cX7_addDownSets 102 = .ok (.iload_n 3, 1) := by decide +kernel
theorem dX7_addDownSets_103 : decode cX7_addDownSets 103 = .ok (.iconst 1, 1) := by decide +kernel
theorem dX7_addDownSets_104 : decode cX7_addDownSets 104 = .ok (.iadd, 1) := by decide +kernel
theorem dX7_addDownSets_105 : decode cX7_addDownSets 105 = .ok (.invokevirtual 56, 3) := by decide +kernel
theorem dX7_addDownSets_108 : decode cX7_addDownSets 108 = .ok (.aload_n 0, 1) := by decide +kernel
theorem dX7_addDownSets_109 : decode cX7_addDownSets 109 = .ok (.iload_n 1, 1) := by decide +kernel
theorem dX7_addDownSets_110 : decode cX7_addDownSets 110 = .ok (.aload_n 0, 1) := by decide +kernel
theorem dX7_addDownSets_111 : decode cX7_addDownSets 111 = .ok (.getfield 25, 3) := by decide +kernel
theorem dX7_addDownSets_114 : decode cX7_addDownSets 114 = .ok (.iload 4, 2) := by decide +kernel
theorem dX7_addDownSets_116 : decode cX7_addDownSets 116 = .ok (.invokevirtual 76, 3) := by decide +kernel
theorem dX7_addDownSets_119 : decode cX7_addDownSets 119 = .ok (.iconst (-1), 1) := by decide +kernel
theorem dX7_addDownSets_120 : decode cX7_addDownSets 120 = .ok (.ixor, 1) := by decide +kernel
theorem dX7_addDownSets_121 : decode cX7_addDownSets 121 = .ok (.iand, 1) := by decide +kernel
theorem dX7_addDownSets_122 : decode cX7_addDownSets 122 = .ok (.iload_n 2, 1) := by decide +kernel
theorem dX7_addDownSets_123 : decode cX7_addDownSets 123 = .ok (.iload_n 3, 1) := by decide +kernel
theorem dX7_addDownSets_124 : decode cX7_addDownSets 124 = .ok (.iconst 1, 1) := by decide +kernel
theorem dX7_addDownSets_125 : decode cX7_addDownSets 125 = .ok (.iadd, 1) := by decide +kernel
theorem dX7_addDownSets_126 : decode cX7_addDownSets 126 = .ok (.invokevirtual 56, 3) := by decide +kernel
theorem dX7_addDownSets_129 : decode cX7_addDownSets 129 = .ok (.return_, 1) := by decide +kernel
theorem dX7_fillChoices_0 : decode cX7_fillChoices 0 = .ok (.aload_n 0, 1) := by decide +kernel
theorem dX7_fillChoices_1 : decode cX7_fillChoices 1 = .ok (.getfield 15, 3) := by decide +kernel
theorem dX7_fillChoices_4 : decode cX7_fillChoices 4 = .ok (.lconst 0, 1) := by decide +kernel
theorem dX7_fillChoices_5 : decode cX7_fillChoices 5 = .ok (.invokestatic 46, 3) := by decide +kernel
theorem dX7_fillChoices_8 : decode cX7_fillChoices 8 = .ok (.aload_n 0, 1) := by decide +kernel
theorem dX7_fillChoices_9 : decode cX7_fillChoices 9 = .ok (.getfield 15, 3) := by decide +kernel
theorem dX7_fillChoices_12 : decode cX7_fillChoices 12 = .ok (.iconst 0, 1) := by decide +kernel
theorem dX7_fillChoices_13 : decode cX7_fillChoices 13 = .ok (.lconst 1, 1) := by decide +kernel
theorem dX7_fillChoices_14 : decode cX7_fillChoices 14 = .ok (.lastore, 1) := by decide +kernel
theorem dX7_fillChoices_15 : decode cX7_fillChoices 15 = .ok (.iconst 0, 1) := by decide +kernel
theorem dX7_fillChoices_16 : decode cX7_fillChoices 16 = .ok (.istore_n 2, 1) := by decide +kernel
theorem dX7_fillChoices_17 : decode cX7_fillChoices 17 = .ok (.iload_n 2, 1) := by decide +kernel
theorem dX7_fillChoices_18 : decode cX7_fillChoices 18 = .ok (.iload_n 1, 1) := by decide +kernel
theorem dX7_fillChoices_19 : decode cX7_fillChoices 19 = .ok (.if_icmp .ge 39, 3) := by decide +kernel
theorem dX7_fillChoices_22 : decode cX7_fillChoices 22 = .ok (.bipush 16, 2) := by decide +kernel
theorem dX7_fillChoices_24 : decode cX7_fillChoices 24 = .ok (.istore_n 3, 1) := by decide +kernel
theorem dX7_fillChoices_25 : decode cX7_fillChoices 25 = .ok (.iload_n 3, 1) := by decide +kernel
theorem dX7_fillChoices_26 : decode cX7_fillChoices 26 = .ok (.ifCond .le 26, 3) := by decide +kernel
theorem dX7_fillChoices_29 : decode cX7_fillChoices 29 = .ok (.aload_n 0, 1) := by decide +kernel
theorem dX7_fillChoices_30 : decode cX7_fillChoices 30 = .ok (.getfield 15, 3) := by decide +kernel
theorem dX7_fillChoices_33 : decode cX7_fillChoices 33 = .ok (.iload_n 3, 1) := by decide +kernel
theorem dX7_fillChoices_34 : decode cX7_fillChoices 34 = .ok (.dup2, 1) := by decide +kernel
theorem dX7_fillChoices_35 : decode cX7_fillChoices 35 = .ok (.laload, 1) := by decide +kernel
theorem dX7_fillChoices_36 : decode cX7_fillChoices 36 = .ok (.aload_n 0, 1) := by decide +kernel
theorem dX7_fillChoices_37 : decode cX7_fillChoices 37 = .ok (.getfield 15, 3) := by decide +kernel
theorem dX7_fillChoices_40 : decode cX7_fillChoices 40 = .ok (.iload_n 3, 1) := by decide +kernel
theorem dX7_fillChoices_41 : decode cX7_fillChoices 41 = .ok (.iconst 1, 1) := by decide +kernel
theorem dX7_fillChoices_42 : decode cX7_fillChoices 42 = .ok (.isub, 1) := by decide +kernel
theorem dX7_fillChoices_43 : decode cX7_fillChoices 43 = .ok (.laload, 1) := by decide +kernel
theorem dX7_fillChoices_44 : decode cX7_fillChoices 44 = .ok (.ladd, 1) := by decide +kernel
theorem dX7_fillChoices_45 : decode cX7_fillChoices 45 = .ok (.lastore, 1) := by decide +kernel
theorem dX7_fillChoices_46 : decode cX7_fillChoices 46 = .ok (.iinc 3 (-1), 3) := by decide +kernel
theorem dX7_fillChoices_49 : decode cX7_fillChoices 49 = .ok (.goto (-24), 3) := by decide +kernel
theorem dX7_fillChoices_52 : decode cX7_fillChoices 52 = .ok (.iinc 2 1, 3) := by decide +kernel
theorem dX7_fillChoices_55 : decode cX7_fillChoices 55 = .ok (.goto (-38), 3) := by decide +kernel
theorem dX7_fillChoices_58 : decode cX7_fillChoices 58 = .ok (.return_, 1) := by decide +kernel
theorem dX7_comparable_0 : decode cX7_comparable 0 = .ok (.aload_n 0, 1) := by decide +kernel
theorem dX7_comparable_1 : decode cX7_comparable 1 = .ok (.getfield 25, 3) := by decide +kernel
theorem dX7_comparable_4 : decode cX7_comparable 4 = .ok (.getfield 79, 3) := by decide +kernel
theorem dX7_comparable_7 : decode cX7_comparable 7 = .ok (.iload_n 1, 1) := by decide +kernel
theorem dX7_comparable_8 : decode cX7_comparable 8 = .ok (.iaload, 1) := by decide +kernel
theorem dX7_comparable_9 : decode cX7_comparable 9 = .ok (.aload_n 0, 1) := by decide +kernel
theorem dX7_comparable_10 : decode cX7_comparable 10 = .ok (.getfield 25, 3) := by decide +kernel
theorem dX7_comparable_13 : decode cX7_comparable 13 = .ok (.getfield 82, 3) := by decide +kernel
theorem dX7_comparable_16 : decode cX7_comparable 16 = .ok (.iload_n 1, 1) := by decide +kernel
theorem dX7_comparable_17 : decode cX7_comparable 17 = .ok (.iaload, 1) := by decide +kernel
theorem dX7_comparable_18 : decode cX7_comparable 18 = .ok (.ior, 1) := by decide +kernel
theorem dX7_comparable_19 : decode cX7_comparable 19 = .ok (.ireturn, 1) := by decide +kernel
theorem dX7_busiestOf_0 : decode cX7_busiestOf 0 = .ok (.iconst (-1), 1) := by decide +kernel
theorem dX7_busiestOf_1 : decode cX7_busiestOf 1 = .ok (.istore_n 2, 1) := by decide +kernel
theorem dX7_busiestOf_2 : decode cX7_busiestOf 2 = .ok (.iconst 0, 1) := by decide +kernel
theorem dX7_busiestOf_3 : decode cX7_busiestOf 3 = .ok (.istore_n 3, 1) := by decide +kernel
theorem dX7_busiestOf_4 : decode cX7_busiestOf 4 = .ok (.iconst 0, 1) := by decide +kernel
theorem dX7_busiestOf_5 : decode cX7_busiestOf 5 = .ok (.istore 4, 2) := by decide +kernel
theorem dX7_busiestOf_7 : decode cX7_busiestOf 7 = .ok (.iload 4, 2) := by decide +kernel
theorem dX7_busiestOf_9 : decode cX7_busiestOf 9 = .ok (.aload_n 0, 1) := by decide +kernel
theorem dX7_busiestOf_10 : decode cX7_busiestOf 10 = .ok (.getfield 25, 3) := by decide +kernel
theorem dX7_busiestOf_13 : decode cX7_busiestOf 13 = .ok (.getfield 36, 3) := by decide +kernel
theorem dX7_busiestOf_16 : decode cX7_busiestOf 16 = .ok (.if_icmp .ge 44, 3) := by decide +kernel
theorem dX7_busiestOf_19 : decode cX7_busiestOf 19 = .ok (.iload_n 1, 1) := by decide +kernel
theorem dX7_busiestOf_20 : decode cX7_busiestOf 20 = .ok (.aload_n 0, 1) := by decide +kernel
theorem dX7_busiestOf_21 : decode cX7_busiestOf 21 = .ok (.iload 4, 2) := by decide +kernel
theorem dX7_busiestOf_23 : decode cX7_busiestOf 23 = .ok (.invokevirtual 85, 3) := by decide +kernel
theorem dX7_busiestOf_26 : decode cX7_busiestOf 26 = .ok (.iand, 1) := by decide +kernel
theorem dX7_busiestOf_27 : decode cX7_busiestOf 27 = .ok (.invokestatic 64, 3) := by decide +kernel
theorem dX7_busiestOf_30 : decode cX7_busiestOf 30 = .ok (.istore 5, 2) := by decide +kernel
theorem dX7_busiestOf_32 : decode cX7_busiestOf 32 = .ok (.iload_n 1, 1) := by decide +kernel
theorem dX7_busiestOf_33 : decode cX7_busiestOf 33 = .ok (.iload 4, 2) := by decide +kernel
theorem dX7_busiestOf_35 : decode cX7_busiestOf 35 = .ok (.ishr, 1) := by decide +kernel
theorem dX7_busiestOf_36 : decode cX7_busiestOf 36 = .ok (.iconst 1, 1) := by decide +kernel
theorem dX7_busiestOf_37 : decode cX7_busiestOf 37 = .ok (.iand, 1) := by decide +kernel
theorem dX7_busiestOf_38 : decode cX7_busiestOf 38 = .ok (.iconst 1, 1) := by decide +kernel
theorem dX7_busiestOf_39 : decode cX7_busiestOf 39 = .ok (.if_icmp .ne 15, 3) := by decide +kernel
theorem dX7_busiestOf_42 : decode cX7_busiestOf 42 = .ok (.iload 5, 2) := by decide +kernel
theorem dX7_busiestOf_44 : decode cX7_busiestOf 44 = .ok (.iload_n 3, 1) := by decide +kernel
theorem dX7_busiestOf_45 : decode cX7_busiestOf 45 = .ok (.if_icmp .le 9, 3) := by decide +kernel
theorem dX7_busiestOf_48 : decode cX7_busiestOf 48 = .ok (.iload 4, 2) := by decide +kernel
theorem dX7_busiestOf_50 : decode cX7_busiestOf 50 = .ok (.istore_n 2, 1) := by decide +kernel
theorem dX7_busiestOf_51 : decode cX7_busiestOf 51 = .ok (.iload 5, 2) := by decide +kernel
theorem dX7_busiestOf_53 : decode cX7_busiestOf 53 = .ok (.istore_n 3, 1) := by decide +kernel
theorem dX7_busiestOf_54 : decode cX7_busiestOf 54 = .ok (.iinc 4 1, 3) := by decide +kernel
theorem dX7_busiestOf_57 : decode cX7_busiestOf 57 = .ok (.goto (-50), 3) := by decide +kernel
theorem dX7_busiestOf_60 : decode cX7_busiestOf 60 = .ok (.iload_n 2, 1) := by decide +kernel
theorem dX7_busiestOf_61 : decode cX7_busiestOf 61 = .ok (.ireturn, 1) := by decide +kernel
theorem dX7_widest_0 : decode cX7_widest 0 = .ok (.aload_n 0, 1) := by decide +kernel
theorem dX7_widest_1 : decode cX7_widest 1 = .ok (.aload_n 0, 1) := by decide +kernel
theorem dX7_widest_2 : decode cX7_widest 2 = .ok (.getfield 25, 3) := by decide +kernel
theorem dX7_widest_5 : decode cX7_widest 5 = .ok (.invokevirtual 52, 3) := by decide +kernel
theorem dX7_widest_8 : decode cX7_widest 8 = .ok (.iconst 0, 1) := by decide +kernel
theorem dX7_widest_9 : decode cX7_widest 9 = .ok (.invokevirtual 88, 3) := by decide +kernel
theorem dX7_widest_12 : decode cX7_widest 12 = .ok (.ireturn, 1) := by decide +kernel
theorem dX7_widestOf_0 : decode cX7_widestOf 0 = .ok (.aload_n 0, 1) := by decide +kernel
theorem dX7_widestOf_1 : decode cX7_widestOf 1 = .ok (.iload_n 1, 1) := by decide +kernel
theorem dX7_widestOf_2 : decode cX7_widestOf 2 = .ok (.invokevirtual 60, 3) := by decide +kernel
theorem dX7_widestOf_5 : decode cX7_widestOf 5 = .ok (.istore_n 3, 1) := by decide +kernel
theorem dX7_widestOf_6 : decode cX7_widestOf 6 = .ok (.iload_n 3, 1) := by decide +kernel
theorem dX7_widestOf_7 : decode cX7_widestOf 7 = .ok (.ifCond .lt 9, 3) := by decide +kernel
theorem dX7_widestOf_10 : decode cX7_widestOf 10 = .ok (.iload_n 2, 1) := by decide +kernel
theorem dX7_widestOf_11 : decode cX7_widestOf 11 = .ok (.bipush 16, 2) := by decide +kernel
theorem dX7_widestOf_13 : decode cX7_widestOf 13 = .ok (.if_icmp .le 8, 3) := by decide +kernel
theorem dX7_widestOf_16 : decode cX7_widestOf 16 = .ok (.iload_n 1, 1) := by decide +kernel
theorem dX7_widestOf_17 : decode cX7_widestOf 17 = .ok (.invokestatic 64, 3) := by decide +kernel
theorem dX7_widestOf_20 : decode cX7_widestOf 20 = .ok (.ireturn, 1) := by decide +kernel
theorem dX7_widestOf_21 : decode cX7_widestOf 21 = .ok (.iload_n 1, 1) := by decide +kernel
theorem dX7_widestOf_22 : decode cX7_widestOf 22 = .ok (.iconst 1, 1) := by decide +kernel
theorem dX7_widestOf_23 : decode cX7_widestOf 23 = .ok (.iload_n 3, 1) := by decide +kernel
theorem dX7_widestOf_24 : decode cX7_widestOf 24 = .ok (.ishl, 1) := by decide +kernel
theorem dX7_widestOf_25 : decode cX7_widestOf 25 = .ok (.iconst (-1), 1) := by decide +kernel
theorem dX7_widestOf_26 : decode cX7_widestOf 26 = .ok (.ixor, 1) := by decide +kernel
theorem dX7_widestOf_27 : decode cX7_widestOf 27 = .ok (.iand, 1) := by decide +kernel
theorem dX7_widestOf_28 : decode cX7_widestOf 28 = .ok (.istore 4, 2) := by decide +kernel
theorem dX7_widestOf_30 : decode cX7_widestOf 30 = .ok (.iconst 1, 1) := by decide +kernel
theorem dX7_widestOf_31 : decode cX7_widestOf 31 = .ok (.aload_n 0, 1) := by decide +kernel
theorem dX7_widestOf_32 : decode cX7_widestOf 32 = .ok (.iload 4, 2) := by decide +kernel
theorem dX7_widestOf_34 : decode cX7_widestOf 34 = .ok (.aload_n 0, 1) := by decide +kernel
theorem dX7_widestOf_35 : decode cX7_widestOf 35 = .ok (.iload_n 3, 1) := by decide +kernel
theorem dX7_widestOf_36 : decode cX7_widestOf 36 = .ok (.invokevirtual 85, 3) := by decide +kernel
theorem dX7_widestOf_39 : decode cX7_widestOf 39 = .ok (.iconst (-1), 1) := by decide +kernel
theorem dX7_widestOf_40 : decode cX7_widestOf 40 = .ok (.ixor, 1) := by decide +kernel
theorem dX7_widestOf_41 : decode cX7_widestOf 41 = .ok (.iand, 1) := by decide +kernel
theorem dX7_widestOf_42 : decode cX7_widestOf 42 = .ok (.iload_n 2, 1) := by decide +kernel
theorem dX7_widestOf_43 : decode cX7_widestOf 43 = .ok (.iconst 1, 1) := by decide +kernel
theorem dX7_widestOf_44 : decode cX7_widestOf 44 = .ok (.iadd, 1) := by decide +kernel
theorem dX7_widestOf_45 : decode cX7_widestOf 45 = .ok (.invokevirtual 88, 3) := by decide +kernel
theorem dX7_widestOf_48 : decode cX7_widestOf 48 = .ok (.iadd, 1) := by decide +kernel
theorem dX7_widestOf_49 : decode cX7_widestOf 49 = .ok (.istore 5, 2) := by decide +kernel
theorem dX7_widestOf_51 : decode cX7_widestOf 51 = .ok (.iload 5, 2) := by decide +kernel
theorem dX7_widestOf_53 : decode cX7_widestOf 53 = .ok (.aload_n 0, 1) := by decide +kernel
theorem dX7_widestOf_54 : decode cX7_widestOf 54 = .ok (.iload 4, 2) := by decide +kernel
theorem dX7_widestOf_56 : decode cX7_widestOf 56 = .ok (.iload_n 2, 1) := by decide +kernel
theorem dX7_widestOf_57 : decode cX7_widestOf 57 = .ok (.iconst 1, 1) := by decide +kernel
theorem dX7_widestOf_58 : decode cX7_widestOf 58 = .ok (.iadd, 1) := by decide +kernel
theorem dX7_widestOf_59 : decode cX7_widestOf 59 = .ok (.invokevirtual 88, 3) := by decide +kernel
theorem dX7_widestOf_62 : decode cX7_widestOf 62 = .ok (.invokestatic 92, 3) := by decide +kernel
theorem dX7_widestOf_65 : decode cX7_widestOf 65 = .ok (.ireturn, 1) := by decide +kernel
theorem dX7_extensions_0 : decode cX7_extensions 0 = .ok (.aload_n 0, 1) := by decide +kernel
theorem dX7_extensions_1 : decode cX7_extensions 1 = .ok (.getfield 33, 3) := by decide +kernel
theorem dX7_extensions_4 : decode cX7_extensions 4 = .ok (.ifCond .ne 24, 3) := by decide +kernel
theorem dX7_extensions_7 : decode cX7_extensions 7 = .ok (.aload_n 0, 1) := by decide +kernel
theorem dX7_extensions_8 : decode cX7_extensions 8 = .ok (.aload_n 0, 1) := by decide +kernel
theorem dX7_extensions_9 : decode cX7_extensions 9 = .ok (.aload_n 0, 1) := by decide +kernel
theorem dX7_extensions_10 : decode cX7_extensions 10 = .ok (.getfield 25, 3) := by decide +kernel
theorem dX7_extensions_13 : decode cX7_extensions 13 = .ok (.invokevirtual 52, 3) := by decide +kernel
theorem dX7_extensions_16 : decode cX7_extensions 16 = .ok (.iconst 0, 1) := by decide +kernel
theorem dX7_extensions_17 : decode cX7_extensions 17 = .ok (.invokevirtual 97, 3) := by decide +kernel
theorem dX7_extensions_20 : decode cX7_extensions 20 = .ok (.putfield 101, 3) := by decide +kernel
theorem dX7_extensions_23 : decode cX7_extensions 23 = .ok (.aload_n 0, 1) := by decide +kernel
theorem dX7_extensions_24 : decode cX7_extensions 24 = .ok (.iconst 1, 1) := by decide +kernel
theorem dX7_extensions_25 : decode cX7_extensions 25 = .ok (.putfield 33, 3) := by decide +kernel
theorem dX7_extensions_28 : decode cX7_extensions 28 = .ok (.aload_n 0, 1) := by decide +kernel
theorem dX7_extensions_29 : decode cX7_extensions 29 = .ok (.getfield 101, 3) := by decide +kernel
theorem dX7_extensions_32 : decode cX7_extensions 32 = .ok (.lreturn, 1) := by decide +kernel
theorem dX7_extensionsOf_0 : decode cX7_extensionsOf 0 = .ok (.iload_n 1, 1) := by decide +kernel
theorem dX7_extensionsOf_1 : decode cX7_extensionsOf 1 = .ok (.invokestatic 64, 3) := by decide +kernel
theorem dX7_extensionsOf_4 : decode cX7_extensionsOf 4 = .ok (.istore_n 3, 1) := by decide +kernel
theorem dX7_extensionsOf_5 : decode cX7_extensionsOf 5 = .ok (.iload_n 3, 1) := by decide +kernel
theorem dX7_extensionsOf_6 : decode cX7_extensionsOf 6 = .ok (.iconst 2, 1) := by decide +kernel
theorem dX7_extensionsOf_7 : decode cX7_extensionsOf 7 = .ok (.if_icmp .lt 9, 3) := by decide +kernel
theorem dX7_extensionsOf_10 : decode cX7_extensionsOf 10 = .ok (.iload_n 2, 1) := by decide +kernel
theorem dX7_extensionsOf_11 : decode cX7_extensionsOf 11 = .ok (.bipush 16, 2) := by decide +kernel
theorem dX7_extensionsOf_13 : decode cX7_extensionsOf 13 = .ok (.if_icmp .le 5, 3) := by decide +kernel
theorem dX7_extensionsOf_16 : decode cX7_extensionsOf 16 = .ok (.lconst 1, 1) := by decide +kernel
theorem dX7_extensionsOf_17 : decode cX7_extensionsOf 17 = .ok (.lreturn, 1) := by decide +kernel
theorem dX7_extensionsOf_18 : decode cX7_extensionsOf 18 = .ok (.aload_n 0, 1) := by decide +kernel
theorem dX7_extensionsOf_19 : decode cX7_extensionsOf 19 = .ok (.iload_n 1, 1) := by decide +kernel
theorem dX7_extensionsOf_20 : decode cX7_extensionsOf 20 = .ok (.iconst 1, 1) := by decide +kernel
theorem dX7_extensionsOf_21 : decode cX7_extensionsOf 21 = .ok (.invokevirtual 105, 3) := by decide +kernel
theorem dX7_extensionsOf_24 : decode cX7_extensionsOf 24 = .ok (.istore 4, 2) := by decide +kernel
theorem dX7_extensionsOf_26 : decode cX7_extensionsOf 26 = .ok (.iload 4, 2) := by decide +kernel
theorem dX7_extensionsOf_28 : decode cX7_extensionsOf 28 = .ok (.iload_n 1, 1) := by decide +kernel
theorem dX7_extensionsOf_29 : decode cX7_extensionsOf 29 = .ok (.if_icmp .eq 47, 3) := by decide +kernel
theorem dX7_extensionsOf_32 : decode cX7_extensionsOf 32 = .ok (.aload_n 0, 1) := by decide +kernel
theorem dX7_extensionsOf_33 : decode cX7_extensionsOf 33 = .ok (.iload_n 3, 1) := by decide +kernel
theorem dX7_extensionsOf_34 : decode cX7_extensionsOf 34 = .ok (.invokevirtual 69, 3) := by decide +kernel
theorem dX7_extensionsOf_37 : decode cX7_extensionsOf 37 = .ok (.aload_n 0, 1) := by decide +kernel
theorem dX7_extensionsOf_38 : decode cX7_extensionsOf 38 = .ok (.getfield 15, 3) := by decide +kernel
theorem dX7_extensionsOf_41 : decode cX7_extensionsOf 41 = .ok (.iload 4, 2) := by decide +kernel
theorem dX7_extensionsOf_43 : decode cX7_extensionsOf 43 = .ok (.invokestatic 64, 3) := by decide +kernel
theorem dX7_extensionsOf_46 : decode cX7_extensionsOf 46 = .ok (.laload, 1) := by decide +kernel
theorem dX7_extensionsOf_47 : decode cX7_extensionsOf 47 = .ok (.lstore 5, 2) := by decide +kernel
theorem dX7_extensionsOf_49 : decode cX7_extensionsOf 49 = .ok (.lload 5, 2) := by decide +kernel
theorem dX7_extensionsOf_51 : decode cX7_extensionsOf 51 = .ok (.aload_n 0, 1) := by decide +kernel
theorem dX7_extensionsOf_52 : decode cX7_extensionsOf 52 = .ok (.iload 4, 2) := by decide +kernel
theorem dX7_extensionsOf_54 : decode cX7_extensionsOf 54 = .ok (.iload_n 2, 1) := by decide +kernel
theorem dX7_extensionsOf_55 : decode cX7_extensionsOf 55 = .ok (.iconst 1, 1) := by decide +kernel
theorem dX7_extensionsOf_56 : decode cX7_extensionsOf 56 = .ok (.iadd, 1) := by decide +kernel
theorem dX7_extensionsOf_57 : decode cX7_extensionsOf 57 = .ok (.invokevirtual 97, 3) := by decide +kernel
theorem dX7_extensionsOf_60 : decode cX7_extensionsOf 60 = .ok (.lmul, 1) := by decide +kernel
theorem dX7_extensionsOf_61 : decode cX7_extensionsOf 61 = .ok (.aload_n 0, 1) := by decide +kernel
theorem dX7_extensionsOf_62 : decode cX7_extensionsOf 62 = .ok (.iload_n 1, 1) := by decide +kernel
theorem dX7_extensionsOf_63 : decode cX7_extensionsOf 63 = .ok (.iload 4, 2) := by decide +kernel
theorem dX7_extensionsOf_65 : decode cX7_extensionsOf 65 = .ok (.iconst (-1), 1) := by decide +kernel
theorem dX7_extensionsOf_66 : decode cX7_extensionsOf 66 = .ok (.ixor, 1) := by decide +kernel
theorem dX7_extensionsOf_67 : decode cX7_extensionsOf 67 = .ok (.iand, 1) := by decide +kernel
theorem dX7_extensionsOf_68 : decode cX7_extensionsOf 68 = .ok (.iload_n 2, 1) := by decide +kernel
theorem dX7_extensionsOf_69 : decode cX7_extensionsOf 69 = .ok (.iconst 1, 1) := by decide +kernel
theorem dX7_extensionsOf_70 : decode cX7_extensionsOf 70 = .ok (.iadd, 1) := by decide +kernel
theorem dX7_extensionsOf_71 : decode cX7_extensionsOf 71 = .ok (.invokevirtual 97, 3) := by decide +kernel
theorem dX7_extensionsOf_74 : decode cX7_extensionsOf 74 = .ok (.lmul, 1) := by decide +kernel
theorem dX7_extensionsOf_75 : decode cX7_extensionsOf 75 = .ok (.lreturn, 1) := by decide +kernel
theorem dX7_extensionsOf_76 : decode cX7_extensionsOf 76 = .ok (.aload_n 0, 1) := by decide +kernel
theorem dX7_extensionsOf_77 : decode cX7_extensionsOf 77 = .ok (.iload_n 1, 1) := by decide +kernel
theorem dX7_extensionsOf_78 : decode cX7_extensionsOf 78 = .ok (.iconst 0, 1) := by decide +kernel
theorem dX7_extensionsOf_79 : decode cX7_extensionsOf 79 = .ok (.invokevirtual 105, 3) := by decide +kernel
theorem dX7_extensionsOf_82 : decode cX7_extensionsOf 82 = .ok (.istore 4, 2) := by decide +kernel
theorem dX7_extensionsOf_84 : decode cX7_extensionsOf 84 = .ok (.iload 4, 2) := by decide +kernel
theorem dX7_extensionsOf_86 : decode cX7_extensionsOf 86 = .ok (.iload_n 1, 1) := by decide +kernel
theorem dX7_extensionsOf_87 : decode cX7_extensionsOf 87 = .ok (.if_icmp .eq 27, 3) := by decide +kernel
theorem dX7_extensionsOf_90 : decode cX7_extensionsOf 90 = .ok (.aload_n 0, 1) := by decide +kernel
theorem dX7_extensionsOf_91 : decode cX7_extensionsOf 91 = .ok (.iload 4, 2) := by decide +kernel
theorem dX7_extensionsOf_93 : decode cX7_extensionsOf 93 = .ok (.iload_n 2, 1) := by decide +kernel
theorem dX7_extensionsOf_94 : decode cX7_extensionsOf 94 = .ok (.iconst 1, 1) := by decide +kernel
theorem dX7_extensionsOf_95 : decode cX7_extensionsOf 95 = .ok (.iadd, 1) := by decide +kernel
theorem dX7_extensionsOf_96 : decode cX7_extensionsOf 96 = .ok (.invokevirtual 97, 3) := by decide +kernel
theorem dX7_extensionsOf_99 : decode cX7_extensionsOf 99 = .ok (.aload_n 0, 1) := by decide +kernel
theorem dX7_extensionsOf_100 : decode cX7_extensionsOf 100 = .ok (.iload_n 1, 1) := by decide +kernel
theorem dX7_extensionsOf_101 : decode cX7_extensionsOf 101 = .ok (.iload 4, 2) := by decide +kernel
theorem dX7_extensionsOf_103 : decode cX7_extensionsOf 103 = .ok (.iconst (-1), 1) := by decide +kernel
theorem dX7_extensionsOf_104 : decode cX7_extensionsOf 104 = .ok (.ixor, 1) := by decide +kernel
theorem dX7_extensionsOf_105 : decode cX7_extensionsOf 105 = .ok (.iand, 1) := by decide +kernel
theorem dX7_extensionsOf_106 : decode cX7_extensionsOf 106 = .ok (.iload_n 2, 1) := by decide +kernel
theorem dX7_extensionsOf_107 : decode cX7_extensionsOf 107 = .ok (.iconst 1, 1) := by decide +kernel
theorem dX7_extensionsOf_108 : decode cX7_extensionsOf 108 = .ok (.iadd, 1) := by decide +kernel
theorem dX7_extensionsOf_109 : decode cX7_extensionsOf 109 = .ok (.invokevirtual 97, 3) := by decide +kernel
theorem dX7_extensionsOf_112 : decode cX7_extensionsOf 112 = .ok (.lmul, 1) := by decide +kernel
theorem dX7_extensionsOf_113 : decode cX7_extensionsOf 113 = .ok (.lreturn, 1) := by decide +kernel
theorem dX7_extensionsOf_114 : decode cX7_extensionsOf 114 = .ok (.aload_n 0, 1) := by decide +kernel
theorem dX7_extensionsOf_115 : decode cX7_extensionsOf 115 = .ok (.iload_n 1, 1) := by decide +kernel
theorem dX7_extensionsOf_116 : decode cX7_extensionsOf 116 = .ok (.invokevirtual 109, 3) := by decide +kernel
theorem dX7_extensionsOf_119 : decode cX7_extensionsOf 119 = .ok (.lreturn, 1) := by decide +kernel
theorem dX7_connected_0 : decode cX7_connected 0 = .ok (.iload_n 1, 1) := by decide +kernel
theorem dX7_connected_1 : decode cX7_connected 1 = .ok (.iload_n 1, 1) := by decide +kernel
theorem dX7_connected_2 : decode cX7_connected 2 = .ok (.ineg, 1) := by decide +kernel
theorem dX7_connected_3 : decode cX7_connected 3 = .ok (.iand, 1) := by decide +kernel
theorem dX7_connected_4 : decode cX7_connected 4 = .ok (.istore_n 3, 1) := by decide +kernel
theorem dX7_connected_5 : decode cX7_connected 5 = .ok (.iconst 0, 1) := by decide +kernel
theorem dX7_connected_6 : decode cX7_connected 6 = .ok (.istore 4, 2) := by decide +kernel
theorem dX7_connected_8 : decode cX7_connected 8 = .ok (.iload 4, 2) := by decide +kernel
theorem dX7_connected_10 : decode cX7_connected 10 = .ok (.bipush 16, 2) := by decide +kernel
theorem dX7_connected_12 : decode cX7_connected 12 = .ok (.if_icmp .ge 66, 3) := by decide +kernel
theorem dX7_connected_15 : decode cX7_connected 15 = .ok (.iconst 0, 1) := by decide +kernel
theorem dX7_connected_16 : decode cX7_connected 16 = .ok (.istore 5, 2) := by decide +kernel
theorem dX7_connected_18 : decode cX7_connected 18 = .ok (.iload 5, 2) := by decide +kernel
theorem dX7_connected_20 : decode cX7_connected 20 = .ok (.aload_n 0, 1) := by decide +kernel
theorem dX7_connected_21 : decode cX7_connected 21 = .ok (.getfield 25, 3) := by decide +kernel
theorem dX7_connected_24 : decode cX7_connected 24 = .ok (.getfield 36, 3) := by decide +kernel
theorem dX7_connected_27 : decode cX7_connected 27 = .ok (.if_icmp .ge 45, 3) := by decide +kernel
theorem dX7_connected_30 : decode cX7_connected 30 = .ok (.iload_n 3, 1) := by decide +kernel
theorem dX7_connected_31 : decode cX7_connected 31 = .ok (.iload 5, 2) := by decide +kernel
theorem dX7_connected_33 : decode cX7_connected 33 = .ok (.ishr, 1) := by decide +kernel
theorem dX7_connected_34 : decode cX7_connected 34 = .ok (.iconst 1, 1) := by decide +kernel
theorem dX7_connected_35 : decode cX7_connected 35 = .ok (.iand, 1) := by decide +kernel
theorem dX7_connected_36 : decode cX7_connected 36 = .ok (.iconst 1, 1) := by decide +kernel
theorem dX7_connected_37 : decode cX7_connected 37 = .ok (.if_icmp .ne 29, 3) := by decide +kernel
theorem dX7_connected_40 : decode cX7_connected 40 = .ok (.iload_n 3, 1) := by decide +kernel
theorem dX7_connected_41 : decode cX7_connected 41 = .ok (.iload_n 1, 1) := by decide +kernel
theorem dX7_connected_42 : decode cX7_connected 42 = .ok (.iload_n 2, 1) := by decide +kernel
theorem dX7_connected_43 : decode cX7_connected 43 = .ok (.ifCond .eq 12, 3) := by decide +kernel
theorem dX7_connected_46 : decode cX7_connected 46 = .ok (.aload_n 0, 1) := by decide +kernel
theorem dX7_connected_47 : decode cX7_connected 47 = .ok (.iload 5, 2) := by decide +kernel
theorem dX7_connected_49 : decode cX7_connected 49 = .ok (.invokevirtual 85, 3) := by decide +kernel
theorem dX7_connected_52 : decode cX7_connected 52 = .ok (.goto 11, 3) := by decide +kernel
theorem dX7_connected_55 : decode cX7_connected 55 = .ok (.aload_n 0, 1) := by decide +kernel
theorem dX7_connected_56 : decode cX7_connected 56 = .ok (.iload 5, 2) := by decide +kernel
theorem dX7_connected_58 : decode cX7_connected 58 = .ok (.invokevirtual 85, 3) := by decide +kernel
theorem dX7_connected_61 : decode cX7_connected 61 = .ok (.iconst (-1), 1) := by decide +kernel
theorem dX7_connected_62 : decode cX7_connected 62 = .ok (.ixor, 1) := by decide +kernel
theorem dX7_connected_63 : decode cX7_connected 63 = .ok (.iand, 1) := by decide +kernel
theorem dX7_connected_64 : decode cX7_connected 64 = .ok (.ior, 1) := by decide +kernel
theorem dX7_connected_65 : decode cX7_connected 65 = .ok (.istore_n 3, 1) := by decide +kernel
theorem dX7_connected_66 : decode cX7_connected 66 = .ok (.iinc 5 1, 3) := by decide +kernel
theorem dX7_connected_69 : decode cX7_connected 69 = .ok (.goto (-51), 3) := by decide +kernel
theorem dX7_connected_72 : decode cX7_connected 72 = .ok (.iinc 4 1, 3) := by decide +kernel
theorem dX7_connected_75 : decode cX7_connected 75 = .ok (.goto (-67), 3) := by decide +kernel
theorem dX7_connected_78 : decode cX7_connected 78 = .ok (.iload_n 3, 1) := by decide +kernel
theorem dX7_connected_79 : decode cX7_connected 79 = .ok (.ireturn, 1) := by decide +kernel
theorem dX7_extensionsByDownSets_0 : decode cX7_extensionsByDownSets 0 = .ok (.aload_n 0, 1) := by decide +kernel
theorem dX7_extensionsByDownSets_1 : decode cX7_extensionsByDownSets 1 = .ok (.iload_n 1, 1) := by decide +kernel
theorem dX7_extensionsByDownSets_2 : decode cX7_extensionsByDownSets 2 = .ok (.invokevirtual 112, 3) := by decide +kernel
theorem dX7_extensionsByDownSets_5 : decode cX7_extensionsByDownSets 5 = .ok (.istore_n 2, 1) := by decide +kernel
theorem dX7_extensionsByDownSets_6 : decode cX7_extensionsByDownSets 6 = .ok (.iconst 1, 1) := by decide +kernel
theorem dX7_extensionsByDownSets_7 : decode cX7_extensionsByDownSets 7 = .ok (.iload_n 2, 1) := by decide +kernel
theorem dX7_extensionsByDownSets_8 : decode cX7_extensionsByDownSets 8 = .ok (.ishl, 1) := by decide +kernel
theorem dX7_extensionsByDownSets_9 : decode cX7_extensionsByDownSets 9 = .ok (.istore_n 3, 1) := by decide +kernel
theorem dX7_extensionsByDownSets_10 : decode cX7_extensionsByDownSets 10 = .ok (.aload_n 0, 1) := by decide +kernel
theorem dX7_extensionsByDownSets_11 : decode cX7_extensionsByDownSets 11 = .ok (.getfield 22, 3) := by decide +kernel
theorem dX7_extensionsByDownSets_14 : decode cX7_extensionsByDownSets 14 = .ok (.arraylength, 1) := by decide +kernel
theorem dX7_extensionsByDownSets_15 : decode cX7_extensionsByDownSets 15 = .ok (.iload_n 3, 1) := by decide +kernel
theorem dX7_extensionsByDownSets_16 : decode cX7_extensionsByDownSets 16 = .ok (.if_icmp .ge 10, 3) := by decide +kernel
theorem dX7_extensionsByDownSets_19 : decode cX7_extensionsByDownSets 19 = .ok (.aload_n 0, 1) := by decide +kernel
theorem dX7_extensionsByDownSets_20 : decode cX7_extensionsByDownSets 20 = .ok (.iload_n 3, 1) := by decide +kernel
theorem dX7_extensionsByDownSets_21 : decode cX7_extensionsByDownSets 21 = .ok (.newarray .long, 2) := by decide +kernel
theorem dX7_extensionsByDownSets_23 : decode cX7_extensionsByDownSets 23 = .ok (.putfield 22, 3) := by decide +kernel
theorem dX7_extensionsByDownSets_26 : decode cX7_extensionsByDownSets 26 = .ok (.iconst 1, 1) := by decide +kernel
theorem dX7_extensionsByDownSets_27 : decode cX7_extensionsByDownSets 27 = .ok (.istore 4, 2) := by decide +kernel
theorem dX7_extensionsByDownSets_29 : decode cX7_extensionsByDownSets 29 = .ok (.iload 4, 2) := by decide +kernel
theorem dX7_extensionsByDownSets_31 : decode cX7_extensionsByDownSets 31 = .ok (.iload_n 3, 1) := by decide +kernel
theorem dX7_extensionsByDownSets_32 : decode cX7_extensionsByDownSets 32 = .ok (.if_icmp .ge 17, 3) := by decide +kernel
theorem dX7_extensionsByDownSets_35 : decode cX7_extensionsByDownSets 35 = .ok (.aload_n 0, 1) := by decide +kernel
theorem dX7_extensionsByDownSets_36 : decode cX7_extensionsByDownSets 36 = .ok (.getfield 22, 3) := by decide +kernel
theorem dX7_extensionsByDownSets_39 : decode cX7_extensionsByDownSets 39 = .ok (.iload 4, 2) := by decide +kernel
theorem dX7_extensionsByDownSets_41 : decode cX7_extensionsByDownSets 41 = .ok (.lconst 0, 1) := by decide +kernel
theorem dX7_extensionsByDownSets_42 : decode cX7_extensionsByDownSets 42 = .ok (.lastore, 1) := by decide +kernel
theorem dX7_extensionsByDownSets_43 : decode cX7_extensionsByDownSets 43 = .ok (.iinc 4 1, 3) := by decide +kernel
theorem dX7_extensionsByDownSets_46 : decode cX7_extensionsByDownSets 46 = .ok (.goto (-17), 3) := by decide +kernel
theorem dX7_extensionsByDownSets_49 : decode cX7_extensionsByDownSets 49 = .ok (.aload_n 0, 1) := by decide +kernel
theorem dX7_extensionsByDownSets_50 : decode cX7_extensionsByDownSets 50 = .ok (.getfield 22, 3) := by decide +kernel
theorem dX7_extensionsByDownSets_53 : decode cX7_extensionsByDownSets 53 = .ok (.iconst 0, 1) := by decide +kernel
theorem dX7_extensionsByDownSets_54 : decode cX7_extensionsByDownSets 54 = .ok (.lconst 1, 1) := by decide +kernel
theorem dX7_extensionsByDownSets_55 : decode cX7_extensionsByDownSets 55 = .ok (.lastore, 1) := by decide +kernel
theorem dX7_extensionsByDownSets_56 : decode cX7_extensionsByDownSets 56 = .ok (.iconst 0, 1) := by decide +kernel
theorem dX7_extensionsByDownSets_57 : decode cX7_extensionsByDownSets 57 = .ok (.istore 4, 2) := by decide +kernel
theorem dX7_extensionsByDownSets_59 : decode cX7_extensionsByDownSets 59 = .ok (.iload 4, 2) := by decide +kernel
theorem dX7_extensionsByDownSets_61 : decode cX7_extensionsByDownSets 61 = .ok (.iload_n 3, 1) := by decide +kernel
theorem dX7_extensionsByDownSets_62 : decode cX7_extensionsByDownSets 62 = .ok (.if_icmp .ge 83, 3) := by decide +kernel
theorem dX7_extensionsByDownSets_65 : decode cX7_extensionsByDownSets 65 = .ok (.iconst 0, 1) := by decide +kernel
theorem dX7_extensionsByDownSets_66 : decode cX7_extensionsByDownSets 66 = .ok (.istore 5, 2) := by decide +kernel
theorem dX7_extensionsByDownSets_68 : decode cX7_extensionsByDownSets 68 = .ok (.iload 5, 2) := by decide +kernel
theorem dX7_extensionsByDownSets_70 : decode cX7_extensionsByDownSets 70 = .ok (.iload_n 2, 1) := by decide +kernel
theorem dX7_extensionsByDownSets_71 : decode cX7_extensionsByDownSets 71 = .ok (.if_icmp .ge 68, 3) := by decide +kernel
theorem dX7_extensionsByDownSets_74 : decode cX7_extensionsByDownSets 74 = .ok (.aload_n 0, 1) := by decide +kernel
theorem dX7_extensionsByDownSets_75 : decode cX7_extensionsByDownSets 75 = .ok (.getfield 22, 3) := by decide +kernel
theorem dX7_extensionsByDownSets_78 : decode cX7_extensionsByDownSets 78 = .ok (.iload 4, 2) := by decide +kernel
theorem dX7_extensionsByDownSets_80 : decode cX7_extensionsByDownSets 80 = .ok (.laload, 1) := by decide +kernel
theorem dX7_extensionsByDownSets_81 : decode cX7_extensionsByDownSets 81 = .ok (.lconst 0, 1) := by decide +kernel
theorem dX7_extensionsByDownSets_82 : decode cX7_extensionsByDownSets 82 = .ok (.lcmp, 1) := by decide +kernel
theorem dX7_extensionsByDownSets_83 : decode cX7_extensionsByDownSets 83 = .ok (.ifCond .eq 56, 3) := by decide +kernel
theorem dX7_extensionsByDownSets_86 : decode cX7_extensionsByDownSets 86 = .ok (.iload 4, 2) := by decide +kernel
theorem dX7_extensionsByDownSets_88 : decode cX7_extensionsByDownSets 88 = .ok (.iload 5, 2) := by decide +kernel
theorem dX7_extensionsByDownSets_90 : decode cX7_extensionsByDownSets 90 = .ok (.ishr, 1) := by decide +kernel
theorem dX7_extensionsByDownSets_91 : decode cX7_extensionsByDownSets 91 = .ok (.iconst 1, 1) := by decide +kernel
theorem dX7_extensionsByDownSets_92 : decode cX7_extensionsByDownSets 92 = .ok (.iand, 1) := by decide +kernel
theorem dX7_extensionsByDownSets_93 : decode cX7_extensionsByDownSets 93 = .ok (.ifCond .ne 40, 3) := by decide +kernel
theorem dX7_extensionsByDownSets_96 : decode cX7_extensionsByDownSets 96 = .ok (.aload_n 0, 1) := by decide +kernel
theorem dX7_extensionsByDownSets_97 : decode cX7_extensionsByDownSets 97 = .ok (.getfield 18, 3) := by decide +kernel
theorem dX7_extensionsByDownSets_100 : decode cX7_extensionsByDownSets 100 = .ok (.iload 5, 2) := by decide +kernel
theorem dX7_extensionsByDownSets_102 : decode cX7_extensionsByDownSets 102 = .ok (.iaload, 1) := by decide +kernel
theorem dX7_extensionsByDownSets_103 : decode cX7_extensionsByDownSets 103 = .ok (.iload 4, 2) := by decide +kernel
theorem dX7_extensionsByDownSets_105 : decode cX7_extensionsByDownSets 105 = .ok (.iconst (-1), 1) := by decide +kernel
theorem dX7_extensionsByDownSets_106 : decode cX7_extensionsByDownSets 106 = .ok (.ixor, 1) := by decide +kernel
theorem dX7_extensionsByDownSets_107 : decode cX7_extensionsByDownSets 107 = .ok (.iand, 1) := by decide +kernel
theorem dX7_extensionsByDownSets_108 : decode cX7_extensionsByDownSets 108 = .ok (.ifCond .ne 25, 3) := by decide +kernel
theorem dX7_extensionsByDownSets_111 : decode cX7_extensionsByDownSets 111 = .ok (.aload_n 0, 1) := by decide +kernel
theorem dX7_extensionsByDownSets_112 : decode cX7_extensionsByDownSets 112 = .ok (.getfield 22, 3) := by decide +kernel
theorem dX7_extensionsByDownSets_115 : decode cX7_extensionsByDownSets 115 = .ok (.iload 4, 2) := by decide +kernel
theorem dX7_extensionsByDownSets_117 : decode cX7_extensionsByDownSets 117 = .ok (.iconst 1, 1) := by decide +kernel
theorem dX7_extensionsByDownSets_118 : decode cX7_extensionsByDownSets 118 = .ok (.iload 5, 2) := by decide +kernel
theorem dX7_extensionsByDownSets_120 : decode cX7_extensionsByDownSets 120 = .ok (.ishl, 1) := by decide +kernel
theorem dX7_extensionsByDownSets_121 : decode cX7_extensionsByDownSets 121 = .ok (.ior, 1) := by decide +kernel
theorem dX7_extensionsByDownSets_122 : decode cX7_extensionsByDownSets 122 = .ok (.dup2, 1) := by decide +kernel
theorem dX7_extensionsByDownSets_123 : decode cX7_extensionsByDownSets 123 = .ok (.laload, 1) := by decide +kernel
theorem dX7_extensionsByDownSets_124 : decode cX7_extensionsByDownSets 124 = .ok (.aload_n 0, 1) := by decide +kernel
theorem dX7_extensionsByDownSets_125 : decode cX7_extensionsByDownSets 125 = .ok (.getfield 22, 3) := by decide +kernel
theorem dX7_extensionsByDownSets_128 : decode cX7_extensionsByDownSets 128 = .ok (.iload 4, 2) := by decide +kernel
theorem dX7_extensionsByDownSets_130 : decode cX7_extensionsByDownSets 130 = .ok (.laload, 1) := by decide +kernel
theorem dX7_extensionsByDownSets_131 : decode cX7_extensionsByDownSets 131 = .ok (.ladd, 1) := by decide +kernel
theorem dX7_extensionsByDownSets_132 : decode cX7_extensionsByDownSets 132 = .ok (.lastore, 1) := by decide +kernel
theorem dX7_extensionsByDownSets_133 : decode cX7_extensionsByDownSets 133 = .ok (.iinc 5 1, 3) := by decide +kernel
theorem dX7_extensionsByDownSets_136 : decode cX7_extensionsByDownSets 136 = .ok (.goto (-68), 3) := by decide +kernel
theorem dX7_extensionsByDownSets_139 : decode cX7_extensionsByDownSets 139 = .ok (.iinc 4 1, 3) := by decide +kernel
theorem dX7_extensionsByDownSets_142 : decode cX7_extensionsByDownSets 142 = .ok (.goto (-83), 3) := by decide +kernel
theorem dX7_extensionsByDownSets_145 : decode cX7_extensionsByDownSets 145 = .ok (.aload_n 0, 1) := by decide +kernel
theorem dX7_extensionsByDownSets_146 : decode cX7_extensionsByDownSets 146 = .ok (.getfield 22, 3) := by decide +kernel
theorem dX7_extensionsByDownSets_149 : decode cX7_extensionsByDownSets 149 = .ok (.iload_n 3, 1) := by decide +kernel
theorem dX7_extensionsByDownSets_150 : decode cX7_extensionsByDownSets 150 = .ok (.iconst 1, 1) := by decide +kernel
theorem dX7_extensionsByDownSets_151 : decode cX7_extensionsByDownSets 151 = .ok (.isub, 1) := by decide +kernel
theorem dX7_extensionsByDownSets_152 : decode cX7_extensionsByDownSets 152 = .ok (.laload, 1) := by decide +kernel
theorem dX7_extensionsByDownSets_153 : decode cX7_extensionsByDownSets 153 = .ok (.lreturn, 1) := by decide +kernel
theorem dX7_fillNeeds_0 : decode cX7_fillNeeds 0 = .ok (.iconst 0, 1) := by decide +kernel
theorem dX7_fillNeeds_1 : decode cX7_fillNeeds 1 = .ok (.istore_n 2, 1) := by decide +kernel
theorem dX7_fillNeeds_2 : decode cX7_fillNeeds 2 = .ok (.iconst 0, 1) := by decide +kernel
theorem dX7_fillNeeds_3 : decode cX7_fillNeeds 3 = .ok (.istore_n 3, 1) := by decide +kernel
theorem dX7_fillNeeds_4 : decode cX7_fillNeeds 4 = .ok (.iload_n 3, 1) := by decide +kernel
theorem dX7_fillNeeds_5 : decode cX7_fillNeeds 5 = .ok (.aload_n 0, 1) := by decide +kernel
theorem dX7_fillNeeds_6 : decode cX7_fillNeeds 6 = .ok (.getfield 25, 3) := by decide +kernel
theorem dX7_fillNeeds_9 : decode cX7_fillNeeds 9 = .ok (.getfield 36, 3) := by decide +kernel
theorem dX7_fillNeeds_12 : decode cX7_fillNeeds 12 = .ok (.if_icmp .ge 47, 3) := by decide +kernel
theorem dX7_fillNeeds_15 : decode cX7_fillNeeds 15 = .ok (.iload_n 1, 1) := by decide +kernel
theorem dX7_fillNeeds_16 : decode cX7_fillNeeds 16 = .ok (.iload_n 3, 1) := by decide +kernel
theorem dX7_fillNeeds_17 : decode cX7_fillNeeds 17 = .ok (.ishr, 1) := by decide +kernel
theorem dX7_fillNeeds_18 : decode cX7_fillNeeds 18 = .ok (.iconst 1, 1) := by decide +kernel
theorem dX7_fillNeeds_19 : decode cX7_fillNeeds 19 = .ok (.iand, 1) := by decide +kernel
theorem dX7_fillNeeds_20 : decode cX7_fillNeeds 20 = .ok (.iconst 1, 1) := by decide +kernel
theorem dX7_fillNeeds_21 : decode cX7_fillNeeds 21 = .ok (.if_icmp .ne 32, 3) := by decide +kernel
theorem dX7_fillNeeds_24 : decode cX7_fillNeeds 24 = .ok (.aload_n 0, 1) := by decide +kernel
theorem dX7_fillNeeds_25 : decode cX7_fillNeeds 25 = .ok (.getfield 18, 3) := by decide +kernel
theorem dX7_fillNeeds_28 : decode cX7_fillNeeds 28 = .ok (.iload_n 2, 1) := by decide +kernel
theorem dX7_fillNeeds_29 : decode cX7_fillNeeds 29 = .ok (.aload_n 0, 1) := by decide +kernel
theorem dX7_fillNeeds_30 : decode cX7_fillNeeds 30 = .ok (.getfield 25, 3) := by decide +kernel
theorem dX7_fillNeeds_33 : decode cX7_fillNeeds 33 = .ok (.getfield 82, 3) := by decide +kernel
theorem dX7_fillNeeds_36 : decode cX7_fillNeeds 36 = .ok (.iload_n 3, 1) := by decide +kernel
theorem dX7_fillNeeds_37 : decode cX7_fillNeeds 37 = .ok (.iaload, 1) := by decide +kernel
theorem dX7_fillNeeds_38 : decode cX7_fillNeeds 38 = .ok (.iload_n 1, 1) := by decide +kernel
theorem dX7_fillNeeds_39 : decode cX7_fillNeeds 39 = .ok (.aload_n 0, 1) := by decide +kernel
theorem dX7_fillNeeds_40 : decode cX7_fillNeeds 40 = .ok (.getfield 25, 3) := by decide +kernel
theorem dX7_fillNeeds_43 : decode cX7_fillNeeds 43 = .ok (.getfield 36, 3) := by decide +kernel
theorem dX7_fillNeeds_46 : decode cX7_fillNeeds 46 = .ok (.invokestatic 115, 3) := by decide +kernel
theorem dX7_fillNeeds_49 : decode cX7_fillNeeds 49 = .ok (.iastore, 1) := by decide +kernel
theorem dX7_fillNeeds_50 : decode cX7_fillNeeds 50 = .ok (.iinc 2 1, 3) := by decide +kernel
theorem dX7_fillNeeds_53 : decode cX7_fillNeeds 53 = .ok (.iinc 3 1, 3) := by decide +kernel
theorem dX7_fillNeeds_56 : decode cX7_fillNeeds 56 = .ok (.goto (-52), 3) := by decide +kernel
theorem dX7_fillNeeds_59 : decode cX7_fillNeeds 59 = .ok (.iload_n 2, 1) := by decide +kernel
theorem dX7_fillNeeds_60 : decode cX7_fillNeeds 60 = .ok (.ireturn, 1) := by decide +kernel
theorem dX8_init_0 : decode cX8_init 0 = .ok (.aload_n 0, 1) := by decide +kernel
theorem dX8_init_1 : decode cX8_init 1 = .ok (.invokespecial 3, 3) := by decide +kernel
theorem dX8_init_4 : decode cX8_init 4 = .ok (.aload_n 0, 1) := by decide +kernel
theorem dX8_init_5 : decode cX8_init 5 = .ok (.bipush 16, 2) := by decide +kernel
theorem dX8_init_7 : decode cX8_init 7 = .ok (.newarray .int, 2) := by decide +kernel
theorem dX8_init_9 : decode cX8_init 9 = .ok (.putfield 9, 3) := by decide +kernel
theorem dX8_init_12 : decode cX8_init 12 = .ok (.aload_n 0, 1) := by decide +kernel
theorem dX8_init_13 : decode cX8_init 13 = .ok (.sipush 1024, 3) := by decide +kernel
theorem dX8_init_16 : decode cX8_init 16 = .ok (.newarray .long, 2) := by decide +kernel
theorem dX8_init_18 : decode cX8_init 18 = .ok (.putfield 15, 3) := by decide +kernel
theorem dX8_init_21 : decode cX8_init 21 = .ok (.aload_n 0, 1) := by decide +kernel
theorem dX8_init_22 : decode cX8_init 22 = .ok (.bipush 16, 2) := by decide +kernel
theorem dX8_init_24 : decode cX8_init 24 = .ok (.newarray .long, 2) := by decide +kernel
theorem dX8_init_26 : decode cX8_init 26 = .ok (.putfield 19, 3) := by decide +kernel
theorem dX8_init_29 : decode cX8_init 29 = .ok (.aload_n 0, 1) := by decide +kernel
theorem dX8_init_30 : decode cX8_init 30 = .ok (.bipush 16, 2) := by decide +kernel
theorem dX8_init_32 : decode cX8_init 32 = .ok (.newarray .int, 2) := by decide +kernel
theorem dX8_init_34 : decode cX8_init 34 = .ok (.putfield 22, 3) := by decide +kernel
theorem dX8_init_37 : decode cX8_init 37 = .ok (.return_, 1) := by decide +kernel
theorem dX9_init_0 : decode cX9_init 0 = .ok (.aload_n 0, 1) := by decide +kernel
theorem dX9_init_1 : decode cX9_init 1 = .ok (.invokespecial 1, 3) := by decide +kernel
theorem dX9_init_4 : decode cX9_init 4 = .ok (.return_, 1) := by decide +kernel
theorem dX9_begin_0 : decode cX9_begin 0 = .ok (.aload_n 0, 1) := by decide +kernel
theorem dX9_begin_1 : decode cX9_begin 1 = .ok (.lconst 0, 1) := by decide +kernel
theorem dX9_begin_2 : decode cX9_begin 2 = .ok (.putfield 7, 3) := by decide +kernel
theorem dX9_begin_5 : decode cX9_begin 5 = .ok (.aload_n 0, 1) := by decide +kernel
theorem dX9_begin_6 : decode cX9_begin 6 = .ok (.iconst 0, 1) := by decide +kernel
theorem dX9_begin_7 : decode cX9_begin 7 = .ok (.putfield 13, 3) := by decide +kernel
theorem dX9_begin_10 : decode cX9_begin 10 = .ok (.return_, 1) := by decide +kernel
theorem dX9_add_0 : decode cX9_add 0 = .ok (.aload_n 0, 1) := by decide +kernel
theorem dX9_add_1 : decode cX9_add 1 = .ok (.getfield 7, 3) := by decide +kernel
theorem dX9_add_4 : decode cX9_add 4 = .ok (.lload_n 1, 1) := by decide +kernel
theorem dX9_add_5 : decode cX9_add 5 = .ok (.ladd, 1) := by decide +kernel
theorem dX9_add_6 : decode cX9_add 6 = .ok (.lstore_n 3, 1) := by decide +kernel
theorem dX9_add_7 : decode cX9_add 7 = .ok (.aload_n 0, 1) := by decide +kernel
theorem dX9_add_8 : decode cX9_add 8 = .ok (.getfield 7, 3) := by decide +kernel
theorem dX9_add_11 : decode cX9_add 11 = .ok (.lload_n 3, 1) := by decide +kernel
theorem dX9_add_12 : decode cX9_add 12 = .ok (.lxor, 1) := by decide +kernel
theorem dX9_add_13 : decode cX9_add 13 = .ok (.lload_n 1, 1) := by decide +kernel
theorem dX9_add_14 : decode cX9_add 14 = .ok (.lload_n 3, 1) := by decide +kernel
theorem dX9_add_15 : decode cX9_add 15 = .ok (.lxor, 1) := by decide +kernel
theorem dX9_add_16 : decode cX9_add 16 = .ok (.land, 1) := by decide +kernel
theorem dX9_add_17 : decode cX9_add 17 = .ok (.lconst 0, 1) := by decide +kernel
theorem dX9_add_18 : decode cX9_add 18 = .ok (.lcmp, 1) := by decide +kernel
theorem dX9_add_19 : decode cX9_add 19 = .ok (.ifCond .ge 8, 3) := by decide +kernel
theorem dX9_add_22 : decode cX9_add 22 = .ok (.aload_n 0, 1) := by decide +kernel
theorem dX9_add_23 : decode cX9_add 23 = .ok (.iconst 1, 1) := by decide +kernel
theorem dX9_add_24 : decode cX9_add 24 = .ok (.putfield 13, 3) := by decide +kernel
theorem dX9_add_27 : decode cX9_add 27 = .ok (.aload_n 0, 1) := by decide +kernel
theorem dX9_add_28 : decode cX9_add 28 = .ok (.lload_n 3, 1) := by decide +kernel
theorem dX9_add_29 : decode cX9_add 29 = .ok (.putfield 7, 3) := by decide +kernel
theorem dX9_add_32 : decode cX9_add 32 = .ok (.return_, 1) := by decide +kernel
theorem dX9_subtract_0 : decode cX9_subtract 0 = .ok (.aload_n 0, 1) := by decide +kernel
theorem dX9_subtract_1 : decode cX9_subtract 1 = .ok (.getfield 7, 3) := by decide +kernel
theorem dX9_subtract_4 : decode cX9_subtract 4 = .ok (.lload_n 1, 1) := by decide +kernel
theorem dX9_subtract_5 : decode cX9_subtract 5 = .ok (.lsub, 1) := by decide +kernel
theorem dX9_subtract_6 : decode cX9_subtract 6 = .ok (.lstore_n 3, 1) := by decide +kernel
theorem dX9_subtract_7 : decode cX9_subtract 7 = .ok (.aload_n 0, 1) := by decide +kernel
theorem dX9_subtract_8 : decode cX9_subtract 8 = .ok (.getfield 7, 3) := by decide +kernel
theorem dX9_subtract_11 : decode cX9_subtract 11 = .ok (.lload_n 1, 1) := by decide +kernel
theorem dX9_subtract_12 : decode cX9_subtract 12 = .ok (.lxor, 1) := by decide +kernel
theorem dX9_subtract_13 : decode cX9_subtract 13 = .ok (.aload_n 0, 1) := by decide +kernel
theorem dX9_subtract_14 : decode cX9_subtract 14 = .ok (.getfield 7, 3) := by decide +kernel
theorem dX9_subtract_17 : decode cX9_subtract 17 = .ok (.lload_n 3, 1) := by decide +kernel
theorem dX9_subtract_18 : decode cX9_subtract 18 = .ok (.lxor, 1) := by decide +kernel
theorem dX9_subtract_19 : decode cX9_subtract 19 = .ok (.land, 1) := by decide +kernel
theorem dX9_subtract_20 : decode cX9_subtract 20 = .ok (.lconst 0, 1) := by decide +kernel
theorem dX9_subtract_21 : decode cX9_subtract 21 = .ok (.lcmp, 1) := by decide +kernel
theorem dX9_subtract_22 : decode cX9_subtract 22 = .ok (.ifCond .ge 8, 3) := by decide +kernel
theorem dX9_subtract_25 : decode cX9_subtract 25 = .ok (.aload_n 0, 1) := by decide +kernel
theorem dX9_subtract_26 : decode cX9_subtract 26 = .ok (.iconst 1, 1) := by decide +kernel
theorem dX9_subtract_27 : decode cX9_subtract 27 = .ok (.putfield 13, 3) := by decide +kernel
theorem dX9_subtract_30 : decode cX9_subtract 30 = .ok (.aload_n 0, 1) := by decide +kernel
theorem dX9_subtract_31 : decode cX9_subtract 31 = .ok (.lload_n 3, 1) := by decide +kernel
theorem dX9_subtract_32 : decode cX9_subtract 32 = .ok (.putfield 7, 3) := by decide +kernel
theorem dX9_subtract_35 : decode cX9_subtract 35 = .ok (.return_, 1) := by decide +kernel
theorem dX9_addProduct_0 : decode cX9_addProduct 0 = .ok (.lload_n 1, 1) := by decide +kernel
theorem dX9_addProduct_1 : decode cX9_addProduct 1 = .ok (.lload_n 3, 1) := by decide +kernel
theorem dX9_addProduct_2 : decode cX9_addProduct 2 = .ok (.invokestatic 17, 3) := by decide +kernel
theorem dX9_addProduct_5 : decode cX9_addProduct 5 = .ok (.ifCond .eq 8, 3) := by decide +kernel
theorem dX9_addProduct_8 : decode cX9_addProduct 8 = .ok (.aload_n 0, 1) := by decide +kernel
theorem dX9_addProduct_9 : decode cX9_addProduct 9 = .ok (.iconst 1, 1) := by decide +kernel
theorem dX9_addProduct_10 : decode cX9_addProduct 10 = .ok (.putfield 13, 3) := by decide +kernel
theorem dX9_addProduct_13 : decode cX9_addProduct 13 = .ok (.aload_n 0, 1) := by decide +kernel
theorem dX9_addProduct_14 : decode cX9_addProduct 14 = .ok (.lload_n 1, 1) := by decide +kernel
theorem dX9_addProduct_15 : decode cX9_addProduct 15 = .ok (.lload_n 3, 1) := by decide +kernel
theorem dX9_addProduct_16 : decode cX9_addProduct 16 = .ok (.lmul, 1) := by decide +kernel
theorem dX9_addProduct_17 : decode cX9_addProduct 17 = .ok (.invokevirtual 21, 3) := by decide +kernel
theorem dX9_addProduct_20 : decode cX9_addProduct 20 = .ok (.return_, 1) := by decide +kernel
theorem dX9_isTooLarge_0 : decode cX9_isTooLarge 0 = .ok (.lload_n 0, 1) := by decide +kernel
theorem dX9_isTooLarge_1 : decode cX9_isTooLarge 1 = .ok (.lload_n 0, 1) := by decide +kernel
theorem dX9_isTooLarge_2 : decode cX9_isTooLarge 2 = .ok (.l2i, 1) := by decide +kernel
theorem dX9_isTooLarge_3 : decode cX9_isTooLarge 3 = .ok (.i2l, 1) := by decide +kernel
theorem dX9_isTooLarge_4 : decode cX9_isTooLarge 4 = .ok (.lcmp, 1) := by decide +kernel
theorem dX9_isTooLarge_5 : decode cX9_isTooLarge 5 = .ok (.ifCond .ne 11, 3) := by decide +kernel
theorem dX9_isTooLarge_8 : decode cX9_isTooLarge 8 = .ok (.lload_n 2, 1) := by decide +kernel
theorem dX9_isTooLarge_9 : decode cX9_isTooLarge 9 = .ok (.lload_n 2, 1) := by decide +kernel
theorem dX9_isTooLarge_10 : decode cX9_isTooLarge 10 = .ok (.l2i, 1) := by decide +kernel
theorem dX9_isTooLarge_11 : decode cX9_isTooLarge 11 = .ok (.i2l, 1) := by decide +kernel
theorem dX9_isTooLarge_12 : decode cX9_isTooLarge 12 = .ok (.lcmp, 1) := by decide +kernel
theorem dX9_isTooLarge_13 : decode cX9_isTooLarge 13 = .ok (.ifCond .eq 9, 3) := by decide +kernel
theorem dX9_isTooLarge_16 : decode cX9_isTooLarge 16 = .ok (.lload_n 2, 1) := by decide +kernel
theorem dX9_isTooLarge_17 : decode cX9_isTooLarge 17 = .ok (.lconst 0, 1) := by decide +kernel
theorem dX9_isTooLarge_18 : decode cX9_isTooLarge 18 = .ok (.lcmp, 1) := by decide +kernel
theorem dX9_isTooLarge_19 : decode cX9_isTooLarge 19 = .ok (.ifCond .ne 5, 3) := by decide +kernel
theorem dX9_isTooLarge_22 : decode cX9_isTooLarge 22 = .ok (.iconst 0, 1) := by decide +kernel
theorem dX9_isTooLarge_23 : decode cX9_isTooLarge 23 = .ok (.ireturn, 1) := by decide +kernel
theorem dX9_isTooLarge_24 : decode cX9_isTooLarge 24 = .ok (.lload_n 2, 1) := by decide +kernel
theorem dX9_isTooLarge_25 : decode cX9_isTooLarge 25 = .ok (.ldc2_w 25, 3) := by decide +kernel
theorem dX9_isTooLarge_28 : decode cX9_isTooLarge 28 = .ok (.lcmp, 1) := by decide +kernel
theorem dX9_isTooLarge_29 : decode cX9_isTooLarge 29 = .ok (.ifCond .ne 17, 3) := by decide +kernel
theorem dX9_isTooLarge_32 : decode cX9_isTooLarge 32 = .ok (.lload_n 0, 1) := by decide +kernel
theorem dX9_isTooLarge_33 : decode cX9_isTooLarge 33 = .ok (.ldc2_w 29, 3) := by decide +kernel
theorem dX9_isTooLarge_36 : decode cX9_isTooLarge 36 = .ok (.lcmp, 1) := by decide +kernel
theorem dX9_isTooLarge_37 : decode cX9_isTooLarge 37 = .ok (.ifCond .ne 7, 3) := by decide +kernel
theorem dX9_isTooLarge_40 : decode cX9_isTooLarge 40 = .ok (.iconst 1, 1) := by decide +kernel
theorem dX9_isTooLarge_41 : decode cX9_isTooLarge 41 = .ok (.goto 4, 3) := by decide +kernel
theorem dX9_isTooLarge_44 : decode cX9_isTooLarge 44 = .ok (.iconst 0, 1) := by decide +kernel
theorem dX9_isTooLarge_45 : decode cX9_isTooLarge 45 = .ok (.ireturn, 1) := by decide +kernel
theorem dX9_isTooLarge_46 : decode cX9_isTooLarge 46 = .ok (.lload_n 0, 1) := by decide +kernel
theorem dX9_isTooLarge_47 : decode cX9_isTooLarge 47 = .ok (.lload_n 2, 1) := by decide +kernel
theorem dX9_isTooLarge_48 : decode cX9_isTooLarge 48 = .ok (.lmul, 1) := by decide +kernel
theorem dX9_isTooLarge_49 : decode cX9_isTooLarge 49 = .ok (.lload_n 2, 1) := by decide +kernel
theorem dX9_isTooLarge_50 : decode cX9_isTooLarge 50 = .ok (.ldiv, 1) := by decide +kernel
theorem dX9_isTooLarge_51 : decode cX9_isTooLarge 51 = .ok (.lload_n 0, 1) := by decide +kernel
theorem dX9_isTooLarge_52 : decode cX9_isTooLarge 52 = .ok (.lcmp, 1) := by decide +kernel
theorem dX9_isTooLarge_53 : decode cX9_isTooLarge 53 = .ok (.ifCond .eq 7, 3) := by decide +kernel
theorem dX9_isTooLarge_56 : decode cX9_isTooLarge 56 = .ok (.iconst 1, 1) := by decide +kernel
theorem dX9_isTooLarge_57 : decode cX9_isTooLarge 57 = .ok (.goto 4, 3) := by decide +kernel
theorem dX9_isTooLarge_60 : decode cX9_isTooLarge 60 = .ok (.iconst 0, 1) := by decide +kernel
theorem dX9_isTooLarge_61 : decode cX9_isTooLarge 61 = .ok (.ireturn, 1) := by decide +kernel
theorem dX10_init_0 : decode cX10_init 0 = .ok (.aload_n 0, 1) := by decide +kernel
theorem dX10_init_1 : decode cX10_init 1 = .ok (.invokespecial 3, 3) := by decide +kernel
theorem dX10_init_4 : decode cX10_init 4 = .ok (.aload_n 0, 1) := by decide +kernel
theorem dX10_init_5 : decode cX10_init 5 = .ok (.bipush 120, 2) := by decide +kernel
theorem dX10_init_7 : decode cX10_init 7 = .ok (.newarray .byte, 2) := by decide +kernel
theorem dX10_init_9 : decode cX10_init 9 = .ok (.putfield 9, 3) := by decide +kernel
theorem dX10_init_12 : decode cX10_init 12 = .ok (.return_, 1) := by decide +kernel
theorem dX10_append_0 : decode cX10_append 0 = .ok (.bipush 24, 2) := by decide +kernel
theorem dX10_append_2 : decode cX10_append 2 = .ok (.istore_n 2, 1) := by decide +kernel
theorem dX10_append_3 : decode cX10_append 3 = .ok (.iload_n 2, 1) := by decide +kernel
theorem dX10_append_4 : decode cX10_append 4 = .ok (.ifCond .lt 41, 3) := by decide +kernel
theorem dX10_append_7 : decode cX10_append 7 = .ok (.aload_n 0, 1) := by decide +kernel
theorem dX10_append_8 : decode cX10_append 8 = .ok (.getfield 15, 3) := by decide +kernel
theorem dX10_append_11 : decode cX10_append 11 = .ok (.bipush 120, 2) := by decide +kernel
theorem dX10_append_13 : decode cX10_append 13 = .ok (.if_icmp .ge 26, 3) := by decide +kernel
theorem dX10_append_16 : decode cX10_append 16 = .ok (.aload_n 0, 1) := by decide +kernel
theorem dX10_append_17 : decode cX10_append 17 = .ok (.getfield 9, 3) := by decide +kernel
theorem dX10_append_20 : decode cX10_append 20 = .ok (.aload_n 0, 1) := by decide +kernel
theorem dX10_append_21 : decode cX10_append 21 = .ok (.getfield 15, 3) := by decide +kernel
theorem dX10_append_24 : decode cX10_append 24 = .ok (.iload_n 1, 1) := by decide +kernel
theorem dX10_append_25 : decode cX10_append 25 = .ok (.iload_n 2, 1) := by decide +kernel
theorem dX10_append_26 : decode cX10_append 26 = .ok (.ishr, 1) := by decide +kernel
theorem dX10_append_27 : decode cX10_append 27 = .ok (.i2b, 1) := by decide +kernel
theorem dX10_append_28 : decode cX10_append 28 = .ok (.bastore, 1) := by decide +kernel
theorem dX10_append_29 : decode cX10_append 29 = .ok (.aload_n 0, 1) := by decide +kernel
theorem dX10_append_30 : decode cX10_append 30 = .ok (.dup, 1) := by decide +kernel
theorem dX10_append_31 : decode cX10_append 31 = .ok (.getfield 15, 3) := by decide +kernel
theorem dX10_append_34 : decode cX10_append 34 = .ok (.iconst 1, 1) := by decide +kernel
theorem dX10_append_35 : decode cX10_append 35 = .ok (.iadd, 1) := by decide +kernel
theorem dX10_append_36 : decode cX10_append 36 = .ok (.putfield 15, 3) := by decide +kernel
theorem dX10_append_39 : decode cX10_append 39 = .ok (.iinc 2 (-8), 3) := by decide +kernel
theorem dX10_append_42 : decode cX10_append 42 = .ok (.goto (-39), 3) := by decide +kernel
theorem dX10_append_45 : decode cX10_append 45 = .ok (.return_, 1) := by decide +kernel
theorem dX10_at_0 : decode cX10_at 0 = .ok (.iload_n 1, 1) := by decide +kernel
theorem dX10_at_1 : decode cX10_at 1 = .ok (.ifCond .lt 24, 3) := by decide +kernel
theorem dX10_at_4 : decode cX10_at 4 = .ok (.iload_n 1, 1) := by decide +kernel
theorem dX10_at_5 : decode cX10_at 5 = .ok (.aload_n 0, 1) := by decide +kernel
theorem dX10_at_6 : decode cX10_at 6 = .ok (.getfield 15, 3) := by decide +kernel
theorem dX10_at_9 : decode cX10_at 9 = .ok (.if_icmp .ge 16, 3) := by decide +kernel
theorem dX10_at_12 : decode cX10_at 12 = .ok (.aload_n 0, 1) := by decide +kernel
theorem dX10_at_13 : decode cX10_at 13 = .ok (.getfield 9, 3) := by decide +kernel
theorem dX10_at_16 : decode cX10_at 16 = .ok (.iload_n 1, 1) := by decide +kernel
theorem dX10_at_17 : decode cX10_at 17 = .ok (.baload, 1) := by decide +kernel
theorem dX10_at_18 : decode cX10_at 18 = .ok (.sipush 255, 3) := by decide +kernel
theorem dX10_at_21 : decode cX10_at 21 = .ok (.iand, 1) := by decide +kernel
theorem dX10_at_22 : decode cX10_at 22 = .ok (.goto 4, 3) := by decide +kernel
theorem dX10_at_25 : decode cX10_at 25 = .ok (.iconst (-1), 1) := by decide +kernel
theorem dX10_at_26 : decode cX10_at 26 = .ok (.ireturn, 1) := by decide +kernel
theorem dX10_isDigitAt_0 : decode cX10_isDigitAt 0 = .ok (.aload_n 0, 1) := by decide +kernel
theorem dX10_isDigitAt_1 : decode cX10_isDigitAt 1 = .ok (.iload_n 1, 1) := by decide +kernel
theorem dX10_isDigitAt_2 : decode cX10_isDigitAt 2 = .ok (.invokevirtual 19, 3) := by decide +kernel
theorem dX10_isDigitAt_5 : decode cX10_isDigitAt 5 = .ok (.istore_n 2, 1) := by decide +kernel
theorem dX10_isDigitAt_6 : decode cX10_isDigitAt 6 = .ok (.iload_n 2, 1) := by decide +kernel
theorem dX10_isDigitAt_7 : decode cX10_isDigitAt 7 = .ok (.bipush 48, 2) := by decide +kernel
theorem dX10_isDigitAt_9 : decode cX10_isDigitAt 9 = .ok (.if_icmp .lt 13, 3) := by decide +kernel
theorem dX10_isDigitAt_12 : decode cX10_isDigitAt 12 = .ok (.iload_n 2, 1) := by decide +kernel
theorem dX10_isDigitAt_13 : decode cX10_isDigitAt 13 = .ok (.bipush 57, 2) := by decide +kernel
theorem dX10_isDigitAt_15 : decode cX10_isDigitAt 15 = .ok (.if_icmp .gt 7, 3) := by decide +kernel
theorem dX10_isDigitAt_18 : decode cX10_isDigitAt 18 = .ok (.iconst 1, 1) := by decide +kernel
theorem dX10_isDigitAt_19 : decode cX10_isDigitAt 19 = .ok (.goto 4, 3) := by decide +kernel
theorem dX10_isDigitAt_22 : decode cX10_isDigitAt 22 = .ok (.iconst 0, 1) := by decide +kernel
theorem dX10_isDigitAt_23 : decode cX10_isDigitAt 23 = .ok (.ireturn, 1) := by decide +kernel
theorem dX10_isLetterAt_0 : decode cX10_isLetterAt 0 = .ok (.aload_n 0, 1) := by decide +kernel
theorem dX10_isLetterAt_1 : decode cX10_isLetterAt 1 = .ok (.iload_n 1, 1) := by decide +kernel
theorem dX10_isLetterAt_2 : decode cX10_isLetterAt 2 = .ok (.invokevirtual 19, 3) := by decide +kernel
theorem dX10_isLetterAt_5 : decode cX10_isLetterAt 5 = .ok (.istore_n 2, 1) := by decide +kernel
theorem dX10_isLetterAt_6 : decode cX10_isLetterAt 6 = .ok (.iload_n 2, 1) := by decide +kernel
theorem dX10_isLetterAt_7 : decode cX10_isLetterAt 7 = .ok (.bipush 97, 2) := by decide +kernel
theorem dX10_isLetterAt_9 : decode cX10_isLetterAt 9 = .ok (.if_icmp .lt 13, 3) := by decide +kernel
theorem dX10_isLetterAt_12 : decode cX10_isLetterAt 12 = .ok (.iload_n 2, 1) := by decide +kernel
theorem dX10_isLetterAt_13 : decode cX10_isLetterAt 13 = .ok (.bipush 122, 2) := by decide +kernel
theorem dX10_isLetterAt_15 : decode cX10_isLetterAt 15 = .ok (.if_icmp .gt 7, 3) := by decide +kernel
theorem dX10_isLetterAt_18 : decode cX10_isLetterAt 18 = .ok (.iconst 1, 1) := by decide +kernel
theorem dX10_isLetterAt_19 : decode cX10_isLetterAt 19 = .ok (.goto 4, 3) := by decide +kernel
theorem dX10_isLetterAt_22 : decode cX10_isLetterAt 22 = .ok (.iconst 0, 1) := by decide +kernel
theorem dX10_isLetterAt_23 : decode cX10_isLetterAt 23 = .ok (.ireturn, 1) := by decide +kernel

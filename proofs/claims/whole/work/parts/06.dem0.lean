/-! decode rows -/
theorem dX6_init_0 : decode cX6_init 0 = .ok (.aload_n 0, 1) := by decide +kernel
theorem dX6_init_1 : decode cX6_init 1 = .ok (.invokespecial 1, 3) := by decide +kernel
theorem dX6_init_4 : decode cX6_init 4 = .ok (.aload_n 0, 1) := by decide +kernel
theorem dX6_init_5 : decode cX6_init 5 = .ok (.iconst 4, 1) := by decide +kernel
theorem dX6_init_6 : decode cX6_init 6 = .ok (.newarray .boolean, 2) := by decide +kernel
theorem dX6_init_8 : decode cX6_init 8 = .ok (.putfield 7, 3) := by decide +kernel
theorem dX6_init_11 : decode cX6_init 11 = .ok (.aload_n 0, 1) := by decide +kernel
theorem dX6_init_12 : decode cX6_init 12 = .ok (.iconst 4, 1) := by decide +kernel
theorem dX6_init_13 : decode cX6_init 13 = .ok (.newarray .long, 2) := by decide +kernel
theorem dX6_init_15 : decode cX6_init 15 = .ok (.putfield 13, 3) := by decide +kernel
theorem dX6_init_18 : decode cX6_init 18 = .ok (.aload_n 0, 1) := by decide +kernel
theorem dX6_init_19 : decode cX6_init 19 = .ok (.bipush 32, 2) := by decide +kernel
theorem dX6_init_21 : decode cX6_init 21 = .ok (.newarray .boolean, 2) := by decide +kernel
theorem dX6_init_23 : decode cX6_init 23 = .ok (.putfield 17, 3) := by decide +kernel
theorem dX6_init_26 : decode cX6_init 26 = .ok (.aload_n 0, 1) := by decide +kernel
theorem dX6_init_27 : decode cX6_init 27 = .ok (.bipush 32, 2) := by decide +kernel
theorem dX6_init_29 : decode cX6_init 29 = .ok (.newarray .boolean, 2) := by decide +kernel
theorem dX6_init_31 : decode cX6_init 31 = .ok (.putfield 20, 3) := by decide +kernel
theorem dX6_init_34 : decode cX6_init 34 = .ok (.aload_n 0, 1) := by decide +kernel
theorem dX6_init_35 : decode cX6_init 35 = .ok (.bipush 32, 2) := by decide +kernel
theorem dX6_init_37 : decode cX6_init 37 = .ok (.newarray .boolean, 2) := by decide +kernel
theorem dX6_init_39 : decode cX6_init 39 = .ok (.putfield 23, 3) := by decide +kernel
theorem dX6_init_42 : decode cX6_init 42 = .ok (.aload_n 0, 1) := by decide +kernel
theorem dX6_init_43 : decode cX6_init 43 = .ok (.bipush 32, 2) := by decide +kernel
theorem dX6_init_45 : decode cX6_init 45 = .ok (.newarray .int, 2) := by decide +kernel
theorem dX6_init_47 : decode cX6_init 47 = .ok (.putfield 26, 3) := by decide +kernel
theorem dX6_init_50 : decode cX6_init 50 = .ok (.aload_n 0, 1) := by decide +kernel
theorem dX6_init_51 : decode cX6_init 51 = .ok (.bipush 8, 2) := by decide +kernel
theorem dX6_init_53 : decode cX6_init 53 = .ok (.newarray .int, 2) := by decide +kernel
theorem dX6_init_55 : decode cX6_init 55 = .ok (.putfield 30, 3) := by decide +kernel
theorem dX6_init_58 : decode cX6_init 58 = .ok (.aload_n 0, 1) := by decide +kernel
theorem dX6_init_59 : decode cX6_init 59 = .ok (.bipush 8, 2) := by decide +kernel
theorem dX6_init_61 : decode cX6_init 61 = .ok (.newarray .int, 2) := by decide +kernel
theorem dX6_init_63 : decode cX6_init 63 = .ok (.putfield 33, 3) := by decide +kernel
theorem dX6_init_66 : decode cX6_init 66 = .ok (.aload_n 0, 1) := by decide +kernel
theorem dX6_init_67 : decode cX6_init 67 = .ok (.bipush 8, 2) := by decide +kernel
theorem dX6_init_69 : decode cX6_init 69 = .ok (.newarray .int, 2) := by decide +kernel
theorem dX6_init_71 : decode cX6_init 71 = .ok (.putfield 36, 3) := by decide +kernel
theorem dX6_init_74 : decode cX6_init 74 = .ok (.aload_n 0, 1) := by decide +kernel
theorem dX6_init_75 : decode cX6_init 75 = .ok (.iconst 2, 1) := by decide +kernel
theorem dX6_init_76 : decode cX6_init 76 = .ok (.newarray .int, 2) := by decide +kernel
theorem dX6_init_78 : decode cX6_init 78 = .ok (.putfield 39, 3) := by decide +kernel
theorem dX6_init_81 : decode cX6_init 81 = .ok (.aload_n 0, 1) := by decide +kernel
theorem dX6_init_82 : decode cX6_init 82 = .ok (.bipush 16, 2) := by decide +kernel
theorem dX6_init_84 : decode cX6_init 84 = .ok (.newarray .int, 2) := by decide +kernel
theorem dX6_init_86 : decode cX6_init 86 = .ok (.putfield 42, 3) := by decide +kernel
theorem dX6_init_89 : decode cX6_init 89 = .ok (.aload_n 0, 1) := by decide +kernel
theorem dX6_init_90 : decode cX6_init 90 = .ok (.sipush 4096, 3) := by decide +kernel
theorem dX6_init_93 : decode cX6_init 93 = .ok (.newarray .int, 2) := by decide +kernel
theorem dX6_init_95 : decode cX6_init 95 = .ok (.putfield 45, 3) := by decide +kernel
theorem dX6_init_98 : decode cX6_init 98 = .ok (.aload_n 0, 1) := by decide +kernel
theorem dX6_init_99 : decode cX6_init 99 = .ok (.iload_n 1, 1) := by decide +kernel
theorem dX6_init_100 : decode cX6_init 100 = .ok (.iconst 1, 1) := by decide +kernel
theorem dX6_init_101 : decode cX6_init 101 = .ok (.if_icmp .lt 8, 3) := by decide +kernel
theorem dX6_init_104 : decode cX6_init 104 = .ok (.iload_n 1, 1) := by decide +kernel
theorem dX6_init_105 : decode cX6_init 105 = .ok (.iconst 4, 1) := by decide +kernel
theorem dX6_init_106 : decode cX6_init 106 = .ok (.if_icmp .le 7, 3) := by decide +kernel
theorem dX6_init_109 : decode cX6_init 109 = .ok (.iconst 1, 1) := by decide +kernel
theorem dX6_init_110 : decode cX6_init 110 = .ok (.goto 4, 3) := by decide +kernel
theorem dX6_init_113 : decode cX6_init 113 = .ok (.iload_n 1, 1) := by decide +kernel
theorem dX6_init_114 : decode cX6_init 114 = .ok (.putfield 48, 3) := by decide +kernel
theorem dX6_init_117 : decode cX6_init 117 = .ok (.iconst 0, 1) := by decide +kernel
theorem dX6_init_118 : decode cX6_init 118 = .ok (.istore_n 2, 1) := by decide +kernel
theorem dX6_init_119 : decode cX6_init 119 = .ok (.iload_n 2, 1) := by decide +kernel
theorem dX6_init_120 : decode cX6_init 120 = .ok (.iconst 4, 1) := by decide +kernel
theorem dX6_init_121 : decode cX6_init 121 = .ok (.if_icmp .ge 18, 3) := by decide +kernel
theorem dX6_init_124 : decode cX6_init 124 = .ok (.aload_n 0, 1) := by decide +kernel
theorem dX6_init_125 : decode cX6_init 125 = .ok (.getfield 13, 3) := by decide +kernel
theorem dX6_init_128 : decode cX6_init 128 = .ok (.iload_n 2, 1) := by decide +kernel
theorem dX6_init_129 : decode cX6_init 129 = .ok (.ldc2_w 52, 3) := by decide +kernel
theorem dX6_init_132 : decode cX6_init 132 = .ok (.lastore, 1) := by decide +kernel
theorem dX6_init_133 : decode cX6_init 133 = .ok (.iinc 2 1, 3) := by decide +kernel
theorem dX6_init_136 : decode cX6_init 136 = .ok (.goto (-17), 3) := by decide +kernel
theorem dX6_init_139 : decode cX6_init 139 = .ok (.return_, 1) := by decide +kernel
theorem dX6_thrown_0 : decode cX6_thrown 0 = .ok (.aload_n 0, 1) := by decide +kernel
theorem dX6_thrown_1 : decode cX6_thrown 1 = .ok (.getfield 54, 3) := by decide +kernel
theorem dX6_thrown_4 : decode cX6_thrown 4 = .ok (.ireturn, 1) := by decide +kernel
theorem dX6_processors_0 : decode cX6_processors 0 = .ok (.aload_n 0, 1) := by decide +kernel
theorem dX6_processors_1 : decode cX6_processors 1 = .ok (.iconst 0, 1) := by decide +kernel
theorem dX6_processors_2 : decode cX6_processors 2 = .ok (.putfield 54, 3) := by decide +kernel
theorem dX6_processors_5 : decode cX6_processors 5 = .ok (.aload_n 0, 1) := by decide +kernel
theorem dX6_processors_6 : decode cX6_processors 6 = .ok (.getfield 48, 3) := by decide +kernel
theorem dX6_processors_9 : decode cX6_processors 9 = .ok (.ireturn, 1) := by decide +kernel
theorem dX6_read_0 : decode cX6_read 0 = .ok (.aload_n 0, 1) := by decide +kernel
theorem dX6_read_1 : decode cX6_read 1 = .ok (.iload_n 1, 1) := by decide +kernel
theorem dX6_read_2 : decode cX6_read 2 = .ok (.lload_n 2, 1) := by decide +kernel
theorem dX6_read_3 : decode cX6_read 3 = .ok (.iload 4, 2) := by decide +kernel
theorem dX6_read_5 : decode cX6_read 5 = .ok (.invokestatic 172, 3) := by decide +kernel
theorem dX6_read_8 : decode cX6_read 8 = .ok (.ifCond .eq 7, 3) := by decide +kernel
theorem dX6_read_11 : decode cX6_read 11 = .ok (.iconst 0, 1) := by decide +kernel
theorem dX6_read_12 : decode cX6_read 12 = .ok (.goto 4, 3) := by decide +kernel
theorem dX6_read_15 : decode cX6_read 15 = .ok (.iconst 1, 1) := by decide +kernel
theorem dX6_read_16 : decode cX6_read 16 = .ok (.putfield 54, 3) := by decide +kernel
theorem dX6_read_19 : decode cX6_read 19 = .ok (.aload_n 0, 1) := by decide +kernel
theorem dX6_read_20 : decode cX6_read 20 = .ok (.getfield 54, 3) := by decide +kernel
theorem dX6_read_23 : decode cX6_read 23 = .ok (.ifCond .le 5, 3) := by decide +kernel
theorem dX6_read_26 : decode cX6_read 26 = .ok (.lconst 0, 1) := by decide +kernel
theorem dX6_read_27 : decode cX6_read 27 = .ok (.lreturn, 1) := by decide +kernel
theorem dX6_read_28 : decode cX6_read 28 = .ok (.lconst 0, 1) := by decide +kernel
theorem dX6_read_29 : decode cX6_read 29 = .ok (.lstore 5, 2) := by decide +kernel
theorem dX6_read_31 : decode cX6_read 31 = .ok (.iload_n 1, 1) := by decide +kernel
theorem dX6_read_32 : decode cX6_read 32 = .ok (.ifCond .ne 15, 3) := by decide +kernel
theorem dX6_read_35 : decode cX6_read 35 = .ok (.aload_n 0, 1) := by decide +kernel
theorem dX6_read_36 : decode cX6_read 36 = .ok (.lload_n 2, 1) := by decide +kernel
theorem dX6_read_37 : decode cX6_read 37 = .ok (.iload 4, 2) := by decide +kernel
theorem dX6_read_39 : decode cX6_read 39 = .ok (.invokevirtual 176, 3) := by decide +kernel
theorem dX6_read_42 : decode cX6_read 42 = .ok (.lstore 5, 2) := by decide +kernel
theorem dX6_read_44 : decode cX6_read 44 = .ok (.goto 50, 3) := by decide +kernel
theorem dX6_read_47 : decode cX6_read 47 = .ok (.iload_n 1, 1) := by decide +kernel
theorem dX6_read_48 : decode cX6_read 48 = .ok (.iconst 1, 1) := by decide +kernel
theorem dX6_read_49 : decode cX6_read 49 = .ok (.if_icmp .ne 23, 3) := by decide +kernel
theorem dX6_read_52 : decode cX6_read 52 = .ok (.iload 4, 2) := by decide +kernel
theorem dX6_read_54 : decode cX6_read 54 = .ok (.iconst 4, 1) := by decide +kernel
theorem dX6_read_55 : decode cX6_read 55 = .ok (.if_icmp .ne 11, 3) := by decide +kernel
theorem dX6_read_58 : decode cX6_read 58 = .ok (.aload_n 0, 1) := by decide +kernel
theorem dX6_read_59 : decode cX6_read 59 = .ok (.lload_n 2, 1) := by decide +kernel
theorem dX6_read_60 : decode cX6_read 60 = .ok (.invokevirtual 180, 3) := by decide +kernel
theorem dX6_read_63 : decode cX6_read 63 = .ok (.goto 4, 3) := by decide +kernel
theorem dX6_read_66 : decode cX6_read 66 = .ok (.lconst 0, 1) := by decide +kernel
theorem dX6_read_67 : decode cX6_read 67 = .ok (.lstore 5, 2) := by decide +kernel
theorem dX6_read_69 : decode cX6_read 69 = .ok (.goto 25, 3) := by decide +kernel
theorem dX6_read_72 : decode cX6_read 72 = .ok (.iload 4, 2) := by decide +kernel
theorem dX6_read_74 : decode cX6_read 74 = .ok (.iconst 1, 1) := by decide +kernel
theorem dX6_read_75 : decode cX6_read 75 = .ok (.if_icmp .ne 19, 3) := by decide +kernel
theorem dX6_read_78 : decode cX6_read 78 = .ok (.lload_n 2, 1) := by decide +kernel
theorem dX6_read_79 : decode cX6_read 79 = .ok (.ldc2_w 63, 3) := by decide +kernel
theorem dX6_read_82 : decode cX6_read 82 = .ok (.lcmp, 1) := by decide +kernel
theorem dX6_read_83 : decode cX6_read 83 = .ok (.ifCond .ge 11, 3) := by decide +kernel
theorem dX6_read_86 : decode cX6_read 86 = .ok (.aload_n 0, 1) := by decide +kernel
theorem dX6_read_87 : decode cX6_read 87 = .ok (.lload_n 2, 1) := by decide +kernel
theorem dX6_read_88 : decode cX6_read 88 = .ok (.l2i, 1) := by decide +kernel
theorem dX6_read_89 : decode cX6_read 89 = .ok (.invokevirtual 184, 3) := by decide +kernel
theorem dX6_read_92 : decode cX6_read 92 = .ok (.lstore 5, 2) := by decide +kernel
theorem dX6_read_94 : decode cX6_read 94 = .ok (.aload_n 0, 1) := by decide +kernel
theorem dX6_read_95 : decode cX6_read 95 = .ok (.invokevirtual 187, 3) := by decide +kernel
theorem dX6_read_98 : decode cX6_read 98 = .ok (.lload 5, 2) := by decide +kernel
theorem dX6_read_100 : decode cX6_read 100 = .ok (.lreturn, 1) := by decide +kernel
theorem dX6_isProper_0 : decode cX6_isProper 0 = .ok (.iload_n 0, 1) := by decide +kernel
theorem dX6_isProper_1 : decode cX6_isProper 1 = .ok (.ifCond .lt 39, 3) := by decide +kernel
theorem dX6_isProper_4 : decode cX6_isProper 4 = .ok (.iload_n 0, 1) := by decide +kernel
theorem dX6_isProper_5 : decode cX6_isProper 5 = .ok (.iconst 2, 1) := by decide +kernel
theorem dX6_isProper_6 : decode cX6_isProper 6 = .ok (.if_icmp .gt 34, 3) := by decide +kernel
theorem dX6_isProper_9 : decode cX6_isProper 9 = .ok (.lload_n 1, 1) := by decide +kernel
theorem dX6_isProper_10 : decode cX6_isProper 10 = .ok (.lconst 0, 1) := by decide +kernel
theorem dX6_isProper_11 : decode cX6_isProper 11 = .ok (.lcmp, 1) := by decide +kernel
theorem dX6_isProper_12 : decode cX6_isProper 12 = .ok (.ifCond .lt 28, 3) := by decide +kernel
theorem dX6_isProper_15 : decode cX6_isProper 15 = .ok (.iload_n 3, 1) := by decide +kernel
theorem dX6_isProper_16 : decode cX6_isProper 16 = .ok (.iconst 1, 1) := by decide +kernel
theorem dX6_isProper_17 : decode cX6_isProper 17 = .ok (.if_icmp .eq 19, 3) := by decide +kernel
theorem dX6_isProper_20 : decode cX6_isProper 20 = .ok (.iload_n 3, 1) := by decide +kernel
theorem dX6_isProper_21 : decode cX6_isProper 21 = .ok (.iconst 2, 1) := by decide +kernel
theorem dX6_isProper_22 : decode cX6_isProper 22 = .ok (.if_icmp .eq 14, 3) := by decide +kernel
theorem dX6_isProper_25 : decode cX6_isProper 25 = .ok (.iload_n 3, 1) := by decide +kernel
theorem dX6_isProper_26 : decode cX6_isProper 26 = .ok (.iconst 4, 1) := by decide +kernel
theorem dX6_isProper_27 : decode cX6_isProper 27 = .ok (.if_icmp .eq 9, 3) := by decide +kernel
theorem dX6_isProper_30 : decode cX6_isProper 30 = .ok (.iload_n 3, 1) := by decide +kernel
theorem dX6_isProper_31 : decode cX6_isProper 31 = .ok (.bipush 8, 2) := by decide +kernel
theorem dX6_isProper_33 : decode cX6_isProper 33 = .ok (.if_icmp .ne 7, 3) := by decide +kernel
theorem dX6_isProper_36 : decode cX6_isProper 36 = .ok (.iconst 1, 1) := by decide +kernel
theorem dX6_isProper_37 : decode cX6_isProper 37 = .ok (.goto 4, 3) := by decide +kernel
theorem dX6_isProper_40 : decode cX6_isProper 40 = .ok (.iconst 0, 1) := by decide +kernel
theorem dX6_isProper_41 : decode cX6_isProper 41 = .ok (.ireturn, 1) := by decide +kernel
theorem dX6_readTimer_0 : decode cX6_readTimer 0 = .ok (.iload_n 3, 1) := by decide +kernel
theorem dX6_readTimer_1 : decode cX6_readTimer 1 = .ok (.iconst 4, 1) := by decide +kernel
theorem dX6_readTimer_2 : decode cX6_readTimer 2 = .ok (.if_icmp .ne 47, 3) := by decide +kernel
theorem dX6_readTimer_5 : decode cX6_readTimer 5 = .ok (.lload_n 1, 1) := by decide +kernel
theorem dX6_readTimer_6 : decode cX6_readTimer 6 = .ok (.ldc2_w 69, 3) := by decide +kernel
theorem dX6_readTimer_9 : decode cX6_readTimer 9 = .ok (.aload_n 0, 1) := by decide +kernel
theorem dX6_readTimer_10 : decode cX6_readTimer 10 = .ok (.getfield 48, 3) := by decide +kernel
theorem dX6_readTimer_13 : decode cX6_readTimer 13 = .ok (.i2l, 1) := by decide +kernel
theorem dX6_readTimer_14 : decode cX6_readTimer 14 = .ok (.lmul, 1) := by decide +kernel
theorem dX6_readTimer_15 : decode cX6_readTimer 15 = .ok (.lcmp, 1) := by decide +kernel
theorem dX6_readTimer_16 : decode cX6_readTimer 16 = .ok (.ifCond .ge 33, 3) := by decide +kernel
theorem dX6_readTimer_19 : decode cX6_readTimer 19 = .ok (.lload_n 1, 1) := by decide +kernel
theorem dX6_readTimer_20 : decode cX6_readTimer 20 = .ok (.ldc2_w 69, 3) := by decide +kernel
theorem dX6_readTimer_23 : decode cX6_readTimer 23 = .ok (.lrem, 1) := by decide +kernel
theorem dX6_readTimer_24 : decode cX6_readTimer 24 = .ok (.lconst 0, 1) := by decide +kernel
theorem dX6_readTimer_25 : decode cX6_readTimer 25 = .ok (.lcmp, 1) := by decide +kernel
theorem dX6_readTimer_26 : decode cX6_readTimer 26 = .ok (.ifCond .ne 23, 3) := by decide +kernel
theorem dX6_readTimer_29 : decode cX6_readTimer 29 = .ok (.aload_n 0, 1) := by decide +kernel
theorem dX6_readTimer_30 : decode cX6_readTimer 30 = .ok (.getfield 7, 3) := by decide +kernel
theorem dX6_readTimer_33 : decode cX6_readTimer 33 = .ok (.lload_n 1, 1) := by decide +kernel
theorem dX6_readTimer_34 : decode cX6_readTimer 34 = .ok (.ldc2_w 69, 3) := by decide +kernel
theorem dX6_readTimer_37 : decode cX6_readTimer 37 = .ok (.ldiv, 1) := by decide +kernel
theorem dX6_readTimer_38 : decode cX6_readTimer 38 = .ok (.l2i, 1) := by decide +kernel
theorem dX6_readTimer_39 : decode cX6_readTimer 39 = .ok (.baload, 1) := by decide +kernel
theorem dX6_readTimer_40 : decode cX6_readTimer 40 = .ok (.ifCond .eq 7, 3) := by decide +kernel
theorem dX6_readTimer_43 : decode cX6_readTimer 43 = .ok (.lconst 1, 1) := by decide +kernel
theorem dX6_readTimer_44 : decode cX6_readTimer 44 = .ok (.goto 4, 3) := by decide +kernel
theorem dX6_readTimer_47 : decode cX6_readTimer 47 = .ok (.lconst 0, 1) := by decide +kernel
theorem dX6_readTimer_48 : decode cX6_readTimer 48 = .ok (.lreturn, 1) := by decide +kernel
theorem dX6_readTimer_49 : decode cX6_readTimer 49 = .ok (.aload_n 0, 1) := by decide +kernel
theorem dX6_readTimer_50 : decode cX6_readTimer 50 = .ok (.lload_n 1, 1) := by decide +kernel
theorem dX6_readTimer_51 : decode cX6_readTimer 51 = .ok (.invokevirtual 71, 3) := by decide +kernel
theorem dX6_readTimer_54 : decode cX6_readTimer 54 = .ok (.istore 4, 2) := by decide +kernel
theorem dX6_readTimer_56 : decode cX6_readTimer 56 = .ok (.iload 4, 2) := by decide +kernel
theorem dX6_readTimer_58 : decode cX6_readTimer 58 = .ok (.ifCond .lt 17, 3) := by decide +kernel
theorem dX6_readTimer_61 : decode cX6_readTimer 61 = .ok (.lload_n 1, 1) := by decide +kernel
theorem dX6_readTimer_62 : decode cX6_readTimer 62 = .ok (.iload_n 3, 1) := by decide +kernel
theorem dX6_readTimer_63 : decode cX6_readTimer 63 = .ok (.i2l, 1) := by decide +kernel
theorem dX6_readTimer_64 : decode cX6_readTimer 64 = .ok (.lrem, 1) := by decide +kernel
theorem dX6_readTimer_65 : decode cX6_readTimer 65 = .ok (.lconst 0, 1) := by decide +kernel
theorem dX6_readTimer_66 : decode cX6_readTimer 66 = .ok (.lcmp, 1) := by decide +kernel
theorem dX6_readTimer_67 : decode cX6_readTimer 67 = .ok (.ifCond .ne 8, 3) := by decide +kernel
theorem dX6_readTimer_70 : decode cX6_readTimer 70 = .ok (.iload_n 3, 1) := by decide +kernel
theorem dX6_readTimer_71 : decode cX6_readTimer 71 = .ok (.iconst 4, 1) := by decide +kernel
theorem dX6_readTimer_72 : decode cX6_readTimer 72 = .ok (.if_icmp .ge 5, 3) := by decide +kernel
theorem dX6_readTimer_75 : decode cX6_readTimer 75 = .ok (.lconst 0, 1) := by decide +kernel
theorem dX6_readTimer_76 : decode cX6_readTimer 76 = .ok (.lreturn, 1) := by decide +kernel
theorem dX6_readTimer_77 : decode cX6_readTimer 77 = .ok (.iload_n 3, 1) := by decide +kernel
theorem dX6_readTimer_78 : decode cX6_readTimer 78 = .ok (.bipush 8, 2) := by decide +kernel
theorem dX6_readTimer_80 : decode cX6_readTimer 80 = .ok (.if_icmp .ne 12, 3) := by decide +kernel
theorem dX6_readTimer_83 : decode cX6_readTimer 83 = .ok (.aload_n 0, 1) := by decide +kernel
theorem dX6_readTimer_84 : decode cX6_readTimer 84 = .ok (.iload 4, 2) := by decide +kernel
theorem dX6_readTimer_86 : decode cX6_readTimer 86 = .ok (.invokevirtual 75, 3) := by decide +kernel
theorem dX6_readTimer_89 : decode cX6_readTimer 89 = .ok (.goto 30, 3) := by decide +kernel
theorem dX6_readTimer_92 : decode cX6_readTimer 92 = .ok (.aload_n 0, 1) := by decide +kernel
theorem dX6_readTimer_93 : decode cX6_readTimer 93 = .ok (.iload 4, 2) := by decide +kernel
theorem dX6_readTimer_95 : decode cX6_readTimer 95 = .ok (.invokevirtual 75, 3) := by decide +kernel
theorem dX6_readTimer_98 : decode cX6_readTimer 98 = .ok (.lload_n 1, 1) := by decide +kernel
theorem dX6_readTimer_99 : decode cX6_readTimer 99 = .ok (.ldc2_w 63, 3) := by decide +kernel
theorem dX6_readTimer_102 : decode cX6_readTimer 102 = .ok (.lrem, 1) := by decide +kernel
theorem dX6_readTimer_103 : decode cX6_readTimer 103 = .ok (.lconst 0, 1) := by decide +kernel
theorem dX6_readTimer_104 : decode cX6_readTimer 104 = .ok (.lcmp, 1) := by decide +kernel
theorem dX6_readTimer_105 : decode cX6_readTimer 105 = .ok (.ifCond .ne 7, 3) := by decide +kernel
theorem dX6_readTimer_108 : decode cX6_readTimer 108 = .ok (.iconst 0, 1) := by decide +kernel
theorem dX6_readTimer_109 : decode cX6_readTimer 109 = .ok (.goto 5, 3) := by decide +kernel
theorem dX6_readTimer_112 : decode cX6_readTimer 112 = .ok (.bipush 32, 2) := by decide +kernel
theorem dX6_readTimer_114 : decode cX6_readTimer 114 = .ok (.lshr, 1) := by decide +kernel
theorem dX6_readTimer_115 : decode cX6_readTimer 115 = .ok (.ldc2_w 79, 3) := by decide +kernel
theorem dX6_readTimer_118 : decode cX6_readTimer 118 = .ok (.land, 1) := by decide +kernel
theorem dX6_readTimer_119 : decode cX6_readTimer 119 = .ok (.lreturn, 1) := by decide +kernel
theorem dX6_eightAt_0 : decode cX6_eightAt 0 = .ok (.lload_n 1, 1) := by decide +kernel
theorem dX6_eightAt_1 : decode cX6_eightAt 1 = .ok (.ldc2_w 57, 3) := by decide +kernel
theorem dX6_eightAt_4 : decode cX6_eightAt 4 = .ok (.lcmp, 1) := by decide +kernel
theorem dX6_eightAt_5 : decode cX6_eightAt 5 = .ok (.ifCond .lt 16, 3) := by decide +kernel
theorem dX6_eightAt_8 : decode cX6_eightAt 8 = .ok (.lload_n 1, 1) := by decide +kernel
theorem dX6_eightAt_9 : decode cX6_eightAt 9 = .ok (.ldc2_w 59, 3) := by decide +kernel
theorem dX6_eightAt_12 : decode cX6_eightAt 12 = .ok (.lcmp, 1) := by decide +kernel
theorem dX6_eightAt_13 : decode cX6_eightAt 13 = .ok (.ifCond .ge 8, 3) := by decide +kernel
theorem dX6_eightAt_16 : decode cX6_eightAt 16 = .ok (.aload_n 0, 1) := by decide +kernel
theorem dX6_eightAt_17 : decode cX6_eightAt 17 = .ok (.getfield 48, 3) := by decide +kernel
theorem dX6_eightAt_20 : decode cX6_eightAt 20 = .ok (.ireturn, 1) := by decide +kernel
theorem dX6_eightAt_21 : decode cX6_eightAt 21 = .ok (.lload_n 1, 1) := by decide +kernel
theorem dX6_eightAt_22 : decode cX6_eightAt 22 = .ok (.ldc2_w 61, 3) := by decide +kernel
theorem dX6_eightAt_25 : decode cX6_eightAt 25 = .ok (.lcmp, 1) := by decide +kernel
theorem dX6_eightAt_26 : decode cX6_eightAt 26 = .ok (.ifCond .lt 34, 3) := by decide +kernel
theorem dX6_eightAt_29 : decode cX6_eightAt 29 = .ok (.lload_n 1, 1) := by decide +kernel
theorem dX6_eightAt_30 : decode cX6_eightAt 30 = .ok (.ldc2_w 61, 3) := by decide +kernel
theorem dX6_eightAt_33 : decode cX6_eightAt 33 = .ok (.ldc2_w 63, 3) := by decide +kernel
theorem dX6_eightAt_36 : decode cX6_eightAt 36 = .ok (.aload_n 0, 1) := by decide +kernel
theorem dX6_eightAt_37 : decode cX6_eightAt 37 = .ok (.getfield 48, 3) := by decide +kernel
theorem dX6_eightAt_40 : decode cX6_eightAt 40 = .ok (.i2l, 1) := by decide +kernel
theorem dX6_eightAt_41 : decode cX6_eightAt 41 = .ok (.lmul, 1) := by decide +kernel
theorem dX6_eightAt_42 : decode cX6_eightAt 42 = .ok (.ladd, 1) := by decide +kernel
theorem dX6_eightAt_43 : decode cX6_eightAt 43 = .ok (.lcmp, 1) := by decide +kernel
theorem dX6_eightAt_44 : decode cX6_eightAt 44 = .ok (.ifCond .ge 16, 3) := by decide +kernel
theorem dX6_eightAt_47 : decode cX6_eightAt 47 = .ok (.lload_n 1, 1) := by decide +kernel
theorem dX6_eightAt_48 : decode cX6_eightAt 48 = .ok (.ldc2_w 61, 3) := by decide +kernel
theorem dX6_eightAt_51 : decode cX6_eightAt 51 = .ok (.lsub, 1) := by decide +kernel
theorem dX6_eightAt_52 : decode cX6_eightAt 52 = .ok (.ldc2_w 63, 3) := by decide +kernel
theorem dX6_eightAt_55 : decode cX6_eightAt 55 = .ok (.ldiv, 1) := by decide +kernel
theorem dX6_eightAt_56 : decode cX6_eightAt 56 = .ok (.l2i, 1) := by decide +kernel
theorem dX6_eightAt_57 : decode cX6_eightAt 57 = .ok (.goto 4, 3) := by decide +kernel
theorem dX6_eightAt_60 : decode cX6_eightAt 60 = .ok (.iconst (-1), 1) := by decide +kernel
theorem dX6_eightAt_61 : decode cX6_eightAt 61 = .ok (.ireturn, 1) := by decide +kernel
theorem dX6_eight_0 : decode cX6_eight 0 = .ok (.iload_n 1, 1) := by decide +kernel
theorem dX6_eight_1 : decode cX6_eight 1 = .ok (.aload_n 0, 1) := by decide +kernel
theorem dX6_eight_2 : decode cX6_eight 2 = .ok (.getfield 48, 3) := by decide +kernel
theorem dX6_eight_5 : decode cX6_eight 5 = .ok (.if_icmp .ne 10, 3) := by decide +kernel
theorem dX6_eight_8 : decode cX6_eight 8 = .ok (.aload_n 0, 1) := by decide +kernel
theorem dX6_eight_9 : decode cX6_eight 9 = .ok (.getfield 65, 3) := by decide +kernel
theorem dX6_eight_12 : decode cX6_eight 12 = .ok (.goto 9, 3) := by decide +kernel
theorem dX6_eight_15 : decode cX6_eight 15 = .ok (.aload_n 0, 1) := by decide +kernel
theorem dX6_eight_16 : decode cX6_eight 16 = .ok (.getfield 13, 3) := by decide +kernel
theorem dX6_eight_19 : decode cX6_eight 19 = .ok (.iload_n 1, 1) := by decide +kernel
theorem dX6_eight_20 : decode cX6_eight 20 = .ok (.laload, 1) := by decide +kernel
theorem dX6_eight_21 : decode cX6_eight 21 = .ok (.lreturn, 1) := by decide +kernel
theorem dX6_readController_0 : decode cX6_readController 0 = .ok (.lload_n 1, 1) := by decide +kernel
theorem dX6_readController_1 : decode cX6_readController 1 = .ok (.ldc2_w 97, 3) := by decide +kernel
theorem dX6_readController_4 : decode cX6_readController 4 = .ok (.lcmp, 1) := by decide +kernel
theorem dX6_readController_5 : decode cX6_readController 5 = .ok (.ifCond .ne 8, 3) := by decide +kernel
theorem dX6_readController_8 : decode cX6_readController 8 = .ok (.aload_n 0, 1) := by decide +kernel
theorem dX6_readController_9 : decode cX6_readController 9 = .ok (.invokevirtual 99, 3) := by decide +kernel
theorem dX6_readController_12 : decode cX6_readController 12 = .ok (.lreturn, 1) := by decide +kernel
theorem dX6_readController_13 : decode cX6_readController 13 = .ok (.lload_n 1, 1) := by decide +kernel
theorem dX6_readController_14 : decode cX6_readController 14 = .ok (.ldc2_w 103, 3) := by decide +kernel
theorem dX6_readController_17 : decode cX6_readController 17 = .ok (.lcmp, 1) := by decide +kernel
theorem dX6_readController_18 : decode cX6_readController 18 = .ok (.ifCond .ge 26, 3) := by decide +kernel
theorem dX6_readController_21 : decode cX6_readController 21 = .ok (.lload_n 1, 1) := by decide +kernel
theorem dX6_readController_22 : decode cX6_readController 22 = .ok (.ldc2_w 69, 3) := by decide +kernel
theorem dX6_readController_25 : decode cX6_readController 25 = .ok (.lrem, 1) := by decide +kernel
theorem dX6_readController_26 : decode cX6_readController 26 = .ok (.lconst 0, 1) := by decide +kernel
theorem dX6_readController_27 : decode cX6_readController 27 = .ok (.lcmp, 1) := by decide +kernel
theorem dX6_readController_28 : decode cX6_readController 28 = .ok (.ifCond .ne 16, 3) := by decide +kernel
theorem dX6_readController_31 : decode cX6_readController 31 = .ok (.aload_n 0, 1) := by decide +kernel
theorem dX6_readController_32 : decode cX6_readController 32 = .ok (.getfield 26, 3) := by decide +kernel
theorem dX6_readController_35 : decode cX6_readController 35 = .ok (.lload_n 1, 1) := by decide +kernel
theorem dX6_readController_36 : decode cX6_readController 36 = .ok (.ldc2_w 69, 3) := by decide +kernel
theorem dX6_readController_39 : decode cX6_readController 39 = .ok (.ldiv, 1) := by decide +kernel
theorem dX6_readController_40 : decode cX6_readController 40 = .ok (.l2i, 1) := by decide +kernel
theorem dX6_readController_41 : decode cX6_readController 41 = .ok (.iaload, 1) := by decide +kernel
theorem dX6_readController_42 : decode cX6_readController 42 = .ok (.i2l, 1) := by decide +kernel
theorem dX6_readController_43 : decode cX6_readController 43 = .ok (.lreturn, 1) := by decide +kernel
theorem dX6_readController_44 : decode cX6_readController 44 = .ok (.aload_n 0, 1) := by decide +kernel
theorem dX6_readController_45 : decode cX6_readController 45 = .ok (.lload_n 1, 1) := by decide +kernel
theorem dX6_readController_46 : decode cX6_readController 46 = .ok (.ldc2_w 105, 3) := by decide +kernel
theorem dX6_readController_49 : decode cX6_readController 49 = .ok (.ldc2_w 103, 3) := by decide +kernel
theorem dX6_readController_52 : decode cX6_readController 52 = .ok (.invokevirtual 107, 3) := by decide +kernel
theorem dX6_readController_55 : decode cX6_readController 55 = .ok (.istore_n 3, 1) := by decide +kernel
theorem dX6_readController_56 : decode cX6_readController 56 = .ok (.iload_n 3, 1) := by decide +kernel
theorem dX6_readController_57 : decode cX6_readController 57 = .ok (.ifCond .lt 15, 3) := by decide +kernel
theorem dX6_readController_60 : decode cX6_readController 60 = .ok (.aload_n 0, 1) := by decide +kernel
theorem dX6_readController_61 : decode cX6_readController 61 = .ok (.getfield 30, 3) := by decide +kernel
theorem dX6_readController_64 : decode cX6_readController 64 = .ok (.iload_n 3, 1) := by decide +kernel
theorem dX6_readController_65 : decode cX6_readController 65 = .ok (.iaload, 1) := by decide +kernel
theorem dX6_readController_66 : decode cX6_readController 66 = .ok (.i2l, 1) := by decide +kernel
theorem dX6_readController_67 : decode cX6_readController 67 = .ok (.ldc2_w 79, 3) := by decide +kernel
theorem dX6_readController_70 : decode cX6_readController 70 = .ok (.land, 1) := by decide +kernel
theorem dX6_readController_71 : decode cX6_readController 71 = .ok (.lreturn, 1) := by decide +kernel
theorem dX6_readController_72 : decode cX6_readController 72 = .ok (.aload_n 0, 1) := by decide +kernel
theorem dX6_readController_73 : decode cX6_readController 73 = .ok (.lload_n 1, 1) := by decide +kernel
theorem dX6_readController_74 : decode cX6_readController 74 = .ok (.ldc2_w 111, 3) := by decide +kernel
theorem dX6_readController_77 : decode cX6_readController 77 = .ok (.ldc2_w 97, 3) := by decide +kernel
theorem dX6_readController_80 : decode cX6_readController 80 = .ok (.invokevirtual 107, 3) := by decide +kernel
theorem dX6_readController_83 : decode cX6_readController 83 = .ok (.istore_n 3, 1) := by decide +kernel
theorem dX6_readController_84 : decode cX6_readController 84 = .ok (.iload_n 3, 1) := by decide +kernel
theorem dX6_readController_85 : decode cX6_readController 85 = .ok (.ifCond .lt 11, 3) := by decide +kernel
theorem dX6_readController_88 : decode cX6_readController 88 = .ok (.aload_n 0, 1) := by decide +kernel
theorem dX6_readController_89 : decode cX6_readController 89 = .ok (.getfield 33, 3) := by decide +kernel
theorem dX6_readController_92 : decode cX6_readController 92 = .ok (.iload_n 3, 1) := by decide +kernel
theorem dX6_readController_93 : decode cX6_readController 93 = .ok (.iaload, 1) := by decide +kernel
theorem dX6_readController_94 : decode cX6_readController 94 = .ok (.i2l, 1) := by decide +kernel
theorem dX6_readController_95 : decode cX6_readController 95 = .ok (.lreturn, 1) := by decide +kernel
theorem dX6_readController_96 : decode cX6_readController 96 = .ok (.aload_n 0, 1) := by decide +kernel
theorem dX6_readController_97 : decode cX6_readController 97 = .ok (.lload_n 1, 1) := by decide +kernel
theorem dX6_readController_98 : decode cX6_readController 98 = .ok (.ldc2_w 113, 3) := by decide +kernel
theorem dX6_readController_101 : decode cX6_readController 101 = .ok (.ldc2_w 97, 3) := by decide +kernel
theorem dX6_readController_104 : decode cX6_readController 104 = .ok (.invokevirtual 107, 3) := by decide +kernel
theorem dX6_readController_107 : decode cX6_readController 107 = .ok (.istore_n 3, 1) := by decide +kernel
theorem dX6_readController_108 : decode cX6_readController 108 = .ok (.iload_n 3, 1) := by decide +kernel
theorem dX6_readController_109 : decode cX6_readController 109 = .ok (.ifCond .lt 11, 3) := by decide +kernel
theorem dX6_readController_112 : decode cX6_readController 112 = .ok (.aload_n 0, 1) := by decide +kernel
theorem dX6_readController_113 : decode cX6_readController 113 = .ok (.iload_n 3, 1) := by decide +kernel
theorem dX6_readController_114 : decode cX6_readController 114 = .ok (.invokevirtual 115, 3) := by decide +kernel
theorem dX6_readController_117 : decode cX6_readController 117 = .ok (.goto 4, 3) := by decide +kernel
theorem dX6_readController_120 : decode cX6_readController 120 = .ok (.lconst 0, 1) := by decide +kernel
theorem dX6_readController_121 : decode cX6_readController 121 = .ok (.lreturn, 1) := by decide +kernel
theorem dX6_waiting_0 : decode cX6_waiting 0 = .ok (.lconst 0, 1) := by decide +kernel
theorem dX6_waiting_1 : decode cX6_waiting 1 = .ok (.lstore_n 1, 1) := by decide +kernel
theorem dX6_waiting_2 : decode cX6_waiting 2 = .ok (.iconst 1, 1) := by decide +kernel
theorem dX6_waiting_3 : decode cX6_waiting 3 = .ok (.istore_n 3, 1) := by decide +kernel
theorem dX6_waiting_4 : decode cX6_waiting 4 = .ok (.iload_n 3, 1) := by decide +kernel
theorem dX6_waiting_5 : decode cX6_waiting 5 = .ok (.bipush 32, 2) := by decide +kernel
theorem dX6_waiting_7 : decode cX6_waiting 7 = .ok (.if_icmp .ge 28, 3) := by decide +kernel
theorem dX6_waiting_10 : decode cX6_waiting 10 = .ok (.aload_n 0, 1) := by decide +kernel
theorem dX6_waiting_11 : decode cX6_waiting 11 = .ok (.getfield 20, 3) := by decide +kernel
theorem dX6_waiting_14 : decode cX6_waiting 14 = .ok (.iload_n 3, 1) := by decide +kernel
theorem dX6_waiting_15 : decode cX6_waiting 15 = .ok (.baload, 1) := by decide +kernel
theorem dX6_waiting_16 : decode cX6_waiting 16 = .ok (.ifCond .eq 11, 3) := by decide +kernel
theorem dX6_waiting_19 : decode cX6_waiting 19 = .ok (.lload_n 1, 1) := by decide +kernel
theorem dX6_waiting_20 : decode cX6_waiting 20 = .ok (.lconst 1, 1) := by decide +kernel
theorem dX6_waiting_21 : decode cX6_waiting 21 = .ok (.iload_n 3, 1) := by decide +kernel
theorem dX6_waiting_22 : decode cX6_waiting 22 = .ok (.lshl, 1) := by decide +kernel
theorem dX6_waiting_23 : decode cX6_waiting 23 = .ok (.lor, 1) := by decide +kernel
theorem dX6_waiting_24 : decode cX6_waiting 24 = .ok (.goto 4, 3) := by decide +kernel
theorem dX6_waiting_27 : decode cX6_waiting 27 = .ok (.lload_n 1, 1) := by decide +kernel
theorem dX6_waiting_28 : decode cX6_waiting 28 = .ok (.lstore_n 1, 1) := by decide +kernel
theorem dX6_waiting_29 : decode cX6_waiting 29 = .ok (.iinc 3 1, 3) := by decide +kernel
theorem dX6_waiting_32 : decode cX6_waiting 32 = .ok (.goto (-28), 3) := by decide +kernel
theorem dX6_waiting_35 : decode cX6_waiting 35 = .ok (.lload_n 1, 1) := by decide +kernel
theorem dX6_waiting_36 : decode cX6_waiting 36 = .ok (.lreturn, 1) := by decide +kernel
theorem dX6_contextAt_0 : decode cX6_contextAt 0 = .ok (.lload_n 1, 1) := by decide +kernel
theorem dX6_contextAt_1 : decode cX6_contextAt 1 = .ok (.lload_n 3, 1) := by decide +kernel
theorem dX6_contextAt_2 : decode cX6_contextAt 2 = .ok (.lcmp, 1) := by decide +kernel
theorem dX6_contextAt_3 : decode cX6_contextAt 3 = .ok (.ifCond .lt 37, 3) := by decide +kernel
theorem dX6_contextAt_6 : decode cX6_contextAt 6 = .ok (.lload_n 1, 1) := by decide +kernel
theorem dX6_contextAt_7 : decode cX6_contextAt 7 = .ok (.lload_n 3, 1) := by decide +kernel
theorem dX6_contextAt_8 : decode cX6_contextAt 8 = .ok (.lsub, 1) := by decide +kernel
theorem dX6_contextAt_9 : decode cX6_contextAt 9 = .ok (.lload 5, 2) := by decide +kernel
theorem dX6_contextAt_11 : decode cX6_contextAt 11 = .ok (.lrem, 1) := by decide +kernel
theorem dX6_contextAt_12 : decode cX6_contextAt 12 = .ok (.lconst 0, 1) := by decide +kernel
theorem dX6_contextAt_13 : decode cX6_contextAt 13 = .ok (.lcmp, 1) := by decide +kernel
theorem dX6_contextAt_14 : decode cX6_contextAt 14 = .ok (.ifCond .ne 26, 3) := by decide +kernel
theorem dX6_contextAt_17 : decode cX6_contextAt 17 = .ok (.lload_n 1, 1) := by decide +kernel
theorem dX6_contextAt_18 : decode cX6_contextAt 18 = .ok (.lload_n 3, 1) := by decide +kernel
theorem dX6_contextAt_19 : decode cX6_contextAt 19 = .ok (.lsub, 1) := by decide +kernel
theorem dX6_contextAt_20 : decode cX6_contextAt 20 = .ok (.lload 5, 2) := by decide +kernel
theorem dX6_contextAt_22 : decode cX6_contextAt 22 = .ok (.ldiv, 1) := by decide +kernel
theorem dX6_contextAt_23 : decode cX6_contextAt 23 = .ok (.ldc2_w 95, 3) := by decide +kernel
theorem dX6_contextAt_26 : decode cX6_contextAt 26 = .ok (.aload_n 0, 1) := by decide +kernel
theorem dX6_contextAt_27 : decode cX6_contextAt 27 = .ok (.getfield 48, 3) := by decide +kernel
theorem dX6_contextAt_30 : decode cX6_contextAt 30 = .ok (.i2l, 1) := by decide +kernel
theorem dX6_contextAt_31 : decode cX6_contextAt 31 = .ok (.lmul, 1) := by decide +kernel
theorem dX6_contextAt_32 : decode cX6_contextAt 32 = .ok (.lcmp, 1) := by decide +kernel
theorem dX6_contextAt_33 : decode cX6_contextAt 33 = .ok (.ifCond .ge 7, 3) := by decide +kernel
theorem dX6_contextAt_36 : decode cX6_contextAt 36 = .ok (.iconst 1, 1) := by decide +kernel
theorem dX6_contextAt_37 : decode cX6_contextAt 37 = .ok (.goto 4, 3) := by decide +kernel
theorem dX6_contextAt_40 : decode cX6_contextAt 40 = .ok (.iconst 0, 1) := by decide +kernel
theorem dX6_contextAt_41 : decode cX6_contextAt 41 = .ok (.istore 7, 2) := by decide +kernel
theorem dX6_contextAt_43 : decode cX6_contextAt 43 = .ok (.iload 7, 2) := by decide +kernel
theorem dX6_contextAt_45 : decode cX6_contextAt 45 = .ok (.ifCond .eq 13, 3) := by decide +kernel
theorem dX6_contextAt_48 : decode cX6_contextAt 48 = .ok (.lload_n 1, 1) := by decide +kernel
theorem dX6_contextAt_49 : decode cX6_contextAt 49 = .ok (.lload_n 3, 1) := by decide +kernel
theorem dX6_contextAt_50 : decode cX6_contextAt 50 = .ok (.lsub, 1) := by decide +kernel
theorem dX6_contextAt_51 : decode cX6_contextAt 51 = .ok (.lload 5, 2) := by decide +kernel
theorem dX6_contextAt_53 : decode cX6_contextAt 53 = .ok (.ldiv, 1) := by decide +kernel
theorem dX6_contextAt_54 : decode cX6_contextAt 54 = .ok (.l2i, 1) := by decide +kernel
theorem dX6_contextAt_55 : decode cX6_contextAt 55 = .ok (.goto 4, 3) := by decide +kernel
theorem dX6_contextAt_58 : decode cX6_contextAt 58 = .ok (.iconst (-1), 1) := by decide +kernel
theorem dX6_contextAt_59 : decode cX6_contextAt 59 = .ok (.ireturn, 1) := by decide +kernel

/-! decode rows -/
theorem dX4_store_0 : decode cX4_store 0 = .ok (.aload_n 0, 1) := by decide +kernel
theorem dX4_store_1 : decode cX4_store 1 = .ok (.lload_n 1, 1) := by decide +kernel
theorem dX4_store_2 : decode cX4_store 2 = .ok (.iload_n 3, 1) := by decide +kernel
theorem dX4_store_3 : decode cX4_store 3 = .ok (.invokevirtual 31, 3) := by decide +kernel
theorem dX4_store_6 : decode cX4_store 6 = .ok (.istore 6, 2) := by decide +kernel
theorem dX4_store_8 : decode cX4_store 8 = .ok (.iload 6, 2) := by decide +kernel
theorem dX4_store_10 : decode cX4_store 10 = .ok (.ifCond .lt 16, 3) := by decide +kernel
theorem dX4_store_13 : decode cX4_store 13 = .ok (.aload_n 0, 1) := by decide +kernel
theorem dX4_store_14 : decode cX4_store 14 = .ok (.getfield 9, 3) := by decide +kernel
theorem dX4_store_17 : decode cX4_store 17 = .ok (.iload 6, 2) := by decide +kernel
theorem dX4_store_19 : decode cX4_store 19 = .ok (.lload 4, 2) := by decide +kernel
theorem dX4_store_21 : decode cX4_store 21 = .ok (.lconst 1, 1) := by decide +kernel
theorem dX4_store_22 : decode cX4_store 22 = .ok (.land, 1) := by decide +kernel
theorem dX4_store_23 : decode cX4_store 23 = .ok (.l2i, 1) := by decide +kernel
theorem dX4_store_24 : decode cX4_store 24 = .ok (.iastore, 1) := by decide +kernel
theorem dX4_store_25 : decode cX4_store 25 = .ok (.return_, 1) := by decide +kernel
theorem dX4_store_26 : decode cX4_store 26 = .ok (.aload_n 0, 1) := by decide +kernel
theorem dX4_store_27 : decode cX4_store 27 = .ok (.lload_n 1, 1) := by decide +kernel
theorem dX4_store_28 : decode cX4_store 28 = .ok (.iload_n 3, 1) := by decide +kernel
theorem dX4_store_29 : decode cX4_store 29 = .ok (.invokevirtual 35, 3) := by decide +kernel
theorem dX4_store_32 : decode cX4_store 32 = .ok (.istore 7, 2) := by decide +kernel
theorem dX4_store_34 : decode cX4_store 34 = .ok (.iload 7, 2) := by decide +kernel
theorem dX4_store_36 : decode cX4_store 36 = .ok (.ifCond .ge 4, 3) := by decide +kernel
theorem dX4_store_39 : decode cX4_store 39 = .ok (.return_, 1) := by decide +kernel
theorem dX4_store_40 : decode cX4_store 40 = .ok (.iload_n 3, 1) := by decide +kernel
theorem dX4_store_41 : decode cX4_store 41 = .ok (.bipush 8, 2) := by decide +kernel
theorem dX4_store_43 : decode cX4_store 43 = .ok (.if_icmp .ne 15, 3) := by decide +kernel
theorem dX4_store_46 : decode cX4_store 46 = .ok (.aload_n 0, 1) := by decide +kernel
theorem dX4_store_47 : decode cX4_store 47 = .ok (.getfield 15, 3) := by decide +kernel
theorem dX4_store_50 : decode cX4_store 50 = .ok (.iload 7, 2) := by decide +kernel
theorem dX4_store_52 : decode cX4_store 52 = .ok (.lload 4, 2) := by decide +kernel
theorem dX4_store_54 : decode cX4_store 54 = .ok (.lastore, 1) := by decide +kernel
theorem dX4_store_55 : decode cX4_store 55 = .ok (.goto 62, 3) := by decide +kernel
theorem dX4_store_58 : decode cX4_store 58 = .ok (.lload_n 1, 1) := by decide +kernel
theorem dX4_store_59 : decode cX4_store 59 = .ok (.invokestatic 38, 3) := by decide +kernel
theorem dX4_store_62 : decode cX4_store 62 = .ok (.ifCond .eq 30, 3) := by decide +kernel
theorem dX4_store_65 : decode cX4_store 65 = .ok (.aload_n 0, 1) := by decide +kernel
theorem dX4_store_66 : decode cX4_store 66 = .ok (.getfield 15, 3) := by decide +kernel
theorem dX4_store_69 : decode cX4_store 69 = .ok (.iload 7, 2) := by decide +kernel
theorem dX4_store_71 : decode cX4_store 71 = .ok (.lload 4, 2) := by decide +kernel
theorem dX4_store_73 : decode cX4_store 73 = .ok (.bipush 32, 2) := by decide +kernel
theorem dX4_store_75 : decode cX4_store 75 = .ok (.lshl, 1) := by decide +kernel
theorem dX4_store_76 : decode cX4_store 76 = .ok (.aload_n 0, 1) := by decide +kernel
theorem dX4_store_77 : decode cX4_store 77 = .ok (.getfield 15, 3) := by decide +kernel
theorem dX4_store_80 : decode cX4_store 80 = .ok (.iload 7, 2) := by decide +kernel
theorem dX4_store_82 : decode cX4_store 82 = .ok (.laload, 1) := by decide +kernel
theorem dX4_store_83 : decode cX4_store 83 = .ok (.ldc2_w 42, 3) := by decide +kernel
theorem dX4_store_86 : decode cX4_store 86 = .ok (.land, 1) := by decide +kernel
theorem dX4_store_87 : decode cX4_store 87 = .ok (.lor, 1) := by decide +kernel
theorem dX4_store_88 : decode cX4_store 88 = .ok (.lastore, 1) := by decide +kernel
theorem dX4_store_89 : decode cX4_store 89 = .ok (.goto 28, 3) := by decide +kernel
theorem dX4_store_92 : decode cX4_store 92 = .ok (.aload_n 0, 1) := by decide +kernel
theorem dX4_store_93 : decode cX4_store 93 = .ok (.getfield 15, 3) := by decide +kernel
theorem dX4_store_96 : decode cX4_store 96 = .ok (.iload 7, 2) := by decide +kernel
theorem dX4_store_98 : decode cX4_store 98 = .ok (.aload_n 0, 1) := by decide +kernel
theorem dX4_store_99 : decode cX4_store 99 = .ok (.getfield 15, 3) := by decide +kernel
theorem dX4_store_102 : decode cX4_store 102 = .ok (.iload 7, 2) := by decide +kernel
theorem dX4_store_104 : decode cX4_store 104 = .ok (.laload, 1) := by decide +kernel
theorem dX4_store_105 : decode cX4_store 105 = .ok (.ldc2_w 44, 3) := by decide +kernel
theorem dX4_store_108 : decode cX4_store 108 = .ok (.land, 1) := by decide +kernel
theorem dX4_store_109 : decode cX4_store 109 = .ok (.lload 4, 2) := by decide +kernel
theorem dX4_store_111 : decode cX4_store 111 = .ok (.ldc2_w 42, 3) := by decide +kernel
theorem dX4_store_114 : decode cX4_store 114 = .ok (.land, 1) := by decide +kernel
theorem dX4_store_115 : decode cX4_store 115 = .ok (.lor, 1) := by decide +kernel
theorem dX4_store_116 : decode cX4_store 116 = .ok (.lastore, 1) := by decide +kernel
theorem dX4_store_117 : decode cX4_store 117 = .ok (.return_, 1) := by decide +kernel
theorem dX0_store_0 : decode cX0_store 0 = .ok (.iload_n 3, 1) := by decide +kernel
theorem dX0_store_1 : decode cX0_store 1 = .ok (.iconst 4, 1) := by decide +kernel
theorem dX0_store_2 : decode cX0_store 2 = .ok (.if_icmp .eq 4, 3) := by decide +kernel
theorem dX0_store_5 : decode cX0_store 5 = .ok (.return_, 1) := by decide +kernel
theorem dX0_store_6 : decode cX0_store 6 = .ok (.lload_n 1, 1) := by decide +kernel
theorem dX0_store_7 : decode cX0_store 7 = .ok (.lconst 0, 1) := by decide +kernel
theorem dX0_store_8 : decode cX0_store 8 = .ok (.iconst 2, 1) := by decide +kernel
theorem dX0_store_9 : decode cX0_store 9 = .ok (.bipush 32, 2) := by decide +kernel
theorem dX0_store_11 : decode cX0_store 11 = .ok (.invokestatic 32, 3) := by decide +kernel
theorem dX0_store_14 : decode cX0_store 14 = .ok (.istore 5, 2) := by decide +kernel
theorem dX0_store_16 : decode cX0_store 16 = .ok (.iload 5, 2) := by decide +kernel
theorem dX0_store_18 : decode cX0_store 18 = .ok (.ifCond .le 15, 3) := by decide +kernel
theorem dX0_store_21 : decode cX0_store 21 = .ok (.aload_n 0, 1) := by decide +kernel
theorem dX0_store_22 : decode cX0_store 22 = .ok (.getfield 9, 3) := by decide +kernel
theorem dX0_store_25 : decode cX0_store 25 = .ok (.iload 5, 2) := by decide +kernel
theorem dX0_store_27 : decode cX0_store 27 = .ok (.iload 4, 2) := by decide +kernel
theorem dX0_store_29 : decode cX0_store 29 = .ok (.bipush 7, 2) := by decide +kernel
theorem dX0_store_31 : decode cX0_store 31 = .ok (.iand, 1) := by decide +kernel
theorem dX0_store_32 : decode cX0_store 32 = .ok (.iastore, 1) := by decide +kernel
theorem dX0_store_33 : decode cX0_store 33 = .ok (.lload_n 1, 1) := by decide +kernel
theorem dX0_store_34 : decode cX0_store 34 = .ok (.ldc2_w 36, 3) := by decide +kernel
theorem dX0_store_37 : decode cX0_store 37 = .ok (.bipush 7, 2) := by decide +kernel
theorem dX0_store_39 : decode cX0_store 39 = .ok (.aload_n 0, 1) := by decide +kernel
theorem dX0_store_40 : decode cX0_store 40 = .ok (.getfield 15, 3) := by decide +kernel
theorem dX0_store_43 : decode cX0_store 43 = .ok (.invokestatic 32, 3) := by decide +kernel
theorem dX0_store_46 : decode cX0_store 46 = .ok (.istore 6, 2) := by decide +kernel
theorem dX0_store_48 : decode cX0_store 48 = .ok (.iload 6, 2) := by decide +kernel
theorem dX0_store_50 : decode cX0_store 50 = .ok (.ifCond .lt 15, 3) := by decide +kernel
theorem dX0_store_53 : decode cX0_store 53 = .ok (.aload_n 0, 1) := by decide +kernel
theorem dX0_store_54 : decode cX0_store 54 = .ok (.getfield 19, 3) := by decide +kernel
theorem dX0_store_57 : decode cX0_store 57 = .ok (.iload 6, 2) := by decide +kernel
theorem dX0_store_59 : decode cX0_store 59 = .ok (.iload 4, 2) := by decide +kernel
theorem dX0_store_61 : decode cX0_store 61 = .ok (.bipush (-2), 2) := by decide +kernel
theorem dX0_store_63 : decode cX0_store 63 = .ok (.iand, 1) := by decide +kernel
theorem dX0_store_64 : decode cX0_store 64 = .ok (.iastore, 1) := by decide +kernel
theorem dX0_store_65 : decode cX0_store 65 = .ok (.lload_n 1, 1) := by decide +kernel
theorem dX0_store_66 : decode cX0_store 66 = .ok (.ldc2_w 38, 3) := by decide +kernel
theorem dX0_store_69 : decode cX0_store 69 = .ok (.bipush 12, 2) := by decide +kernel
theorem dX0_store_71 : decode cX0_store 71 = .ok (.aload_n 0, 1) := by decide +kernel
theorem dX0_store_72 : decode cX0_store 72 = .ok (.getfield 15, 3) := by decide +kernel
theorem dX0_store_75 : decode cX0_store 75 = .ok (.invokestatic 32, 3) := by decide +kernel
theorem dX0_store_78 : decode cX0_store 78 = .ok (.istore 6, 2) := by decide +kernel
theorem dX0_store_80 : decode cX0_store 80 = .ok (.iload 6, 2) := by decide +kernel
theorem dX0_store_82 : decode cX0_store 82 = .ok (.ifCond .lt 15, 3) := by decide +kernel
theorem dX0_store_85 : decode cX0_store 85 = .ok (.aload_n 0, 1) := by decide +kernel
theorem dX0_store_86 : decode cX0_store 86 = .ok (.getfield 22, 3) := by decide +kernel
theorem dX0_store_89 : decode cX0_store 89 = .ok (.iload 6, 2) := by decide +kernel
theorem dX0_store_91 : decode cX0_store 91 = .ok (.iload 4, 2) := by decide +kernel
theorem dX0_store_93 : decode cX0_store 93 = .ok (.bipush 7, 2) := by decide +kernel
theorem dX0_store_95 : decode cX0_store 95 = .ok (.iand, 1) := by decide +kernel
theorem dX0_store_96 : decode cX0_store 96 = .ok (.iastore, 1) := by decide +kernel
theorem dX0_store_97 : decode cX0_store 97 = .ok (.lload_n 1, 1) := by decide +kernel
theorem dX0_store_98 : decode cX0_store 98 = .ok (.ldc2_w 40, 3) := by decide +kernel
theorem dX0_store_101 : decode cX0_store 101 = .ok (.bipush 12, 2) := by decide +kernel
theorem dX0_store_103 : decode cX0_store 103 = .ok (.aload_n 0, 1) := by decide +kernel
theorem dX0_store_104 : decode cX0_store 104 = .ok (.getfield 15, 3) := by decide +kernel
theorem dX0_store_107 : decode cX0_store 107 = .ok (.invokestatic 32, 3) := by decide +kernel
theorem dX0_store_110 : decode cX0_store 110 = .ok (.istore 6, 2) := by decide +kernel
theorem dX0_store_112 : decode cX0_store 112 = .ok (.iload 6, 2) := by decide +kernel
theorem dX0_store_114 : decode cX0_store 114 = .ok (.ifCond .lt 11, 3) := by decide +kernel
theorem dX0_store_117 : decode cX0_store 117 = .ok (.aload_n 0, 1) := by decide +kernel
theorem dX0_store_118 : decode cX0_store 118 = .ok (.iload 6, 2) := by decide +kernel
theorem dX0_store_120 : decode cX0_store 120 = .ok (.iload 4, 2) := by decide +kernel
theorem dX0_store_122 : decode cX0_store 122 = .ok (.invokevirtual 46, 3) := by decide +kernel
theorem dX0_store_125 : decode cX0_store 125 = .ok (.return_, 1) := by decide +kernel
theorem dX0_complete_0 : decode cX0_complete 0 = .ok (.iload_n 2, 1) := by decide +kernel
theorem dX0_complete_1 : decode cX0_complete 1 = .ok (.ifCond .le 34, 3) := by decide +kernel
theorem dX0_complete_4 : decode cX0_complete 4 = .ok (.iload_n 2, 1) := by decide +kernel
theorem dX0_complete_5 : decode cX0_complete 5 = .ok (.bipush 32, 2) := by decide +kernel
theorem dX0_complete_7 : decode cX0_complete 7 = .ok (.if_icmp .ge 28, 3) := by decide +kernel
theorem dX0_complete_10 : decode cX0_complete 10 = .ok (.aload_n 0, 1) := by decide +kernel
theorem dX0_complete_11 : decode cX0_complete 11 = .ok (.dup, 1) := by decide +kernel
theorem dX0_complete_12 : decode cX0_complete 12 = .ok (.getfield 59, 3) := by decide +kernel
theorem dX0_complete_15 : decode cX0_complete 15 = .ok (.aload_n 0, 1) := by decide +kernel
theorem dX0_complete_16 : decode cX0_complete 16 = .ok (.getfield 19, 3) := by decide +kernel
theorem dX0_complete_19 : decode cX0_complete 19 = .ok (.iload_n 1, 1) := by decide +kernel
theorem dX0_complete_20 : decode cX0_complete 20 = .ok (.iaload, 1) := by decide +kernel
theorem dX0_complete_21 : decode cX0_complete 21 = .ok (.iconst 1, 1) := by decide +kernel
theorem dX0_complete_22 : decode cX0_complete 22 = .ok (.iload_n 2, 1) := by decide +kernel
theorem dX0_complete_23 : decode cX0_complete 23 = .ok (.ishl, 1) := by decide +kernel
theorem dX0_complete_24 : decode cX0_complete 24 = .ok (.iand, 1) := by decide +kernel
theorem dX0_complete_25 : decode cX0_complete 25 = .ok (.iconst (-1), 1) := by decide +kernel
theorem dX0_complete_26 : decode cX0_complete 26 = .ok (.ixor, 1) := by decide +kernel
theorem dX0_complete_27 : decode cX0_complete 27 = .ok (.iand, 1) := by decide +kernel
theorem dX0_complete_28 : decode cX0_complete 28 = .ok (.putfield 59, 3) := by decide +kernel
theorem dX0_complete_31 : decode cX0_complete 31 = .ok (.aload_n 0, 1) := by decide +kernel
theorem dX0_complete_32 : decode cX0_complete 32 = .ok (.invokevirtual 53, 3) := by decide +kernel
theorem dX0_complete_35 : decode cX0_complete 35 = .ok (.return_, 1) := by decide +kernel
theorem dX3_store_0 : decode cX3_store 0 = .ok (.iload_n 3, 1) := by decide +kernel
theorem dX3_store_1 : decode cX3_store 1 = .ok (.iconst 1, 1) := by decide +kernel
theorem dX3_store_2 : decode cX3_store 2 = .ok (.if_icmp .ne 11, 3) := by decide +kernel
theorem dX3_store_5 : decode cX3_store 5 = .ok (.lload_n 1, 1) := by decide +kernel
theorem dX3_store_6 : decode cX3_store 6 = .ok (.ldc2_w 23, 3) := by decide +kernel
theorem dX3_store_9 : decode cX3_store 9 = .ok (.lcmp, 1) := by decide +kernel
theorem dX3_store_10 : decode cX3_store 10 = .ok (.ifCond .le 4, 3) := by decide +kernel
theorem dX3_store_13 : decode cX3_store 13 = .ok (.return_, 1) := by decide +kernel
theorem dX3_store_14 : decode cX3_store 14 = .ok (.lload_n 1, 1) := by decide +kernel
theorem dX3_store_15 : decode cX3_store 15 = .ok (.l2i, 1) := by decide +kernel
theorem dX3_store_16 : decode cX3_store 16 = .ok (.tableswitch 130 0 7 #[48, 57, 66, 100, 109, 130, 130, 121], 48) := by decide +kernel
theorem dX3_store_64 : decode cX3_store 64 = .ok (.aload_n 0, 1) := by decide +kernel
theorem dX3_store_65 : decode cX3_store 65 = .ok (.iload 4, 2) := by decide +kernel
theorem dX3_store_67 : decode cX3_store 67 = .ok (.invokevirtual 61, 3) := by decide +kernel
theorem dX3_store_70 : decode cX3_store 70 = .ok (.goto 76, 3) := by decide +kernel
theorem dX3_store_73 : decode cX3_store 73 = .ok (.aload_n 0, 1) := by decide +kernel
theorem dX3_store_74 : decode cX3_store 74 = .ok (.iload 4, 2) := by decide +kernel
theorem dX3_store_76 : decode cX3_store 76 = .ok (.invokevirtual 65, 3) := by decide +kernel
theorem dX3_store_79 : decode cX3_store 79 = .ok (.goto 67, 3) := by decide +kernel
theorem dX3_store_82 : decode cX3_store 82 = .ok (.aload_n 0, 1) := by decide +kernel
theorem dX3_store_83 : decode cX3_store 83 = .ok (.getfield 10, 3) := by decide +kernel
theorem dX3_store_86 : decode cX3_store 86 = .ok (.iload 4, 2) := by decide +kernel
theorem dX3_store_88 : decode cX3_store 88 = .ok (.iconst 1, 1) := by decide +kernel
theorem dX3_store_89 : decode cX3_store 89 = .ok (.iand, 1) := by decide +kernel
theorem dX3_store_90 : decode cX3_store 90 = .ok (.ifCond .eq 7, 3) := by decide +kernel
theorem dX3_store_93 : decode cX3_store 93 = .ok (.iconst 1, 1) := by decide +kernel
theorem dX3_store_94 : decode cX3_store 94 = .ok (.goto 4, 3) := by decide +kernel
theorem dX3_store_97 : decode cX3_store 97 = .ok (.iconst 0, 1) := by decide +kernel
theorem dX3_store_98 : decode cX3_store 98 = .ok (.iload 4, 2) := by decide +kernel
theorem dX3_store_100 : decode cX3_store 100 = .ok (.iconst 2, 1) := by decide +kernel
theorem dX3_store_101 : decode cX3_store 101 = .ok (.iand, 1) := by decide +kernel
theorem dX3_store_102 : decode cX3_store 102 = .ok (.ifCond .eq 7, 3) := by decide +kernel
theorem dX3_store_105 : decode cX3_store 105 = .ok (.iconst 1, 1) := by decide +kernel
theorem dX3_store_106 : decode cX3_store 106 = .ok (.goto 4, 3) := by decide +kernel
theorem dX3_store_109 : decode cX3_store 109 = .ok (.iconst 0, 1) := by decide +kernel
theorem dX3_store_110 : decode cX3_store 110 = .ok (.invokevirtual 68, 3) := by decide +kernel
theorem dX3_store_113 : decode cX3_store 113 = .ok (.goto 33, 3) := by decide +kernel
theorem dX3_store_116 : decode cX3_store 116 = .ok (.aload_n 0, 1) := by decide +kernel
theorem dX3_store_117 : decode cX3_store 117 = .ok (.iload 4, 2) := by decide +kernel
theorem dX3_store_119 : decode cX3_store 119 = .ok (.putfield 46, 3) := by decide +kernel
theorem dX3_store_122 : decode cX3_store 122 = .ok (.goto 24, 3) := by decide +kernel
theorem dX3_store_125 : decode cX3_store 125 = .ok (.aload_n 0, 1) := by decide +kernel
theorem dX3_store_126 : decode cX3_store 126 = .ok (.iload 4, 2) := by decide +kernel
theorem dX3_store_128 : decode cX3_store 128 = .ok (.bipush 31, 2) := by decide +kernel
theorem dX3_store_130 : decode cX3_store 130 = .ok (.iand, 1) := by decide +kernel
theorem dX3_store_131 : decode cX3_store 131 = .ok (.putfield 49, 3) := by decide +kernel
theorem dX3_store_134 : decode cX3_store 134 = .ok (.goto 12, 3) := by decide +kernel
theorem dX3_store_137 : decode cX3_store 137 = .ok (.aload_n 0, 1) := by decide +kernel
theorem dX3_store_138 : decode cX3_store 138 = .ok (.iload 4, 2) := by decide +kernel
theorem dX3_store_140 : decode cX3_store 140 = .ok (.putfield 58, 3) := by decide +kernel
theorem dX3_store_143 : decode cX3_store 143 = .ok (.goto 3, 3) := by decide +kernel
theorem dX3_store_146 : decode cX3_store 146 = .ok (.return_, 1) := by decide +kernel
theorem dX3_storeData_0 : decode cX3_storeData 0 = .ok (.aload_n 0, 1) := by decide +kernel
theorem dX3_storeData_1 : decode cX3_storeData 1 = .ok (.invokevirtual 25, 3) := by decide +kernel
theorem dX3_storeData_4 : decode cX3_storeData 4 = .ok (.ifCond .eq 9, 3) := by decide +kernel
theorem dX3_storeData_7 : decode cX3_storeData 7 = .ok (.aload_n 0, 1) := by decide +kernel
theorem dX3_storeData_8 : decode cX3_storeData 8 = .ok (.iload_n 1, 1) := by decide +kernel
theorem dX3_storeData_9 : decode cX3_storeData 9 = .ok (.putfield 29, 3) := by decide +kernel
theorem dX3_storeData_12 : decode cX3_storeData 12 = .ok (.return_, 1) := by decide +kernel
theorem dX3_storeData_13 : decode cX3_storeData 13 = .ok (.aload_n 0, 1) := by decide +kernel
theorem dX3_storeData_14 : decode cX3_storeData 14 = .ok (.getfield 49, 3) := by decide +kernel
theorem dX3_storeData_17 : decode cX3_storeData 17 = .ok (.bipush 16, 2) := by decide +kernel
theorem dX3_storeData_19 : decode cX3_storeData 19 = .ok (.iand, 1) := by decide +kernel
theorem dX3_storeData_20 : decode cX3_storeData 20 = .ok (.ifCond .eq 12, 3) := by decide +kernel
theorem dX3_storeData_23 : decode cX3_storeData 23 = .ok (.aload_n 0, 1) := by decide +kernel
theorem dX3_storeData_24 : decode cX3_storeData 24 = .ok (.iload_n 1, 1) := by decide +kernel
theorem dX3_storeData_25 : decode cX3_storeData 25 = .ok (.invokevirtual 92, 3) := by decide +kernel
theorem dX3_storeData_28 : decode cX3_storeData 28 = .ok (.pop, 1) := by decide +kernel
theorem dX3_storeData_29 : decode cX3_storeData 29 = .ok (.goto 11, 3) := by decide +kernel
theorem dX3_storeData_32 : decode cX3_storeData 32 = .ok (.aload_n 0, 1) := by decide +kernel
theorem dX3_storeData_33 : decode cX3_storeData 33 = .ok (.getfield 19, 3) := by decide +kernel
theorem dX3_storeData_36 : decode cX3_storeData 36 = .ok (.iload_n 1, 1) := by decide +kernel
theorem dX3_storeData_37 : decode cX3_storeData 37 = .ok (.invokevirtual 95, 3) := by decide +kernel
theorem dX3_storeData_40 : decode cX3_storeData 40 = .ok (.aload_n 0, 1) := by decide +kernel
theorem dX3_storeData_41 : decode cX3_storeData 41 = .ok (.iconst 1, 1) := by decide +kernel
theorem dX3_storeData_42 : decode cX3_storeData 42 = .ok (.putfield 83, 3) := by decide +kernel
theorem dX3_storeData_45 : decode cX3_storeData 45 = .ok (.return_, 1) := by decide +kernel
theorem dX2_add_0 : decode cX2_add 0 = .ok (.aload_n 0, 1) := by decide +kernel
theorem dX2_add_1 : decode cX2_add 1 = .ok (.getfield 9, 3) := by decide +kernel
theorem dX2_add_4 : decode cX2_add 4 = .ok (.aload_n 0, 1) := by decide +kernel
theorem dX2_add_5 : decode cX2_add 5 = .ok (.getfield 13, 3) := by decide +kernel
theorem dX2_add_8 : decode cX2_add 8 = .ok (.ldc2_w 17, 3) := by decide +kernel
theorem dX2_add_11 : decode cX2_add 11 = .ok (.land, 1) := by decide +kernel
theorem dX2_add_12 : decode cX2_add 12 = .ok (.l2i, 1) := by decide +kernel
theorem dX2_add_13 : decode cX2_add 13 = .ok (.iload_n 1, 1) := by decide +kernel
theorem dX2_add_14 : decode cX2_add 14 = .ok (.i2b, 1) := by decide +kernel
theorem dX2_add_15 : decode cX2_add 15 = .ok (.bastore, 1) := by decide +kernel
theorem dX2_add_16 : decode cX2_add 16 = .ok (.aload_n 0, 1) := by decide +kernel
theorem dX2_add_17 : decode cX2_add 17 = .ok (.dup, 1) := by decide +kernel
theorem dX2_add_18 : decode cX2_add 18 = .ok (.getfield 13, 3) := by decide +kernel
theorem dX2_add_21 : decode cX2_add 21 = .ok (.lconst 1, 1) := by decide +kernel
theorem dX2_add_22 : decode cX2_add 22 = .ok (.ladd, 1) := by decide +kernel
theorem dX2_add_23 : decode cX2_add 23 = .ok (.putfield 13, 3) := by decide +kernel
theorem dX2_add_26 : decode cX2_add 26 = .ok (.return_, 1) := by decide +kernel
theorem dX3_storeEnables_0 : decode cX3_storeEnables 0 = .ok (.aload_n 0, 1) := by decide +kernel
theorem dX3_storeEnables_1 : decode cX3_storeEnables 1 = .ok (.invokevirtual 25, 3) := by decide +kernel
theorem dX3_storeEnables_4 : decode cX3_storeEnables 4 = .ok (.ifCond .eq 9, 3) := by decide +kernel
theorem dX3_storeEnables_7 : decode cX3_storeEnables 7 = .ok (.aload_n 0, 1) := by decide +kernel
theorem dX3_storeEnables_8 : decode cX3_storeEnables 8 = .ok (.iload_n 1, 1) := by decide +kernel
theorem dX3_storeEnables_9 : decode cX3_storeEnables 9 = .ok (.putfield 37, 3) := by decide +kernel
theorem dX3_storeEnables_12 : decode cX3_storeEnables 12 = .ok (.return_, 1) := by decide +kernel
theorem dX3_storeEnables_13 : decode cX3_storeEnables 13 = .ok (.iload_n 1, 1) := by decide +kernel
theorem dX3_storeEnables_14 : decode cX3_storeEnables 14 = .ok (.aload_n 0, 1) := by decide +kernel
theorem dX3_storeEnables_15 : decode cX3_storeEnables 15 = .ok (.getfield 40, 3) := by decide +kernel
theorem dX3_storeEnables_18 : decode cX3_storeEnables 18 = .ok (.iconst (-1), 1) := by decide +kernel
theorem dX3_storeEnables_19 : decode cX3_storeEnables 19 = .ok (.ixor, 1) := by decide +kernel
theorem dX3_storeEnables_20 : decode cX3_storeEnables 20 = .ok (.iand, 1) := by decide +kernel
theorem dX3_storeEnables_21 : decode cX3_storeEnables 21 = .ok (.iconst 2, 1) := by decide +kernel
theorem dX3_storeEnables_22 : decode cX3_storeEnables 22 = .ok (.iand, 1) := by decide +kernel
theorem dX3_storeEnables_23 : decode cX3_storeEnables 23 = .ok (.ifCond .eq 8, 3) := by decide +kernel
theorem dX3_storeEnables_26 : decode cX3_storeEnables 26 = .ok (.aload_n 0, 1) := by decide +kernel
theorem dX3_storeEnables_27 : decode cX3_storeEnables 27 = .ok (.iconst 1, 1) := by decide +kernel
theorem dX3_storeEnables_28 : decode cX3_storeEnables 28 = .ok (.putfield 83, 3) := by decide +kernel
theorem dX3_storeEnables_31 : decode cX3_storeEnables 31 = .ok (.aload_n 0, 1) := by decide +kernel
theorem dX3_storeEnables_32 : decode cX3_storeEnables 32 = .ok (.iload_n 1, 1) := by decide +kernel
theorem dX3_storeEnables_33 : decode cX3_storeEnables 33 = .ok (.bipush 15, 2) := by decide +kernel
theorem dX3_storeEnables_35 : decode cX3_storeEnables 35 = .ok (.iand, 1) := by decide +kernel
theorem dX3_storeEnables_36 : decode cX3_storeEnables 36 = .ok (.putfield 40, 3) := by decide +kernel
theorem dX3_storeEnables_39 : decode cX3_storeEnables 39 = .ok (.return_, 1) := by decide +kernel
theorem dX1_configure_0 : decode cX1_configure 0 = .ok (.iload_n 2, 1) := by decide +kernel
theorem dX1_configure_1 : decode cX1_configure 1 = .ok (.ifCond .ne 11, 3) := by decide +kernel
theorem dX1_configure_4 : decode cX1_configure 4 = .ok (.iload_n 1, 1) := by decide +kernel
theorem dX1_configure_5 : decode cX1_configure 5 = .ok (.aload_n 0, 1) := by decide +kernel
theorem dX1_configure_6 : decode cX1_configure 6 = .ok (.getfield 13, 3) := by decide +kernel
theorem dX1_configure_9 : decode cX1_configure 9 = .ok (.if_icmp .eq 8, 3) := by decide +kernel
theorem dX1_configure_12 : decode cX1_configure 12 = .ok (.aload_n 0, 1) := by decide +kernel
theorem dX1_configure_13 : decode cX1_configure 13 = .ok (.iconst 0, 1) := by decide +kernel
theorem dX1_configure_14 : decode cX1_configure 14 = .ok (.putfield 17, 3) := by decide +kernel
theorem dX1_configure_17 : decode cX1_configure 17 = .ok (.aload_n 0, 1) := by decide +kernel
theorem dX1_configure_18 : decode cX1_configure 18 = .ok (.iload_n 1, 1) := by decide +kernel
theorem dX1_configure_19 : decode cX1_configure 19 = .ok (.putfield 13, 3) := by decide +kernel
theorem dX1_configure_22 : decode cX1_configure 22 = .ok (.return_, 1) := by decide +kernel
theorem dX5_signal_0 : decode cX5_signal 0 = .ok (.iload_n 1, 1) := by decide +kernel
theorem dX5_signal_1 : decode cX5_signal 1 = .ok (.iconst 1, 1) := by decide +kernel
theorem dX5_signal_2 : decode cX5_signal 2 = .ok (.if_icmp .lt 15, 3) := by decide +kernel
theorem dX5_signal_5 : decode cX5_signal 5 = .ok (.iload_n 1, 1) := by decide +kernel
theorem dX5_signal_6 : decode cX5_signal 6 = .ok (.bipush 32, 2) := by decide +kernel
theorem dX5_signal_8 : decode cX5_signal 8 = .ok (.if_icmp .ge 9, 3) := by decide +kernel
theorem dX5_signal_11 : decode cX5_signal 11 = .ok (.iload_n 1, 1) := by decide +kernel
theorem dX5_signal_12 : decode cX5_signal 12 = .ok (.bipush 10, 2) := by decide +kernel
theorem dX5_signal_14 : decode cX5_signal 14 = .ok (.if_icmp .ne 13, 3) := by decide +kernel
theorem dX5_signal_17 : decode cX5_signal 17 = .ok (.new 40, 3) := by decide +kernel
theorem dX5_signal_20 : decode cX5_signal 20 = .ok (.dup, 1) := by decide +kernel
theorem dX5_signal_21 : decode cX5_signal 21 = .ok (.ldc 68, 2) := by decide +kernel
theorem dX5_signal_23 : decode cX5_signal 23 = .ok (.invokespecial 44, 3) := by decide +kernel
theorem dX5_signal_26 : decode cX5_signal 26 = .ok (.athrow, 1) := by decide +kernel
theorem dX5_signal_27 : decode cX5_signal 27 = .ok (.aload_n 0, 1) := by decide +kernel
theorem dX5_signal_28 : decode cX5_signal 28 = .ok (.getfield 25, 3) := by decide +kernel
theorem dX5_signal_31 : decode cX5_signal 31 = .ok (.iload_n 1, 1) := by decide +kernel
theorem dX5_signal_32 : decode cX5_signal 32 = .ok (.iload_n 2, 1) := by decide +kernel
theorem dX5_signal_33 : decode cX5_signal 33 = .ok (.invokevirtual 70, 3) := by decide +kernel
theorem dX5_signal_36 : decode cX5_signal 36 = .ok (.return_, 1) := by decide +kernel
theorem dX5_line_0 : decode cX5_line 0 = .ok (.iload_n 1, 1) := by decide +kernel
theorem dX5_line_1 : decode cX5_line 1 = .ok (.ifCond .lt 11, 3) := by decide +kernel
theorem dX5_line_4 : decode cX5_line 4 = .ok (.iload_n 1, 1) := by decide +kernel
theorem dX5_line_5 : decode cX5_line 5 = .ok (.aload_n 0, 1) := by decide +kernel
theorem dX5_line_6 : decode cX5_line 6 = .ok (.getfield 9, 3) := by decide +kernel
theorem dX5_line_9 : decode cX5_line 9 = .ok (.if_icmp .lt 13, 3) := by decide +kernel
theorem dX5_line_12 : decode cX5_line 12 = .ok (.new 40, 3) := by decide +kernel
theorem dX5_line_15 : decode cX5_line 15 = .ok (.dup, 1) := by decide +kernel
theorem dX5_line_16 : decode cX5_line 16 = .ok (.ldc 92, 2) := by decide +kernel
theorem dX5_line_18 : decode cX5_line 18 = .ok (.invokespecial 44, 3) := by decide +kernel
theorem dX5_line_21 : decode cX5_line 21 = .ok (.athrow, 1) := by decide +kernel
theorem dX5_line_22 : decode cX5_line 22 = .ok (.iload_n 2, 1) := by decide +kernel
theorem dX5_line_23 : decode cX5_line 23 = .ok (.tableswitch 91 3 11 #[49, 91, 91, 91, 58, 91, 78, 91, 67], 49) := by decide +kernel
theorem dX5_line_72 : decode cX5_line 72 = .ok (.aload_n 0, 1) := by decide +kernel
theorem dX5_line_73 : decode cX5_line 73 = .ok (.getfield 18, 3) := by decide +kernel
theorem dX5_line_76 : decode cX5_line 76 = .ok (.iload_n 1, 1) := by decide +kernel
theorem dX5_line_77 : decode cX5_line 77 = .ok (.invokevirtual 94, 3) := by decide +kernel
theorem dX5_line_80 : decode cX5_line 80 = .ok (.ireturn, 1) := by decide +kernel
theorem dX5_line_81 : decode cX5_line 81 = .ok (.aload_n 0, 1) := by decide +kernel
theorem dX5_line_82 : decode cX5_line 82 = .ok (.getfield 18, 3) := by decide +kernel
theorem dX5_line_85 : decode cX5_line 85 = .ok (.iload_n 1, 1) := by decide +kernel
theorem dX5_line_86 : decode cX5_line 86 = .ok (.invokevirtual 97, 3) := by decide +kernel
theorem dX5_line_89 : decode cX5_line 89 = .ok (.ireturn, 1) := by decide +kernel
theorem dX5_line_90 : decode cX5_line 90 = .ok (.aload_n 0, 1) := by decide +kernel
theorem dX5_line_91 : decode cX5_line 91 = .ok (.getfield 25, 3) := by decide +kernel
theorem dX5_line_94 : decode cX5_line 94 = .ok (.iconst 2, 1) := by decide +kernel
theorem dX5_line_95 : decode cX5_line 95 = .ok (.iload_n 1, 1) := by decide +kernel
theorem dX5_line_96 : decode cX5_line 96 = .ok (.imul, 1) := by decide +kernel
theorem dX5_line_97 : decode cX5_line 97 = .ok (.invokevirtual 100, 3) := by decide +kernel
theorem dX5_line_100 : decode cX5_line 100 = .ok (.ireturn, 1) := by decide +kernel
theorem dX5_line_101 : decode cX5_line 101 = .ok (.aload_n 0, 1) := by decide +kernel
theorem dX5_line_102 : decode cX5_line 102 = .ok (.getfield 25, 3) := by decide +kernel
theorem dX5_line_105 : decode cX5_line 105 = .ok (.iconst 2, 1) := by decide +kernel
theorem dX5_line_106 : decode cX5_line 106 = .ok (.iload_n 1, 1) := by decide +kernel
theorem dX5_line_107 : decode cX5_line 107 = .ok (.imul, 1) := by decide +kernel
theorem dX5_line_108 : decode cX5_line 108 = .ok (.iconst 1, 1) := by decide +kernel
theorem dX5_line_109 : decode cX5_line 109 = .ok (.iadd, 1) := by decide +kernel
theorem dX5_line_110 : decode cX5_line 110 = .ok (.invokevirtual 100, 3) := by decide +kernel
theorem dX5_line_113 : decode cX5_line 113 = .ok (.ireturn, 1) := by decide +kernel
theorem dX5_line_114 : decode cX5_line 114 = .ok (.new 40, 3) := by decide +kernel
theorem dX5_line_117 : decode cX5_line 117 = .ok (.dup, 1) := by decide +kernel
theorem dX5_line_118 : decode cX5_line 118 = .ok (.ldc 103, 2) := by decide +kernel
theorem dX5_line_120 : decode cX5_line 120 = .ok (.invokespecial 44, 3) := by decide +kernel
theorem dX5_line_123 : decode cX5_line 123 = .ok (.athrow, 1) := by decide +kernel
theorem dX4_isSoft_0 : decode cX4_isSoft 0 = .ok (.iload_n 1, 1) := by decide +kernel
theorem dX4_isSoft_1 : decode cX4_isSoft 1 = .ok (.ifCond .lt 25, 3) := by decide +kernel
theorem dX4_isSoft_4 : decode cX4_isSoft 4 = .ok (.iload_n 1, 1) := by decide +kernel
theorem dX4_isSoft_5 : decode cX4_isSoft 5 = .ok (.aload_n 0, 1) := by decide +kernel
theorem dX4_isSoft_6 : decode cX4_isSoft 6 = .ok (.getfield 9, 3) := by decide +kernel
theorem dX4_isSoft_9 : decode cX4_isSoft 9 = .ok (.arraylength, 1) := by decide +kernel
theorem dX4_isSoft_10 : decode cX4_isSoft 10 = .ok (.if_icmp .ge 16, 3) := by decide +kernel
theorem dX4_isSoft_13 : decode cX4_isSoft 13 = .ok (.aload_n 0, 1) := by decide +kernel
theorem dX4_isSoft_14 : decode cX4_isSoft 14 = .ok (.getfield 9, 3) := by decide +kernel
theorem dX4_isSoft_17 : decode cX4_isSoft 17 = .ok (.iload_n 1, 1) := by decide +kernel
theorem dX4_isSoft_18 : decode cX4_isSoft 18 = .ok (.iaload, 1) := by decide +kernel
theorem dX4_isSoft_19 : decode cX4_isSoft 19 = .ok (.ifCond .eq 7, 3) := by decide +kernel
theorem dX4_isSoft_22 : decode cX4_isSoft 22 = .ok (.iconst 1, 1) := by decide +kernel
theorem dX4_isSoft_23 : decode cX4_isSoft 23 = .ok (.goto 4, 3) := by decide +kernel
theorem dX4_isSoft_26 : decode cX4_isSoft 26 = .ok (.iconst 0, 1) := by decide +kernel
theorem dX4_isSoft_27 : decode cX4_isSoft 27 = .ok (.ireturn, 1) := by decide +kernel
theorem dX4_isDue_0 : decode cX4_isDue 0 = .ok (.iload_n 1, 1) := by decide +kernel
theorem dX4_isDue_1 : decode cX4_isDue 1 = .ok (.ifCond .lt 36, 3) := by decide +kernel
theorem dX4_isDue_4 : decode cX4_isDue 4 = .ok (.iload_n 1, 1) := by decide +kernel
theorem dX4_isDue_5 : decode cX4_isDue 5 = .ok (.aload_n 0, 1) := by decide +kernel
theorem dX4_isDue_6 : decode cX4_isDue 6 = .ok (.getfield 19, 3) := by decide +kernel
theorem dX4_isDue_9 : decode cX4_isDue 9 = .ok (.if_icmp .ge 28, 3) := by decide +kernel
theorem dX4_isDue_12 : decode cX4_isDue 12 = .ok (.aload_n 0, 1) := by decide +kernel
theorem dX4_isDue_13 : decode cX4_isDue 13 = .ok (.getfield 15, 3) := by decide +kernel
theorem dX4_isDue_16 : decode cX4_isDue 16 = .ok (.aload_n 0, 1) := by decide +kernel
theorem dX4_isDue_17 : decode cX4_isDue 17 = .ok (.getfield 19, 3) := by decide +kernel
theorem dX4_isDue_20 : decode cX4_isDue 20 = .ok (.laload, 1) := by decide +kernel
theorem dX4_isDue_21 : decode cX4_isDue 21 = .ok (.aload_n 0, 1) := by decide +kernel
theorem dX4_isDue_22 : decode cX4_isDue 22 = .ok (.getfield 15, 3) := by decide +kernel
theorem dX4_isDue_25 : decode cX4_isDue 25 = .ok (.iload_n 1, 1) := by decide +kernel
theorem dX4_isDue_26 : decode cX4_isDue 26 = .ok (.laload, 1) := by decide +kernel
theorem dX4_isDue_27 : decode cX4_isDue 27 = .ok (.invokestatic 46, 3) := by decide +kernel
theorem dX4_isDue_30 : decode cX4_isDue 30 = .ok (.ifCond .lt 7, 3) := by decide +kernel
theorem dX4_isDue_33 : decode cX4_isDue 33 = .ok (.iconst 1, 1) := by decide +kernel
theorem dX4_isDue_34 : decode cX4_isDue 34 = .ok (.goto 4, 3) := by decide +kernel
theorem dX4_isDue_37 : decode cX4_isDue 37 = .ok (.iconst 0, 1) := by decide +kernel
theorem dX4_isDue_38 : decode cX4_isDue 38 = .ok (.ireturn, 1) := by decide +kernel
theorem dJ13_compareUnsigned_0 : decode cJ13_compareUnsigned 0 = .ok (.lload_n 0, 1) := by decide +kernel
theorem dJ13_compareUnsigned_1 : decode cJ13_compareUnsigned 1 = .ok (.ldc2_w 168, 3) := by decide +kernel
theorem dJ13_compareUnsigned_4 : decode cJ13_compareUnsigned 4 = .ok (.ladd, 1) := by decide +kernel
theorem dJ13_compareUnsigned_5 : decode cJ13_compareUnsigned 5 = .ok (.lload_n 2, 1) := by decide +kernel
theorem dJ13_compareUnsigned_6 : decode cJ13_compareUnsigned 6 = .ok (.ldc2_w 168, 3) := by decide +kernel
theorem dJ13_compareUnsigned_9 : decode cJ13_compareUnsigned 9 = .ok (.ladd, 1) := by decide +kernel
theorem dJ13_compareUnsigned_10 : decode cJ13_compareUnsigned 10 = .ok (.invokestatic 302, 3) := by decide +kernel
theorem dJ13_compareUnsigned_13 : decode cJ13_compareUnsigned 13 = .ok (.ireturn, 1) := by decide +kernel
theorem dJ13_compare_0 : decode cJ13_compare 0 = .ok (.lload_n 0, 1) := by decide +kernel
theorem dJ13_compare_1 : decode cJ13_compare 1 = .ok (.lload_n 2, 1) := by decide +kernel
theorem dJ13_compare_2 : decode cJ13_compare 2 = .ok (.lcmp, 1) := by decide +kernel
theorem dJ13_compare_3 : decode cJ13_compare 3 = .ok (.ifCond .ge 7, 3) := by decide +kernel
theorem dJ13_compare_6 : decode cJ13_compare 6 = .ok (.iconst (-1), 1) := by decide +kernel
theorem dJ13_compare_7 : decode cJ13_compare 7 = .ok (.goto 14, 3) := by decide +kernel
theorem dJ13_compare_10 : decode cJ13_compare 10 = .ok (.lload_n 0, 1) := by decide +kernel
theorem dJ13_compare_11 : decode cJ13_compare 11 = .ok (.lload_n 2, 1) := by decide +kernel
theorem dJ13_compare_12 : decode cJ13_compare 12 = .ok (.lcmp, 1) := by decide +kernel
theorem dJ13_compare_13 : decode cJ13_compare 13 = .ok (.ifCond .ne 7, 3) := by decide +kernel
theorem dJ13_compare_16 : decode cJ13_compare 16 = .ok (.iconst 0, 1) := by decide +kernel
theorem dJ13_compare_17 : decode cJ13_compare 17 = .ok (.goto 4, 3) := by decide +kernel
theorem dJ13_compare_20 : decode cJ13_compare 20 = .ok (.iconst 1, 1) := by decide +kernel
theorem dJ13_compare_21 : decode cJ13_compare 21 = .ok (.ireturn, 1) := by decide +kernel

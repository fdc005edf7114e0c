/-! decode rows -/
theorem dX4_softAt_0 : decode cX4_softAt 0 = .ok (.iload_n 3, 1) := by decide +kernel
theorem dX4_softAt_1 : decode cX4_softAt 1 = .ok (.iconst 4, 1) := by decide +kernel
theorem dX4_softAt_2 : decode cX4_softAt 2 = .ok (.if_icmp .ne 17, 3) := by decide +kernel
theorem dX4_softAt_5 : decode cX4_softAt 5 = .ok (.lload_n 1, 1) := by decide +kernel
theorem dX4_softAt_6 : decode cX4_softAt 6 = .ok (.lconst 0, 1) := by decide +kernel
theorem dX4_softAt_7 : decode cX4_softAt 7 = .ok (.iconst 2, 1) := by decide +kernel
theorem dX4_softAt_8 : decode cX4_softAt 8 = .ok (.aload_n 0, 1) := by decide +kernel
theorem dX4_softAt_9 : decode cX4_softAt 9 = .ok (.getfield 9, 3) := by decide +kernel
theorem dX4_softAt_12 : decode cX4_softAt 12 = .ok (.arraylength, 1) := by decide +kernel
theorem dX4_softAt_13 : decode cX4_softAt 13 = .ok (.invokestatic 52, 3) := by decide +kernel
theorem dX4_softAt_16 : decode cX4_softAt 16 = .ok (.goto 4, 3) := by decide +kernel
theorem dX4_softAt_19 : decode cX4_softAt 19 = .ok (.iconst (-1), 1) := by decide +kernel
theorem dX4_softAt_20 : decode cX4_softAt 20 = .ok (.ireturn, 1) := by decide +kernel
theorem dX5_slotAt_0 : decode cX5_slotAt 0 = .ok (.lload_n 0, 1) := by decide +kernel
theorem dX5_slotAt_1 : decode cX5_slotAt 1 = .ok (.lload_n 2, 1) := by decide +kernel
theorem dX5_slotAt_2 : decode cX5_slotAt 2 = .ok (.lsub, 1) := by decide +kernel
theorem dX5_slotAt_3 : decode cX5_slotAt 3 = .ok (.lstore 6, 2) := by decide +kernel
theorem dX5_slotAt_5 : decode cX5_slotAt 5 = .ok (.lload 6, 2) := by decide +kernel
theorem dX5_slotAt_7 : decode cX5_slotAt 7 = .ok (.iload 4, 2) := by decide +kernel
theorem dX5_slotAt_9 : decode cX5_slotAt 9 = .ok (.lshr, 1) := by decide +kernel
theorem dX5_slotAt_10 : decode cX5_slotAt 10 = .ok (.lstore 8, 2) := by decide +kernel
theorem dX5_slotAt_12 : decode cX5_slotAt 12 = .ok (.lload 6, 2) := by decide +kernel
theorem dX5_slotAt_14 : decode cX5_slotAt 14 = .ok (.lconst 0, 1) := by decide +kernel
theorem dX5_slotAt_15 : decode cX5_slotAt 15 = .ok (.lcmp, 1) := by decide +kernel
theorem dX5_slotAt_16 : decode cX5_slotAt 16 = .ok (.ifCond .lt 23, 3) := by decide +kernel
theorem dX5_slotAt_19 : decode cX5_slotAt 19 = .ok (.lload 8, 2) := by decide +kernel
theorem dX5_slotAt_21 : decode cX5_slotAt 21 = .ok (.iload 5, 2) := by decide +kernel
theorem dX5_slotAt_23 : decode cX5_slotAt 23 = .ok (.i2l, 1) := by decide +kernel
theorem dX5_slotAt_24 : decode cX5_slotAt 24 = .ok (.lcmp, 1) := by decide +kernel
theorem dX5_slotAt_25 : decode cX5_slotAt 25 = .ok (.ifCond .ge 14, 3) := by decide +kernel
theorem dX5_slotAt_28 : decode cX5_slotAt 28 = .ok (.lload 8, 2) := by decide +kernel
theorem dX5_slotAt_30 : decode cX5_slotAt 30 = .ok (.iload 4, 2) := by decide +kernel
theorem dX5_slotAt_32 : decode cX5_slotAt 32 = .ok (.lshl, 1) := by decide +kernel
theorem dX5_slotAt_33 : decode cX5_slotAt 33 = .ok (.lload 6, 2) := by decide +kernel
theorem dX5_slotAt_35 : decode cX5_slotAt 35 = .ok (.lcmp, 1) := by decide +kernel
theorem dX5_slotAt_36 : decode cX5_slotAt 36 = .ok (.ifCond .eq 5, 3) := by decide +kernel
theorem dX5_slotAt_39 : decode cX5_slotAt 39 = .ok (.iconst (-1), 1) := by decide +kernel
theorem dX5_slotAt_40 : decode cX5_slotAt 40 = .ok (.ireturn, 1) := by decide +kernel
theorem dX5_slotAt_41 : decode cX5_slotAt 41 = .ok (.lload 8, 2) := by decide +kernel
theorem dX5_slotAt_43 : decode cX5_slotAt 43 = .ok (.l2i, 1) := by decide +kernel
theorem dX5_slotAt_44 : decode cX5_slotAt 44 = .ok (.ireturn, 1) := by decide +kernel
theorem dX4_wideAt_0 : decode cX4_wideAt 0 = .ok (.iload_n 3, 1) := by decide +kernel
theorem dX4_wideAt_1 : decode cX4_wideAt 1 = .ok (.bipush 8, 2) := by decide +kernel
theorem dX4_wideAt_3 : decode cX4_wideAt 3 = .ok (.if_icmp .ne 17, 3) := by decide +kernel
theorem dX4_wideAt_6 : decode cX4_wideAt 6 = .ok (.lload_n 1, 1) := by decide +kernel
theorem dX4_wideAt_7 : decode cX4_wideAt 7 = .ok (.ldc2_w 56, 3) := by decide +kernel
theorem dX4_wideAt_10 : decode cX4_wideAt 10 = .ok (.land, 1) := by decide +kernel
theorem dX4_wideAt_11 : decode cX4_wideAt 11 = .ok (.lconst 0, 1) := by decide +kernel
theorem dX4_wideAt_12 : decode cX4_wideAt 12 = .ok (.lcmp, 1) := by decide +kernel
theorem dX4_wideAt_13 : decode cX4_wideAt 13 = .ok (.ifCond .ne 7, 3) := by decide +kernel
theorem dX4_wideAt_16 : decode cX4_wideAt 16 = .ok (.iconst 1, 1) := by decide +kernel
theorem dX4_wideAt_17 : decode cX4_wideAt 17 = .ok (.goto 4, 3) := by decide +kernel
theorem dX4_wideAt_20 : decode cX4_wideAt 20 = .ok (.iconst 0, 1) := by decide +kernel
theorem dX4_wideAt_21 : decode cX4_wideAt 21 = .ok (.istore 4, 2) := by decide +kernel
theorem dX4_wideAt_23 : decode cX4_wideAt 23 = .ok (.iload_n 3, 1) := by decide +kernel
theorem dX4_wideAt_24 : decode cX4_wideAt 24 = .ok (.iconst 4, 1) := by decide +kernel
theorem dX4_wideAt_25 : decode cX4_wideAt 25 = .ok (.if_icmp .ne 17, 3) := by decide +kernel
theorem dX4_wideAt_28 : decode cX4_wideAt 28 = .ok (.lload_n 1, 1) := by decide +kernel
theorem dX4_wideAt_29 : decode cX4_wideAt 29 = .ok (.ldc2_w 58, 3) := by decide +kernel
theorem dX4_wideAt_32 : decode cX4_wideAt 32 = .ok (.land, 1) := by decide +kernel
theorem dX4_wideAt_33 : decode cX4_wideAt 33 = .ok (.lconst 0, 1) := by decide +kernel
theorem dX4_wideAt_34 : decode cX4_wideAt 34 = .ok (.lcmp, 1) := by decide +kernel
theorem dX4_wideAt_35 : decode cX4_wideAt 35 = .ok (.ifCond .ne 7, 3) := by decide +kernel
theorem dX4_wideAt_38 : decode cX4_wideAt 38 = .ok (.iconst 1, 1) := by decide +kernel
theorem dX4_wideAt_39 : decode cX4_wideAt 39 = .ok (.goto 4, 3) := by decide +kernel
theorem dX4_wideAt_42 : decode cX4_wideAt 42 = .ok (.iconst 0, 1) := by decide +kernel
theorem dX4_wideAt_43 : decode cX4_wideAt 43 = .ok (.istore 5, 2) := by decide +kernel
theorem dX4_wideAt_45 : decode cX4_wideAt 45 = .ok (.iload 4, 2) := by decide +kernel
theorem dX4_wideAt_47 : decode cX4_wideAt 47 = .ok (.ifCond .ne 10, 3) := by decide +kernel
theorem dX4_wideAt_50 : decode cX4_wideAt 50 = .ok (.iload 5, 2) := by decide +kernel
theorem dX4_wideAt_52 : decode cX4_wideAt 52 = .ok (.ifCond .ne 5, 3) := by decide +kernel
theorem dX4_wideAt_55 : decode cX4_wideAt 55 = .ok (.iconst (-1), 1) := by decide +kernel
theorem dX4_wideAt_56 : decode cX4_wideAt 56 = .ok (.ireturn, 1) := by decide +kernel
theorem dX4_wideAt_57 : decode cX4_wideAt 57 = .ok (.lload_n 1, 1) := by decide +kernel
theorem dX4_wideAt_58 : decode cX4_wideAt 58 = .ok (.ldc2_w 60, 3) := by decide +kernel
theorem dX4_wideAt_61 : decode cX4_wideAt 61 = .ok (.land, 1) := by decide +kernel
theorem dX4_wideAt_62 : decode cX4_wideAt 62 = .ok (.lstore 6, 2) := by decide +kernel
theorem dX4_wideAt_64 : decode cX4_wideAt 64 = .ok (.lload 6, 2) := by decide +kernel
theorem dX4_wideAt_66 : decode cX4_wideAt 66 = .ok (.ldc2_w 62, 3) := by decide +kernel
theorem dX4_wideAt_69 : decode cX4_wideAt 69 = .ok (.lcmp, 1) := by decide +kernel
theorem dX4_wideAt_70 : decode cX4_wideAt 70 = .ok (.ifCond .ne 8, 3) := by decide +kernel
theorem dX4_wideAt_73 : decode cX4_wideAt 73 = .ok (.aload_n 0, 1) := by decide +kernel
theorem dX4_wideAt_74 : decode cX4_wideAt 74 = .ok (.getfield 19, 3) := by decide +kernel
theorem dX4_wideAt_77 : decode cX4_wideAt 77 = .ok (.ireturn, 1) := by decide +kernel
theorem dX4_wideAt_78 : decode cX4_wideAt 78 = .ok (.lload 6, 2) := by decide +kernel
theorem dX4_wideAt_80 : decode cX4_wideAt 80 = .ok (.ldc2_w 64, 3) := by decide +kernel
theorem dX4_wideAt_83 : decode cX4_wideAt 83 = .ok (.iconst 3, 1) := by decide +kernel
theorem dX4_wideAt_84 : decode cX4_wideAt 84 = .ok (.aload_n 0, 1) := by decide +kernel
theorem dX4_wideAt_85 : decode cX4_wideAt 85 = .ok (.getfield 19, 3) := by decide +kernel
theorem dX4_wideAt_88 : decode cX4_wideAt 88 = .ok (.invokestatic 52, 3) := by decide +kernel
theorem dX4_wideAt_91 : decode cX4_wideAt 91 = .ok (.ireturn, 1) := by decide +kernel
theorem dX4_isUpperHalf_0 : decode cX4_isUpperHalf 0 = .ok (.lload_n 0, 1) := by decide +kernel
theorem dX4_isUpperHalf_1 : decode cX4_isUpperHalf 1 = .ok (.ldc2_w 66, 3) := by decide +kernel
theorem dX4_isUpperHalf_4 : decode cX4_isUpperHalf 4 = .ok (.land, 1) := by decide +kernel
theorem dX4_isUpperHalf_5 : decode cX4_isUpperHalf 5 = .ok (.lconst 0, 1) := by decide +kernel
theorem dX4_isUpperHalf_6 : decode cX4_isUpperHalf 6 = .ok (.lcmp, 1) := by decide +kernel
theorem dX4_isUpperHalf_7 : decode cX4_isUpperHalf 7 = .ok (.ifCond .eq 7, 3) := by decide +kernel
theorem dX4_isUpperHalf_10 : decode cX4_isUpperHalf 10 = .ok (.iconst 1, 1) := by decide +kernel
theorem dX4_isUpperHalf_11 : decode cX4_isUpperHalf 11 = .ok (.goto 4, 3) := by decide +kernel
theorem dX4_isUpperHalf_14 : decode cX4_isUpperHalf 14 = .ok (.iconst 0, 1) := by decide +kernel
theorem dX4_isUpperHalf_15 : decode cX4_isUpperHalf 15 = .ok (.ireturn, 1) := by decide +kernel
theorem dX0_load_0 : decode cX0_load 0 = .ok (.iload_n 3, 1) := by decide +kernel
theorem dX0_load_1 : decode cX0_load 1 = .ok (.iconst 4, 1) := by decide +kernel
theorem dX0_load_2 : decode cX0_load 2 = .ok (.if_icmp .eq 5, 3) := by decide +kernel
theorem dX0_load_5 : decode cX0_load 5 = .ok (.lconst 0, 1) := by decide +kernel
theorem dX0_load_6 : decode cX0_load 6 = .ok (.lreturn, 1) := by decide +kernel
theorem dX0_load_7 : decode cX0_load 7 = .ok (.lload_n 1, 1) := by decide +kernel
theorem dX0_load_8 : decode cX0_load 8 = .ok (.ldc2_w 25, 3) := by decide +kernel
theorem dX0_load_11 : decode cX0_load 11 = .ok (.lcmp, 1) := by decide +kernel
theorem dX0_load_12 : decode cX0_load 12 = .ok (.ifCond .ne 13, 3) := by decide +kernel
theorem dX0_load_15 : decode cX0_load 15 = .ok (.aload_n 0, 1) := by decide +kernel
theorem dX0_load_16 : decode cX0_load 16 = .ok (.getfield 27, 3) := by decide +kernel
theorem dX0_load_19 : decode cX0_load 19 = .ok (.i2l, 1) := by decide +kernel
theorem dX0_load_20 : decode cX0_load 20 = .ok (.ldc2_w 30, 3) := by decide +kernel
theorem dX0_load_23 : decode cX0_load 23 = .ok (.land, 1) := by decide +kernel
theorem dX0_load_24 : decode cX0_load 24 = .ok (.lreturn, 1) := by decide +kernel
theorem dX0_load_25 : decode cX0_load 25 = .ok (.lload_n 1, 1) := by decide +kernel
theorem dX0_load_26 : decode cX0_load 26 = .ok (.lconst 0, 1) := by decide +kernel
theorem dX0_load_27 : decode cX0_load 27 = .ok (.iconst 2, 1) := by decide +kernel
theorem dX0_load_28 : decode cX0_load 28 = .ok (.bipush 32, 2) := by decide +kernel
theorem dX0_load_30 : decode cX0_load 30 = .ok (.invokestatic 32, 3) := by decide +kernel
theorem dX0_load_33 : decode cX0_load 33 = .ok (.istore 4, 2) := by decide +kernel
theorem dX0_load_35 : decode cX0_load 35 = .ok (.iload 4, 2) := by decide +kernel
theorem dX0_load_37 : decode cX0_load 37 = .ok (.ifCond .lt 12, 3) := by decide +kernel
theorem dX0_load_40 : decode cX0_load 40 = .ok (.aload_n 0, 1) := by decide +kernel
theorem dX0_load_41 : decode cX0_load 41 = .ok (.getfield 9, 3) := by decide +kernel
theorem dX0_load_44 : decode cX0_load 44 = .ok (.iload 4, 2) := by decide +kernel
theorem dX0_load_46 : decode cX0_load 46 = .ok (.iaload, 1) := by decide +kernel
theorem dX0_load_47 : decode cX0_load 47 = .ok (.i2l, 1) := by decide +kernel
theorem dX0_load_48 : decode cX0_load 48 = .ok (.lreturn, 1) := by decide +kernel
theorem dX0_load_49 : decode cX0_load 49 = .ok (.lload_n 1, 1) := by decide +kernel
theorem dX0_load_50 : decode cX0_load 50 = .ok (.ldc2_w 36, 3) := by decide +kernel
theorem dX0_load_53 : decode cX0_load 53 = .ok (.bipush 7, 2) := by decide +kernel
theorem dX0_load_55 : decode cX0_load 55 = .ok (.aload_n 0, 1) := by decide +kernel
theorem dX0_load_56 : decode cX0_load 56 = .ok (.getfield 15, 3) := by decide +kernel
theorem dX0_load_59 : decode cX0_load 59 = .ok (.invokestatic 32, 3) := by decide +kernel
theorem dX0_load_62 : decode cX0_load 62 = .ok (.istore 5, 2) := by decide +kernel
theorem dX0_load_64 : decode cX0_load 64 = .ok (.iload 5, 2) := by decide +kernel
theorem dX0_load_66 : decode cX0_load 66 = .ok (.ifCond .lt 16, 3) := by decide +kernel
theorem dX0_load_69 : decode cX0_load 69 = .ok (.aload_n 0, 1) := by decide +kernel
theorem dX0_load_70 : decode cX0_load 70 = .ok (.getfield 19, 3) := by decide +kernel
theorem dX0_load_73 : decode cX0_load 73 = .ok (.iload 5, 2) := by decide +kernel
theorem dX0_load_75 : decode cX0_load 75 = .ok (.iaload, 1) := by decide +kernel
theorem dX0_load_76 : decode cX0_load 76 = .ok (.i2l, 1) := by decide +kernel
theorem dX0_load_77 : decode cX0_load 77 = .ok (.ldc2_w 30, 3) := by decide +kernel
theorem dX0_load_80 : decode cX0_load 80 = .ok (.land, 1) := by decide +kernel
theorem dX0_load_81 : decode cX0_load 81 = .ok (.lreturn, 1) := by decide +kernel
theorem dX0_load_82 : decode cX0_load 82 = .ok (.lload_n 1, 1) := by decide +kernel
theorem dX0_load_83 : decode cX0_load 83 = .ok (.ldc2_w 38, 3) := by decide +kernel
theorem dX0_load_86 : decode cX0_load 86 = .ok (.bipush 12, 2) := by decide +kernel
theorem dX0_load_88 : decode cX0_load 88 = .ok (.aload_n 0, 1) := by decide +kernel
theorem dX0_load_89 : decode cX0_load 89 = .ok (.getfield 15, 3) := by decide +kernel
theorem dX0_load_92 : decode cX0_load 92 = .ok (.invokestatic 32, 3) := by decide +kernel
theorem dX0_load_95 : decode cX0_load 95 = .ok (.istore 5, 2) := by decide +kernel
theorem dX0_load_97 : decode cX0_load 97 = .ok (.iload 5, 2) := by decide +kernel
theorem dX0_load_99 : decode cX0_load 99 = .ok (.ifCond .lt 12, 3) := by decide +kernel
theorem dX0_load_102 : decode cX0_load 102 = .ok (.aload_n 0, 1) := by decide +kernel
theorem dX0_load_103 : decode cX0_load 103 = .ok (.getfield 22, 3) := by decide +kernel
theorem dX0_load_106 : decode cX0_load 106 = .ok (.iload 5, 2) := by decide +kernel
theorem dX0_load_108 : decode cX0_load 108 = .ok (.iaload, 1) := by decide +kernel
theorem dX0_load_109 : decode cX0_load 109 = .ok (.i2l, 1) := by decide +kernel
theorem dX0_load_110 : decode cX0_load 110 = .ok (.lreturn, 1) := by decide +kernel
theorem dX0_load_111 : decode cX0_load 111 = .ok (.lload_n 1, 1) := by decide +kernel
theorem dX0_load_112 : decode cX0_load 112 = .ok (.ldc2_w 40, 3) := by decide +kernel
theorem dX0_load_115 : decode cX0_load 115 = .ok (.bipush 12, 2) := by decide +kernel
theorem dX0_load_117 : decode cX0_load 117 = .ok (.aload_n 0, 1) := by decide +kernel
theorem dX0_load_118 : decode cX0_load 118 = .ok (.getfield 15, 3) := by decide +kernel
theorem dX0_load_121 : decode cX0_load 121 = .ok (.invokestatic 32, 3) := by decide +kernel
theorem dX0_load_124 : decode cX0_load 124 = .ok (.istore 5, 2) := by decide +kernel
theorem dX0_load_126 : decode cX0_load 126 = .ok (.iload 5, 2) := by decide +kernel
theorem dX0_load_128 : decode cX0_load 128 = .ok (.ifCond .lt 13, 3) := by decide +kernel
theorem dX0_load_131 : decode cX0_load 131 = .ok (.aload_n 0, 1) := by decide +kernel
theorem dX0_load_132 : decode cX0_load 132 = .ok (.iload 5, 2) := by decide +kernel
theorem dX0_load_134 : decode cX0_load 134 = .ok (.invokevirtual 42, 3) := by decide +kernel
theorem dX0_load_137 : decode cX0_load 137 = .ok (.i2l, 1) := by decide +kernel
theorem dX0_load_138 : decode cX0_load 138 = .ok (.goto 4, 3) := by decide +kernel
theorem dX0_load_141 : decode cX0_load 141 = .ok (.lconst 0, 1) := by decide +kernel
theorem dX0_load_142 : decode cX0_load 142 = .ok (.lreturn, 1) := by decide +kernel
theorem dX0_claim_0 : decode cX0_claim 0 = .ok (.aload_n 0, 1) := by decide +kernel
theorem dX0_claim_1 : decode cX0_claim 1 = .ok (.iload_n 1, 1) := by decide +kernel
theorem dX0_claim_2 : decode cX0_claim 2 = .ok (.invokevirtual 56, 3) := by decide +kernel
theorem dX0_claim_5 : decode cX0_claim 5 = .ok (.istore_n 2, 1) := by decide +kernel
theorem dX0_claim_6 : decode cX0_claim 6 = .ok (.iload_n 2, 1) := by decide +kernel
theorem dX0_claim_7 : decode cX0_claim 7 = .ok (.ifCond .le 29, 3) := by decide +kernel
theorem dX0_claim_10 : decode cX0_claim 10 = .ok (.aload_n 0, 1) := by decide +kernel
theorem dX0_claim_11 : decode cX0_claim 11 = .ok (.dup, 1) := by decide +kernel
theorem dX0_claim_12 : decode cX0_claim 12 = .ok (.getfield 27, 3) := by decide +kernel
theorem dX0_claim_15 : decode cX0_claim 15 = .ok (.iconst 1, 1) := by decide +kernel
theorem dX0_claim_16 : decode cX0_claim 16 = .ok (.iload_n 2, 1) := by decide +kernel
theorem dX0_claim_17 : decode cX0_claim 17 = .ok (.ishl, 1) := by decide +kernel
theorem dX0_claim_18 : decode cX0_claim 18 = .ok (.iconst (-1), 1) := by decide +kernel
theorem dX0_claim_19 : decode cX0_claim 19 = .ok (.ixor, 1) := by decide +kernel
theorem dX0_claim_20 : decode cX0_claim 20 = .ok (.iand, 1) := by decide +kernel
theorem dX0_claim_21 : decode cX0_claim 21 = .ok (.putfield 27, 3) := by decide +kernel
theorem dX0_claim_24 : decode cX0_claim 24 = .ok (.aload_n 0, 1) := by decide +kernel
theorem dX0_claim_25 : decode cX0_claim 25 = .ok (.dup, 1) := by decide +kernel
theorem dX0_claim_26 : decode cX0_claim 26 = .ok (.getfield 59, 3) := by decide +kernel
theorem dX0_claim_29 : decode cX0_claim 29 = .ok (.iconst 1, 1) := by decide +kernel
theorem dX0_claim_30 : decode cX0_claim 30 = .ok (.iload_n 2, 1) := by decide +kernel
theorem dX0_claim_31 : decode cX0_claim 31 = .ok (.ishl, 1) := by decide +kernel
theorem dX0_claim_32 : decode cX0_claim 32 = .ok (.ior, 1) := by decide +kernel
theorem dX0_claim_33 : decode cX0_claim 33 = .ok (.putfield 59, 3) := by decide +kernel
theorem dX0_claim_36 : decode cX0_claim 36 = .ok (.iload_n 2, 1) := by decide +kernel
theorem dX0_claim_37 : decode cX0_claim 37 = .ok (.ireturn, 1) := by decide +kernel
theorem dX0_mostUrgent_0 : decode cX0_mostUrgent 0 = .ok (.aload_n 0, 1) := by decide +kernel
theorem dX0_mostUrgent_1 : decode cX0_mostUrgent 1 = .ok (.getfield 27, 3) := by decide +kernel
theorem dX0_mostUrgent_4 : decode cX0_mostUrgent 4 = .ok (.aload_n 0, 1) := by decide +kernel
theorem dX0_mostUrgent_5 : decode cX0_mostUrgent 5 = .ok (.getfield 19, 3) := by decide +kernel
theorem dX0_mostUrgent_8 : decode cX0_mostUrgent 8 = .ok (.iload_n 1, 1) := by decide +kernel
theorem dX0_mostUrgent_9 : decode cX0_mostUrgent 9 = .ok (.iaload, 1) := by decide +kernel
theorem dX0_mostUrgent_10 : decode cX0_mostUrgent 10 = .ok (.iand, 1) := by decide +kernel
theorem dX0_mostUrgent_11 : decode cX0_mostUrgent 11 = .ok (.istore_n 2, 1) := by decide +kernel
theorem dX0_mostUrgent_12 : decode cX0_mostUrgent 12 = .ok (.iconst 0, 1) := by decide +kernel
theorem dX0_mostUrgent_13 : decode cX0_mostUrgent 13 = .ok (.istore_n 3, 1) := by decide +kernel
theorem dX0_mostUrgent_14 : decode cX0_mostUrgent 14 = .ok (.iconst 1, 1) := by decide +kernel
theorem dX0_mostUrgent_15 : decode cX0_mostUrgent 15 = .ok (.istore 4, 2) := by decide +kernel
theorem dX0_mostUrgent_17 : decode cX0_mostUrgent 17 = .ok (.iload 4, 2) := by decide +kernel
theorem dX0_mostUrgent_19 : decode cX0_mostUrgent 19 = .ok (.bipush 32, 2) := by decide +kernel
theorem dX0_mostUrgent_21 : decode cX0_mostUrgent 21 = .ok (.if_icmp .ge 37, 3) := by decide +kernel
theorem dX0_mostUrgent_24 : decode cX0_mostUrgent 24 = .ok (.iload_n 2, 1) := by decide +kernel
theorem dX0_mostUrgent_25 : decode cX0_mostUrgent 25 = .ok (.iconst 1, 1) := by decide +kernel
theorem dX0_mostUrgent_26 : decode cX0_mostUrgent 26 = .ok (.iload 4, 2) := by decide +kernel
theorem dX0_mostUrgent_28 : decode cX0_mostUrgent 28 = .ok (.ishl, 1) := by decide +kernel
theorem dX0_mostUrgent_29 : decode cX0_mostUrgent 29 = .ok (.iand, 1) := by decide +kernel
theorem dX0_mostUrgent_30 : decode cX0_mostUrgent 30 = .ok (.ifCond .eq 22, 3) := by decide +kernel
theorem dX0_mostUrgent_33 : decode cX0_mostUrgent 33 = .ok (.aload_n 0, 1) := by decide +kernel
theorem dX0_mostUrgent_34 : decode cX0_mostUrgent 34 = .ok (.getfield 9, 3) := by decide +kernel
theorem dX0_mostUrgent_37 : decode cX0_mostUrgent 37 = .ok (.iload 4, 2) := by decide +kernel
theorem dX0_mostUrgent_39 : decode cX0_mostUrgent 39 = .ok (.iaload, 1) := by decide +kernel
theorem dX0_mostUrgent_40 : decode cX0_mostUrgent 40 = .ok (.aload_n 0, 1) := by decide +kernel
theorem dX0_mostUrgent_41 : decode cX0_mostUrgent 41 = .ok (.getfield 9, 3) := by decide +kernel
theorem dX0_mostUrgent_44 : decode cX0_mostUrgent 44 = .ok (.iload_n 3, 1) := by decide +kernel
theorem dX0_mostUrgent_45 : decode cX0_mostUrgent 45 = .ok (.iaload, 1) := by decide +kernel
theorem dX0_mostUrgent_46 : decode cX0_mostUrgent 46 = .ok (.if_icmp .le 6, 3) := by decide +kernel
theorem dX0_mostUrgent_49 : decode cX0_mostUrgent 49 = .ok (.iload 4, 2) := by decide +kernel
theorem dX0_mostUrgent_51 : decode cX0_mostUrgent 51 = .ok (.istore_n 3, 1) := by decide +kernel
theorem dX0_mostUrgent_52 : decode cX0_mostUrgent 52 = .ok (.iinc 4 1, 3) := by decide +kernel
theorem dX0_mostUrgent_55 : decode cX0_mostUrgent 55 = .ok (.goto (-38), 3) := by decide +kernel
theorem dX0_mostUrgent_58 : decode cX0_mostUrgent 58 = .ok (.iload_n 3, 1) := by decide +kernel
theorem dX0_mostUrgent_59 : decode cX0_mostUrgent 59 = .ok (.ireturn, 1) := by decide +kernel
theorem dX3_load_0 : decode cX3_load 0 = .ok (.iload_n 3, 1) := by decide +kernel
theorem dX3_load_1 : decode cX3_load 1 = .ok (.iconst 1, 1) := by decide +kernel
theorem dX3_load_2 : decode cX3_load 2 = .ok (.if_icmp .ne 11, 3) := by decide +kernel
theorem dX3_load_5 : decode cX3_load 5 = .ok (.lload_n 1, 1) := by decide +kernel
theorem dX3_load_6 : decode cX3_load 6 = .ok (.ldc2_w 23, 3) := by decide +kernel
theorem dX3_load_9 : decode cX3_load 9 = .ok (.lcmp, 1) := by decide +kernel
theorem dX3_load_10 : decode cX3_load 10 = .ok (.ifCond .le 5, 3) := by decide +kernel
theorem dX3_load_13 : decode cX3_load 13 = .ok (.iconst 0, 1) := by decide +kernel
theorem dX3_load_14 : decode cX3_load 14 = .ok (.ireturn, 1) := by decide +kernel
theorem dX3_load_15 : decode cX3_load 15 = .ok (.lload_n 1, 1) := by decide +kernel
theorem dX3_load_16 : decode cX3_load 16 = .ok (.l2i, 1) := by decide +kernel
theorem dX3_load_17 : decode cX3_load 17 = .ok (.tableswitch 118 0 7 #[47, 69, 88, 93, 98, 103, 108, 113], 47) := by decide +kernel
theorem dX3_load_64 : decode cX3_load 64 = .ok (.aload_n 0, 1) := by decide +kernel
theorem dX3_load_65 : decode cX3_load 65 = .ok (.invokevirtual 25, 3) := by decide +kernel
theorem dX3_load_68 : decode cX3_load 68 = .ok (.ifCond .eq 10, 3) := by decide +kernel
theorem dX3_load_71 : decode cX3_load 71 = .ok (.aload_n 0, 1) := by decide +kernel
theorem dX3_load_72 : decode cX3_load 72 = .ok (.getfield 29, 3) := by decide +kernel
theorem dX3_load_75 : decode cX3_load 75 = .ok (.goto 10, 3) := by decide +kernel
theorem dX3_load_78 : decode cX3_load 78 = .ok (.aload_n 0, 1) := by decide +kernel
theorem dX3_load_79 : decode cX3_load 79 = .ok (.getfield 10, 3) := by decide +kernel
theorem dX3_load_82 : decode cX3_load 82 = .ok (.invokevirtual 33, 3) := by decide +kernel
theorem dX3_load_85 : decode cX3_load 85 = .ok (.ireturn, 1) := by decide +kernel
theorem dX3_load_86 : decode cX3_load 86 = .ok (.aload_n 0, 1) := by decide +kernel
theorem dX3_load_87 : decode cX3_load 87 = .ok (.invokevirtual 25, 3) := by decide +kernel
theorem dX3_load_90 : decode cX3_load 90 = .ok (.ifCond .eq 10, 3) := by decide +kernel
theorem dX3_load_93 : decode cX3_load 93 = .ok (.aload_n 0, 1) := by decide +kernel
theorem dX3_load_94 : decode cX3_load 94 = .ok (.getfield 37, 3) := by decide +kernel
theorem dX3_load_97 : decode cX3_load 97 = .ok (.goto 7, 3) := by decide +kernel
theorem dX3_load_100 : decode cX3_load 100 = .ok (.aload_n 0, 1) := by decide +kernel
theorem dX3_load_101 : decode cX3_load 101 = .ok (.getfield 40, 3) := by decide +kernel
theorem dX3_load_104 : decode cX3_load 104 = .ok (.ireturn, 1) := by decide +kernel
theorem dX3_load_105 : decode cX3_load 105 = .ok (.aload_n 0, 1) := by decide +kernel
theorem dX3_load_106 : decode cX3_load 106 = .ok (.invokevirtual 43, 3) := by decide +kernel
theorem dX3_load_109 : decode cX3_load 109 = .ok (.ireturn, 1) := by decide +kernel
theorem dX3_load_110 : decode cX3_load 110 = .ok (.aload_n 0, 1) := by decide +kernel
theorem dX3_load_111 : decode cX3_load 111 = .ok (.getfield 46, 3) := by decide +kernel
theorem dX3_load_114 : decode cX3_load 114 = .ok (.ireturn, 1) := by decide +kernel
theorem dX3_load_115 : decode cX3_load 115 = .ok (.aload_n 0, 1) := by decide +kernel
theorem dX3_load_116 : decode cX3_load 116 = .ok (.getfield 49, 3) := by decide +kernel
theorem dX3_load_119 : decode cX3_load 119 = .ok (.ireturn, 1) := by decide +kernel
theorem dX3_load_120 : decode cX3_load 120 = .ok (.aload_n 0, 1) := by decide +kernel
theorem dX3_load_121 : decode cX3_load 121 = .ok (.invokevirtual 52, 3) := by decide +kernel
theorem dX3_load_124 : decode cX3_load 124 = .ok (.ireturn, 1) := by decide +kernel
theorem dX3_load_125 : decode cX3_load 125 = .ok (.aload_n 0, 1) := by decide +kernel
theorem dX3_load_126 : decode cX3_load 126 = .ok (.invokevirtual 55, 3) := by decide +kernel
theorem dX3_load_129 : decode cX3_load 129 = .ok (.ireturn, 1) := by decide +kernel
theorem dX3_load_130 : decode cX3_load 130 = .ok (.aload_n 0, 1) := by decide +kernel
theorem dX3_load_131 : decode cX3_load 131 = .ok (.getfield 58, 3) := by decide +kernel
theorem dX3_load_134 : decode cX3_load 134 = .ok (.ireturn, 1) := by decide +kernel
theorem dX3_load_135 : decode cX3_load 135 = .ok (.iconst 0, 1) := by decide +kernel
theorem dX3_load_136 : decode cX3_load 136 = .ok (.ireturn, 1) := by decide +kernel
theorem dX3_showsOthers_0 : decode cX3_showsOthers 0 = .ok (.aload_n 0, 1) := by decide +kernel
theorem dX3_showsOthers_1 : decode cX3_showsOthers 1 = .ok (.getfield 46, 3) := by decide +kernel
theorem dX3_showsOthers_4 : decode cX3_showsOthers 4 = .ok (.sipush 128, 3) := by decide +kernel
theorem dX3_showsOthers_7 : decode cX3_showsOthers 7 = .ok (.iand, 1) := by decide +kernel
theorem dX3_showsOthers_8 : decode cX3_showsOthers 8 = .ok (.ifCond .eq 7, 3) := by decide +kernel
theorem dX3_showsOthers_11 : decode cX3_showsOthers 11 = .ok (.iconst 1, 1) := by decide +kernel
theorem dX3_showsOthers_12 : decode cX3_showsOthers 12 = .ok (.goto 4, 3) := by decide +kernel
theorem dX3_showsOthers_15 : decode cX3_showsOthers 15 = .ok (.iconst 0, 1) := by decide +kernel
theorem dX3_showsOthers_16 : decode cX3_showsOthers 16 = .ok (.ireturn, 1) := by decide +kernel
theorem dX1_take_0 : decode cX1_take 0 = .ok (.aload_n 0, 1) := by decide +kernel
theorem dX1_take_1 : decode cX1_take 1 = .ok (.getfield 17, 3) := by decide +kernel
theorem dX1_take_4 : decode cX1_take 4 = .ok (.ifCond .ne 5, 3) := by decide +kernel
theorem dX1_take_7 : decode cX1_take 7 = .ok (.iconst 0, 1) := by decide +kernel
theorem dX1_take_8 : decode cX1_take 8 = .ok (.ireturn, 1) := by decide +kernel
theorem dX1_take_9 : decode cX1_take 9 = .ok (.aload_n 0, 1) := by decide +kernel
theorem dX1_take_10 : decode cX1_take 10 = .ok (.getfield 9, 3) := by decide +kernel
theorem dX1_take_13 : decode cX1_take 13 = .ok (.aload_n 0, 1) := by decide +kernel
theorem dX1_take_14 : decode cX1_take 14 = .ok (.getfield 25, 3) := by decide +kernel
theorem dX1_take_17 : decode cX1_take 17 = .ok (.iaload, 1) := by decide +kernel
theorem dX1_take_18 : decode cX1_take 18 = .ok (.istore_n 1, 1) := by decide +kernel
theorem dX1_take_19 : decode cX1_take 19 = .ok (.aload_n 0, 1) := by decide +kernel
theorem dX1_take_20 : decode cX1_take 20 = .ok (.aload_n 0, 1) := by decide +kernel
theorem dX1_take_21 : decode cX1_take 21 = .ok (.getfield 25, 3) := by decide +kernel
theorem dX1_take_24 : decode cX1_take 24 = .ok (.iconst 1, 1) := by decide +kernel
theorem dX1_take_25 : decode cX1_take 25 = .ok (.iadd, 1) := by decide +kernel
theorem dX1_take_26 : decode cX1_take 26 = .ok (.bipush 15, 2) := by decide +kernel
theorem dX1_take_28 : decode cX1_take 28 = .ok (.iand, 1) := by decide +kernel
theorem dX1_take_29 : decode cX1_take 29 = .ok (.putfield 25, 3) := by decide +kernel
theorem dX1_take_32 : decode cX1_take 32 = .ok (.aload_n 0, 1) := by decide +kernel
theorem dX1_take_33 : decode cX1_take 33 = .ok (.dup, 1) := by decide +kernel
theorem dX1_take_34 : decode cX1_take 34 = .ok (.getfield 17, 3) := by decide +kernel
theorem dX1_take_37 : decode cX1_take 37 = .ok (.iconst 1, 1) := by decide +kernel
theorem dX1_take_38 : decode cX1_take 38 = .ok (.isub, 1) := by decide +kernel
theorem dX1_take_39 : decode cX1_take 39 = .ok (.putfield 17, 3) := by decide +kernel
theorem dX1_take_42 : decode cX1_take 42 = .ok (.iload_n 1, 1) := by decide +kernel
theorem dX1_take_43 : decode cX1_take 43 = .ok (.ireturn, 1) := by decide +kernel
theorem dX3_loadCause_0 : decode cX3_loadCause 0 = .ok (.aload_n 0, 1) := by decide +kernel
theorem dX3_loadCause_1 : decode cX3_loadCause 1 = .ok (.invokevirtual 86, 3) := by decide +kernel
theorem dX3_loadCause_4 : decode cX3_loadCause 4 = .ok (.istore_n 1, 1) := by decide +kernel
theorem dX3_loadCause_5 : decode cX3_loadCause 5 = .ok (.iload_n 1, 1) := by decide +kernel
theorem dX3_loadCause_6 : decode cX3_loadCause 6 = .ok (.iconst 2, 1) := by decide +kernel
theorem dX3_loadCause_7 : decode cX3_loadCause 7 = .ok (.if_icmp .ne 8, 3) := by decide +kernel
theorem dX3_loadCause_10 : decode cX3_loadCause 10 = .ok (.aload_n 0, 1) := by decide +kernel
theorem dX3_loadCause_11 : decode cX3_loadCause 11 = .ok (.iconst 0, 1) := by decide +kernel
theorem dX3_loadCause_12 : decode cX3_loadCause 12 = .ok (.putfield 83, 3) := by decide +kernel
theorem dX3_loadCause_15 : decode cX3_loadCause 15 = .ok (.aload_n 0, 1) := by decide +kernel
theorem dX3_loadCause_16 : decode cX3_loadCause 16 = .ok (.getfield 10, 3) := by decide +kernel
theorem dX3_loadCause_19 : decode cX3_loadCause 19 = .ok (.getfield 89, 3) := by decide +kernel
theorem dX3_loadCause_22 : decode cX3_loadCause 22 = .ok (.ifCond .eq 11, 3) := by decide +kernel
theorem dX3_loadCause_25 : decode cX3_loadCause 25 = .ok (.iload_n 1, 1) := by decide +kernel
theorem dX3_loadCause_26 : decode cX3_loadCause 26 = .ok (.sipush 192, 3) := by decide +kernel
theorem dX3_loadCause_29 : decode cX3_loadCause 29 = .ok (.ior, 1) := by decide +kernel
theorem dX3_loadCause_30 : decode cX3_loadCause 30 = .ok (.goto 4, 3) := by decide +kernel
theorem dX3_loadCause_33 : decode cX3_loadCause 33 = .ok (.iload_n 1, 1) := by decide +kernel
theorem dX3_loadCause_34 : decode cX3_loadCause 34 = .ok (.ireturn, 1) := by decide +kernel
theorem dX3_loadLineState_0 : decode cX3_loadLineState 0 = .ok (.bipush 96, 2) := by decide +kernel
theorem dX3_loadLineState_2 : decode cX3_loadLineState 2 = .ok (.aload_n 0, 1) := by decide +kernel
theorem dX3_loadLineState_3 : decode cX3_loadLineState 3 = .ok (.getfield 10, 3) := by decide +kernel
theorem dX3_loadLineState_6 : decode cX3_loadLineState 6 = .ok (.getfield 80, 3) := by decide +kernel
theorem dX3_loadLineState_9 : decode cX3_loadLineState 9 = .ok (.ifCond .le 7, 3) := by decide +kernel
theorem dX3_loadLineState_12 : decode cX3_loadLineState 12 = .ok (.iconst 1, 1) := by decide +kernel
theorem dX3_loadLineState_13 : decode cX3_loadLineState 13 = .ok (.goto 4, 3) := by decide +kernel
theorem dX3_loadLineState_16 : decode cX3_loadLineState 16 = .ok (.iconst 0, 1) := by decide +kernel
theorem dX3_loadLineState_17 : decode cX3_loadLineState 17 = .ok (.ior, 1) := by decide +kernel
theorem dX3_loadLineState_18 : decode cX3_loadLineState 18 = .ok (.aload_n 0, 1) := by decide +kernel
theorem dX3_loadLineState_19 : decode cX3_loadLineState 19 = .ok (.getfield 76, 3) := by decide +kernel
theorem dX3_loadLineState_22 : decode cX3_loadLineState 22 = .ok (.ifCond .eq 7, 3) := by decide +kernel
theorem dX3_loadLineState_25 : decode cX3_loadLineState 25 = .ok (.iconst 2, 1) := by decide +kernel
theorem dX3_loadLineState_26 : decode cX3_loadLineState 26 = .ok (.goto 4, 3) := by decide +kernel
theorem dX3_loadLineState_29 : decode cX3_loadLineState 29 = .ok (.iconst 0, 1) := by decide +kernel
theorem dX3_loadLineState_30 : decode cX3_loadLineState 30 = .ok (.ior, 1) := by decide +kernel
theorem dX3_loadLineState_31 : decode cX3_loadLineState 31 = .ok (.istore_n 1, 1) := by decide +kernel
theorem dX3_loadLineState_32 : decode cX3_loadLineState 32 = .ok (.aload_n 0, 1) := by decide +kernel
theorem dX3_loadLineState_33 : decode cX3_loadLineState 33 = .ok (.iconst 0, 1) := by decide +kernel
theorem dX3_loadLineState_34 : decode cX3_loadLineState 34 = .ok (.putfield 76, 3) := by decide +kernel
theorem dX3_loadLineState_37 : decode cX3_loadLineState 37 = .ok (.iload_n 1, 1) := by decide +kernel
theorem dX3_loadLineState_38 : decode cX3_loadLineState 38 = .ok (.ireturn, 1) := by decide +kernel
theorem dX3_modemState_0 : decode cX3_modemState 0 = .ok (.aload_n 0, 1) := by decide +kernel
theorem dX3_modemState_1 : decode cX3_modemState 1 = .ok (.getfield 49, 3) := by decide +kernel
theorem dX3_modemState_4 : decode cX3_modemState 4 = .ok (.bipush 16, 2) := by decide +kernel
theorem dX3_modemState_6 : decode cX3_modemState 6 = .ok (.iand, 1) := by decide +kernel
theorem dX3_modemState_7 : decode cX3_modemState 7 = .ok (.ifCond .ne 7, 3) := by decide +kernel
theorem dX3_modemState_10 : decode cX3_modemState 10 = .ok (.sipush 176, 3) := by decide +kernel
theorem dX3_modemState_13 : decode cX3_modemState 13 = .ok (.ireturn, 1) := by decide +kernel
theorem dX3_modemState_14 : decode cX3_modemState 14 = .ok (.aload_n 0, 1) := by decide +kernel
theorem dX3_modemState_15 : decode cX3_modemState 15 = .ok (.getfield 49, 3) := by decide +kernel
theorem dX3_modemState_18 : decode cX3_modemState 18 = .ok (.iconst 2, 1) := by decide +kernel
theorem dX3_modemState_19 : decode cX3_modemState 19 = .ok (.iand, 1) := by decide +kernel
theorem dX3_modemState_20 : decode cX3_modemState 20 = .ok (.iconst 3, 1) := by decide +kernel
theorem dX3_modemState_21 : decode cX3_modemState 21 = .ok (.ishl, 1) := by decide +kernel
theorem dX3_modemState_22 : decode cX3_modemState 22 = .ok (.aload_n 0, 1) := by decide +kernel
theorem dX3_modemState_23 : decode cX3_modemState 23 = .ok (.getfield 49, 3) := by decide +kernel
theorem dX3_modemState_26 : decode cX3_modemState 26 = .ok (.iconst 1, 1) := by decide +kernel
theorem dX3_modemState_27 : decode cX3_modemState 27 = .ok (.iand, 1) := by decide +kernel
theorem dX3_modemState_28 : decode cX3_modemState 28 = .ok (.iconst 5, 1) := by decide +kernel
theorem dX3_modemState_29 : decode cX3_modemState 29 = .ok (.ishl, 1) := by decide +kernel
theorem dX3_modemState_30 : decode cX3_modemState 30 = .ok (.ior, 1) := by decide +kernel
theorem dX3_modemState_31 : decode cX3_modemState 31 = .ok (.aload_n 0, 1) := by decide +kernel
theorem dX3_modemState_32 : decode cX3_modemState 32 = .ok (.getfield 49, 3) := by decide +kernel
theorem dX3_modemState_35 : decode cX3_modemState 35 = .ok (.bipush 12, 2) := by decide +kernel
theorem dX3_modemState_37 : decode cX3_modemState 37 = .ok (.iand, 1) := by decide +kernel
theorem dX3_modemState_38 : decode cX3_modemState 38 = .ok (.iconst 4, 1) := by decide +kernel
theorem dX3_modemState_39 : decode cX3_modemState 39 = .ok (.ishl, 1) := by decide +kernel
theorem dX3_modemState_40 : decode cX3_modemState 40 = .ok (.ior, 1) := by decide +kernel
theorem dX3_modemState_41 : decode cX3_modemState 41 = .ok (.ireturn, 1) := by decide +kernel
theorem dX5_write_0 : decode cX5_write 0 = .ok (.iload_n 1, 1) := by decide +kernel
theorem dX5_write_1 : decode cX5_write 1 = .ok (.lload_n 2, 1) := by decide +kernel
theorem dX5_write_2 : decode cX5_write 2 = .ok (.iload 4, 2) := by decide +kernel
theorem dX5_write_4 : decode cX5_write 4 = .ok (.invokestatic 36, 3) := by decide +kernel
theorem dX5_write_7 : decode cX5_write 7 = .ok (.ifCond .ne 13, 3) := by decide +kernel
theorem dX5_write_10 : decode cX5_write 10 = .ok (.new 40, 3) := by decide +kernel
theorem dX5_write_13 : decode cX5_write 13 = .ok (.dup, 1) := by decide +kernel
theorem dX5_write_14 : decode cX5_write 14 = .ok (.ldc 42, 2) := by decide +kernel
theorem dX5_write_16 : decode cX5_write 16 = .ok (.invokespecial 44, 3) := by decide +kernel
theorem dX5_write_19 : decode cX5_write 19 = .ok (.athrow, 1) := by decide +kernel
theorem dX5_write_20 : decode cX5_write 20 = .ok (.iload_n 1, 1) := by decide +kernel
theorem dX5_write_21 : decode cX5_write 21 = .ok (.ifCond .ne 18, 3) := by decide +kernel
theorem dX5_write_24 : decode cX5_write 24 = .ok (.aload_n 0, 1) := by decide +kernel
theorem dX5_write_25 : decode cX5_write 25 = .ok (.getfield 18, 3) := by decide +kernel
theorem dX5_write_28 : decode cX5_write 28 = .ok (.lload_n 2, 1) := by decide +kernel
theorem dX5_write_29 : decode cX5_write 29 = .ok (.iload 4, 2) := by decide +kernel
theorem dX5_write_31 : decode cX5_write 31 = .ok (.lload 5, 2) := by decide +kernel
theorem dX5_write_33 : decode cX5_write 33 = .ok (.invokevirtual 58, 3) := by decide +kernel
theorem dX5_write_36 : decode cX5_write 36 = .ok (.goto 45, 3) := by decide +kernel
theorem dX5_write_39 : decode cX5_write 39 = .ok (.iload_n 1, 1) := by decide +kernel
theorem dX5_write_40 : decode cX5_write 40 = .ok (.iconst 1, 1) := by decide +kernel
theorem dX5_write_41 : decode cX5_write 41 = .ok (.if_icmp .ne 19, 3) := by decide +kernel
theorem dX5_write_44 : decode cX5_write 44 = .ok (.aload_n 0, 1) := by decide +kernel
theorem dX5_write_45 : decode cX5_write 45 = .ok (.getfield 25, 3) := by decide +kernel
theorem dX5_write_48 : decode cX5_write 48 = .ok (.lload_n 2, 1) := by decide +kernel
theorem dX5_write_49 : decode cX5_write 49 = .ok (.iload 4, 2) := by decide +kernel
theorem dX5_write_51 : decode cX5_write 51 = .ok (.lload 5, 2) := by decide +kernel
theorem dX5_write_53 : decode cX5_write 53 = .ok (.l2i, 1) := by decide +kernel
theorem dX5_write_54 : decode cX5_write 54 = .ok (.invokevirtual 62, 3) := by decide +kernel
theorem dX5_write_57 : decode cX5_write 57 = .ok (.goto 24, 3) := by decide +kernel
theorem dX5_write_60 : decode cX5_write 60 = .ok (.aload_n 0, 1) := by decide +kernel
theorem dX5_write_61 : decode cX5_write 61 = .ok (.getfield 32, 3) := by decide +kernel
theorem dX5_write_64 : decode cX5_write 64 = .ok (.lload_n 2, 1) := by decide +kernel
theorem dX5_write_65 : decode cX5_write 65 = .ok (.iload 4, 2) := by decide +kernel
theorem dX5_write_67 : decode cX5_write 67 = .ok (.lload 5, 2) := by decide +kernel
theorem dX5_write_69 : decode cX5_write 69 = .ok (.ldc2_w 65, 3) := by decide +kernel
theorem dX5_write_72 : decode cX5_write 72 = .ok (.land, 1) := by decide +kernel
theorem dX5_write_73 : decode cX5_write 73 = .ok (.l2i, 1) := by decide +kernel
theorem dX5_write_74 : decode cX5_write 74 = .ok (.invokevirtual 67, 3) := by decide +kernel
theorem dX5_write_77 : decode cX5_write 77 = .ok (.aload_n 0, 1) := by decide +kernel
theorem dX5_write_78 : decode cX5_write 78 = .ok (.invokevirtual 55, 3) := by decide +kernel
theorem dX5_write_81 : decode cX5_write 81 = .ok (.return_, 1) := by decide +kernel

/-! decode rows -/
theorem dX6_isLess_0 : decode cX6_isLess 0 = .ok (.lload_n 0, 1) := by decide +kernel
theorem dX6_isLess_1 : decode cX6_isLess 1 = .ok (.lconst 0, 1) := by decide +kernel
theorem dX6_isLess_2 : decode cX6_isLess 2 = .ok (.lcmp, 1) := by decide +kernel
theorem dX6_isLess_3 : decode cX6_isLess 3 = .ok (.ifCond .ge 7, 3) := by decide +kernel
theorem dX6_isLess_6 : decode cX6_isLess 6 = .ok (.iconst 1, 1) := by decide +kernel
theorem dX6_isLess_7 : decode cX6_isLess 7 = .ok (.goto 4, 3) := by decide +kernel
theorem dX6_isLess_10 : decode cX6_isLess 10 = .ok (.iconst 0, 1) := by decide +kernel
theorem dX6_isLess_11 : decode cX6_isLess 11 = .ok (.lload_n 2, 1) := by decide +kernel
theorem dX6_isLess_12 : decode cX6_isLess 12 = .ok (.lconst 0, 1) := by decide +kernel
theorem dX6_isLess_13 : decode cX6_isLess 13 = .ok (.lcmp, 1) := by decide +kernel
theorem dX6_isLess_14 : decode cX6_isLess 14 = .ok (.ifCond .ge 7, 3) := by decide +kernel
theorem dX6_isLess_17 : decode cX6_isLess 17 = .ok (.iconst 1, 1) := by decide +kernel
theorem dX6_isLess_18 : decode cX6_isLess 18 = .ok (.goto 4, 3) := by decide +kernel
theorem dX6_isLess_21 : decode cX6_isLess 21 = .ok (.iconst 0, 1) := by decide +kernel
theorem dX6_isLess_22 : decode cX6_isLess 22 = .ok (.if_icmp .ne 17, 3) := by decide +kernel
theorem dX6_isLess_25 : decode cX6_isLess 25 = .ok (.lload_n 0, 1) := by decide +kernel
theorem dX6_isLess_26 : decode cX6_isLess 26 = .ok (.lload_n 2, 1) := by decide +kernel
theorem dX6_isLess_27 : decode cX6_isLess 27 = .ok (.lcmp, 1) := by decide +kernel
theorem dX6_isLess_28 : decode cX6_isLess 28 = .ok (.ifCond .ge 7, 3) := by decide +kernel
theorem dX6_isLess_31 : decode cX6_isLess 31 = .ok (.iconst 1, 1) := by decide +kernel
theorem dX6_isLess_32 : decode cX6_isLess 32 = .ok (.goto 18, 3) := by decide +kernel
theorem dX6_isLess_35 : decode cX6_isLess 35 = .ok (.iconst 0, 1) := by decide +kernel
theorem dX6_isLess_36 : decode cX6_isLess 36 = .ok (.goto 14, 3) := by decide +kernel
theorem dX6_isLess_39 : decode cX6_isLess 39 = .ok (.lload_n 2, 1) := by decide +kernel
theorem dX6_isLess_40 : decode cX6_isLess 40 = .ok (.lconst 0, 1) := by decide +kernel
theorem dX6_isLess_41 : decode cX6_isLess 41 = .ok (.lcmp, 1) := by decide +kernel
theorem dX6_isLess_42 : decode cX6_isLess 42 = .ok (.ifCond .ge 7, 3) := by decide +kernel
theorem dX6_isLess_45 : decode cX6_isLess 45 = .ok (.iconst 1, 1) := by decide +kernel
theorem dX6_isLess_46 : decode cX6_isLess 46 = .ok (.goto 4, 3) := by decide +kernel
theorem dX6_isLess_49 : decode cX6_isLess 49 = .ok (.iconst 0, 1) := by decide +kernel
theorem dX6_isLess_50 : decode cX6_isLess 50 = .ok (.ireturn, 1) := by decide +kernel
theorem dX6_above_0 : decode cX6_above 0 = .ok (.iconst 0, 1) := by decide +kernel
theorem dX6_above_1 : decode cX6_above 1 = .ok (.istore_n 2, 1) := by decide +kernel
theorem dX6_above_2 : decode cX6_above 2 = .ok (.iconst 1, 1) := by decide +kernel
theorem dX6_above_3 : decode cX6_above 3 = .ok (.istore_n 3, 1) := by decide +kernel
theorem dX6_above_4 : decode cX6_above 4 = .ok (.iload_n 3, 1) := by decide +kernel
theorem dX6_above_5 : decode cX6_above 5 = .ok (.bipush 32, 2) := by decide +kernel
theorem dX6_above_7 : decode cX6_above 7 = .ok (.if_icmp .ge 52, 3) := by decide +kernel
theorem dX6_above_10 : decode cX6_above 10 = .ok (.iload_n 2, 1) := by decide +kernel
theorem dX6_above_11 : decode cX6_above 11 = .ok (.ifCond .ne 36, 3) := by decide +kernel
theorem dX6_above_14 : decode cX6_above 14 = .ok (.aload_n 0, 1) := by decide +kernel
theorem dX6_above_15 : decode cX6_above 15 = .ok (.getfield 20, 3) := by decide +kernel
theorem dX6_above_18 : decode cX6_above 18 = .ok (.iload_n 3, 1) := by decide +kernel
theorem dX6_above_19 : decode cX6_above 19 = .ok (.baload, 1) := by decide +kernel
theorem dX6_above_20 : decode cX6_above 20 = .ok (.ifCond .eq 31, 3) := by decide +kernel
theorem dX6_above_23 : decode cX6_above 23 = .ok (.aload_n 0, 1) := by decide +kernel
theorem dX6_above_24 : decode cX6_above 24 = .ok (.iload_n 1, 1) := by decide +kernel
theorem dX6_above_25 : decode cX6_above 25 = .ok (.iload_n 3, 1) := by decide +kernel
theorem dX6_above_26 : decode cX6_above 26 = .ok (.invokevirtual 87, 3) := by decide +kernel
theorem dX6_above_29 : decode cX6_above 29 = .ok (.ifCond .eq 22, 3) := by decide +kernel
theorem dX6_above_32 : decode cX6_above 32 = .ok (.aload_n 0, 1) := by decide +kernel
theorem dX6_above_33 : decode cX6_above 33 = .ok (.getfield 26, 3) := by decide +kernel
theorem dX6_above_36 : decode cX6_above 36 = .ok (.iload_n 3, 1) := by decide +kernel
theorem dX6_above_37 : decode cX6_above 37 = .ok (.iaload, 1) := by decide +kernel
theorem dX6_above_38 : decode cX6_above 38 = .ok (.aload_n 0, 1) := by decide +kernel
theorem dX6_above_39 : decode cX6_above 39 = .ok (.getfield 33, 3) := by decide +kernel
theorem dX6_above_42 : decode cX6_above 42 = .ok (.iload_n 1, 1) := by decide +kernel
theorem dX6_above_43 : decode cX6_above 43 = .ok (.iaload, 1) := by decide +kernel
theorem dX6_above_44 : decode cX6_above 44 = .ok (.if_icmp .le 7, 3) := by decide +kernel
theorem dX6_above_47 : decode cX6_above 47 = .ok (.iconst 1, 1) := by decide +kernel
theorem dX6_above_48 : decode cX6_above 48 = .ok (.goto 4, 3) := by decide +kernel
theorem dX6_above_51 : decode cX6_above 51 = .ok (.iconst 0, 1) := by decide +kernel
theorem dX6_above_52 : decode cX6_above 52 = .ok (.istore_n 2, 1) := by decide +kernel
theorem dX6_above_53 : decode cX6_above 53 = .ok (.iinc 3 1, 3) := by decide +kernel
theorem dX6_above_56 : decode cX6_above 56 = .ok (.goto (-52), 3) := by decide +kernel
theorem dX6_above_59 : decode cX6_above 59 = .ok (.iload_n 2, 1) := by decide +kernel
theorem dX6_above_60 : decode cX6_above 60 = .ok (.ireturn, 1) := by decide +kernel
theorem dX6_sent_0 : decode cX6_sent 0 = .ok (.aload_n 0, 1) := by decide +kernel
theorem dX6_sent_1 : decode cX6_sent 1 = .ok (.iconst 0, 1) := by decide +kernel
theorem dX6_sent_2 : decode cX6_sent 2 = .ok (.putfield 54, 3) := by decide +kernel
theorem dX6_sent_5 : decode cX6_sent 5 = .ok (.aload_n 0, 1) := by decide +kernel
theorem dX6_sent_6 : decode cX6_sent 6 = .ok (.getfield 165, 3) := by decide +kernel
theorem dX6_sent_9 : decode cX6_sent 9 = .ok (.lreturn, 1) := by decide +kernel
theorem dX6_out_0 : decode cX6_out 0 = .ok (.aload_n 0, 1) := by decide +kernel
theorem dX6_out_1 : decode cX6_out 1 = .ok (.iconst 0, 1) := by decide +kernel
theorem dX6_out_2 : decode cX6_out 2 = .ok (.putfield 54, 3) := by decide +kernel
theorem dX6_out_5 : decode cX6_out 5 = .ok (.lload_n 1, 1) := by decide +kernel
theorem dX6_out_6 : decode cX6_out 6 = .ok (.lconst 0, 1) := by decide +kernel
theorem dX6_out_7 : decode cX6_out 7 = .ok (.lcmp, 1) := by decide +kernel
theorem dX6_out_8 : decode cX6_out 8 = .ok (.ifCond .lt 25, 3) := by decide +kernel
theorem dX6_out_11 : decode cX6_out 11 = .ok (.lload_n 1, 1) := by decide +kernel
theorem dX6_out_12 : decode cX6_out 12 = .ok (.aload_n 0, 1) := by decide +kernel
theorem dX6_out_13 : decode cX6_out 13 = .ok (.getfield 165, 3) := by decide +kernel
theorem dX6_out_16 : decode cX6_out 16 = .ok (.lcmp, 1) := by decide +kernel
theorem dX6_out_17 : decode cX6_out 17 = .ok (.ifCond .ge 16, 3) := by decide +kernel
theorem dX6_out_20 : decode cX6_out 20 = .ok (.lload_n 1, 1) := by decide +kernel
theorem dX6_out_21 : decode cX6_out 21 = .ok (.aload_n 0, 1) := by decide +kernel
theorem dX6_out_22 : decode cX6_out 22 = .ok (.getfield 165, 3) := by decide +kernel
theorem dX6_out_25 : decode cX6_out 25 = .ok (.ldc2_w 97, 3) := by decide +kernel
theorem dX6_out_28 : decode cX6_out 28 = .ok (.lsub, 1) := by decide +kernel
theorem dX6_out_29 : decode cX6_out 29 = .ok (.lcmp, 1) := by decide +kernel
theorem dX6_out_30 : decode cX6_out 30 = .ok (.ifCond .ge 7, 3) := by decide +kernel
theorem dX6_out_33 : decode cX6_out 33 = .ok (.iconst (-1), 1) := by decide +kernel
theorem dX6_out_34 : decode cX6_out 34 = .ok (.goto 14, 3) := by decide +kernel
theorem dX6_out_37 : decode cX6_out 37 = .ok (.aload_n 0, 1) := by decide +kernel
theorem dX6_out_38 : decode cX6_out 38 = .ok (.getfield 45, 3) := by decide +kernel
theorem dX6_out_41 : decode cX6_out 41 = .ok (.lload_n 1, 1) := by decide +kernel
theorem dX6_out_42 : decode cX6_out 42 = .ok (.ldc2_w 97, 3) := by decide +kernel
theorem dX6_out_45 : decode cX6_out 45 = .ok (.lrem, 1) := by decide +kernel
theorem dX6_out_46 : decode cX6_out 46 = .ok (.l2i, 1) := by decide +kernel
theorem dX6_out_47 : decode cX6_out 47 = .ok (.iaload, 1) := by decide +kernel
theorem dX6_out_48 : decode cX6_out 48 = .ok (.ireturn, 1) := by decide +kernel

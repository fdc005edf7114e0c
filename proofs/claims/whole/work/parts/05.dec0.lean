/-! decode rows -/
theorem dX5_init_0 : decode cX5_init 0 = .ok (.aload_n 0, 1) := by decide +kernel
theorem dX5_init_1 : decode cX5_init 1 = .ok (.invokespecial 1, 3) := by decide +kernel
theorem dX5_init_4 : decode cX5_init 4 = .ok (.aload_n 0, 1) := by decide +kernel
theorem dX5_init_5 : decode cX5_init 5 = .ok (.iload_n 1, 1) := by decide +kernel
theorem dX5_init_6 : decode cX5_init 6 = .ok (.iconst 1, 1) := by decide +kernel
theorem dX5_init_7 : decode cX5_init 7 = .ok (.if_icmp .lt 12, 3) := by decide +kernel
theorem dX5_init_10 : decode cX5_init 10 = .ok (.iload_n 1, 1) := by decide +kernel
theorem dX5_init_11 : decode cX5_init 11 = .ok (.iconst 4, 1) := by decide +kernel
theorem dX5_init_12 : decode cX5_init 12 = .ok (.if_icmp .gt 7, 3) := by decide +kernel
theorem dX5_init_15 : decode cX5_init 15 = .ok (.iload_n 1, 1) := by decide +kernel
theorem dX5_init_16 : decode cX5_init 16 = .ok (.goto 4, 3) := by decide +kernel
theorem dX5_init_19 : decode cX5_init 19 = .ok (.iconst 1, 1) := by decide +kernel
theorem dX5_init_20 : decode cX5_init 20 = .ok (.putfield 9, 3) := by decide +kernel
theorem dX5_init_23 : decode cX5_init 23 = .ok (.aload_n 0, 1) := by decide +kernel
theorem dX5_init_24 : decode cX5_init 24 = .ok (.new 13, 3) := by decide +kernel
theorem dX5_init_27 : decode cX5_init 27 = .ok (.dup, 1) := by decide +kernel
theorem dX5_init_28 : decode cX5_init 28 = .ok (.aload_n 0, 1) := by decide +kernel
theorem dX5_init_29 : decode cX5_init 29 = .ok (.getfield 9, 3) := by decide +kernel
theorem dX5_init_32 : decode cX5_init 32 = .ok (.invokespecial 15, 3) := by decide +kernel
theorem dX5_init_35 : decode cX5_init 35 = .ok (.putfield 18, 3) := by decide +kernel
theorem dX5_init_38 : decode cX5_init 38 = .ok (.aload_n 0, 1) := by decide +kernel
theorem dX5_init_39 : decode cX5_init 39 = .ok (.new 22, 3) := by decide +kernel
theorem dX5_init_42 : decode cX5_init 42 = .ok (.dup, 1) := by decide +kernel
theorem dX5_init_43 : decode cX5_init 43 = .ok (.iconst 2, 1) := by decide +kernel
theorem dX5_init_44 : decode cX5_init 44 = .ok (.aload_n 0, 1) := by decide +kernel
theorem dX5_init_45 : decode cX5_init 45 = .ok (.getfield 9, 3) := by decide +kernel
theorem dX5_init_48 : decode cX5_init 48 = .ok (.imul, 1) := by decide +kernel
theorem dX5_init_49 : decode cX5_init 49 = .ok (.invokespecial 24, 3) := by decide +kernel
theorem dX5_init_52 : decode cX5_init 52 = .ok (.putfield 25, 3) := by decide +kernel
theorem dX5_init_55 : decode cX5_init 55 = .ok (.aload_n 0, 1) := by decide +kernel
theorem dX5_init_56 : decode cX5_init 56 = .ok (.new 29, 3) := by decide +kernel
theorem dX5_init_59 : decode cX5_init 59 = .ok (.dup, 1) := by decide +kernel
theorem dX5_init_60 : decode cX5_init 60 = .ok (.invokespecial 31, 3) := by decide +kernel
theorem dX5_init_63 : decode cX5_init 63 = .ok (.putfield 32, 3) := by decide +kernel
theorem dX5_init_66 : decode cX5_init 66 = .ok (.return_, 1) := by decide +kernel
theorem dX4_init_0 : decode cX4_init 0 = .ok (.aload_n 0, 1) := by decide +kernel
theorem dX4_init_1 : decode cX4_init 1 = .ok (.invokespecial 3, 3) := by decide +kernel
theorem dX4_init_4 : decode cX4_init 4 = .ok (.aload_n 0, 1) := by decide +kernel
theorem dX4_init_5 : decode cX4_init 5 = .ok (.iload_n 1, 1) := by decide +kernel
theorem dX4_init_6 : decode cX4_init 6 = .ok (.newarray .int, 2) := by decide +kernel
theorem dX4_init_8 : decode cX4_init 8 = .ok (.putfield 9, 3) := by decide +kernel
theorem dX4_init_11 : decode cX4_init 11 = .ok (.aload_n 0, 1) := by decide +kernel
theorem dX4_init_12 : decode cX4_init 12 = .ok (.iload_n 1, 1) := by decide +kernel
theorem dX4_init_13 : decode cX4_init 13 = .ok (.iconst 1, 1) := by decide +kernel
theorem dX4_init_14 : decode cX4_init 14 = .ok (.iadd, 1) := by decide +kernel
theorem dX4_init_15 : decode cX4_init 15 = .ok (.newarray .long, 2) := by decide +kernel
theorem dX4_init_17 : decode cX4_init 17 = .ok (.putfield 15, 3) := by decide +kernel
theorem dX4_init_20 : decode cX4_init 20 = .ok (.aload_n 0, 1) := by decide +kernel
theorem dX4_init_21 : decode cX4_init 21 = .ok (.iload_n 1, 1) := by decide +kernel
theorem dX4_init_22 : decode cX4_init 22 = .ok (.putfield 19, 3) := by decide +kernel
theorem dX4_init_25 : decode cX4_init 25 = .ok (.aload_n 0, 1) := by decide +kernel
theorem dX4_init_26 : decode cX4_init 26 = .ok (.getfield 15, 3) := by decide +kernel
theorem dX4_init_29 : decode cX4_init 29 = .ok (.ldc2_w 23, 3) := by decide +kernel
theorem dX4_init_32 : decode cX4_init 32 = .ok (.invokestatic 25, 3) := by decide +kernel
theorem dX4_init_35 : decode cX4_init 35 = .ok (.aload_n 0, 1) := by decide +kernel
theorem dX4_init_36 : decode cX4_init 36 = .ok (.getfield 15, 3) := by decide +kernel
theorem dX4_init_39 : decode cX4_init 39 = .ok (.aload_n 0, 1) := by decide +kernel
theorem dX4_init_40 : decode cX4_init 40 = .ok (.getfield 19, 3) := by decide +kernel
theorem dX4_init_43 : decode cX4_init 43 = .ok (.lconst 0, 1) := by decide +kernel
theorem dX4_init_44 : decode cX4_init 44 = .ok (.lastore, 1) := by decide +kernel
theorem dX4_init_45 : decode cX4_init 45 = .ok (.return_, 1) := by decide +kernel
theorem dJ7_fill_0 : decode cJ7_fill 0 = .ok (.iconst 0, 1) := by decide +kernel
theorem dJ7_fill_1 : decode cJ7_fill 1 = .ok (.istore_n 3, 1) := by decide +kernel
theorem dJ7_fill_2 : decode cJ7_fill 2 = .ok (.aload_n 0, 1) := by decide +kernel
theorem dJ7_fill_3 : decode cJ7_fill 3 = .ok (.arraylength, 1) := by decide +kernel
theorem dJ7_fill_4 : decode cJ7_fill 4 = .ok (.istore 4, 2) := by decide +kernel
theorem dJ7_fill_6 : decode cJ7_fill 6 = .ok (.iload_n 3, 1) := by decide +kernel
theorem dJ7_fill_7 : decode cJ7_fill 7 = .ok (.iload 4, 2) := by decide +kernel
theorem dJ7_fill_9 : decode cJ7_fill 9 = .ok (.if_icmp .ge 13, 3) := by decide +kernel
theorem dJ7_fill_12 : decode cJ7_fill 12 = .ok (.aload_n 0, 1) := by decide +kernel
theorem dJ7_fill_13 : decode cJ7_fill 13 = .ok (.iload_n 3, 1) := by decide +kernel
theorem dJ7_fill_14 : decode cJ7_fill 14 = .ok (.lload_n 1, 1) := by decide +kernel
theorem dJ7_fill_15 : decode cJ7_fill 15 = .ok (.lastore, 1) := by decide +kernel
theorem dJ7_fill_16 : decode cJ7_fill 16 = .ok (.iinc 3 1, 3) := by decide +kernel
theorem dJ7_fill_19 : decode cJ7_fill 19 = .ok (.goto (-13), 3) := by decide +kernel
theorem dJ7_fill_22 : decode cJ7_fill 22 = .ok (.return_, 1) := by decide +kernel
theorem dX0_init_0 : decode cX0_init 0 = .ok (.aload_n 0, 1) := by decide +kernel
theorem dX0_init_1 : decode cX0_init 1 = .ok (.invokespecial 3, 3) := by decide +kernel
theorem dX0_init_4 : decode cX0_init 4 = .ok (.aload_n 0, 1) := by decide +kernel
theorem dX0_init_5 : decode cX0_init 5 = .ok (.bipush 32, 2) := by decide +kernel
theorem dX0_init_7 : decode cX0_init 7 = .ok (.newarray .int, 2) := by decide +kernel
theorem dX0_init_9 : decode cX0_init 9 = .ok (.putfield 9, 3) := by decide +kernel
theorem dX0_init_12 : decode cX0_init 12 = .ok (.aload_n 0, 1) := by decide +kernel
theorem dX0_init_13 : decode cX0_init 13 = .ok (.iload_n 1, 1) := by decide +kernel
theorem dX0_init_14 : decode cX0_init 14 = .ok (.putfield 15, 3) := by decide +kernel
theorem dX0_init_17 : decode cX0_init 17 = .ok (.aload_n 0, 1) := by decide +kernel
theorem dX0_init_18 : decode cX0_init 18 = .ok (.iload_n 1, 1) := by decide +kernel
theorem dX0_init_19 : decode cX0_init 19 = .ok (.newarray .int, 2) := by decide +kernel
theorem dX0_init_21 : decode cX0_init 21 = .ok (.putfield 19, 3) := by decide +kernel
theorem dX0_init_24 : decode cX0_init 24 = .ok (.aload_n 0, 1) := by decide +kernel
theorem dX0_init_25 : decode cX0_init 25 = .ok (.iload_n 1, 1) := by decide +kernel
theorem dX0_init_26 : decode cX0_init 26 = .ok (.newarray .int, 2) := by decide +kernel
theorem dX0_init_28 : decode cX0_init 28 = .ok (.putfield 22, 3) := by decide +kernel
theorem dX0_init_31 : decode cX0_init 31 = .ok (.return_, 1) := by decide +kernel
theorem dX3_init_0 : decode cX3_init 0 = .ok (.aload_n 0, 1) := by decide +kernel
theorem dX3_init_1 : decode cX3_init 1 = .ok (.invokespecial 1, 3) := by decide +kernel
theorem dX3_init_4 : decode cX3_init 4 = .ok (.aload_n 0, 1) := by decide +kernel
theorem dX3_init_5 : decode cX3_init 5 = .ok (.new 7, 3) := by decide +kernel
theorem dX3_init_8 : decode cX3_init 8 = .ok (.dup, 1) := by decide +kernel
theorem dX3_init_9 : decode cX3_init 9 = .ok (.invokespecial 9, 3) := by decide +kernel
theorem dX3_init_12 : decode cX3_init 12 = .ok (.putfield 10, 3) := by decide +kernel
theorem dX3_init_15 : decode cX3_init 15 = .ok (.aload_n 0, 1) := by decide +kernel
theorem dX3_init_16 : decode cX3_init 16 = .ok (.new 16, 3) := by decide +kernel
theorem dX3_init_19 : decode cX3_init 19 = .ok (.dup, 1) := by decide +kernel
theorem dX3_init_20 : decode cX3_init 20 = .ok (.invokespecial 18, 3) := by decide +kernel
theorem dX3_init_23 : decode cX3_init 23 = .ok (.putfield 19, 3) := by decide +kernel
theorem dX3_init_26 : decode cX3_init 26 = .ok (.return_, 1) := by decide +kernel
theorem dX1_init_0 : decode cX1_init 0 = .ok (.aload_n 0, 1) := by decide +kernel
theorem dX1_init_1 : decode cX1_init 1 = .ok (.invokespecial 1, 3) := by decide +kernel
theorem dX1_init_4 : decode cX1_init 4 = .ok (.aload_n 0, 1) := by decide +kernel
theorem dX1_init_5 : decode cX1_init 5 = .ok (.bipush 16, 2) := by decide +kernel
theorem dX1_init_7 : decode cX1_init 7 = .ok (.newarray .int, 2) := by decide +kernel
theorem dX1_init_9 : decode cX1_init 9 = .ok (.putfield 9, 3) := by decide +kernel
theorem dX1_init_12 : decode cX1_init 12 = .ok (.return_, 1) := by decide +kernel
theorem dX2_init_0 : decode cX2_init 0 = .ok (.aload_n 0, 1) := by decide +kernel
theorem dX2_init_1 : decode cX2_init 1 = .ok (.invokespecial 1, 3) := by decide +kernel
theorem dX2_init_4 : decode cX2_init 4 = .ok (.aload_n 0, 1) := by decide +kernel
theorem dX2_init_5 : decode cX2_init 5 = .ok (.sipush 4096, 3) := by decide +kernel
theorem dX2_init_8 : decode cX2_init 8 = .ok (.newarray .byte, 2) := by decide +kernel
theorem dX2_init_10 : decode cX2_init 10 = .ok (.putfield 9, 3) := by decide +kernel
theorem dX2_init_13 : decode cX2_init 13 = .ok (.return_, 1) := by decide +kernel
theorem dX5_processors_0 : decode cX5_processors 0 = .ok (.aload_n 0, 1) := by decide +kernel
theorem dX5_processors_1 : decode cX5_processors 1 = .ok (.getfield 9, 3) := by decide +kernel
theorem dX5_processors_4 : decode cX5_processors 4 = .ok (.ireturn, 1) := by decide +kernel
theorem dX5_come_0 : decode cX5_come 0 = .ok (.aload_n 0, 1) := by decide +kernel
theorem dX5_come_1 : decode cX5_come 1 = .ok (.getfield 32, 3) := by decide +kernel
theorem dX5_come_4 : decode cX5_come 4 = .ok (.iload_n 1, 1) := by decide +kernel
theorem dX5_come_5 : decode cX5_come 5 = .ok (.sipush 255, 3) := by decide +kernel
theorem dX5_come_8 : decode cX5_come 8 = .ok (.iand, 1) := by decide +kernel
theorem dX5_come_9 : decode cX5_come 9 = .ok (.invokevirtual 74, 3) := by decide +kernel
theorem dX5_come_12 : decode cX5_come 12 = .ok (.istore_n 2, 1) := by decide +kernel
theorem dX5_come_13 : decode cX5_come 13 = .ok (.aload_n 0, 1) := by decide +kernel
theorem dX5_come_14 : decode cX5_come 14 = .ok (.invokevirtual 55, 3) := by decide +kernel
theorem dX5_come_17 : decode cX5_come 17 = .ok (.iload_n 2, 1) := by decide +kernel
theorem dX5_come_18 : decode cX5_come 18 = .ok (.ireturn, 1) := by decide +kernel
theorem dX3_receive_0 : decode cX3_receive 0 = .ok (.aload_n 0, 1) := by decide +kernel
theorem dX3_receive_1 : decode cX3_receive 1 = .ok (.getfield 10, 3) := by decide +kernel
theorem dX3_receive_4 : decode cX3_receive 4 = .ok (.iload_n 1, 1) := by decide +kernel
theorem dX3_receive_5 : decode cX3_receive 5 = .ok (.invokevirtual 72, 3) := by decide +kernel
theorem dX3_receive_8 : decode cX3_receive 8 = .ok (.istore_n 2, 1) := by decide +kernel
theorem dX3_receive_9 : decode cX3_receive 9 = .ok (.iload_n 2, 1) := by decide +kernel
theorem dX3_receive_10 : decode cX3_receive 10 = .ok (.ifCond .ne 8, 3) := by decide +kernel
theorem dX3_receive_13 : decode cX3_receive 13 = .ok (.aload_n 0, 1) := by decide +kernel
theorem dX3_receive_14 : decode cX3_receive 14 = .ok (.iconst 1, 1) := by decide +kernel
theorem dX3_receive_15 : decode cX3_receive 15 = .ok (.putfield 76, 3) := by decide +kernel
theorem dX3_receive_18 : decode cX3_receive 18 = .ok (.iload_n 2, 1) := by decide +kernel
theorem dX3_receive_19 : decode cX3_receive 19 = .ok (.ireturn, 1) := by decide +kernel
theorem dX1_put_0 : decode cX1_put 0 = .ok (.aload_n 0, 1) := by decide +kernel
theorem dX1_put_1 : decode cX1_put 1 = .ok (.invokevirtual 21, 3) := by decide +kernel
theorem dX1_put_4 : decode cX1_put 4 = .ok (.ifCond .gt 5, 3) := by decide +kernel
theorem dX1_put_7 : decode cX1_put 7 = .ok (.iconst 0, 1) := by decide +kernel
theorem dX1_put_8 : decode cX1_put 8 = .ok (.ireturn, 1) := by decide +kernel
theorem dX1_put_9 : decode cX1_put 9 = .ok (.aload_n 0, 1) := by decide +kernel
theorem dX1_put_10 : decode cX1_put 10 = .ok (.getfield 9, 3) := by decide +kernel
theorem dX1_put_13 : decode cX1_put 13 = .ok (.aload_n 0, 1) := by decide +kernel
theorem dX1_put_14 : decode cX1_put 14 = .ok (.getfield 25, 3) := by decide +kernel
theorem dX1_put_17 : decode cX1_put 17 = .ok (.aload_n 0, 1) := by decide +kernel
theorem dX1_put_18 : decode cX1_put 18 = .ok (.getfield 17, 3) := by decide +kernel
theorem dX1_put_21 : decode cX1_put 21 = .ok (.iadd, 1) := by decide +kernel
theorem dX1_put_22 : decode cX1_put 22 = .ok (.bipush 15, 2) := by decide +kernel
theorem dX1_put_24 : decode cX1_put 24 = .ok (.iand, 1) := by decide +kernel
theorem dX1_put_25 : decode cX1_put 25 = .ok (.iload_n 1, 1) := by decide +kernel
theorem dX1_put_26 : decode cX1_put 26 = .ok (.iastore, 1) := by decide +kernel
theorem dX1_put_27 : decode cX1_put 27 = .ok (.aload_n 0, 1) := by decide +kernel
theorem dX1_put_28 : decode cX1_put 28 = .ok (.dup, 1) := by decide +kernel
theorem dX1_put_29 : decode cX1_put 29 = .ok (.getfield 17, 3) := by decide +kernel
theorem dX1_put_32 : decode cX1_put 32 = .ok (.iconst 1, 1) := by decide +kernel
theorem dX1_put_33 : decode cX1_put 33 = .ok (.iadd, 1) := by decide +kernel
theorem dX1_put_34 : decode cX1_put 34 = .ok (.putfield 17, 3) := by decide +kernel
theorem dX1_put_37 : decode cX1_put 37 = .ok (.iconst 1, 1) := by decide +kernel
theorem dX1_put_38 : decode cX1_put 38 = .ok (.ireturn, 1) := by decide +kernel
theorem dX1_space_0 : decode cX1_space 0 = .ok (.aload_n 0, 1) := by decide +kernel
theorem dX1_space_1 : decode cX1_space 1 = .ok (.getfield 13, 3) := by decide +kernel
theorem dX1_space_4 : decode cX1_space 4 = .ok (.ifCond .eq 8, 3) := by decide +kernel
theorem dX1_space_7 : decode cX1_space 7 = .ok (.bipush 16, 2) := by decide +kernel
theorem dX1_space_9 : decode cX1_space 9 = .ok (.goto 4, 3) := by decide +kernel
theorem dX1_space_12 : decode cX1_space 12 = .ok (.iconst 1, 1) := by decide +kernel
theorem dX1_space_13 : decode cX1_space 13 = .ok (.aload_n 0, 1) := by decide +kernel
theorem dX1_space_14 : decode cX1_space 14 = .ok (.getfield 17, 3) := by decide +kernel
theorem dX1_space_17 : decode cX1_space 17 = .ok (.isub, 1) := by decide +kernel
theorem dX1_space_18 : decode cX1_space 18 = .ok (.ireturn, 1) := by decide +kernel
theorem dX5_wireSerial_0 : decode cX5_wireSerial 0 = .ok (.aload_n 0, 1) := by decide +kernel
theorem dX5_wireSerial_1 : decode cX5_wireSerial 1 = .ok (.getfield 25, 3) := by decide +kernel
theorem dX5_wireSerial_4 : decode cX5_wireSerial 4 = .ok (.bipush 10, 2) := by decide +kernel
theorem dX5_wireSerial_6 : decode cX5_wireSerial 6 = .ok (.aload_n 0, 1) := by decide +kernel
theorem dX5_wireSerial_7 : decode cX5_wireSerial 7 = .ok (.getfield 32, 3) := by decide +kernel
theorem dX5_wireSerial_10 : decode cX5_wireSerial 10 = .ok (.invokevirtual 119, 3) := by decide +kernel
theorem dX5_wireSerial_13 : decode cX5_wireSerial 13 = .ok (.iconst 1, 1) := by decide +kernel
theorem dX5_wireSerial_14 : decode cX5_wireSerial 14 = .ok (.if_icmp .eq 7, 3) := by decide +kernel
theorem dX5_wireSerial_17 : decode cX5_wireSerial 17 = .ok (.iconst 1, 1) := by decide +kernel
theorem dX5_wireSerial_18 : decode cX5_wireSerial 18 = .ok (.goto 4, 3) := by decide +kernel
theorem dX5_wireSerial_21 : decode cX5_wireSerial 21 = .ok (.iconst 0, 1) := by decide +kernel
theorem dX5_wireSerial_22 : decode cX5_wireSerial 22 = .ok (.invokevirtual 70, 3) := by decide +kernel
theorem dX5_wireSerial_25 : decode cX5_wireSerial 25 = .ok (.return_, 1) := by decide +kernel
theorem dX3_cause_0 : decode cX3_cause 0 = .ok (.aload_n 0, 1) := by decide +kernel
theorem dX3_cause_1 : decode cX3_cause 1 = .ok (.getfield 76, 3) := by decide +kernel
theorem dX3_cause_4 : decode cX3_cause 4 = .ok (.ifCond .eq 15, 3) := by decide +kernel
theorem dX3_cause_7 : decode cX3_cause 7 = .ok (.aload_n 0, 1) := by decide +kernel
theorem dX3_cause_8 : decode cX3_cause 8 = .ok (.getfield 40, 3) := by decide +kernel
theorem dX3_cause_11 : decode cX3_cause 11 = .ok (.iconst 4, 1) := by decide +kernel
theorem dX3_cause_12 : decode cX3_cause 12 = .ok (.iand, 1) := by decide +kernel
theorem dX3_cause_13 : decode cX3_cause 13 = .ok (.ifCond .eq 6, 3) := by decide +kernel
theorem dX3_cause_16 : decode cX3_cause 16 = .ok (.bipush 6, 2) := by decide +kernel
theorem dX3_cause_18 : decode cX3_cause 18 = .ok (.ireturn, 1) := by decide +kernel
theorem dX3_cause_19 : decode cX3_cause 19 = .ok (.aload_n 0, 1) := by decide +kernel
theorem dX3_cause_20 : decode cX3_cause 20 = .ok (.getfield 10, 3) := by decide +kernel
theorem dX3_cause_23 : decode cX3_cause 23 = .ok (.getfield 80, 3) := by decide +kernel
theorem dX3_cause_26 : decode cX3_cause 26 = .ok (.ifCond .le 14, 3) := by decide +kernel
theorem dX3_cause_29 : decode cX3_cause 29 = .ok (.aload_n 0, 1) := by decide +kernel
theorem dX3_cause_30 : decode cX3_cause 30 = .ok (.getfield 40, 3) := by decide +kernel
theorem dX3_cause_33 : decode cX3_cause 33 = .ok (.iconst 1, 1) := by decide +kernel
theorem dX3_cause_34 : decode cX3_cause 34 = .ok (.iand, 1) := by decide +kernel
theorem dX3_cause_35 : decode cX3_cause 35 = .ok (.ifCond .eq 5, 3) := by decide +kernel
theorem dX3_cause_38 : decode cX3_cause 38 = .ok (.iconst 4, 1) := by decide +kernel
theorem dX3_cause_39 : decode cX3_cause 39 = .ok (.ireturn, 1) := by decide +kernel
theorem dX3_cause_40 : decode cX3_cause 40 = .ok (.aload_n 0, 1) := by decide +kernel
theorem dX3_cause_41 : decode cX3_cause 41 = .ok (.getfield 83, 3) := by decide +kernel
theorem dX3_cause_44 : decode cX3_cause 44 = .ok (.ifCond .eq 14, 3) := by decide +kernel
theorem dX3_cause_47 : decode cX3_cause 47 = .ok (.aload_n 0, 1) := by decide +kernel
theorem dX3_cause_48 : decode cX3_cause 48 = .ok (.getfield 40, 3) := by decide +kernel
theorem dX3_cause_51 : decode cX3_cause 51 = .ok (.iconst 2, 1) := by decide +kernel
theorem dX3_cause_52 : decode cX3_cause 52 = .ok (.iand, 1) := by decide +kernel
theorem dX3_cause_53 : decode cX3_cause 53 = .ok (.ifCond .eq 5, 3) := by decide +kernel
theorem dX3_cause_56 : decode cX3_cause 56 = .ok (.iconst 2, 1) := by decide +kernel
theorem dX3_cause_57 : decode cX3_cause 57 = .ok (.ireturn, 1) := by decide +kernel
theorem dX3_cause_58 : decode cX3_cause 58 = .ok (.iconst 1, 1) := by decide +kernel
theorem dX3_cause_59 : decode cX3_cause 59 = .ok (.ireturn, 1) := by decide +kernel
theorem dX0_drive_0 : decode cX0_drive 0 = .ok (.iconst 1, 1) := by decide +kernel
theorem dX0_drive_1 : decode cX0_drive 1 = .ok (.iload_n 1, 1) := by decide +kernel
theorem dX0_drive_2 : decode cX0_drive 2 = .ok (.ishl, 1) := by decide +kernel
theorem dX0_drive_3 : decode cX0_drive 3 = .ok (.istore_n 3, 1) := by decide +kernel
theorem dX0_drive_4 : decode cX0_drive 4 = .ok (.aload_n 0, 1) := by decide +kernel
theorem dX0_drive_5 : decode cX0_drive 5 = .ok (.iload_n 2, 1) := by decide +kernel
theorem dX0_drive_6 : decode cX0_drive 6 = .ok (.ifCond .eq 12, 3) := by decide +kernel
theorem dX0_drive_9 : decode cX0_drive 9 = .ok (.aload_n 0, 1) := by decide +kernel
theorem dX0_drive_10 : decode cX0_drive 10 = .ok (.getfield 50, 3) := by decide +kernel
theorem dX0_drive_13 : decode cX0_drive 13 = .ok (.iload_n 3, 1) := by decide +kernel
theorem dX0_drive_14 : decode cX0_drive 14 = .ok (.ior, 1) := by decide +kernel
theorem dX0_drive_15 : decode cX0_drive 15 = .ok (.goto 11, 3) := by decide +kernel
theorem dX0_drive_18 : decode cX0_drive 18 = .ok (.aload_n 0, 1) := by decide +kernel
theorem dX0_drive_19 : decode cX0_drive 19 = .ok (.getfield 50, 3) := by decide +kernel
theorem dX0_drive_22 : decode cX0_drive 22 = .ok (.iload_n 3, 1) := by decide +kernel
theorem dX0_drive_23 : decode cX0_drive 23 = .ok (.iconst (-1), 1) := by decide +kernel
theorem dX0_drive_24 : decode cX0_drive 24 = .ok (.ixor, 1) := by decide +kernel
theorem dX0_drive_25 : decode cX0_drive 25 = .ok (.iand, 1) := by decide +kernel
theorem dX0_drive_26 : decode cX0_drive 26 = .ok (.putfield 50, 3) := by decide +kernel
theorem dX0_drive_29 : decode cX0_drive 29 = .ok (.aload_n 0, 1) := by decide +kernel
theorem dX0_drive_30 : decode cX0_drive 30 = .ok (.invokevirtual 53, 3) := by decide +kernel
theorem dX0_drive_33 : decode cX0_drive 33 = .ok (.return_, 1) := by decide +kernel
theorem dX0_letWait_0 : decode cX0_letWait 0 = .ok (.aload_n 0, 1) := by decide +kernel
theorem dX0_letWait_1 : decode cX0_letWait 1 = .ok (.dup, 1) := by decide +kernel
theorem dX0_letWait_2 : decode cX0_letWait 2 = .ok (.getfield 27, 3) := by decide +kernel
theorem dX0_letWait_5 : decode cX0_letWait 5 = .ok (.aload_n 0, 1) := by decide +kernel
theorem dX0_letWait_6 : decode cX0_letWait 6 = .ok (.getfield 50, 3) := by decide +kernel
theorem dX0_letWait_9 : decode cX0_letWait 9 = .ok (.aload_n 0, 1) := by decide +kernel
theorem dX0_letWait_10 : decode cX0_letWait 10 = .ok (.getfield 59, 3) := by decide +kernel
theorem dX0_letWait_13 : decode cX0_letWait 13 = .ok (.iconst (-1), 1) := by decide +kernel
theorem dX0_letWait_14 : decode cX0_letWait 14 = .ok (.ixor, 1) := by decide +kernel
theorem dX0_letWait_15 : decode cX0_letWait 15 = .ok (.iand, 1) := by decide +kernel
theorem dX0_letWait_16 : decode cX0_letWait 16 = .ok (.ior, 1) := by decide +kernel
theorem dX0_letWait_17 : decode cX0_letWait 17 = .ok (.putfield 27, 3) := by decide +kernel
theorem dX0_letWait_20 : decode cX0_letWait 20 = .ok (.return_, 1) := by decide +kernel
theorem dX5_room_0 : decode cX5_room 0 = .ok (.aload_n 0, 1) := by decide +kernel
theorem dX5_room_1 : decode cX5_room 1 = .ok (.getfield 32, 3) := by decide +kernel
theorem dX5_room_4 : decode cX5_room 4 = .ok (.getfield 78, 3) := by decide +kernel
theorem dX5_room_7 : decode cX5_room 7 = .ok (.invokevirtual 82, 3) := by decide +kernel
theorem dX5_room_10 : decode cX5_room 10 = .ok (.ireturn, 1) := by decide +kernel
theorem dX5_pass_0 : decode cX5_pass 0 = .ok (.aload_n 0, 1) := by decide +kernel
theorem dX5_pass_1 : decode cX5_pass 1 = .ok (.getfield 18, 3) := by decide +kernel
theorem dX5_pass_4 : decode cX5_pass 4 = .ok (.lload_n 1, 1) := by decide +kernel
theorem dX5_pass_5 : decode cX5_pass 5 = .ok (.invokevirtual 88, 3) := by decide +kernel
theorem dX5_pass_8 : decode cX5_pass 8 = .ok (.return_, 1) := by decide +kernel
theorem dX4_advance_0 : decode cX4_advance 0 = .ok (.aload_n 0, 1) := by decide +kernel
theorem dX4_advance_1 : decode cX4_advance 1 = .ok (.getfield 15, 3) := by decide +kernel
theorem dX4_advance_4 : decode cX4_advance 4 = .ok (.aload_n 0, 1) := by decide +kernel
theorem dX4_advance_5 : decode cX4_advance 5 = .ok (.getfield 19, 3) := by decide +kernel
theorem dX4_advance_8 : decode cX4_advance 8 = .ok (.dup2, 1) := by decide +kernel
theorem dX4_advance_9 : decode cX4_advance 9 = .ok (.laload, 1) := by decide +kernel
theorem dX4_advance_10 : decode cX4_advance 10 = .ok (.lload_n 1, 1) := by decide +kernel
theorem dX4_advance_11 : decode cX4_advance 11 = .ok (.ladd, 1) := by decide +kernel
theorem dX4_advance_12 : decode cX4_advance 12 = .ok (.lastore, 1) := by decide +kernel
theorem dX4_advance_13 : decode cX4_advance 13 = .ok (.return_, 1) := by decide +kernel
theorem dX5_sent_0 : decode cX5_sent 0 = .ok (.aload_n 0, 1) := by decide +kernel
theorem dX5_sent_1 : decode cX5_sent 1 = .ok (.getfield 32, 3) := by decide +kernel
theorem dX5_sent_4 : decode cX5_sent 4 = .ok (.getfield 105, 3) := by decide +kernel
theorem dX5_sent_7 : decode cX5_sent 7 = .ok (.getfield 109, 3) := by decide +kernel
theorem dX5_sent_10 : decode cX5_sent 10 = .ok (.lreturn, 1) := by decide +kernel
theorem dX5_out_0 : decode cX5_out 0 = .ok (.aload_n 0, 1) := by decide +kernel
theorem dX5_out_1 : decode cX5_out 1 = .ok (.getfield 32, 3) := by decide +kernel
theorem dX5_out_4 : decode cX5_out 4 = .ok (.getfield 105, 3) := by decide +kernel
theorem dX5_out_7 : decode cX5_out 7 = .ok (.lload_n 1, 1) := by decide +kernel
theorem dX5_out_8 : decode cX5_out 8 = .ok (.invokevirtual 115, 3) := by decide +kernel
theorem dX5_out_11 : decode cX5_out 11 = .ok (.ireturn, 1) := by decide +kernel
theorem dX2_at_0 : decode cX2_at 0 = .ok (.lload_n 1, 1) := by decide +kernel
theorem dX2_at_1 : decode cX2_at 1 = .ok (.lconst 0, 1) := by decide +kernel
theorem dX2_at_2 : decode cX2_at 2 = .ok (.lcmp, 1) := by decide +kernel
theorem dX2_at_3 : decode cX2_at 3 = .ok (.ifCond .lt 25, 3) := by decide +kernel
theorem dX2_at_6 : decode cX2_at 6 = .ok (.lload_n 1, 1) := by decide +kernel
theorem dX2_at_7 : decode cX2_at 7 = .ok (.aload_n 0, 1) := by decide +kernel
theorem dX2_at_8 : decode cX2_at 8 = .ok (.getfield 13, 3) := by decide +kernel
theorem dX2_at_11 : decode cX2_at 11 = .ok (.lcmp, 1) := by decide +kernel
theorem dX2_at_12 : decode cX2_at 12 = .ok (.ifCond .ge 16, 3) := by decide +kernel
theorem dX2_at_15 : decode cX2_at 15 = .ok (.aload_n 0, 1) := by decide +kernel
theorem dX2_at_16 : decode cX2_at 16 = .ok (.getfield 13, 3) := by decide +kernel
theorem dX2_at_19 : decode cX2_at 19 = .ok (.lload_n 1, 1) := by decide +kernel
theorem dX2_at_20 : decode cX2_at 20 = .ok (.lsub, 1) := by decide +kernel
theorem dX2_at_21 : decode cX2_at 21 = .ok (.ldc2_w 19, 3) := by decide +kernel
theorem dX2_at_24 : decode cX2_at 24 = .ok (.lcmp, 1) := by decide +kernel
theorem dX2_at_25 : decode cX2_at 25 = .ok (.ifCond .le 5, 3) := by decide +kernel
theorem dX2_at_28 : decode cX2_at 28 = .ok (.iconst (-1), 1) := by decide +kernel
theorem dX2_at_29 : decode cX2_at 29 = .ok (.ireturn, 1) := by decide +kernel
theorem dX2_at_30 : decode cX2_at 30 = .ok (.aload_n 0, 1) := by decide +kernel
theorem dX2_at_31 : decode cX2_at 31 = .ok (.getfield 9, 3) := by decide +kernel
theorem dX2_at_34 : decode cX2_at 34 = .ok (.lload_n 1, 1) := by decide +kernel
theorem dX2_at_35 : decode cX2_at 35 = .ok (.ldc2_w 17, 3) := by decide +kernel
theorem dX2_at_38 : decode cX2_at 38 = .ok (.land, 1) := by decide +kernel
theorem dX2_at_39 : decode cX2_at 39 = .ok (.l2i, 1) := by decide +kernel
theorem dX2_at_40 : decode cX2_at 40 = .ok (.baload, 1) := by decide +kernel
theorem dX2_at_41 : decode cX2_at 41 = .ok (.sipush 255, 3) := by decide +kernel
theorem dX2_at_44 : decode cX2_at 44 = .ok (.iand, 1) := by decide +kernel
theorem dX2_at_45 : decode cX2_at 45 = .ok (.ireturn, 1) := by decide +kernel
theorem dX5_read_0 : decode cX5_read 0 = .ok (.iload_n 1, 1) := by decide +kernel
theorem dX5_read_1 : decode cX5_read 1 = .ok (.lload_n 2, 1) := by decide +kernel
theorem dX5_read_2 : decode cX5_read 2 = .ok (.iload 4, 2) := by decide +kernel
theorem dX5_read_4 : decode cX5_read 4 = .ok (.invokestatic 36, 3) := by decide +kernel
theorem dX5_read_7 : decode cX5_read 7 = .ok (.ifCond .ne 13, 3) := by decide +kernel
theorem dX5_read_10 : decode cX5_read 10 = .ok (.new 40, 3) := by decide +kernel
theorem dX5_read_13 : decode cX5_read 13 = .ok (.dup, 1) := by decide +kernel
theorem dX5_read_14 : decode cX5_read 14 = .ok (.ldc 42, 2) := by decide +kernel
theorem dX5_read_16 : decode cX5_read 16 = .ok (.invokespecial 44, 3) := by decide +kernel
theorem dX5_read_19 : decode cX5_read 19 = .ok (.athrow, 1) := by decide +kernel
theorem dX5_read_20 : decode cX5_read 20 = .ok (.iload_n 1, 1) := by decide +kernel
theorem dX5_read_21 : decode cX5_read 21 = .ok (.ifCond .ne 14, 3) := by decide +kernel
theorem dX5_read_24 : decode cX5_read 24 = .ok (.aload_n 0, 1) := by decide +kernel
theorem dX5_read_25 : decode cX5_read 25 = .ok (.getfield 18, 3) := by decide +kernel
theorem dX5_read_28 : decode cX5_read 28 = .ok (.lload_n 2, 1) := by decide +kernel
theorem dX5_read_29 : decode cX5_read 29 = .ok (.iload 4, 2) := by decide +kernel
theorem dX5_read_31 : decode cX5_read 31 = .ok (.invokevirtual 47, 3) := by decide +kernel
theorem dX5_read_34 : decode cX5_read 34 = .ok (.lreturn, 1) := by decide +kernel
theorem dX5_read_35 : decode cX5_read 35 = .ok (.iload_n 1, 1) := by decide +kernel
theorem dX5_read_36 : decode cX5_read 36 = .ok (.iconst 1, 1) := by decide +kernel
theorem dX5_read_37 : decode cX5_read 37 = .ok (.if_icmp .ne 14, 3) := by decide +kernel
theorem dX5_read_40 : decode cX5_read 40 = .ok (.aload_n 0, 1) := by decide +kernel
theorem dX5_read_41 : decode cX5_read 41 = .ok (.getfield 25, 3) := by decide +kernel
theorem dX5_read_44 : decode cX5_read 44 = .ok (.lload_n 2, 1) := by decide +kernel
theorem dX5_read_45 : decode cX5_read 45 = .ok (.iload 4, 2) := by decide +kernel
theorem dX5_read_47 : decode cX5_read 47 = .ok (.invokevirtual 51, 3) := by decide +kernel
theorem dX5_read_50 : decode cX5_read 50 = .ok (.lreturn, 1) := by decide +kernel
theorem dX5_read_51 : decode cX5_read 51 = .ok (.aload_n 0, 1) := by decide +kernel
theorem dX5_read_52 : decode cX5_read 52 = .ok (.getfield 32, 3) := by decide +kernel
theorem dX5_read_55 : decode cX5_read 55 = .ok (.lload_n 2, 1) := by decide +kernel
theorem dX5_read_56 : decode cX5_read 56 = .ok (.iload 4, 2) := by decide +kernel
theorem dX5_read_58 : decode cX5_read 58 = .ok (.invokevirtual 52, 3) := by decide +kernel
theorem dX5_read_61 : decode cX5_read 61 = .ok (.istore 5, 2) := by decide +kernel
theorem dX5_read_63 : decode cX5_read 63 = .ok (.aload_n 0, 1) := by decide +kernel
theorem dX5_read_64 : decode cX5_read 64 = .ok (.invokevirtual 55, 3) := by decide +kernel
theorem dX5_read_67 : decode cX5_read 67 = .ok (.iload 5, 2) := by decide +kernel
theorem dX5_read_69 : decode cX5_read 69 = .ok (.i2l, 1) := by decide +kernel
theorem dX5_read_70 : decode cX5_read 70 = .ok (.lreturn, 1) := by decide +kernel
theorem dX5_canAccess_0 : decode cX5_canAccess 0 = .ok (.iload_n 3, 1) := by decide +kernel
theorem dX5_canAccess_1 : decode cX5_canAccess 1 = .ok (.iconst 1, 1) := by decide +kernel
theorem dX5_canAccess_2 : decode cX5_canAccess 2 = .ok (.if_icmp .eq 19, 3) := by decide +kernel
theorem dX5_canAccess_5 : decode cX5_canAccess 5 = .ok (.iload_n 3, 1) := by decide +kernel
theorem dX5_canAccess_6 : decode cX5_canAccess 6 = .ok (.iconst 2, 1) := by decide +kernel
theorem dX5_canAccess_7 : decode cX5_canAccess 7 = .ok (.if_icmp .eq 14, 3) := by decide +kernel
theorem dX5_canAccess_10 : decode cX5_canAccess 10 = .ok (.iload_n 3, 1) := by decide +kernel
theorem dX5_canAccess_11 : decode cX5_canAccess 11 = .ok (.iconst 4, 1) := by decide +kernel
theorem dX5_canAccess_12 : decode cX5_canAccess 12 = .ok (.if_icmp .eq 9, 3) := by decide +kernel
theorem dX5_canAccess_15 : decode cX5_canAccess 15 = .ok (.iload_n 3, 1) := by decide +kernel
theorem dX5_canAccess_16 : decode cX5_canAccess 16 = .ok (.bipush 8, 2) := by decide +kernel
theorem dX5_canAccess_18 : decode cX5_canAccess 18 = .ok (.if_icmp .ne 7, 3) := by decide +kernel
theorem dX5_canAccess_21 : decode cX5_canAccess 21 = .ok (.iconst 1, 1) := by decide +kernel
theorem dX5_canAccess_22 : decode cX5_canAccess 22 = .ok (.goto 4, 3) := by decide +kernel
theorem dX5_canAccess_25 : decode cX5_canAccess 25 = .ok (.iconst 0, 1) := by decide +kernel
theorem dX5_canAccess_26 : decode cX5_canAccess 26 = .ok (.istore 4, 2) := by decide +kernel
theorem dX5_canAccess_28 : decode cX5_canAccess 28 = .ok (.iload 4, 2) := by decide +kernel
theorem dX5_canAccess_30 : decode cX5_canAccess 30 = .ok (.ifCond .eq 22, 3) := by decide +kernel
theorem dX5_canAccess_33 : decode cX5_canAccess 33 = .ok (.lload_n 1, 1) := by decide +kernel
theorem dX5_canAccess_34 : decode cX5_canAccess 34 = .ok (.lconst 0, 1) := by decide +kernel
theorem dX5_canAccess_35 : decode cX5_canAccess 35 = .ok (.lcmp, 1) := by decide +kernel
theorem dX5_canAccess_36 : decode cX5_canAccess 36 = .ok (.ifCond .lt 16, 3) := by decide +kernel
theorem dX5_canAccess_39 : decode cX5_canAccess 39 = .ok (.iload_n 0, 1) := by decide +kernel
theorem dX5_canAccess_40 : decode cX5_canAccess 40 = .ok (.ifCond .lt 12, 3) := by decide +kernel
theorem dX5_canAccess_43 : decode cX5_canAccess 43 = .ok (.iload_n 0, 1) := by decide +kernel
theorem dX5_canAccess_44 : decode cX5_canAccess 44 = .ok (.iconst 2, 1) := by decide +kernel
theorem dX5_canAccess_45 : decode cX5_canAccess 45 = .ok (.if_icmp .gt 7, 3) := by decide +kernel
theorem dX5_canAccess_48 : decode cX5_canAccess 48 = .ok (.iconst 1, 1) := by decide +kernel
theorem dX5_canAccess_49 : decode cX5_canAccess 49 = .ok (.goto 4, 3) := by decide +kernel
theorem dX5_canAccess_52 : decode cX5_canAccess 52 = .ok (.iconst 0, 1) := by decide +kernel
theorem dX5_canAccess_53 : decode cX5_canAccess 53 = .ok (.ireturn, 1) := by decide +kernel
theorem dX4_load_0 : decode cX4_load 0 = .ok (.aload_n 0, 1) := by decide +kernel
theorem dX4_load_1 : decode cX4_load 1 = .ok (.lload_n 1, 1) := by decide +kernel
theorem dX4_load_2 : decode cX4_load 2 = .ok (.iload_n 3, 1) := by decide +kernel
theorem dX4_load_3 : decode cX4_load 3 = .ok (.invokevirtual 31, 3) := by decide +kernel
theorem dX4_load_6 : decode cX4_load 6 = .ok (.istore 4, 2) := by decide +kernel
theorem dX4_load_8 : decode cX4_load 8 = .ok (.iload 4, 2) := by decide +kernel
theorem dX4_load_10 : decode cX4_load 10 = .ok (.ifCond .lt 12, 3) := by decide +kernel
theorem dX4_load_13 : decode cX4_load 13 = .ok (.aload_n 0, 1) := by decide +kernel
theorem dX4_load_14 : decode cX4_load 14 = .ok (.getfield 9, 3) := by decide +kernel
theorem dX4_load_17 : decode cX4_load 17 = .ok (.iload 4, 2) := by decide +kernel
theorem dX4_load_19 : decode cX4_load 19 = .ok (.iaload, 1) := by decide +kernel
theorem dX4_load_20 : decode cX4_load 20 = .ok (.i2l, 1) := by decide +kernel
theorem dX4_load_21 : decode cX4_load 21 = .ok (.lreturn, 1) := by decide +kernel
theorem dX4_load_22 : decode cX4_load 22 = .ok (.aload_n 0, 1) := by decide +kernel
theorem dX4_load_23 : decode cX4_load 23 = .ok (.lload_n 1, 1) := by decide +kernel
theorem dX4_load_24 : decode cX4_load 24 = .ok (.iload_n 3, 1) := by decide +kernel
theorem dX4_load_25 : decode cX4_load 25 = .ok (.invokevirtual 35, 3) := by decide +kernel
theorem dX4_load_28 : decode cX4_load 28 = .ok (.istore 5, 2) := by decide +kernel
theorem dX4_load_30 : decode cX4_load 30 = .ok (.iload 5, 2) := by decide +kernel
theorem dX4_load_32 : decode cX4_load 32 = .ok (.ifCond .ge 5, 3) := by decide +kernel
theorem dX4_load_35 : decode cX4_load 35 = .ok (.lconst 0, 1) := by decide +kernel
theorem dX4_load_36 : decode cX4_load 36 = .ok (.lreturn, 1) := by decide +kernel
theorem dX4_load_37 : decode cX4_load 37 = .ok (.iload_n 3, 1) := by decide +kernel
theorem dX4_load_38 : decode cX4_load 38 = .ok (.bipush 8, 2) := by decide +kernel
theorem dX4_load_40 : decode cX4_load 40 = .ok (.if_icmp .ne 11, 3) := by decide +kernel
theorem dX4_load_43 : decode cX4_load 43 = .ok (.aload_n 0, 1) := by decide +kernel
theorem dX4_load_44 : decode cX4_load 44 = .ok (.getfield 15, 3) := by decide +kernel
theorem dX4_load_47 : decode cX4_load 47 = .ok (.iload 5, 2) := by decide +kernel
theorem dX4_load_49 : decode cX4_load 49 = .ok (.laload, 1) := by decide +kernel
theorem dX4_load_50 : decode cX4_load 50 = .ok (.lreturn, 1) := by decide +kernel
theorem dX4_load_51 : decode cX4_load 51 = .ok (.lload_n 1, 1) := by decide +kernel
theorem dX4_load_52 : decode cX4_load 52 = .ok (.invokestatic 38, 3) := by decide +kernel
theorem dX4_load_55 : decode cX4_load 55 = .ok (.ifCond .eq 16, 3) := by decide +kernel
theorem dX4_load_58 : decode cX4_load 58 = .ok (.aload_n 0, 1) := by decide +kernel
theorem dX4_load_59 : decode cX4_load 59 = .ok (.getfield 15, 3) := by decide +kernel
theorem dX4_load_62 : decode cX4_load 62 = .ok (.iload 5, 2) := by decide +kernel
theorem dX4_load_64 : decode cX4_load 64 = .ok (.laload, 1) := by decide +kernel
theorem dX4_load_65 : decode cX4_load 65 = .ok (.bipush 32, 2) := by decide +kernel
theorem dX4_load_67 : decode cX4_load 67 = .ok (.lushr, 1) := by decide +kernel
theorem dX4_load_68 : decode cX4_load 68 = .ok (.goto 14, 3) := by decide +kernel
theorem dX4_load_71 : decode cX4_load 71 = .ok (.aload_n 0, 1) := by decide +kernel
theorem dX4_load_72 : decode cX4_load 72 = .ok (.getfield 15, 3) := by decide +kernel
theorem dX4_load_75 : decode cX4_load 75 = .ok (.iload 5, 2) := by decide +kernel
theorem dX4_load_77 : decode cX4_load 77 = .ok (.laload, 1) := by decide +kernel
theorem dX4_load_78 : decode cX4_load 78 = .ok (.ldc2_w 42, 3) := by decide +kernel
theorem dX4_load_81 : decode cX4_load 81 = .ok (.land, 1) := by decide +kernel
theorem dX4_load_82 : decode cX4_load 82 = .ok (.lreturn, 1) := by decide +kernel

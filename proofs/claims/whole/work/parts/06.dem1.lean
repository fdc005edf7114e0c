/-! decode rows -/
theorem dX6_claim_0 : decode cX6_claim 0 = .ok (.aload_n 0, 1) := by decide +kernel
theorem dX6_claim_1 : decode cX6_claim 1 = .ok (.iload_n 1, 1) := by decide +kernel
theorem dX6_claim_2 : decode cX6_claim 2 = .ok (.invokevirtual 91, 3) := by decide +kernel
theorem dX6_claim_5 : decode cX6_claim 5 = .ok (.istore_n 2, 1) := by decide +kernel
theorem dX6_claim_6 : decode cX6_claim 6 = .ok (.iload_n 2, 1) := by decide +kernel
theorem dX6_claim_7 : decode cX6_claim 7 = .ok (.ifCond .le 17, 3) := by decide +kernel
theorem dX6_claim_10 : decode cX6_claim 10 = .ok (.aload_n 0, 1) := by decide +kernel
theorem dX6_claim_11 : decode cX6_claim 11 = .ok (.getfield 20, 3) := by decide +kernel
theorem dX6_claim_14 : decode cX6_claim 14 = .ok (.iload_n 2, 1) := by decide +kernel
theorem dX6_claim_15 : decode cX6_claim 15 = .ok (.iconst 0, 1) := by decide +kernel
theorem dX6_claim_16 : decode cX6_claim 16 = .ok (.bastore, 1) := by decide +kernel
theorem dX6_claim_17 : decode cX6_claim 17 = .ok (.aload_n 0, 1) := by decide +kernel
theorem dX6_claim_18 : decode cX6_claim 18 = .ok (.getfield 23, 3) := by decide +kernel
theorem dX6_claim_21 : decode cX6_claim 21 = .ok (.iload_n 2, 1) := by decide +kernel
theorem dX6_claim_22 : decode cX6_claim 22 = .ok (.iconst 1, 1) := by decide +kernel
theorem dX6_claim_23 : decode cX6_claim 23 = .ok (.bastore, 1) := by decide +kernel
theorem dX6_claim_24 : decode cX6_claim 24 = .ok (.iload_n 2, 1) := by decide +kernel
theorem dX6_claim_25 : decode cX6_claim 25 = .ok (.i2l, 1) := by decide +kernel
theorem dX6_claim_26 : decode cX6_claim 26 = .ok (.lreturn, 1) := by decide +kernel
theorem dX6_best_0 : decode cX6_best 0 = .ok (.iconst 0, 1) := by decide +kernel
theorem dX6_best_1 : decode cX6_best 1 = .ok (.istore_n 2, 1) := by decide +kernel
theorem dX6_best_2 : decode cX6_best 2 = .ok (.bipush 31, 2) := by decide +kernel
theorem dX6_best_4 : decode cX6_best 4 = .ok (.istore_n 3, 1) := by decide +kernel
theorem dX6_best_5 : decode cX6_best 5 = .ok (.iload_n 3, 1) := by decide +kernel
theorem dX6_best_6 : decode cX6_best 6 = .ok (.ifCond .le 73, 3) := by decide +kernel
theorem dX6_best_9 : decode cX6_best 9 = .ok (.aload_n 0, 1) := by decide +kernel
theorem dX6_best_10 : decode cX6_best 10 = .ok (.getfield 20, 3) := by decide +kernel
theorem dX6_best_13 : decode cX6_best 13 = .ok (.iload_n 3, 1) := by decide +kernel
theorem dX6_best_14 : decode cX6_best 14 = .ok (.baload, 1) := by decide +kernel
theorem dX6_best_15 : decode cX6_best 15 = .ok (.ifCond .eq 25, 3) := by decide +kernel
theorem dX6_best_18 : decode cX6_best 18 = .ok (.aload_n 0, 1) := by decide +kernel
theorem dX6_best_19 : decode cX6_best 19 = .ok (.iload_n 1, 1) := by decide +kernel
theorem dX6_best_20 : decode cX6_best 20 = .ok (.iload_n 3, 1) := by decide +kernel
theorem dX6_best_21 : decode cX6_best 21 = .ok (.invokevirtual 87, 3) := by decide +kernel
theorem dX6_best_24 : decode cX6_best 24 = .ok (.ifCond .eq 16, 3) := by decide +kernel
theorem dX6_best_27 : decode cX6_best 27 = .ok (.aload_n 0, 1) := by decide +kernel
theorem dX6_best_28 : decode cX6_best 28 = .ok (.getfield 26, 3) := by decide +kernel
theorem dX6_best_31 : decode cX6_best 31 = .ok (.iload_n 3, 1) := by decide +kernel
theorem dX6_best_32 : decode cX6_best 32 = .ok (.iaload, 1) := by decide +kernel
theorem dX6_best_33 : decode cX6_best 33 = .ok (.ifCond .le 7, 3) := by decide +kernel
theorem dX6_best_36 : decode cX6_best 36 = .ok (.iconst 1, 1) := by decide +kernel
theorem dX6_best_37 : decode cX6_best 37 = .ok (.goto 4, 3) := by decide +kernel
theorem dX6_best_40 : decode cX6_best 40 = .ok (.iconst 0, 1) := by decide +kernel
theorem dX6_best_41 : decode cX6_best 41 = .ok (.istore 4, 2) := by decide +kernel
theorem dX6_best_43 : decode cX6_best 43 = .ok (.iload 4, 2) := by decide +kernel
theorem dX6_best_45 : decode cX6_best 45 = .ok (.ifCond .eq 26, 3) := by decide +kernel
theorem dX6_best_48 : decode cX6_best 48 = .ok (.iload_n 2, 1) := by decide +kernel
theorem dX6_best_49 : decode cX6_best 49 = .ok (.ifCond .eq 18, 3) := by decide +kernel
theorem dX6_best_52 : decode cX6_best 52 = .ok (.aload_n 0, 1) := by decide +kernel
theorem dX6_best_53 : decode cX6_best 53 = .ok (.getfield 26, 3) := by decide +kernel
theorem dX6_best_56 : decode cX6_best 56 = .ok (.iload_n 3, 1) := by decide +kernel
theorem dX6_best_57 : decode cX6_best 57 = .ok (.iaload, 1) := by decide +kernel
theorem dX6_best_58 : decode cX6_best 58 = .ok (.aload_n 0, 1) := by decide +kernel
theorem dX6_best_59 : decode cX6_best 59 = .ok (.getfield 26, 3) := by decide +kernel
theorem dX6_best_62 : decode cX6_best 62 = .ok (.iload_n 2, 1) := by decide +kernel
theorem dX6_best_63 : decode cX6_best 63 = .ok (.iaload, 1) := by decide +kernel
theorem dX6_best_64 : decode cX6_best 64 = .ok (.if_icmp .lt 7, 3) := by decide +kernel
theorem dX6_best_67 : decode cX6_best 67 = .ok (.iload_n 3, 1) := by decide +kernel
theorem dX6_best_68 : decode cX6_best 68 = .ok (.goto 4, 3) := by decide +kernel
theorem dX6_best_71 : decode cX6_best 71 = .ok (.iload_n 2, 1) := by decide +kernel
theorem dX6_best_72 : decode cX6_best 72 = .ok (.istore_n 2, 1) := by decide +kernel
theorem dX6_best_73 : decode cX6_best 73 = .ok (.iinc 3 (-1), 3) := by decide +kernel
theorem dX6_best_76 : decode cX6_best 76 = .ok (.goto (-71), 3) := by decide +kernel
theorem dX6_best_79 : decode cX6_best 79 = .ok (.iload_n 2, 1) := by decide +kernel
theorem dX6_best_80 : decode cX6_best 80 = .ok (.ireturn, 1) := by decide +kernel
theorem dX6_enables_0 : decode cX6_enables 0 = .ok (.aload_n 0, 1) := by decide +kernel
theorem dX6_enables_1 : decode cX6_enables 1 = .ok (.getfield 30, 3) := by decide +kernel
theorem dX6_enables_4 : decode cX6_enables 4 = .ok (.iload_n 1, 1) := by decide +kernel
theorem dX6_enables_5 : decode cX6_enables 5 = .ok (.iaload, 1) := by decide +kernel
theorem dX6_enables_6 : decode cX6_enables 6 = .ok (.iload_n 2, 1) := by decide +kernel
theorem dX6_enables_7 : decode cX6_enables 7 = .ok (.ishr, 1) := by decide +kernel
theorem dX6_enables_8 : decode cX6_enables 8 = .ok (.iconst 1, 1) := by decide +kernel
theorem dX6_enables_9 : decode cX6_enables 9 = .ok (.iand, 1) := by decide +kernel
theorem dX6_enables_10 : decode cX6_enables 10 = .ok (.iconst 1, 1) := by decide +kernel
theorem dX6_enables_11 : decode cX6_enables 11 = .ok (.if_icmp .ne 7, 3) := by decide +kernel
theorem dX6_enables_14 : decode cX6_enables 14 = .ok (.iconst 1, 1) := by decide +kernel
theorem dX6_enables_15 : decode cX6_enables 15 = .ok (.goto 4, 3) := by decide +kernel
theorem dX6_enables_18 : decode cX6_enables 18 = .ok (.iconst 0, 1) := by decide +kernel
theorem dX6_enables_19 : decode cX6_enables 19 = .ok (.ireturn, 1) := by decide +kernel
theorem dX6_readSerial_0 : decode cX6_readSerial 0 = .ok (.iload_n 1, 1) := by decide +kernel
theorem dX6_readSerial_1 : decode cX6_readSerial 1 = .ok (.iconst 2, 1) := by decide +kernel
theorem dX6_readSerial_2 : decode cX6_readSerial 2 = .ok (.if_icmp .ge 21, 3) := by decide +kernel
theorem dX6_readSerial_5 : decode cX6_readSerial 5 = .ok (.aload_n 0, 1) := by decide +kernel
theorem dX6_readSerial_6 : decode cX6_readSerial 6 = .ok (.iconst 3, 1) := by decide +kernel
theorem dX6_readSerial_7 : decode cX6_readSerial 7 = .ok (.bipush 7, 2) := by decide +kernel
theorem dX6_readSerial_9 : decode cX6_readSerial 9 = .ok (.invokevirtual 124, 3) := by decide +kernel
theorem dX6_readSerial_12 : decode cX6_readSerial 12 = .ok (.ifCond .eq 11, 3) := by decide +kernel
theorem dX6_readSerial_15 : decode cX6_readSerial 15 = .ok (.aload_n 0, 1) := by decide +kernel
theorem dX6_readSerial_16 : decode cX6_readSerial 16 = .ok (.getfield 39, 3) := by decide +kernel
theorem dX6_readSerial_19 : decode cX6_readSerial 19 = .ok (.iload_n 1, 1) := by decide +kernel
theorem dX6_readSerial_20 : decode cX6_readSerial 20 = .ok (.iaload, 1) := by decide +kernel
theorem dX6_readSerial_21 : decode cX6_readSerial 21 = .ok (.i2l, 1) := by decide +kernel
theorem dX6_readSerial_22 : decode cX6_readSerial 22 = .ok (.lreturn, 1) := by decide +kernel
theorem dX6_readSerial_23 : decode cX6_readSerial 23 = .ok (.iload_n 1, 1) := by decide +kernel
theorem dX6_readSerial_24 : decode cX6_readSerial 24 = .ok (.tableswitch 83 0 6 #[44, 83, 50, 83, 83, 56, 62], 44) := by decide +kernel
theorem dX6_readSerial_68 : decode cX6_readSerial 68 = .ok (.aload_n 0, 1) := by decide +kernel
theorem dX6_readSerial_69 : decode cX6_readSerial 69 = .ok (.invokevirtual 147, 3) := by decide +kernel
theorem dX6_readSerial_72 : decode cX6_readSerial 72 = .ok (.i2l, 1) := by decide +kernel
theorem dX6_readSerial_73 : decode cX6_readSerial 73 = .ok (.lreturn, 1) := by decide +kernel
theorem dX6_readSerial_74 : decode cX6_readSerial 74 = .ok (.aload_n 0, 1) := by decide +kernel
theorem dX6_readSerial_75 : decode cX6_readSerial 75 = .ok (.invokevirtual 150, 3) := by decide +kernel
theorem dX6_readSerial_78 : decode cX6_readSerial 78 = .ok (.i2l, 1) := by decide +kernel
theorem dX6_readSerial_79 : decode cX6_readSerial 79 = .ok (.lreturn, 1) := by decide +kernel
theorem dX6_readSerial_80 : decode cX6_readSerial 80 = .ok (.aload_n 0, 1) := by decide +kernel
theorem dX6_readSerial_81 : decode cX6_readSerial 81 = .ok (.invokevirtual 153, 3) := by decide +kernel
theorem dX6_readSerial_84 : decode cX6_readSerial 84 = .ok (.i2l, 1) := by decide +kernel
theorem dX6_readSerial_85 : decode cX6_readSerial 85 = .ok (.lreturn, 1) := by decide +kernel
theorem dX6_readSerial_86 : decode cX6_readSerial 86 = .ok (.aload_n 0, 1) := by decide +kernel
theorem dX6_readSerial_87 : decode cX6_readSerial 87 = .ok (.iconst 4, 1) := by decide +kernel
theorem dX6_readSerial_88 : decode cX6_readSerial 88 = .ok (.iconst 4, 1) := by decide +kernel
theorem dX6_readSerial_89 : decode cX6_readSerial 89 = .ok (.invokevirtual 124, 3) := by decide +kernel
theorem dX6_readSerial_92 : decode cX6_readSerial 92 = .ok (.ifCond .eq 11, 3) := by decide +kernel
theorem dX6_readSerial_95 : decode cX6_readSerial 95 = .ok (.aload_n 0, 1) := by decide +kernel
theorem dX6_readSerial_96 : decode cX6_readSerial 96 = .ok (.invokevirtual 156, 3) := by decide +kernel
theorem dX6_readSerial_99 : decode cX6_readSerial 99 = .ok (.i2l, 1) := by decide +kernel
theorem dX6_readSerial_100 : decode cX6_readSerial 100 = .ok (.goto 6, 3) := by decide +kernel
theorem dX6_readSerial_103 : decode cX6_readSerial 103 = .ok (.ldc2_w 159, 3) := by decide +kernel
theorem dX6_readSerial_106 : decode cX6_readSerial 106 = .ok (.lreturn, 1) := by decide +kernel
theorem dX6_readSerial_107 : decode cX6_readSerial 107 = .ok (.aload_n 0, 1) := by decide +kernel
theorem dX6_readSerial_108 : decode cX6_readSerial 108 = .ok (.getfield 36, 3) := by decide +kernel
theorem dX6_readSerial_111 : decode cX6_readSerial 111 = .ok (.iload_n 1, 1) := by decide +kernel
theorem dX6_readSerial_112 : decode cX6_readSerial 112 = .ok (.iaload, 1) := by decide +kernel
theorem dX6_readSerial_113 : decode cX6_readSerial 113 = .ok (.i2l, 1) := by decide +kernel
theorem dX6_readSerial_114 : decode cX6_readSerial 114 = .ok (.lreturn, 1) := by decide +kernel
theorem dX6_hasBit_0 : decode cX6_hasBit 0 = .ok (.aload_n 0, 1) := by decide +kernel
theorem dX6_hasBit_1 : decode cX6_hasBit 1 = .ok (.getfield 36, 3) := by decide +kernel
theorem dX6_hasBit_4 : decode cX6_hasBit 4 = .ok (.iload_n 1, 1) := by decide +kernel
theorem dX6_hasBit_5 : decode cX6_hasBit 5 = .ok (.iaload, 1) := by decide +kernel
theorem dX6_hasBit_6 : decode cX6_hasBit 6 = .ok (.iload_n 2, 1) := by decide +kernel
theorem dX6_hasBit_7 : decode cX6_hasBit 7 = .ok (.ishr, 1) := by decide +kernel
theorem dX6_hasBit_8 : decode cX6_hasBit 8 = .ok (.iconst 1, 1) := by decide +kernel
theorem dX6_hasBit_9 : decode cX6_hasBit 9 = .ok (.iand, 1) := by decide +kernel
theorem dX6_hasBit_10 : decode cX6_hasBit 10 = .ok (.iconst 1, 1) := by decide +kernel
theorem dX6_hasBit_11 : decode cX6_hasBit 11 = .ok (.if_icmp .ne 7, 3) := by decide +kernel
theorem dX6_hasBit_14 : decode cX6_hasBit 14 = .ok (.iconst 1, 1) := by decide +kernel
theorem dX6_hasBit_15 : decode cX6_hasBit 15 = .ok (.goto 4, 3) := by decide +kernel
theorem dX6_hasBit_18 : decode cX6_hasBit 18 = .ok (.iconst 0, 1) := by decide +kernel
theorem dX6_hasBit_19 : decode cX6_hasBit 19 = .ok (.ireturn, 1) := by decide +kernel
theorem dX6_takeOut_0 : decode cX6_takeOut 0 = .ok (.aload_n 0, 1) := by decide +kernel
theorem dX6_takeOut_1 : decode cX6_takeOut 1 = .ok (.getfield 131, 3) := by decide +kernel
theorem dX6_takeOut_4 : decode cX6_takeOut 4 = .ok (.ifCond .ne 5, 3) := by decide +kernel
theorem dX6_takeOut_7 : decode cX6_takeOut 7 = .ok (.iconst 0, 1) := by decide +kernel
theorem dX6_takeOut_8 : decode cX6_takeOut 8 = .ok (.ireturn, 1) := by decide +kernel
theorem dX6_takeOut_9 : decode cX6_takeOut 9 = .ok (.aload_n 0, 1) := by decide +kernel
theorem dX6_takeOut_10 : decode cX6_takeOut 10 = .ok (.getfield 42, 3) := by decide +kernel
theorem dX6_takeOut_13 : decode cX6_takeOut 13 = .ok (.iconst 0, 1) := by decide +kernel
theorem dX6_takeOut_14 : decode cX6_takeOut 14 = .ok (.iaload, 1) := by decide +kernel
theorem dX6_takeOut_15 : decode cX6_takeOut 15 = .ok (.istore_n 1, 1) := by decide +kernel
theorem dX6_takeOut_16 : decode cX6_takeOut 16 = .ok (.aload_n 0, 1) := by decide +kernel
theorem dX6_takeOut_17 : decode cX6_takeOut 17 = .ok (.aload_n 0, 1) := by decide +kernel
theorem dX6_takeOut_18 : decode cX6_takeOut 18 = .ok (.getfield 131, 3) := by decide +kernel
theorem dX6_takeOut_21 : decode cX6_takeOut 21 = .ok (.iconst 1, 1) := by decide +kernel
theorem dX6_takeOut_22 : decode cX6_takeOut 22 = .ok (.isub, 1) := by decide +kernel
theorem dX6_takeOut_23 : decode cX6_takeOut 23 = .ok (.putfield 131, 3) := by decide +kernel
theorem dX6_takeOut_26 : decode cX6_takeOut 26 = .ok (.iconst 0, 1) := by decide +kernel
theorem dX6_takeOut_27 : decode cX6_takeOut 27 = .ok (.istore_n 2, 1) := by decide +kernel
theorem dX6_takeOut_28 : decode cX6_takeOut 28 = .ok (.iload_n 2, 1) := by decide +kernel
theorem dX6_takeOut_29 : decode cX6_takeOut 29 = .ok (.aload_n 0, 1) := by decide +kernel
theorem dX6_takeOut_30 : decode cX6_takeOut 30 = .ok (.getfield 131, 3) := by decide +kernel
theorem dX6_takeOut_33 : decode cX6_takeOut 33 = .ok (.if_icmp .ge 23, 3) := by decide +kernel
theorem dX6_takeOut_36 : decode cX6_takeOut 36 = .ok (.aload_n 0, 1) := by decide +kernel
theorem dX6_takeOut_37 : decode cX6_takeOut 37 = .ok (.getfield 42, 3) := by decide +kernel
theorem dX6_takeOut_40 : decode cX6_takeOut 40 = .ok (.iload_n 2, 1) := by decide +kernel
theorem dX6_takeOut_41 : decode cX6_takeOut 41 = .ok (.aload_n 0, 1) := by decide +kernel
theorem dX6_takeOut_42 : decode cX6_takeOut 42 = .ok (.getfield 42, 3) := by decide +kernel
theorem dX6_takeOut_45 : decode cX6_takeOut 45 = .ok (.iload_n 2, 1) := by decide +kernel
theorem dX6_takeOut_46 : decode cX6_takeOut 46 = .ok (.iconst 1, 1) := by decide +kernel
theorem dX6_takeOut_47 : decode cX6_takeOut 47 = .ok (.iadd, 1) := by decide +kernel
theorem dX6_takeOut_48 : decode cX6_takeOut 48 = .ok (.iaload, 1) := by decide +kernel
theorem dX6_takeOut_49 : decode cX6_takeOut 49 = .ok (.iastore, 1) := by decide +kernel
theorem dX6_takeOut_50 : decode cX6_takeOut 50 = .ok (.iinc 2 1, 3) := by decide +kernel
theorem dX6_takeOut_53 : decode cX6_takeOut 53 = .ok (.goto (-25), 3) := by decide +kernel
theorem dX6_takeOut_56 : decode cX6_takeOut 56 = .ok (.iload_n 1, 1) := by decide +kernel
theorem dX6_takeOut_57 : decode cX6_takeOut 57 = .ok (.ireturn, 1) := by decide +kernel
theorem dX6_readCause_0 : decode cX6_readCause 0 = .ok (.aload_n 0, 1) := by decide +kernel
theorem dX6_readCause_1 : decode cX6_readCause 1 = .ok (.invokevirtual 144, 3) := by decide +kernel
theorem dX6_readCause_4 : decode cX6_readCause 4 = .ok (.istore_n 1, 1) := by decide +kernel
theorem dX6_readCause_5 : decode cX6_readCause 5 = .ok (.aload_n 0, 1) := by decide +kernel
theorem dX6_readCause_6 : decode cX6_readCause 6 = .ok (.iload_n 1, 1) := by decide +kernel
theorem dX6_readCause_7 : decode cX6_readCause 7 = .ok (.iconst 2, 1) := by decide +kernel
theorem dX6_readCause_8 : decode cX6_readCause 8 = .ok (.if_icmp .ne 7, 3) := by decide +kernel
theorem dX6_readCause_11 : decode cX6_readCause 11 = .ok (.iconst 0, 1) := by decide +kernel
theorem dX6_readCause_12 : decode cX6_readCause 12 = .ok (.goto 7, 3) := by decide +kernel
theorem dX6_readCause_15 : decode cX6_readCause 15 = .ok (.aload_n 0, 1) := by decide +kernel
theorem dX6_readCause_16 : decode cX6_readCause 16 = .ok (.getfield 134, 3) := by decide +kernel
theorem dX6_readCause_19 : decode cX6_readCause 19 = .ok (.putfield 134, 3) := by decide +kernel
theorem dX6_readCause_22 : decode cX6_readCause 22 = .ok (.aload_n 0, 1) := by decide +kernel
theorem dX6_readCause_23 : decode cX6_readCause 23 = .ok (.getfield 137, 3) := by decide +kernel
theorem dX6_readCause_26 : decode cX6_readCause 26 = .ok (.ifCond .eq 11, 3) := by decide +kernel
theorem dX6_readCause_29 : decode cX6_readCause 29 = .ok (.iload_n 1, 1) := by decide +kernel
theorem dX6_readCause_30 : decode cX6_readCause 30 = .ok (.sipush 192, 3) := by decide +kernel
theorem dX6_readCause_33 : decode cX6_readCause 33 = .ok (.iadd, 1) := by decide +kernel
theorem dX6_readCause_34 : decode cX6_readCause 34 = .ok (.goto 4, 3) := by decide +kernel
theorem dX6_readCause_37 : decode cX6_readCause 37 = .ok (.iload_n 1, 1) := by decide +kernel
theorem dX6_readCause_38 : decode cX6_readCause 38 = .ok (.ireturn, 1) := by decide +kernel
theorem dX6_cause_0 : decode cX6_cause 0 = .ok (.aload_n 0, 1) := by decide +kernel
theorem dX6_cause_1 : decode cX6_cause 1 = .ok (.iconst 1, 1) := by decide +kernel
theorem dX6_cause_2 : decode cX6_cause 2 = .ok (.iconst 2, 1) := by decide +kernel
theorem dX6_cause_3 : decode cX6_cause 3 = .ok (.invokevirtual 124, 3) := by decide +kernel
theorem dX6_cause_6 : decode cX6_cause 6 = .ok (.ifCond .eq 13, 3) := by decide +kernel
theorem dX6_cause_9 : decode cX6_cause 9 = .ok (.aload_n 0, 1) := by decide +kernel
theorem dX6_cause_10 : decode cX6_cause 10 = .ok (.getfield 127, 3) := by decide +kernel
theorem dX6_cause_13 : decode cX6_cause 13 = .ok (.ifCond .eq 6, 3) := by decide +kernel
theorem dX6_cause_16 : decode cX6_cause 16 = .ok (.bipush 6, 2) := by decide +kernel
theorem dX6_cause_18 : decode cX6_cause 18 = .ok (.ireturn, 1) := by decide +kernel
theorem dX6_cause_19 : decode cX6_cause 19 = .ok (.aload_n 0, 1) := by decide +kernel
theorem dX6_cause_20 : decode cX6_cause 20 = .ok (.iconst 1, 1) := by decide +kernel
theorem dX6_cause_21 : decode cX6_cause 21 = .ok (.iconst 0, 1) := by decide +kernel
theorem dX6_cause_22 : decode cX6_cause 22 = .ok (.invokevirtual 124, 3) := by decide +kernel
theorem dX6_cause_25 : decode cX6_cause 25 = .ok (.ifCond .eq 12, 3) := by decide +kernel
theorem dX6_cause_28 : decode cX6_cause 28 = .ok (.aload_n 0, 1) := by decide +kernel
theorem dX6_cause_29 : decode cX6_cause 29 = .ok (.getfield 131, 3) := by decide +kernel
theorem dX6_cause_32 : decode cX6_cause 32 = .ok (.ifCond .le 5, 3) := by decide +kernel
theorem dX6_cause_35 : decode cX6_cause 35 = .ok (.iconst 4, 1) := by decide +kernel
theorem dX6_cause_36 : decode cX6_cause 36 = .ok (.ireturn, 1) := by decide +kernel
theorem dX6_cause_37 : decode cX6_cause 37 = .ok (.aload_n 0, 1) := by decide +kernel
theorem dX6_cause_38 : decode cX6_cause 38 = .ok (.iconst 1, 1) := by decide +kernel
theorem dX6_cause_39 : decode cX6_cause 39 = .ok (.iconst 1, 1) := by decide +kernel
theorem dX6_cause_40 : decode cX6_cause 40 = .ok (.invokevirtual 124, 3) := by decide +kernel
theorem dX6_cause_43 : decode cX6_cause 43 = .ok (.ifCond .eq 14, 3) := by decide +kernel
theorem dX6_cause_46 : decode cX6_cause 46 = .ok (.aload_n 0, 1) := by decide +kernel
theorem dX6_cause_47 : decode cX6_cause 47 = .ok (.getfield 134, 3) := by decide +kernel
theorem dX6_cause_50 : decode cX6_cause 50 = .ok (.ifCond .eq 7, 3) := by decide +kernel
theorem dX6_cause_53 : decode cX6_cause 53 = .ok (.iconst 2, 1) := by decide +kernel
theorem dX6_cause_54 : decode cX6_cause 54 = .ok (.goto 4, 3) := by decide +kernel
theorem dX6_cause_57 : decode cX6_cause 57 = .ok (.iconst 1, 1) := by decide +kernel
theorem dX6_cause_58 : decode cX6_cause 58 = .ok (.ireturn, 1) := by decide +kernel
theorem dX6_readState_0 : decode cX6_readState 0 = .ok (.bipush 96, 2) := by decide +kernel
theorem dX6_readState_2 : decode cX6_readState 2 = .ok (.aload_n 0, 1) := by decide +kernel
theorem dX6_readState_3 : decode cX6_readState 3 = .ok (.getfield 131, 3) := by decide +kernel
theorem dX6_readState_6 : decode cX6_readState 6 = .ok (.ifCond .le 7, 3) := by decide +kernel
theorem dX6_readState_9 : decode cX6_readState 9 = .ok (.iconst 1, 1) := by decide +kernel
theorem dX6_readState_10 : decode cX6_readState 10 = .ok (.goto 4, 3) := by decide +kernel
theorem dX6_readState_13 : decode cX6_readState 13 = .ok (.iconst 0, 1) := by decide +kernel
theorem dX6_readState_14 : decode cX6_readState 14 = .ok (.iadd, 1) := by decide +kernel
theorem dX6_readState_15 : decode cX6_readState 15 = .ok (.aload_n 0, 1) := by decide +kernel
theorem dX6_readState_16 : decode cX6_readState 16 = .ok (.getfield 127, 3) := by decide +kernel
theorem dX6_readState_19 : decode cX6_readState 19 = .ok (.ifCond .eq 7, 3) := by decide +kernel
theorem dX6_readState_22 : decode cX6_readState 22 = .ok (.iconst 2, 1) := by decide +kernel
theorem dX6_readState_23 : decode cX6_readState 23 = .ok (.goto 4, 3) := by decide +kernel
theorem dX6_readState_26 : decode cX6_readState 26 = .ok (.iconst 0, 1) := by decide +kernel
theorem dX6_readState_27 : decode cX6_readState 27 = .ok (.iadd, 1) := by decide +kernel
theorem dX6_readState_28 : decode cX6_readState 28 = .ok (.istore_n 1, 1) := by decide +kernel
theorem dX6_readState_29 : decode cX6_readState 29 = .ok (.aload_n 0, 1) := by decide +kernel
theorem dX6_readState_30 : decode cX6_readState 30 = .ok (.iconst 0, 1) := by decide +kernel
theorem dX6_readState_31 : decode cX6_readState 31 = .ok (.putfield 127, 3) := by decide +kernel
theorem dX6_readState_34 : decode cX6_readState 34 = .ok (.iload_n 1, 1) := by decide +kernel
theorem dX6_readState_35 : decode cX6_readState 35 = .ok (.ireturn, 1) := by decide +kernel
theorem dX6_looped_0 : decode cX6_looped 0 = .ok (.aload_n 0, 1) := by decide +kernel
theorem dX6_looped_1 : decode cX6_looped 1 = .ok (.iconst 4, 1) := by decide +kernel
theorem dX6_looped_2 : decode cX6_looped 2 = .ok (.iconst 1, 1) := by decide +kernel
theorem dX6_looped_3 : decode cX6_looped 3 = .ok (.invokevirtual 124, 3) := by decide +kernel
theorem dX6_looped_6 : decode cX6_looped 6 = .ok (.ifCond .eq 8, 3) := by decide +kernel
theorem dX6_looped_9 : decode cX6_looped 9 = .ok (.bipush 16, 2) := by decide +kernel
theorem dX6_looped_11 : decode cX6_looped 11 = .ok (.goto 4, 3) := by decide +kernel
theorem dX6_looped_14 : decode cX6_looped 14 = .ok (.iconst 0, 1) := by decide +kernel
theorem dX6_looped_15 : decode cX6_looped 15 = .ok (.istore_n 1, 1) := by decide +kernel
theorem dX6_looped_16 : decode cX6_looped 16 = .ok (.aload_n 0, 1) := by decide +kernel
theorem dX6_looped_17 : decode cX6_looped 17 = .ok (.iconst 4, 1) := by decide +kernel
theorem dX6_looped_18 : decode cX6_looped 18 = .ok (.iconst 0, 1) := by decide +kernel
theorem dX6_looped_19 : decode cX6_looped 19 = .ok (.invokevirtual 124, 3) := by decide +kernel
theorem dX6_looped_22 : decode cX6_looped 22 = .ok (.ifCond .eq 10, 3) := by decide +kernel
theorem dX6_looped_25 : decode cX6_looped 25 = .ok (.iload_n 1, 1) := by decide +kernel
theorem dX6_looped_26 : decode cX6_looped 26 = .ok (.bipush 32, 2) := by decide +kernel
theorem dX6_looped_28 : decode cX6_looped 28 = .ok (.iadd, 1) := by decide +kernel
theorem dX6_looped_29 : decode cX6_looped 29 = .ok (.goto 4, 3) := by decide +kernel
theorem dX6_looped_32 : decode cX6_looped 32 = .ok (.iload_n 1, 1) := by decide +kernel
theorem dX6_looped_33 : decode cX6_looped 33 = .ok (.istore_n 1, 1) := by decide +kernel
theorem dX6_looped_34 : decode cX6_looped 34 = .ok (.aload_n 0, 1) := by decide +kernel
theorem dX6_looped_35 : decode cX6_looped 35 = .ok (.iconst 4, 1) := by decide +kernel
theorem dX6_looped_36 : decode cX6_looped 36 = .ok (.iconst 2, 1) := by decide +kernel
theorem dX6_looped_37 : decode cX6_looped 37 = .ok (.invokevirtual 124, 3) := by decide +kernel
theorem dX6_looped_40 : decode cX6_looped 40 = .ok (.ifCond .eq 10, 3) := by decide +kernel
theorem dX6_looped_43 : decode cX6_looped 43 = .ok (.iload_n 1, 1) := by decide +kernel
theorem dX6_looped_44 : decode cX6_looped 44 = .ok (.bipush 64, 2) := by decide +kernel
theorem dX6_looped_46 : decode cX6_looped 46 = .ok (.iadd, 1) := by decide +kernel
theorem dX6_looped_47 : decode cX6_looped 47 = .ok (.goto 4, 3) := by decide +kernel
theorem dX6_looped_50 : decode cX6_looped 50 = .ok (.iload_n 1, 1) := by decide +kernel
theorem dX6_looped_51 : decode cX6_looped 51 = .ok (.istore_n 1, 1) := by decide +kernel
theorem dX6_looped_52 : decode cX6_looped 52 = .ok (.aload_n 0, 1) := by decide +kernel
theorem dX6_looped_53 : decode cX6_looped 53 = .ok (.iconst 4, 1) := by decide +kernel
theorem dX6_looped_54 : decode cX6_looped 54 = .ok (.iconst 3, 1) := by decide +kernel
theorem dX6_looped_55 : decode cX6_looped 55 = .ok (.invokevirtual 124, 3) := by decide +kernel
theorem dX6_looped_58 : decode cX6_looped 58 = .ok (.ifCond .eq 11, 3) := by decide +kernel
theorem dX6_looped_61 : decode cX6_looped 61 = .ok (.iload_n 1, 1) := by decide +kernel
theorem dX6_looped_62 : decode cX6_looped 62 = .ok (.sipush 128, 3) := by decide +kernel
theorem dX6_looped_65 : decode cX6_looped 65 = .ok (.iadd, 1) := by decide +kernel
theorem dX6_looped_66 : decode cX6_looped 66 = .ok (.goto 4, 3) := by decide +kernel
theorem dX6_looped_69 : decode cX6_looped 69 = .ok (.iload_n 1, 1) := by decide +kernel
theorem dX6_looped_70 : decode cX6_looped 70 = .ok (.ireturn, 1) := by decide +kernel
theorem dX6_settle_0 : decode cX6_settle 0 = .ok (.aload_n 0, 1) := by decide +kernel
theorem dX6_settle_1 : decode cX6_settle 1 = .ok (.getfield 17, 3) := by decide +kernel
theorem dX6_settle_4 : decode cX6_settle 4 = .ok (.bipush 10, 2) := by decide +kernel
theorem dX6_settle_6 : decode cX6_settle 6 = .ok (.aload_n 0, 1) := by decide +kernel
theorem dX6_settle_7 : decode cX6_settle 7 = .ok (.invokevirtual 144, 3) := by decide +kernel
theorem dX6_settle_10 : decode cX6_settle 10 = .ok (.iconst 1, 1) := by decide +kernel
theorem dX6_settle_11 : decode cX6_settle 11 = .ok (.if_icmp .eq 7, 3) := by decide +kernel
theorem dX6_settle_14 : decode cX6_settle 14 = .ok (.iconst 1, 1) := by decide +kernel
theorem dX6_settle_15 : decode cX6_settle 15 = .ok (.goto 4, 3) := by decide +kernel
theorem dX6_settle_18 : decode cX6_settle 18 = .ok (.iconst 0, 1) := by decide +kernel
theorem dX6_settle_19 : decode cX6_settle 19 = .ok (.bastore, 1) := by decide +kernel
theorem dX6_settle_20 : decode cX6_settle 20 = .ok (.iconst 1, 1) := by decide +kernel
theorem dX6_settle_21 : decode cX6_settle 21 = .ok (.istore_n 1, 1) := by decide +kernel
theorem dX6_settle_22 : decode cX6_settle 22 = .ok (.iload_n 1, 1) := by decide +kernel
theorem dX6_settle_23 : decode cX6_settle 23 = .ok (.bipush 32, 2) := by decide +kernel
theorem dX6_settle_25 : decode cX6_settle 25 = .ok (.if_icmp .ge 47, 3) := by decide +kernel
theorem dX6_settle_28 : decode cX6_settle 28 = .ok (.aload_n 0, 1) := by decide +kernel
theorem dX6_settle_29 : decode cX6_settle 29 = .ok (.getfield 20, 3) := by decide +kernel
theorem dX6_settle_32 : decode cX6_settle 32 = .ok (.iload_n 1, 1) := by decide +kernel
theorem dX6_settle_33 : decode cX6_settle 33 = .ok (.aload_n 0, 1) := by decide +kernel
theorem dX6_settle_34 : decode cX6_settle 34 = .ok (.getfield 20, 3) := by decide +kernel
theorem dX6_settle_37 : decode cX6_settle 37 = .ok (.iload_n 1, 1) := by decide +kernel
theorem dX6_settle_38 : decode cX6_settle 38 = .ok (.baload, 1) := by decide +kernel
theorem dX6_settle_39 : decode cX6_settle 39 = .ok (.ifCond .ne 21, 3) := by decide +kernel
theorem dX6_settle_42 : decode cX6_settle 42 = .ok (.aload_n 0, 1) := by decide +kernel
theorem dX6_settle_43 : decode cX6_settle 43 = .ok (.getfield 17, 3) := by decide +kernel
theorem dX6_settle_46 : decode cX6_settle 46 = .ok (.iload_n 1, 1) := by decide +kernel
theorem dX6_settle_47 : decode cX6_settle 47 = .ok (.baload, 1) := by decide +kernel
theorem dX6_settle_48 : decode cX6_settle 48 = .ok (.ifCond .eq 16, 3) := by decide +kernel
theorem dX6_settle_51 : decode cX6_settle 51 = .ok (.aload_n 0, 1) := by decide +kernel
theorem dX6_settle_52 : decode cX6_settle 52 = .ok (.getfield 23, 3) := by decide +kernel
theorem dX6_settle_55 : decode cX6_settle 55 = .ok (.iload_n 1, 1) := by decide +kernel
theorem dX6_settle_56 : decode cX6_settle 56 = .ok (.baload, 1) := by decide +kernel
theorem dX6_settle_57 : decode cX6_settle 57 = .ok (.ifCond .ne 7, 3) := by decide +kernel
theorem dX6_settle_60 : decode cX6_settle 60 = .ok (.iconst 1, 1) := by decide +kernel
theorem dX6_settle_61 : decode cX6_settle 61 = .ok (.goto 4, 3) := by decide +kernel
theorem dX6_settle_64 : decode cX6_settle 64 = .ok (.iconst 0, 1) := by decide +kernel
theorem dX6_settle_65 : decode cX6_settle 65 = .ok (.bastore, 1) := by decide +kernel
theorem dX6_settle_66 : decode cX6_settle 66 = .ok (.iinc 1 1, 3) := by decide +kernel
theorem dX6_settle_69 : decode cX6_settle 69 = .ok (.goto (-47), 3) := by decide +kernel
theorem dX6_settle_72 : decode cX6_settle 72 = .ok (.return_, 1) := by decide +kernel
theorem dX6_write_0 : decode cX6_write 0 = .ok (.aload_n 0, 1) := by decide +kernel
theorem dX6_write_1 : decode cX6_write 1 = .ok (.iload_n 1, 1) := by decide +kernel
theorem dX6_write_2 : decode cX6_write 2 = .ok (.lload_n 2, 1) := by decide +kernel
theorem dX6_write_3 : decode cX6_write 3 = .ok (.iload 4, 2) := by decide +kernel
theorem dX6_write_5 : decode cX6_write 5 = .ok (.invokestatic 172, 3) := by decide +kernel
theorem dX6_write_8 : decode cX6_write 8 = .ok (.ifCond .eq 7, 3) := by decide +kernel
theorem dX6_write_11 : decode cX6_write 11 = .ok (.iconst 0, 1) := by decide +kernel
theorem dX6_write_12 : decode cX6_write 12 = .ok (.goto 4, 3) := by decide +kernel
theorem dX6_write_15 : decode cX6_write 15 = .ok (.iconst 1, 1) := by decide +kernel
theorem dX6_write_16 : decode cX6_write 16 = .ok (.putfield 54, 3) := by decide +kernel
theorem dX6_write_19 : decode cX6_write 19 = .ok (.aload_n 0, 1) := by decide +kernel
theorem dX6_write_20 : decode cX6_write 20 = .ok (.getfield 54, 3) := by decide +kernel
theorem dX6_write_23 : decode cX6_write 23 = .ok (.ifCond .le 4, 3) := by decide +kernel
theorem dX6_write_26 : decode cX6_write 26 = .ok (.return_, 1) := by decide +kernel
theorem dX6_write_27 : decode cX6_write 27 = .ok (.iload_n 1, 1) := by decide +kernel
theorem dX6_write_28 : decode cX6_write 28 = .ok (.ifCond .ne 15, 3) := by decide +kernel
theorem dX6_write_31 : decode cX6_write 31 = .ok (.aload_n 0, 1) := by decide +kernel
theorem dX6_write_32 : decode cX6_write 32 = .ok (.lload_n 2, 1) := by decide +kernel
theorem dX6_write_33 : decode cX6_write 33 = .ok (.iload 4, 2) := by decide +kernel
theorem dX6_write_35 : decode cX6_write 35 = .ok (.lload 5, 2) := by decide +kernel
theorem dX6_write_37 : decode cX6_write 37 = .ok (.invokevirtual 190, 3) := by decide +kernel
theorem dX6_write_40 : decode cX6_write 40 = .ok (.goto 56, 3) := by decide +kernel
theorem dX6_write_43 : decode cX6_write 43 = .ok (.iload_n 1, 1) := by decide +kernel
theorem dX6_write_44 : decode cX6_write 44 = .ok (.iconst 1, 1) := by decide +kernel
theorem dX6_write_45 : decode cX6_write 45 = .ok (.if_icmp .ne 19, 3) := by decide +kernel
theorem dX6_write_48 : decode cX6_write 48 = .ok (.iload 4, 2) := by decide +kernel
theorem dX6_write_50 : decode cX6_write 50 = .ok (.iconst 4, 1) := by decide +kernel
theorem dX6_write_51 : decode cX6_write 51 = .ok (.if_icmp .ne 13, 3) := by decide +kernel
theorem dX6_write_54 : decode cX6_write 54 = .ok (.aload_n 0, 1) := by decide +kernel
theorem dX6_write_55 : decode cX6_write 55 = .ok (.lload_n 2, 1) := by decide +kernel
theorem dX6_write_56 : decode cX6_write 56 = .ok (.lload 5, 2) := by decide +kernel
theorem dX6_write_58 : decode cX6_write 58 = .ok (.invokevirtual 194, 3) := by decide +kernel
theorem dX6_write_61 : decode cX6_write 61 = .ok (.goto 35, 3) := by decide +kernel
theorem dX6_write_64 : decode cX6_write 64 = .ok (.iload_n 1, 1) := by decide +kernel
theorem dX6_write_65 : decode cX6_write 65 = .ok (.iconst 2, 1) := by decide +kernel
theorem dX6_write_66 : decode cX6_write 66 = .ok (.if_icmp .ne 30, 3) := by decide +kernel
theorem dX6_write_69 : decode cX6_write 69 = .ok (.iload 4, 2) := by decide +kernel
theorem dX6_write_71 : decode cX6_write 71 = .ok (.iconst 1, 1) := by decide +kernel
theorem dX6_write_72 : decode cX6_write 72 = .ok (.if_icmp .ne 24, 3) := by decide +kernel
theorem dX6_write_75 : decode cX6_write 75 = .ok (.lload_n 2, 1) := by decide +kernel
theorem dX6_write_76 : decode cX6_write 76 = .ok (.ldc2_w 63, 3) := by decide +kernel
theorem dX6_write_79 : decode cX6_write 79 = .ok (.lcmp, 1) := by decide +kernel
theorem dX6_write_80 : decode cX6_write 80 = .ok (.ifCond .ge 16, 3) := by decide +kernel
theorem dX6_write_83 : decode cX6_write 83 = .ok (.aload_n 0, 1) := by decide +kernel
theorem dX6_write_84 : decode cX6_write 84 = .ok (.lload_n 2, 1) := by decide +kernel
theorem dX6_write_85 : decode cX6_write 85 = .ok (.l2i, 1) := by decide +kernel
theorem dX6_write_86 : decode cX6_write 86 = .ok (.lload 5, 2) := by decide +kernel
theorem dX6_write_88 : decode cX6_write 88 = .ok (.ldc2_w 198, 3) := by decide +kernel
theorem dX6_write_91 : decode cX6_write 91 = .ok (.land, 1) := by decide +kernel
theorem dX6_write_92 : decode cX6_write 92 = .ok (.l2i, 1) := by decide +kernel
theorem dX6_write_93 : decode cX6_write 93 = .ok (.invokevirtual 200, 3) := by decide +kernel
theorem dX6_write_96 : decode cX6_write 96 = .ok (.aload_n 0, 1) := by decide +kernel
theorem dX6_write_97 : decode cX6_write 97 = .ok (.invokevirtual 187, 3) := by decide +kernel
theorem dX6_write_100 : decode cX6_write 100 = .ok (.return_, 1) := by decide +kernel
theorem dX6_writeTimer_0 : decode cX6_writeTimer 0 = .ok (.iload_n 3, 1) := by decide +kernel
theorem dX6_writeTimer_1 : decode cX6_writeTimer 1 = .ok (.iconst 4, 1) := by decide +kernel
theorem dX6_writeTimer_2 : decode cX6_writeTimer 2 = .ok (.if_icmp .ne 52, 3) := by decide +kernel
theorem dX6_writeTimer_5 : decode cX6_writeTimer 5 = .ok (.lload_n 1, 1) := by decide +kernel
theorem dX6_writeTimer_6 : decode cX6_writeTimer 6 = .ok (.ldc2_w 69, 3) := by decide +kernel
theorem dX6_writeTimer_9 : decode cX6_writeTimer 9 = .ok (.aload_n 0, 1) := by decide +kernel
theorem dX6_writeTimer_10 : decode cX6_writeTimer 10 = .ok (.getfield 48, 3) := by decide +kernel
theorem dX6_writeTimer_13 : decode cX6_writeTimer 13 = .ok (.i2l, 1) := by decide +kernel
theorem dX6_writeTimer_14 : decode cX6_writeTimer 14 = .ok (.lmul, 1) := by decide +kernel
theorem dX6_writeTimer_15 : decode cX6_writeTimer 15 = .ok (.lcmp, 1) := by decide +kernel
theorem dX6_writeTimer_16 : decode cX6_writeTimer 16 = .ok (.ifCond .ge 38, 3) := by decide +kernel
theorem dX6_writeTimer_19 : decode cX6_writeTimer 19 = .ok (.lload_n 1, 1) := by decide +kernel
theorem dX6_writeTimer_20 : decode cX6_writeTimer 20 = .ok (.ldc2_w 69, 3) := by decide +kernel
theorem dX6_writeTimer_23 : decode cX6_writeTimer 23 = .ok (.lrem, 1) := by decide +kernel
theorem dX6_writeTimer_24 : decode cX6_writeTimer 24 = .ok (.lconst 0, 1) := by decide +kernel
theorem dX6_writeTimer_25 : decode cX6_writeTimer 25 = .ok (.lcmp, 1) := by decide +kernel
theorem dX6_writeTimer_26 : decode cX6_writeTimer 26 = .ok (.ifCond .ne 28, 3) := by decide +kernel
theorem dX6_writeTimer_29 : decode cX6_writeTimer 29 = .ok (.aload_n 0, 1) := by decide +kernel
theorem dX6_writeTimer_30 : decode cX6_writeTimer 30 = .ok (.getfield 7, 3) := by decide +kernel
theorem dX6_writeTimer_33 : decode cX6_writeTimer 33 = .ok (.lload_n 1, 1) := by decide +kernel
theorem dX6_writeTimer_34 : decode cX6_writeTimer 34 = .ok (.ldc2_w 69, 3) := by decide +kernel
theorem dX6_writeTimer_37 : decode cX6_writeTimer 37 = .ok (.ldiv, 1) := by decide +kernel
theorem dX6_writeTimer_38 : decode cX6_writeTimer 38 = .ok (.l2i, 1) := by decide +kernel
theorem dX6_writeTimer_39 : decode cX6_writeTimer 39 = .ok (.lload 4, 2) := by decide +kernel
theorem dX6_writeTimer_41 : decode cX6_writeTimer 41 = .ok (.lconst 1, 1) := by decide +kernel
theorem dX6_writeTimer_42 : decode cX6_writeTimer 42 = .ok (.land, 1) := by decide +kernel
theorem dX6_writeTimer_43 : decode cX6_writeTimer 43 = .ok (.lconst 1, 1) := by decide +kernel
theorem dX6_writeTimer_44 : decode cX6_writeTimer 44 = .ok (.lcmp, 1) := by decide +kernel
theorem dX6_writeTimer_45 : decode cX6_writeTimer 45 = .ok (.ifCond .ne 7, 3) := by decide +kernel
theorem dX6_writeTimer_48 : decode cX6_writeTimer 48 = .ok (.iconst 1, 1) := by decide +kernel
theorem dX6_writeTimer_49 : decode cX6_writeTimer 49 = .ok (.goto 4, 3) := by decide +kernel
theorem dX6_writeTimer_52 : decode cX6_writeTimer 52 = .ok (.iconst 0, 1) := by decide +kernel
theorem dX6_writeTimer_53 : decode cX6_writeTimer 53 = .ok (.bastore, 1) := by decide +kernel
theorem dX6_writeTimer_54 : decode cX6_writeTimer 54 = .ok (.aload_n 0, 1) := by decide +kernel
theorem dX6_writeTimer_55 : decode cX6_writeTimer 55 = .ok (.lload_n 1, 1) := by decide +kernel
theorem dX6_writeTimer_56 : decode cX6_writeTimer 56 = .ok (.invokevirtual 71, 3) := by decide +kernel
theorem dX6_writeTimer_59 : decode cX6_writeTimer 59 = .ok (.istore 6, 2) := by decide +kernel
theorem dX6_writeTimer_61 : decode cX6_writeTimer 61 = .ok (.iload 6, 2) := by decide +kernel
theorem dX6_writeTimer_63 : decode cX6_writeTimer 63 = .ok (.ifCond .lt 17, 3) := by decide +kernel
theorem dX6_writeTimer_66 : decode cX6_writeTimer 66 = .ok (.lload_n 1, 1) := by decide +kernel
theorem dX6_writeTimer_67 : decode cX6_writeTimer 67 = .ok (.iload_n 3, 1) := by decide +kernel
theorem dX6_writeTimer_68 : decode cX6_writeTimer 68 = .ok (.i2l, 1) := by decide +kernel
theorem dX6_writeTimer_69 : decode cX6_writeTimer 69 = .ok (.lrem, 1) := by decide +kernel
theorem dX6_writeTimer_70 : decode cX6_writeTimer 70 = .ok (.lconst 0, 1) := by decide +kernel
theorem dX6_writeTimer_71 : decode cX6_writeTimer 71 = .ok (.lcmp, 1) := by decide +kernel
theorem dX6_writeTimer_72 : decode cX6_writeTimer 72 = .ok (.ifCond .ne 8, 3) := by decide +kernel
theorem dX6_writeTimer_75 : decode cX6_writeTimer 75 = .ok (.iload_n 3, 1) := by decide +kernel
theorem dX6_writeTimer_76 : decode cX6_writeTimer 76 = .ok (.iconst 4, 1) := by decide +kernel
theorem dX6_writeTimer_77 : decode cX6_writeTimer 77 = .ok (.if_icmp .ge 4, 3) := by decide +kernel
theorem dX6_writeTimer_80 : decode cX6_writeTimer 80 = .ok (.return_, 1) := by decide +kernel
theorem dX6_writeTimer_81 : decode cX6_writeTimer 81 = .ok (.aload_n 0, 1) := by decide +kernel
theorem dX6_writeTimer_82 : decode cX6_writeTimer 82 = .ok (.iload 6, 2) := by decide +kernel
theorem dX6_writeTimer_84 : decode cX6_writeTimer 84 = .ok (.invokevirtual 75, 3) := by decide +kernel
theorem dX6_writeTimer_87 : decode cX6_writeTimer 87 = .ok (.ldc2_w 79, 3) := by decide +kernel
theorem dX6_writeTimer_90 : decode cX6_writeTimer 90 = .ok (.land, 1) := by decide +kernel
theorem dX6_writeTimer_91 : decode cX6_writeTimer 91 = .ok (.lstore 7, 2) := by decide +kernel
theorem dX6_writeTimer_93 : decode cX6_writeTimer 93 = .ok (.aload_n 0, 1) := by decide +kernel
theorem dX6_writeTimer_94 : decode cX6_writeTimer 94 = .ok (.iload 6, 2) := by decide +kernel
theorem dX6_writeTimer_96 : decode cX6_writeTimer 96 = .ok (.invokevirtual 75, 3) := by decide +kernel
theorem dX6_writeTimer_99 : decode cX6_writeTimer 99 = .ok (.lload 7, 2) := by decide +kernel
theorem dX6_writeTimer_101 : decode cX6_writeTimer 101 = .ok (.lsub, 1) := by decide +kernel
theorem dX6_writeTimer_102 : decode cX6_writeTimer 102 = .ok (.lstore 9, 2) := by decide +kernel
theorem dX6_writeTimer_104 : decode cX6_writeTimer 104 = .ok (.iload_n 3, 1) := by decide +kernel
theorem dX6_writeTimer_105 : decode cX6_writeTimer 105 = .ok (.bipush 8, 2) := by decide +kernel
theorem dX6_writeTimer_107 : decode cX6_writeTimer 107 = .ok (.if_icmp .ne 14, 3) := by decide +kernel
theorem dX6_writeTimer_110 : decode cX6_writeTimer 110 = .ok (.aload_n 0, 1) := by decide +kernel
theorem dX6_writeTimer_111 : decode cX6_writeTimer 111 = .ok (.iload 6, 2) := by decide +kernel
theorem dX6_writeTimer_113 : decode cX6_writeTimer 113 = .ok (.lload 4, 2) := by decide +kernel
theorem dX6_writeTimer_115 : decode cX6_writeTimer 115 = .ok (.invokevirtual 81, 3) := by decide +kernel
theorem dX6_writeTimer_118 : decode cX6_writeTimer 118 = .ok (.goto 45, 3) := by decide +kernel
theorem dX6_writeTimer_121 : decode cX6_writeTimer 121 = .ok (.lload_n 1, 1) := by decide +kernel
theorem dX6_writeTimer_122 : decode cX6_writeTimer 122 = .ok (.ldc2_w 63, 3) := by decide +kernel
theorem dX6_writeTimer_125 : decode cX6_writeTimer 125 = .ok (.lrem, 1) := by decide +kernel
theorem dX6_writeTimer_126 : decode cX6_writeTimer 126 = .ok (.lconst 0, 1) := by decide +kernel
theorem dX6_writeTimer_127 : decode cX6_writeTimer 127 = .ok (.lcmp, 1) := by decide +kernel
theorem dX6_writeTimer_128 : decode cX6_writeTimer 128 = .ok (.ifCond .ne 21, 3) := by decide +kernel
theorem dX6_writeTimer_131 : decode cX6_writeTimer 131 = .ok (.aload_n 0, 1) := by decide +kernel
theorem dX6_writeTimer_132 : decode cX6_writeTimer 132 = .ok (.iload 6, 2) := by decide +kernel
theorem dX6_writeTimer_134 : decode cX6_writeTimer 134 = .ok (.lload 9, 2) := by decide +kernel
theorem dX6_writeTimer_136 : decode cX6_writeTimer 136 = .ok (.lload 4, 2) := by decide +kernel
theorem dX6_writeTimer_138 : decode cX6_writeTimer 138 = .ok (.ldc2_w 79, 3) := by decide +kernel
theorem dX6_writeTimer_141 : decode cX6_writeTimer 141 = .ok (.land, 1) := by decide +kernel
theorem dX6_writeTimer_142 : decode cX6_writeTimer 142 = .ok (.ladd, 1) := by decide +kernel
theorem dX6_writeTimer_143 : decode cX6_writeTimer 143 = .ok (.invokevirtual 81, 3) := by decide +kernel
theorem dX6_writeTimer_146 : decode cX6_writeTimer 146 = .ok (.goto 17, 3) := by decide +kernel
theorem dX6_writeTimer_149 : decode cX6_writeTimer 149 = .ok (.aload_n 0, 1) := by decide +kernel
theorem dX6_writeTimer_150 : decode cX6_writeTimer 150 = .ok (.iload 6, 2) := by decide +kernel
theorem dX6_writeTimer_152 : decode cX6_writeTimer 152 = .ok (.lload 7, 2) := by decide +kernel
theorem dX6_writeTimer_154 : decode cX6_writeTimer 154 = .ok (.lload 4, 2) := by decide +kernel
theorem dX6_writeTimer_156 : decode cX6_writeTimer 156 = .ok (.bipush 32, 2) := by decide +kernel
theorem dX6_writeTimer_158 : decode cX6_writeTimer 158 = .ok (.lshl, 1) := by decide +kernel
theorem dX6_writeTimer_159 : decode cX6_writeTimer 159 = .ok (.ladd, 1) := by decide +kernel
theorem dX6_writeTimer_160 : decode cX6_writeTimer 160 = .ok (.invokevirtual 81, 3) := by decide +kernel
theorem dX6_writeTimer_163 : decode cX6_writeTimer 163 = .ok (.return_, 1) := by decide +kernel

/-! decode rows -/
theorem dX0_calls_0 : decode cX0_calls 0 = .ok (.iload_n 1, 1) := by decide +kernel
theorem dX0_calls_1 : decode cX0_calls 1 = .ok (.ifCond .lt 34, 3) := by decide +kernel
theorem dX0_calls_4 : decode cX0_calls 4 = .ok (.iload_n 1, 1) := by decide +kernel
theorem dX0_calls_5 : decode cX0_calls 5 = .ok (.aload_n 0, 1) := by decide +kernel
theorem dX0_calls_6 : decode cX0_calls 6 = .ok (.getfield 15, 3) := by decide +kernel
theorem dX0_calls_9 : decode cX0_calls 9 = .ok (.if_icmp .ge 26, 3) := by decide +kernel
theorem dX0_calls_12 : decode cX0_calls 12 = .ok (.aload_n 0, 1) := by decide +kernel
theorem dX0_calls_13 : decode cX0_calls 13 = .ok (.getfield 9, 3) := by decide +kernel
theorem dX0_calls_16 : decode cX0_calls 16 = .ok (.aload_n 0, 1) := by decide +kernel
theorem dX0_calls_17 : decode cX0_calls 17 = .ok (.iload_n 1, 1) := by decide +kernel
theorem dX0_calls_18 : decode cX0_calls 18 = .ok (.invokevirtual 56, 3) := by decide +kernel
theorem dX0_calls_21 : decode cX0_calls 21 = .ok (.iaload, 1) := by decide +kernel
theorem dX0_calls_22 : decode cX0_calls 22 = .ok (.aload_n 0, 1) := by decide +kernel
theorem dX0_calls_23 : decode cX0_calls 23 = .ok (.getfield 22, 3) := by decide +kernel
theorem dX0_calls_26 : decode cX0_calls 26 = .ok (.iload_n 1, 1) := by decide +kernel
theorem dX0_calls_27 : decode cX0_calls 27 = .ok (.iaload, 1) := by decide +kernel
theorem dX0_calls_28 : decode cX0_calls 28 = .ok (.if_icmp .le 7, 3) := by decide +kernel
theorem dX0_calls_31 : decode cX0_calls 31 = .ok (.iconst 1, 1) := by decide +kernel
theorem dX0_calls_32 : decode cX0_calls 32 = .ok (.goto 4, 3) := by decide +kernel
theorem dX0_calls_35 : decode cX0_calls 35 = .ok (.iconst 0, 1) := by decide +kernel
theorem dX0_calls_36 : decode cX0_calls 36 = .ok (.ireturn, 1) := by decide +kernel

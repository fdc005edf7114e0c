/-! decode rows -/
theorem dL_cell_0 : decode cL_cell 0 = .ok (.iload_n 1, 1) := by decide +kernel
theorem dL_cell_1 : decode cL_cell 1 = .ok (.aload_n 0, 1) := by decide +kernel
theorem dL_cell_2 : decode cL_cell 2 = .ok (.arraylength, 1) := by decide +kernel
theorem dL_cell_3 : decode cL_cell 3 = .ok (.if_icmp .ge 9, 3) := by decide +kernel
theorem dL_cell_6 : decode cL_cell 6 = .ok (.aload_n 0, 1) := by decide +kernel
theorem dL_cell_7 : decode cL_cell 7 = .ok (.iload_n 1, 1) := by decide +kernel
theorem dL_cell_8 : decode cL_cell 8 = .ok (.iaload, 1) := by decide +kernel
theorem dL_cell_9 : decode cL_cell 9 = .ok (.goto 4, 3) := by decide +kernel
theorem dL_cell_12 : decode cL_cell 12 = .ok (.iconst 0, 1) := by decide +kernel
theorem dL_cell_13 : decode cL_cell 13 = .ok (.ireturn, 1) := by decide +kernel
theorem dL_read_0 : decode cL_read 0 = .ok (.aload 5, 2) := by decide +kernel
theorem dL_read_2 : decode cL_read 2 = .ok (.iconst 0, 1) := by decide +kernel
theorem dL_read_3 : decode cL_read 3 = .ok (.aload_n 0, 1) := by decide +kernel
theorem dL_read_4 : decode cL_read 4 = .ok (.iload_n 1, 1) := by decide +kernel
theorem dL_read_5 : decode cL_read 5 = .ok (.lload_n 2, 1) := by decide +kernel
theorem dL_read_6 : decode cL_read 6 = .ok (.iload 4, 2) := by decide +kernel
theorem dL_read_8 : decode cL_read 8 = .ok (.invokevirtual 7, 3) := by decide +kernel
theorem dL_read_11 : decode cL_read 11 = .ok (.lastore, 1) := by decide +kernel
theorem dL_read_12 : decode cL_read 12 = .ok (.goto 7, 3) := by decide +kernel
theorem dL_read_15 : decode cL_read 15 = .ok (.astore 6, 2) := by decide +kernel
theorem dL_read_17 : decode cL_read 17 = .ok (.iconst 1, 1) := by decide +kernel
theorem dL_read_18 : decode cL_read 18 = .ok (.ireturn, 1) := by decide +kernel
theorem dL_read_19 : decode cL_read 19 = .ok (.iconst 0, 1) := by decide +kernel
theorem dL_read_20 : decode cL_read 20 = .ok (.ireturn, 1) := by decide +kernel
theorem dL_write_0 : decode cL_write 0 = .ok (.aload_n 0, 1) := by decide +kernel
theorem dL_write_1 : decode cL_write 1 = .ok (.iload_n 1, 1) := by decide +kernel
theorem dL_write_2 : decode cL_write 2 = .ok (.lload_n 2, 1) := by decide +kernel
theorem dL_write_3 : decode cL_write 3 = .ok (.iload 4, 2) := by decide +kernel
theorem dL_write_5 : decode cL_write 5 = .ok (.lload 5, 2) := by decide +kernel
theorem dL_write_7 : decode cL_write 7 = .ok (.invokevirtual 15, 3) := by decide +kernel
theorem dL_write_10 : decode cL_write 10 = .ok (.goto 7, 3) := by decide +kernel
theorem dL_write_13 : decode cL_write 13 = .ok (.astore 7, 2) := by decide +kernel
theorem dL_write_15 : decode cL_write 15 = .ok (.iconst 1, 1) := by decide +kernel
theorem dL_write_16 : decode cL_write 16 = .ok (.ireturn, 1) := by decide +kernel
theorem dL_write_17 : decode cL_write 17 = .ok (.iconst 0, 1) := by decide +kernel
theorem dL_write_18 : decode cL_write 18 = .ok (.ireturn, 1) := by decide +kernel
theorem dL_signal_0 : decode cL_signal 0 = .ok (.aload_n 0, 1) := by decide +kernel
theorem dL_signal_1 : decode cL_signal 1 = .ok (.iload_n 1, 1) := by decide +kernel
theorem dL_signal_2 : decode cL_signal 2 = .ok (.iload_n 2, 1) := by decide +kernel
theorem dL_signal_3 : decode cL_signal 3 = .ok (.invokevirtual 19, 3) := by decide +kernel
theorem dL_signal_6 : decode cL_signal 6 = .ok (.goto 6, 3) := by decide +kernel
theorem dL_signal_9 : decode cL_signal 9 = .ok (.astore_n 3, 1) := by decide +kernel
theorem dL_signal_10 : decode cL_signal 10 = .ok (.iconst 1, 1) := by decide +kernel
theorem dL_signal_11 : decode cL_signal 11 = .ok (.ireturn, 1) := by decide +kernel
theorem dL_signal_12 : decode cL_signal 12 = .ok (.iconst 0, 1) := by decide +kernel
theorem dL_signal_13 : decode cL_signal 13 = .ok (.ireturn, 1) := by decide +kernel
theorem dL_line_0 : decode cL_line 0 = .ok (.aload_n 3, 1) := by decide +kernel
theorem dL_line_1 : decode cL_line 1 = .ok (.iconst 0, 1) := by decide +kernel
theorem dL_line_2 : decode cL_line 2 = .ok (.aload_n 0, 1) := by decide +kernel
theorem dL_line_3 : decode cL_line 3 = .ok (.iload_n 1, 1) := by decide +kernel
theorem dL_line_4 : decode cL_line 4 = .ok (.iload_n 2, 1) := by decide +kernel
theorem dL_line_5 : decode cL_line 5 = .ok (.invokevirtual 23, 3) := by decide +kernel
theorem dL_line_8 : decode cL_line 8 = .ok (.ifCond .eq 7, 3) := by decide +kernel
theorem dL_line_11 : decode cL_line 11 = .ok (.lconst 1, 1) := by decide +kernel
theorem dL_line_12 : decode cL_line 12 = .ok (.goto 4, 3) := by decide +kernel
theorem dL_line_15 : decode cL_line 15 = .ok (.lconst 0, 1) := by decide +kernel
theorem dL_line_16 : decode cL_line 16 = .ok (.lastore, 1) := by decide +kernel
theorem dL_line_17 : decode cL_line 17 = .ok (.goto 7, 3) := by decide +kernel
theorem dL_line_20 : decode cL_line 20 = .ok (.astore 4, 2) := by decide +kernel
theorem dL_line_22 : decode cL_line 22 = .ok (.iconst 1, 1) := by decide +kernel
theorem dL_line_23 : decode cL_line 23 = .ok (.ireturn, 1) := by decide +kernel
theorem dL_line_24 : decode cL_line 24 = .ok (.iconst 0, 1) := by decide +kernel
theorem dL_line_25 : decode cL_line 25 = .ok (.ireturn, 1) := by decide +kernel

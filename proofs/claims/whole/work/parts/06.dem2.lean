/-! decode rows -/
theorem dX6_setEight_0 : decode cX6_setEight 0 = .ok (.iload_n 1, 1) := by decide +kernel
theorem dX6_setEight_1 : decode cX6_setEight 1 = .ok (.aload_n 0, 1) := by decide +kernel
theorem dX6_setEight_2 : decode cX6_setEight 2 = .ok (.getfield 48, 3) := by decide +kernel
theorem dX6_setEight_5 : decode cX6_setEight 5 = .ok (.if_icmp .ne 11, 3) := by decide +kernel
theorem dX6_setEight_8 : decode cX6_setEight 8 = .ok (.aload_n 0, 1) := by decide +kernel
theorem dX6_setEight_9 : decode cX6_setEight 9 = .ok (.lload_n 2, 1) := by decide +kernel
theorem dX6_setEight_10 : decode cX6_setEight 10 = .ok (.putfield 65, 3) := by decide +kernel
theorem dX6_setEight_13 : decode cX6_setEight 13 = .ok (.goto 10, 3) := by decide +kernel
theorem dX6_setEight_16 : decode cX6_setEight 16 = .ok (.aload_n 0, 1) := by decide +kernel
theorem dX6_setEight_17 : decode cX6_setEight 17 = .ok (.getfield 13, 3) := by decide +kernel
theorem dX6_setEight_20 : decode cX6_setEight 20 = .ok (.iload_n 1, 1) := by decide +kernel
theorem dX6_setEight_21 : decode cX6_setEight 21 = .ok (.lload_n 2, 1) := by decide +kernel
theorem dX6_setEight_22 : decode cX6_setEight 22 = .ok (.lastore, 1) := by decide +kernel
theorem dX6_setEight_23 : decode cX6_setEight 23 = .ok (.return_, 1) := by decide +kernel
theorem dX6_writeController_0 : decode cX6_writeController 0 = .ok (.lload_n 1, 1) := by decide +kernel
theorem dX6_writeController_1 : decode cX6_writeController 1 = .ok (.ldc2_w 103, 3) := by decide +kernel
theorem dX6_writeController_4 : decode cX6_writeController 4 = .ok (.lcmp, 1) := by decide +kernel
theorem dX6_writeController_5 : decode cX6_writeController 5 = .ok (.ifCond .ge 41, 3) := by decide +kernel
theorem dX6_writeController_8 : decode cX6_writeController 8 = .ok (.lload_n 1, 1) := by decide +kernel
theorem dX6_writeController_9 : decode cX6_writeController 9 = .ok (.ldc2_w 69, 3) := by decide +kernel
theorem dX6_writeController_12 : decode cX6_writeController 12 = .ok (.lrem, 1) := by decide +kernel
theorem dX6_writeController_13 : decode cX6_writeController 13 = .ok (.lconst 0, 1) := by decide +kernel
theorem dX6_writeController_14 : decode cX6_writeController 14 = .ok (.lcmp, 1) := by decide +kernel
theorem dX6_writeController_15 : decode cX6_writeController 15 = .ok (.ifCond .ne 31, 3) := by decide +kernel
theorem dX6_writeController_18 : decode cX6_writeController 18 = .ok (.lload_n 1, 1) := by decide +kernel
theorem dX6_writeController_19 : decode cX6_writeController 19 = .ok (.ldc2_w 69, 3) := by decide +kernel
theorem dX6_writeController_22 : decode cX6_writeController 22 = .ok (.ldiv, 1) := by decide +kernel
theorem dX6_writeController_23 : decode cX6_writeController 23 = .ok (.invokestatic 118, 3) := by decide +kernel
theorem dX6_writeController_26 : decode cX6_writeController 26 = .ok (.ifCond .eq 20, 3) := by decide +kernel
theorem dX6_writeController_29 : decode cX6_writeController 29 = .ok (.aload_n 0, 1) := by decide +kernel
theorem dX6_writeController_30 : decode cX6_writeController 30 = .ok (.getfield 26, 3) := by decide +kernel
theorem dX6_writeController_33 : decode cX6_writeController 33 = .ok (.lload_n 1, 1) := by decide +kernel
theorem dX6_writeController_34 : decode cX6_writeController 34 = .ok (.ldc2_w 69, 3) := by decide +kernel
theorem dX6_writeController_37 : decode cX6_writeController 37 = .ok (.ldiv, 1) := by decide +kernel
theorem dX6_writeController_38 : decode cX6_writeController 38 = .ok (.l2i, 1) := by decide +kernel
theorem dX6_writeController_39 : decode cX6_writeController 39 = .ok (.lload_n 3, 1) := by decide +kernel
theorem dX6_writeController_40 : decode cX6_writeController 40 = .ok (.ldc2_w 122, 3) := by decide +kernel
theorem dX6_writeController_43 : decode cX6_writeController 43 = .ok (.land, 1) := by decide +kernel
theorem dX6_writeController_44 : decode cX6_writeController 44 = .ok (.l2i, 1) := by decide +kernel
theorem dX6_writeController_45 : decode cX6_writeController 45 = .ok (.iastore, 1) := by decide +kernel
theorem dX6_writeController_46 : decode cX6_writeController 46 = .ok (.aload_n 0, 1) := by decide +kernel
theorem dX6_writeController_47 : decode cX6_writeController 47 = .ok (.lload_n 1, 1) := by decide +kernel
theorem dX6_writeController_48 : decode cX6_writeController 48 = .ok (.ldc2_w 105, 3) := by decide +kernel
theorem dX6_writeController_51 : decode cX6_writeController 51 = .ok (.ldc2_w 103, 3) := by decide +kernel
theorem dX6_writeController_54 : decode cX6_writeController 54 = .ok (.invokevirtual 107, 3) := by decide +kernel
theorem dX6_writeController_57 : decode cX6_writeController 57 = .ok (.istore 5, 2) := by decide +kernel
theorem dX6_writeController_59 : decode cX6_writeController 59 = .ok (.iload 5, 2) := by decide +kernel
theorem dX6_writeController_61 : decode cX6_writeController 61 = .ok (.ifCond .lt 15, 3) := by decide +kernel
theorem dX6_writeController_64 : decode cX6_writeController 64 = .ok (.aload_n 0, 1) := by decide +kernel
theorem dX6_writeController_65 : decode cX6_writeController 65 = .ok (.getfield 30, 3) := by decide +kernel
theorem dX6_writeController_68 : decode cX6_writeController 68 = .ok (.iload 5, 2) := by decide +kernel
theorem dX6_writeController_70 : decode cX6_writeController 70 = .ok (.lload_n 3, 1) := by decide +kernel
theorem dX6_writeController_71 : decode cX6_writeController 71 = .ok (.l2i, 1) := by decide +kernel
theorem dX6_writeController_72 : decode cX6_writeController 72 = .ok (.bipush (-2), 2) := by decide +kernel
theorem dX6_writeController_74 : decode cX6_writeController 74 = .ok (.iand, 1) := by decide +kernel
theorem dX6_writeController_75 : decode cX6_writeController 75 = .ok (.iastore, 1) := by decide +kernel
theorem dX6_writeController_76 : decode cX6_writeController 76 = .ok (.aload_n 0, 1) := by decide +kernel
theorem dX6_writeController_77 : decode cX6_writeController 77 = .ok (.lload_n 1, 1) := by decide +kernel
theorem dX6_writeController_78 : decode cX6_writeController 78 = .ok (.ldc2_w 111, 3) := by decide +kernel
theorem dX6_writeController_81 : decode cX6_writeController 81 = .ok (.ldc2_w 97, 3) := by decide +kernel
theorem dX6_writeController_84 : decode cX6_writeController 84 = .ok (.invokevirtual 107, 3) := by decide +kernel
theorem dX6_writeController_87 : decode cX6_writeController 87 = .ok (.istore 5, 2) := by decide +kernel
theorem dX6_writeController_89 : decode cX6_writeController 89 = .ok (.iload 5, 2) := by decide +kernel
theorem dX6_writeController_91 : decode cX6_writeController 91 = .ok (.ifCond .lt 16, 3) := by decide +kernel
theorem dX6_writeController_94 : decode cX6_writeController 94 = .ok (.aload_n 0, 1) := by decide +kernel
theorem dX6_writeController_95 : decode cX6_writeController 95 = .ok (.getfield 33, 3) := by decide +kernel
theorem dX6_writeController_98 : decode cX6_writeController 98 = .ok (.iload 5, 2) := by decide +kernel
theorem dX6_writeController_100 : decode cX6_writeController 100 = .ok (.lload_n 3, 1) := by decide +kernel
theorem dX6_writeController_101 : decode cX6_writeController 101 = .ok (.ldc2_w 122, 3) := by decide +kernel
theorem dX6_writeController_104 : decode cX6_writeController 104 = .ok (.land, 1) := by decide +kernel
theorem dX6_writeController_105 : decode cX6_writeController 105 = .ok (.l2i, 1) := by decide +kernel
theorem dX6_writeController_106 : decode cX6_writeController 106 = .ok (.iastore, 1) := by decide +kernel
theorem dX6_writeController_107 : decode cX6_writeController 107 = .ok (.aload_n 0, 1) := by decide +kernel
theorem dX6_writeController_108 : decode cX6_writeController 108 = .ok (.lload_n 1, 1) := by decide +kernel
theorem dX6_writeController_109 : decode cX6_writeController 109 = .ok (.ldc2_w 113, 3) := by decide +kernel
theorem dX6_writeController_112 : decode cX6_writeController 112 = .ok (.ldc2_w 97, 3) := by decide +kernel
theorem dX6_writeController_115 : decode cX6_writeController 115 = .ok (.invokevirtual 107, 3) := by decide +kernel
theorem dX6_writeController_118 : decode cX6_writeController 118 = .ok (.istore 5, 2) := by decide +kernel
theorem dX6_writeController_120 : decode cX6_writeController 120 = .ok (.lload_n 3, 1) := by decide +kernel
theorem dX6_writeController_121 : decode cX6_writeController 121 = .ok (.ldc2_w 79, 3) := by decide +kernel
theorem dX6_writeController_124 : decode cX6_writeController 124 = .ok (.land, 1) := by decide +kernel
theorem dX6_writeController_125 : decode cX6_writeController 125 = .ok (.lstore 6, 2) := by decide +kernel
theorem dX6_writeController_127 : decode cX6_writeController 127 = .ok (.iload 5, 2) := by decide +kernel
theorem dX6_writeController_129 : decode cX6_writeController 129 = .ok (.ifCond .lt 32, 3) := by decide +kernel
theorem dX6_writeController_132 : decode cX6_writeController 132 = .ok (.lload 6, 2) := by decide +kernel
theorem dX6_writeController_134 : decode cX6_writeController 134 = .ok (.invokestatic 118, 3) := by decide +kernel
theorem dX6_writeController_137 : decode cX6_writeController 137 = .ok (.ifCond .eq 24, 3) := by decide +kernel
theorem dX6_writeController_140 : decode cX6_writeController 140 = .ok (.aload_n 0, 1) := by decide +kernel
theorem dX6_writeController_141 : decode cX6_writeController 141 = .ok (.iload 5, 2) := by decide +kernel
theorem dX6_writeController_143 : decode cX6_writeController 143 = .ok (.lload 6, 2) := by decide +kernel
theorem dX6_writeController_145 : decode cX6_writeController 145 = .ok (.l2i, 1) := by decide +kernel
theorem dX6_writeController_146 : decode cX6_writeController 146 = .ok (.invokevirtual 87, 3) := by decide +kernel
theorem dX6_writeController_149 : decode cX6_writeController 149 = .ok (.ifCond .eq 12, 3) := by decide +kernel
theorem dX6_writeController_152 : decode cX6_writeController 152 = .ok (.aload_n 0, 1) := by decide +kernel
theorem dX6_writeController_153 : decode cX6_writeController 153 = .ok (.getfield 23, 3) := by decide +kernel
theorem dX6_writeController_156 : decode cX6_writeController 156 = .ok (.lload 6, 2) := by decide +kernel
theorem dX6_writeController_158 : decode cX6_writeController 158 = .ok (.l2i, 1) := by decide +kernel
theorem dX6_writeController_159 : decode cX6_writeController 159 = .ok (.iconst 0, 1) := by decide +kernel
theorem dX6_writeController_160 : decode cX6_writeController 160 = .ok (.bastore, 1) := by decide +kernel
theorem dX6_writeController_161 : decode cX6_writeController 161 = .ok (.return_, 1) := by decide +kernel
theorem dX6_isSource_0 : decode cX6_isSource 0 = .ok (.lload_n 0, 1) := by decide +kernel
theorem dX6_isSource_1 : decode cX6_isSource 1 = .ok (.lconst 0, 1) := by decide +kernel
theorem dX6_isSource_2 : decode cX6_isSource 2 = .ok (.lcmp, 1) := by decide +kernel
theorem dX6_isSource_3 : decode cX6_isSource 3 = .ok (.ifCond .le 15, 3) := by decide +kernel
theorem dX6_isSource_6 : decode cX6_isSource 6 = .ok (.lload_n 0, 1) := by decide +kernel
theorem dX6_isSource_7 : decode cX6_isSource 7 = .ok (.ldc2_w 85, 3) := by decide +kernel
theorem dX6_isSource_10 : decode cX6_isSource 10 = .ok (.lcmp, 1) := by decide +kernel
theorem dX6_isSource_11 : decode cX6_isSource 11 = .ok (.ifCond .ge 7, 3) := by decide +kernel
theorem dX6_isSource_14 : decode cX6_isSource 14 = .ok (.iconst 1, 1) := by decide +kernel
theorem dX6_isSource_15 : decode cX6_isSource 15 = .ok (.goto 4, 3) := by decide +kernel
theorem dX6_isSource_18 : decode cX6_isSource 18 = .ok (.iconst 0, 1) := by decide +kernel
theorem dX6_isSource_19 : decode cX6_isSource 19 = .ok (.ireturn, 1) := by decide +kernel
theorem dX6_writeSerial_0 : decode cX6_writeSerial 0 = .ok (.iload_n 1, 1) := by decide +kernel
theorem dX6_writeSerial_1 : decode cX6_writeSerial 1 = .ok (.iconst 2, 1) := by decide +kernel
theorem dX6_writeSerial_2 : decode cX6_writeSerial 2 = .ok (.if_icmp .ge 21, 3) := by decide +kernel
theorem dX6_writeSerial_5 : decode cX6_writeSerial 5 = .ok (.aload_n 0, 1) := by decide +kernel
theorem dX6_writeSerial_6 : decode cX6_writeSerial 6 = .ok (.iconst 3, 1) := by decide +kernel
theorem dX6_writeSerial_7 : decode cX6_writeSerial 7 = .ok (.bipush 7, 2) := by decide +kernel
theorem dX6_writeSerial_9 : decode cX6_writeSerial 9 = .ok (.invokevirtual 124, 3) := by decide +kernel
theorem dX6_writeSerial_12 : decode cX6_writeSerial 12 = .ok (.ifCond .eq 11, 3) := by decide +kernel
theorem dX6_writeSerial_15 : decode cX6_writeSerial 15 = .ok (.aload_n 0, 1) := by decide +kernel
theorem dX6_writeSerial_16 : decode cX6_writeSerial 16 = .ok (.getfield 39, 3) := by decide +kernel
theorem dX6_writeSerial_19 : decode cX6_writeSerial 19 = .ok (.iload_n 1, 1) := by decide +kernel
theorem dX6_writeSerial_20 : decode cX6_writeSerial 20 = .ok (.iload_n 2, 1) := by decide +kernel
theorem dX6_writeSerial_21 : decode cX6_writeSerial 21 = .ok (.iastore, 1) := by decide +kernel
theorem dX6_writeSerial_22 : decode cX6_writeSerial 22 = .ok (.return_, 1) := by decide +kernel
theorem dX6_writeSerial_23 : decode cX6_writeSerial 23 = .ok (.iload_n 1, 1) := by decide +kernel
theorem dX6_writeSerial_24 : decode cX6_writeSerial 24 = .ok (.tableswitch 184 0 6 #[44, 52, 99, 184, 168, 181, 181], 44) := by decide +kernel
theorem dX6_writeSerial_68 : decode cX6_writeSerial 68 = .ok (.aload_n 0, 1) := by decide +kernel
theorem dX6_writeSerial_69 : decode cX6_writeSerial 69 = .ok (.iload_n 2, 1) := by decide +kernel
theorem dX6_writeSerial_70 : decode cX6_writeSerial 70 = .ok (.invokevirtual 168, 3) := by decide +kernel
theorem dX6_writeSerial_73 : decode cX6_writeSerial 73 = .ok (.goto 142, 3) := by decide +kernel
theorem dX6_writeSerial_76 : decode cX6_writeSerial 76 = .ok (.aload_n 0, 1) := by decide +kernel
theorem dX6_writeSerial_77 : decode cX6_writeSerial 77 = .ok (.aload_n 0, 1) := by decide +kernel
theorem dX6_writeSerial_78 : decode cX6_writeSerial 78 = .ok (.getfield 134, 3) := by decide +kernel
theorem dX6_writeSerial_81 : decode cX6_writeSerial 81 = .ok (.ifCond .ne 21, 3) := by decide +kernel
theorem dX6_writeSerial_84 : decode cX6_writeSerial 84 = .ok (.aload_n 0, 1) := by decide +kernel
theorem dX6_writeSerial_85 : decode cX6_writeSerial 85 = .ok (.iconst 1, 1) := by decide +kernel
theorem dX6_writeSerial_86 : decode cX6_writeSerial 86 = .ok (.iconst 1, 1) := by decide +kernel
theorem dX6_writeSerial_87 : decode cX6_writeSerial 87 = .ok (.invokevirtual 124, 3) := by decide +kernel
theorem dX6_writeSerial_90 : decode cX6_writeSerial 90 = .ok (.ifCond .ne 16, 3) := by decide +kernel
theorem dX6_writeSerial_93 : decode cX6_writeSerial 93 = .ok (.iload_n 2, 1) := by decide +kernel
theorem dX6_writeSerial_94 : decode cX6_writeSerial 94 = .ok (.iconst 1, 1) := by decide +kernel
theorem dX6_writeSerial_95 : decode cX6_writeSerial 95 = .ok (.ishr, 1) := by decide +kernel
theorem dX6_writeSerial_96 : decode cX6_writeSerial 96 = .ok (.iconst 1, 1) := by decide +kernel
theorem dX6_writeSerial_97 : decode cX6_writeSerial 97 = .ok (.iand, 1) := by decide +kernel
theorem dX6_writeSerial_98 : decode cX6_writeSerial 98 = .ok (.iconst 1, 1) := by decide +kernel
theorem dX6_writeSerial_99 : decode cX6_writeSerial 99 = .ok (.if_icmp .ne 7, 3) := by decide +kernel
theorem dX6_writeSerial_102 : decode cX6_writeSerial 102 = .ok (.iconst 1, 1) := by decide +kernel
theorem dX6_writeSerial_103 : decode cX6_writeSerial 103 = .ok (.goto 4, 3) := by decide +kernel
theorem dX6_writeSerial_106 : decode cX6_writeSerial 106 = .ok (.iconst 0, 1) := by decide +kernel
theorem dX6_writeSerial_107 : decode cX6_writeSerial 107 = .ok (.putfield 134, 3) := by decide +kernel
theorem dX6_writeSerial_110 : decode cX6_writeSerial 110 = .ok (.aload_n 0, 1) := by decide +kernel
theorem dX6_writeSerial_111 : decode cX6_writeSerial 111 = .ok (.getfield 36, 3) := by decide +kernel
theorem dX6_writeSerial_114 : decode cX6_writeSerial 114 = .ok (.iconst 1, 1) := by decide +kernel
theorem dX6_writeSerial_115 : decode cX6_writeSerial 115 = .ok (.iload_n 2, 1) := by decide +kernel
theorem dX6_writeSerial_116 : decode cX6_writeSerial 116 = .ok (.bipush 15, 2) := by decide +kernel
theorem dX6_writeSerial_118 : decode cX6_writeSerial 118 = .ok (.iand, 1) := by decide +kernel
theorem dX6_writeSerial_119 : decode cX6_writeSerial 119 = .ok (.iastore, 1) := by decide +kernel
theorem dX6_writeSerial_120 : decode cX6_writeSerial 120 = .ok (.goto 95, 3) := by decide +kernel
theorem dX6_writeSerial_123 : decode cX6_writeSerial 123 = .ok (.aload_n 0, 1) := by decide +kernel
theorem dX6_writeSerial_124 : decode cX6_writeSerial 124 = .ok (.getfield 137, 3) := by decide +kernel
theorem dX6_writeSerial_127 : decode cX6_writeSerial 127 = .ok (.iload_n 2, 1) := by decide +kernel
theorem dX6_writeSerial_128 : decode cX6_writeSerial 128 = .ok (.iconst 1, 1) := by decide +kernel
theorem dX6_writeSerial_129 : decode cX6_writeSerial 129 = .ok (.iand, 1) := by decide +kernel
theorem dX6_writeSerial_130 : decode cX6_writeSerial 130 = .ok (.iconst 1, 1) := by decide +kernel
theorem dX6_writeSerial_131 : decode cX6_writeSerial 131 = .ok (.if_icmp .ne 7, 3) := by decide +kernel
theorem dX6_writeSerial_134 : decode cX6_writeSerial 134 = .ok (.iconst 1, 1) := by decide +kernel
theorem dX6_writeSerial_135 : decode cX6_writeSerial 135 = .ok (.goto 4, 3) := by decide +kernel
theorem dX6_writeSerial_138 : decode cX6_writeSerial 138 = .ok (.iconst 0, 1) := by decide +kernel
theorem dX6_writeSerial_139 : decode cX6_writeSerial 139 = .ok (.if_icmp .eq 7, 3) := by decide +kernel
theorem dX6_writeSerial_142 : decode cX6_writeSerial 142 = .ok (.iconst 1, 1) := by decide +kernel
theorem dX6_writeSerial_143 : decode cX6_writeSerial 143 = .ok (.goto 4, 3) := by decide +kernel
theorem dX6_writeSerial_146 : decode cX6_writeSerial 146 = .ok (.iconst 0, 1) := by decide +kernel
theorem dX6_writeSerial_147 : decode cX6_writeSerial 147 = .ok (.istore_n 3, 1) := by decide +kernel
theorem dX6_writeSerial_148 : decode cX6_writeSerial 148 = .ok (.aload_n 0, 1) := by decide +kernel
theorem dX6_writeSerial_149 : decode cX6_writeSerial 149 = .ok (.iload_n 3, 1) := by decide +kernel
theorem dX6_writeSerial_150 : decode cX6_writeSerial 150 = .ok (.ifCond .ne 12, 3) := by decide +kernel
theorem dX6_writeSerial_153 : decode cX6_writeSerial 153 = .ok (.iload_n 2, 1) := by decide +kernel
theorem dX6_writeSerial_154 : decode cX6_writeSerial 154 = .ok (.iconst 1, 1) := by decide +kernel
theorem dX6_writeSerial_155 : decode cX6_writeSerial 155 = .ok (.ishr, 1) := by decide +kernel
theorem dX6_writeSerial_156 : decode cX6_writeSerial 156 = .ok (.iconst 1, 1) := by decide +kernel
theorem dX6_writeSerial_157 : decode cX6_writeSerial 157 = .ok (.iand, 1) := by decide +kernel
theorem dX6_writeSerial_158 : decode cX6_writeSerial 158 = .ok (.iconst 1, 1) := by decide +kernel
theorem dX6_writeSerial_159 : decode cX6_writeSerial 159 = .ok (.if_icmp .ne 7, 3) := by decide +kernel
theorem dX6_writeSerial_162 : decode cX6_writeSerial 162 = .ok (.iconst 0, 1) := by decide +kernel
theorem dX6_writeSerial_163 : decode cX6_writeSerial 163 = .ok (.goto 7, 3) := by decide +kernel
theorem dX6_writeSerial_166 : decode cX6_writeSerial 166 = .ok (.aload_n 0, 1) := by decide +kernel
theorem dX6_writeSerial_167 : decode cX6_writeSerial 167 = .ok (.getfield 131, 3) := by decide +kernel
theorem dX6_writeSerial_170 : decode cX6_writeSerial 170 = .ok (.putfield 131, 3) := by decide +kernel
theorem dX6_writeSerial_173 : decode cX6_writeSerial 173 = .ok (.aload_n 0, 1) := by decide +kernel
theorem dX6_writeSerial_174 : decode cX6_writeSerial 174 = .ok (.iload_n 2, 1) := by decide +kernel
theorem dX6_writeSerial_175 : decode cX6_writeSerial 175 = .ok (.iconst 1, 1) := by decide +kernel
theorem dX6_writeSerial_176 : decode cX6_writeSerial 176 = .ok (.iand, 1) := by decide +kernel
theorem dX6_writeSerial_177 : decode cX6_writeSerial 177 = .ok (.iconst 1, 1) := by decide +kernel
theorem dX6_writeSerial_178 : decode cX6_writeSerial 178 = .ok (.if_icmp .ne 7, 3) := by decide +kernel
theorem dX6_writeSerial_181 : decode cX6_writeSerial 181 = .ok (.iconst 1, 1) := by decide +kernel
theorem dX6_writeSerial_182 : decode cX6_writeSerial 182 = .ok (.goto 4, 3) := by decide +kernel
theorem dX6_writeSerial_185 : decode cX6_writeSerial 185 = .ok (.iconst 0, 1) := by decide +kernel
theorem dX6_writeSerial_186 : decode cX6_writeSerial 186 = .ok (.putfield 137, 3) := by decide +kernel
theorem dX6_writeSerial_189 : decode cX6_writeSerial 189 = .ok (.goto 26, 3) := by decide +kernel
theorem dX6_writeSerial_192 : decode cX6_writeSerial 192 = .ok (.aload_n 0, 1) := by decide +kernel
theorem dX6_writeSerial_193 : decode cX6_writeSerial 193 = .ok (.getfield 36, 3) := by decide +kernel
theorem dX6_writeSerial_196 : decode cX6_writeSerial 196 = .ok (.iconst 4, 1) := by decide +kernel
theorem dX6_writeSerial_197 : decode cX6_writeSerial 197 = .ok (.iload_n 2, 1) := by decide +kernel
theorem dX6_writeSerial_198 : decode cX6_writeSerial 198 = .ok (.bipush 31, 2) := by decide +kernel
theorem dX6_writeSerial_200 : decode cX6_writeSerial 200 = .ok (.iand, 1) := by decide +kernel
theorem dX6_writeSerial_201 : decode cX6_writeSerial 201 = .ok (.iastore, 1) := by decide +kernel
theorem dX6_writeSerial_202 : decode cX6_writeSerial 202 = .ok (.goto 13, 3) := by decide +kernel
theorem dX6_writeSerial_205 : decode cX6_writeSerial 205 = .ok (.goto 10, 3) := by decide +kernel
theorem dX6_writeSerial_208 : decode cX6_writeSerial 208 = .ok (.aload_n 0, 1) := by decide +kernel
theorem dX6_writeSerial_209 : decode cX6_writeSerial 209 = .ok (.getfield 36, 3) := by decide +kernel
theorem dX6_writeSerial_212 : decode cX6_writeSerial 212 = .ok (.iload_n 1, 1) := by decide +kernel
theorem dX6_writeSerial_213 : decode cX6_writeSerial 213 = .ok (.iload_n 2, 1) := by decide +kernel
theorem dX6_writeSerial_214 : decode cX6_writeSerial 214 = .ok (.iastore, 1) := by decide +kernel
theorem dX6_writeSerial_215 : decode cX6_writeSerial 215 = .ok (.return_, 1) := by decide +kernel
theorem dX6_send_0 : decode cX6_send 0 = .ok (.aload_n 0, 1) := by decide +kernel
theorem dX6_send_1 : decode cX6_send 1 = .ok (.iconst 4, 1) := by decide +kernel
theorem dX6_send_2 : decode cX6_send 2 = .ok (.iconst 4, 1) := by decide +kernel
theorem dX6_send_3 : decode cX6_send 3 = .ok (.invokevirtual 124, 3) := by decide +kernel
theorem dX6_send_6 : decode cX6_send 6 = .ok (.ifCond .eq 30, 3) := by decide +kernel
theorem dX6_send_9 : decode cX6_send 9 = .ok (.aload_n 0, 1) := by decide +kernel
theorem dX6_send_10 : decode cX6_send 10 = .ok (.aload_n 0, 1) := by decide +kernel
theorem dX6_send_11 : decode cX6_send 11 = .ok (.iload_n 1, 1) := by decide +kernel
theorem dX6_send_12 : decode cX6_send 12 = .ok (.invokevirtual 161, 3) := by decide +kernel
theorem dX6_send_15 : decode cX6_send 15 = .ok (.ifCond .eq 10, 3) := by decide +kernel
theorem dX6_send_18 : decode cX6_send 18 = .ok (.aload_n 0, 1) := by decide +kernel
theorem dX6_send_19 : decode cX6_send 19 = .ok (.getfield 127, 3) := by decide +kernel
theorem dX6_send_22 : decode cX6_send 22 = .ok (.ifCond .eq 7, 3) := by decide +kernel
theorem dX6_send_25 : decode cX6_send 25 = .ok (.iconst 1, 1) := by decide +kernel
theorem dX6_send_26 : decode cX6_send 26 = .ok (.goto 4, 3) := by decide +kernel
theorem dX6_send_29 : decode cX6_send 29 = .ok (.iconst 0, 1) := by decide +kernel
theorem dX6_send_30 : decode cX6_send 30 = .ok (.putfield 127, 3) := by decide +kernel
theorem dX6_send_33 : decode cX6_send 33 = .ok (.goto 28, 3) := by decide +kernel
theorem dX6_send_36 : decode cX6_send 36 = .ok (.aload_n 0, 1) := by decide +kernel
theorem dX6_send_37 : decode cX6_send 37 = .ok (.getfield 45, 3) := by decide +kernel
theorem dX6_send_40 : decode cX6_send 40 = .ok (.aload_n 0, 1) := by decide +kernel
theorem dX6_send_41 : decode cX6_send 41 = .ok (.getfield 165, 3) := by decide +kernel
theorem dX6_send_44 : decode cX6_send 44 = .ok (.ldc2_w 97, 3) := by decide +kernel
theorem dX6_send_47 : decode cX6_send 47 = .ok (.lrem, 1) := by decide +kernel
theorem dX6_send_48 : decode cX6_send 48 = .ok (.l2i, 1) := by decide +kernel
theorem dX6_send_49 : decode cX6_send 49 = .ok (.iload_n 1, 1) := by decide +kernel
theorem dX6_send_50 : decode cX6_send 50 = .ok (.iastore, 1) := by decide +kernel
theorem dX6_send_51 : decode cX6_send 51 = .ok (.aload_n 0, 1) := by decide +kernel
theorem dX6_send_52 : decode cX6_send 52 = .ok (.aload_n 0, 1) := by decide +kernel
theorem dX6_send_53 : decode cX6_send 53 = .ok (.getfield 165, 3) := by decide +kernel
theorem dX6_send_56 : decode cX6_send 56 = .ok (.lconst 1, 1) := by decide +kernel
theorem dX6_send_57 : decode cX6_send 57 = .ok (.ladd, 1) := by decide +kernel
theorem dX6_send_58 : decode cX6_send 58 = .ok (.putfield 165, 3) := by decide +kernel
theorem dX6_send_61 : decode cX6_send 61 = .ok (.aload_n 0, 1) := by decide +kernel
theorem dX6_send_62 : decode cX6_send 62 = .ok (.iconst 1, 1) := by decide +kernel
theorem dX6_send_63 : decode cX6_send 63 = .ok (.putfield 134, 3) := by decide +kernel
theorem dX6_send_66 : decode cX6_send 66 = .ok (.return_, 1) := by decide +kernel
theorem dX6_takeIn_0 : decode cX6_takeIn 0 = .ok (.aload_n 0, 1) := by decide +kernel
theorem dX6_takeIn_1 : decode cX6_takeIn 1 = .ok (.invokevirtual 140, 3) := by decide +kernel
theorem dX6_takeIn_4 : decode cX6_takeIn 4 = .ok (.ifCond .ne 10, 3) := by decide +kernel
theorem dX6_takeIn_7 : decode cX6_takeIn 7 = .ok (.aload_n 0, 1) := by decide +kernel
theorem dX6_takeIn_8 : decode cX6_takeIn 8 = .ok (.iconst 1, 1) := by decide +kernel
theorem dX6_takeIn_9 : decode cX6_takeIn 9 = .ok (.putfield 127, 3) := by decide +kernel
theorem dX6_takeIn_12 : decode cX6_takeIn 12 = .ok (.iconst 0, 1) := by decide +kernel
theorem dX6_takeIn_13 : decode cX6_takeIn 13 = .ok (.ireturn, 1) := by decide +kernel
theorem dX6_takeIn_14 : decode cX6_takeIn 14 = .ok (.aload_n 0, 1) := by decide +kernel
theorem dX6_takeIn_15 : decode cX6_takeIn 15 = .ok (.getfield 42, 3) := by decide +kernel
theorem dX6_takeIn_18 : decode cX6_takeIn 18 = .ok (.aload_n 0, 1) := by decide +kernel
theorem dX6_takeIn_19 : decode cX6_takeIn 19 = .ok (.getfield 131, 3) := by decide +kernel
theorem dX6_takeIn_22 : decode cX6_takeIn 22 = .ok (.iload_n 1, 1) := by decide +kernel
theorem dX6_takeIn_23 : decode cX6_takeIn 23 = .ok (.sipush 255, 3) := by decide +kernel
theorem dX6_takeIn_26 : decode cX6_takeIn 26 = .ok (.iand, 1) := by decide +kernel
theorem dX6_takeIn_27 : decode cX6_takeIn 27 = .ok (.iastore, 1) := by decide +kernel
theorem dX6_takeIn_28 : decode cX6_takeIn 28 = .ok (.aload_n 0, 1) := by decide +kernel
theorem dX6_takeIn_29 : decode cX6_takeIn 29 = .ok (.aload_n 0, 1) := by decide +kernel
theorem dX6_takeIn_30 : decode cX6_takeIn 30 = .ok (.getfield 131, 3) := by decide +kernel
theorem dX6_takeIn_33 : decode cX6_takeIn 33 = .ok (.iconst 1, 1) := by decide +kernel
theorem dX6_takeIn_34 : decode cX6_takeIn 34 = .ok (.iadd, 1) := by decide +kernel
theorem dX6_takeIn_35 : decode cX6_takeIn 35 = .ok (.putfield 131, 3) := by decide +kernel
theorem dX6_takeIn_38 : decode cX6_takeIn 38 = .ok (.iconst 1, 1) := by decide +kernel
theorem dX6_takeIn_39 : decode cX6_takeIn 39 = .ok (.ireturn, 1) := by decide +kernel
theorem dX6_space_0 : decode cX6_space 0 = .ok (.aload_n 0, 1) := by decide +kernel
theorem dX6_space_1 : decode cX6_space 1 = .ok (.getfield 137, 3) := by decide +kernel
theorem dX6_space_4 : decode cX6_space 4 = .ok (.ifCond .eq 8, 3) := by decide +kernel
theorem dX6_space_7 : decode cX6_space 7 = .ok (.bipush 16, 2) := by decide +kernel
theorem dX6_space_9 : decode cX6_space 9 = .ok (.goto 4, 3) := by decide +kernel
theorem dX6_space_12 : decode cX6_space 12 = .ok (.iconst 1, 1) := by decide +kernel
theorem dX6_space_13 : decode cX6_space 13 = .ok (.aload_n 0, 1) := by decide +kernel
theorem dX6_space_14 : decode cX6_space 14 = .ok (.getfield 131, 3) := by decide +kernel
theorem dX6_space_17 : decode cX6_space 17 = .ok (.isub, 1) := by decide +kernel
theorem dX6_space_18 : decode cX6_space 18 = .ok (.ireturn, 1) := by decide +kernel
theorem dX6_signal_0 : decode cX6_signal 0 = .ok (.aload_n 0, 1) := by decide +kernel
theorem dX6_signal_1 : decode cX6_signal 1 = .ok (.iload_n 1, 1) := by decide +kernel
theorem dX6_signal_2 : decode cX6_signal 2 = .ok (.i2l, 1) := by decide +kernel
theorem dX6_signal_3 : decode cX6_signal 3 = .ok (.invokestatic 118, 3) := by decide +kernel
theorem dX6_signal_6 : decode cX6_signal 6 = .ok (.ifCond .eq 9, 3) := by decide +kernel
theorem dX6_signal_9 : decode cX6_signal 9 = .ok (.iload_n 1, 1) := by decide +kernel
theorem dX6_signal_10 : decode cX6_signal 10 = .ok (.bipush 10, 2) := by decide +kernel
theorem dX6_signal_12 : decode cX6_signal 12 = .ok (.if_icmp .ne 7, 3) := by decide +kernel
theorem dX6_signal_15 : decode cX6_signal 15 = .ok (.iconst 1, 1) := by decide +kernel
theorem dX6_signal_16 : decode cX6_signal 16 = .ok (.goto 4, 3) := by decide +kernel
theorem dX6_signal_19 : decode cX6_signal 19 = .ok (.iconst 0, 1) := by decide +kernel
theorem dX6_signal_20 : decode cX6_signal 20 = .ok (.putfield 54, 3) := by decide +kernel
theorem dX6_signal_23 : decode cX6_signal 23 = .ok (.aload_n 0, 1) := by decide +kernel
theorem dX6_signal_24 : decode cX6_signal 24 = .ok (.getfield 54, 3) := by decide +kernel
theorem dX6_signal_27 : decode cX6_signal 27 = .ok (.ifCond .ne 14, 3) := by decide +kernel
theorem dX6_signal_30 : decode cX6_signal 30 = .ok (.aload_n 0, 1) := by decide +kernel
theorem dX6_signal_31 : decode cX6_signal 31 = .ok (.getfield 17, 3) := by decide +kernel
theorem dX6_signal_34 : decode cX6_signal 34 = .ok (.iload_n 1, 1) := by decide +kernel
theorem dX6_signal_35 : decode cX6_signal 35 = .ok (.iload_n 2, 1) := by decide +kernel
theorem dX6_signal_36 : decode cX6_signal 36 = .ok (.bastore, 1) := by decide +kernel
theorem dX6_signal_37 : decode cX6_signal 37 = .ok (.aload_n 0, 1) := by decide +kernel
theorem dX6_signal_38 : decode cX6_signal 38 = .ok (.invokevirtual 187, 3) := by decide +kernel
theorem dX6_signal_41 : decode cX6_signal 41 = .ok (.return_, 1) := by decide +kernel
theorem dX6_come_0 : decode cX6_come 0 = .ok (.aload_n 0, 1) := by decide +kernel
theorem dX6_come_1 : decode cX6_come 1 = .ok (.iconst 0, 1) := by decide +kernel
theorem dX6_come_2 : decode cX6_come 2 = .ok (.putfield 54, 3) := by decide +kernel
theorem dX6_come_5 : decode cX6_come 5 = .ok (.aload_n 0, 1) := by decide +kernel
theorem dX6_come_6 : decode cX6_come 6 = .ok (.iload_n 1, 1) := by decide +kernel
theorem dX6_come_7 : decode cX6_come 7 = .ok (.invokevirtual 161, 3) := by decide +kernel
theorem dX6_come_10 : decode cX6_come 10 = .ok (.istore_n 2, 1) := by decide +kernel
theorem dX6_come_11 : decode cX6_come 11 = .ok (.aload_n 0, 1) := by decide +kernel
theorem dX6_come_12 : decode cX6_come 12 = .ok (.invokevirtual 187, 3) := by decide +kernel
theorem dX6_come_15 : decode cX6_come 15 = .ok (.iload_n 2, 1) := by decide +kernel
theorem dX6_come_16 : decode cX6_come 16 = .ok (.ireturn, 1) := by decide +kernel
theorem dX6_room_0 : decode cX6_room 0 = .ok (.aload_n 0, 1) := by decide +kernel
theorem dX6_room_1 : decode cX6_room 1 = .ok (.iconst 0, 1) := by decide +kernel
theorem dX6_room_2 : decode cX6_room 2 = .ok (.putfield 54, 3) := by decide +kernel
theorem dX6_room_5 : decode cX6_room 5 = .ok (.aload_n 0, 1) := by decide +kernel
theorem dX6_room_6 : decode cX6_room 6 = .ok (.invokevirtual 140, 3) := by decide +kernel
theorem dX6_room_9 : decode cX6_room 9 = .ok (.ireturn, 1) := by decide +kernel
theorem dX6_pass_0 : decode cX6_pass 0 = .ok (.aload_n 0, 1) := by decide +kernel
theorem dX6_pass_1 : decode cX6_pass 1 = .ok (.iconst 0, 1) := by decide +kernel
theorem dX6_pass_2 : decode cX6_pass 2 = .ok (.putfield 54, 3) := by decide +kernel
theorem dX6_pass_5 : decode cX6_pass 5 = .ok (.aload_n 0, 1) := by decide +kernel
theorem dX6_pass_6 : decode cX6_pass 6 = .ok (.aload_n 0, 1) := by decide +kernel
theorem dX6_pass_7 : decode cX6_pass 7 = .ok (.getfield 65, 3) := by decide +kernel
theorem dX6_pass_10 : decode cX6_pass 10 = .ok (.lload_n 1, 1) := by decide +kernel
theorem dX6_pass_11 : decode cX6_pass 11 = .ok (.ladd, 1) := by decide +kernel
theorem dX6_pass_12 : decode cX6_pass 12 = .ok (.putfield 65, 3) := by decide +kernel
theorem dX6_pass_15 : decode cX6_pass 15 = .ok (.return_, 1) := by decide +kernel
theorem dX6_line_0 : decode cX6_line 0 = .ok (.aload_n 0, 1) := by decide +kernel
theorem dX6_line_1 : decode cX6_line 1 = .ok (.iload_n 1, 1) := by decide +kernel
theorem dX6_line_2 : decode cX6_line 2 = .ok (.ifCond .lt 34, 3) := by decide +kernel
theorem dX6_line_5 : decode cX6_line 5 = .ok (.iload_n 1, 1) := by decide +kernel
theorem dX6_line_6 : decode cX6_line 6 = .ok (.aload_n 0, 1) := by decide +kernel
theorem dX6_line_7 : decode cX6_line 7 = .ok (.getfield 48, 3) := by decide +kernel
theorem dX6_line_10 : decode cX6_line 10 = .ok (.if_icmp .ge 26, 3) := by decide +kernel
theorem dX6_line_13 : decode cX6_line 13 = .ok (.iload_n 2, 1) := by decide +kernel
theorem dX6_line_14 : decode cX6_line 14 = .ok (.iconst 3, 1) := by decide +kernel
theorem dX6_line_15 : decode cX6_line 15 = .ok (.if_icmp .eq 25, 3) := by decide +kernel
theorem dX6_line_18 : decode cX6_line 18 = .ok (.iload_n 2, 1) := by decide +kernel
theorem dX6_line_19 : decode cX6_line 19 = .ok (.bipush 7, 2) := by decide +kernel
theorem dX6_line_21 : decode cX6_line 21 = .ok (.if_icmp .eq 19, 3) := by decide +kernel
theorem dX6_line_24 : decode cX6_line 24 = .ok (.iload_n 2, 1) := by decide +kernel
theorem dX6_line_25 : decode cX6_line 25 = .ok (.bipush 9, 2) := by decide +kernel
theorem dX6_line_27 : decode cX6_line 27 = .ok (.if_icmp .eq 13, 3) := by decide +kernel
theorem dX6_line_30 : decode cX6_line 30 = .ok (.iload_n 2, 1) := by decide +kernel
theorem dX6_line_31 : decode cX6_line 31 = .ok (.bipush 11, 2) := by decide +kernel
theorem dX6_line_33 : decode cX6_line 33 = .ok (.if_icmp .eq 7, 3) := by decide +kernel
theorem dX6_line_36 : decode cX6_line 36 = .ok (.iconst 1, 1) := by decide +kernel
theorem dX6_line_37 : decode cX6_line 37 = .ok (.goto 4, 3) := by decide +kernel
theorem dX6_line_40 : decode cX6_line 40 = .ok (.iconst 0, 1) := by decide +kernel
theorem dX6_line_41 : decode cX6_line 41 = .ok (.putfield 54, 3) := by decide +kernel
theorem dX6_line_44 : decode cX6_line 44 = .ok (.aload_n 0, 1) := by decide +kernel
theorem dX6_line_45 : decode cX6_line 45 = .ok (.getfield 54, 3) := by decide +kernel
theorem dX6_line_48 : decode cX6_line 48 = .ok (.ifCond .le 5, 3) := by decide +kernel
theorem dX6_line_51 : decode cX6_line 51 = .ok (.iconst 0, 1) := by decide +kernel
theorem dX6_line_52 : decode cX6_line 52 = .ok (.ireturn, 1) := by decide +kernel
theorem dX6_line_53 : decode cX6_line 53 = .ok (.iload_n 2, 1) := by decide +kernel
theorem dX6_line_54 : decode cX6_line 54 = .ok (.iconst 3, 1) := by decide +kernel
theorem dX6_line_55 : decode cX6_line 55 = .ok (.if_icmp .ne 12, 3) := by decide +kernel
theorem dX6_line_58 : decode cX6_line 58 = .ok (.aload_n 0, 1) := by decide +kernel
theorem dX6_line_59 : decode cX6_line 59 = .ok (.getfield 7, 3) := by decide +kernel
theorem dX6_line_62 : decode cX6_line 62 = .ok (.iload_n 1, 1) := by decide +kernel
theorem dX6_line_63 : decode cX6_line 63 = .ok (.baload, 1) := by decide +kernel
theorem dX6_line_64 : decode cX6_line 64 = .ok (.goto 52, 3) := by decide +kernel
theorem dX6_line_67 : decode cX6_line 67 = .ok (.iload_n 2, 1) := by decide +kernel
theorem dX6_line_68 : decode cX6_line 68 = .ok (.bipush 7, 2) := by decide +kernel
theorem dX6_line_70 : decode cX6_line 70 = .ok (.if_icmp .ne 27, 3) := by decide +kernel
theorem dX6_line_73 : decode cX6_line 73 = .ok (.aload_n 0, 1) := by decide +kernel
theorem dX6_line_74 : decode cX6_line 74 = .ok (.getfield 65, 3) := by decide +kernel
theorem dX6_line_77 : decode cX6_line 77 = .ok (.aload_n 0, 1) := by decide +kernel
theorem dX6_line_78 : decode cX6_line 78 = .ok (.getfield 13, 3) := by decide +kernel
theorem dX6_line_81 : decode cX6_line 81 = .ok (.iload_n 1, 1) := by decide +kernel
theorem dX6_line_82 : decode cX6_line 82 = .ok (.laload, 1) := by decide +kernel
theorem dX6_line_83 : decode cX6_line 83 = .ok (.invokestatic 204, 3) := by decide +kernel
theorem dX6_line_86 : decode cX6_line 86 = .ok (.ifCond .ne 7, 3) := by decide +kernel
theorem dX6_line_89 : decode cX6_line 89 = .ok (.iconst 1, 1) := by decide +kernel
theorem dX6_line_90 : decode cX6_line 90 = .ok (.goto 26, 3) := by decide +kernel
theorem dX6_line_93 : decode cX6_line 93 = .ok (.iconst 0, 1) := by decide +kernel
theorem dX6_line_94 : decode cX6_line 94 = .ok (.goto 22, 3) := by decide +kernel
theorem dX6_line_97 : decode cX6_line 97 = .ok (.aload_n 0, 1) := by decide +kernel
theorem dX6_line_98 : decode cX6_line 98 = .ok (.iconst 2, 1) := by decide +kernel
theorem dX6_line_99 : decode cX6_line 99 = .ok (.iload_n 1, 1) := by decide +kernel
theorem dX6_line_100 : decode cX6_line 100 = .ok (.imul, 1) := by decide +kernel
theorem dX6_line_101 : decode cX6_line 101 = .ok (.iload_n 2, 1) := by decide +kernel
theorem dX6_line_102 : decode cX6_line 102 = .ok (.bipush 9, 2) := by decide +kernel
theorem dX6_line_104 : decode cX6_line 104 = .ok (.if_icmp .ne 7, 3) := by decide +kernel
theorem dX6_line_107 : decode cX6_line 107 = .ok (.iconst 1, 1) := by decide +kernel
theorem dX6_line_108 : decode cX6_line 108 = .ok (.goto 4, 3) := by decide +kernel
theorem dX6_line_111 : decode cX6_line 111 = .ok (.iconst 0, 1) := by decide +kernel
theorem dX6_line_112 : decode cX6_line 112 = .ok (.iadd, 1) := by decide +kernel
theorem dX6_line_113 : decode cX6_line 113 = .ok (.invokevirtual 208, 3) := by decide +kernel
theorem dX6_line_116 : decode cX6_line 116 = .ok (.ireturn, 1) := by decide +kernel

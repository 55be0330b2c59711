theorem d_Mo_tellAll_0 : decode cb_Mo_tellAll 0 = .ok (.iconst 0, 1) := by decide +kernel
theorem d_Mo_tellAll_1 : decode cb_Mo_tellAll 1 = .ok (.istore_n 2, 1) := by decide +kernel
theorem d_Mo_tellAll_2 : decode cb_Mo_tellAll 2 = .ok (.iload_n 2, 1) := by decide +kernel
theorem d_Mo_tellAll_3 : decode cb_Mo_tellAll 3 = .ok (.aload_n 0, 1) := by decide +kernel
theorem d_Mo_tellAll_4 : decode cb_Mo_tellAll 4 = .ok (.getfield 242, 3) := by decide +kernel
theorem d_Mo_tellAll_7 : decode cb_Mo_tellAll 7 = .ok (.if_icmp .ge 24, 3) := by decide +kernel
theorem d_Mo_tellAll_10 : decode cb_Mo_tellAll 10 = .ok (.aload_n 0, 1) := by decide +kernel
theorem d_Mo_tellAll_11 : decode cb_Mo_tellAll 11 = .ok (.getfield 105, 3) := by decide +kernel
theorem d_Mo_tellAll_14 : decode cb_Mo_tellAll 14 = .ok (.iload_n 2, 1) := by decide +kernel
theorem d_Mo_tellAll_15 : decode cb_Mo_tellAll 15 = .ok (.iaload, 1) := by decide +kernel
theorem d_Mo_tellAll_16 : decode cb_Mo_tellAll 16 = .ok (.iload_n 1, 1) := by decide +kernel
theorem d_Mo_tellAll_17 : decode cb_Mo_tellAll 17 = .ok (.if_icmp .ne 8, 3) := by decide +kernel
theorem d_Mo_tellAll_20 : decode cb_Mo_tellAll 20 = .ok (.aload_n 0, 1) := by decide +kernel
theorem d_Mo_tellAll_21 : decode cb_Mo_tellAll 21 = .ok (.iload_n 2, 1) := by decide +kernel
theorem d_Mo_tellAll_22 : decode cb_Mo_tellAll 22 = .ok (.invokevirtual 251, 3) := by decide +kernel
theorem d_Mo_tellAll_25 : decode cb_Mo_tellAll 25 = .ok (.iinc 2 1, 3) := by decide +kernel
theorem d_Mo_tellAll_28 : decode cb_Mo_tellAll 28 = .ok (.goto (-26), 3) := by decide +kernel
theorem d_Mo_tellAll_31 : decode cb_Mo_tellAll 31 = .ok (.return_, 1) := by decide +kernel
theorem d_Mo_registers_0 : decode cb_Mo_registers 0 = .ok (.iload_n 2, 1) := by decide +kernel
theorem d_Mo_registers_1 : decode cb_Mo_registers 1 = .ok (.ifCond .ne 10, 3) := by decide +kernel
theorem d_Mo_registers_4 : decode cb_Mo_registers 4 = .ok (.aload_n 0, 1) := by decide +kernel
theorem d_Mo_registers_5 : decode cb_Mo_registers 5 = .ok (.getfield 166, 3) := by decide +kernel
theorem d_Mo_registers_8 : decode cb_Mo_registers 8 = .ok (.ifCond .eq 5, 3) := by decide +kernel
theorem d_Mo_registers_11 : decode cb_Mo_registers 11 = .ok (.iconst 0, 1) := by decide +kernel
theorem d_Mo_registers_12 : decode cb_Mo_registers 12 = .ok (.ireturn, 1) := by decide +kernel
theorem d_Mo_registers_13 : decode cb_Mo_registers 13 = .ok (.aload_n 0, 1) := by decide +kernel
theorem d_Mo_registers_14 : decode cb_Mo_registers 14 = .ok (.aload_n 0, 1) := by decide +kernel
theorem d_Mo_registers_15 : decode cb_Mo_registers 15 = .ok (.getfield 188, 3) := by decide +kernel
theorem d_Mo_registers_18 : decode cb_Mo_registers 18 = .ok (.invokevirtual 254, 3) := by decide +kernel
theorem d_Mo_registers_21 : decode cb_Mo_registers 21 = .ok (.istore 4, 2) := by decide +kernel
theorem d_Mo_registers_23 : decode cb_Mo_registers 23 = .ok (.iload 4, 2) := by decide +kernel
theorem d_Mo_registers_25 : decode cb_Mo_registers 25 = .ok (.ifCond .ge 13, 3) := by decide +kernel
theorem d_Mo_registers_28 : decode cb_Mo_registers 28 = .ok (.aload_n 0, 1) := by decide +kernel
theorem d_Mo_registers_29 : decode cb_Mo_registers 29 = .ok (.getfield 242, 3) := by decide +kernel
theorem d_Mo_registers_32 : decode cb_Mo_registers 32 = .ok (.iconst 2, 1) := by decide +kernel
theorem d_Mo_registers_33 : decode cb_Mo_registers 33 = .ok (.if_icmp .ne 5, 3) := by decide +kernel
theorem d_Mo_registers_36 : decode cb_Mo_registers 36 = .ok (.iconst 0, 1) := by decide +kernel
theorem d_Mo_registers_37 : decode cb_Mo_registers 37 = .ok (.ireturn, 1) := by decide +kernel
theorem d_Mo_registers_38 : decode cb_Mo_registers 38 = .ok (.iload 4, 2) := by decide +kernel
theorem d_Mo_registers_40 : decode cb_Mo_registers 40 = .ok (.ifCond .ge 19, 3) := by decide +kernel
theorem d_Mo_registers_43 : decode cb_Mo_registers 43 = .ok (.aload_n 0, 1) := by decide +kernel
theorem d_Mo_registers_44 : decode cb_Mo_registers 44 = .ok (.getfield 242, 3) := by decide +kernel
theorem d_Mo_registers_47 : decode cb_Mo_registers 47 = .ok (.istore 4, 2) := by decide +kernel
theorem d_Mo_registers_49 : decode cb_Mo_registers 49 = .ok (.aload_n 0, 1) := by decide +kernel
theorem d_Mo_registers_50 : decode cb_Mo_registers 50 = .ok (.dup, 1) := by decide +kernel
theorem d_Mo_registers_51 : decode cb_Mo_registers 51 = .ok (.getfield 242, 3) := by decide +kernel
theorem d_Mo_registers_54 : decode cb_Mo_registers 54 = .ok (.iconst 1, 1) := by decide +kernel
theorem d_Mo_registers_55 : decode cb_Mo_registers 55 = .ok (.iadd, 1) := by decide +kernel
theorem d_Mo_registers_56 : decode cb_Mo_registers 56 = .ok (.putfield 242, 3) := by decide +kernel
theorem d_Mo_registers_59 : decode cb_Mo_registers 59 = .ok (.aload_n 0, 1) := by decide +kernel
theorem d_Mo_registers_60 : decode cb_Mo_registers 60 = .ok (.getfield 102, 3) := by decide +kernel
theorem d_Mo_registers_63 : decode cb_Mo_registers 63 = .ok (.iload 4, 2) := by decide +kernel
theorem d_Mo_registers_65 : decode cb_Mo_registers 65 = .ok (.aload_n 0, 1) := by decide +kernel
theorem d_Mo_registers_66 : decode cb_Mo_registers 66 = .ok (.getfield 188, 3) := by decide +kernel
theorem d_Mo_registers_69 : decode cb_Mo_registers 69 = .ok (.iastore, 1) := by decide +kernel
theorem d_Mo_registers_70 : decode cb_Mo_registers 70 = .ok (.aload_n 0, 1) := by decide +kernel
theorem d_Mo_registers_71 : decode cb_Mo_registers 71 = .ok (.getfield 105, 3) := by decide +kernel
theorem d_Mo_registers_74 : decode cb_Mo_registers 74 = .ok (.iload 4, 2) := by decide +kernel
theorem d_Mo_registers_76 : decode cb_Mo_registers 76 = .ok (.iload_n 1, 1) := by decide +kernel
theorem d_Mo_registers_77 : decode cb_Mo_registers 77 = .ok (.iastore, 1) := by decide +kernel
theorem d_Mo_registers_78 : decode cb_Mo_registers 78 = .ok (.aload_n 0, 1) := by decide +kernel
theorem d_Mo_registers_79 : decode cb_Mo_registers 79 = .ok (.getfield 108, 3) := by decide +kernel
theorem d_Mo_registers_82 : decode cb_Mo_registers 82 = .ok (.iload 4, 2) := by decide +kernel
theorem d_Mo_registers_84 : decode cb_Mo_registers 84 = .ok (.iload_n 3, 1) := by decide +kernel
theorem d_Mo_registers_85 : decode cb_Mo_registers 85 = .ok (.iastore, 1) := by decide +kernel
theorem d_Mo_registers_86 : decode cb_Mo_registers 86 = .ok (.aload_n 0, 1) := by decide +kernel
theorem d_Mo_registers_87 : decode cb_Mo_registers 87 = .ok (.getfield 111, 3) := by decide +kernel
theorem d_Mo_registers_90 : decode cb_Mo_registers 90 = .ok (.iload 4, 2) := by decide +kernel
theorem d_Mo_registers_92 : decode cb_Mo_registers 92 = .ok (.iconst 0, 1) := by decide +kernel
theorem d_Mo_registers_93 : decode cb_Mo_registers 93 = .ok (.bastore, 1) := by decide +kernel
theorem d_Mo_registers_94 : decode cb_Mo_registers 94 = .ok (.aload_n 0, 1) := by decide +kernel
theorem d_Mo_registers_95 : decode cb_Mo_registers 95 = .ok (.getfield 26, 3) := by decide +kernel
theorem d_Mo_registers_98 : decode cb_Mo_registers 98 = .ok (.iconst 2, 1) := by decide +kernel
theorem d_Mo_registers_99 : decode cb_Mo_registers 99 = .ok (.iload 4, 2) := by decide +kernel
theorem d_Mo_registers_101 : decode cb_Mo_registers 101 = .ok (.iadd, 1) := by decide +kernel
theorem d_Mo_registers_102 : decode cb_Mo_registers 102 = .ok (.iconst 0, 1) := by decide +kernel
theorem d_Mo_registers_103 : decode cb_Mo_registers 103 = .ok (.bastore, 1) := by decide +kernel
theorem d_Mo_registers_104 : decode cb_Mo_registers 104 = .ok (.aload_n 0, 1) := by decide +kernel
theorem d_Mo_registers_105 : decode cb_Mo_registers 105 = .ok (.aload_n 0, 1) := by decide +kernel
theorem d_Mo_registers_106 : decode cb_Mo_registers 106 = .ok (.getfield 245, 3) := by decide +kernel
theorem d_Mo_registers_109 : decode cb_Mo_registers 109 = .ok (.iconst 1, 1) := by decide +kernel
theorem d_Mo_registers_110 : decode cb_Mo_registers 110 = .ok (.iadd, 1) := by decide +kernel
theorem d_Mo_registers_111 : decode cb_Mo_registers 111 = .ok (.ldc 225, 2) := by decide +kernel
theorem d_Mo_registers_113 : decode cb_Mo_registers 113 = .ok (.irem, 1) := by decide +kernel
theorem d_Mo_registers_114 : decode cb_Mo_registers 114 = .ok (.putfield 245, 3) := by decide +kernel
theorem d_Mo_registers_117 : decode cb_Mo_registers 117 = .ok (.iconst 1, 1) := by decide +kernel
theorem d_Mo_registers_118 : decode cb_Mo_registers 118 = .ok (.ireturn, 1) := by decide +kernel
theorem d_Mo_answerGet_0 : decode cb_Mo_answerGet 0 = .ok (.aload_n 0, 1) := by decide +kernel
theorem d_Mo_answerGet_1 : decode cb_Mo_answerGet 1 = .ok (.getfield 169, 3) := by decide +kernel
theorem d_Mo_answerGet_4 : decode cb_Mo_answerGet 4 = .ok (.bipush 16, 2) := by decide +kernel
theorem d_Mo_answerGet_6 : decode cb_Mo_answerGet 6 = .ok (.idiv, 1) := by decide +kernel
theorem d_Mo_answerGet_7 : decode cb_Mo_answerGet 7 = .ok (.istore_n 2, 1) := by decide +kernel
theorem d_Mo_answerGet_8 : decode cb_Mo_answerGet 8 = .ok (.aload_n 0, 1) := by decide +kernel
theorem d_Mo_answerGet_9 : decode cb_Mo_answerGet 9 = .ok (.getfield 169, 3) := by decide +kernel
theorem d_Mo_answerGet_12 : decode cb_Mo_answerGet 12 = .ok (.bipush 8, 2) := by decide +kernel
theorem d_Mo_answerGet_14 : decode cb_Mo_answerGet 14 = .ok (.irem, 1) := by decide +kernel
theorem d_Mo_answerGet_15 : decode cb_Mo_answerGet 15 = .ok (.istore_n 3, 1) := by decide +kernel
theorem d_Mo_answerGet_16 : decode cb_Mo_answerGet 16 = .ok (.iload_n 2, 1) := by decide +kernel
theorem d_Mo_answerGet_17 : decode cb_Mo_answerGet 17 = .ok (.ifCond .eq 39, 3) := by decide +kernel
theorem d_Mo_answerGet_20 : decode cb_Mo_answerGet 20 = .ok (.iload_n 2, 1) := by decide +kernel
theorem d_Mo_answerGet_21 : decode cb_Mo_answerGet 21 = .ok (.iload_n 3, 1) := by decide +kernel
theorem d_Mo_answerGet_22 : decode cb_Mo_answerGet 22 = .ok (.invokestatic 152, 3) := by decide +kernel
theorem d_Mo_answerGet_25 : decode cb_Mo_answerGet 25 = .ok (.imul, 1) := by decide +kernel
theorem d_Mo_answerGet_26 : decode cb_Mo_answerGet 26 = .ok (.aload_n 0, 1) := by decide +kernel
theorem d_Mo_answerGet_27 : decode cb_Mo_answerGet 27 = .ok (.getfield 93, 3) := by decide +kernel
theorem d_Mo_answerGet_30 : decode cb_Mo_answerGet 30 = .ok (.iload_n 1, 1) := by decide +kernel
theorem d_Mo_answerGet_31 : decode cb_Mo_answerGet 31 = .ok (.iaload, 1) := by decide +kernel
theorem d_Mo_answerGet_32 : decode cb_Mo_answerGet 32 = .ok (.if_icmp .lt 24, 3) := by decide +kernel
theorem d_Mo_answerGet_35 : decode cb_Mo_answerGet 35 = .ok (.aload_n 0, 1) := by decide +kernel
theorem d_Mo_answerGet_36 : decode cb_Mo_answerGet 36 = .ok (.iconst 2, 1) := by decide +kernel
theorem d_Mo_answerGet_37 : decode cb_Mo_answerGet 37 = .ok (.sipush 130, 3) := by decide +kernel
theorem d_Mo_answerGet_40 : decode cb_Mo_answerGet 40 = .ok (.aload_n 0, 1) := by decide +kernel
theorem d_Mo_answerGet_41 : decode cb_Mo_answerGet 41 = .ok (.getfield 197, 3) := by decide +kernel
theorem d_Mo_answerGet_44 : decode cb_Mo_answerGet 44 = .ok (.invokevirtual 162, 3) := by decide +kernel
theorem d_Mo_answerGet_47 : decode cb_Mo_answerGet 47 = .ok (.aload_n 0, 1) := by decide +kernel
theorem d_Mo_answerGet_48 : decode cb_Mo_answerGet 48 = .ok (.aload_n 0, 1) := by decide +kernel
theorem d_Mo_answerGet_49 : decode cb_Mo_answerGet 49 = .ok (.getfield 188, 3) := by decide +kernel
theorem d_Mo_answerGet_52 : decode cb_Mo_answerGet 52 = .ok (.invokevirtual 144, 3) := by decide +kernel
theorem d_Mo_answerGet_55 : decode cb_Mo_answerGet 55 = .ok (.return_, 1) := by decide +kernel
theorem d_Mo_answerGet_56 : decode cb_Mo_answerGet 56 = .ok (.aload_n 0, 1) := by decide +kernel
theorem d_Mo_answerGet_57 : decode cb_Mo_answerGet 57 = .ok (.iload_n 1, 1) := by decide +kernel
theorem d_Mo_answerGet_58 : decode cb_Mo_answerGet 58 = .ok (.iload_n 2, 1) := by decide +kernel
theorem d_Mo_answerGet_59 : decode cb_Mo_answerGet 59 = .ok (.iload_n 3, 1) := by decide +kernel
theorem d_Mo_answerGet_60 : decode cb_Mo_answerGet 60 = .ok (.invokevirtual 257, 3) := by decide +kernel
theorem d_Mo_answerGet_63 : decode cb_Mo_answerGet 63 = .ok (.istore 4, 2) := by decide +kernel
theorem d_Mo_answerGet_65 : decode cb_Mo_answerGet 65 = .ok (.iload_n 2, 1) := by decide +kernel
theorem d_Mo_answerGet_66 : decode cb_Mo_answerGet 66 = .ok (.ifCond .ne 38, 3) := by decide +kernel
theorem d_Mo_answerGet_69 : decode cb_Mo_answerGet 69 = .ok (.aload_n 0, 1) := by decide +kernel
theorem d_Mo_answerGet_70 : decode cb_Mo_answerGet 70 = .ok (.getfield 166, 3) := by decide +kernel
theorem d_Mo_answerGet_73 : decode cb_Mo_answerGet 73 = .ok (.iconst 1, 1) := by decide +kernel
theorem d_Mo_answerGet_74 : decode cb_Mo_answerGet 74 = .ok (.if_icmp .ne 30, 3) := by decide +kernel
theorem d_Mo_answerGet_77 : decode cb_Mo_answerGet 77 = .ok (.aload_n 0, 1) := by decide +kernel
theorem d_Mo_answerGet_78 : decode cb_Mo_answerGet 78 = .ok (.aload_n 0, 1) := by decide +kernel
theorem d_Mo_answerGet_79 : decode cb_Mo_answerGet 79 = .ok (.getfield 188, 3) := by decide +kernel
theorem d_Mo_answerGet_82 : decode cb_Mo_answerGet 82 = .ok (.invokevirtual 254, 3) := by decide +kernel
theorem d_Mo_answerGet_85 : decode cb_Mo_answerGet 85 = .ok (.ifCond .lt 19, 3) := by decide +kernel
theorem d_Mo_answerGet_88 : decode cb_Mo_answerGet 88 = .ok (.aload_n 0, 1) := by decide +kernel
theorem d_Mo_answerGet_89 : decode cb_Mo_answerGet 89 = .ok (.aload_n 0, 1) := by decide +kernel
theorem d_Mo_answerGet_90 : decode cb_Mo_answerGet 90 = .ok (.getfield 188, 3) := by decide +kernel
theorem d_Mo_answerGet_93 : decode cb_Mo_answerGet 93 = .ok (.invokevirtual 254, 3) := by decide +kernel
theorem d_Mo_answerGet_96 : decode cb_Mo_answerGet 96 = .ok (.istore 5, 2) := by decide +kernel
theorem d_Mo_answerGet_98 : decode cb_Mo_answerGet 98 = .ok (.aload_n 0, 1) := by decide +kernel
theorem d_Mo_answerGet_99 : decode cb_Mo_answerGet 99 = .ok (.iload 5, 2) := by decide +kernel
theorem d_Mo_answerGet_101 : decode cb_Mo_answerGet 101 = .ok (.invokevirtual 260, 3) := by decide +kernel
theorem d_Mo_answerGet_104 : decode cb_Mo_answerGet 104 = .ok (.aload_n 0, 1) := by decide +kernel
theorem d_Mo_answerGet_105 : decode cb_Mo_answerGet 105 = .ok (.iconst 2, 1) := by decide +kernel
theorem d_Mo_answerGet_106 : decode cb_Mo_answerGet 106 = .ok (.bipush 69, 2) := by decide +kernel
theorem d_Mo_answerGet_108 : decode cb_Mo_answerGet 108 = .ok (.aload_n 0, 1) := by decide +kernel
theorem d_Mo_answerGet_109 : decode cb_Mo_answerGet 109 = .ok (.getfield 197, 3) := by decide +kernel
theorem d_Mo_answerGet_112 : decode cb_Mo_answerGet 112 = .ok (.invokevirtual 162, 3) := by decide +kernel
theorem d_Mo_answerGet_115 : decode cb_Mo_answerGet 115 = .ok (.aload_n 0, 1) := by decide +kernel
theorem d_Mo_answerGet_116 : decode cb_Mo_answerGet 116 = .ok (.aload_n 0, 1) := by decide +kernel
theorem d_Mo_answerGet_117 : decode cb_Mo_answerGet 117 = .ok (.getfield 188, 3) := by decide +kernel
theorem d_Mo_answerGet_120 : decode cb_Mo_answerGet 120 = .ok (.invokevirtual 144, 3) := by decide +kernel
theorem d_Mo_answerGet_123 : decode cb_Mo_answerGet 123 = .ok (.iload 4, 2) := by decide +kernel
theorem d_Mo_answerGet_125 : decode cb_Mo_answerGet 125 = .ok (.ifCond .eq 13, 3) := by decide +kernel
theorem d_Mo_answerGet_128 : decode cb_Mo_answerGet 128 = .ok (.aload_n 0, 1) := by decide +kernel
theorem d_Mo_answerGet_129 : decode cb_Mo_answerGet 129 = .ok (.bipush 6, 2) := by decide +kernel
theorem d_Mo_answerGet_131 : decode cb_Mo_answerGet 131 = .ok (.aload_n 0, 1) := by decide +kernel
theorem d_Mo_answerGet_132 : decode cb_Mo_answerGet 132 = .ok (.getfield 245, 3) := by decide +kernel
theorem d_Mo_answerGet_135 : decode cb_Mo_answerGet 135 = .ok (.invokevirtual 209, 3) := by decide +kernel
theorem d_Mo_answerGet_138 : decode cb_Mo_answerGet 138 = .ok (.aload_n 0, 1) := by decide +kernel
theorem d_Mo_answerGet_139 : decode cb_Mo_answerGet 139 = .ok (.bipush 23, 2) := by decide +kernel
theorem d_Mo_answerGet_141 : decode cb_Mo_answerGet 141 = .ok (.bipush 16, 2) := by decide +kernel
theorem d_Mo_answerGet_143 : decode cb_Mo_answerGet 143 = .ok (.iload_n 2, 1) := by decide +kernel
theorem d_Mo_answerGet_144 : decode cb_Mo_answerGet 144 = .ok (.imul, 1) := by decide +kernel
theorem d_Mo_answerGet_145 : decode cb_Mo_answerGet 145 = .ok (.bipush 8, 2) := by decide +kernel
theorem d_Mo_answerGet_147 : decode cb_Mo_answerGet 147 = .ok (.aload_n 0, 1) := by decide +kernel
theorem d_Mo_answerGet_148 : decode cb_Mo_answerGet 148 = .ok (.getfield 93, 3) := by decide +kernel
theorem d_Mo_answerGet_151 : decode cb_Mo_answerGet 151 = .ok (.iload_n 1, 1) := by decide +kernel
theorem d_Mo_answerGet_152 : decode cb_Mo_answerGet 152 = .ok (.iaload, 1) := by decide +kernel
theorem d_Mo_answerGet_153 : decode cb_Mo_answerGet 153 = .ok (.iload_n 2, 1) := by decide +kernel
theorem d_Mo_answerGet_154 : decode cb_Mo_answerGet 154 = .ok (.iload_n 3, 1) := by decide +kernel
theorem d_Mo_answerGet_155 : decode cb_Mo_answerGet 155 = .ok (.invokestatic 215, 3) := by decide +kernel
theorem d_Mo_answerGet_158 : decode cb_Mo_answerGet 158 = .ok (.imul, 1) := by decide +kernel
theorem d_Mo_answerGet_159 : decode cb_Mo_answerGet 159 = .ok (.iadd, 1) := by decide +kernel
theorem d_Mo_answerGet_160 : decode cb_Mo_answerGet 160 = .ok (.iload_n 3, 1) := by decide +kernel
theorem d_Mo_answerGet_161 : decode cb_Mo_answerGet 161 = .ok (.iadd, 1) := by decide +kernel
theorem d_Mo_answerGet_162 : decode cb_Mo_answerGet 162 = .ok (.invokevirtual 209, 3) := by decide +kernel
theorem d_Mo_answerGet_165 : decode cb_Mo_answerGet 165 = .ok (.aload_n 0, 1) := by decide +kernel
theorem d_Mo_answerGet_166 : decode cb_Mo_answerGet 166 = .ok (.iload_n 1, 1) := by decide +kernel
theorem d_Mo_answerGet_167 : decode cb_Mo_answerGet 167 = .ok (.iload_n 2, 1) := by decide +kernel
theorem d_Mo_answerGet_168 : decode cb_Mo_answerGet 168 = .ok (.iload_n 3, 1) := by decide +kernel
theorem d_Mo_answerGet_169 : decode cb_Mo_answerGet 169 = .ok (.invokevirtual 248, 3) := by decide +kernel
theorem d_Mo_answerGet_172 : decode cb_Mo_answerGet 172 = .ok (.return_, 1) := by decide +kernel
theorem d_Mo_takePart_0 : decode cb_Mo_takePart 0 = .ok (.aload_n 0, 1) := by decide +kernel
theorem d_Mo_takePart_1 : decode cb_Mo_takePart 1 = .ok (.getfield 172, 3) := by decide +kernel
theorem d_Mo_takePart_4 : decode cb_Mo_takePart 4 = .ok (.bipush 16, 2) := by decide +kernel
theorem d_Mo_takePart_6 : decode cb_Mo_takePart 6 = .ok (.idiv, 1) := by decide +kernel
theorem d_Mo_takePart_7 : decode cb_Mo_takePart 7 = .ok (.istore_n 2, 1) := by decide +kernel
theorem d_Mo_takePart_8 : decode cb_Mo_takePart 8 = .ok (.aload_n 0, 1) := by decide +kernel
theorem d_Mo_takePart_9 : decode cb_Mo_takePart 9 = .ok (.getfield 172, 3) := by decide +kernel
theorem d_Mo_takePart_12 : decode cb_Mo_takePart 12 = .ok (.bipush 8, 2) := by decide +kernel
theorem d_Mo_takePart_14 : decode cb_Mo_takePart 14 = .ok (.irem, 1) := by decide +kernel
theorem d_Mo_takePart_15 : decode cb_Mo_takePart 15 = .ok (.istore_n 3, 1) := by decide +kernel
theorem d_Mo_takePart_16 : decode cb_Mo_takePart 16 = .ok (.aload_n 0, 1) := by decide +kernel
theorem d_Mo_takePart_17 : decode cb_Mo_takePart 17 = .ok (.getfield 99, 3) := by decide +kernel
theorem d_Mo_takePart_20 : decode cb_Mo_takePart 20 = .ok (.iload_n 1, 1) := by decide +kernel
theorem d_Mo_takePart_21 : decode cb_Mo_takePart 21 = .ok (.iload_n 2, 1) := by decide +kernel
theorem d_Mo_takePart_22 : decode cb_Mo_takePart 22 = .ok (.ifCond .ne 7, 3) := by decide +kernel
theorem d_Mo_takePart_25 : decode cb_Mo_takePart 25 = .ok (.iconst 0, 1) := by decide +kernel
theorem d_Mo_takePart_26 : decode cb_Mo_takePart 26 = .ok (.goto 9, 3) := by decide +kernel
theorem d_Mo_takePart_29 : decode cb_Mo_takePart 29 = .ok (.aload_n 0, 1) := by decide +kernel
theorem d_Mo_takePart_30 : decode cb_Mo_takePart 30 = .ok (.getfield 99, 3) := by decide +kernel
theorem d_Mo_takePart_33 : decode cb_Mo_takePart 33 = .ok (.iload_n 1, 1) := by decide +kernel
theorem d_Mo_takePart_34 : decode cb_Mo_takePart 34 = .ok (.iaload, 1) := by decide +kernel
theorem d_Mo_takePart_35 : decode cb_Mo_takePart 35 = .ok (.iastore, 1) := by decide +kernel
theorem d_Mo_takePart_36 : decode cb_Mo_takePart 36 = .ok (.iload_n 2, 1) := by decide +kernel
theorem d_Mo_takePart_37 : decode cb_Mo_takePart 37 = .ok (.iload_n 3, 1) := by decide +kernel
theorem d_Mo_takePart_38 : decode cb_Mo_takePart 38 = .ok (.invokestatic 152, 3) := by decide +kernel
theorem d_Mo_takePart_41 : decode cb_Mo_takePart 41 = .ok (.imul, 1) := by decide +kernel
theorem d_Mo_takePart_42 : decode cb_Mo_takePart 42 = .ok (.aload_n 0, 1) := by decide +kernel
theorem d_Mo_takePart_43 : decode cb_Mo_takePart 43 = .ok (.getfield 99, 3) := by decide +kernel
theorem d_Mo_takePart_46 : decode cb_Mo_takePart 46 = .ok (.iload_n 1, 1) := by decide +kernel
theorem d_Mo_takePart_47 : decode cb_Mo_takePart 47 = .ok (.iaload, 1) := by decide +kernel
theorem d_Mo_takePart_48 : decode cb_Mo_takePart 48 = .ok (.if_icmp .eq 7, 3) := by decide +kernel
theorem d_Mo_takePart_51 : decode cb_Mo_takePart 51 = .ok (.sipush 136, 3) := by decide +kernel
theorem d_Mo_takePart_54 : decode cb_Mo_takePart 54 = .ok (.ireturn, 1) := by decide +kernel
theorem d_Mo_takePart_55 : decode cb_Mo_takePart 55 = .ok (.aload_n 0, 1) := by decide +kernel
theorem d_Mo_takePart_56 : decode cb_Mo_takePart 56 = .ok (.getfield 99, 3) := by decide +kernel
theorem d_Mo_takePart_59 : decode cb_Mo_takePart 59 = .ok (.iload_n 1, 1) := by decide +kernel
theorem d_Mo_takePart_60 : decode cb_Mo_takePart 60 = .ok (.iaload, 1) := by decide +kernel
theorem d_Mo_takePart_61 : decode cb_Mo_takePart 61 = .ok (.aload_n 0, 1) := by decide +kernel
theorem d_Mo_takePart_62 : decode cb_Mo_takePart 62 = .ok (.getfield 185, 3) := by decide +kernel
theorem d_Mo_takePart_65 : decode cb_Mo_takePart 65 = .ok (.iadd, 1) := by decide +kernel
theorem d_Mo_takePart_66 : decode cb_Mo_takePart 66 = .ok (.bipush 64, 2) := by decide +kernel
theorem d_Mo_takePart_68 : decode cb_Mo_takePart 68 = .ok (.if_icmp .le 14, 3) := by decide +kernel
theorem d_Mo_takePart_71 : decode cb_Mo_takePart 71 = .ok (.aload_n 0, 1) := by decide +kernel
theorem d_Mo_takePart_72 : decode cb_Mo_takePart 72 = .ok (.getfield 99, 3) := by decide +kernel
theorem d_Mo_takePart_75 : decode cb_Mo_takePart 75 = .ok (.iload_n 1, 1) := by decide +kernel
theorem d_Mo_takePart_76 : decode cb_Mo_takePart 76 = .ok (.iconst 0, 1) := by decide +kernel
theorem d_Mo_takePart_77 : decode cb_Mo_takePart 77 = .ok (.iastore, 1) := by decide +kernel
theorem d_Mo_takePart_78 : decode cb_Mo_takePart 78 = .ok (.sipush 141, 3) := by decide +kernel
theorem d_Mo_takePart_81 : decode cb_Mo_takePart 81 = .ok (.ireturn, 1) := by decide +kernel
theorem d_Mo_takePart_82 : decode cb_Mo_takePart 82 = .ok (.iconst 0, 1) := by decide +kernel
theorem d_Mo_takePart_83 : decode cb_Mo_takePart 83 = .ok (.istore 4, 2) := by decide +kernel
theorem d_Mo_takePart_85 : decode cb_Mo_takePart 85 = .ok (.iload 4, 2) := by decide +kernel
theorem d_Mo_takePart_87 : decode cb_Mo_takePart 87 = .ok (.aload_n 0, 1) := by decide +kernel
theorem d_Mo_takePart_88 : decode cb_Mo_takePart 88 = .ok (.getfield 185, 3) := by decide +kernel
theorem d_Mo_takePart_91 : decode cb_Mo_takePart 91 = .ok (.if_icmp .ge 47, 3) := by decide +kernel
theorem d_Mo_takePart_94 : decode cb_Mo_takePart 94 = .ok (.aload_n 0, 1) := by decide +kernel
theorem d_Mo_takePart_95 : decode cb_Mo_takePart 95 = .ok (.getfield 96, 3) := by decide +kernel
theorem d_Mo_takePart_98 : decode cb_Mo_takePart 98 = .ok (.bipush 64, 2) := by decide +kernel
theorem d_Mo_takePart_100 : decode cb_Mo_takePart 100 = .ok (.iload_n 1, 1) := by decide +kernel
theorem d_Mo_takePart_101 : decode cb_Mo_takePart 101 = .ok (.imul, 1) := by decide +kernel
theorem d_Mo_takePart_102 : decode cb_Mo_takePart 102 = .ok (.aload_n 0, 1) := by decide +kernel
theorem d_Mo_takePart_103 : decode cb_Mo_takePart 103 = .ok (.getfield 99, 3) := by decide +kernel
theorem d_Mo_takePart_106 : decode cb_Mo_takePart 106 = .ok (.iload_n 1, 1) := by decide +kernel
theorem d_Mo_takePart_107 : decode cb_Mo_takePart 107 = .ok (.iaload, 1) := by decide +kernel
theorem d_Mo_takePart_108 : decode cb_Mo_takePart 108 = .ok (.iadd, 1) := by decide +kernel
theorem d_Mo_takePart_109 : decode cb_Mo_takePart 109 = .ok (.aload_n 0, 1) := by decide +kernel
theorem d_Mo_takePart_110 : decode cb_Mo_takePart 110 = .ok (.getfield 129, 3) := by decide +kernel
theorem d_Mo_takePart_113 : decode cb_Mo_takePart 113 = .ok (.aload_n 0, 1) := by decide +kernel
theorem d_Mo_takePart_114 : decode cb_Mo_takePart 114 = .ok (.getfield 203, 3) := by decide +kernel
theorem d_Mo_takePart_117 : decode cb_Mo_takePart 117 = .ok (.iload 4, 2) := by decide +kernel
theorem d_Mo_takePart_119 : decode cb_Mo_takePart 119 = .ok (.iadd, 1) := by decide +kernel
theorem d_Mo_takePart_120 : decode cb_Mo_takePart 120 = .ok (.iaload, 1) := by decide +kernel
theorem d_Mo_takePart_121 : decode cb_Mo_takePart 121 = .ok (.iastore, 1) := by decide +kernel
theorem d_Mo_takePart_122 : decode cb_Mo_takePart 122 = .ok (.aload_n 0, 1) := by decide +kernel
theorem d_Mo_takePart_123 : decode cb_Mo_takePart 123 = .ok (.getfield 99, 3) := by decide +kernel
theorem d_Mo_takePart_126 : decode cb_Mo_takePart 126 = .ok (.iload_n 1, 1) := by decide +kernel
theorem d_Mo_takePart_127 : decode cb_Mo_takePart 127 = .ok (.dup2, 1) := by decide +kernel
theorem d_Mo_takePart_128 : decode cb_Mo_takePart 128 = .ok (.iaload, 1) := by decide +kernel
theorem d_Mo_takePart_129 : decode cb_Mo_takePart 129 = .ok (.iconst 1, 1) := by decide +kernel
theorem d_Mo_takePart_130 : decode cb_Mo_takePart 130 = .ok (.iadd, 1) := by decide +kernel
theorem d_Mo_takePart_131 : decode cb_Mo_takePart 131 = .ok (.iastore, 1) := by decide +kernel
theorem d_Mo_takePart_132 : decode cb_Mo_takePart 132 = .ok (.iinc 4 1, 3) := by decide +kernel
theorem d_Mo_takePart_135 : decode cb_Mo_takePart 135 = .ok (.goto (-50), 3) := by decide +kernel
theorem d_Mo_takePart_138 : decode cb_Mo_takePart 138 = .ok (.aload_n 0, 1) := by decide +kernel
theorem d_Mo_takePart_139 : decode cb_Mo_takePart 139 = .ok (.getfield 172, 3) := by decide +kernel
theorem d_Mo_takePart_142 : decode cb_Mo_takePart 142 = .ok (.bipush 8, 2) := by decide +kernel
theorem d_Mo_takePart_144 : decode cb_Mo_takePart 144 = .ok (.idiv, 1) := by decide +kernel
theorem d_Mo_takePart_145 : decode cb_Mo_takePart 145 = .ok (.iconst 2, 1) := by decide +kernel
theorem d_Mo_takePart_146 : decode cb_Mo_takePart 146 = .ok (.irem, 1) := by decide +kernel
theorem d_Mo_takePart_147 : decode cb_Mo_takePart 147 = .ok (.iconst 1, 1) := by decide +kernel
theorem d_Mo_takePart_148 : decode cb_Mo_takePart 148 = .ok (.if_icmp .ne 6, 3) := by decide +kernel
theorem d_Mo_takePart_151 : decode cb_Mo_takePart 151 = .ok (.bipush 95, 2) := by decide +kernel
theorem d_Mo_takePart_153 : decode cb_Mo_takePart 153 = .ok (.ireturn, 1) := by decide +kernel
theorem d_Mo_takePart_154 : decode cb_Mo_takePart 154 = .ok (.iconst 0, 1) := by decide +kernel
theorem d_Mo_takePart_155 : decode cb_Mo_takePart 155 = .ok (.istore 4, 2) := by decide +kernel
theorem d_Mo_takePart_157 : decode cb_Mo_takePart 157 = .ok (.iload 4, 2) := by decide +kernel
theorem d_Mo_takePart_159 : decode cb_Mo_takePart 159 = .ok (.aload_n 0, 1) := by decide +kernel
theorem d_Mo_takePart_160 : decode cb_Mo_takePart 160 = .ok (.getfield 99, 3) := by decide +kernel
theorem d_Mo_takePart_163 : decode cb_Mo_takePart 163 = .ok (.iload_n 1, 1) := by decide +kernel
theorem d_Mo_takePart_164 : decode cb_Mo_takePart 164 = .ok (.iaload, 1) := by decide +kernel
theorem d_Mo_takePart_165 : decode cb_Mo_takePart 165 = .ok (.if_icmp .ge 33, 3) := by decide +kernel
theorem d_Mo_takePart_168 : decode cb_Mo_takePart 168 = .ok (.aload_n 0, 1) := by decide +kernel
theorem d_Mo_takePart_169 : decode cb_Mo_takePart 169 = .ok (.getfield 90, 3) := by decide +kernel
theorem d_Mo_takePart_172 : decode cb_Mo_takePart 172 = .ok (.bipush 64, 2) := by decide +kernel
theorem d_Mo_takePart_174 : decode cb_Mo_takePart 174 = .ok (.iload_n 1, 1) := by decide +kernel
theorem d_Mo_takePart_175 : decode cb_Mo_takePart 175 = .ok (.imul, 1) := by decide +kernel
theorem d_Mo_takePart_176 : decode cb_Mo_takePart 176 = .ok (.iload 4, 2) := by decide +kernel
theorem d_Mo_takePart_178 : decode cb_Mo_takePart 178 = .ok (.iadd, 1) := by decide +kernel
theorem d_Mo_takePart_179 : decode cb_Mo_takePart 179 = .ok (.aload_n 0, 1) := by decide +kernel
theorem d_Mo_takePart_180 : decode cb_Mo_takePart 180 = .ok (.getfield 96, 3) := by decide +kernel
theorem d_Mo_takePart_183 : decode cb_Mo_takePart 183 = .ok (.bipush 64, 2) := by decide +kernel
theorem d_Mo_takePart_185 : decode cb_Mo_takePart 185 = .ok (.iload_n 1, 1) := by decide +kernel
theorem d_Mo_takePart_186 : decode cb_Mo_takePart 186 = .ok (.imul, 1) := by decide +kernel
theorem d_Mo_takePart_187 : decode cb_Mo_takePart 187 = .ok (.iload 4, 2) := by decide +kernel
theorem d_Mo_takePart_189 : decode cb_Mo_takePart 189 = .ok (.iadd, 1) := by decide +kernel
theorem d_Mo_takePart_190 : decode cb_Mo_takePart 190 = .ok (.iaload, 1) := by decide +kernel
theorem d_Mo_takePart_191 : decode cb_Mo_takePart 191 = .ok (.iastore, 1) := by decide +kernel
theorem d_Mo_takePart_192 : decode cb_Mo_takePart 192 = .ok (.iinc 4 1, 3) := by decide +kernel
theorem d_Mo_takePart_195 : decode cb_Mo_takePart 195 = .ok (.goto (-38), 3) := by decide +kernel
theorem d_Mo_takePart_198 : decode cb_Mo_takePart 198 = .ok (.aload_n 0, 1) := by decide +kernel
theorem d_Mo_takePart_199 : decode cb_Mo_takePart 199 = .ok (.getfield 93, 3) := by decide +kernel
theorem d_Mo_takePart_202 : decode cb_Mo_takePart 202 = .ok (.iload_n 1, 1) := by decide +kernel
theorem d_Mo_takePart_203 : decode cb_Mo_takePart 203 = .ok (.aload_n 0, 1) := by decide +kernel
theorem d_Mo_takePart_204 : decode cb_Mo_takePart 204 = .ok (.getfield 99, 3) := by decide +kernel
theorem d_Mo_takePart_207 : decode cb_Mo_takePart 207 = .ok (.iload_n 1, 1) := by decide +kernel
theorem d_Mo_takePart_208 : decode cb_Mo_takePart 208 = .ok (.iaload, 1) := by decide +kernel
theorem d_Mo_takePart_209 : decode cb_Mo_takePart 209 = .ok (.iastore, 1) := by decide +kernel
theorem d_Mo_takePart_210 : decode cb_Mo_takePart 210 = .ok (.aload_n 0, 1) := by decide +kernel
theorem d_Mo_takePart_211 : decode cb_Mo_takePart 211 = .ok (.getfield 99, 3) := by decide +kernel
theorem d_Mo_takePart_214 : decode cb_Mo_takePart 214 = .ok (.iload_n 1, 1) := by decide +kernel
theorem d_Mo_takePart_215 : decode cb_Mo_takePart 215 = .ok (.iconst 0, 1) := by decide +kernel
theorem d_Mo_takePart_216 : decode cb_Mo_takePart 216 = .ok (.iastore, 1) := by decide +kernel
theorem d_Mo_takePart_217 : decode cb_Mo_takePart 217 = .ok (.aload_n 0, 1) := by decide +kernel
theorem d_Mo_takePart_218 : decode cb_Mo_takePart 218 = .ok (.iload_n 1, 1) := by decide +kernel
theorem d_Mo_takePart_219 : decode cb_Mo_takePart 219 = .ok (.invokevirtual 263, 3) := by decide +kernel
theorem d_Mo_takePart_222 : decode cb_Mo_takePart 222 = .ok (.bipush 68, 2) := by decide +kernel
theorem d_Mo_takePart_224 : decode cb_Mo_takePart 224 = .ok (.ireturn, 1) := by decide +kernel
theorem d_Mo_forgetAnswer_0 : decode cb_Mo_forgetAnswer 0 = .ok (.iload_n 1, 1) := by decide +kernel
theorem d_Mo_forgetAnswer_1 : decode cb_Mo_forgetAnswer 1 = .ok (.istore_n 2, 1) := by decide +kernel
theorem d_Mo_forgetAnswer_2 : decode cb_Mo_forgetAnswer 2 = .ok (.iload_n 2, 1) := by decide +kernel
theorem d_Mo_forgetAnswer_3 : decode cb_Mo_forgetAnswer 3 = .ok (.iconst 1, 1) := by decide +kernel
theorem d_Mo_forgetAnswer_4 : decode cb_Mo_forgetAnswer 4 = .ok (.iadd, 1) := by decide +kernel
theorem d_Mo_forgetAnswer_5 : decode cb_Mo_forgetAnswer 5 = .ok (.aload_n 0, 1) := by decide +kernel
theorem d_Mo_forgetAnswer_6 : decode cb_Mo_forgetAnswer 6 = .ok (.getfield 266, 3) := by decide +kernel
theorem d_Mo_forgetAnswer_9 : decode cb_Mo_forgetAnswer 9 = .ok (.if_icmp .ge 90, 3) := by decide +kernel
theorem d_Mo_forgetAnswer_12 : decode cb_Mo_forgetAnswer 12 = .ok (.aload_n 0, 1) := by decide +kernel
theorem d_Mo_forgetAnswer_13 : decode cb_Mo_forgetAnswer 13 = .ok (.getfield 114, 3) := by decide +kernel
theorem d_Mo_forgetAnswer_16 : decode cb_Mo_forgetAnswer 16 = .ok (.iload_n 2, 1) := by decide +kernel
theorem d_Mo_forgetAnswer_17 : decode cb_Mo_forgetAnswer 17 = .ok (.aload_n 0, 1) := by decide +kernel
theorem d_Mo_forgetAnswer_18 : decode cb_Mo_forgetAnswer 18 = .ok (.getfield 114, 3) := by decide +kernel
theorem d_Mo_forgetAnswer_21 : decode cb_Mo_forgetAnswer 21 = .ok (.iload_n 2, 1) := by decide +kernel
theorem d_Mo_forgetAnswer_22 : decode cb_Mo_forgetAnswer 22 = .ok (.iconst 1, 1) := by decide +kernel
theorem d_Mo_forgetAnswer_23 : decode cb_Mo_forgetAnswer 23 = .ok (.iadd, 1) := by decide +kernel
theorem d_Mo_forgetAnswer_24 : decode cb_Mo_forgetAnswer 24 = .ok (.iaload, 1) := by decide +kernel
theorem d_Mo_forgetAnswer_25 : decode cb_Mo_forgetAnswer 25 = .ok (.iastore, 1) := by decide +kernel
theorem d_Mo_forgetAnswer_26 : decode cb_Mo_forgetAnswer 26 = .ok (.aload_n 0, 1) := by decide +kernel
theorem d_Mo_forgetAnswer_27 : decode cb_Mo_forgetAnswer 27 = .ok (.getfield 117, 3) := by decide +kernel
theorem d_Mo_forgetAnswer_30 : decode cb_Mo_forgetAnswer 30 = .ok (.iload_n 2, 1) := by decide +kernel
theorem d_Mo_forgetAnswer_31 : decode cb_Mo_forgetAnswer 31 = .ok (.aload_n 0, 1) := by decide +kernel
theorem d_Mo_forgetAnswer_32 : decode cb_Mo_forgetAnswer 32 = .ok (.getfield 117, 3) := by decide +kernel
theorem d_Mo_forgetAnswer_35 : decode cb_Mo_forgetAnswer 35 = .ok (.iload_n 2, 1) := by decide +kernel
theorem d_Mo_forgetAnswer_36 : decode cb_Mo_forgetAnswer 36 = .ok (.iconst 1, 1) := by decide +kernel
theorem d_Mo_forgetAnswer_37 : decode cb_Mo_forgetAnswer 37 = .ok (.iadd, 1) := by decide +kernel
theorem d_Mo_forgetAnswer_38 : decode cb_Mo_forgetAnswer 38 = .ok (.iaload, 1) := by decide +kernel
theorem d_Mo_forgetAnswer_39 : decode cb_Mo_forgetAnswer 39 = .ok (.iastore, 1) := by decide +kernel
theorem d_Mo_forgetAnswer_40 : decode cb_Mo_forgetAnswer 40 = .ok (.aload_n 0, 1) := by decide +kernel
theorem d_Mo_forgetAnswer_41 : decode cb_Mo_forgetAnswer 41 = .ok (.getfield 123, 3) := by decide +kernel
theorem d_Mo_forgetAnswer_44 : decode cb_Mo_forgetAnswer 44 = .ok (.iload_n 2, 1) := by decide +kernel
theorem d_Mo_forgetAnswer_45 : decode cb_Mo_forgetAnswer 45 = .ok (.aload_n 0, 1) := by decide +kernel
theorem d_Mo_forgetAnswer_46 : decode cb_Mo_forgetAnswer 46 = .ok (.getfield 123, 3) := by decide +kernel
theorem d_Mo_forgetAnswer_49 : decode cb_Mo_forgetAnswer 49 = .ok (.iload_n 2, 1) := by decide +kernel
theorem d_Mo_forgetAnswer_50 : decode cb_Mo_forgetAnswer 50 = .ok (.iconst 1, 1) := by decide +kernel
theorem d_Mo_forgetAnswer_51 : decode cb_Mo_forgetAnswer 51 = .ok (.iadd, 1) := by decide +kernel
theorem d_Mo_forgetAnswer_52 : decode cb_Mo_forgetAnswer 52 = .ok (.iaload, 1) := by decide +kernel
theorem d_Mo_forgetAnswer_53 : decode cb_Mo_forgetAnswer 53 = .ok (.iastore, 1) := by decide +kernel
theorem d_Mo_forgetAnswer_54 : decode cb_Mo_forgetAnswer 54 = .ok (.iconst 0, 1) := by decide +kernel
theorem d_Mo_forgetAnswer_55 : decode cb_Mo_forgetAnswer 55 = .ok (.istore_n 3, 1) := by decide +kernel
theorem d_Mo_forgetAnswer_56 : decode cb_Mo_forgetAnswer 56 = .ok (.iload_n 3, 1) := by decide +kernel
theorem d_Mo_forgetAnswer_57 : decode cb_Mo_forgetAnswer 57 = .ok (.bipush 64, 2) := by decide +kernel
theorem d_Mo_forgetAnswer_59 : decode cb_Mo_forgetAnswer 59 = .ok (.if_icmp .ge 34, 3) := by decide +kernel
theorem d_Mo_forgetAnswer_62 : decode cb_Mo_forgetAnswer 62 = .ok (.aload_n 0, 1) := by decide +kernel
theorem d_Mo_forgetAnswer_63 : decode cb_Mo_forgetAnswer 63 = .ok (.getfield 120, 3) := by decide +kernel
theorem d_Mo_forgetAnswer_66 : decode cb_Mo_forgetAnswer 66 = .ok (.bipush 64, 2) := by decide +kernel
theorem d_Mo_forgetAnswer_68 : decode cb_Mo_forgetAnswer 68 = .ok (.iload_n 2, 1) := by decide +kernel
theorem d_Mo_forgetAnswer_69 : decode cb_Mo_forgetAnswer 69 = .ok (.imul, 1) := by decide +kernel
theorem d_Mo_forgetAnswer_70 : decode cb_Mo_forgetAnswer 70 = .ok (.iload_n 3, 1) := by decide +kernel
theorem d_Mo_forgetAnswer_71 : decode cb_Mo_forgetAnswer 71 = .ok (.iadd, 1) := by decide +kernel
theorem d_Mo_forgetAnswer_72 : decode cb_Mo_forgetAnswer 72 = .ok (.aload_n 0, 1) := by decide +kernel
theorem d_Mo_forgetAnswer_73 : decode cb_Mo_forgetAnswer 73 = .ok (.getfield 120, 3) := by decide +kernel
theorem d_Mo_forgetAnswer_76 : decode cb_Mo_forgetAnswer 76 = .ok (.bipush 64, 2) := by decide +kernel
theorem d_Mo_forgetAnswer_78 : decode cb_Mo_forgetAnswer 78 = .ok (.iload_n 2, 1) := by decide +kernel
theorem d_Mo_forgetAnswer_79 : decode cb_Mo_forgetAnswer 79 = .ok (.imul, 1) := by decide +kernel
theorem d_Mo_forgetAnswer_80 : decode cb_Mo_forgetAnswer 80 = .ok (.bipush 64, 2) := by decide +kernel
theorem d_Mo_forgetAnswer_82 : decode cb_Mo_forgetAnswer 82 = .ok (.iadd, 1) := by decide +kernel
theorem d_Mo_forgetAnswer_83 : decode cb_Mo_forgetAnswer 83 = .ok (.iload_n 3, 1) := by decide +kernel
theorem d_Mo_forgetAnswer_84 : decode cb_Mo_forgetAnswer 84 = .ok (.iadd, 1) := by decide +kernel
theorem d_Mo_forgetAnswer_85 : decode cb_Mo_forgetAnswer 85 = .ok (.iaload, 1) := by decide +kernel
theorem d_Mo_forgetAnswer_86 : decode cb_Mo_forgetAnswer 86 = .ok (.iastore, 1) := by decide +kernel
theorem d_Mo_forgetAnswer_87 : decode cb_Mo_forgetAnswer 87 = .ok (.iinc 3 1, 3) := by decide +kernel
theorem d_Mo_forgetAnswer_90 : decode cb_Mo_forgetAnswer 90 = .ok (.goto (-34), 3) := by decide +kernel
theorem d_Mo_forgetAnswer_93 : decode cb_Mo_forgetAnswer 93 = .ok (.iinc 2 1, 3) := by decide +kernel
theorem d_Mo_forgetAnswer_96 : decode cb_Mo_forgetAnswer 96 = .ok (.goto (-94), 3) := by decide +kernel
theorem d_Mo_forgetAnswer_99 : decode cb_Mo_forgetAnswer 99 = .ok (.aload_n 0, 1) := by decide +kernel
theorem d_Mo_forgetAnswer_100 : decode cb_Mo_forgetAnswer 100 = .ok (.dup, 1) := by decide +kernel
theorem d_Mo_forgetAnswer_101 : decode cb_Mo_forgetAnswer 101 = .ok (.getfield 266, 3) := by decide +kernel
theorem d_Mo_forgetAnswer_104 : decode cb_Mo_forgetAnswer 104 = .ok (.iconst 1, 1) := by decide +kernel
theorem d_Mo_forgetAnswer_105 : decode cb_Mo_forgetAnswer 105 = .ok (.isub, 1) := by decide +kernel
theorem d_Mo_forgetAnswer_106 : decode cb_Mo_forgetAnswer 106 = .ok (.putfield 266, 3) := by decide +kernel
theorem d_Mo_forgetAnswer_109 : decode cb_Mo_forgetAnswer 109 = .ok (.return_, 1) := by decide +kernel
theorem d_Mo_answerOf_0 : decode cb_Mo_answerOf 0 = .ok (.iconst 0, 1) := by decide +kernel
theorem d_Mo_answerOf_1 : decode cb_Mo_answerOf 1 = .ok (.istore_n 2, 1) := by decide +kernel
theorem d_Mo_answerOf_2 : decode cb_Mo_answerOf 2 = .ok (.iload_n 2, 1) := by decide +kernel
theorem d_Mo_answerOf_3 : decode cb_Mo_answerOf 3 = .ok (.aload_n 0, 1) := by decide +kernel
theorem d_Mo_answerOf_4 : decode cb_Mo_answerOf 4 = .ok (.getfield 266, 3) := by decide +kernel
theorem d_Mo_answerOf_7 : decode cb_Mo_answerOf 7 = .ok (.if_icmp .ge 21, 3) := by decide +kernel
theorem d_Mo_answerOf_10 : decode cb_Mo_answerOf 10 = .ok (.aload_n 0, 1) := by decide +kernel
theorem d_Mo_answerOf_11 : decode cb_Mo_answerOf 11 = .ok (.getfield 114, 3) := by decide +kernel
theorem d_Mo_answerOf_14 : decode cb_Mo_answerOf 14 = .ok (.iload_n 2, 1) := by decide +kernel
theorem d_Mo_answerOf_15 : decode cb_Mo_answerOf 15 = .ok (.iaload, 1) := by decide +kernel
theorem d_Mo_answerOf_16 : decode cb_Mo_answerOf 16 = .ok (.iload_n 1, 1) := by decide +kernel
theorem d_Mo_answerOf_17 : decode cb_Mo_answerOf 17 = .ok (.if_icmp .ne 5, 3) := by decide +kernel
theorem d_Mo_answerOf_20 : decode cb_Mo_answerOf 20 = .ok (.iload_n 2, 1) := by decide +kernel
theorem d_Mo_answerOf_21 : decode cb_Mo_answerOf 21 = .ok (.ireturn, 1) := by decide +kernel
theorem d_Mo_answerOf_22 : decode cb_Mo_answerOf 22 = .ok (.iinc 2 1, 3) := by decide +kernel
theorem d_Mo_answerOf_25 : decode cb_Mo_answerOf 25 = .ok (.goto (-23), 3) := by decide +kernel
theorem d_Mo_answerOf_28 : decode cb_Mo_answerOf 28 = .ok (.iconst (-1), 1) := by decide +kernel
theorem d_Mo_answerOf_29 : decode cb_Mo_answerOf 29 = .ok (.ireturn, 1) := by decide +kernel

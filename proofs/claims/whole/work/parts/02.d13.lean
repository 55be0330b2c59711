theorem d_Ob_tick_0 : decode cb_Ob_tick 0 = .ok (.aload_n 0, 1) := by decide +kernel
theorem d_Ob_tick_1 : decode cb_Ob_tick 1 = .ok (.dup, 1) := by decide +kernel
theorem d_Ob_tick_2 : decode cb_Ob_tick 2 = .ok (.getfield 39, 3) := by decide +kernel
theorem d_Ob_tick_5 : decode cb_Ob_tick 5 = .ok (.iconst 1, 1) := by decide +kernel
theorem d_Ob_tick_6 : decode cb_Ob_tick 6 = .ok (.iadd, 1) := by decide +kernel
theorem d_Ob_tick_7 : decode cb_Ob_tick 7 = .ok (.putfield 39, 3) := by decide +kernel
theorem d_Ob_tick_10 : decode cb_Ob_tick 10 = .ok (.aload_n 0, 1) := by decide +kernel
theorem d_Ob_tick_11 : decode cb_Ob_tick 11 = .ok (.getfield 21, 3) := by decide +kernel
theorem d_Ob_tick_14 : decode cb_Ob_tick 14 = .ok (.invokevirtual 92, 3) := by decide +kernel
theorem d_Ob_tick_17 : decode cb_Ob_tick 17 = .ok (.aload_n 0, 1) := by decide +kernel
theorem d_Ob_tick_18 : decode cb_Ob_tick 18 = .ok (.getfield 28, 3) := by decide +kernel
theorem d_Ob_tick_21 : decode cb_Ob_tick 21 = .ok (.invokevirtual 95, 3) := by decide +kernel
theorem d_Ob_tick_24 : decode cb_Ob_tick 24 = .ok (.aload_n 0, 1) := by decide +kernel
theorem d_Ob_tick_25 : decode cb_Ob_tick 25 = .ok (.getfield 39, 3) := by decide +kernel
theorem d_Ob_tick_28 : decode cb_Ob_tick 28 = .ok (.ireturn, 1) := by decide +kernel
theorem d_Li_has_0 : decode cb_Li_has 0 = .ok (.iload_n 1, 1) := by decide +kernel
theorem d_Li_has_1 : decode cb_Li_has 1 = .ok (.ifCond .lt 15, 3) := by decide +kernel
theorem d_Li_has_4 : decode cb_Li_has 4 = .ok (.iload_n 1, 1) := by decide +kernel
theorem d_Li_has_5 : decode cb_Li_has 5 = .ok (.aload_n 0, 1) := by decide +kernel
theorem d_Li_has_6 : decode cb_Li_has 6 = .ok (.getfield 24, 3) := by decide +kernel
theorem d_Li_has_9 : decode cb_Li_has 9 = .ok (.if_icmp .ge 7, 3) := by decide +kernel
theorem d_Li_has_12 : decode cb_Li_has 12 = .ok (.iconst 1, 1) := by decide +kernel
theorem d_Li_has_13 : decode cb_Li_has 13 = .ok (.goto 4, 3) := by decide +kernel
theorem d_Li_has_16 : decode cb_Li_has 16 = .ok (.iconst 0, 1) := by decide +kernel
theorem d_Li_has_17 : decode cb_Li_has 17 = .ok (.ireturn, 1) := by decide +kernel
theorem d_Ms_forget_0 : decode cb_Ms_forget 0 = .ok (.aload_n 0, 1) := by decide +kernel
theorem d_Ms_forget_1 : decode cb_Ms_forget 1 = .ok (.iconst (-1), 1) := by decide +kernel
theorem d_Ms_forget_2 : decode cb_Ms_forget 2 = .ok (.putfield 66, 3) := by decide +kernel
theorem d_Ms_forget_5 : decode cb_Ms_forget 5 = .ok (.aload_n 0, 1) := by decide +kernel
theorem d_Ms_forget_6 : decode cb_Ms_forget 6 = .ok (.iconst (-1), 1) := by decide +kernel
theorem d_Ms_forget_7 : decode cb_Ms_forget 7 = .ok (.putfield 79, 3) := by decide +kernel
theorem d_Ms_forget_10 : decode cb_Ms_forget 10 = .ok (.aload_n 0, 1) := by decide +kernel
theorem d_Ms_forget_11 : decode cb_Ms_forget 11 = .ok (.iconst (-1), 1) := by decide +kernel
theorem d_Ms_forget_12 : decode cb_Ms_forget 12 = .ok (.putfield 82, 3) := by decide +kernel
theorem d_Ms_forget_15 : decode cb_Ms_forget 15 = .ok (.aload_n 0, 1) := by decide +kernel
theorem d_Ms_forget_16 : decode cb_Ms_forget 16 = .ok (.iconst (-1), 1) := by decide +kernel
theorem d_Ms_forget_17 : decode cb_Ms_forget 17 = .ok (.putfield 85, 3) := by decide +kernel
theorem d_Ms_forget_20 : decode cb_Ms_forget 20 = .ok (.aload_n 0, 1) := by decide +kernel
theorem d_Ms_forget_21 : decode cb_Ms_forget 21 = .ok (.iconst 0, 1) := by decide +kernel
theorem d_Ms_forget_22 : decode cb_Ms_forget 22 = .ok (.putfield 43, 3) := by decide +kernel
theorem d_Ms_forget_25 : decode cb_Ms_forget 25 = .ok (.aload_n 0, 1) := by decide +kernel
theorem d_Ms_forget_26 : decode cb_Ms_forget 26 = .ok (.getfield 14, 3) := by decide +kernel
theorem d_Ms_forget_29 : decode cb_Ms_forget 29 = .ok (.invokevirtual 88, 3) := by decide +kernel
theorem d_Ms_forget_32 : decode cb_Ms_forget 32 = .ok (.aload_n 0, 1) := by decide +kernel
theorem d_Ms_forget_33 : decode cb_Ms_forget 33 = .ok (.getfield 20, 3) := by decide +kernel
theorem d_Ms_forget_36 : decode cb_Ms_forget 36 = .ok (.invokevirtual 88, 3) := by decide +kernel
theorem d_Ms_forget_39 : decode cb_Ms_forget 39 = .ok (.aload_n 0, 1) := by decide +kernel
theorem d_Ms_forget_40 : decode cb_Ms_forget 40 = .ok (.getfield 23, 3) := by decide +kernel
theorem d_Ms_forget_43 : decode cb_Ms_forget 43 = .ok (.invokevirtual 88, 3) := by decide +kernel
theorem d_Ms_forget_46 : decode cb_Ms_forget 46 = .ok (.aload_n 0, 1) := by decide +kernel
theorem d_Ms_forget_47 : decode cb_Ms_forget 47 = .ok (.iconst 0, 1) := by decide +kernel
theorem d_Ms_forget_48 : decode cb_Ms_forget 48 = .ok (.putfield 91, 3) := by decide +kernel
theorem d_Ms_forget_51 : decode cb_Ms_forget 51 = .ok (.return_, 1) := by decide +kernel
theorem d_Ms_isAtOption_0 : decode cb_Ms_isAtOption 0 = .ok (.aload_n 1, 1) := by decide +kernel
theorem d_Ms_isAtOption_1 : decode cb_Ms_isAtOption 1 = .ok (.aload_n 0, 1) := by decide +kernel
theorem d_Ms_isAtOption_2 : decode cb_Ms_isAtOption 2 = .ok (.getfield 69, 3) := by decide +kernel
theorem d_Ms_isAtOption_5 : decode cb_Ms_isAtOption 5 = .ok (.invokevirtual 103, 3) := by decide +kernel
theorem d_Ms_isAtOption_8 : decode cb_Ms_isAtOption 8 = .ok (.ifCond .eq 22, 3) := by decide +kernel
theorem d_Ms_isAtOption_11 : decode cb_Ms_isAtOption 11 = .ok (.aload_n 1, 1) := by decide +kernel
theorem d_Ms_isAtOption_12 : decode cb_Ms_isAtOption 12 = .ok (.getfield 59, 3) := by decide +kernel
theorem d_Ms_isAtOption_15 : decode cb_Ms_isAtOption 15 = .ok (.aload_n 0, 1) := by decide +kernel
theorem d_Ms_isAtOption_16 : decode cb_Ms_isAtOption 16 = .ok (.getfield 69, 3) := by decide +kernel
theorem d_Ms_isAtOption_19 : decode cb_Ms_isAtOption 19 = .ok (.iaload, 1) := by decide +kernel
theorem d_Ms_isAtOption_20 : decode cb_Ms_isAtOption 20 = .ok (.sipush 255, 3) := by decide +kernel
theorem d_Ms_isAtOption_23 : decode cb_Ms_isAtOption 23 = .ok (.if_icmp .eq 7, 3) := by decide +kernel
theorem d_Ms_isAtOption_26 : decode cb_Ms_isAtOption 26 = .ok (.iconst 1, 1) := by decide +kernel
theorem d_Ms_isAtOption_27 : decode cb_Ms_isAtOption 27 = .ok (.goto 4, 3) := by decide +kernel
theorem d_Ms_isAtOption_30 : decode cb_Ms_isAtOption 30 = .ok (.iconst 0, 1) := by decide +kernel
theorem d_Ms_isAtOption_31 : decode cb_Ms_isAtOption 31 = .ok (.ireturn, 1) := by decide +kernel
theorem d_Ms_readHead_0 : decode cb_Ms_readHead 0 = .ok (.aload_n 1, 1) := by decide +kernel
theorem d_Ms_readHead_1 : decode cb_Ms_readHead 1 = .ok (.getfield 59, 3) := by decide +kernel
theorem d_Ms_readHead_4 : decode cb_Ms_readHead 4 = .ok (.aload_n 0, 1) := by decide +kernel
theorem d_Ms_readHead_5 : decode cb_Ms_readHead 5 = .ok (.getfield 69, 3) := by decide +kernel
theorem d_Ms_readHead_8 : decode cb_Ms_readHead 8 = .ok (.iaload, 1) := by decide +kernel
theorem d_Ms_readHead_9 : decode cb_Ms_readHead 9 = .ok (.bipush 16, 2) := by decide +kernel
theorem d_Ms_readHead_11 : decode cb_Ms_readHead 11 = .ok (.idiv, 1) := by decide +kernel
theorem d_Ms_readHead_12 : decode cb_Ms_readHead 12 = .ok (.istore_n 2, 1) := by decide +kernel
theorem d_Ms_readHead_13 : decode cb_Ms_readHead 13 = .ok (.aload_n 0, 1) := by decide +kernel
theorem d_Ms_readHead_14 : decode cb_Ms_readHead 14 = .ok (.aload_n 1, 1) := by decide +kernel
theorem d_Ms_readHead_15 : decode cb_Ms_readHead 15 = .ok (.getfield 59, 3) := by decide +kernel
theorem d_Ms_readHead_18 : decode cb_Ms_readHead 18 = .ok (.aload_n 0, 1) := by decide +kernel
theorem d_Ms_readHead_19 : decode cb_Ms_readHead 19 = .ok (.getfield 69, 3) := by decide +kernel
theorem d_Ms_readHead_22 : decode cb_Ms_readHead 22 = .ok (.iaload, 1) := by decide +kernel
theorem d_Ms_readHead_23 : decode cb_Ms_readHead 23 = .ok (.bipush 16, 2) := by decide +kernel
theorem d_Ms_readHead_25 : decode cb_Ms_readHead 25 = .ok (.irem, 1) := by decide +kernel
theorem d_Ms_readHead_26 : decode cb_Ms_readHead 26 = .ok (.putfield 107, 3) := by decide +kernel
theorem d_Ms_readHead_29 : decode cb_Ms_readHead 29 = .ok (.aload_n 0, 1) := by decide +kernel
theorem d_Ms_readHead_30 : decode cb_Ms_readHead 30 = .ok (.dup, 1) := by decide +kernel
theorem d_Ms_readHead_31 : decode cb_Ms_readHead 31 = .ok (.getfield 69, 3) := by decide +kernel
theorem d_Ms_readHead_34 : decode cb_Ms_readHead 34 = .ok (.iconst 1, 1) := by decide +kernel
theorem d_Ms_readHead_35 : decode cb_Ms_readHead 35 = .ok (.iadd, 1) := by decide +kernel
theorem d_Ms_readHead_36 : decode cb_Ms_readHead 36 = .ok (.putfield 69, 3) := by decide +kernel
theorem d_Ms_readHead_39 : decode cb_Ms_readHead 39 = .ok (.iload_n 2, 1) := by decide +kernel
theorem d_Ms_readHead_40 : decode cb_Ms_readHead 40 = .ok (.bipush 13, 2) := by decide +kernel
theorem d_Ms_readHead_42 : decode cb_Ms_readHead 42 = .ok (.if_icmp .gt 12, 3) := by decide +kernel
theorem d_Ms_readHead_45 : decode cb_Ms_readHead 45 = .ok (.aload_n 0, 1) := by decide +kernel
theorem d_Ms_readHead_46 : decode cb_Ms_readHead 46 = .ok (.getfield 107, 3) := by decide +kernel
theorem d_Ms_readHead_49 : decode cb_Ms_readHead 49 = .ok (.bipush 12, 2) := by decide +kernel
theorem d_Ms_readHead_51 : decode cb_Ms_readHead 51 = .ok (.if_icmp .le 5, 3) := by decide +kernel
theorem d_Ms_readHead_54 : decode cb_Ms_readHead 54 = .ok (.iconst 0, 1) := by decide +kernel
theorem d_Ms_readHead_55 : decode cb_Ms_readHead 55 = .ok (.ireturn, 1) := by decide +kernel
theorem d_Ms_readHead_56 : decode cb_Ms_readHead 56 = .ok (.iload_n 2, 1) := by decide +kernel
theorem d_Ms_readHead_57 : decode cb_Ms_readHead 57 = .ok (.bipush 13, 2) := by decide +kernel
theorem d_Ms_readHead_59 : decode cb_Ms_readHead 59 = .ok (.if_icmp .ne 38, 3) := by decide +kernel
theorem d_Ms_readHead_62 : decode cb_Ms_readHead 62 = .ok (.aload_n 1, 1) := by decide +kernel
theorem d_Ms_readHead_63 : decode cb_Ms_readHead 63 = .ok (.aload_n 0, 1) := by decide +kernel
theorem d_Ms_readHead_64 : decode cb_Ms_readHead 64 = .ok (.getfield 69, 3) := by decide +kernel
theorem d_Ms_readHead_67 : decode cb_Ms_readHead 67 = .ok (.invokevirtual 103, 3) := by decide +kernel
theorem d_Ms_readHead_70 : decode cb_Ms_readHead 70 = .ok (.ifCond .ne 5, 3) := by decide +kernel
theorem d_Ms_readHead_73 : decode cb_Ms_readHead 73 = .ok (.iconst 0, 1) := by decide +kernel
theorem d_Ms_readHead_74 : decode cb_Ms_readHead 74 = .ok (.ireturn, 1) := by decide +kernel
theorem d_Ms_readHead_75 : decode cb_Ms_readHead 75 = .ok (.iload_n 2, 1) := by decide +kernel
theorem d_Ms_readHead_76 : decode cb_Ms_readHead 76 = .ok (.aload_n 1, 1) := by decide +kernel
theorem d_Ms_readHead_77 : decode cb_Ms_readHead 77 = .ok (.getfield 59, 3) := by decide +kernel
theorem d_Ms_readHead_80 : decode cb_Ms_readHead 80 = .ok (.aload_n 0, 1) := by decide +kernel
theorem d_Ms_readHead_81 : decode cb_Ms_readHead 81 = .ok (.getfield 69, 3) := by decide +kernel
theorem d_Ms_readHead_84 : decode cb_Ms_readHead 84 = .ok (.iaload, 1) := by decide +kernel
theorem d_Ms_readHead_85 : decode cb_Ms_readHead 85 = .ok (.iadd, 1) := by decide +kernel
theorem d_Ms_readHead_86 : decode cb_Ms_readHead 86 = .ok (.istore_n 2, 1) := by decide +kernel
theorem d_Ms_readHead_87 : decode cb_Ms_readHead 87 = .ok (.aload_n 0, 1) := by decide +kernel
theorem d_Ms_readHead_88 : decode cb_Ms_readHead 88 = .ok (.dup, 1) := by decide +kernel
theorem d_Ms_readHead_89 : decode cb_Ms_readHead 89 = .ok (.getfield 69, 3) := by decide +kernel
theorem d_Ms_readHead_92 : decode cb_Ms_readHead 92 = .ok (.iconst 1, 1) := by decide +kernel
theorem d_Ms_readHead_93 : decode cb_Ms_readHead 93 = .ok (.iadd, 1) := by decide +kernel
theorem d_Ms_readHead_94 : decode cb_Ms_readHead 94 = .ok (.putfield 69, 3) := by decide +kernel
theorem d_Ms_readHead_97 : decode cb_Ms_readHead 97 = .ok (.aload_n 0, 1) := by decide +kernel
theorem d_Ms_readHead_98 : decode cb_Ms_readHead 98 = .ok (.aload_n 0, 1) := by decide +kernel
theorem d_Ms_readHead_99 : decode cb_Ms_readHead 99 = .ok (.getfield 69, 3) := by decide +kernel
theorem d_Ms_readHead_102 : decode cb_Ms_readHead 102 = .ok (.putfield 110, 3) := by decide +kernel
theorem d_Ms_readHead_105 : decode cb_Ms_readHead 105 = .ok (.aload_n 0, 1) := by decide +kernel
theorem d_Ms_readHead_106 : decode cb_Ms_readHead 106 = .ok (.dup, 1) := by decide +kernel
theorem d_Ms_readHead_107 : decode cb_Ms_readHead 107 = .ok (.getfield 69, 3) := by decide +kernel
theorem d_Ms_readHead_110 : decode cb_Ms_readHead 110 = .ok (.aload_n 0, 1) := by decide +kernel
theorem d_Ms_readHead_111 : decode cb_Ms_readHead 111 = .ok (.getfield 107, 3) := by decide +kernel
theorem d_Ms_readHead_114 : decode cb_Ms_readHead 114 = .ok (.iadd, 1) := by decide +kernel
theorem d_Ms_readHead_115 : decode cb_Ms_readHead 115 = .ok (.putfield 69, 3) := by decide +kernel
theorem d_Ms_readHead_118 : decode cb_Ms_readHead 118 = .ok (.aload_n 0, 1) := by decide +kernel
theorem d_Ms_readHead_119 : decode cb_Ms_readHead 119 = .ok (.dup, 1) := by decide +kernel
theorem d_Ms_readHead_120 : decode cb_Ms_readHead 120 = .ok (.getfield 91, 3) := by decide +kernel
theorem d_Ms_readHead_123 : decode cb_Ms_readHead 123 = .ok (.iload_n 2, 1) := by decide +kernel
theorem d_Ms_readHead_124 : decode cb_Ms_readHead 124 = .ok (.iadd, 1) := by decide +kernel
theorem d_Ms_readHead_125 : decode cb_Ms_readHead 125 = .ok (.putfield 91, 3) := by decide +kernel
theorem d_Ms_readHead_128 : decode cb_Ms_readHead 128 = .ok (.aload_n 0, 1) := by decide +kernel
theorem d_Ms_readHead_129 : decode cb_Ms_readHead 129 = .ok (.getfield 69, 3) := by decide +kernel
theorem d_Ms_readHead_132 : decode cb_Ms_readHead 132 = .ok (.aload_n 1, 1) := by decide +kernel
theorem d_Ms_readHead_133 : decode cb_Ms_readHead 133 = .ok (.getfield 56, 3) := by decide +kernel
theorem d_Ms_readHead_136 : decode cb_Ms_readHead 136 = .ok (.if_icmp .gt 20, 3) := by decide +kernel
theorem d_Ms_readHead_139 : decode cb_Ms_readHead 139 = .ok (.iload_n 2, 1) := by decide +kernel
theorem d_Ms_readHead_140 : decode cb_Ms_readHead 140 = .ok (.ifCond .gt 12, 3) := by decide +kernel
theorem d_Ms_readHead_143 : decode cb_Ms_readHead 143 = .ok (.aload_n 0, 1) := by decide +kernel
theorem d_Ms_readHead_144 : decode cb_Ms_readHead 144 = .ok (.getfield 91, 3) := by decide +kernel
theorem d_Ms_readHead_147 : decode cb_Ms_readHead 147 = .ok (.bipush 11, 2) := by decide +kernel
theorem d_Ms_readHead_149 : decode cb_Ms_readHead 149 = .ok (.if_icmp .ne 7, 3) := by decide +kernel
theorem d_Ms_readHead_152 : decode cb_Ms_readHead 152 = .ok (.iconst 1, 1) := by decide +kernel
theorem d_Ms_readHead_153 : decode cb_Ms_readHead 153 = .ok (.goto 4, 3) := by decide +kernel
theorem d_Ms_readHead_156 : decode cb_Ms_readHead 156 = .ok (.iconst 0, 1) := by decide +kernel
theorem d_Ms_readHead_157 : decode cb_Ms_readHead 157 = .ok (.ireturn, 1) := by decide +kernel
theorem d_By_byteOrBad_0 : decode cb_By_byteOrBad 0 = .ok (.aload_n 0, 1) := by decide +kernel
theorem d_By_byteOrBad_1 : decode cb_By_byteOrBad 1 = .ok (.iload_n 1, 1) := by decide +kernel
theorem d_By_byteOrBad_2 : decode cb_By_byteOrBad 2 = .ok (.invokevirtual 19, 3) := by decide +kernel
theorem d_By_byteOrBad_5 : decode cb_By_byteOrBad 5 = .ok (.ifCond .eq 12, 3) := by decide +kernel
theorem d_By_byteOrBad_8 : decode cb_By_byteOrBad 8 = .ok (.aload_n 0, 1) := by decide +kernel
theorem d_By_byteOrBad_9 : decode cb_By_byteOrBad 9 = .ok (.getfield 9, 3) := by decide +kernel
theorem d_By_byteOrBad_12 : decode cb_By_byteOrBad 12 = .ok (.iload_n 1, 1) := by decide +kernel
theorem d_By_byteOrBad_13 : decode cb_By_byteOrBad 13 = .ok (.iaload, 1) := by decide +kernel
theorem d_By_byteOrBad_14 : decode cb_By_byteOrBad 14 = .ok (.goto 4, 3) := by decide +kernel
theorem d_By_byteOrBad_17 : decode cb_By_byteOrBad 17 = .ok (.iconst (-1), 1) := by decide +kernel
theorem d_By_byteOrBad_18 : decode cb_By_byteOrBad 18 = .ok (.ireturn, 1) := by decide +kernel
theorem d_Ms_numberIn_0 : decode cb_Ms_numberIn 0 = .ok (.aload_n 0, 1) := by decide +kernel
theorem d_Ms_numberIn_1 : decode cb_Ms_numberIn 1 = .ok (.getfield 107, 3) := by decide +kernel
theorem d_Ms_numberIn_4 : decode cb_Ms_numberIn 4 = .ok (.ifCond .ne 5, 3) := by decide +kernel
theorem d_Ms_numberIn_7 : decode cb_Ms_numberIn 7 = .ok (.iconst 0, 1) := by decide +kernel
theorem d_Ms_numberIn_8 : decode cb_Ms_numberIn 8 = .ok (.ireturn, 1) := by decide +kernel
theorem d_Ms_numberIn_9 : decode cb_Ms_numberIn 9 = .ok (.aload_n 1, 1) := by decide +kernel
theorem d_Ms_numberIn_10 : decode cb_Ms_numberIn 10 = .ok (.aload_n 0, 1) := by decide +kernel
theorem d_Ms_numberIn_11 : decode cb_Ms_numberIn 11 = .ok (.getfield 110, 3) := by decide +kernel
theorem d_Ms_numberIn_14 : decode cb_Ms_numberIn 14 = .ok (.invokevirtual 127, 3) := by decide +kernel
theorem d_Ms_numberIn_17 : decode cb_Ms_numberIn 17 = .ok (.istore_n 2, 1) := by decide +kernel
theorem d_Ms_numberIn_18 : decode cb_Ms_numberIn 18 = .ok (.aload_n 0, 1) := by decide +kernel
theorem d_Ms_numberIn_19 : decode cb_Ms_numberIn 19 = .ok (.getfield 107, 3) := by decide +kernel
theorem d_Ms_numberIn_22 : decode cb_Ms_numberIn 22 = .ok (.iconst 2, 1) := by decide +kernel
theorem d_Ms_numberIn_23 : decode cb_Ms_numberIn 23 = .ok (.if_icmp .gt 7, 3) := by decide +kernel
theorem d_Ms_numberIn_26 : decode cb_Ms_numberIn 26 = .ok (.iload_n 2, 1) := by decide +kernel
theorem d_Ms_numberIn_27 : decode cb_Ms_numberIn 27 = .ok (.ifCond .gt 5, 3) := by decide +kernel
theorem d_Ms_numberIn_30 : decode cb_Ms_numberIn 30 = .ok (.iconst (-1), 1) := by decide +kernel
theorem d_Ms_numberIn_31 : decode cb_Ms_numberIn 31 = .ok (.ireturn, 1) := by decide +kernel
theorem d_Ms_numberIn_32 : decode cb_Ms_numberIn 32 = .ok (.aload_n 0, 1) := by decide +kernel
theorem d_Ms_numberIn_33 : decode cb_Ms_numberIn 33 = .ok (.getfield 107, 3) := by decide +kernel
theorem d_Ms_numberIn_36 : decode cb_Ms_numberIn 36 = .ok (.iconst 1, 1) := by decide +kernel
theorem d_Ms_numberIn_37 : decode cb_Ms_numberIn 37 = .ok (.if_icmp .ne 7, 3) := by decide +kernel
theorem d_Ms_numberIn_40 : decode cb_Ms_numberIn 40 = .ok (.iload_n 2, 1) := by decide +kernel
theorem d_Ms_numberIn_41 : decode cb_Ms_numberIn 41 = .ok (.goto 19, 3) := by decide +kernel
theorem d_Ms_numberIn_44 : decode cb_Ms_numberIn 44 = .ok (.sipush 256, 3) := by decide +kernel
theorem d_Ms_numberIn_47 : decode cb_Ms_numberIn 47 = .ok (.iload_n 2, 1) := by decide +kernel
theorem d_Ms_numberIn_48 : decode cb_Ms_numberIn 48 = .ok (.imul, 1) := by decide +kernel
theorem d_Ms_numberIn_49 : decode cb_Ms_numberIn 49 = .ok (.aload_n 1, 1) := by decide +kernel
theorem d_Ms_numberIn_50 : decode cb_Ms_numberIn 50 = .ok (.aload_n 0, 1) := by decide +kernel
theorem d_Ms_numberIn_51 : decode cb_Ms_numberIn 51 = .ok (.getfield 110, 3) := by decide +kernel
theorem d_Ms_numberIn_54 : decode cb_Ms_numberIn 54 = .ok (.iconst 1, 1) := by decide +kernel
theorem d_Ms_numberIn_55 : decode cb_Ms_numberIn 55 = .ok (.iadd, 1) := by decide +kernel
theorem d_Ms_numberIn_56 : decode cb_Ms_numberIn 56 = .ok (.invokevirtual 127, 3) := by decide +kernel
theorem d_Ms_numberIn_59 : decode cb_Ms_numberIn 59 = .ok (.iadd, 1) := by decide +kernel
theorem d_Ms_numberIn_60 : decode cb_Ms_numberIn 60 = .ok (.ireturn, 1) := by decide +kernel
theorem d_Ms_keepSegment_0 : decode cb_Ms_keepSegment 0 = .ok (.aload_n 0, 1) := by decide +kernel
theorem d_Ms_keepSegment_1 : decode cb_Ms_keepSegment 1 = .ok (.getfield 43, 3) := by decide +kernel
theorem d_Ms_keepSegment_4 : decode cb_Ms_keepSegment 4 = .ok (.iconst 2, 1) := by decide +kernel
theorem d_Ms_keepSegment_5 : decode cb_Ms_keepSegment 5 = .ok (.if_icmp .ne 5, 3) := by decide +kernel
theorem d_Ms_keepSegment_8 : decode cb_Ms_keepSegment 8 = .ok (.iconst 0, 1) := by decide +kernel
theorem d_Ms_keepSegment_9 : decode cb_Ms_keepSegment 9 = .ok (.ireturn, 1) := by decide +kernel
theorem d_Ms_keepSegment_10 : decode cb_Ms_keepSegment 10 = .ok (.aload_n 0, 1) := by decide +kernel
theorem d_Ms_keepSegment_11 : decode cb_Ms_keepSegment 11 = .ok (.getfield 43, 3) := by decide +kernel
theorem d_Ms_keepSegment_14 : decode cb_Ms_keepSegment 14 = .ok (.ifCond .ne 10, 3) := by decide +kernel
theorem d_Ms_keepSegment_17 : decode cb_Ms_keepSegment 17 = .ok (.aload_n 0, 1) := by decide +kernel
theorem d_Ms_keepSegment_18 : decode cb_Ms_keepSegment 18 = .ok (.getfield 14, 3) := by decide +kernel
theorem d_Ms_keepSegment_21 : decode cb_Ms_keepSegment 21 = .ok (.goto 7, 3) := by decide +kernel
theorem d_Ms_keepSegment_24 : decode cb_Ms_keepSegment 24 = .ok (.aload_n 0, 1) := by decide +kernel
theorem d_Ms_keepSegment_25 : decode cb_Ms_keepSegment 25 = .ok (.getfield 20, 3) := by decide +kernel
theorem d_Ms_keepSegment_28 : decode cb_Ms_keepSegment 28 = .ok (.astore_n 2, 1) := by decide +kernel
theorem d_Ms_keepSegment_29 : decode cb_Ms_keepSegment 29 = .ok (.aload_n 2, 1) := by decide +kernel
theorem d_Ms_keepSegment_30 : decode cb_Ms_keepSegment 30 = .ok (.aload_n 1, 1) := by decide +kernel
theorem d_Ms_keepSegment_31 : decode cb_Ms_keepSegment 31 = .ok (.aload_n 0, 1) := by decide +kernel
theorem d_Ms_keepSegment_32 : decode cb_Ms_keepSegment 32 = .ok (.getfield 110, 3) := by decide +kernel
theorem d_Ms_keepSegment_35 : decode cb_Ms_keepSegment 35 = .ok (.aload_n 0, 1) := by decide +kernel
theorem d_Ms_keepSegment_36 : decode cb_Ms_keepSegment 36 = .ok (.getfield 107, 3) := by decide +kernel
theorem d_Ms_keepSegment_39 : decode cb_Ms_keepSegment 39 = .ok (.invokevirtual 123, 3) := by decide +kernel
theorem d_Ms_keepSegment_42 : decode cb_Ms_keepSegment 42 = .ok (.aload_n 0, 1) := by decide +kernel
theorem d_Ms_keepSegment_43 : decode cb_Ms_keepSegment 43 = .ok (.dup, 1) := by decide +kernel
theorem d_Ms_keepSegment_44 : decode cb_Ms_keepSegment 44 = .ok (.getfield 43, 3) := by decide +kernel
theorem d_Ms_keepSegment_47 : decode cb_Ms_keepSegment 47 = .ok (.iconst 1, 1) := by decide +kernel
theorem d_Ms_keepSegment_48 : decode cb_Ms_keepSegment 48 = .ok (.iadd, 1) := by decide +kernel
theorem d_Ms_keepSegment_49 : decode cb_Ms_keepSegment 49 = .ok (.putfield 43, 3) := by decide +kernel
theorem d_Ms_keepSegment_52 : decode cb_Ms_keepSegment 52 = .ok (.iconst 1, 1) := by decide +kernel
theorem d_Ms_keepSegment_53 : decode cb_Ms_keepSegment 53 = .ok (.ireturn, 1) := by decide +kernel
theorem d_Ob_szxOf_0 : decode cb_Ob_szxOf 0 = .ok (.iload_n 0, 1) := by decide +kernel
theorem d_Ob_szxOf_1 : decode cb_Ob_szxOf 1 = .ok (.bipush 7, 2) := by decide +kernel
theorem d_Ob_szxOf_3 : decode cb_Ob_szxOf 3 = .ok (.iand, 1) := by decide +kernel
theorem d_Ob_szxOf_4 : decode cb_Ob_szxOf 4 = .ok (.ireturn, 1) := by decide +kernel
theorem d_Ms_isBlock_0 : decode cb_Ms_isBlock 0 = .ok (.iload_n 0, 1) := by decide +kernel
theorem d_Ms_isBlock_1 : decode cb_Ms_isBlock 1 = .ok (.iconst (-1), 1) := by decide +kernel
theorem d_Ms_isBlock_2 : decode cb_Ms_isBlock 2 = .ok (.if_icmp .eq 22, 3) := by decide +kernel
theorem d_Ms_isBlock_5 : decode cb_Ms_isBlock 5 = .ok (.iload_n 0, 1) := by decide +kernel
theorem d_Ms_isBlock_6 : decode cb_Ms_isBlock 6 = .ok (.sipush 1023, 3) := by decide +kernel
theorem d_Ms_isBlock_9 : decode cb_Ms_isBlock 9 = .ok (.if_icmp .gt 15, 3) := by decide +kernel
theorem d_Ms_isBlock_12 : decode cb_Ms_isBlock 12 = .ok (.iload_n 0, 1) := by decide +kernel
theorem d_Ms_isBlock_13 : decode cb_Ms_isBlock 13 = .ok (.invokestatic 131, 3) := by decide +kernel
theorem d_Ms_isBlock_16 : decode cb_Ms_isBlock 16 = .ok (.iconst 1, 1) := by decide +kernel
theorem d_Ms_isBlock_17 : decode cb_Ms_isBlock 17 = .ok (.if_icmp .gt 7, 3) := by decide +kernel
theorem d_Ms_isBlock_20 : decode cb_Ms_isBlock 20 = .ok (.iconst 1, 1) := by decide +kernel
theorem d_Ms_isBlock_21 : decode cb_Ms_isBlock 21 = .ok (.goto 4, 3) := by decide +kernel
theorem d_Ms_isBlock_24 : decode cb_Ms_isBlock 24 = .ok (.iconst 0, 1) := by decide +kernel
theorem d_Ms_isBlock_25 : decode cb_Ms_isBlock 25 = .ok (.ireturn, 1) := by decide +kernel
theorem d_Ms_keepValue_0 : decode cb_Ms_keepValue 0 = .ok (.aload_n 0, 1) := by decide +kernel
theorem d_Ms_keepValue_1 : decode cb_Ms_keepValue 1 = .ok (.getfield 91, 3) := by decide +kernel
theorem d_Ms_keepValue_4 : decode cb_Ms_keepValue 4 = .ok (.lookupswitch 107 #[(6, 44), (11, 67), (23, 73), (27, 90)], 44) := by decide +kernel
theorem d_Ms_keepValue_48 : decode cb_Ms_keepValue 48 = .ok (.aload_n 0, 1) := by decide +kernel
theorem d_Ms_keepValue_49 : decode cb_Ms_keepValue 49 = .ok (.aload_n 0, 1) := by decide +kernel
theorem d_Ms_keepValue_50 : decode cb_Ms_keepValue 50 = .ok (.aload_n 1, 1) := by decide +kernel
theorem d_Ms_keepValue_51 : decode cb_Ms_keepValue 51 = .ok (.invokevirtual 113, 3) := by decide +kernel
theorem d_Ms_keepValue_54 : decode cb_Ms_keepValue 54 = .ok (.putfield 79, 3) := by decide +kernel
theorem d_Ms_keepValue_57 : decode cb_Ms_keepValue 57 = .ok (.aload_n 0, 1) := by decide +kernel
theorem d_Ms_keepValue_58 : decode cb_Ms_keepValue 58 = .ok (.getfield 79, 3) := by decide +kernel
theorem d_Ms_keepValue_61 : decode cb_Ms_keepValue 61 = .ok (.iconst (-1), 1) := by decide +kernel
theorem d_Ms_keepValue_62 : decode cb_Ms_keepValue 62 = .ok (.if_icmp .eq 7, 3) := by decide +kernel
theorem d_Ms_keepValue_65 : decode cb_Ms_keepValue 65 = .ok (.iconst 1, 1) := by decide +kernel
theorem d_Ms_keepValue_66 : decode cb_Ms_keepValue 66 = .ok (.goto 4, 3) := by decide +kernel
theorem d_Ms_keepValue_69 : decode cb_Ms_keepValue 69 = .ok (.iconst 0, 1) := by decide +kernel
theorem d_Ms_keepValue_70 : decode cb_Ms_keepValue 70 = .ok (.ireturn, 1) := by decide +kernel
theorem d_Ms_keepValue_71 : decode cb_Ms_keepValue 71 = .ok (.aload_n 0, 1) := by decide +kernel
theorem d_Ms_keepValue_72 : decode cb_Ms_keepValue 72 = .ok (.aload_n 1, 1) := by decide +kernel
theorem d_Ms_keepValue_73 : decode cb_Ms_keepValue 73 = .ok (.invokevirtual 117, 3) := by decide +kernel
theorem d_Ms_keepValue_76 : decode cb_Ms_keepValue 76 = .ok (.ireturn, 1) := by decide +kernel
theorem d_Ms_keepValue_77 : decode cb_Ms_keepValue 77 = .ok (.aload_n 0, 1) := by decide +kernel
theorem d_Ms_keepValue_78 : decode cb_Ms_keepValue 78 = .ok (.aload_n 0, 1) := by decide +kernel
theorem d_Ms_keepValue_79 : decode cb_Ms_keepValue 79 = .ok (.aload_n 1, 1) := by decide +kernel
theorem d_Ms_keepValue_80 : decode cb_Ms_keepValue 80 = .ok (.invokevirtual 113, 3) := by decide +kernel
theorem d_Ms_keepValue_83 : decode cb_Ms_keepValue 83 = .ok (.putfield 82, 3) := by decide +kernel
theorem d_Ms_keepValue_86 : decode cb_Ms_keepValue 86 = .ok (.aload_n 0, 1) := by decide +kernel
theorem d_Ms_keepValue_87 : decode cb_Ms_keepValue 87 = .ok (.getfield 82, 3) := by decide +kernel
theorem d_Ms_keepValue_90 : decode cb_Ms_keepValue 90 = .ok (.invokestatic 120, 3) := by decide +kernel
theorem d_Ms_keepValue_93 : decode cb_Ms_keepValue 93 = .ok (.ireturn, 1) := by decide +kernel
theorem d_Ms_keepValue_94 : decode cb_Ms_keepValue 94 = .ok (.aload_n 0, 1) := by decide +kernel
theorem d_Ms_keepValue_95 : decode cb_Ms_keepValue 95 = .ok (.aload_n 0, 1) := by decide +kernel
theorem d_Ms_keepValue_96 : decode cb_Ms_keepValue 96 = .ok (.aload_n 1, 1) := by decide +kernel
theorem d_Ms_keepValue_97 : decode cb_Ms_keepValue 97 = .ok (.invokevirtual 113, 3) := by decide +kernel
theorem d_Ms_keepValue_100 : decode cb_Ms_keepValue 100 = .ok (.putfield 85, 3) := by decide +kernel
theorem d_Ms_keepValue_103 : decode cb_Ms_keepValue 103 = .ok (.aload_n 0, 1) := by decide +kernel
theorem d_Ms_keepValue_104 : decode cb_Ms_keepValue 104 = .ok (.getfield 85, 3) := by decide +kernel
theorem d_Ms_keepValue_107 : decode cb_Ms_keepValue 107 = .ok (.invokestatic 120, 3) := by decide +kernel
theorem d_Ms_keepValue_110 : decode cb_Ms_keepValue 110 = .ok (.ireturn, 1) := by decide +kernel
theorem d_Ms_keepValue_111 : decode cb_Ms_keepValue 111 = .ok (.iconst 0, 1) := by decide +kernel
theorem d_Ms_keepValue_112 : decode cb_Ms_keepValue 112 = .ok (.ireturn, 1) := by decide +kernel
theorem d_Ms_readOptions_0 : decode cb_Ms_readOptions 0 = .ok (.iconst 1, 1) := by decide +kernel
theorem d_Ms_readOptions_1 : decode cb_Ms_readOptions 1 = .ok (.istore_n 2, 1) := by decide +kernel
theorem d_Ms_readOptions_2 : decode cb_Ms_readOptions 2 = .ok (.iconst 0, 1) := by decide +kernel
theorem d_Ms_readOptions_3 : decode cb_Ms_readOptions 3 = .ok (.istore_n 3, 1) := by decide +kernel
theorem d_Ms_readOptions_4 : decode cb_Ms_readOptions 4 = .ok (.iload_n 2, 1) := by decide +kernel
theorem d_Ms_readOptions_5 : decode cb_Ms_readOptions 5 = .ok (.ifCond .eq 44, 3) := by decide +kernel
theorem d_Ms_readOptions_8 : decode cb_Ms_readOptions 8 = .ok (.iload_n 3, 1) := by decide +kernel
theorem d_Ms_readOptions_9 : decode cb_Ms_readOptions 9 = .ok (.iconst 5, 1) := by decide +kernel
theorem d_Ms_readOptions_10 : decode cb_Ms_readOptions 10 = .ok (.if_icmp .ge 39, 3) := by decide +kernel
theorem d_Ms_readOptions_13 : decode cb_Ms_readOptions 13 = .ok (.aload_n 0, 1) := by decide +kernel
theorem d_Ms_readOptions_14 : decode cb_Ms_readOptions 14 = .ok (.aload_n 1, 1) := by decide +kernel
theorem d_Ms_readOptions_15 : decode cb_Ms_readOptions 15 = .ok (.invokevirtual 94, 3) := by decide +kernel
theorem d_Ms_readOptions_18 : decode cb_Ms_readOptions 18 = .ok (.ifCond .eq 31, 3) := by decide +kernel
theorem d_Ms_readOptions_21 : decode cb_Ms_readOptions 21 = .ok (.aload_n 0, 1) := by decide +kernel
theorem d_Ms_readOptions_22 : decode cb_Ms_readOptions 22 = .ok (.aload_n 1, 1) := by decide +kernel
theorem d_Ms_readOptions_23 : decode cb_Ms_readOptions 23 = .ok (.invokevirtual 97, 3) := by decide +kernel
theorem d_Ms_readOptions_26 : decode cb_Ms_readOptions 26 = .ok (.ifCond .eq 15, 3) := by decide +kernel
theorem d_Ms_readOptions_29 : decode cb_Ms_readOptions 29 = .ok (.aload_n 0, 1) := by decide +kernel
theorem d_Ms_readOptions_30 : decode cb_Ms_readOptions 30 = .ok (.aload_n 1, 1) := by decide +kernel
theorem d_Ms_readOptions_31 : decode cb_Ms_readOptions 31 = .ok (.invokevirtual 100, 3) := by decide +kernel
theorem d_Ms_readOptions_34 : decode cb_Ms_readOptions 34 = .ok (.ifCond .eq 7, 3) := by decide +kernel
theorem d_Ms_readOptions_37 : decode cb_Ms_readOptions 37 = .ok (.iconst 1, 1) := by decide +kernel
theorem d_Ms_readOptions_38 : decode cb_Ms_readOptions 38 = .ok (.goto 4, 3) := by decide +kernel
theorem d_Ms_readOptions_41 : decode cb_Ms_readOptions 41 = .ok (.iconst 0, 1) := by decide +kernel
theorem d_Ms_readOptions_42 : decode cb_Ms_readOptions 42 = .ok (.istore_n 2, 1) := by decide +kernel
theorem d_Ms_readOptions_43 : decode cb_Ms_readOptions 43 = .ok (.iinc 3 1, 3) := by decide +kernel
theorem d_Ms_readOptions_46 : decode cb_Ms_readOptions 46 = .ok (.goto (-42), 3) := by decide +kernel
theorem d_Ms_readOptions_49 : decode cb_Ms_readOptions 49 = .ok (.iload_n 2, 1) := by decide +kernel
theorem d_Ms_readOptions_50 : decode cb_Ms_readOptions 50 = .ok (.ifCond .eq 15, 3) := by decide +kernel
theorem d_Ms_readOptions_53 : decode cb_Ms_readOptions 53 = .ok (.aload_n 0, 1) := by decide +kernel
theorem d_Ms_readOptions_54 : decode cb_Ms_readOptions 54 = .ok (.aload_n 1, 1) := by decide +kernel
theorem d_Ms_readOptions_55 : decode cb_Ms_readOptions 55 = .ok (.invokevirtual 94, 3) := by decide +kernel
theorem d_Ms_readOptions_58 : decode cb_Ms_readOptions 58 = .ok (.ifCond .ne 7, 3) := by decide +kernel
theorem d_Ms_readOptions_61 : decode cb_Ms_readOptions 61 = .ok (.iconst 1, 1) := by decide +kernel
theorem d_Ms_readOptions_62 : decode cb_Ms_readOptions 62 = .ok (.goto 4, 3) := by decide +kernel
theorem d_Ms_readOptions_65 : decode cb_Ms_readOptions 65 = .ok (.iconst 0, 1) := by decide +kernel
theorem d_Ms_readOptions_66 : decode cb_Ms_readOptions 66 = .ok (.ireturn, 1) := by decide +kernel
theorem d_Ms_readPayload_0 : decode cb_Ms_readPayload 0 = .ok (.aload_n 0, 1) := by decide +kernel
theorem d_Ms_readPayload_1 : decode cb_Ms_readPayload 1 = .ok (.getfield 69, 3) := by decide +kernel
theorem d_Ms_readPayload_4 : decode cb_Ms_readPayload 4 = .ok (.aload_n 1, 1) := by decide +kernel
theorem d_Ms_readPayload_5 : decode cb_Ms_readPayload 5 = .ok (.getfield 56, 3) := by decide +kernel
theorem d_Ms_readPayload_8 : decode cb_Ms_readPayload 8 = .ok (.if_icmp .ne 5, 3) := by decide +kernel
theorem d_Ms_readPayload_11 : decode cb_Ms_readPayload 11 = .ok (.iconst 1, 1) := by decide +kernel
theorem d_Ms_readPayload_12 : decode cb_Ms_readPayload 12 = .ok (.ireturn, 1) := by decide +kernel
theorem d_Ms_readPayload_13 : decode cb_Ms_readPayload 13 = .ok (.aload_n 1, 1) := by decide +kernel
theorem d_Ms_readPayload_14 : decode cb_Ms_readPayload 14 = .ok (.getfield 56, 3) := by decide +kernel
theorem d_Ms_readPayload_17 : decode cb_Ms_readPayload 17 = .ok (.aload_n 0, 1) := by decide +kernel
theorem d_Ms_readPayload_18 : decode cb_Ms_readPayload 18 = .ok (.getfield 69, 3) := by decide +kernel
theorem d_Ms_readPayload_21 : decode cb_Ms_readPayload 21 = .ok (.isub, 1) := by decide +kernel
theorem d_Ms_readPayload_22 : decode cb_Ms_readPayload 22 = .ok (.iconst 1, 1) := by decide +kernel
theorem d_Ms_readPayload_23 : decode cb_Ms_readPayload 23 = .ok (.isub, 1) := by decide +kernel
theorem d_Ms_readPayload_24 : decode cb_Ms_readPayload 24 = .ok (.istore_n 2, 1) := by decide +kernel
theorem d_Ms_readPayload_25 : decode cb_Ms_readPayload 25 = .ok (.aload_n 0, 1) := by decide +kernel
theorem d_Ms_readPayload_26 : decode cb_Ms_readPayload 26 = .ok (.getfield 23, 3) := by decide +kernel
theorem d_Ms_readPayload_29 : decode cb_Ms_readPayload 29 = .ok (.aload_n 1, 1) := by decide +kernel
theorem d_Ms_readPayload_30 : decode cb_Ms_readPayload 30 = .ok (.aload_n 0, 1) := by decide +kernel
theorem d_Ms_readPayload_31 : decode cb_Ms_readPayload 31 = .ok (.getfield 69, 3) := by decide +kernel
theorem d_Ms_readPayload_34 : decode cb_Ms_readPayload 34 = .ok (.iconst 1, 1) := by decide +kernel
theorem d_Ms_readPayload_35 : decode cb_Ms_readPayload 35 = .ok (.iadd, 1) := by decide +kernel
theorem d_Ms_readPayload_36 : decode cb_Ms_readPayload 36 = .ok (.iload_n 2, 1) := by decide +kernel
theorem d_Ms_readPayload_37 : decode cb_Ms_readPayload 37 = .ok (.invokevirtual 123, 3) := by decide +kernel
theorem d_Ms_readPayload_40 : decode cb_Ms_readPayload 40 = .ok (.iload_n 2, 1) := by decide +kernel
theorem d_Ms_readPayload_41 : decode cb_Ms_readPayload 41 = .ok (.ifCond .le 13, 3) := by decide +kernel
theorem d_Ms_readPayload_44 : decode cb_Ms_readPayload 44 = .ok (.iload_n 2, 1) := by decide +kernel
theorem d_Ms_readPayload_45 : decode cb_Ms_readPayload 45 = .ok (.bipush 32, 2) := by decide +kernel
theorem d_Ms_readPayload_47 : decode cb_Ms_readPayload 47 = .ok (.if_icmp .gt 7, 3) := by decide +kernel
theorem d_Ms_readPayload_50 : decode cb_Ms_readPayload 50 = .ok (.iconst 1, 1) := by decide +kernel
theorem d_Ms_readPayload_51 : decode cb_Ms_readPayload 51 = .ok (.goto 4, 3) := by decide +kernel
theorem d_Ms_readPayload_54 : decode cb_Ms_readPayload 54 = .ok (.iconst 0, 1) := by decide +kernel
theorem d_Ms_readPayload_55 : decode cb_Ms_readPayload 55 = .ok (.ireturn, 1) := by decide +kernel
theorem d_Ms_read_0 : decode cb_Ms_read 0 = .ok (.aload_n 0, 1) := by decide +kernel
theorem d_Ms_read_1 : decode cb_Ms_read 1 = .ok (.invokevirtual 53, 3) := by decide +kernel
theorem d_Ms_read_4 : decode cb_Ms_read 4 = .ok (.aload_n 1, 1) := by decide +kernel
theorem d_Ms_read_5 : decode cb_Ms_read 5 = .ok (.getfield 56, 3) := by decide +kernel
theorem d_Ms_read_8 : decode cb_Ms_read 8 = .ok (.iconst 4, 1) := by decide +kernel
theorem d_Ms_read_9 : decode cb_Ms_read 9 = .ok (.if_icmp .ge 5, 3) := by decide +kernel
theorem d_Ms_read_12 : decode cb_Ms_read 12 = .ok (.iconst 0, 1) := by decide +kernel
theorem d_Ms_read_13 : decode cb_Ms_read 13 = .ok (.ireturn, 1) := by decide +kernel
theorem d_Ms_read_14 : decode cb_Ms_read 14 = .ok (.aload_n 0, 1) := by decide +kernel
theorem d_Ms_read_15 : decode cb_Ms_read 15 = .ok (.aload_n 1, 1) := by decide +kernel
theorem d_Ms_read_16 : decode cb_Ms_read 16 = .ok (.getfield 59, 3) := by decide +kernel
theorem d_Ms_read_19 : decode cb_Ms_read 19 = .ok (.iconst 1, 1) := by decide +kernel
theorem d_Ms_read_20 : decode cb_Ms_read 20 = .ok (.iaload, 1) := by decide +kernel
theorem d_Ms_read_21 : decode cb_Ms_read 21 = .ok (.putfield 30, 3) := by decide +kernel
theorem d_Ms_read_24 : decode cb_Ms_read 24 = .ok (.aload_n 1, 1) := by decide +kernel
theorem d_Ms_read_25 : decode cb_Ms_read 25 = .ok (.getfield 59, 3) := by decide +kernel
theorem d_Ms_read_28 : decode cb_Ms_read 28 = .ok (.iconst 0, 1) := by decide +kernel
theorem d_Ms_read_29 : decode cb_Ms_read 29 = .ok (.iaload, 1) := by decide +kernel
theorem d_Ms_read_30 : decode cb_Ms_read 30 = .ok (.bipush 64, 2) := by decide +kernel
theorem d_Ms_read_32 : decode cb_Ms_read 32 = .ok (.isub, 1) := by decide +kernel
theorem d_Ms_read_33 : decode cb_Ms_read 33 = .ok (.aload_n 0, 1) := by decide +kernel
theorem d_Ms_read_34 : decode cb_Ms_read 34 = .ok (.getfield 30, 3) := by decide +kernel
theorem d_Ms_read_37 : decode cb_Ms_read 37 = .ok (.ifCond .ne 7, 3) := by decide +kernel
theorem d_Ms_read_40 : decode cb_Ms_read 40 = .ok (.iconst 0, 1) := by decide +kernel
theorem d_Ms_read_41 : decode cb_Ms_read 41 = .ok (.goto 4, 3) := by decide +kernel
theorem d_Ms_read_44 : decode cb_Ms_read 44 = .ok (.iconst 1, 1) := by decide +kernel
theorem d_Ms_read_45 : decode cb_Ms_read 45 = .ok (.isub, 1) := by decide +kernel
theorem d_Ms_read_46 : decode cb_Ms_read 46 = .ok (.istore_n 2, 1) := by decide +kernel
theorem d_Ms_read_47 : decode cb_Ms_read 47 = .ok (.iload_n 2, 1) := by decide +kernel
theorem d_Ms_read_48 : decode cb_Ms_read 48 = .ok (.ifCond .lt 16, 3) := by decide +kernel
theorem d_Ms_read_51 : decode cb_Ms_read 51 = .ok (.iload_n 2, 1) := by decide +kernel
theorem d_Ms_read_52 : decode cb_Ms_read 52 = .ok (.bipush 48, 2) := by decide +kernel
theorem d_Ms_read_54 : decode cb_Ms_read 54 = .ok (.if_icmp .gt 10, 3) := by decide +kernel
theorem d_Ms_read_57 : decode cb_Ms_read 57 = .ok (.iload_n 2, 1) := by decide +kernel
theorem d_Ms_read_58 : decode cb_Ms_read 58 = .ok (.bipush 16, 2) := by decide +kernel
theorem d_Ms_read_60 : decode cb_Ms_read 60 = .ok (.irem, 1) := by decide +kernel
theorem d_Ms_read_61 : decode cb_Ms_read 61 = .ok (.ifCond .eq 5, 3) := by decide +kernel
theorem d_Ms_read_64 : decode cb_Ms_read 64 = .ok (.iconst 0, 1) := by decide +kernel
theorem d_Ms_read_65 : decode cb_Ms_read 65 = .ok (.ireturn, 1) := by decide +kernel
theorem d_Ms_read_66 : decode cb_Ms_read 66 = .ok (.aload_n 0, 1) := by decide +kernel
theorem d_Ms_read_67 : decode cb_Ms_read 67 = .ok (.iload_n 2, 1) := by decide +kernel
theorem d_Ms_read_68 : decode cb_Ms_read 68 = .ok (.bipush 16, 2) := by decide +kernel
theorem d_Ms_read_70 : decode cb_Ms_read 70 = .ok (.idiv, 1) := by decide +kernel
theorem d_Ms_read_71 : decode cb_Ms_read 71 = .ok (.putfield 26, 3) := by decide +kernel
theorem d_Ms_read_74 : decode cb_Ms_read 74 = .ok (.aload_n 0, 1) := by decide +kernel
theorem d_Ms_read_75 : decode cb_Ms_read 75 = .ok (.sipush 256, 3) := by decide +kernel
theorem d_Ms_read_78 : decode cb_Ms_read 78 = .ok (.aload_n 1, 1) := by decide +kernel
theorem d_Ms_read_79 : decode cb_Ms_read 79 = .ok (.getfield 59, 3) := by decide +kernel
theorem d_Ms_read_82 : decode cb_Ms_read 82 = .ok (.iconst 2, 1) := by decide +kernel
theorem d_Ms_read_83 : decode cb_Ms_read 83 = .ok (.iaload, 1) := by decide +kernel
theorem d_Ms_read_84 : decode cb_Ms_read 84 = .ok (.imul, 1) := by decide +kernel
theorem d_Ms_read_85 : decode cb_Ms_read 85 = .ok (.aload_n 1, 1) := by decide +kernel
theorem d_Ms_read_86 : decode cb_Ms_read 86 = .ok (.getfield 59, 3) := by decide +kernel
theorem d_Ms_read_89 : decode cb_Ms_read 89 = .ok (.iconst 3, 1) := by decide +kernel
theorem d_Ms_read_90 : decode cb_Ms_read 90 = .ok (.iaload, 1) := by decide +kernel
theorem d_Ms_read_91 : decode cb_Ms_read 91 = .ok (.iadd, 1) := by decide +kernel
theorem d_Ms_read_92 : decode cb_Ms_read 92 = .ok (.putfield 63, 3) := by decide +kernel
theorem d_Ms_read_95 : decode cb_Ms_read 95 = .ok (.aload_n 0, 1) := by decide +kernel
theorem d_Ms_read_96 : decode cb_Ms_read 96 = .ok (.getfield 30, 3) := by decide +kernel
theorem d_Ms_read_99 : decode cb_Ms_read 99 = .ok (.ifCond .ne 17, 3) := by decide +kernel
theorem d_Ms_read_102 : decode cb_Ms_read 102 = .ok (.aload_n 1, 1) := by decide +kernel
theorem d_Ms_read_103 : decode cb_Ms_read 103 = .ok (.getfield 56, 3) := by decide +kernel
theorem d_Ms_read_106 : decode cb_Ms_read 106 = .ok (.iconst 4, 1) := by decide +kernel
theorem d_Ms_read_107 : decode cb_Ms_read 107 = .ok (.if_icmp .ne 7, 3) := by decide +kernel
theorem d_Ms_read_110 : decode cb_Ms_read 110 = .ok (.iconst 1, 1) := by decide +kernel
theorem d_Ms_read_111 : decode cb_Ms_read 111 = .ok (.goto 4, 3) := by decide +kernel
theorem d_Ms_read_114 : decode cb_Ms_read 114 = .ok (.iconst 0, 1) := by decide +kernel
theorem d_Ms_read_115 : decode cb_Ms_read 115 = .ok (.ireturn, 1) := by decide +kernel
theorem d_Ms_read_116 : decode cb_Ms_read 116 = .ok (.aload_n 1, 1) := by decide +kernel
theorem d_Ms_read_117 : decode cb_Ms_read 117 = .ok (.getfield 56, 3) := by decide +kernel
theorem d_Ms_read_120 : decode cb_Ms_read 120 = .ok (.iconst 5, 1) := by decide +kernel
theorem d_Ms_read_121 : decode cb_Ms_read 121 = .ok (.if_icmp .ge 5, 3) := by decide +kernel
theorem d_Ms_read_124 : decode cb_Ms_read 124 = .ok (.iconst 0, 1) := by decide +kernel
theorem d_Ms_read_125 : decode cb_Ms_read 125 = .ok (.ireturn, 1) := by decide +kernel
theorem d_Ms_read_126 : decode cb_Ms_read 126 = .ok (.aload_n 0, 1) := by decide +kernel
theorem d_Ms_read_127 : decode cb_Ms_read 127 = .ok (.aload_n 1, 1) := by decide +kernel
theorem d_Ms_read_128 : decode cb_Ms_read 128 = .ok (.getfield 59, 3) := by decide +kernel
theorem d_Ms_read_131 : decode cb_Ms_read 131 = .ok (.iconst 4, 1) := by decide +kernel
theorem d_Ms_read_132 : decode cb_Ms_read 132 = .ok (.iaload, 1) := by decide +kernel
theorem d_Ms_read_133 : decode cb_Ms_read 133 = .ok (.putfield 66, 3) := by decide +kernel
theorem d_Ms_read_136 : decode cb_Ms_read 136 = .ok (.aload_n 0, 1) := by decide +kernel
theorem d_Ms_read_137 : decode cb_Ms_read 137 = .ok (.iconst 5, 1) := by decide +kernel
theorem d_Ms_read_138 : decode cb_Ms_read 138 = .ok (.putfield 69, 3) := by decide +kernel
theorem d_Ms_read_141 : decode cb_Ms_read 141 = .ok (.aload_n 0, 1) := by decide +kernel
theorem d_Ms_read_142 : decode cb_Ms_read 142 = .ok (.aload_n 1, 1) := by decide +kernel
theorem d_Ms_read_143 : decode cb_Ms_read 143 = .ok (.invokevirtual 72, 3) := by decide +kernel
theorem d_Ms_read_146 : decode cb_Ms_read 146 = .ok (.ifCond .eq 15, 3) := by decide +kernel
theorem d_Ms_read_149 : decode cb_Ms_read 149 = .ok (.aload_n 0, 1) := by decide +kernel
theorem d_Ms_read_150 : decode cb_Ms_read 150 = .ok (.aload_n 1, 1) := by decide +kernel
theorem d_Ms_read_151 : decode cb_Ms_read 151 = .ok (.invokevirtual 76, 3) := by decide +kernel
theorem d_Ms_read_154 : decode cb_Ms_read 154 = .ok (.ifCond .eq 7, 3) := by decide +kernel
theorem d_Ms_read_157 : decode cb_Ms_read 157 = .ok (.iconst 1, 1) := by decide +kernel
theorem d_Ms_read_158 : decode cb_Ms_read 158 = .ok (.goto 4, 3) := by decide +kernel
theorem d_Ms_read_161 : decode cb_Ms_read 161 = .ok (.iconst 0, 1) := by decide +kernel
theorem d_Ms_read_162 : decode cb_Ms_read 162 = .ok (.ireturn, 1) := by decide +kernel

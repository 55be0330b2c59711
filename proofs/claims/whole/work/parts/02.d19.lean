theorem d_Mo_segment_0 : decode cb_Mo_segment 0 = .ok (.aload_n 0, 1) := by decide +kernel
theorem d_Mo_segment_1 : decode cb_Mo_segment 1 = .ok (.getfield 129, 3) := by decide +kernel
theorem d_Mo_segment_4 : decode cb_Mo_segment 4 = .ok (.aload_n 0, 1) := by decide +kernel
theorem d_Mo_segment_5 : decode cb_Mo_segment 5 = .ok (.getfield 132, 3) := by decide +kernel
theorem d_Mo_segment_8 : decode cb_Mo_segment 8 = .ok (.iload_n 1, 1) := by decide +kernel
theorem d_Mo_segment_9 : decode cb_Mo_segment 9 = .ok (.iaload, 1) := by decide +kernel
theorem d_Mo_segment_10 : decode cb_Mo_segment 10 = .ok (.iaload, 1) := by decide +kernel
theorem d_Mo_segment_11 : decode cb_Mo_segment 11 = .ok (.iload_n 2, 1) := by decide +kernel
theorem d_Mo_segment_12 : decode cb_Mo_segment 12 = .ok (.if_icmp .ne 7, 3) := by decide +kernel
theorem d_Mo_segment_15 : decode cb_Mo_segment 15 = .ok (.iconst 1, 1) := by decide +kernel
theorem d_Mo_segment_16 : decode cb_Mo_segment 16 = .ok (.goto 4, 3) := by decide +kernel
theorem d_Mo_segment_19 : decode cb_Mo_segment 19 = .ok (.iconst 0, 1) := by decide +kernel
theorem d_Mo_segment_20 : decode cb_Mo_segment 20 = .ok (.istore 4, 2) := by decide +kernel
theorem d_Mo_segment_22 : decode cb_Mo_segment 22 = .ok (.iload_n 3, 1) := by decide +kernel
theorem d_Mo_segment_23 : decode cb_Mo_segment 23 = .ok (.ifCond .ge 26, 3) := by decide +kernel
theorem d_Mo_segment_26 : decode cb_Mo_segment 26 = .ok (.aload_n 0, 1) := by decide +kernel
theorem d_Mo_segment_27 : decode cb_Mo_segment 27 = .ok (.getfield 135, 3) := by decide +kernel
theorem d_Mo_segment_30 : decode cb_Mo_segment 30 = .ok (.iload_n 1, 1) := by decide +kernel
theorem d_Mo_segment_31 : decode cb_Mo_segment 31 = .ok (.iaload, 1) := by decide +kernel
theorem d_Mo_segment_32 : decode cb_Mo_segment 32 = .ok (.iconst 1, 1) := by decide +kernel
theorem d_Mo_segment_33 : decode cb_Mo_segment 33 = .ok (.if_icmp .ne 12, 3) := by decide +kernel
theorem d_Mo_segment_36 : decode cb_Mo_segment 36 = .ok (.iload 4, 2) := by decide +kernel
theorem d_Mo_segment_38 : decode cb_Mo_segment 38 = .ok (.ifCond .eq 7, 3) := by decide +kernel
theorem d_Mo_segment_41 : decode cb_Mo_segment 41 = .ok (.iconst 1, 1) := by decide +kernel
theorem d_Mo_segment_42 : decode cb_Mo_segment 42 = .ok (.goto 44, 3) := by decide +kernel
theorem d_Mo_segment_45 : decode cb_Mo_segment 45 = .ok (.iconst 0, 1) := by decide +kernel
theorem d_Mo_segment_46 : decode cb_Mo_segment 46 = .ok (.goto 40, 3) := by decide +kernel
theorem d_Mo_segment_49 : decode cb_Mo_segment 49 = .ok (.aload_n 0, 1) := by decide +kernel
theorem d_Mo_segment_50 : decode cb_Mo_segment 50 = .ok (.getfield 135, 3) := by decide +kernel
theorem d_Mo_segment_53 : decode cb_Mo_segment 53 = .ok (.iload_n 1, 1) := by decide +kernel
theorem d_Mo_segment_54 : decode cb_Mo_segment 54 = .ok (.iaload, 1) := by decide +kernel
theorem d_Mo_segment_55 : decode cb_Mo_segment 55 = .ok (.iconst 2, 1) := by decide +kernel
theorem d_Mo_segment_56 : decode cb_Mo_segment 56 = .ok (.if_icmp .ne 29, 3) := by decide +kernel
theorem d_Mo_segment_59 : decode cb_Mo_segment 59 = .ok (.iload 4, 2) := by decide +kernel
theorem d_Mo_segment_61 : decode cb_Mo_segment 61 = .ok (.ifCond .eq 24, 3) := by decide +kernel
theorem d_Mo_segment_64 : decode cb_Mo_segment 64 = .ok (.aload_n 0, 1) := by decide +kernel
theorem d_Mo_segment_65 : decode cb_Mo_segment 65 = .ok (.getfield 129, 3) := by decide +kernel
theorem d_Mo_segment_68 : decode cb_Mo_segment 68 = .ok (.aload_n 0, 1) := by decide +kernel
theorem d_Mo_segment_69 : decode cb_Mo_segment 69 = .ok (.getfield 132, 3) := by decide +kernel
theorem d_Mo_segment_72 : decode cb_Mo_segment 72 = .ok (.iload_n 1, 1) := by decide +kernel
theorem d_Mo_segment_73 : decode cb_Mo_segment 73 = .ok (.iaload, 1) := by decide +kernel
theorem d_Mo_segment_74 : decode cb_Mo_segment 74 = .ok (.iconst 1, 1) := by decide +kernel
theorem d_Mo_segment_75 : decode cb_Mo_segment 75 = .ok (.iadd, 1) := by decide +kernel
theorem d_Mo_segment_76 : decode cb_Mo_segment 76 = .ok (.iaload, 1) := by decide +kernel
theorem d_Mo_segment_77 : decode cb_Mo_segment 77 = .ok (.iload_n 3, 1) := by decide +kernel
theorem d_Mo_segment_78 : decode cb_Mo_segment 78 = .ok (.if_icmp .ne 7, 3) := by decide +kernel
theorem d_Mo_segment_81 : decode cb_Mo_segment 81 = .ok (.iconst 1, 1) := by decide +kernel
theorem d_Mo_segment_82 : decode cb_Mo_segment 82 = .ok (.goto 4, 3) := by decide +kernel
theorem d_Mo_segment_85 : decode cb_Mo_segment 85 = .ok (.iconst 0, 1) := by decide +kernel
theorem d_Mo_segment_86 : decode cb_Mo_segment 86 = .ok (.ireturn, 1) := by decide +kernel
theorem d_Mo_resource_0 : decode cb_Mo_resource 0 = .ok (.aload_n 0, 1) := by decide +kernel
theorem d_Mo_resource_1 : decode cb_Mo_resource 1 = .ok (.getfield 178, 3) := by decide +kernel
theorem d_Mo_resource_4 : decode cb_Mo_resource 4 = .ok (.ifCond .le 18, 3) := by decide +kernel
theorem d_Mo_resource_7 : decode cb_Mo_resource 7 = .ok (.aload_n 0, 1) := by decide +kernel
theorem d_Mo_resource_8 : decode cb_Mo_resource 8 = .ok (.iconst 0, 1) := by decide +kernel
theorem d_Mo_resource_9 : decode cb_Mo_resource 9 = .ok (.bipush 97, 2) := by decide +kernel
theorem d_Mo_resource_11 : decode cb_Mo_resource 11 = .ok (.iconst (-1), 1) := by decide +kernel
theorem d_Mo_resource_12 : decode cb_Mo_resource 12 = .ok (.invokevirtual 206, 3) := by decide +kernel
theorem d_Mo_resource_15 : decode cb_Mo_resource 15 = .ok (.ifCond .eq 7, 3) := by decide +kernel
theorem d_Mo_resource_18 : decode cb_Mo_resource 18 = .ok (.iconst 1, 1) := by decide +kernel
theorem d_Mo_resource_19 : decode cb_Mo_resource 19 = .ok (.goto 4, 3) := by decide +kernel
theorem d_Mo_resource_22 : decode cb_Mo_resource 22 = .ok (.iconst 0, 1) := by decide +kernel
theorem d_Mo_resource_23 : decode cb_Mo_resource 23 = .ok (.istore_n 1, 1) := by decide +kernel
theorem d_Mo_resource_24 : decode cb_Mo_resource 24 = .ok (.aload_n 0, 1) := by decide +kernel
theorem d_Mo_resource_25 : decode cb_Mo_resource 25 = .ok (.getfield 178, 3) := by decide +kernel
theorem d_Mo_resource_28 : decode cb_Mo_resource 28 = .ok (.ifCond .le 19, 3) := by decide +kernel
theorem d_Mo_resource_31 : decode cb_Mo_resource 31 = .ok (.aload_n 0, 1) := by decide +kernel
theorem d_Mo_resource_32 : decode cb_Mo_resource 32 = .ok (.iconst 0, 1) := by decide +kernel
theorem d_Mo_resource_33 : decode cb_Mo_resource 33 = .ok (.bipush 99, 2) := by decide +kernel
theorem d_Mo_resource_35 : decode cb_Mo_resource 35 = .ok (.bipush 99, 2) := by decide +kernel
theorem d_Mo_resource_37 : decode cb_Mo_resource 37 = .ok (.invokevirtual 206, 3) := by decide +kernel
theorem d_Mo_resource_40 : decode cb_Mo_resource 40 = .ok (.ifCond .eq 7, 3) := by decide +kernel
theorem d_Mo_resource_43 : decode cb_Mo_resource 43 = .ok (.iconst 1, 1) := by decide +kernel
theorem d_Mo_resource_44 : decode cb_Mo_resource 44 = .ok (.goto 4, 3) := by decide +kernel
theorem d_Mo_resource_47 : decode cb_Mo_resource 47 = .ok (.iconst 0, 1) := by decide +kernel
theorem d_Mo_resource_48 : decode cb_Mo_resource 48 = .ok (.istore_n 2, 1) := by decide +kernel
theorem d_Mo_resource_49 : decode cb_Mo_resource 49 = .ok (.aload_n 0, 1) := by decide +kernel
theorem d_Mo_resource_50 : decode cb_Mo_resource 50 = .ok (.getfield 178, 3) := by decide +kernel
theorem d_Mo_resource_53 : decode cb_Mo_resource 53 = .ok (.iconst 1, 1) := by decide +kernel
theorem d_Mo_resource_54 : decode cb_Mo_resource 54 = .ok (.if_icmp .ne 21, 3) := by decide +kernel
theorem d_Mo_resource_57 : decode cb_Mo_resource 57 = .ok (.iload_n 1, 1) := by decide +kernel
theorem d_Mo_resource_58 : decode cb_Mo_resource 58 = .ok (.ifCond .eq 7, 3) := by decide +kernel
theorem d_Mo_resource_61 : decode cb_Mo_resource 61 = .ok (.iconst 0, 1) := by decide +kernel
theorem d_Mo_resource_62 : decode cb_Mo_resource 62 = .ok (.goto 12, 3) := by decide +kernel
theorem d_Mo_resource_65 : decode cb_Mo_resource 65 = .ok (.iload_n 2, 1) := by decide +kernel
theorem d_Mo_resource_66 : decode cb_Mo_resource 66 = .ok (.ifCond .eq 7, 3) := by decide +kernel
theorem d_Mo_resource_69 : decode cb_Mo_resource 69 = .ok (.iconst 2, 1) := by decide +kernel
theorem d_Mo_resource_70 : decode cb_Mo_resource 70 = .ok (.goto 4, 3) := by decide +kernel
theorem d_Mo_resource_73 : decode cb_Mo_resource 73 = .ok (.iconst (-1), 1) := by decide +kernel
theorem d_Mo_resource_74 : decode cb_Mo_resource 74 = .ok (.ireturn, 1) := by decide +kernel
theorem d_Mo_resource_75 : decode cb_Mo_resource 75 = .ok (.aload_n 0, 1) := by decide +kernel
theorem d_Mo_resource_76 : decode cb_Mo_resource 76 = .ok (.getfield 178, 3) := by decide +kernel
theorem d_Mo_resource_79 : decode cb_Mo_resource 79 = .ok (.iconst 2, 1) := by decide +kernel
theorem d_Mo_resource_80 : decode cb_Mo_resource 80 = .ok (.if_icmp .ne 43, 3) := by decide +kernel
theorem d_Mo_resource_83 : decode cb_Mo_resource 83 = .ok (.iload_n 1, 1) := by decide +kernel
theorem d_Mo_resource_84 : decode cb_Mo_resource 84 = .ok (.ifCond .eq 18, 3) := by decide +kernel
theorem d_Mo_resource_87 : decode cb_Mo_resource 87 = .ok (.aload_n 0, 1) := by decide +kernel
theorem d_Mo_resource_88 : decode cb_Mo_resource 88 = .ok (.iconst 1, 1) := by decide +kernel
theorem d_Mo_resource_89 : decode cb_Mo_resource 89 = .ok (.bipush 98, 2) := by decide +kernel
theorem d_Mo_resource_91 : decode cb_Mo_resource 91 = .ok (.iconst (-1), 1) := by decide +kernel
theorem d_Mo_resource_92 : decode cb_Mo_resource 92 = .ok (.invokevirtual 206, 3) := by decide +kernel
theorem d_Mo_resource_95 : decode cb_Mo_resource 95 = .ok (.ifCond .eq 7, 3) := by decide +kernel
theorem d_Mo_resource_98 : decode cb_Mo_resource 98 = .ok (.iconst 1, 1) := by decide +kernel
theorem d_Mo_resource_99 : decode cb_Mo_resource 99 = .ok (.goto 23, 3) := by decide +kernel
theorem d_Mo_resource_102 : decode cb_Mo_resource 102 = .ok (.iload_n 2, 1) := by decide +kernel
theorem d_Mo_resource_103 : decode cb_Mo_resource 103 = .ok (.ifCond .eq 18, 3) := by decide +kernel
theorem d_Mo_resource_106 : decode cb_Mo_resource 106 = .ok (.aload_n 0, 1) := by decide +kernel
theorem d_Mo_resource_107 : decode cb_Mo_resource 107 = .ok (.iconst 1, 1) := by decide +kernel
theorem d_Mo_resource_108 : decode cb_Mo_resource 108 = .ok (.bipush 100, 2) := by decide +kernel
theorem d_Mo_resource_110 : decode cb_Mo_resource 110 = .ok (.iconst (-1), 1) := by decide +kernel
theorem d_Mo_resource_111 : decode cb_Mo_resource 111 = .ok (.invokevirtual 206, 3) := by decide +kernel
theorem d_Mo_resource_114 : decode cb_Mo_resource 114 = .ok (.ifCond .eq 7, 3) := by decide +kernel
theorem d_Mo_resource_117 : decode cb_Mo_resource 117 = .ok (.iconst 3, 1) := by decide +kernel
theorem d_Mo_resource_118 : decode cb_Mo_resource 118 = .ok (.goto 4, 3) := by decide +kernel
theorem d_Mo_resource_121 : decode cb_Mo_resource 121 = .ok (.iconst (-1), 1) := by decide +kernel
theorem d_Mo_resource_122 : decode cb_Mo_resource 122 = .ok (.ireturn, 1) := by decide +kernel
theorem d_Mo_resource_123 : decode cb_Mo_resource 123 = .ok (.iconst (-1), 1) := by decide +kernel
theorem d_Mo_resource_124 : decode cb_Mo_resource 124 = .ok (.ireturn, 1) := by decide +kernel
theorem d_Mo_ask_0 : decode cb_Mo_ask 0 = .ok (.aload_n 0, 1) := by decide +kernel
theorem d_Mo_ask_1 : decode cb_Mo_ask 1 = .ok (.getfield 87, 3) := by decide +kernel
theorem d_Mo_ask_4 : decode cb_Mo_ask 4 = .ok (.iload_n 1, 1) := by decide +kernel
theorem d_Mo_ask_5 : decode cb_Mo_ask 5 = .ok (.iaload, 1) := by decide +kernel
theorem d_Mo_ask_6 : decode cb_Mo_ask 6 = .ok (.istore_n 3, 1) := by decide +kernel
theorem d_Mo_ask_7 : decode cb_Mo_ask 7 = .ok (.aload_n 0, 1) := by decide +kernel
theorem d_Mo_ask_8 : decode cb_Mo_ask 8 = .ok (.iconst 0, 1) := by decide +kernel
theorem d_Mo_ask_9 : decode cb_Mo_ask 9 = .ok (.aload_n 0, 1) := by decide +kernel
theorem d_Mo_ask_10 : decode cb_Mo_ask 10 = .ok (.getfield 66, 3) := by decide +kernel
theorem d_Mo_ask_13 : decode cb_Mo_ask 13 = .ok (.iload_n 1, 1) := by decide +kernel
theorem d_Mo_ask_14 : decode cb_Mo_ask 14 = .ok (.baload, 1) := by decide +kernel
theorem d_Mo_ask_15 : decode cb_Mo_ask 15 = .ok (.ifCond .eq 7, 3) := by decide +kernel
theorem d_Mo_ask_18 : decode cb_Mo_ask 18 = .ok (.iconst 3, 1) := by decide +kernel
theorem d_Mo_ask_19 : decode cb_Mo_ask 19 = .ok (.goto 4, 3) := by decide +kernel
theorem d_Mo_ask_22 : decode cb_Mo_ask 22 = .ok (.iconst 1, 1) := by decide +kernel
theorem d_Mo_ask_23 : decode cb_Mo_ask 23 = .ok (.aload_n 0, 1) := by decide +kernel
theorem d_Mo_ask_24 : decode cb_Mo_ask 24 = .ok (.getfield 19, 3) := by decide +kernel
theorem d_Mo_ask_27 : decode cb_Mo_ask 27 = .ok (.invokevirtual 162, 3) := by decide +kernel
theorem d_Mo_ask_30 : decode cb_Mo_ask 30 = .ok (.aload_n 0, 1) := by decide +kernel
theorem d_Mo_ask_31 : decode cb_Mo_ask 31 = .ok (.aload_n 0, 1) := by decide +kernel
theorem d_Mo_ask_32 : decode cb_Mo_ask 32 = .ok (.getfield 54, 3) := by decide +kernel
theorem d_Mo_ask_35 : decode cb_Mo_ask 35 = .ok (.iload_n 1, 1) := by decide +kernel
theorem d_Mo_ask_36 : decode cb_Mo_ask 36 = .ok (.iaload, 1) := by decide +kernel
theorem d_Mo_ask_37 : decode cb_Mo_ask 37 = .ok (.invokevirtual 144, 3) := by decide +kernel
theorem d_Mo_ask_40 : decode cb_Mo_ask 40 = .ok (.iload_n 2, 1) := by decide +kernel
theorem d_Mo_ask_41 : decode cb_Mo_ask 41 = .ok (.ifCond .eq 19, 3) := by decide +kernel
theorem d_Mo_ask_44 : decode cb_Mo_ask 44 = .ok (.aload_n 0, 1) := by decide +kernel
theorem d_Mo_ask_45 : decode cb_Mo_ask 45 = .ok (.getfield 69, 3) := by decide +kernel
theorem d_Mo_ask_48 : decode cb_Mo_ask 48 = .ok (.iload_n 1, 1) := by decide +kernel
theorem d_Mo_ask_49 : decode cb_Mo_ask 49 = .ok (.baload, 1) := by decide +kernel
theorem d_Mo_ask_50 : decode cb_Mo_ask 50 = .ok (.ifCond .eq 10, 3) := by decide +kernel
theorem d_Mo_ask_53 : decode cb_Mo_ask 53 = .ok (.aload_n 0, 1) := by decide +kernel
theorem d_Mo_ask_54 : decode cb_Mo_ask 54 = .ok (.bipush 6, 2) := by decide +kernel
theorem d_Mo_ask_56 : decode cb_Mo_ask 56 = .ok (.iconst 0, 1) := by decide +kernel
theorem d_Mo_ask_57 : decode cb_Mo_ask 57 = .ok (.invokevirtual 209, 3) := by decide +kernel
theorem d_Mo_ask_60 : decode cb_Mo_ask 60 = .ok (.aload_n 0, 1) := by decide +kernel
theorem d_Mo_ask_61 : decode cb_Mo_ask 61 = .ok (.aload_n 0, 1) := by decide +kernel
theorem d_Mo_ask_62 : decode cb_Mo_ask 62 = .ok (.getfield 57, 3) := by decide +kernel
theorem d_Mo_ask_65 : decode cb_Mo_ask 65 = .ok (.iload_n 1, 1) := by decide +kernel
theorem d_Mo_ask_66 : decode cb_Mo_ask 66 = .ok (.iaload, 1) := by decide +kernel
theorem d_Mo_ask_67 : decode cb_Mo_ask 67 = .ok (.invokevirtual 212, 3) := by decide +kernel
theorem d_Mo_ask_70 : decode cb_Mo_ask 70 = .ok (.aload_n 0, 1) := by decide +kernel
theorem d_Mo_ask_71 : decode cb_Mo_ask 71 = .ok (.getfield 66, 3) := by decide +kernel
theorem d_Mo_ask_74 : decode cb_Mo_ask 74 = .ok (.iload_n 1, 1) := by decide +kernel
theorem d_Mo_ask_75 : decode cb_Mo_ask 75 = .ok (.baload, 1) := by decide +kernel
theorem d_Mo_ask_76 : decode cb_Mo_ask 76 = .ok (.ifCond .eq 22, 3) := by decide +kernel
theorem d_Mo_ask_79 : decode cb_Mo_ask 79 = .ok (.iload_n 3, 1) := by decide +kernel
theorem d_Mo_ask_80 : decode cb_Mo_ask 80 = .ok (.aload_n 0, 1) := by decide +kernel
theorem d_Mo_ask_81 : decode cb_Mo_ask 81 = .ok (.getfield 63, 3) := by decide +kernel
theorem d_Mo_ask_84 : decode cb_Mo_ask 84 = .ok (.iload_n 1, 1) := by decide +kernel
theorem d_Mo_ask_85 : decode cb_Mo_ask 85 = .ok (.iaload, 1) := by decide +kernel
theorem d_Mo_ask_86 : decode cb_Mo_ask 86 = .ok (.aload_n 0, 1) := by decide +kernel
theorem d_Mo_ask_87 : decode cb_Mo_ask 87 = .ok (.getfield 60, 3) := by decide +kernel
theorem d_Mo_ask_90 : decode cb_Mo_ask 90 = .ok (.iload_n 1, 1) := by decide +kernel
theorem d_Mo_ask_91 : decode cb_Mo_ask 91 = .ok (.iaload, 1) := by decide +kernel
theorem d_Mo_ask_92 : decode cb_Mo_ask 92 = .ok (.invokestatic 215, 3) := by decide +kernel
theorem d_Mo_ask_95 : decode cb_Mo_ask 95 = .ok (.goto 4, 3) := by decide +kernel
theorem d_Mo_ask_98 : decode cb_Mo_ask 98 = .ok (.iconst 0, 1) := by decide +kernel
theorem d_Mo_ask_99 : decode cb_Mo_ask 99 = .ok (.istore 4, 2) := by decide +kernel
theorem d_Mo_ask_101 : decode cb_Mo_ask 101 = .ok (.aload_n 0, 1) := by decide +kernel
theorem d_Mo_ask_102 : decode cb_Mo_ask 102 = .ok (.aload_n 0, 1) := by decide +kernel
theorem d_Mo_ask_103 : decode cb_Mo_ask 103 = .ok (.getfield 66, 3) := by decide +kernel
theorem d_Mo_ask_106 : decode cb_Mo_ask 106 = .ok (.iload_n 1, 1) := by decide +kernel
theorem d_Mo_ask_107 : decode cb_Mo_ask 107 = .ok (.baload, 1) := by decide +kernel
theorem d_Mo_ask_108 : decode cb_Mo_ask 108 = .ok (.ifCond .eq 8, 3) := by decide +kernel
theorem d_Mo_ask_111 : decode cb_Mo_ask 111 = .ok (.bipush 27, 2) := by decide +kernel
theorem d_Mo_ask_113 : decode cb_Mo_ask 113 = .ok (.goto 5, 3) := by decide +kernel
theorem d_Mo_ask_116 : decode cb_Mo_ask 116 = .ok (.bipush 23, 2) := by decide +kernel
theorem d_Mo_ask_118 : decode cb_Mo_ask 118 = .ok (.bipush 16, 2) := by decide +kernel
theorem d_Mo_ask_120 : decode cb_Mo_ask 120 = .ok (.aload_n 0, 1) := by decide +kernel
theorem d_Mo_ask_121 : decode cb_Mo_ask 121 = .ok (.getfield 63, 3) := by decide +kernel
theorem d_Mo_ask_124 : decode cb_Mo_ask 124 = .ok (.iload_n 1, 1) := by decide +kernel
theorem d_Mo_ask_125 : decode cb_Mo_ask 125 = .ok (.iaload, 1) := by decide +kernel
theorem d_Mo_ask_126 : decode cb_Mo_ask 126 = .ok (.imul, 1) := by decide +kernel
theorem d_Mo_ask_127 : decode cb_Mo_ask 127 = .ok (.bipush 8, 2) := by decide +kernel
theorem d_Mo_ask_129 : decode cb_Mo_ask 129 = .ok (.iload 4, 2) := by decide +kernel
theorem d_Mo_ask_131 : decode cb_Mo_ask 131 = .ok (.imul, 1) := by decide +kernel
theorem d_Mo_ask_132 : decode cb_Mo_ask 132 = .ok (.iadd, 1) := by decide +kernel
theorem d_Mo_ask_133 : decode cb_Mo_ask 133 = .ok (.aload_n 0, 1) := by decide +kernel
theorem d_Mo_ask_134 : decode cb_Mo_ask 134 = .ok (.getfield 60, 3) := by decide +kernel
theorem d_Mo_ask_137 : decode cb_Mo_ask 137 = .ok (.iload_n 1, 1) := by decide +kernel
theorem d_Mo_ask_138 : decode cb_Mo_ask 138 = .ok (.iaload, 1) := by decide +kernel
theorem d_Mo_ask_139 : decode cb_Mo_ask 139 = .ok (.iadd, 1) := by decide +kernel
theorem d_Mo_ask_140 : decode cb_Mo_ask 140 = .ok (.invokevirtual 209, 3) := by decide +kernel
theorem d_Mo_ask_143 : decode cb_Mo_ask 143 = .ok (.aload_n 0, 1) := by decide +kernel
theorem d_Mo_ask_144 : decode cb_Mo_ask 144 = .ok (.getfield 66, 3) := by decide +kernel
theorem d_Mo_ask_147 : decode cb_Mo_ask 147 = .ok (.iload_n 1, 1) := by decide +kernel
theorem d_Mo_ask_148 : decode cb_Mo_ask 148 = .ok (.baload, 1) := by decide +kernel
theorem d_Mo_ask_149 : decode cb_Mo_ask 149 = .ok (.ifCond .eq 22, 3) := by decide +kernel
theorem d_Mo_ask_152 : decode cb_Mo_ask 152 = .ok (.iload_n 3, 1) := by decide +kernel
theorem d_Mo_ask_153 : decode cb_Mo_ask 153 = .ok (.aload_n 0, 1) := by decide +kernel
theorem d_Mo_ask_154 : decode cb_Mo_ask 154 = .ok (.getfield 63, 3) := by decide +kernel
theorem d_Mo_ask_157 : decode cb_Mo_ask 157 = .ok (.iload_n 1, 1) := by decide +kernel
theorem d_Mo_ask_158 : decode cb_Mo_ask 158 = .ok (.iaload, 1) := by decide +kernel
theorem d_Mo_ask_159 : decode cb_Mo_ask 159 = .ok (.aload_n 0, 1) := by decide +kernel
theorem d_Mo_ask_160 : decode cb_Mo_ask 160 = .ok (.getfield 60, 3) := by decide +kernel
theorem d_Mo_ask_163 : decode cb_Mo_ask 163 = .ok (.iload_n 1, 1) := by decide +kernel
theorem d_Mo_ask_164 : decode cb_Mo_ask 164 = .ok (.iaload, 1) := by decide +kernel
theorem d_Mo_ask_165 : decode cb_Mo_ask 165 = .ok (.invokestatic 219, 3) := by decide +kernel
theorem d_Mo_ask_168 : decode cb_Mo_ask 168 = .ok (.goto 4, 3) := by decide +kernel
theorem d_Mo_ask_171 : decode cb_Mo_ask 171 = .ok (.iconst 0, 1) := by decide +kernel
theorem d_Mo_ask_172 : decode cb_Mo_ask 172 = .ok (.istore 5, 2) := by decide +kernel
theorem d_Mo_ask_174 : decode cb_Mo_ask 174 = .ok (.iload 5, 2) := by decide +kernel
theorem d_Mo_ask_176 : decode cb_Mo_ask 176 = .ok (.ifCond .le 10, 3) := by decide +kernel
theorem d_Mo_ask_179 : decode cb_Mo_ask 179 = .ok (.aload_n 0, 1) := by decide +kernel
theorem d_Mo_ask_180 : decode cb_Mo_ask 180 = .ok (.sipush 255, 3) := by decide +kernel
theorem d_Mo_ask_183 : decode cb_Mo_ask 183 = .ok (.invokevirtual 144, 3) := by decide +kernel
theorem d_Mo_ask_186 : decode cb_Mo_ask 186 = .ok (.iconst 0, 1) := by decide +kernel
theorem d_Mo_ask_187 : decode cb_Mo_ask 187 = .ok (.istore 6, 2) := by decide +kernel
theorem d_Mo_ask_189 : decode cb_Mo_ask 189 = .ok (.iload 6, 2) := by decide +kernel
theorem d_Mo_ask_191 : decode cb_Mo_ask 191 = .ok (.iload 5, 2) := by decide +kernel
theorem d_Mo_ask_193 : decode cb_Mo_ask 193 = .ok (.if_icmp .ge 42, 3) := by decide +kernel
theorem d_Mo_ask_196 : decode cb_Mo_ask 196 = .ok (.aload_n 0, 1) := by decide +kernel
theorem d_Mo_ask_197 : decode cb_Mo_ask 197 = .ok (.aload_n 0, 1) := by decide +kernel
theorem d_Mo_ask_198 : decode cb_Mo_ask 198 = .ok (.getfield 84, 3) := by decide +kernel
theorem d_Mo_ask_201 : decode cb_Mo_ask 201 = .ok (.bipush 80, 2) := by decide +kernel
theorem d_Mo_ask_203 : decode cb_Mo_ask 203 = .ok (.iload_n 1, 1) := by decide +kernel
theorem d_Mo_ask_204 : decode cb_Mo_ask 204 = .ok (.imul, 1) := by decide +kernel
theorem d_Mo_ask_205 : decode cb_Mo_ask 205 = .ok (.aload_n 0, 1) := by decide +kernel
theorem d_Mo_ask_206 : decode cb_Mo_ask 206 = .ok (.getfield 63, 3) := by decide +kernel
theorem d_Mo_ask_209 : decode cb_Mo_ask 209 = .ok (.iload_n 1, 1) := by decide +kernel
theorem d_Mo_ask_210 : decode cb_Mo_ask 210 = .ok (.iaload, 1) := by decide +kernel
theorem d_Mo_ask_211 : decode cb_Mo_ask 211 = .ok (.aload_n 0, 1) := by decide +kernel
theorem d_Mo_ask_212 : decode cb_Mo_ask 212 = .ok (.getfield 60, 3) := by decide +kernel
theorem d_Mo_ask_215 : decode cb_Mo_ask 215 = .ok (.iload_n 1, 1) := by decide +kernel
theorem d_Mo_ask_216 : decode cb_Mo_ask 216 = .ok (.iaload, 1) := by decide +kernel
theorem d_Mo_ask_217 : decode cb_Mo_ask 217 = .ok (.invokestatic 152, 3) := by decide +kernel
theorem d_Mo_ask_220 : decode cb_Mo_ask 220 = .ok (.imul, 1) := by decide +kernel
theorem d_Mo_ask_221 : decode cb_Mo_ask 221 = .ok (.iadd, 1) := by decide +kernel
theorem d_Mo_ask_222 : decode cb_Mo_ask 222 = .ok (.iload 6, 2) := by decide +kernel
theorem d_Mo_ask_224 : decode cb_Mo_ask 224 = .ok (.iadd, 1) := by decide +kernel
theorem d_Mo_ask_225 : decode cb_Mo_ask 225 = .ok (.iaload, 1) := by decide +kernel
theorem d_Mo_ask_226 : decode cb_Mo_ask 226 = .ok (.invokevirtual 144, 3) := by decide +kernel
theorem d_Mo_ask_229 : decode cb_Mo_ask 229 = .ok (.iinc 6 1, 3) := by decide +kernel
theorem d_Mo_ask_232 : decode cb_Mo_ask 232 = .ok (.goto (-43), 3) := by decide +kernel
theorem d_Mo_ask_235 : decode cb_Mo_ask 235 = .ok (.aload_n 0, 1) := by decide +kernel
theorem d_Mo_ask_236 : decode cb_Mo_ask 236 = .ok (.getfield 81, 3) := by decide +kernel
theorem d_Mo_ask_239 : decode cb_Mo_ask 239 = .ok (.iload_n 1, 1) := by decide +kernel
theorem d_Mo_ask_240 : decode cb_Mo_ask 240 = .ok (.iload 4, 2) := by decide +kernel
theorem d_Mo_ask_242 : decode cb_Mo_ask 242 = .ok (.iconst 1, 1) := by decide +kernel
theorem d_Mo_ask_243 : decode cb_Mo_ask 243 = .ok (.if_icmp .ne 7, 3) := by decide +kernel
theorem d_Mo_ask_246 : decode cb_Mo_ask 246 = .ok (.iconst 1, 1) := by decide +kernel
theorem d_Mo_ask_247 : decode cb_Mo_ask 247 = .ok (.goto 4, 3) := by decide +kernel
theorem d_Mo_ask_250 : decode cb_Mo_ask 250 = .ok (.iconst 0, 1) := by decide +kernel
theorem d_Mo_ask_251 : decode cb_Mo_ask 251 = .ok (.bastore, 1) := by decide +kernel
theorem d_Mo_ask_252 : decode cb_Mo_ask 252 = .ok (.aload_n 0, 1) := by decide +kernel
theorem d_Mo_ask_253 : decode cb_Mo_ask 253 = .ok (.getfield 48, 3) := by decide +kernel
theorem d_Mo_ask_256 : decode cb_Mo_ask 256 = .ok (.iload_n 1, 1) := by decide +kernel
theorem d_Mo_ask_257 : decode cb_Mo_ask 257 = .ok (.iconst 1, 1) := by decide +kernel
theorem d_Mo_ask_258 : decode cb_Mo_ask 258 = .ok (.iastore, 1) := by decide +kernel
theorem d_Mo_ask_259 : decode cb_Mo_ask 259 = .ok (.aload_n 0, 1) := by decide +kernel
theorem d_Mo_ask_260 : decode cb_Mo_ask 260 = .ok (.iload_n 1, 1) := by decide +kernel
theorem d_Mo_ask_261 : decode cb_Mo_ask 261 = .ok (.aload_n 0, 1) := by decide +kernel
theorem d_Mo_ask_262 : decode cb_Mo_ask 262 = .ok (.getfield 19, 3) := by decide +kernel
theorem d_Mo_ask_265 : decode cb_Mo_ask 265 = .ok (.invokevirtual 222, 3) := by decide +kernel
theorem d_Mo_ask_268 : decode cb_Mo_ask 268 = .ok (.aload_n 0, 1) := by decide +kernel
theorem d_Mo_ask_269 : decode cb_Mo_ask 269 = .ok (.aload_n 0, 1) := by decide +kernel
theorem d_Mo_ask_270 : decode cb_Mo_ask 270 = .ok (.getfield 19, 3) := by decide +kernel
theorem d_Mo_ask_273 : decode cb_Mo_ask 273 = .ok (.iconst 1, 1) := by decide +kernel
theorem d_Mo_ask_274 : decode cb_Mo_ask 274 = .ok (.iadd, 1) := by decide +kernel
theorem d_Mo_ask_275 : decode cb_Mo_ask 275 = .ok (.ldc 225, 2) := by decide +kernel
theorem d_Mo_ask_277 : decode cb_Mo_ask 277 = .ok (.irem, 1) := by decide +kernel
theorem d_Mo_ask_278 : decode cb_Mo_ask 278 = .ok (.putfield 19, 3) := by decide +kernel
theorem d_Mo_ask_281 : decode cb_Mo_ask 281 = .ok (.aload_n 0, 1) := by decide +kernel
theorem d_Mo_ask_282 : decode cb_Mo_ask 282 = .ok (.iconst 1, 1) := by decide +kernel
theorem d_Mo_ask_283 : decode cb_Mo_ask 283 = .ok (.invokevirtual 159, 3) := by decide +kernel
theorem d_Mo_ask_286 : decode cb_Mo_ask 286 = .ok (.return_, 1) := by decide +kernel
theorem d_Mo_append_0 : decode cb_Mo_append 0 = .ok (.iconst 0, 1) := by decide +kernel
theorem d_Mo_append_1 : decode cb_Mo_append 1 = .ok (.istore_n 2, 1) := by decide +kernel
theorem d_Mo_append_2 : decode cb_Mo_append 2 = .ok (.iload_n 2, 1) := by decide +kernel
theorem d_Mo_append_3 : decode cb_Mo_append 3 = .ok (.aload_n 0, 1) := by decide +kernel
theorem d_Mo_append_4 : decode cb_Mo_append 4 = .ok (.getfield 185, 3) := by decide +kernel
theorem d_Mo_append_7 : decode cb_Mo_append 7 = .ok (.if_icmp .ge 46, 3) := by decide +kernel
theorem d_Mo_append_10 : decode cb_Mo_append 10 = .ok (.aload_n 0, 1) := by decide +kernel
theorem d_Mo_append_11 : decode cb_Mo_append 11 = .ok (.getfield 84, 3) := by decide +kernel
theorem d_Mo_append_14 : decode cb_Mo_append 14 = .ok (.bipush 80, 2) := by decide +kernel
theorem d_Mo_append_16 : decode cb_Mo_append 16 = .ok (.iload_n 1, 1) := by decide +kernel
theorem d_Mo_append_17 : decode cb_Mo_append 17 = .ok (.imul, 1) := by decide +kernel
theorem d_Mo_append_18 : decode cb_Mo_append 18 = .ok (.aload_n 0, 1) := by decide +kernel
theorem d_Mo_append_19 : decode cb_Mo_append 19 = .ok (.getfield 87, 3) := by decide +kernel
theorem d_Mo_append_22 : decode cb_Mo_append 22 = .ok (.iload_n 1, 1) := by decide +kernel
theorem d_Mo_append_23 : decode cb_Mo_append 23 = .ok (.iaload, 1) := by decide +kernel
theorem d_Mo_append_24 : decode cb_Mo_append 24 = .ok (.iadd, 1) := by decide +kernel
theorem d_Mo_append_25 : decode cb_Mo_append 25 = .ok (.aload_n 0, 1) := by decide +kernel
theorem d_Mo_append_26 : decode cb_Mo_append 26 = .ok (.getfield 129, 3) := by decide +kernel
theorem d_Mo_append_29 : decode cb_Mo_append 29 = .ok (.aload_n 0, 1) := by decide +kernel
theorem d_Mo_append_30 : decode cb_Mo_append 30 = .ok (.getfield 203, 3) := by decide +kernel
theorem d_Mo_append_33 : decode cb_Mo_append 33 = .ok (.iload_n 2, 1) := by decide +kernel
theorem d_Mo_append_34 : decode cb_Mo_append 34 = .ok (.iadd, 1) := by decide +kernel
theorem d_Mo_append_35 : decode cb_Mo_append 35 = .ok (.iaload, 1) := by decide +kernel
theorem d_Mo_append_36 : decode cb_Mo_append 36 = .ok (.iastore, 1) := by decide +kernel
theorem d_Mo_append_37 : decode cb_Mo_append 37 = .ok (.aload_n 0, 1) := by decide +kernel
theorem d_Mo_append_38 : decode cb_Mo_append 38 = .ok (.getfield 87, 3) := by decide +kernel
theorem d_Mo_append_41 : decode cb_Mo_append 41 = .ok (.iload_n 1, 1) := by decide +kernel
theorem d_Mo_append_42 : decode cb_Mo_append 42 = .ok (.dup2, 1) := by decide +kernel
theorem d_Mo_append_43 : decode cb_Mo_append 43 = .ok (.iaload, 1) := by decide +kernel
theorem d_Mo_append_44 : decode cb_Mo_append 44 = .ok (.iconst 1, 1) := by decide +kernel
theorem d_Mo_append_45 : decode cb_Mo_append 45 = .ok (.iadd, 1) := by decide +kernel
theorem d_Mo_append_46 : decode cb_Mo_append 46 = .ok (.iastore, 1) := by decide +kernel
theorem d_Mo_append_47 : decode cb_Mo_append 47 = .ok (.iinc 2 1, 3) := by decide +kernel
theorem d_Mo_append_50 : decode cb_Mo_append 50 = .ok (.goto (-48), 3) := by decide +kernel
theorem d_Mo_append_53 : decode cb_Mo_append 53 = .ok (.return_, 1) := by decide +kernel
theorem d_Mo_answered_0 : decode cb_Mo_answered 0 = .ok (.aload_n 0, 1) := by decide +kernel
theorem d_Mo_answered_1 : decode cb_Mo_answered 1 = .ok (.getfield 26, 3) := by decide +kernel
theorem d_Mo_answered_4 : decode cb_Mo_answered 4 = .ok (.iload_n 1, 1) := by decide +kernel
theorem d_Mo_answered_5 : decode cb_Mo_answered 5 = .ok (.iconst 0, 1) := by decide +kernel
theorem d_Mo_answered_6 : decode cb_Mo_answered 6 = .ok (.bastore, 1) := by decide +kernel
theorem d_Mo_answered_7 : decode cb_Mo_answered 7 = .ok (.aload_n 0, 1) := by decide +kernel
theorem d_Mo_answered_8 : decode cb_Mo_answered 8 = .ok (.getfield 60, 3) := by decide +kernel
theorem d_Mo_answered_11 : decode cb_Mo_answered 11 = .ok (.iload_n 1, 1) := by decide +kernel
theorem d_Mo_answered_12 : decode cb_Mo_answered 12 = .ok (.iaload, 1) := by decide +kernel
theorem d_Mo_answered_13 : decode cb_Mo_answered 13 = .ok (.invokestatic 152, 3) := by decide +kernel
theorem d_Mo_answered_16 : decode cb_Mo_answered 16 = .ok (.istore_n 2, 1) := by decide +kernel
theorem d_Mo_answered_17 : decode cb_Mo_answered 17 = .ok (.aload_n 0, 1) := by decide +kernel
theorem d_Mo_answered_18 : decode cb_Mo_answered 18 = .ok (.getfield 63, 3) := by decide +kernel
theorem d_Mo_answered_21 : decode cb_Mo_answered 21 = .ok (.iload_n 1, 1) := by decide +kernel
theorem d_Mo_answered_22 : decode cb_Mo_answered 22 = .ok (.iaload, 1) := by decide +kernel
theorem d_Mo_answered_23 : decode cb_Mo_answered 23 = .ok (.iload_n 2, 1) := by decide +kernel
theorem d_Mo_answered_24 : decode cb_Mo_answered 24 = .ok (.imul, 1) := by decide +kernel
theorem d_Mo_answered_25 : decode cb_Mo_answered 25 = .ok (.istore_n 3, 1) := by decide +kernel
theorem d_Mo_answered_26 : decode cb_Mo_answered 26 = .ok (.aload_n 0, 1) := by decide +kernel
theorem d_Mo_answered_27 : decode cb_Mo_answered 27 = .ok (.getfield 169, 3) := by decide +kernel
theorem d_Mo_answered_30 : decode cb_Mo_answered 30 = .ok (.ifCond .lt 39, 3) := by decide +kernel
theorem d_Mo_answered_33 : decode cb_Mo_answered 33 = .ok (.aload_n 0, 1) := by decide +kernel
theorem d_Mo_answered_34 : decode cb_Mo_answered 34 = .ok (.getfield 169, 3) := by decide +kernel
theorem d_Mo_answered_37 : decode cb_Mo_answered 37 = .ok (.bipush 16, 2) := by decide +kernel
theorem d_Mo_answered_39 : decode cb_Mo_answered 39 = .ok (.idiv, 1) := by decide +kernel
theorem d_Mo_answered_40 : decode cb_Mo_answered 40 = .ok (.aload_n 0, 1) := by decide +kernel
theorem d_Mo_answered_41 : decode cb_Mo_answered 41 = .ok (.getfield 63, 3) := by decide +kernel
theorem d_Mo_answered_44 : decode cb_Mo_answered 44 = .ok (.iload_n 1, 1) := by decide +kernel
theorem d_Mo_answered_45 : decode cb_Mo_answered 45 = .ok (.iaload, 1) := by decide +kernel
theorem d_Mo_answered_46 : decode cb_Mo_answered 46 = .ok (.if_icmp .ne 23, 3) := by decide +kernel
theorem d_Mo_answered_49 : decode cb_Mo_answered 49 = .ok (.aload_n 0, 1) := by decide +kernel
theorem d_Mo_answered_50 : decode cb_Mo_answered 50 = .ok (.getfield 169, 3) := by decide +kernel
theorem d_Mo_answered_53 : decode cb_Mo_answered 53 = .ok (.bipush 8, 2) := by decide +kernel
theorem d_Mo_answered_55 : decode cb_Mo_answered 55 = .ok (.irem, 1) := by decide +kernel
theorem d_Mo_answered_56 : decode cb_Mo_answered 56 = .ok (.aload_n 0, 1) := by decide +kernel
theorem d_Mo_answered_57 : decode cb_Mo_answered 57 = .ok (.getfield 60, 3) := by decide +kernel
theorem d_Mo_answered_60 : decode cb_Mo_answered 60 = .ok (.iload_n 1, 1) := by decide +kernel
theorem d_Mo_answered_61 : decode cb_Mo_answered 61 = .ok (.iaload, 1) := by decide +kernel
theorem d_Mo_answered_62 : decode cb_Mo_answered 62 = .ok (.if_icmp .ne 7, 3) := by decide +kernel
theorem d_Mo_answered_65 : decode cb_Mo_answered 65 = .ok (.iconst 1, 1) := by decide +kernel
theorem d_Mo_answered_66 : decode cb_Mo_answered 66 = .ok (.goto 4, 3) := by decide +kernel
theorem d_Mo_answered_69 : decode cb_Mo_answered 69 = .ok (.iconst 0, 1) := by decide +kernel
theorem d_Mo_answered_70 : decode cb_Mo_answered 70 = .ok (.istore 4, 2) := by decide +kernel
theorem d_Mo_answered_72 : decode cb_Mo_answered 72 = .ok (.aload_n 0, 1) := by decide +kernel
theorem d_Mo_answered_73 : decode cb_Mo_answered 73 = .ok (.getfield 194, 3) := by decide +kernel
theorem d_Mo_answered_76 : decode cb_Mo_answered 76 = .ok (.bipush 69, 2) := by decide +kernel
theorem d_Mo_answered_78 : decode cb_Mo_answered 78 = .ok (.if_icmp .ne 134, 3) := by decide +kernel
theorem d_Mo_answered_81 : decode cb_Mo_answered 81 = .ok (.aload_n 0, 1) := by decide +kernel
theorem d_Mo_answered_82 : decode cb_Mo_answered 82 = .ok (.getfield 66, 3) := by decide +kernel
theorem d_Mo_answered_85 : decode cb_Mo_answered 85 = .ok (.iload_n 1, 1) := by decide +kernel
theorem d_Mo_answered_86 : decode cb_Mo_answered 86 = .ok (.baload, 1) := by decide +kernel
theorem d_Mo_answered_87 : decode cb_Mo_answered 87 = .ok (.ifCond .ne 125, 3) := by decide +kernel
theorem d_Mo_answered_90 : decode cb_Mo_answered 90 = .ok (.iload 4, 2) := by decide +kernel
theorem d_Mo_answered_92 : decode cb_Mo_answered 92 = .ok (.ifCond .eq 120, 3) := by decide +kernel
theorem d_Mo_answered_95 : decode cb_Mo_answered 95 = .ok (.iload_n 3, 1) := by decide +kernel
theorem d_Mo_answered_96 : decode cb_Mo_answered 96 = .ok (.aload_n 0, 1) := by decide +kernel
theorem d_Mo_answered_97 : decode cb_Mo_answered 97 = .ok (.getfield 185, 3) := by decide +kernel
theorem d_Mo_answered_100 : decode cb_Mo_answered 100 = .ok (.iadd, 1) := by decide +kernel
theorem d_Mo_answered_101 : decode cb_Mo_answered 101 = .ok (.bipush 64, 2) := by decide +kernel
theorem d_Mo_answered_103 : decode cb_Mo_answered 103 = .ok (.if_icmp .gt 109, 3) := by decide +kernel
theorem d_Mo_answered_106 : decode cb_Mo_answered 106 = .ok (.aload_n 0, 1) := by decide +kernel
theorem d_Mo_answered_107 : decode cb_Mo_answered 107 = .ok (.getfield 87, 3) := by decide +kernel
theorem d_Mo_answered_110 : decode cb_Mo_answered 110 = .ok (.iload_n 1, 1) := by decide +kernel
theorem d_Mo_answered_111 : decode cb_Mo_answered 111 = .ok (.aload_n 0, 1) := by decide +kernel
theorem d_Mo_answered_112 : decode cb_Mo_answered 112 = .ok (.getfield 87, 3) := by decide +kernel
theorem d_Mo_answered_115 : decode cb_Mo_answered 115 = .ok (.iload_n 1, 1) := by decide +kernel
theorem d_Mo_answered_116 : decode cb_Mo_answered 116 = .ok (.iaload, 1) := by decide +kernel
theorem d_Mo_answered_117 : decode cb_Mo_answered 117 = .ok (.iload_n 3, 1) := by decide +kernel
theorem d_Mo_answered_118 : decode cb_Mo_answered 118 = .ok (.if_icmp .le 7, 3) := by decide +kernel
theorem d_Mo_answered_121 : decode cb_Mo_answered 121 = .ok (.iload_n 3, 1) := by decide +kernel
theorem d_Mo_answered_122 : decode cb_Mo_answered 122 = .ok (.goto 9, 3) := by decide +kernel
theorem d_Mo_answered_125 : decode cb_Mo_answered 125 = .ok (.aload_n 0, 1) := by decide +kernel
theorem d_Mo_answered_126 : decode cb_Mo_answered 126 = .ok (.getfield 87, 3) := by decide +kernel
theorem d_Mo_answered_129 : decode cb_Mo_answered 129 = .ok (.iload_n 1, 1) := by decide +kernel
theorem d_Mo_answered_130 : decode cb_Mo_answered 130 = .ok (.iaload, 1) := by decide +kernel
theorem d_Mo_answered_131 : decode cb_Mo_answered 131 = .ok (.iastore, 1) := by decide +kernel
theorem d_Mo_answered_132 : decode cb_Mo_answered 132 = .ok (.aload_n 0, 1) := by decide +kernel
theorem d_Mo_answered_133 : decode cb_Mo_answered 133 = .ok (.iload_n 1, 1) := by decide +kernel
theorem d_Mo_answered_134 : decode cb_Mo_answered 134 = .ok (.invokevirtual 226, 3) := by decide +kernel
theorem d_Mo_answered_137 : decode cb_Mo_answered 137 = .ok (.aload_n 0, 1) := by decide +kernel
theorem d_Mo_answered_138 : decode cb_Mo_answered 138 = .ok (.getfield 166, 3) := by decide +kernel
theorem d_Mo_answered_141 : decode cb_Mo_answered 141 = .ok (.ifCond .lt 29, 3) := by decide +kernel
theorem d_Mo_answered_144 : decode cb_Mo_answered 144 = .ok (.aload_n 0, 1) := by decide +kernel
theorem d_Mo_answered_145 : decode cb_Mo_answered 145 = .ok (.getfield 69, 3) := by decide +kernel
theorem d_Mo_answered_148 : decode cb_Mo_answered 148 = .ok (.iload_n 1, 1) := by decide +kernel
theorem d_Mo_answered_149 : decode cb_Mo_answered 149 = .ok (.baload, 1) := by decide +kernel
theorem d_Mo_answered_150 : decode cb_Mo_answered 150 = .ok (.ifCond .eq 20, 3) := by decide +kernel
theorem d_Mo_answered_153 : decode cb_Mo_answered 153 = .ok (.aload_n 0, 1) := by decide +kernel
theorem d_Mo_answered_154 : decode cb_Mo_answered 154 = .ok (.getfield 72, 3) := by decide +kernel
theorem d_Mo_answered_157 : decode cb_Mo_answered 157 = .ok (.iload_n 1, 1) := by decide +kernel
theorem d_Mo_answered_158 : decode cb_Mo_answered 158 = .ok (.iconst 1, 1) := by decide +kernel
theorem d_Mo_answered_159 : decode cb_Mo_answered 159 = .ok (.bastore, 1) := by decide +kernel
theorem d_Mo_answered_160 : decode cb_Mo_answered 160 = .ok (.aload_n 0, 1) := by decide +kernel
theorem d_Mo_answered_161 : decode cb_Mo_answered 161 = .ok (.getfield 75, 3) := by decide +kernel
theorem d_Mo_answered_164 : decode cb_Mo_answered 164 = .ok (.iload_n 1, 1) := by decide +kernel
theorem d_Mo_answered_165 : decode cb_Mo_answered 165 = .ok (.aload_n 0, 1) := by decide +kernel
theorem d_Mo_answered_166 : decode cb_Mo_answered 166 = .ok (.getfield 166, 3) := by decide +kernel
theorem d_Mo_answered_169 : decode cb_Mo_answered 169 = .ok (.iastore, 1) := by decide +kernel
theorem d_Mo_answered_170 : decode cb_Mo_answered 170 = .ok (.aload_n 0, 1) := by decide +kernel
theorem d_Mo_answered_171 : decode cb_Mo_answered 171 = .ok (.getfield 169, 3) := by decide +kernel
theorem d_Mo_answered_174 : decode cb_Mo_answered 174 = .ok (.bipush 8, 2) := by decide +kernel
theorem d_Mo_answered_176 : decode cb_Mo_answered 176 = .ok (.idiv, 1) := by decide +kernel
theorem d_Mo_answered_177 : decode cb_Mo_answered 177 = .ok (.iconst 2, 1) := by decide +kernel
theorem d_Mo_answered_178 : decode cb_Mo_answered 178 = .ok (.irem, 1) := by decide +kernel
theorem d_Mo_answered_179 : decode cb_Mo_answered 179 = .ok (.iconst 1, 1) := by decide +kernel
theorem d_Mo_answered_180 : decode cb_Mo_answered 180 = .ok (.if_icmp .ne 22, 3) := by decide +kernel
theorem d_Mo_answered_183 : decode cb_Mo_answered 183 = .ok (.aload_n 0, 1) := by decide +kernel
theorem d_Mo_answered_184 : decode cb_Mo_answered 184 = .ok (.getfield 63, 3) := by decide +kernel
theorem d_Mo_answered_187 : decode cb_Mo_answered 187 = .ok (.iload_n 1, 1) := by decide +kernel
theorem d_Mo_answered_188 : decode cb_Mo_answered 188 = .ok (.dup2, 1) := by decide +kernel
theorem d_Mo_answered_189 : decode cb_Mo_answered 189 = .ok (.iaload, 1) := by decide +kernel
theorem d_Mo_answered_190 : decode cb_Mo_answered 190 = .ok (.iconst 1, 1) := by decide +kernel
theorem d_Mo_answered_191 : decode cb_Mo_answered 191 = .ok (.iadd, 1) := by decide +kernel
theorem d_Mo_answered_192 : decode cb_Mo_answered 192 = .ok (.iastore, 1) := by decide +kernel
theorem d_Mo_answered_193 : decode cb_Mo_answered 193 = .ok (.aload_n 0, 1) := by decide +kernel
theorem d_Mo_answered_194 : decode cb_Mo_answered 194 = .ok (.iload_n 1, 1) := by decide +kernel
theorem d_Mo_answered_195 : decode cb_Mo_answered 195 = .ok (.iconst 0, 1) := by decide +kernel
theorem d_Mo_answered_196 : decode cb_Mo_answered 196 = .ok (.invokevirtual 229, 3) := by decide +kernel
theorem d_Mo_answered_199 : decode cb_Mo_answered 199 = .ok (.goto 104, 3) := by decide +kernel
theorem d_Mo_answered_202 : decode cb_Mo_answered 202 = .ok (.aload_n 0, 1) := by decide +kernel
theorem d_Mo_answered_203 : decode cb_Mo_answered 203 = .ok (.getfield 48, 3) := by decide +kernel
theorem d_Mo_answered_206 : decode cb_Mo_answered 206 = .ok (.iload_n 1, 1) := by decide +kernel
theorem d_Mo_answered_207 : decode cb_Mo_answered 207 = .ok (.iconst 2, 1) := by decide +kernel
theorem d_Mo_answered_208 : decode cb_Mo_answered 208 = .ok (.iastore, 1) := by decide +kernel
theorem d_Mo_answered_209 : decode cb_Mo_answered 209 = .ok (.goto 94, 3) := by decide +kernel
theorem d_Mo_answered_212 : decode cb_Mo_answered 212 = .ok (.aload_n 0, 1) := by decide +kernel
theorem d_Mo_answered_213 : decode cb_Mo_answered 213 = .ok (.getfield 194, 3) := by decide +kernel
theorem d_Mo_answered_216 : decode cb_Mo_answered 216 = .ok (.bipush 95, 2) := by decide +kernel
theorem d_Mo_answered_218 : decode cb_Mo_answered 218 = .ok (.if_icmp .ne 40, 3) := by decide +kernel
theorem d_Mo_answered_221 : decode cb_Mo_answered 221 = .ok (.aload_n 0, 1) := by decide +kernel
theorem d_Mo_answered_222 : decode cb_Mo_answered 222 = .ok (.getfield 66, 3) := by decide +kernel
theorem d_Mo_answered_225 : decode cb_Mo_answered 225 = .ok (.iload_n 1, 1) := by decide +kernel
theorem d_Mo_answered_226 : decode cb_Mo_answered 226 = .ok (.baload, 1) := by decide +kernel
theorem d_Mo_answered_227 : decode cb_Mo_answered 227 = .ok (.ifCond .eq 31, 3) := by decide +kernel
theorem d_Mo_answered_230 : decode cb_Mo_answered 230 = .ok (.aload_n 0, 1) := by decide +kernel
theorem d_Mo_answered_231 : decode cb_Mo_answered 231 = .ok (.getfield 81, 3) := by decide +kernel
theorem d_Mo_answered_234 : decode cb_Mo_answered 234 = .ok (.iload_n 1, 1) := by decide +kernel
theorem d_Mo_answered_235 : decode cb_Mo_answered 235 = .ok (.baload, 1) := by decide +kernel
theorem d_Mo_answered_236 : decode cb_Mo_answered 236 = .ok (.ifCond .eq 22, 3) := by decide +kernel
theorem d_Mo_answered_239 : decode cb_Mo_answered 239 = .ok (.aload_n 0, 1) := by decide +kernel
theorem d_Mo_answered_240 : decode cb_Mo_answered 240 = .ok (.getfield 63, 3) := by decide +kernel
theorem d_Mo_answered_243 : decode cb_Mo_answered 243 = .ok (.iload_n 1, 1) := by decide +kernel
theorem d_Mo_answered_244 : decode cb_Mo_answered 244 = .ok (.dup2, 1) := by decide +kernel
theorem d_Mo_answered_245 : decode cb_Mo_answered 245 = .ok (.iaload, 1) := by decide +kernel
theorem d_Mo_answered_246 : decode cb_Mo_answered 246 = .ok (.iconst 1, 1) := by decide +kernel
theorem d_Mo_answered_247 : decode cb_Mo_answered 247 = .ok (.iadd, 1) := by decide +kernel
theorem d_Mo_answered_248 : decode cb_Mo_answered 248 = .ok (.iastore, 1) := by decide +kernel
theorem d_Mo_answered_249 : decode cb_Mo_answered 249 = .ok (.aload_n 0, 1) := by decide +kernel
theorem d_Mo_answered_250 : decode cb_Mo_answered 250 = .ok (.iload_n 1, 1) := by decide +kernel
theorem d_Mo_answered_251 : decode cb_Mo_answered 251 = .ok (.iconst 0, 1) := by decide +kernel
theorem d_Mo_answered_252 : decode cb_Mo_answered 252 = .ok (.invokevirtual 229, 3) := by decide +kernel
theorem d_Mo_answered_255 : decode cb_Mo_answered 255 = .ok (.goto 48, 3) := by decide +kernel
theorem d_Mo_answered_258 : decode cb_Mo_answered 258 = .ok (.aload_n 0, 1) := by decide +kernel
theorem d_Mo_answered_259 : decode cb_Mo_answered 259 = .ok (.getfield 194, 3) := by decide +kernel
theorem d_Mo_answered_262 : decode cb_Mo_answered 262 = .ok (.bipush 68, 2) := by decide +kernel
theorem d_Mo_answered_264 : decode cb_Mo_answered 264 = .ok (.if_icmp .ne 22, 3) := by decide +kernel
theorem d_Mo_answered_267 : decode cb_Mo_answered 267 = .ok (.aload_n 0, 1) := by decide +kernel
theorem d_Mo_answered_268 : decode cb_Mo_answered 268 = .ok (.getfield 66, 3) := by decide +kernel
theorem d_Mo_answered_271 : decode cb_Mo_answered 271 = .ok (.iload_n 1, 1) := by decide +kernel
theorem d_Mo_answered_272 : decode cb_Mo_answered 272 = .ok (.baload, 1) := by decide +kernel
theorem d_Mo_answered_273 : decode cb_Mo_answered 273 = .ok (.ifCond .eq 13, 3) := by decide +kernel
theorem d_Mo_answered_276 : decode cb_Mo_answered 276 = .ok (.aload_n 0, 1) := by decide +kernel
theorem d_Mo_answered_277 : decode cb_Mo_answered 277 = .ok (.getfield 48, 3) := by decide +kernel
theorem d_Mo_answered_280 : decode cb_Mo_answered 280 = .ok (.iload_n 1, 1) := by decide +kernel
theorem d_Mo_answered_281 : decode cb_Mo_answered 281 = .ok (.iconst 2, 1) := by decide +kernel
theorem d_Mo_answered_282 : decode cb_Mo_answered 282 = .ok (.iastore, 1) := by decide +kernel
theorem d_Mo_answered_283 : decode cb_Mo_answered 283 = .ok (.goto 20, 3) := by decide +kernel
theorem d_Mo_answered_286 : decode cb_Mo_answered 286 = .ok (.aload_n 0, 1) := by decide +kernel
theorem d_Mo_answered_287 : decode cb_Mo_answered 287 = .ok (.getfield 48, 3) := by decide +kernel
theorem d_Mo_answered_290 : decode cb_Mo_answered 290 = .ok (.iload_n 1, 1) := by decide +kernel
theorem d_Mo_answered_291 : decode cb_Mo_answered 291 = .ok (.iconst 4, 1) := by decide +kernel
theorem d_Mo_answered_292 : decode cb_Mo_answered 292 = .ok (.iastore, 1) := by decide +kernel
theorem d_Mo_answered_293 : decode cb_Mo_answered 293 = .ok (.aload_n 0, 1) := by decide +kernel
theorem d_Mo_answered_294 : decode cb_Mo_answered 294 = .ok (.getfield 78, 3) := by decide +kernel
theorem d_Mo_answered_297 : decode cb_Mo_answered 297 = .ok (.iload_n 1, 1) := by decide +kernel
theorem d_Mo_answered_298 : decode cb_Mo_answered 298 = .ok (.aload_n 0, 1) := by decide +kernel
theorem d_Mo_answered_299 : decode cb_Mo_answered 299 = .ok (.getfield 194, 3) := by decide +kernel
theorem d_Mo_answered_302 : decode cb_Mo_answered 302 = .ok (.iastore, 1) := by decide +kernel
theorem d_Mo_answered_303 : decode cb_Mo_answered 303 = .ok (.return_, 1) := by decide +kernel

theorem d_Mo_told_0 : decode cb_Mo_told 0 = .ok (.aload_n 0, 1) := by decide +kernel
theorem d_Mo_told_1 : decode cb_Mo_told 1 = .ok (.iconst 2, 1) := by decide +kernel
theorem d_Mo_told_2 : decode cb_Mo_told 2 = .ok (.aload_n 0, 1) := by decide +kernel
theorem d_Mo_told_3 : decode cb_Mo_told 3 = .ok (.getfield 197, 3) := by decide +kernel
theorem d_Mo_told_6 : decode cb_Mo_told 6 = .ok (.iconst 1, 1) := by decide +kernel
theorem d_Mo_told_7 : decode cb_Mo_told 7 = .ok (.invokevirtual 233, 3) := by decide +kernel
theorem d_Mo_told_10 : decode cb_Mo_told 10 = .ok (.aload_n 0, 1) := by decide +kernel
theorem d_Mo_told_11 : decode cb_Mo_told 11 = .ok (.getfield 166, 3) := by decide +kernel
theorem d_Mo_told_14 : decode cb_Mo_told 14 = .ok (.aload_n 0, 1) := by decide +kernel
theorem d_Mo_told_15 : decode cb_Mo_told 15 = .ok (.getfield 75, 3) := by decide +kernel
theorem d_Mo_told_18 : decode cb_Mo_told 18 = .ok (.iload_n 1, 1) := by decide +kernel
theorem d_Mo_told_19 : decode cb_Mo_told 19 = .ok (.iaload, 1) := by decide +kernel
theorem d_Mo_told_20 : decode cb_Mo_told 20 = .ok (.isub, 1) := by decide +kernel
theorem d_Mo_told_21 : decode cb_Mo_told 21 = .ok (.ldc 225, 2) := by decide +kernel
theorem d_Mo_told_23 : decode cb_Mo_told 23 = .ok (.iadd, 1) := by decide +kernel
theorem d_Mo_told_24 : decode cb_Mo_told 24 = .ok (.ldc 225, 2) := by decide +kernel
theorem d_Mo_told_26 : decode cb_Mo_told 26 = .ok (.irem, 1) := by decide +kernel
theorem d_Mo_told_27 : decode cb_Mo_told 27 = .ok (.istore_n 2, 1) := by decide +kernel
theorem d_Mo_told_28 : decode cb_Mo_told 28 = .ok (.aload_n 0, 1) := by decide +kernel
theorem d_Mo_told_29 : decode cb_Mo_told 29 = .ok (.getfield 166, 3) := by decide +kernel
theorem d_Mo_told_32 : decode cb_Mo_told 32 = .ok (.ifCond .lt 19, 3) := by decide +kernel
theorem d_Mo_told_35 : decode cb_Mo_told 35 = .ok (.iload_n 2, 1) := by decide +kernel
theorem d_Mo_told_36 : decode cb_Mo_told 36 = .ok (.iconst 1, 1) := by decide +kernel
theorem d_Mo_told_37 : decode cb_Mo_told 37 = .ok (.if_icmp .lt 14, 3) := by decide +kernel
theorem d_Mo_told_40 : decode cb_Mo_told 40 = .ok (.iload_n 2, 1) := by decide +kernel
theorem d_Mo_told_41 : decode cb_Mo_told 41 = .ok (.sipush 32767, 3) := by decide +kernel
theorem d_Mo_told_44 : decode cb_Mo_told 44 = .ok (.if_icmp .gt 7, 3) := by decide +kernel
theorem d_Mo_told_47 : decode cb_Mo_told 47 = .ok (.iconst 1, 1) := by decide +kernel
theorem d_Mo_told_48 : decode cb_Mo_told 48 = .ok (.goto 4, 3) := by decide +kernel
theorem d_Mo_told_51 : decode cb_Mo_told 51 = .ok (.iconst 0, 1) := by decide +kernel
theorem d_Mo_told_52 : decode cb_Mo_told 52 = .ok (.istore_n 3, 1) := by decide +kernel
theorem d_Mo_told_53 : decode cb_Mo_told 53 = .ok (.iload_n 3, 1) := by decide +kernel
theorem d_Mo_told_54 : decode cb_Mo_told 54 = .ok (.ifCond .eq 36, 3) := by decide +kernel
theorem d_Mo_told_57 : decode cb_Mo_told 57 = .ok (.aload_n 0, 1) := by decide +kernel
theorem d_Mo_told_58 : decode cb_Mo_told 58 = .ok (.getfield 169, 3) := by decide +kernel
theorem d_Mo_told_61 : decode cb_Mo_told 61 = .ok (.ifCond .lt 29, 3) := by decide +kernel
theorem d_Mo_told_64 : decode cb_Mo_told 64 = .ok (.aload_n 0, 1) := by decide +kernel
theorem d_Mo_told_65 : decode cb_Mo_told 65 = .ok (.getfield 169, 3) := by decide +kernel
theorem d_Mo_told_68 : decode cb_Mo_told 68 = .ok (.bipush 16, 2) := by decide +kernel
theorem d_Mo_told_70 : decode cb_Mo_told 70 = .ok (.idiv, 1) := by decide +kernel
theorem d_Mo_told_71 : decode cb_Mo_told 71 = .ok (.ifCond .ne 19, 3) := by decide +kernel
theorem d_Mo_told_74 : decode cb_Mo_told 74 = .ok (.aload_n 0, 1) := by decide +kernel
theorem d_Mo_told_75 : decode cb_Mo_told 75 = .ok (.getfield 169, 3) := by decide +kernel
theorem d_Mo_told_78 : decode cb_Mo_told 78 = .ok (.bipush 8, 2) := by decide +kernel
theorem d_Mo_told_80 : decode cb_Mo_told 80 = .ok (.irem, 1) := by decide +kernel
theorem d_Mo_told_81 : decode cb_Mo_told 81 = .ok (.aload_n 0, 1) := by decide +kernel
theorem d_Mo_told_82 : decode cb_Mo_told 82 = .ok (.getfield 60, 3) := by decide +kernel
theorem d_Mo_told_85 : decode cb_Mo_told 85 = .ok (.iload_n 1, 1) := by decide +kernel
theorem d_Mo_told_86 : decode cb_Mo_told 86 = .ok (.iaload, 1) := by decide +kernel
theorem d_Mo_told_87 : decode cb_Mo_told 87 = .ok (.if_icmp .eq 4, 3) := by decide +kernel
theorem d_Mo_told_90 : decode cb_Mo_told 90 = .ok (.return_, 1) := by decide +kernel
theorem d_Mo_told_91 : decode cb_Mo_told 91 = .ok (.aload_n 0, 1) := by decide +kernel
theorem d_Mo_told_92 : decode cb_Mo_told 92 = .ok (.getfield 75, 3) := by decide +kernel
theorem d_Mo_told_95 : decode cb_Mo_told 95 = .ok (.iload_n 1, 1) := by decide +kernel
theorem d_Mo_told_96 : decode cb_Mo_told 96 = .ok (.aload_n 0, 1) := by decide +kernel
theorem d_Mo_told_97 : decode cb_Mo_told 97 = .ok (.getfield 166, 3) := by decide +kernel
theorem d_Mo_told_100 : decode cb_Mo_told 100 = .ok (.iastore, 1) := by decide +kernel
theorem d_Mo_told_101 : decode cb_Mo_told 101 = .ok (.aload_n 0, 1) := by decide +kernel
theorem d_Mo_told_102 : decode cb_Mo_told 102 = .ok (.getfield 26, 3) := by decide +kernel
theorem d_Mo_told_105 : decode cb_Mo_told 105 = .ok (.iload_n 1, 1) := by decide +kernel
theorem d_Mo_told_106 : decode cb_Mo_told 106 = .ok (.iconst 0, 1) := by decide +kernel
theorem d_Mo_told_107 : decode cb_Mo_told 107 = .ok (.bastore, 1) := by decide +kernel
theorem d_Mo_told_108 : decode cb_Mo_told 108 = .ok (.aload_n 0, 1) := by decide +kernel
theorem d_Mo_told_109 : decode cb_Mo_told 109 = .ok (.getfield 87, 3) := by decide +kernel
theorem d_Mo_told_112 : decode cb_Mo_told 112 = .ok (.iload_n 1, 1) := by decide +kernel
theorem d_Mo_told_113 : decode cb_Mo_told 113 = .ok (.iconst 0, 1) := by decide +kernel
theorem d_Mo_told_114 : decode cb_Mo_told 114 = .ok (.iastore, 1) := by decide +kernel
theorem d_Mo_told_115 : decode cb_Mo_told 115 = .ok (.aload_n 0, 1) := by decide +kernel
theorem d_Mo_told_116 : decode cb_Mo_told 116 = .ok (.iload_n 1, 1) := by decide +kernel
theorem d_Mo_told_117 : decode cb_Mo_told 117 = .ok (.invokevirtual 226, 3) := by decide +kernel
theorem d_Mo_told_120 : decode cb_Mo_told 120 = .ok (.aload_n 0, 1) := by decide +kernel
theorem d_Mo_told_121 : decode cb_Mo_told 121 = .ok (.getfield 63, 3) := by decide +kernel
theorem d_Mo_told_124 : decode cb_Mo_told 124 = .ok (.iload_n 1, 1) := by decide +kernel
theorem d_Mo_told_125 : decode cb_Mo_told 125 = .ok (.iconst 0, 1) := by decide +kernel
theorem d_Mo_told_126 : decode cb_Mo_told 126 = .ok (.iastore, 1) := by decide +kernel
theorem d_Mo_told_127 : decode cb_Mo_told 127 = .ok (.aload_n 0, 1) := by decide +kernel
theorem d_Mo_told_128 : decode cb_Mo_told 128 = .ok (.getfield 169, 3) := by decide +kernel
theorem d_Mo_told_131 : decode cb_Mo_told 131 = .ok (.bipush 8, 2) := by decide +kernel
theorem d_Mo_told_133 : decode cb_Mo_told 133 = .ok (.idiv, 1) := by decide +kernel
theorem d_Mo_told_134 : decode cb_Mo_told 134 = .ok (.iconst 1, 1) := by decide +kernel
theorem d_Mo_told_135 : decode cb_Mo_told 135 = .ok (.if_icmp .ne 19, 3) := by decide +kernel
theorem d_Mo_told_138 : decode cb_Mo_told 138 = .ok (.aload_n 0, 1) := by decide +kernel
theorem d_Mo_told_139 : decode cb_Mo_told 139 = .ok (.getfield 63, 3) := by decide +kernel
theorem d_Mo_told_142 : decode cb_Mo_told 142 = .ok (.iload_n 1, 1) := by decide +kernel
theorem d_Mo_told_143 : decode cb_Mo_told 143 = .ok (.iconst 1, 1) := by decide +kernel
theorem d_Mo_told_144 : decode cb_Mo_told 144 = .ok (.iastore, 1) := by decide +kernel
theorem d_Mo_told_145 : decode cb_Mo_told 145 = .ok (.aload_n 0, 1) := by decide +kernel
theorem d_Mo_told_146 : decode cb_Mo_told 146 = .ok (.iload_n 1, 1) := by decide +kernel
theorem d_Mo_told_147 : decode cb_Mo_told 147 = .ok (.iconst 0, 1) := by decide +kernel
theorem d_Mo_told_148 : decode cb_Mo_told 148 = .ok (.invokevirtual 229, 3) := by decide +kernel
theorem d_Mo_told_151 : decode cb_Mo_told 151 = .ok (.goto 10, 3) := by decide +kernel
theorem d_Mo_told_154 : decode cb_Mo_told 154 = .ok (.aload_n 0, 1) := by decide +kernel
theorem d_Mo_told_155 : decode cb_Mo_told 155 = .ok (.getfield 48, 3) := by decide +kernel
theorem d_Mo_told_158 : decode cb_Mo_told 158 = .ok (.iload_n 1, 1) := by decide +kernel
theorem d_Mo_told_159 : decode cb_Mo_told 159 = .ok (.iconst 2, 1) := by decide +kernel
theorem d_Mo_told_160 : decode cb_Mo_told 160 = .ok (.iastore, 1) := by decide +kernel
theorem d_Mo_told_161 : decode cb_Mo_told 161 = .ok (.return_, 1) := by decide +kernel
theorem d_Mo_toClient_0 : decode cb_Mo_toClient 0 = .ok (.aload_n 0, 1) := by decide +kernel
theorem d_Mo_toClient_1 : decode cb_Mo_toClient 1 = .ok (.getfield 191, 3) := by decide +kernel
theorem d_Mo_toClient_4 : decode cb_Mo_toClient 4 = .ok (.iconst 2, 1) := by decide +kernel
theorem d_Mo_toClient_5 : decode cb_Mo_toClient 5 = .ok (.if_icmp .ne 74, 3) := by decide +kernel
theorem d_Mo_toClient_8 : decode cb_Mo_toClient 8 = .ok (.aload_n 0, 1) := by decide +kernel
theorem d_Mo_toClient_9 : decode cb_Mo_toClient 9 = .ok (.getfield 194, 3) := by decide +kernel
theorem d_Mo_toClient_12 : decode cb_Mo_toClient 12 = .ok (.ifCond .eq 67, 3) := by decide +kernel
theorem d_Mo_toClient_15 : decode cb_Mo_toClient 15 = .ok (.iconst 0, 1) := by decide +kernel
theorem d_Mo_toClient_16 : decode cb_Mo_toClient 16 = .ok (.istore_n 1, 1) := by decide +kernel
theorem d_Mo_toClient_17 : decode cb_Mo_toClient 17 = .ok (.iload_n 1, 1) := by decide +kernel
theorem d_Mo_toClient_18 : decode cb_Mo_toClient 18 = .ok (.iconst 2, 1) := by decide +kernel
theorem d_Mo_toClient_19 : decode cb_Mo_toClient 19 = .ok (.if_icmp .ge 60, 3) := by decide +kernel
theorem d_Mo_toClient_22 : decode cb_Mo_toClient 22 = .ok (.aload_n 0, 1) := by decide +kernel
theorem d_Mo_toClient_23 : decode cb_Mo_toClient 23 = .ok (.getfield 48, 3) := by decide +kernel
theorem d_Mo_toClient_26 : decode cb_Mo_toClient 26 = .ok (.iload_n 1, 1) := by decide +kernel
theorem d_Mo_toClient_27 : decode cb_Mo_toClient 27 = .ok (.iaload, 1) := by decide +kernel
theorem d_Mo_toClient_28 : decode cb_Mo_toClient 28 = .ok (.iconst 1, 1) := by decide +kernel
theorem d_Mo_toClient_29 : decode cb_Mo_toClient 29 = .ok (.if_icmp .ne 44, 3) := by decide +kernel
theorem d_Mo_toClient_32 : decode cb_Mo_toClient 32 = .ok (.aload_n 0, 1) := by decide +kernel
theorem d_Mo_toClient_33 : decode cb_Mo_toClient 33 = .ok (.getfield 26, 3) := by decide +kernel
theorem d_Mo_toClient_36 : decode cb_Mo_toClient 36 = .ok (.iload_n 1, 1) := by decide +kernel
theorem d_Mo_toClient_37 : decode cb_Mo_toClient 37 = .ok (.baload, 1) := by decide +kernel
theorem d_Mo_toClient_38 : decode cb_Mo_toClient 38 = .ok (.ifCond .eq 35, 3) := by decide +kernel
theorem d_Mo_toClient_41 : decode cb_Mo_toClient 41 = .ok (.aload_n 0, 1) := by decide +kernel
theorem d_Mo_toClient_42 : decode cb_Mo_toClient 42 = .ok (.getfield 30, 3) := by decide +kernel
theorem d_Mo_toClient_45 : decode cb_Mo_toClient 45 = .ok (.iload_n 1, 1) := by decide +kernel
theorem d_Mo_toClient_46 : decode cb_Mo_toClient 46 = .ok (.iaload, 1) := by decide +kernel
theorem d_Mo_toClient_47 : decode cb_Mo_toClient 47 = .ok (.aload_n 0, 1) := by decide +kernel
theorem d_Mo_toClient_48 : decode cb_Mo_toClient 48 = .ok (.getfield 197, 3) := by decide +kernel
theorem d_Mo_toClient_51 : decode cb_Mo_toClient 51 = .ok (.if_icmp .ne 22, 3) := by decide +kernel
theorem d_Mo_toClient_54 : decode cb_Mo_toClient 54 = .ok (.aload_n 0, 1) := by decide +kernel
theorem d_Mo_toClient_55 : decode cb_Mo_toClient 55 = .ok (.getfield 54, 3) := by decide +kernel
theorem d_Mo_toClient_58 : decode cb_Mo_toClient 58 = .ok (.iload_n 1, 1) := by decide +kernel
theorem d_Mo_toClient_59 : decode cb_Mo_toClient 59 = .ok (.iaload, 1) := by decide +kernel
theorem d_Mo_toClient_60 : decode cb_Mo_toClient 60 = .ok (.aload_n 0, 1) := by decide +kernel
theorem d_Mo_toClient_61 : decode cb_Mo_toClient 61 = .ok (.getfield 188, 3) := by decide +kernel
theorem d_Mo_toClient_64 : decode cb_Mo_toClient 64 = .ok (.if_icmp .ne 9, 3) := by decide +kernel
theorem d_Mo_toClient_67 : decode cb_Mo_toClient 67 = .ok (.aload_n 0, 1) := by decide +kernel
theorem d_Mo_toClient_68 : decode cb_Mo_toClient 68 = .ok (.iload_n 1, 1) := by decide +kernel
theorem d_Mo_toClient_69 : decode cb_Mo_toClient 69 = .ok (.invokevirtual 236, 3) := by decide +kernel
theorem d_Mo_toClient_72 : decode cb_Mo_toClient 72 = .ok (.return_, 1) := by decide +kernel
theorem d_Mo_toClient_73 : decode cb_Mo_toClient 73 = .ok (.iinc 1 1, 3) := by decide +kernel
theorem d_Mo_toClient_76 : decode cb_Mo_toClient 76 = .ok (.goto (-59), 3) := by decide +kernel
theorem d_Mo_toClient_79 : decode cb_Mo_toClient 79 = .ok (.aload_n 0, 1) := by decide +kernel
theorem d_Mo_toClient_80 : decode cb_Mo_toClient 80 = .ok (.getfield 191, 3) := by decide +kernel
theorem d_Mo_toClient_83 : decode cb_Mo_toClient 83 = .ok (.ifCond .ne 63, 3) := by decide +kernel
theorem d_Mo_toClient_86 : decode cb_Mo_toClient 86 = .ok (.aload_n 0, 1) := by decide +kernel
theorem d_Mo_toClient_87 : decode cb_Mo_toClient 87 = .ok (.getfield 194, 3) := by decide +kernel
theorem d_Mo_toClient_90 : decode cb_Mo_toClient 90 = .ok (.bipush 69, 2) := by decide +kernel
theorem d_Mo_toClient_92 : decode cb_Mo_toClient 92 = .ok (.if_icmp .ne 54, 3) := by decide +kernel
theorem d_Mo_toClient_95 : decode cb_Mo_toClient 95 = .ok (.iconst 0, 1) := by decide +kernel
theorem d_Mo_toClient_96 : decode cb_Mo_toClient 96 = .ok (.istore_n 1, 1) := by decide +kernel
theorem d_Mo_toClient_97 : decode cb_Mo_toClient 97 = .ok (.iload_n 1, 1) := by decide +kernel
theorem d_Mo_toClient_98 : decode cb_Mo_toClient 98 = .ok (.iconst 2, 1) := by decide +kernel
theorem d_Mo_toClient_99 : decode cb_Mo_toClient 99 = .ok (.if_icmp .ge 37, 3) := by decide +kernel
theorem d_Mo_toClient_102 : decode cb_Mo_toClient 102 = .ok (.aload_n 0, 1) := by decide +kernel
theorem d_Mo_toClient_103 : decode cb_Mo_toClient 103 = .ok (.getfield 72, 3) := by decide +kernel
theorem d_Mo_toClient_106 : decode cb_Mo_toClient 106 = .ok (.iload_n 1, 1) := by decide +kernel
theorem d_Mo_toClient_107 : decode cb_Mo_toClient 107 = .ok (.baload, 1) := by decide +kernel
theorem d_Mo_toClient_108 : decode cb_Mo_toClient 108 = .ok (.ifCond .eq 22, 3) := by decide +kernel
theorem d_Mo_toClient_111 : decode cb_Mo_toClient 111 = .ok (.aload_n 0, 1) := by decide +kernel
theorem d_Mo_toClient_112 : decode cb_Mo_toClient 112 = .ok (.getfield 54, 3) := by decide +kernel
theorem d_Mo_toClient_115 : decode cb_Mo_toClient 115 = .ok (.iload_n 1, 1) := by decide +kernel
theorem d_Mo_toClient_116 : decode cb_Mo_toClient 116 = .ok (.iaload, 1) := by decide +kernel
theorem d_Mo_toClient_117 : decode cb_Mo_toClient 117 = .ok (.aload_n 0, 1) := by decide +kernel
theorem d_Mo_toClient_118 : decode cb_Mo_toClient 118 = .ok (.getfield 188, 3) := by decide +kernel
theorem d_Mo_toClient_121 : decode cb_Mo_toClient 121 = .ok (.if_icmp .ne 9, 3) := by decide +kernel
theorem d_Mo_toClient_124 : decode cb_Mo_toClient 124 = .ok (.aload_n 0, 1) := by decide +kernel
theorem d_Mo_toClient_125 : decode cb_Mo_toClient 125 = .ok (.iload_n 1, 1) := by decide +kernel
theorem d_Mo_toClient_126 : decode cb_Mo_toClient 126 = .ok (.invokevirtual 239, 3) := by decide +kernel
theorem d_Mo_toClient_129 : decode cb_Mo_toClient 129 = .ok (.return_, 1) := by decide +kernel
theorem d_Mo_toClient_130 : decode cb_Mo_toClient 130 = .ok (.iinc 1 1, 3) := by decide +kernel
theorem d_Mo_toClient_133 : decode cb_Mo_toClient 133 = .ok (.goto (-36), 3) := by decide +kernel
theorem d_Mo_toClient_136 : decode cb_Mo_toClient 136 = .ok (.aload_n 0, 1) := by decide +kernel
theorem d_Mo_toClient_137 : decode cb_Mo_toClient 137 = .ok (.iconst 3, 1) := by decide +kernel
theorem d_Mo_toClient_138 : decode cb_Mo_toClient 138 = .ok (.aload_n 0, 1) := by decide +kernel
theorem d_Mo_toClient_139 : decode cb_Mo_toClient 139 = .ok (.getfield 197, 3) := by decide +kernel
theorem d_Mo_toClient_142 : decode cb_Mo_toClient 142 = .ok (.iconst 1, 1) := by decide +kernel
theorem d_Mo_toClient_143 : decode cb_Mo_toClient 143 = .ok (.invokevirtual 233, 3) := by decide +kernel
theorem d_Mo_toClient_146 : decode cb_Mo_toClient 146 = .ok (.return_, 1) := by decide +kernel
theorem d_Mo_dropWatcher_0 : decode cb_Mo_dropWatcher 0 = .ok (.aload_n 0, 1) := by decide +kernel
theorem d_Mo_dropWatcher_1 : decode cb_Mo_dropWatcher 1 = .ok (.getfield 26, 3) := by decide +kernel
theorem d_Mo_dropWatcher_4 : decode cb_Mo_dropWatcher 4 = .ok (.iconst 2, 1) := by decide +kernel
theorem d_Mo_dropWatcher_5 : decode cb_Mo_dropWatcher 5 = .ok (.iload_n 1, 1) := by decide +kernel
theorem d_Mo_dropWatcher_6 : decode cb_Mo_dropWatcher 6 = .ok (.iadd, 1) := by decide +kernel
theorem d_Mo_dropWatcher_7 : decode cb_Mo_dropWatcher 7 = .ok (.iconst 0, 1) := by decide +kernel
theorem d_Mo_dropWatcher_8 : decode cb_Mo_dropWatcher 8 = .ok (.bastore, 1) := by decide +kernel
theorem d_Mo_dropWatcher_9 : decode cb_Mo_dropWatcher 9 = .ok (.iload_n 1, 1) := by decide +kernel
theorem d_Mo_dropWatcher_10 : decode cb_Mo_dropWatcher 10 = .ok (.ifCond .ne 172, 3) := by decide +kernel
theorem d_Mo_dropWatcher_13 : decode cb_Mo_dropWatcher 13 = .ok (.aload_n 0, 1) := by decide +kernel
theorem d_Mo_dropWatcher_14 : decode cb_Mo_dropWatcher 14 = .ok (.getfield 242, 3) := by decide +kernel
theorem d_Mo_dropWatcher_17 : decode cb_Mo_dropWatcher 17 = .ok (.iconst 2, 1) := by decide +kernel
theorem d_Mo_dropWatcher_18 : decode cb_Mo_dropWatcher 18 = .ok (.if_icmp .ne 164, 3) := by decide +kernel
theorem d_Mo_dropWatcher_21 : decode cb_Mo_dropWatcher 21 = .ok (.aload_n 0, 1) := by decide +kernel
theorem d_Mo_dropWatcher_22 : decode cb_Mo_dropWatcher 22 = .ok (.getfield 102, 3) := by decide +kernel
theorem d_Mo_dropWatcher_25 : decode cb_Mo_dropWatcher 25 = .ok (.iconst 0, 1) := by decide +kernel
theorem d_Mo_dropWatcher_26 : decode cb_Mo_dropWatcher 26 = .ok (.aload_n 0, 1) := by decide +kernel
theorem d_Mo_dropWatcher_27 : decode cb_Mo_dropWatcher 27 = .ok (.getfield 102, 3) := by decide +kernel
theorem d_Mo_dropWatcher_30 : decode cb_Mo_dropWatcher 30 = .ok (.iconst 1, 1) := by decide +kernel
theorem d_Mo_dropWatcher_31 : decode cb_Mo_dropWatcher 31 = .ok (.iaload, 1) := by decide +kernel
theorem d_Mo_dropWatcher_32 : decode cb_Mo_dropWatcher 32 = .ok (.iastore, 1) := by decide +kernel
theorem d_Mo_dropWatcher_33 : decode cb_Mo_dropWatcher 33 = .ok (.aload_n 0, 1) := by decide +kernel
theorem d_Mo_dropWatcher_34 : decode cb_Mo_dropWatcher 34 = .ok (.getfield 105, 3) := by decide +kernel
theorem d_Mo_dropWatcher_37 : decode cb_Mo_dropWatcher 37 = .ok (.iconst 0, 1) := by decide +kernel
theorem d_Mo_dropWatcher_38 : decode cb_Mo_dropWatcher 38 = .ok (.aload_n 0, 1) := by decide +kernel
theorem d_Mo_dropWatcher_39 : decode cb_Mo_dropWatcher 39 = .ok (.getfield 105, 3) := by decide +kernel
theorem d_Mo_dropWatcher_42 : decode cb_Mo_dropWatcher 42 = .ok (.iconst 1, 1) := by decide +kernel
theorem d_Mo_dropWatcher_43 : decode cb_Mo_dropWatcher 43 = .ok (.iaload, 1) := by decide +kernel
theorem d_Mo_dropWatcher_44 : decode cb_Mo_dropWatcher 44 = .ok (.iastore, 1) := by decide +kernel
theorem d_Mo_dropWatcher_45 : decode cb_Mo_dropWatcher 45 = .ok (.aload_n 0, 1) := by decide +kernel
theorem d_Mo_dropWatcher_46 : decode cb_Mo_dropWatcher 46 = .ok (.getfield 108, 3) := by decide +kernel
theorem d_Mo_dropWatcher_49 : decode cb_Mo_dropWatcher 49 = .ok (.iconst 0, 1) := by decide +kernel
theorem d_Mo_dropWatcher_50 : decode cb_Mo_dropWatcher 50 = .ok (.aload_n 0, 1) := by decide +kernel
theorem d_Mo_dropWatcher_51 : decode cb_Mo_dropWatcher 51 = .ok (.getfield 108, 3) := by decide +kernel
theorem d_Mo_dropWatcher_54 : decode cb_Mo_dropWatcher 54 = .ok (.iconst 1, 1) := by decide +kernel
theorem d_Mo_dropWatcher_55 : decode cb_Mo_dropWatcher 55 = .ok (.iaload, 1) := by decide +kernel
theorem d_Mo_dropWatcher_56 : decode cb_Mo_dropWatcher 56 = .ok (.iastore, 1) := by decide +kernel
theorem d_Mo_dropWatcher_57 : decode cb_Mo_dropWatcher 57 = .ok (.aload_n 0, 1) := by decide +kernel
theorem d_Mo_dropWatcher_58 : decode cb_Mo_dropWatcher 58 = .ok (.getfield 111, 3) := by decide +kernel
theorem d_Mo_dropWatcher_61 : decode cb_Mo_dropWatcher 61 = .ok (.iconst 0, 1) := by decide +kernel
theorem d_Mo_dropWatcher_62 : decode cb_Mo_dropWatcher 62 = .ok (.aload_n 0, 1) := by decide +kernel
theorem d_Mo_dropWatcher_63 : decode cb_Mo_dropWatcher 63 = .ok (.getfield 111, 3) := by decide +kernel
theorem d_Mo_dropWatcher_66 : decode cb_Mo_dropWatcher 66 = .ok (.iconst 1, 1) := by decide +kernel
theorem d_Mo_dropWatcher_67 : decode cb_Mo_dropWatcher 67 = .ok (.baload, 1) := by decide +kernel
theorem d_Mo_dropWatcher_68 : decode cb_Mo_dropWatcher 68 = .ok (.bastore, 1) := by decide +kernel
theorem d_Mo_dropWatcher_69 : decode cb_Mo_dropWatcher 69 = .ok (.aload_n 0, 1) := by decide +kernel
theorem d_Mo_dropWatcher_70 : decode cb_Mo_dropWatcher 70 = .ok (.getfield 26, 3) := by decide +kernel
theorem d_Mo_dropWatcher_73 : decode cb_Mo_dropWatcher 73 = .ok (.iconst 2, 1) := by decide +kernel
theorem d_Mo_dropWatcher_74 : decode cb_Mo_dropWatcher 74 = .ok (.aload_n 0, 1) := by decide +kernel
theorem d_Mo_dropWatcher_75 : decode cb_Mo_dropWatcher 75 = .ok (.getfield 26, 3) := by decide +kernel
theorem d_Mo_dropWatcher_78 : decode cb_Mo_dropWatcher 78 = .ok (.iconst 3, 1) := by decide +kernel
theorem d_Mo_dropWatcher_79 : decode cb_Mo_dropWatcher 79 = .ok (.baload, 1) := by decide +kernel
theorem d_Mo_dropWatcher_80 : decode cb_Mo_dropWatcher 80 = .ok (.bastore, 1) := by decide +kernel
theorem d_Mo_dropWatcher_81 : decode cb_Mo_dropWatcher 81 = .ok (.aload_n 0, 1) := by decide +kernel
theorem d_Mo_dropWatcher_82 : decode cb_Mo_dropWatcher 82 = .ok (.getfield 30, 3) := by decide +kernel
theorem d_Mo_dropWatcher_85 : decode cb_Mo_dropWatcher 85 = .ok (.iconst 2, 1) := by decide +kernel
theorem d_Mo_dropWatcher_86 : decode cb_Mo_dropWatcher 86 = .ok (.aload_n 0, 1) := by decide +kernel
theorem d_Mo_dropWatcher_87 : decode cb_Mo_dropWatcher 87 = .ok (.getfield 30, 3) := by decide +kernel
theorem d_Mo_dropWatcher_90 : decode cb_Mo_dropWatcher 90 = .ok (.iconst 3, 1) := by decide +kernel
theorem d_Mo_dropWatcher_91 : decode cb_Mo_dropWatcher 91 = .ok (.iaload, 1) := by decide +kernel
theorem d_Mo_dropWatcher_92 : decode cb_Mo_dropWatcher 92 = .ok (.iastore, 1) := by decide +kernel
theorem d_Mo_dropWatcher_93 : decode cb_Mo_dropWatcher 93 = .ok (.aload_n 0, 1) := by decide +kernel
theorem d_Mo_dropWatcher_94 : decode cb_Mo_dropWatcher 94 = .ok (.getfield 33, 3) := by decide +kernel
theorem d_Mo_dropWatcher_97 : decode cb_Mo_dropWatcher 97 = .ok (.iconst 2, 1) := by decide +kernel
theorem d_Mo_dropWatcher_98 : decode cb_Mo_dropWatcher 98 = .ok (.aload_n 0, 1) := by decide +kernel
theorem d_Mo_dropWatcher_99 : decode cb_Mo_dropWatcher 99 = .ok (.getfield 33, 3) := by decide +kernel
theorem d_Mo_dropWatcher_102 : decode cb_Mo_dropWatcher 102 = .ok (.iconst 3, 1) := by decide +kernel
theorem d_Mo_dropWatcher_103 : decode cb_Mo_dropWatcher 103 = .ok (.iaload, 1) := by decide +kernel
theorem d_Mo_dropWatcher_104 : decode cb_Mo_dropWatcher 104 = .ok (.iastore, 1) := by decide +kernel
theorem d_Mo_dropWatcher_105 : decode cb_Mo_dropWatcher 105 = .ok (.aload_n 0, 1) := by decide +kernel
theorem d_Mo_dropWatcher_106 : decode cb_Mo_dropWatcher 106 = .ok (.getfield 36, 3) := by decide +kernel
theorem d_Mo_dropWatcher_109 : decode cb_Mo_dropWatcher 109 = .ok (.iconst 2, 1) := by decide +kernel
theorem d_Mo_dropWatcher_110 : decode cb_Mo_dropWatcher 110 = .ok (.aload_n 0, 1) := by decide +kernel
theorem d_Mo_dropWatcher_111 : decode cb_Mo_dropWatcher 111 = .ok (.getfield 36, 3) := by decide +kernel
theorem d_Mo_dropWatcher_114 : decode cb_Mo_dropWatcher 114 = .ok (.iconst 3, 1) := by decide +kernel
theorem d_Mo_dropWatcher_115 : decode cb_Mo_dropWatcher 115 = .ok (.iaload, 1) := by decide +kernel
theorem d_Mo_dropWatcher_116 : decode cb_Mo_dropWatcher 116 = .ok (.iastore, 1) := by decide +kernel
theorem d_Mo_dropWatcher_117 : decode cb_Mo_dropWatcher 117 = .ok (.aload_n 0, 1) := by decide +kernel
theorem d_Mo_dropWatcher_118 : decode cb_Mo_dropWatcher 118 = .ok (.getfield 39, 3) := by decide +kernel
theorem d_Mo_dropWatcher_121 : decode cb_Mo_dropWatcher 121 = .ok (.iconst 2, 1) := by decide +kernel
theorem d_Mo_dropWatcher_122 : decode cb_Mo_dropWatcher 122 = .ok (.aload_n 0, 1) := by decide +kernel
theorem d_Mo_dropWatcher_123 : decode cb_Mo_dropWatcher 123 = .ok (.getfield 39, 3) := by decide +kernel
theorem d_Mo_dropWatcher_126 : decode cb_Mo_dropWatcher 126 = .ok (.iconst 3, 1) := by decide +kernel
theorem d_Mo_dropWatcher_127 : decode cb_Mo_dropWatcher 127 = .ok (.iaload, 1) := by decide +kernel
theorem d_Mo_dropWatcher_128 : decode cb_Mo_dropWatcher 128 = .ok (.iastore, 1) := by decide +kernel
theorem d_Mo_dropWatcher_129 : decode cb_Mo_dropWatcher 129 = .ok (.aload_n 0, 1) := by decide +kernel
theorem d_Mo_dropWatcher_130 : decode cb_Mo_dropWatcher 130 = .ok (.getfield 45, 3) := by decide +kernel
theorem d_Mo_dropWatcher_133 : decode cb_Mo_dropWatcher 133 = .ok (.iconst 2, 1) := by decide +kernel
theorem d_Mo_dropWatcher_134 : decode cb_Mo_dropWatcher 134 = .ok (.aload_n 0, 1) := by decide +kernel
theorem d_Mo_dropWatcher_135 : decode cb_Mo_dropWatcher 135 = .ok (.getfield 45, 3) := by decide +kernel
theorem d_Mo_dropWatcher_138 : decode cb_Mo_dropWatcher 138 = .ok (.iconst 3, 1) := by decide +kernel
theorem d_Mo_dropWatcher_139 : decode cb_Mo_dropWatcher 139 = .ok (.iaload, 1) := by decide +kernel
theorem d_Mo_dropWatcher_140 : decode cb_Mo_dropWatcher 140 = .ok (.iastore, 1) := by decide +kernel
theorem d_Mo_dropWatcher_141 : decode cb_Mo_dropWatcher 141 = .ok (.iconst 0, 1) := by decide +kernel
theorem d_Mo_dropWatcher_142 : decode cb_Mo_dropWatcher 142 = .ok (.istore_n 2, 1) := by decide +kernel
theorem d_Mo_dropWatcher_143 : decode cb_Mo_dropWatcher 143 = .ok (.iload_n 2, 1) := by decide +kernel
theorem d_Mo_dropWatcher_144 : decode cb_Mo_dropWatcher 144 = .ok (.bipush 64, 2) := by decide +kernel
theorem d_Mo_dropWatcher_146 : decode cb_Mo_dropWatcher 146 = .ok (.if_icmp .ge 29, 3) := by decide +kernel
theorem d_Mo_dropWatcher_149 : decode cb_Mo_dropWatcher 149 = .ok (.aload_n 0, 1) := by decide +kernel
theorem d_Mo_dropWatcher_150 : decode cb_Mo_dropWatcher 150 = .ok (.getfield 42, 3) := by decide +kernel
theorem d_Mo_dropWatcher_153 : decode cb_Mo_dropWatcher 153 = .ok (.sipush 128, 3) := by decide +kernel
theorem d_Mo_dropWatcher_156 : decode cb_Mo_dropWatcher 156 = .ok (.iload_n 2, 1) := by decide +kernel
theorem d_Mo_dropWatcher_157 : decode cb_Mo_dropWatcher 157 = .ok (.iadd, 1) := by decide +kernel
theorem d_Mo_dropWatcher_158 : decode cb_Mo_dropWatcher 158 = .ok (.aload_n 0, 1) := by decide +kernel
theorem d_Mo_dropWatcher_159 : decode cb_Mo_dropWatcher 159 = .ok (.getfield 42, 3) := by decide +kernel
theorem d_Mo_dropWatcher_162 : decode cb_Mo_dropWatcher 162 = .ok (.sipush 192, 3) := by decide +kernel
theorem d_Mo_dropWatcher_165 : decode cb_Mo_dropWatcher 165 = .ok (.iload_n 2, 1) := by decide +kernel
theorem d_Mo_dropWatcher_166 : decode cb_Mo_dropWatcher 166 = .ok (.iadd, 1) := by decide +kernel
theorem d_Mo_dropWatcher_167 : decode cb_Mo_dropWatcher 167 = .ok (.iaload, 1) := by decide +kernel
theorem d_Mo_dropWatcher_168 : decode cb_Mo_dropWatcher 168 = .ok (.iastore, 1) := by decide +kernel
theorem d_Mo_dropWatcher_169 : decode cb_Mo_dropWatcher 169 = .ok (.iinc 2 1, 3) := by decide +kernel
theorem d_Mo_dropWatcher_172 : decode cb_Mo_dropWatcher 172 = .ok (.goto (-29), 3) := by decide +kernel
theorem d_Mo_dropWatcher_175 : decode cb_Mo_dropWatcher 175 = .ok (.aload_n 0, 1) := by decide +kernel
theorem d_Mo_dropWatcher_176 : decode cb_Mo_dropWatcher 176 = .ok (.getfield 26, 3) := by decide +kernel
theorem d_Mo_dropWatcher_179 : decode cb_Mo_dropWatcher 179 = .ok (.iconst 3, 1) := by decide +kernel
theorem d_Mo_dropWatcher_180 : decode cb_Mo_dropWatcher 180 = .ok (.iconst 0, 1) := by decide +kernel
theorem d_Mo_dropWatcher_181 : decode cb_Mo_dropWatcher 181 = .ok (.bastore, 1) := by decide +kernel
theorem d_Mo_dropWatcher_182 : decode cb_Mo_dropWatcher 182 = .ok (.aload_n 0, 1) := by decide +kernel
theorem d_Mo_dropWatcher_183 : decode cb_Mo_dropWatcher 183 = .ok (.dup, 1) := by decide +kernel
theorem d_Mo_dropWatcher_184 : decode cb_Mo_dropWatcher 184 = .ok (.getfield 242, 3) := by decide +kernel
theorem d_Mo_dropWatcher_187 : decode cb_Mo_dropWatcher 187 = .ok (.iconst 1, 1) := by decide +kernel
theorem d_Mo_dropWatcher_188 : decode cb_Mo_dropWatcher 188 = .ok (.isub, 1) := by decide +kernel
theorem d_Mo_dropWatcher_189 : decode cb_Mo_dropWatcher 189 = .ok (.putfield 242, 3) := by decide +kernel
theorem d_Mo_dropWatcher_192 : decode cb_Mo_dropWatcher 192 = .ok (.return_, 1) := by decide +kernel
theorem d_Mo_watcherOf_0 : decode cb_Mo_watcherOf 0 = .ok (.iconst 0, 1) := by decide +kernel
theorem d_Mo_watcherOf_1 : decode cb_Mo_watcherOf 1 = .ok (.istore_n 2, 1) := by decide +kernel
theorem d_Mo_watcherOf_2 : decode cb_Mo_watcherOf 2 = .ok (.iload_n 2, 1) := by decide +kernel
theorem d_Mo_watcherOf_3 : decode cb_Mo_watcherOf 3 = .ok (.aload_n 0, 1) := by decide +kernel
theorem d_Mo_watcherOf_4 : decode cb_Mo_watcherOf 4 = .ok (.getfield 242, 3) := by decide +kernel
theorem d_Mo_watcherOf_7 : decode cb_Mo_watcherOf 7 = .ok (.if_icmp .ge 21, 3) := by decide +kernel
theorem d_Mo_watcherOf_10 : decode cb_Mo_watcherOf 10 = .ok (.aload_n 0, 1) := by decide +kernel
theorem d_Mo_watcherOf_11 : decode cb_Mo_watcherOf 11 = .ok (.getfield 102, 3) := by decide +kernel
theorem d_Mo_watcherOf_14 : decode cb_Mo_watcherOf 14 = .ok (.iload_n 2, 1) := by decide +kernel
theorem d_Mo_watcherOf_15 : decode cb_Mo_watcherOf 15 = .ok (.iaload, 1) := by decide +kernel
theorem d_Mo_watcherOf_16 : decode cb_Mo_watcherOf 16 = .ok (.iload_n 1, 1) := by decide +kernel
theorem d_Mo_watcherOf_17 : decode cb_Mo_watcherOf 17 = .ok (.if_icmp .ne 5, 3) := by decide +kernel
theorem d_Mo_watcherOf_20 : decode cb_Mo_watcherOf 20 = .ok (.iload_n 2, 1) := by decide +kernel
theorem d_Mo_watcherOf_21 : decode cb_Mo_watcherOf 21 = .ok (.ireturn, 1) := by decide +kernel
theorem d_Mo_watcherOf_22 : decode cb_Mo_watcherOf 22 = .ok (.iinc 2 1, 3) := by decide +kernel
theorem d_Mo_watcherOf_25 : decode cb_Mo_watcherOf 25 = .ok (.goto (-23), 3) := by decide +kernel
theorem d_Mo_watcherOf_28 : decode cb_Mo_watcherOf 28 = .ok (.iconst (-1), 1) := by decide +kernel
theorem d_Mo_watcherOf_29 : decode cb_Mo_watcherOf 29 = .ok (.ireturn, 1) := by decide +kernel
theorem d_Mo_writeContent_0 : decode cb_Mo_writeContent 0 = .ok (.aload_n 0, 1) := by decide +kernel
theorem d_Mo_writeContent_1 : decode cb_Mo_writeContent 1 = .ok (.getfield 93, 3) := by decide +kernel
theorem d_Mo_writeContent_4 : decode cb_Mo_writeContent 4 = .ok (.iload_n 1, 1) := by decide +kernel
theorem d_Mo_writeContent_5 : decode cb_Mo_writeContent 5 = .ok (.iaload, 1) := by decide +kernel
theorem d_Mo_writeContent_6 : decode cb_Mo_writeContent 6 = .ok (.iload_n 2, 1) := by decide +kernel
theorem d_Mo_writeContent_7 : decode cb_Mo_writeContent 7 = .ok (.iload_n 3, 1) := by decide +kernel
theorem d_Mo_writeContent_8 : decode cb_Mo_writeContent 8 = .ok (.invokestatic 219, 3) := by decide +kernel
theorem d_Mo_writeContent_11 : decode cb_Mo_writeContent 11 = .ok (.istore 4, 2) := by decide +kernel
theorem d_Mo_writeContent_13 : decode cb_Mo_writeContent 13 = .ok (.iload 4, 2) := by decide +kernel
theorem d_Mo_writeContent_15 : decode cb_Mo_writeContent 15 = .ok (.ifCond .le 10, 3) := by decide +kernel
theorem d_Mo_writeContent_18 : decode cb_Mo_writeContent 18 = .ok (.aload_n 0, 1) := by decide +kernel
theorem d_Mo_writeContent_19 : decode cb_Mo_writeContent 19 = .ok (.sipush 255, 3) := by decide +kernel
theorem d_Mo_writeContent_22 : decode cb_Mo_writeContent 22 = .ok (.invokevirtual 144, 3) := by decide +kernel
theorem d_Mo_writeContent_25 : decode cb_Mo_writeContent 25 = .ok (.iconst 0, 1) := by decide +kernel
theorem d_Mo_writeContent_26 : decode cb_Mo_writeContent 26 = .ok (.istore 5, 2) := by decide +kernel
theorem d_Mo_writeContent_28 : decode cb_Mo_writeContent 28 = .ok (.iload 5, 2) := by decide +kernel
theorem d_Mo_writeContent_30 : decode cb_Mo_writeContent 30 = .ok (.iload 4, 2) := by decide +kernel
theorem d_Mo_writeContent_32 : decode cb_Mo_writeContent 32 = .ok (.if_icmp .ge 32, 3) := by decide +kernel
theorem d_Mo_writeContent_35 : decode cb_Mo_writeContent 35 = .ok (.aload_n 0, 1) := by decide +kernel
theorem d_Mo_writeContent_36 : decode cb_Mo_writeContent 36 = .ok (.aload_n 0, 1) := by decide +kernel
theorem d_Mo_writeContent_37 : decode cb_Mo_writeContent 37 = .ok (.getfield 90, 3) := by decide +kernel
theorem d_Mo_writeContent_40 : decode cb_Mo_writeContent 40 = .ok (.bipush 64, 2) := by decide +kernel
theorem d_Mo_writeContent_42 : decode cb_Mo_writeContent 42 = .ok (.iload_n 1, 1) := by decide +kernel
theorem d_Mo_writeContent_43 : decode cb_Mo_writeContent 43 = .ok (.imul, 1) := by decide +kernel
theorem d_Mo_writeContent_44 : decode cb_Mo_writeContent 44 = .ok (.iload_n 2, 1) := by decide +kernel
theorem d_Mo_writeContent_45 : decode cb_Mo_writeContent 45 = .ok (.iload_n 3, 1) := by decide +kernel
theorem d_Mo_writeContent_46 : decode cb_Mo_writeContent 46 = .ok (.invokestatic 152, 3) := by decide +kernel
theorem d_Mo_writeContent_49 : decode cb_Mo_writeContent 49 = .ok (.imul, 1) := by decide +kernel
theorem d_Mo_writeContent_50 : decode cb_Mo_writeContent 50 = .ok (.iadd, 1) := by decide +kernel
theorem d_Mo_writeContent_51 : decode cb_Mo_writeContent 51 = .ok (.iload 5, 2) := by decide +kernel
theorem d_Mo_writeContent_53 : decode cb_Mo_writeContent 53 = .ok (.iadd, 1) := by decide +kernel
theorem d_Mo_writeContent_54 : decode cb_Mo_writeContent 54 = .ok (.iaload, 1) := by decide +kernel
theorem d_Mo_writeContent_55 : decode cb_Mo_writeContent 55 = .ok (.invokevirtual 144, 3) := by decide +kernel
theorem d_Mo_writeContent_58 : decode cb_Mo_writeContent 58 = .ok (.iinc 5 1, 3) := by decide +kernel
theorem d_Mo_writeContent_61 : decode cb_Mo_writeContent 61 = .ok (.goto (-33), 3) := by decide +kernel
theorem d_Mo_writeContent_64 : decode cb_Mo_writeContent 64 = .ok (.return_, 1) := by decide +kernel
theorem d_Mo_tell_0 : decode cb_Mo_tell 0 = .ok (.aload_n 0, 1) := by decide +kernel
theorem d_Mo_tell_1 : decode cb_Mo_tell 1 = .ok (.getfield 26, 3) := by decide +kernel
theorem d_Mo_tell_4 : decode cb_Mo_tell 4 = .ok (.iconst 2, 1) := by decide +kernel
theorem d_Mo_tell_5 : decode cb_Mo_tell 5 = .ok (.iload_n 1, 1) := by decide +kernel
theorem d_Mo_tell_6 : decode cb_Mo_tell 6 = .ok (.iadd, 1) := by decide +kernel
theorem d_Mo_tell_7 : decode cb_Mo_tell 7 = .ok (.baload, 1) := by decide +kernel
theorem d_Mo_tell_8 : decode cb_Mo_tell 8 = .ok (.ifCond .eq 11, 3) := by decide +kernel
theorem d_Mo_tell_11 : decode cb_Mo_tell 11 = .ok (.aload_n 0, 1) := by decide +kernel
theorem d_Mo_tell_12 : decode cb_Mo_tell 12 = .ok (.getfield 111, 3) := by decide +kernel
theorem d_Mo_tell_15 : decode cb_Mo_tell 15 = .ok (.iload_n 1, 1) := by decide +kernel
theorem d_Mo_tell_16 : decode cb_Mo_tell 16 = .ok (.iconst 1, 1) := by decide +kernel
theorem d_Mo_tell_17 : decode cb_Mo_tell 17 = .ok (.bastore, 1) := by decide +kernel
theorem d_Mo_tell_18 : decode cb_Mo_tell 18 = .ok (.return_, 1) := by decide +kernel
theorem d_Mo_tell_19 : decode cb_Mo_tell 19 = .ok (.aload_n 0, 1) := by decide +kernel
theorem d_Mo_tell_20 : decode cb_Mo_tell 20 = .ok (.getfield 111, 3) := by decide +kernel
theorem d_Mo_tell_23 : decode cb_Mo_tell 23 = .ok (.iload_n 1, 1) := by decide +kernel
theorem d_Mo_tell_24 : decode cb_Mo_tell 24 = .ok (.iconst 0, 1) := by decide +kernel
theorem d_Mo_tell_25 : decode cb_Mo_tell 25 = .ok (.bastore, 1) := by decide +kernel
theorem d_Mo_tell_26 : decode cb_Mo_tell 26 = .ok (.aload_n 0, 1) := by decide +kernel
theorem d_Mo_tell_27 : decode cb_Mo_tell 27 = .ok (.aload_n 0, 1) := by decide +kernel
theorem d_Mo_tell_28 : decode cb_Mo_tell 28 = .ok (.getfield 245, 3) := by decide +kernel
theorem d_Mo_tell_31 : decode cb_Mo_tell 31 = .ok (.iconst 1, 1) := by decide +kernel
theorem d_Mo_tell_32 : decode cb_Mo_tell 32 = .ok (.iadd, 1) := by decide +kernel
theorem d_Mo_tell_33 : decode cb_Mo_tell 33 = .ok (.ldc 225, 2) := by decide +kernel
theorem d_Mo_tell_35 : decode cb_Mo_tell 35 = .ok (.irem, 1) := by decide +kernel
theorem d_Mo_tell_36 : decode cb_Mo_tell 36 = .ok (.putfield 245, 3) := by decide +kernel
theorem d_Mo_tell_39 : decode cb_Mo_tell 39 = .ok (.aload_n 0, 1) := by decide +kernel
theorem d_Mo_tell_40 : decode cb_Mo_tell 40 = .ok (.getfield 105, 3) := by decide +kernel
theorem d_Mo_tell_43 : decode cb_Mo_tell 43 = .ok (.iload_n 1, 1) := by decide +kernel
theorem d_Mo_tell_44 : decode cb_Mo_tell 44 = .ok (.iaload, 1) := by decide +kernel
theorem d_Mo_tell_45 : decode cb_Mo_tell 45 = .ok (.istore_n 2, 1) := by decide +kernel
theorem d_Mo_tell_46 : decode cb_Mo_tell 46 = .ok (.aload_n 0, 1) := by decide +kernel
theorem d_Mo_tell_47 : decode cb_Mo_tell 47 = .ok (.getfield 108, 3) := by decide +kernel
theorem d_Mo_tell_50 : decode cb_Mo_tell 50 = .ok (.iload_n 1, 1) := by decide +kernel
theorem d_Mo_tell_51 : decode cb_Mo_tell 51 = .ok (.iaload, 1) := by decide +kernel
theorem d_Mo_tell_52 : decode cb_Mo_tell 52 = .ok (.istore_n 3, 1) := by decide +kernel
theorem d_Mo_tell_53 : decode cb_Mo_tell 53 = .ok (.aload_n 0, 1) := by decide +kernel
theorem d_Mo_tell_54 : decode cb_Mo_tell 54 = .ok (.iconst 0, 1) := by decide +kernel
theorem d_Mo_tell_55 : decode cb_Mo_tell 55 = .ok (.bipush 69, 2) := by decide +kernel
theorem d_Mo_tell_57 : decode cb_Mo_tell 57 = .ok (.aload_n 0, 1) := by decide +kernel
theorem d_Mo_tell_58 : decode cb_Mo_tell 58 = .ok (.getfield 23, 3) := by decide +kernel
theorem d_Mo_tell_61 : decode cb_Mo_tell 61 = .ok (.invokevirtual 162, 3) := by decide +kernel
theorem d_Mo_tell_64 : decode cb_Mo_tell 64 = .ok (.aload_n 0, 1) := by decide +kernel
theorem d_Mo_tell_65 : decode cb_Mo_tell 65 = .ok (.aload_n 0, 1) := by decide +kernel
theorem d_Mo_tell_66 : decode cb_Mo_tell 66 = .ok (.getfield 102, 3) := by decide +kernel
theorem d_Mo_tell_69 : decode cb_Mo_tell 69 = .ok (.iload_n 1, 1) := by decide +kernel
theorem d_Mo_tell_70 : decode cb_Mo_tell 70 = .ok (.iaload, 1) := by decide +kernel
theorem d_Mo_tell_71 : decode cb_Mo_tell 71 = .ok (.invokevirtual 144, 3) := by decide +kernel
theorem d_Mo_tell_74 : decode cb_Mo_tell 74 = .ok (.aload_n 0, 1) := by decide +kernel
theorem d_Mo_tell_75 : decode cb_Mo_tell 75 = .ok (.bipush 6, 2) := by decide +kernel
theorem d_Mo_tell_77 : decode cb_Mo_tell 77 = .ok (.aload_n 0, 1) := by decide +kernel
theorem d_Mo_tell_78 : decode cb_Mo_tell 78 = .ok (.getfield 245, 3) := by decide +kernel
theorem d_Mo_tell_81 : decode cb_Mo_tell 81 = .ok (.invokevirtual 209, 3) := by decide +kernel
theorem d_Mo_tell_84 : decode cb_Mo_tell 84 = .ok (.aload_n 0, 1) := by decide +kernel
theorem d_Mo_tell_85 : decode cb_Mo_tell 85 = .ok (.bipush 23, 2) := by decide +kernel
theorem d_Mo_tell_87 : decode cb_Mo_tell 87 = .ok (.bipush 8, 2) := by decide +kernel
theorem d_Mo_tell_89 : decode cb_Mo_tell 89 = .ok (.aload_n 0, 1) := by decide +kernel
theorem d_Mo_tell_90 : decode cb_Mo_tell 90 = .ok (.getfield 93, 3) := by decide +kernel
theorem d_Mo_tell_93 : decode cb_Mo_tell 93 = .ok (.iload_n 2, 1) := by decide +kernel
theorem d_Mo_tell_94 : decode cb_Mo_tell 94 = .ok (.iaload, 1) := by decide +kernel
theorem d_Mo_tell_95 : decode cb_Mo_tell 95 = .ok (.iconst 0, 1) := by decide +kernel
theorem d_Mo_tell_96 : decode cb_Mo_tell 96 = .ok (.iload_n 3, 1) := by decide +kernel
theorem d_Mo_tell_97 : decode cb_Mo_tell 97 = .ok (.invokestatic 215, 3) := by decide +kernel
theorem d_Mo_tell_100 : decode cb_Mo_tell 100 = .ok (.imul, 1) := by decide +kernel
theorem d_Mo_tell_101 : decode cb_Mo_tell 101 = .ok (.iload_n 3, 1) := by decide +kernel
theorem d_Mo_tell_102 : decode cb_Mo_tell 102 = .ok (.iadd, 1) := by decide +kernel
theorem d_Mo_tell_103 : decode cb_Mo_tell 103 = .ok (.invokevirtual 209, 3) := by decide +kernel
theorem d_Mo_tell_106 : decode cb_Mo_tell 106 = .ok (.aload_n 0, 1) := by decide +kernel
theorem d_Mo_tell_107 : decode cb_Mo_tell 107 = .ok (.iload_n 2, 1) := by decide +kernel
theorem d_Mo_tell_108 : decode cb_Mo_tell 108 = .ok (.iconst 0, 1) := by decide +kernel
theorem d_Mo_tell_109 : decode cb_Mo_tell 109 = .ok (.iload_n 3, 1) := by decide +kernel
theorem d_Mo_tell_110 : decode cb_Mo_tell 110 = .ok (.invokevirtual 248, 3) := by decide +kernel
theorem d_Mo_tell_113 : decode cb_Mo_tell 113 = .ok (.aload_n 0, 1) := by decide +kernel
theorem d_Mo_tell_114 : decode cb_Mo_tell 114 = .ok (.iconst 2, 1) := by decide +kernel
theorem d_Mo_tell_115 : decode cb_Mo_tell 115 = .ok (.iload_n 1, 1) := by decide +kernel
theorem d_Mo_tell_116 : decode cb_Mo_tell 116 = .ok (.iadd, 1) := by decide +kernel
theorem d_Mo_tell_117 : decode cb_Mo_tell 117 = .ok (.aload_n 0, 1) := by decide +kernel
theorem d_Mo_tell_118 : decode cb_Mo_tell 118 = .ok (.getfield 23, 3) := by decide +kernel
theorem d_Mo_tell_121 : decode cb_Mo_tell 121 = .ok (.invokevirtual 222, 3) := by decide +kernel
theorem d_Mo_tell_124 : decode cb_Mo_tell 124 = .ok (.aload_n 0, 1) := by decide +kernel
theorem d_Mo_tell_125 : decode cb_Mo_tell 125 = .ok (.aload_n 0, 1) := by decide +kernel
theorem d_Mo_tell_126 : decode cb_Mo_tell 126 = .ok (.getfield 23, 3) := by decide +kernel
theorem d_Mo_tell_129 : decode cb_Mo_tell 129 = .ok (.iconst 1, 1) := by decide +kernel
theorem d_Mo_tell_130 : decode cb_Mo_tell 130 = .ok (.iadd, 1) := by decide +kernel
theorem d_Mo_tell_131 : decode cb_Mo_tell 131 = .ok (.ldc 225, 2) := by decide +kernel
theorem d_Mo_tell_133 : decode cb_Mo_tell 133 = .ok (.irem, 1) := by decide +kernel
theorem d_Mo_tell_134 : decode cb_Mo_tell 134 = .ok (.putfield 23, 3) := by decide +kernel
theorem d_Mo_tell_137 : decode cb_Mo_tell 137 = .ok (.aload_n 0, 1) := by decide +kernel
theorem d_Mo_tell_138 : decode cb_Mo_tell 138 = .ok (.iconst 0, 1) := by decide +kernel
theorem d_Mo_tell_139 : decode cb_Mo_tell 139 = .ok (.invokevirtual 159, 3) := by decide +kernel
theorem d_Mo_tell_142 : decode cb_Mo_tell 142 = .ok (.return_, 1) := by decide +kernel

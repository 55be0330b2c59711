theorem d_By_fill_0 : decode cb_By_fill 0 = .ok (.aload_n 0, 1) := by decide +kernel
theorem d_By_fill_1 : decode cb_By_fill 1 = .ok (.invokevirtual 35, 3) := by decide +kernel
theorem d_By_fill_4 : decode cb_By_fill 4 = .ok (.iconst 0, 1) := by decide +kernel
theorem d_By_fill_5 : decode cb_By_fill 5 = .ok (.istore_n 3, 1) := by decide +kernel
theorem d_By_fill_6 : decode cb_By_fill 6 = .ok (.iload_n 3, 1) := by decide +kernel
theorem d_By_fill_7 : decode cb_By_fill 7 = .ok (.iload_n 1, 1) := by decide +kernel
theorem d_By_fill_8 : decode cb_By_fill 8 = .ok (.if_icmp .ge 18, 3) := by decide +kernel
theorem d_By_fill_11 : decode cb_By_fill 11 = .ok (.aload_n 0, 1) := by decide +kernel
theorem d_By_fill_12 : decode cb_By_fill 12 = .ok (.iload_n 2, 1) := by decide +kernel
theorem d_By_fill_13 : decode cb_By_fill 13 = .ok (.iconst 5, 1) := by decide +kernel
theorem d_By_fill_14 : decode cb_By_fill 14 = .ok (.iload_n 3, 1) := by decide +kernel
theorem d_By_fill_15 : decode cb_By_fill 15 = .ok (.imul, 1) := by decide +kernel
theorem d_By_fill_16 : decode cb_By_fill 16 = .ok (.iadd, 1) := by decide +kernel
theorem d_By_fill_17 : decode cb_By_fill 17 = .ok (.invokevirtual 38, 3) := by decide +kernel
theorem d_By_fill_20 : decode cb_By_fill 20 = .ok (.iinc 3 1, 3) := by decide +kernel
theorem d_By_fill_23 : decode cb_By_fill 23 = .ok (.goto (-17), 3) := by decide +kernel
theorem d_By_fill_26 : decode cb_By_fill 26 = .ok (.return_, 1) := by decide +kernel
theorem d_Ob_put_0 : decode cb_Ob_put 0 = .ok (.iload_n 1, 1) := by decide +kernel
theorem d_Ob_put_1 : decode cb_Ob_put 1 = .ok (.iload_n 2, 1) := by decide +kernel
theorem d_Ob_put_2 : decode cb_Ob_put 2 = .ok (.iload_n 3, 1) := by decide +kernel
theorem d_Ob_put_3 : decode cb_Ob_put 3 = .ok (.invokestatic 43, 3) := by decide +kernel
theorem d_Ob_put_6 : decode cb_Ob_put 6 = .ok (.ifCond .eq 13, 3) := by decide +kernel
theorem d_Ob_put_9 : decode cb_Ob_put 9 = .ok (.iload 4, 2) := by decide +kernel
theorem d_Ob_put_11 : decode cb_Ob_put 11 = .ok (.bipush 80, 2) := by decide +kernel
theorem d_Ob_put_13 : decode cb_Ob_put 13 = .ok (.invokestatic 67, 3) := by decide +kernel
theorem d_Ob_put_16 : decode cb_Ob_put 16 = .ok (.ifCond .ne 5, 3) := by decide +kernel
theorem d_Ob_put_19 : decode cb_Ob_put 19 = .ok (.iconst (-1), 1) := by decide +kernel
theorem d_Ob_put_20 : decode cb_Ob_put 20 = .ok (.ireturn, 1) := by decide +kernel
theorem d_Ob_put_21 : decode cb_Ob_put 21 = .ok (.aload_n 0, 1) := by decide +kernel
theorem d_Ob_put_22 : decode cb_Ob_put 22 = .ok (.getfield 21, 3) := by decide +kernel
theorem d_Ob_put_25 : decode cb_Ob_put 25 = .ok (.getfield 47, 3) := by decide +kernel
theorem d_Ob_put_28 : decode cb_Ob_put 28 = .ok (.iload_n 1, 1) := by decide +kernel
theorem d_Ob_put_29 : decode cb_Ob_put 29 = .ok (.aaload, 1) := by decide +kernel
theorem d_Ob_put_30 : decode cb_Ob_put 30 = .ok (.astore 6, 2) := by decide +kernel
theorem d_Ob_put_32 : decode cb_Ob_put 32 = .ok (.aload 6, 2) := by decide +kernel
theorem d_Ob_put_34 : decode cb_Ob_put 34 = .ok (.getfield 51, 3) := by decide +kernel
theorem d_Ob_put_37 : decode cb_Ob_put 37 = .ok (.ifCond .eq 6, 3) := by decide +kernel
theorem d_Ob_put_40 : decode cb_Ob_put 40 = .ok (.bipush (-2), 2) := by decide +kernel
theorem d_Ob_put_42 : decode cb_Ob_put 42 = .ok (.ireturn, 1) := by decide +kernel
theorem d_Ob_put_43 : decode cb_Ob_put 43 = .ok (.aload 6, 2) := by decide +kernel
theorem d_Ob_put_45 : decode cb_Ob_put 45 = .ok (.iload_n 2, 1) := by decide +kernel
theorem d_Ob_put_46 : decode cb_Ob_put 46 = .ok (.iload_n 3, 1) := by decide +kernel
theorem d_Ob_put_47 : decode cb_Ob_put 47 = .ok (.iconst 1, 1) := by decide +kernel
theorem d_Ob_put_48 : decode cb_Ob_put 48 = .ok (.iconst 0, 1) := by decide +kernel
theorem d_Ob_put_49 : decode cb_Ob_put 49 = .ok (.invokevirtual 56, 3) := by decide +kernel
theorem d_Ob_put_52 : decode cb_Ob_put 52 = .ok (.aload 6, 2) := by decide +kernel
theorem d_Ob_put_54 : decode cb_Ob_put 54 = .ok (.getfield 71, 3) := by decide +kernel
theorem d_Ob_put_57 : decode cb_Ob_put 57 = .ok (.iload 4, 2) := by decide +kernel
theorem d_Ob_put_59 : decode cb_Ob_put 59 = .ok (.iload 5, 2) := by decide +kernel
theorem d_Ob_put_61 : decode cb_Ob_put 61 = .ok (.invokevirtual 75, 3) := by decide +kernel
theorem d_Ob_put_64 : decode cb_Ob_put 64 = .ok (.aload_n 0, 1) := by decide +kernel
theorem d_Ob_put_65 : decode cb_Ob_put 65 = .ok (.getfield 21, 3) := by decide +kernel
theorem d_Ob_put_68 : decode cb_Ob_put 68 = .ok (.aload 6, 2) := by decide +kernel
theorem d_Ob_put_70 : decode cb_Ob_put 70 = .ok (.invokevirtual 60, 3) := by decide +kernel
theorem d_Ob_put_73 : decode cb_Ob_put 73 = .ok (.aload 6, 2) := by decide +kernel
theorem d_Ob_put_75 : decode cb_Ob_put 75 = .ok (.getfield 64, 3) := by decide +kernel
theorem d_Ob_put_78 : decode cb_Ob_put 78 = .ok (.ireturn, 1) := by decide +kernel
theorem d_Pe_stop_0 : decode cb_Pe_stop 0 = .ok (.aload_n 0, 1) := by decide +kernel
theorem d_Pe_stop_1 : decode cb_Pe_stop 1 = .ok (.iconst 0, 1) := by decide +kernel
theorem d_Pe_stop_2 : decode cb_Pe_stop 2 = .ok (.putfield 20, 3) := by decide +kernel
theorem d_Pe_stop_5 : decode cb_Pe_stop 5 = .ok (.return_, 1) := by decide +kernel
theorem d_Sl_end_0 : decode cb_Sl_end 0 = .ok (.aload_n 0, 1) := by decide +kernel
theorem d_Sl_end_1 : decode cb_Sl_end 1 = .ok (.getfield 23, 3) := by decide +kernel
theorem d_Sl_end_4 : decode cb_Sl_end 4 = .ok (.invokevirtual 68, 3) := by decide +kernel
theorem d_Sl_end_7 : decode cb_Sl_end 7 = .ok (.aload_n 0, 1) := by decide +kernel
theorem d_Sl_end_8 : decode cb_Sl_end 8 = .ok (.iconst 0, 1) := by decide +kernel
theorem d_Sl_end_9 : decode cb_Sl_end 9 = .ok (.putfield 34, 3) := by decide +kernel
theorem d_Sl_end_12 : decode cb_Sl_end 12 = .ok (.return_, 1) := by decide +kernel
theorem d_Ob_free_0 : decode cb_Ob_free 0 = .ok (.iload_n 1, 1) := by decide +kernel
theorem d_Ob_free_1 : decode cb_Ob_free 1 = .ok (.iconst 1, 1) := by decide +kernel
theorem d_Ob_free_2 : decode cb_Ob_free 2 = .ok (.invokestatic 67, 3) := by decide +kernel
theorem d_Ob_free_5 : decode cb_Ob_free 5 = .ok (.ifCond .ne 5, 3) := by decide +kernel
theorem d_Ob_free_8 : decode cb_Ob_free 8 = .ok (.iconst (-1), 1) := by decide +kernel
theorem d_Ob_free_9 : decode cb_Ob_free 9 = .ok (.ireturn, 1) := by decide +kernel
theorem d_Ob_free_10 : decode cb_Ob_free 10 = .ok (.aload_n 0, 1) := by decide +kernel
theorem d_Ob_free_11 : decode cb_Ob_free 11 = .ok (.getfield 21, 3) := by decide +kernel
theorem d_Ob_free_14 : decode cb_Ob_free 14 = .ok (.getfield 47, 3) := by decide +kernel
theorem d_Ob_free_17 : decode cb_Ob_free 17 = .ok (.iload_n 1, 1) := by decide +kernel
theorem d_Ob_free_18 : decode cb_Ob_free 18 = .ok (.aaload, 1) := by decide +kernel
theorem d_Ob_free_19 : decode cb_Ob_free 19 = .ok (.getfield 51, 3) := by decide +kernel
theorem d_Ob_free_22 : decode cb_Ob_free 22 = .ok (.ifCond .ne 6, 3) := by decide +kernel
theorem d_Ob_free_25 : decode cb_Ob_free 25 = .ok (.bipush (-2), 2) := by decide +kernel
theorem d_Ob_free_27 : decode cb_Ob_free 27 = .ok (.ireturn, 1) := by decide +kernel
theorem d_Ob_free_28 : decode cb_Ob_free 28 = .ok (.aload_n 0, 1) := by decide +kernel
theorem d_Ob_free_29 : decode cb_Ob_free 29 = .ok (.getfield 21, 3) := by decide +kernel
theorem d_Ob_free_32 : decode cb_Ob_free 32 = .ok (.getfield 47, 3) := by decide +kernel
theorem d_Ob_free_35 : decode cb_Ob_free 35 = .ok (.iload_n 1, 1) := by decide +kernel
theorem d_Ob_free_36 : decode cb_Ob_free 36 = .ok (.aaload, 1) := by decide +kernel
theorem d_Ob_free_37 : decode cb_Ob_free 37 = .ok (.invokevirtual 81, 3) := by decide +kernel
theorem d_Ob_free_40 : decode cb_Ob_free 40 = .ok (.iconst 0, 1) := by decide +kernel
theorem d_Ob_free_41 : decode cb_Ob_free 41 = .ok (.ireturn, 1) := by decide +kernel
theorem d_Pe_isActive_0 : decode cb_Pe_isActive 0 = .ok (.aload_n 0, 1) := by decide +kernel
theorem d_Pe_isActive_1 : decode cb_Pe_isActive 1 = .ok (.getfield 20, 3) := by decide +kernel
theorem d_Pe_isActive_4 : decode cb_Pe_isActive 4 = .ok (.ireturn, 1) := by decide +kernel
theorem d_Se_blockIn_0 : decode cb_Se_blockIn 0 = .ok (.aload_n 0, 1) := by decide +kernel
theorem d_Se_blockIn_1 : decode cb_Se_blockIn 1 = .ok (.getfield 11, 3) := by decide +kernel
theorem d_Se_blockIn_4 : decode cb_Se_blockIn 4 = .ok (.iload_n 1, 1) := by decide +kernel
theorem d_Se_blockIn_5 : decode cb_Se_blockIn 5 = .ok (.aaload, 1) := by decide +kernel
theorem d_Se_blockIn_6 : decode cb_Se_blockIn 6 = .ok (.getfield 52, 3) := by decide +kernel
theorem d_Se_blockIn_9 : decode cb_Se_blockIn 9 = .ok (.iload_n 2, 1) := by decide +kernel
theorem d_Se_blockIn_10 : decode cb_Se_blockIn 10 = .ok (.iconst 1, 1) := by decide +kernel
theorem d_Se_blockIn_11 : decode cb_Se_blockIn 11 = .ok (.iadd, 1) := by decide +kernel
theorem d_Se_blockIn_12 : decode cb_Se_blockIn 12 = .ok (.iload_n 3, 1) := by decide +kernel
theorem d_Se_blockIn_13 : decode cb_Se_blockIn 13 = .ok (.invokestatic 133, 3) := by decide +kernel
theorem d_Se_blockIn_16 : decode cb_Se_blockIn 16 = .ok (.imul, 1) := by decide +kernel
theorem d_Se_blockIn_17 : decode cb_Se_blockIn 17 = .ok (.if_icmp .le 7, 3) := by decide +kernel
theorem d_Se_blockIn_20 : decode cb_Se_blockIn 20 = .ok (.iconst 1, 1) := by decide +kernel
theorem d_Se_blockIn_21 : decode cb_Se_blockIn 21 = .ok (.goto 4, 3) := by decide +kernel
theorem d_Se_blockIn_24 : decode cb_Se_blockIn 24 = .ok (.iconst 0, 1) := by decide +kernel
theorem d_Se_blockIn_25 : decode cb_Se_blockIn 25 = .ok (.istore 4, 2) := by decide +kernel
theorem d_Se_blockIn_27 : decode cb_Se_blockIn 27 = .ok (.iload_n 2, 1) := by decide +kernel
theorem d_Se_blockIn_28 : decode cb_Se_blockIn 28 = .ok (.iload 4, 2) := by decide +kernel
theorem d_Se_blockIn_30 : decode cb_Se_blockIn 30 = .ok (.iload_n 3, 1) := by decide +kernel
theorem d_Se_blockIn_31 : decode cb_Se_blockIn 31 = .ok (.invokestatic 179, 3) := by decide +kernel
theorem d_Se_blockIn_34 : decode cb_Se_blockIn 34 = .ok (.ireturn, 1) := by decide +kernel
theorem d_Se_tell_0 : decode cb_Se_tell 0 = .ok (.aload_n 1, 1) := by decide +kernel
theorem d_Se_tell_1 : decode cb_Se_tell 1 = .ok (.getfield 190, 3) := by decide +kernel
theorem d_Se_tell_4 : decode cb_Se_tell 4 = .ok (.invokevirtual 206, 3) := by decide +kernel
theorem d_Se_tell_7 : decode cb_Se_tell 7 = .ok (.ifCond .eq 9, 3) := by decide +kernel
theorem d_Se_tell_10 : decode cb_Se_tell 10 = .ok (.aload_n 1, 1) := by decide +kernel
theorem d_Se_tell_11 : decode cb_Se_tell 11 = .ok (.iconst 1, 1) := by decide +kernel
theorem d_Se_tell_12 : decode cb_Se_tell 12 = .ok (.putfield 210, 3) := by decide +kernel
theorem d_Se_tell_15 : decode cb_Se_tell 15 = .ok (.return_, 1) := by decide +kernel
theorem d_Se_tell_16 : decode cb_Se_tell 16 = .ok (.aload_n 1, 1) := by decide +kernel
theorem d_Se_tell_17 : decode cb_Se_tell 17 = .ok (.iconst 0, 1) := by decide +kernel
theorem d_Se_tell_18 : decode cb_Se_tell 18 = .ok (.putfield 210, 3) := by decide +kernel
theorem d_Se_tell_21 : decode cb_Se_tell 21 = .ok (.aload_n 0, 1) := by decide +kernel
theorem d_Se_tell_22 : decode cb_Se_tell 22 = .ok (.aload_n 0, 1) := by decide +kernel
theorem d_Se_tell_23 : decode cb_Se_tell 23 = .ok (.getfield 160, 3) := by decide +kernel
theorem d_Se_tell_26 : decode cb_Se_tell 26 = .ok (.invokestatic 163, 3) := by decide +kernel
theorem d_Se_tell_29 : decode cb_Se_tell 29 = .ok (.putfield 160, 3) := by decide +kernel
theorem d_Se_tell_32 : decode cb_Se_tell 32 = .ok (.aload_n 0, 1) := by decide +kernel
theorem d_Se_tell_33 : decode cb_Se_tell 33 = .ok (.getfield 44, 3) := by decide +kernel
theorem d_Se_tell_36 : decode cb_Se_tell 36 = .ok (.iconst 0, 1) := by decide +kernel
theorem d_Se_tell_37 : decode cb_Se_tell 37 = .ok (.bipush 69, 2) := by decide +kernel
theorem d_Se_tell_39 : decode cb_Se_tell 39 = .ok (.aload_n 0, 1) := by decide +kernel
theorem d_Se_tell_40 : decode cb_Se_tell 40 = .ok (.getfield 48, 3) := by decide +kernel
theorem d_Se_tell_43 : decode cb_Se_tell 43 = .ok (.aload_n 1, 1) := by decide +kernel
theorem d_Se_tell_44 : decode cb_Se_tell 44 = .ok (.getfield 186, 3) := by decide +kernel
theorem d_Se_tell_47 : decode cb_Se_tell 47 = .ok (.invokevirtual 90, 3) := by decide +kernel
theorem d_Se_tell_50 : decode cb_Se_tell 50 = .ok (.aload_n 0, 1) := by decide +kernel
theorem d_Se_tell_51 : decode cb_Se_tell 51 = .ok (.getfield 44, 3) := by decide +kernel
theorem d_Se_tell_54 : decode cb_Se_tell 54 = .ok (.bipush 6, 2) := by decide +kernel
theorem d_Se_tell_56 : decode cb_Se_tell 56 = .ok (.aload_n 0, 1) := by decide +kernel
theorem d_Se_tell_57 : decode cb_Se_tell 57 = .ok (.getfield 160, 3) := by decide +kernel
theorem d_Se_tell_60 : decode cb_Se_tell 60 = .ok (.invokevirtual 101, 3) := by decide +kernel
theorem d_Se_tell_63 : decode cb_Se_tell 63 = .ok (.aload_n 0, 1) := by decide +kernel
theorem d_Se_tell_64 : decode cb_Se_tell 64 = .ok (.getfield 44, 3) := by decide +kernel
theorem d_Se_tell_67 : decode cb_Se_tell 67 = .ok (.bipush 23, 2) := by decide +kernel
theorem d_Se_tell_69 : decode cb_Se_tell 69 = .ok (.aload_n 0, 1) := by decide +kernel
theorem d_Se_tell_70 : decode cb_Se_tell 70 = .ok (.aload_n 1, 1) := by decide +kernel
theorem d_Se_tell_71 : decode cb_Se_tell 71 = .ok (.getfield 199, 3) := by decide +kernel
theorem d_Se_tell_74 : decode cb_Se_tell 74 = .ok (.iconst 0, 1) := by decide +kernel
theorem d_Se_tell_75 : decode cb_Se_tell 75 = .ok (.aload_n 1, 1) := by decide +kernel
theorem d_Se_tell_76 : decode cb_Se_tell 76 = .ok (.getfield 214, 3) := by decide +kernel
theorem d_Se_tell_79 : decode cb_Se_tell 79 = .ok (.invokevirtual 172, 3) := by decide +kernel
theorem d_Se_tell_82 : decode cb_Se_tell 82 = .ok (.invokevirtual 101, 3) := by decide +kernel
theorem d_Se_tell_85 : decode cb_Se_tell 85 = .ok (.aload_n 0, 1) := by decide +kernel
theorem d_Se_tell_86 : decode cb_Se_tell 86 = .ok (.getfield 44, 3) := by decide +kernel
theorem d_Se_tell_89 : decode cb_Se_tell 89 = .ok (.aload_n 0, 1) := by decide +kernel
theorem d_Se_tell_90 : decode cb_Se_tell 90 = .ok (.getfield 11, 3) := by decide +kernel
theorem d_Se_tell_93 : decode cb_Se_tell 93 = .ok (.aload_n 1, 1) := by decide +kernel
theorem d_Se_tell_94 : decode cb_Se_tell 94 = .ok (.getfield 199, 3) := by decide +kernel
theorem d_Se_tell_97 : decode cb_Se_tell 97 = .ok (.aaload, 1) := by decide +kernel
theorem d_Se_tell_98 : decode cb_Se_tell 98 = .ok (.iconst 0, 1) := by decide +kernel
theorem d_Se_tell_99 : decode cb_Se_tell 99 = .ok (.aload_n 1, 1) := by decide +kernel
theorem d_Se_tell_100 : decode cb_Se_tell 100 = .ok (.getfield 214, 3) := by decide +kernel
theorem d_Se_tell_103 : decode cb_Se_tell 103 = .ok (.invokestatic 133, 3) := by decide +kernel
theorem d_Se_tell_106 : decode cb_Se_tell 106 = .ok (.invokevirtual 176, 3) := by decide +kernel
theorem d_Se_tell_109 : decode cb_Se_tell 109 = .ok (.aload_n 1, 1) := by decide +kernel
theorem d_Se_tell_110 : decode cb_Se_tell 110 = .ok (.getfield 190, 3) := by decide +kernel
theorem d_Se_tell_113 : decode cb_Se_tell 113 = .ok (.aload_n 0, 1) := by decide +kernel
theorem d_Se_tell_114 : decode cb_Se_tell 114 = .ok (.getfield 48, 3) := by decide +kernel
theorem d_Se_tell_117 : decode cb_Se_tell 117 = .ok (.aload_n 0, 1) := by decide +kernel
theorem d_Se_tell_118 : decode cb_Se_tell 118 = .ok (.getfield 44, 3) := by decide +kernel
theorem d_Se_tell_121 : decode cb_Se_tell 121 = .ok (.getfield 105, 3) := by decide +kernel
theorem d_Se_tell_124 : decode cb_Se_tell 124 = .ok (.invokevirtual 217, 3) := by decide +kernel
theorem d_Se_tell_127 : decode cb_Se_tell 127 = .ok (.aload_n 0, 1) := by decide +kernel
theorem d_Se_tell_128 : decode cb_Se_tell 128 = .ok (.aload_n 0, 1) := by decide +kernel
theorem d_Se_tell_129 : decode cb_Se_tell 129 = .ok (.getfield 48, 3) := by decide +kernel
theorem d_Se_tell_132 : decode cb_Se_tell 132 = .ok (.invokestatic 163, 3) := by decide +kernel
theorem d_Se_tell_135 : decode cb_Se_tell 135 = .ok (.putfield 48, 3) := by decide +kernel
theorem d_Se_tell_138 : decode cb_Se_tell 138 = .ok (.aload_n 0, 1) := by decide +kernel
theorem d_Se_tell_139 : decode cb_Se_tell 139 = .ok (.getfield 37, 3) := by decide +kernel
theorem d_Se_tell_142 : decode cb_Se_tell 142 = .ok (.aload_n 0, 1) := by decide +kernel
theorem d_Se_tell_143 : decode cb_Se_tell 143 = .ok (.getfield 44, 3) := by decide +kernel
theorem d_Se_tell_146 : decode cb_Se_tell 146 = .ok (.getfield 105, 3) := by decide +kernel
theorem d_Se_tell_149 : decode cb_Se_tell 149 = .ok (.iconst 0, 1) := by decide +kernel
theorem d_Se_tell_150 : decode cb_Se_tell 150 = .ok (.invokevirtual 67, 3) := by decide +kernel
theorem d_Se_tell_153 : decode cb_Se_tell 153 = .ok (.return_, 1) := by decide +kernel
theorem d_Se_tellWatchersOf_0 : decode cb_Se_tellWatchersOf 0 = .ok (.iconst 0, 1) := by decide +kernel
theorem d_Se_tellWatchersOf_1 : decode cb_Se_tellWatchersOf 1 = .ok (.istore_n 2, 1) := by decide +kernel
theorem d_Se_tellWatchersOf_2 : decode cb_Se_tellWatchersOf 2 = .ok (.iload_n 2, 1) := by decide +kernel
theorem d_Se_tellWatchersOf_3 : decode cb_Se_tellWatchersOf 3 = .ok (.aload_n 0, 1) := by decide +kernel
theorem d_Se_tellWatchersOf_4 : decode cb_Se_tellWatchersOf 4 = .ok (.getfield 183, 3) := by decide +kernel
theorem d_Se_tellWatchersOf_7 : decode cb_Se_tellWatchersOf 7 = .ok (.if_icmp .ge 32, 3) := by decide +kernel
theorem d_Se_tellWatchersOf_10 : decode cb_Se_tellWatchersOf 10 = .ok (.aload_n 0, 1) := by decide +kernel
theorem d_Se_tellWatchersOf_11 : decode cb_Se_tellWatchersOf 11 = .ok (.getfield 25, 3) := by decide +kernel
theorem d_Se_tellWatchersOf_14 : decode cb_Se_tellWatchersOf 14 = .ok (.iload_n 2, 1) := by decide +kernel
theorem d_Se_tellWatchersOf_15 : decode cb_Se_tellWatchersOf 15 = .ok (.aaload, 1) := by decide +kernel
theorem d_Se_tellWatchersOf_16 : decode cb_Se_tellWatchersOf 16 = .ok (.getfield 199, 3) := by decide +kernel
theorem d_Se_tellWatchersOf_19 : decode cb_Se_tellWatchersOf 19 = .ok (.iload_n 1, 1) := by decide +kernel
theorem d_Se_tellWatchersOf_20 : decode cb_Se_tellWatchersOf 20 = .ok (.if_icmp .ne 13, 3) := by decide +kernel
theorem d_Se_tellWatchersOf_23 : decode cb_Se_tellWatchersOf 23 = .ok (.aload_n 0, 1) := by decide +kernel
theorem d_Se_tellWatchersOf_24 : decode cb_Se_tellWatchersOf 24 = .ok (.aload_n 0, 1) := by decide +kernel
theorem d_Se_tellWatchersOf_25 : decode cb_Se_tellWatchersOf 25 = .ok (.getfield 25, 3) := by decide +kernel
theorem d_Se_tellWatchersOf_28 : decode cb_Se_tellWatchersOf 28 = .ok (.iload_n 2, 1) := by decide +kernel
theorem d_Se_tellWatchersOf_29 : decode cb_Se_tellWatchersOf 29 = .ok (.aaload, 1) := by decide +kernel
theorem d_Se_tellWatchersOf_30 : decode cb_Se_tellWatchersOf 30 = .ok (.invokevirtual 202, 3) := by decide +kernel
theorem d_Se_tellWatchersOf_33 : decode cb_Se_tellWatchersOf 33 = .ok (.iinc 2 1, 3) := by decide +kernel
theorem d_Se_tellWatchersOf_36 : decode cb_Se_tellWatchersOf 36 = .ok (.goto (-34), 3) := by decide +kernel
theorem d_Se_tellWatchersOf_39 : decode cb_Se_tellWatchersOf 39 = .ok (.return_, 1) := by decide +kernel
theorem d_Ob_change_0 : decode cb_Ob_change 0 = .ok (.iload_n 1, 1) := by decide +kernel
theorem d_Ob_change_1 : decode cb_Ob_change 1 = .ok (.iconst 3, 1) := by decide +kernel
theorem d_Ob_change_2 : decode cb_Ob_change 2 = .ok (.invokestatic 67, 3) := by decide +kernel
theorem d_Ob_change_5 : decode cb_Ob_change 5 = .ok (.ifCond .eq 12, 3) := by decide +kernel
theorem d_Ob_change_8 : decode cb_Ob_change 8 = .ok (.iload_n 2, 1) := by decide +kernel
theorem d_Ob_change_9 : decode cb_Ob_change 9 = .ok (.bipush 64, 2) := by decide +kernel
theorem d_Ob_change_11 : decode cb_Ob_change 11 = .ok (.invokestatic 67, 3) := by decide +kernel
theorem d_Ob_change_14 : decode cb_Ob_change 14 = .ok (.ifCond .ne 5, 3) := by decide +kernel
theorem d_Ob_change_17 : decode cb_Ob_change 17 = .ok (.iconst (-1), 1) := by decide +kernel
theorem d_Ob_change_18 : decode cb_Ob_change 18 = .ok (.ireturn, 1) := by decide +kernel
theorem d_Ob_change_19 : decode cb_Ob_change 19 = .ok (.aload_n 0, 1) := by decide +kernel
theorem d_Ob_change_20 : decode cb_Ob_change 20 = .ok (.getfield 28, 3) := by decide +kernel
theorem d_Ob_change_23 : decode cb_Ob_change 23 = .ok (.getfield 84, 3) := by decide +kernel
theorem d_Ob_change_26 : decode cb_Ob_change 26 = .ok (.iload_n 1, 1) := by decide +kernel
theorem d_Ob_change_27 : decode cb_Ob_change 27 = .ok (.aaload, 1) := by decide +kernel
theorem d_Ob_change_28 : decode cb_Ob_change 28 = .ok (.iload_n 2, 1) := by decide +kernel
theorem d_Ob_change_29 : decode cb_Ob_change 29 = .ok (.iload_n 3, 1) := by decide +kernel
theorem d_Ob_change_30 : decode cb_Ob_change 30 = .ok (.invokevirtual 75, 3) := by decide +kernel
theorem d_Ob_change_33 : decode cb_Ob_change 33 = .ok (.aload_n 0, 1) := by decide +kernel
theorem d_Ob_change_34 : decode cb_Ob_change 34 = .ok (.getfield 28, 3) := by decide +kernel
theorem d_Ob_change_37 : decode cb_Ob_change 37 = .ok (.iload_n 1, 1) := by decide +kernel
theorem d_Ob_change_38 : decode cb_Ob_change 38 = .ok (.invokevirtual 88, 3) := by decide +kernel
theorem d_Ob_change_41 : decode cb_Ob_change 41 = .ok (.iconst 0, 1) := by decide +kernel
theorem d_Ob_change_42 : decode cb_Ob_change 42 = .ok (.ireturn, 1) := by decide +kernel
theorem d_Pe_pass_0 : decode cb_Pe_pass 0 = .ok (.aload_n 0, 1) := by decide +kernel
theorem d_Pe_pass_1 : decode cb_Pe_pass 1 = .ok (.getfield 20, 3) := by decide +kernel
theorem d_Pe_pass_4 : decode cb_Pe_pass 4 = .ok (.ifCond .ne 5, 3) := by decide +kernel
theorem d_Pe_pass_7 : decode cb_Pe_pass 7 = .ok (.iconst 0, 1) := by decide +kernel
theorem d_Pe_pass_8 : decode cb_Pe_pass 8 = .ok (.ireturn, 1) := by decide +kernel
theorem d_Pe_pass_9 : decode cb_Pe_pass 9 = .ok (.aload_n 0, 1) := by decide +kernel
theorem d_Pe_pass_10 : decode cb_Pe_pass 10 = .ok (.dup, 1) := by decide +kernel
theorem d_Pe_pass_11 : decode cb_Pe_pass 11 = .ok (.getfield 32, 3) := by decide +kernel
theorem d_Pe_pass_14 : decode cb_Pe_pass 14 = .ok (.iconst 1, 1) := by decide +kernel
theorem d_Pe_pass_15 : decode cb_Pe_pass 15 = .ok (.isub, 1) := by decide +kernel
theorem d_Pe_pass_16 : decode cb_Pe_pass 16 = .ok (.putfield 32, 3) := by decide +kernel
theorem d_Pe_pass_19 : decode cb_Pe_pass 19 = .ok (.aload_n 0, 1) := by decide +kernel
theorem d_Pe_pass_20 : decode cb_Pe_pass 20 = .ok (.getfield 32, 3) := by decide +kernel
theorem d_Pe_pass_23 : decode cb_Pe_pass 23 = .ok (.ifCond .le 5, 3) := by decide +kernel
theorem d_Pe_pass_26 : decode cb_Pe_pass 26 = .ok (.iconst 0, 1) := by decide +kernel
theorem d_Pe_pass_27 : decode cb_Pe_pass 27 = .ok (.ireturn, 1) := by decide +kernel
theorem d_Pe_pass_28 : decode cb_Pe_pass 28 = .ok (.aload_n 0, 1) := by decide +kernel
theorem d_Pe_pass_29 : decode cb_Pe_pass 29 = .ok (.getfield 38, 3) := by decide +kernel
theorem d_Pe_pass_32 : decode cb_Pe_pass 32 = .ok (.iconst 3, 1) := by decide +kernel
theorem d_Pe_pass_33 : decode cb_Pe_pass 33 = .ok (.if_icmp .ne 10, 3) := by decide +kernel
theorem d_Pe_pass_36 : decode cb_Pe_pass 36 = .ok (.aload_n 0, 1) := by decide +kernel
theorem d_Pe_pass_37 : decode cb_Pe_pass 37 = .ok (.iconst 0, 1) := by decide +kernel
theorem d_Pe_pass_38 : decode cb_Pe_pass 38 = .ok (.putfield 20, 3) := by decide +kernel
theorem d_Pe_pass_41 : decode cb_Pe_pass 41 = .ok (.iconst 2, 1) := by decide +kernel
theorem d_Pe_pass_42 : decode cb_Pe_pass 42 = .ok (.ireturn, 1) := by decide +kernel
theorem d_Pe_pass_43 : decode cb_Pe_pass 43 = .ok (.aload_n 0, 1) := by decide +kernel
theorem d_Pe_pass_44 : decode cb_Pe_pass 44 = .ok (.dup, 1) := by decide +kernel
theorem d_Pe_pass_45 : decode cb_Pe_pass 45 = .ok (.getfield 38, 3) := by decide +kernel
theorem d_Pe_pass_48 : decode cb_Pe_pass 48 = .ok (.iconst 1, 1) := by decide +kernel
theorem d_Pe_pass_49 : decode cb_Pe_pass 49 = .ok (.iadd, 1) := by decide +kernel
theorem d_Pe_pass_50 : decode cb_Pe_pass 50 = .ok (.putfield 38, 3) := by decide +kernel
theorem d_Pe_pass_53 : decode cb_Pe_pass 53 = .ok (.aload_n 0, 1) := by decide +kernel
theorem d_Pe_pass_54 : decode cb_Pe_pass 54 = .ok (.dup, 1) := by decide +kernel
theorem d_Pe_pass_55 : decode cb_Pe_pass 55 = .ok (.getfield 35, 3) := by decide +kernel
theorem d_Pe_pass_58 : decode cb_Pe_pass 58 = .ok (.iconst 2, 1) := by decide +kernel
theorem d_Pe_pass_59 : decode cb_Pe_pass 59 = .ok (.imul, 1) := by decide +kernel
theorem d_Pe_pass_60 : decode cb_Pe_pass 60 = .ok (.putfield 35, 3) := by decide +kernel
theorem d_Pe_pass_63 : decode cb_Pe_pass 63 = .ok (.aload_n 0, 1) := by decide +kernel
theorem d_Pe_pass_64 : decode cb_Pe_pass 64 = .ok (.aload_n 0, 1) := by decide +kernel
theorem d_Pe_pass_65 : decode cb_Pe_pass 65 = .ok (.getfield 35, 3) := by decide +kernel
theorem d_Pe_pass_68 : decode cb_Pe_pass 68 = .ok (.putfield 32, 3) := by decide +kernel
theorem d_Pe_pass_71 : decode cb_Pe_pass 71 = .ok (.iconst 1, 1) := by decide +kernel
theorem d_Pe_pass_72 : decode cb_Pe_pass 72 = .ok (.ireturn, 1) := by decide +kernel
theorem d_Cl_pass_0 : decode cb_Cl_pass 0 = .ok (.iconst 0, 1) := by decide +kernel
theorem d_Cl_pass_1 : decode cb_Cl_pass 1 = .ok (.istore_n 1, 1) := by decide +kernel
theorem d_Cl_pass_2 : decode cb_Cl_pass 2 = .ok (.iload_n 1, 1) := by decide +kernel
theorem d_Cl_pass_3 : decode cb_Cl_pass 3 = .ok (.iconst 2, 1) := by decide +kernel
theorem d_Cl_pass_4 : decode cb_Cl_pass 4 = .ok (.if_icmp .ge 65, 3) := by decide +kernel
theorem d_Cl_pass_7 : decode cb_Cl_pass 7 = .ok (.aload_n 0, 1) := by decide +kernel
theorem d_Cl_pass_8 : decode cb_Cl_pass 8 = .ok (.getfield 11, 3) := by decide +kernel
theorem d_Cl_pass_11 : decode cb_Cl_pass 11 = .ok (.iload_n 1, 1) := by decide +kernel
theorem d_Cl_pass_12 : decode cb_Cl_pass 12 = .ok (.aaload, 1) := by decide +kernel
theorem d_Cl_pass_13 : decode cb_Cl_pass 13 = .ok (.getfield 101, 3) := by decide +kernel
theorem d_Cl_pass_16 : decode cb_Cl_pass 16 = .ok (.invokevirtual 164, 3) := by decide +kernel
theorem d_Cl_pass_19 : decode cb_Cl_pass 19 = .ok (.istore_n 2, 1) := by decide +kernel
theorem d_Cl_pass_20 : decode cb_Cl_pass 20 = .ok (.iload_n 2, 1) := by decide +kernel
theorem d_Cl_pass_21 : decode cb_Cl_pass 21 = .ok (.iconst 1, 1) := by decide +kernel
theorem d_Cl_pass_22 : decode cb_Cl_pass 22 = .ok (.if_icmp .ne 26, 3) := by decide +kernel
theorem d_Cl_pass_25 : decode cb_Cl_pass 25 = .ok (.aload_n 0, 1) := by decide +kernel
theorem d_Cl_pass_26 : decode cb_Cl_pass 26 = .ok (.getfield 20, 3) := by decide +kernel
theorem d_Cl_pass_29 : decode cb_Cl_pass 29 = .ok (.aload_n 0, 1) := by decide +kernel
theorem d_Cl_pass_30 : decode cb_Cl_pass 30 = .ok (.getfield 11, 3) := by decide +kernel
theorem d_Cl_pass_33 : decode cb_Cl_pass 33 = .ok (.iload_n 1, 1) := by decide +kernel
theorem d_Cl_pass_34 : decode cb_Cl_pass 34 = .ok (.aaload, 1) := by decide +kernel
theorem d_Cl_pass_35 : decode cb_Cl_pass 35 = .ok (.getfield 101, 3) := by decide +kernel
theorem d_Cl_pass_38 : decode cb_Cl_pass 38 = .ok (.getfield 168, 3) := by decide +kernel
theorem d_Cl_pass_41 : decode cb_Cl_pass 41 = .ok (.iconst 1, 1) := by decide +kernel
theorem d_Cl_pass_42 : decode cb_Cl_pass 42 = .ok (.invokevirtual 117, 3) := by decide +kernel
theorem d_Cl_pass_45 : decode cb_Cl_pass 45 = .ok (.goto 18, 3) := by decide +kernel
theorem d_Cl_pass_48 : decode cb_Cl_pass 48 = .ok (.iload_n 2, 1) := by decide +kernel
theorem d_Cl_pass_49 : decode cb_Cl_pass 49 = .ok (.iconst 2, 1) := by decide +kernel
theorem d_Cl_pass_50 : decode cb_Cl_pass 50 = .ok (.if_icmp .ne 13, 3) := by decide +kernel
theorem d_Cl_pass_53 : decode cb_Cl_pass 53 = .ok (.aload_n 0, 1) := by decide +kernel
theorem d_Cl_pass_54 : decode cb_Cl_pass 54 = .ok (.getfield 11, 3) := by decide +kernel
theorem d_Cl_pass_57 : decode cb_Cl_pass 57 = .ok (.iload_n 1, 1) := by decide +kernel
theorem d_Cl_pass_58 : decode cb_Cl_pass 58 = .ok (.aaload, 1) := by decide +kernel
theorem d_Cl_pass_59 : decode cb_Cl_pass 59 = .ok (.iconst 3, 1) := by decide +kernel
theorem d_Cl_pass_60 : decode cb_Cl_pass 60 = .ok (.putfield 98, 3) := by decide +kernel
theorem d_Cl_pass_63 : decode cb_Cl_pass 63 = .ok (.iinc 1 1, 3) := by decide +kernel
theorem d_Cl_pass_66 : decode cb_Cl_pass 66 = .ok (.goto (-64), 3) := by decide +kernel
theorem d_Cl_pass_69 : decode cb_Cl_pass 69 = .ok (.return_, 1) := by decide +kernel
theorem d_Se_endWatch_0 : decode cb_Se_endWatch 0 = .ok (.iload_n 1, 1) := by decide +kernel
theorem d_Se_endWatch_1 : decode cb_Se_endWatch 1 = .ok (.ifCond .lt 11, 3) := by decide +kernel
theorem d_Se_endWatch_4 : decode cb_Se_endWatch 4 = .ok (.iload_n 1, 1) := by decide +kernel
theorem d_Se_endWatch_5 : decode cb_Se_endWatch 5 = .ok (.aload_n 0, 1) := by decide +kernel
theorem d_Se_endWatch_6 : decode cb_Se_endWatch 6 = .ok (.getfield 183, 3) := by decide +kernel
theorem d_Se_endWatch_9 : decode cb_Se_endWatch 9 = .ok (.if_icmp .lt 4, 3) := by decide +kernel
theorem d_Se_endWatch_12 : decode cb_Se_endWatch 12 = .ok (.return_, 1) := by decide +kernel
theorem d_Se_endWatch_13 : decode cb_Se_endWatch 13 = .ok (.aload_n 0, 1) := by decide +kernel
theorem d_Se_endWatch_14 : decode cb_Se_endWatch 14 = .ok (.getfield 25, 3) := by decide +kernel
theorem d_Se_endWatch_17 : decode cb_Se_endWatch 17 = .ok (.iload_n 1, 1) := by decide +kernel
theorem d_Se_endWatch_18 : decode cb_Se_endWatch 18 = .ok (.aaload, 1) := by decide +kernel
theorem d_Se_endWatch_19 : decode cb_Se_endWatch 19 = .ok (.astore_n 2, 1) := by decide +kernel
theorem d_Se_endWatch_20 : decode cb_Se_endWatch 20 = .ok (.aload_n 2, 1) := by decide +kernel
theorem d_Se_endWatch_21 : decode cb_Se_endWatch 21 = .ok (.getfield 190, 3) := by decide +kernel
theorem d_Se_endWatch_24 : decode cb_Se_endWatch 24 = .ok (.invokevirtual 194, 3) := by decide +kernel
theorem d_Se_endWatch_27 : decode cb_Se_endWatch 27 = .ok (.iload_n 1, 1) := by decide +kernel
theorem d_Se_endWatch_28 : decode cb_Se_endWatch 28 = .ok (.istore_n 3, 1) := by decide +kernel
theorem d_Se_endWatch_29 : decode cb_Se_endWatch 29 = .ok (.iload_n 3, 1) := by decide +kernel
theorem d_Se_endWatch_30 : decode cb_Se_endWatch 30 = .ok (.aload_n 0, 1) := by decide +kernel
theorem d_Se_endWatch_31 : decode cb_Se_endWatch 31 = .ok (.getfield 183, 3) := by decide +kernel
theorem d_Se_endWatch_34 : decode cb_Se_endWatch 34 = .ok (.iconst 1, 1) := by decide +kernel
theorem d_Se_endWatch_35 : decode cb_Se_endWatch 35 = .ok (.isub, 1) := by decide +kernel
theorem d_Se_endWatch_36 : decode cb_Se_endWatch 36 = .ok (.if_icmp .ge 23, 3) := by decide +kernel
theorem d_Se_endWatch_39 : decode cb_Se_endWatch 39 = .ok (.aload_n 0, 1) := by decide +kernel
theorem d_Se_endWatch_40 : decode cb_Se_endWatch 40 = .ok (.getfield 25, 3) := by decide +kernel
theorem d_Se_endWatch_43 : decode cb_Se_endWatch 43 = .ok (.iload_n 3, 1) := by decide +kernel
theorem d_Se_endWatch_44 : decode cb_Se_endWatch 44 = .ok (.aload_n 0, 1) := by decide +kernel
theorem d_Se_endWatch_45 : decode cb_Se_endWatch 45 = .ok (.getfield 25, 3) := by decide +kernel
theorem d_Se_endWatch_48 : decode cb_Se_endWatch 48 = .ok (.iload_n 3, 1) := by decide +kernel
theorem d_Se_endWatch_49 : decode cb_Se_endWatch 49 = .ok (.iconst 1, 1) := by decide +kernel
theorem d_Se_endWatch_50 : decode cb_Se_endWatch 50 = .ok (.iadd, 1) := by decide +kernel
theorem d_Se_endWatch_51 : decode cb_Se_endWatch 51 = .ok (.aaload, 1) := by decide +kernel
theorem d_Se_endWatch_52 : decode cb_Se_endWatch 52 = .ok (.aastore, 1) := by decide +kernel
theorem d_Se_endWatch_53 : decode cb_Se_endWatch 53 = .ok (.iinc 3 1, 3) := by decide +kernel
theorem d_Se_endWatch_56 : decode cb_Se_endWatch 56 = .ok (.goto (-27), 3) := by decide +kernel
theorem d_Se_endWatch_59 : decode cb_Se_endWatch 59 = .ok (.aload_n 0, 1) := by decide +kernel
theorem d_Se_endWatch_60 : decode cb_Se_endWatch 60 = .ok (.dup, 1) := by decide +kernel
theorem d_Se_endWatch_61 : decode cb_Se_endWatch 61 = .ok (.getfield 183, 3) := by decide +kernel
theorem d_Se_endWatch_64 : decode cb_Se_endWatch 64 = .ok (.iconst 1, 1) := by decide +kernel
theorem d_Se_endWatch_65 : decode cb_Se_endWatch 65 = .ok (.isub, 1) := by decide +kernel
theorem d_Se_endWatch_66 : decode cb_Se_endWatch 66 = .ok (.putfield 183, 3) := by decide +kernel
theorem d_Se_endWatch_69 : decode cb_Se_endWatch 69 = .ok (.aload_n 0, 1) := by decide +kernel
theorem d_Se_endWatch_70 : decode cb_Se_endWatch 70 = .ok (.getfield 25, 3) := by decide +kernel
theorem d_Se_endWatch_73 : decode cb_Se_endWatch 73 = .ok (.aload_n 0, 1) := by decide +kernel
theorem d_Se_endWatch_74 : decode cb_Se_endWatch 74 = .ok (.getfield 183, 3) := by decide +kernel
theorem d_Se_endWatch_77 : decode cb_Se_endWatch 77 = .ok (.aload_n 2, 1) := by decide +kernel
theorem d_Se_endWatch_78 : decode cb_Se_endWatch 78 = .ok (.aastore, 1) := by decide +kernel
theorem d_Se_endWatch_79 : decode cb_Se_endWatch 79 = .ok (.return_, 1) := by decide +kernel
theorem d_Se_pass_0 : decode cb_Se_pass 0 = .ok (.iconst 0, 1) := by decide +kernel
theorem d_Se_pass_1 : decode cb_Se_pass 1 = .ok (.istore_n 1, 1) := by decide +kernel
theorem d_Se_pass_2 : decode cb_Se_pass 2 = .ok (.iconst 0, 1) := by decide +kernel
theorem d_Se_pass_3 : decode cb_Se_pass 3 = .ok (.istore_n 2, 1) := by decide +kernel
theorem d_Se_pass_4 : decode cb_Se_pass 4 = .ok (.iload_n 2, 1) := by decide +kernel
theorem d_Se_pass_5 : decode cb_Se_pass 5 = .ok (.iconst 2, 1) := by decide +kernel
theorem d_Se_pass_6 : decode cb_Se_pass 6 = .ok (.if_icmp .ge 71, 3) := by decide +kernel
theorem d_Se_pass_9 : decode cb_Se_pass 9 = .ok (.iload_n 1, 1) := by decide +kernel
theorem d_Se_pass_10 : decode cb_Se_pass 10 = .ok (.aload_n 0, 1) := by decide +kernel
theorem d_Se_pass_11 : decode cb_Se_pass 11 = .ok (.getfield 183, 3) := by decide +kernel
theorem d_Se_pass_14 : decode cb_Se_pass 14 = .ok (.if_icmp .ge 63, 3) := by decide +kernel
theorem d_Se_pass_17 : decode cb_Se_pass 17 = .ok (.aload_n 0, 1) := by decide +kernel
theorem d_Se_pass_18 : decode cb_Se_pass 18 = .ok (.getfield 25, 3) := by decide +kernel
theorem d_Se_pass_21 : decode cb_Se_pass 21 = .ok (.iload_n 1, 1) := by decide +kernel
theorem d_Se_pass_22 : decode cb_Se_pass 22 = .ok (.aaload, 1) := by decide +kernel
theorem d_Se_pass_23 : decode cb_Se_pass 23 = .ok (.getfield 190, 3) := by decide +kernel
theorem d_Se_pass_26 : decode cb_Se_pass 26 = .ok (.invokevirtual 227, 3) := by decide +kernel
theorem d_Se_pass_29 : decode cb_Se_pass 29 = .ok (.istore_n 3, 1) := by decide +kernel
theorem d_Se_pass_30 : decode cb_Se_pass 30 = .ok (.iload_n 3, 1) := by decide +kernel
theorem d_Se_pass_31 : decode cb_Se_pass 31 = .ok (.iconst 1, 1) := by decide +kernel
theorem d_Se_pass_32 : decode cb_Se_pass 32 = .ok (.if_icmp .ne 23, 3) := by decide +kernel
theorem d_Se_pass_35 : decode cb_Se_pass 35 = .ok (.aload_n 0, 1) := by decide +kernel
theorem d_Se_pass_36 : decode cb_Se_pass 36 = .ok (.getfield 37, 3) := by decide +kernel
theorem d_Se_pass_39 : decode cb_Se_pass 39 = .ok (.aload_n 0, 1) := by decide +kernel
theorem d_Se_pass_40 : decode cb_Se_pass 40 = .ok (.getfield 25, 3) := by decide +kernel
theorem d_Se_pass_43 : decode cb_Se_pass 43 = .ok (.iload_n 1, 1) := by decide +kernel
theorem d_Se_pass_44 : decode cb_Se_pass 44 = .ok (.aaload, 1) := by decide +kernel
theorem d_Se_pass_45 : decode cb_Se_pass 45 = .ok (.getfield 190, 3) := by decide +kernel
theorem d_Se_pass_48 : decode cb_Se_pass 48 = .ok (.getfield 231, 3) := by decide +kernel
theorem d_Se_pass_51 : decode cb_Se_pass 51 = .ok (.iconst 0, 1) := by decide +kernel
theorem d_Se_pass_52 : decode cb_Se_pass 52 = .ok (.invokevirtual 67, 3) := by decide +kernel
theorem d_Se_pass_55 : decode cb_Se_pass 55 = .ok (.iload_n 3, 1) := by decide +kernel
theorem d_Se_pass_56 : decode cb_Se_pass 56 = .ok (.iconst 2, 1) := by decide +kernel
theorem d_Se_pass_57 : decode cb_Se_pass 57 = .ok (.if_icmp .ne 11, 3) := by decide +kernel
theorem d_Se_pass_60 : decode cb_Se_pass 60 = .ok (.aload_n 0, 1) := by decide +kernel
theorem d_Se_pass_61 : decode cb_Se_pass 61 = .ok (.iload_n 1, 1) := by decide +kernel
theorem d_Se_pass_62 : decode cb_Se_pass 62 = .ok (.invokevirtual 169, 3) := by decide +kernel
theorem d_Se_pass_65 : decode cb_Se_pass 65 = .ok (.goto 6, 3) := by decide +kernel
theorem d_Se_pass_68 : decode cb_Se_pass 68 = .ok (.iinc 1 1, 3) := by decide +kernel
theorem d_Se_pass_71 : decode cb_Se_pass 71 = .ok (.iinc 2 1, 3) := by decide +kernel
theorem d_Se_pass_74 : decode cb_Se_pass 74 = .ok (.goto (-70), 3) := by decide +kernel
theorem d_Se_pass_77 : decode cb_Se_pass 77 = .ok (.return_, 1) := by decide +kernel

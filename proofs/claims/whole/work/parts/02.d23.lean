theorem d_Mo_free_0 : decode cb_Mo_free 0 = .ok (.iload_n 1, 1) := by decide +kernel
theorem d_Mo_free_1 : decode cb_Mo_free 1 = .ok (.invokestatic 297, 3) := by decide +kernel
theorem d_Mo_free_4 : decode cb_Mo_free 4 = .ok (.ifCond .ne 5, 3) := by decide +kernel
theorem d_Mo_free_7 : decode cb_Mo_free 7 = .ok (.iconst (-1), 1) := by decide +kernel
theorem d_Mo_free_8 : decode cb_Mo_free 8 = .ok (.ireturn, 1) := by decide +kernel
theorem d_Mo_free_9 : decode cb_Mo_free 9 = .ok (.aload_n 0, 1) := by decide +kernel
theorem d_Mo_free_10 : decode cb_Mo_free 10 = .ok (.getfield 48, 3) := by decide +kernel
theorem d_Mo_free_13 : decode cb_Mo_free 13 = .ok (.iload_n 1, 1) := by decide +kernel
theorem d_Mo_free_14 : decode cb_Mo_free 14 = .ok (.iaload, 1) := by decide +kernel
theorem d_Mo_free_15 : decode cb_Mo_free 15 = .ok (.ifCond .ne 6, 3) := by decide +kernel
theorem d_Mo_free_18 : decode cb_Mo_free 18 = .ok (.bipush (-2), 2) := by decide +kernel
theorem d_Mo_free_20 : decode cb_Mo_free 20 = .ok (.ireturn, 1) := by decide +kernel
theorem d_Mo_free_21 : decode cb_Mo_free 21 = .ok (.aload_n 0, 1) := by decide +kernel
theorem d_Mo_free_22 : decode cb_Mo_free 22 = .ok (.getfield 48, 3) := by decide +kernel
theorem d_Mo_free_25 : decode cb_Mo_free 25 = .ok (.iload_n 1, 1) := by decide +kernel
theorem d_Mo_free_26 : decode cb_Mo_free 26 = .ok (.iconst 0, 1) := by decide +kernel
theorem d_Mo_free_27 : decode cb_Mo_free 27 = .ok (.iastore, 1) := by decide +kernel
theorem d_Mo_free_28 : decode cb_Mo_free 28 = .ok (.aload_n 0, 1) := by decide +kernel
theorem d_Mo_free_29 : decode cb_Mo_free 29 = .ok (.getfield 26, 3) := by decide +kernel
theorem d_Mo_free_32 : decode cb_Mo_free 32 = .ok (.iload_n 1, 1) := by decide +kernel
theorem d_Mo_free_33 : decode cb_Mo_free 33 = .ok (.iconst 0, 1) := by decide +kernel
theorem d_Mo_free_34 : decode cb_Mo_free 34 = .ok (.bastore, 1) := by decide +kernel
theorem d_Mo_free_35 : decode cb_Mo_free 35 = .ok (.aload_n 0, 1) := by decide +kernel
theorem d_Mo_free_36 : decode cb_Mo_free 36 = .ok (.getfield 72, 3) := by decide +kernel
theorem d_Mo_free_39 : decode cb_Mo_free 39 = .ok (.iload_n 1, 1) := by decide +kernel
theorem d_Mo_free_40 : decode cb_Mo_free 40 = .ok (.iconst 0, 1) := by decide +kernel
theorem d_Mo_free_41 : decode cb_Mo_free 41 = .ok (.bastore, 1) := by decide +kernel
theorem d_Mo_free_42 : decode cb_Mo_free 42 = .ok (.iconst 0, 1) := by decide +kernel
theorem d_Mo_free_43 : decode cb_Mo_free 43 = .ok (.ireturn, 1) := by decide +kernel
theorem d_Mo_change_0 : decode cb_Mo_change 0 = .ok (.iload_n 1, 1) := by decide +kernel
theorem d_Mo_change_1 : decode cb_Mo_change 1 = .ok (.ifCond .lt 18, 3) := by decide +kernel
theorem d_Mo_change_4 : decode cb_Mo_change 4 = .ok (.iload_n 1, 1) := by decide +kernel
theorem d_Mo_change_5 : decode cb_Mo_change 5 = .ok (.iconst 3, 1) := by decide +kernel
theorem d_Mo_change_6 : decode cb_Mo_change 6 = .ok (.if_icmp .gt 13, 3) := by decide +kernel
theorem d_Mo_change_9 : decode cb_Mo_change 9 = .ok (.iload_n 2, 1) := by decide +kernel
theorem d_Mo_change_10 : decode cb_Mo_change 10 = .ok (.ifCond .lt 9, 3) := by decide +kernel
theorem d_Mo_change_13 : decode cb_Mo_change 13 = .ok (.iload_n 2, 1) := by decide +kernel
theorem d_Mo_change_14 : decode cb_Mo_change 14 = .ok (.bipush 64, 2) := by decide +kernel
theorem d_Mo_change_16 : decode cb_Mo_change 16 = .ok (.if_icmp .le 5, 3) := by decide +kernel
theorem d_Mo_change_19 : decode cb_Mo_change 19 = .ok (.iconst (-1), 1) := by decide +kernel
theorem d_Mo_change_20 : decode cb_Mo_change 20 = .ok (.ireturn, 1) := by decide +kernel
theorem d_Mo_change_21 : decode cb_Mo_change 21 = .ok (.iconst 0, 1) := by decide +kernel
theorem d_Mo_change_22 : decode cb_Mo_change 22 = .ok (.istore 4, 2) := by decide +kernel
theorem d_Mo_change_24 : decode cb_Mo_change 24 = .ok (.iload 4, 2) := by decide +kernel
theorem d_Mo_change_26 : decode cb_Mo_change 26 = .ok (.iload_n 2, 1) := by decide +kernel
theorem d_Mo_change_27 : decode cb_Mo_change 27 = .ok (.if_icmp .ge 31, 3) := by decide +kernel
theorem d_Mo_change_30 : decode cb_Mo_change 30 = .ok (.aload_n 0, 1) := by decide +kernel
theorem d_Mo_change_31 : decode cb_Mo_change 31 = .ok (.getfield 90, 3) := by decide +kernel
theorem d_Mo_change_34 : decode cb_Mo_change 34 = .ok (.bipush 64, 2) := by decide +kernel
theorem d_Mo_change_36 : decode cb_Mo_change 36 = .ok (.iload_n 1, 1) := by decide +kernel
theorem d_Mo_change_37 : decode cb_Mo_change 37 = .ok (.imul, 1) := by decide +kernel
theorem d_Mo_change_38 : decode cb_Mo_change 38 = .ok (.iload 4, 2) := by decide +kernel
theorem d_Mo_change_40 : decode cb_Mo_change 40 = .ok (.iadd, 1) := by decide +kernel
theorem d_Mo_change_41 : decode cb_Mo_change 41 = .ok (.iload_n 3, 1) := by decide +kernel
theorem d_Mo_change_42 : decode cb_Mo_change 42 = .ok (.iconst 5, 1) := by decide +kernel
theorem d_Mo_change_43 : decode cb_Mo_change 43 = .ok (.iload 4, 2) := by decide +kernel
theorem d_Mo_change_45 : decode cb_Mo_change 45 = .ok (.imul, 1) := by decide +kernel
theorem d_Mo_change_46 : decode cb_Mo_change 46 = .ok (.iadd, 1) := by decide +kernel
theorem d_Mo_change_47 : decode cb_Mo_change 47 = .ok (.sipush 255, 3) := by decide +kernel
theorem d_Mo_change_50 : decode cb_Mo_change 50 = .ok (.iand, 1) := by decide +kernel
theorem d_Mo_change_51 : decode cb_Mo_change 51 = .ok (.iastore, 1) := by decide +kernel
theorem d_Mo_change_52 : decode cb_Mo_change 52 = .ok (.iinc 4 1, 3) := by decide +kernel
theorem d_Mo_change_55 : decode cb_Mo_change 55 = .ok (.goto (-31), 3) := by decide +kernel
theorem d_Mo_change_58 : decode cb_Mo_change 58 = .ok (.aload_n 0, 1) := by decide +kernel
theorem d_Mo_change_59 : decode cb_Mo_change 59 = .ok (.getfield 93, 3) := by decide +kernel
theorem d_Mo_change_62 : decode cb_Mo_change 62 = .ok (.iload_n 1, 1) := by decide +kernel
theorem d_Mo_change_63 : decode cb_Mo_change 63 = .ok (.iload_n 2, 1) := by decide +kernel
theorem d_Mo_change_64 : decode cb_Mo_change 64 = .ok (.iastore, 1) := by decide +kernel
theorem d_Mo_change_65 : decode cb_Mo_change 65 = .ok (.aload_n 0, 1) := by decide +kernel
theorem d_Mo_change_66 : decode cb_Mo_change 66 = .ok (.iload_n 1, 1) := by decide +kernel
theorem d_Mo_change_67 : decode cb_Mo_change 67 = .ok (.invokevirtual 263, 3) := by decide +kernel
theorem d_Mo_change_70 : decode cb_Mo_change 70 = .ok (.iconst 0, 1) := by decide +kernel
theorem d_Mo_change_71 : decode cb_Mo_change 71 = .ok (.ireturn, 1) := by decide +kernel
theorem d_Mo_wears_0 : decode cb_Mo_wears 0 = .ok (.aload_n 0, 1) := by decide +kernel
theorem d_Mo_wears_1 : decode cb_Mo_wears 1 = .ok (.getfield 26, 3) := by decide +kernel
theorem d_Mo_wears_4 : decode cb_Mo_wears 4 = .ok (.iload_n 1, 1) := by decide +kernel
theorem d_Mo_wears_5 : decode cb_Mo_wears 5 = .ok (.baload, 1) := by decide +kernel
theorem d_Mo_wears_6 : decode cb_Mo_wears 6 = .ok (.ifCond .ne 5, 3) := by decide +kernel
theorem d_Mo_wears_9 : decode cb_Mo_wears 9 = .ok (.iconst 0, 1) := by decide +kernel
theorem d_Mo_wears_10 : decode cb_Mo_wears 10 = .ok (.ireturn, 1) := by decide +kernel
theorem d_Mo_wears_11 : decode cb_Mo_wears 11 = .ok (.aload_n 0, 1) := by decide +kernel
theorem d_Mo_wears_12 : decode cb_Mo_wears 12 = .ok (.getfield 33, 3) := by decide +kernel
theorem d_Mo_wears_15 : decode cb_Mo_wears 15 = .ok (.iload_n 1, 1) := by decide +kernel
theorem d_Mo_wears_16 : decode cb_Mo_wears 16 = .ok (.dup2, 1) := by decide +kernel
theorem d_Mo_wears_17 : decode cb_Mo_wears 17 = .ok (.iaload, 1) := by decide +kernel
theorem d_Mo_wears_18 : decode cb_Mo_wears 18 = .ok (.iconst 1, 1) := by decide +kernel
theorem d_Mo_wears_19 : decode cb_Mo_wears 19 = .ok (.isub, 1) := by decide +kernel
theorem d_Mo_wears_20 : decode cb_Mo_wears 20 = .ok (.iastore, 1) := by decide +kernel
theorem d_Mo_wears_21 : decode cb_Mo_wears 21 = .ok (.aload_n 0, 1) := by decide +kernel
theorem d_Mo_wears_22 : decode cb_Mo_wears 22 = .ok (.getfield 33, 3) := by decide +kernel
theorem d_Mo_wears_25 : decode cb_Mo_wears 25 = .ok (.iload_n 1, 1) := by decide +kernel
theorem d_Mo_wears_26 : decode cb_Mo_wears 26 = .ok (.iaload, 1) := by decide +kernel
theorem d_Mo_wears_27 : decode cb_Mo_wears 27 = .ok (.ifCond .le 5, 3) := by decide +kernel
theorem d_Mo_wears_30 : decode cb_Mo_wears 30 = .ok (.iconst 0, 1) := by decide +kernel
theorem d_Mo_wears_31 : decode cb_Mo_wears 31 = .ok (.ireturn, 1) := by decide +kernel
theorem d_Mo_wears_32 : decode cb_Mo_wears 32 = .ok (.aload_n 0, 1) := by decide +kernel
theorem d_Mo_wears_33 : decode cb_Mo_wears 33 = .ok (.getfield 39, 3) := by decide +kernel
theorem d_Mo_wears_36 : decode cb_Mo_wears 36 = .ok (.iload_n 1, 1) := by decide +kernel
theorem d_Mo_wears_37 : decode cb_Mo_wears 37 = .ok (.iaload, 1) := by decide +kernel
theorem d_Mo_wears_38 : decode cb_Mo_wears 38 = .ok (.iconst 3, 1) := by decide +kernel
theorem d_Mo_wears_39 : decode cb_Mo_wears 39 = .ok (.if_icmp .ne 12, 3) := by decide +kernel
theorem d_Mo_wears_42 : decode cb_Mo_wears 42 = .ok (.aload_n 0, 1) := by decide +kernel
theorem d_Mo_wears_43 : decode cb_Mo_wears 43 = .ok (.getfield 26, 3) := by decide +kernel
theorem d_Mo_wears_46 : decode cb_Mo_wears 46 = .ok (.iload_n 1, 1) := by decide +kernel
theorem d_Mo_wears_47 : decode cb_Mo_wears 47 = .ok (.iconst 0, 1) := by decide +kernel
theorem d_Mo_wears_48 : decode cb_Mo_wears 48 = .ok (.bastore, 1) := by decide +kernel
theorem d_Mo_wears_49 : decode cb_Mo_wears 49 = .ok (.iconst 1, 1) := by decide +kernel
theorem d_Mo_wears_50 : decode cb_Mo_wears 50 = .ok (.ireturn, 1) := by decide +kernel
theorem d_Mo_wears_51 : decode cb_Mo_wears 51 = .ok (.aload_n 0, 1) := by decide +kernel
theorem d_Mo_wears_52 : decode cb_Mo_wears 52 = .ok (.iload_n 1, 1) := by decide +kernel
theorem d_Mo_wears_53 : decode cb_Mo_wears 53 = .ok (.invokevirtual 304, 3) := by decide +kernel
theorem d_Mo_wears_56 : decode cb_Mo_wears 56 = .ok (.aload_n 0, 1) := by decide +kernel
theorem d_Mo_wears_57 : decode cb_Mo_wears 57 = .ok (.getfield 39, 3) := by decide +kernel
theorem d_Mo_wears_60 : decode cb_Mo_wears 60 = .ok (.iload_n 1, 1) := by decide +kernel
theorem d_Mo_wears_61 : decode cb_Mo_wears 61 = .ok (.dup2, 1) := by decide +kernel
theorem d_Mo_wears_62 : decode cb_Mo_wears 62 = .ok (.iaload, 1) := by decide +kernel
theorem d_Mo_wears_63 : decode cb_Mo_wears 63 = .ok (.iconst 1, 1) := by decide +kernel
theorem d_Mo_wears_64 : decode cb_Mo_wears 64 = .ok (.iadd, 1) := by decide +kernel
theorem d_Mo_wears_65 : decode cb_Mo_wears 65 = .ok (.iastore, 1) := by decide +kernel
theorem d_Mo_wears_66 : decode cb_Mo_wears 66 = .ok (.aload_n 0, 1) := by decide +kernel
theorem d_Mo_wears_67 : decode cb_Mo_wears 67 = .ok (.getfield 36, 3) := by decide +kernel
theorem d_Mo_wears_70 : decode cb_Mo_wears 70 = .ok (.iload_n 1, 1) := by decide +kernel
theorem d_Mo_wears_71 : decode cb_Mo_wears 71 = .ok (.iconst 2, 1) := by decide +kernel
theorem d_Mo_wears_72 : decode cb_Mo_wears 72 = .ok (.aload_n 0, 1) := by decide +kernel
theorem d_Mo_wears_73 : decode cb_Mo_wears 73 = .ok (.getfield 36, 3) := by decide +kernel
theorem d_Mo_wears_76 : decode cb_Mo_wears 76 = .ok (.iload_n 1, 1) := by decide +kernel
theorem d_Mo_wears_77 : decode cb_Mo_wears 77 = .ok (.iaload, 1) := by decide +kernel
theorem d_Mo_wears_78 : decode cb_Mo_wears 78 = .ok (.imul, 1) := by decide +kernel
theorem d_Mo_wears_79 : decode cb_Mo_wears 79 = .ok (.iastore, 1) := by decide +kernel
theorem d_Mo_wears_80 : decode cb_Mo_wears 80 = .ok (.aload_n 0, 1) := by decide +kernel
theorem d_Mo_wears_81 : decode cb_Mo_wears 81 = .ok (.getfield 33, 3) := by decide +kernel
theorem d_Mo_wears_84 : decode cb_Mo_wears 84 = .ok (.iload_n 1, 1) := by decide +kernel
theorem d_Mo_wears_85 : decode cb_Mo_wears 85 = .ok (.aload_n 0, 1) := by decide +kernel
theorem d_Mo_wears_86 : decode cb_Mo_wears 86 = .ok (.getfield 36, 3) := by decide +kernel
theorem d_Mo_wears_89 : decode cb_Mo_wears 89 = .ok (.iload_n 1, 1) := by decide +kernel
theorem d_Mo_wears_90 : decode cb_Mo_wears 90 = .ok (.iaload, 1) := by decide +kernel
theorem d_Mo_wears_91 : decode cb_Mo_wears 91 = .ok (.iastore, 1) := by decide +kernel
theorem d_Mo_wears_92 : decode cb_Mo_wears 92 = .ok (.iconst 0, 1) := by decide +kernel
theorem d_Mo_wears_93 : decode cb_Mo_wears 93 = .ok (.ireturn, 1) := by decide +kernel
theorem d_Mo_tick_0 : decode cb_Mo_tick 0 = .ok (.aload_n 0, 1) := by decide +kernel
theorem d_Mo_tick_1 : decode cb_Mo_tick 1 = .ok (.dup, 1) := by decide +kernel
theorem d_Mo_tick_2 : decode cb_Mo_tick 2 = .ok (.getfield 275, 3) := by decide +kernel
theorem d_Mo_tick_5 : decode cb_Mo_tick 5 = .ok (.iconst 1, 1) := by decide +kernel
theorem d_Mo_tick_6 : decode cb_Mo_tick 6 = .ok (.iadd, 1) := by decide +kernel
theorem d_Mo_tick_7 : decode cb_Mo_tick 7 = .ok (.putfield 275, 3) := by decide +kernel
theorem d_Mo_tick_10 : decode cb_Mo_tick 10 = .ok (.iconst 0, 1) := by decide +kernel
theorem d_Mo_tick_11 : decode cb_Mo_tick 11 = .ok (.istore_n 1, 1) := by decide +kernel
theorem d_Mo_tick_12 : decode cb_Mo_tick 12 = .ok (.iload_n 1, 1) := by decide +kernel
theorem d_Mo_tick_13 : decode cb_Mo_tick 13 = .ok (.iconst 2, 1) := by decide +kernel
theorem d_Mo_tick_14 : decode cb_Mo_tick 14 = .ok (.if_icmp .ge 33, 3) := by decide +kernel
theorem d_Mo_tick_17 : decode cb_Mo_tick 17 = .ok (.aload_n 0, 1) := by decide +kernel
theorem d_Mo_tick_18 : decode cb_Mo_tick 18 = .ok (.getfield 48, 3) := by decide +kernel
theorem d_Mo_tick_21 : decode cb_Mo_tick 21 = .ok (.iload_n 1, 1) := by decide +kernel
theorem d_Mo_tick_22 : decode cb_Mo_tick 22 = .ok (.aload_n 0, 1) := by decide +kernel
theorem d_Mo_tick_23 : decode cb_Mo_tick 23 = .ok (.iload_n 1, 1) := by decide +kernel
theorem d_Mo_tick_24 : decode cb_Mo_tick 24 = .ok (.invokevirtual 307, 3) := by decide +kernel
theorem d_Mo_tick_27 : decode cb_Mo_tick 27 = .ok (.ifCond .eq 7, 3) := by decide +kernel
theorem d_Mo_tick_30 : decode cb_Mo_tick 30 = .ok (.iconst 3, 1) := by decide +kernel
theorem d_Mo_tick_31 : decode cb_Mo_tick 31 = .ok (.goto 9, 3) := by decide +kernel
theorem d_Mo_tick_34 : decode cb_Mo_tick 34 = .ok (.aload_n 0, 1) := by decide +kernel
theorem d_Mo_tick_35 : decode cb_Mo_tick 35 = .ok (.getfield 48, 3) := by decide +kernel
theorem d_Mo_tick_38 : decode cb_Mo_tick 38 = .ok (.iload_n 1, 1) := by decide +kernel
theorem d_Mo_tick_39 : decode cb_Mo_tick 39 = .ok (.iaload, 1) := by decide +kernel
theorem d_Mo_tick_40 : decode cb_Mo_tick 40 = .ok (.iastore, 1) := by decide +kernel
theorem d_Mo_tick_41 : decode cb_Mo_tick 41 = .ok (.iinc 1 1, 3) := by decide +kernel
theorem d_Mo_tick_44 : decode cb_Mo_tick 44 = .ok (.goto (-32), 3) := by decide +kernel
theorem d_Mo_tick_47 : decode cb_Mo_tick 47 = .ok (.iconst 0, 1) := by decide +kernel
theorem d_Mo_tick_48 : decode cb_Mo_tick 48 = .ok (.istore_n 1, 1) := by decide +kernel
theorem d_Mo_tick_49 : decode cb_Mo_tick 49 = .ok (.iload_n 1, 1) := by decide +kernel
theorem d_Mo_tick_50 : decode cb_Mo_tick 50 = .ok (.aload_n 0, 1) := by decide +kernel
theorem d_Mo_tick_51 : decode cb_Mo_tick 51 = .ok (.getfield 242, 3) := by decide +kernel
theorem d_Mo_tick_54 : decode cb_Mo_tick 54 = .ok (.if_icmp .ge 27, 3) := by decide +kernel
theorem d_Mo_tick_57 : decode cb_Mo_tick 57 = .ok (.aload_n 0, 1) := by decide +kernel
theorem d_Mo_tick_58 : decode cb_Mo_tick 58 = .ok (.iconst 2, 1) := by decide +kernel
theorem d_Mo_tick_59 : decode cb_Mo_tick 59 = .ok (.iload_n 1, 1) := by decide +kernel
theorem d_Mo_tick_60 : decode cb_Mo_tick 60 = .ok (.iadd, 1) := by decide +kernel
theorem d_Mo_tick_61 : decode cb_Mo_tick 61 = .ok (.invokevirtual 307, 3) := by decide +kernel
theorem d_Mo_tick_64 : decode cb_Mo_tick 64 = .ok (.ifCond .eq 11, 3) := by decide +kernel
theorem d_Mo_tick_67 : decode cb_Mo_tick 67 = .ok (.aload_n 0, 1) := by decide +kernel
theorem d_Mo_tick_68 : decode cb_Mo_tick 68 = .ok (.iload_n 1, 1) := by decide +kernel
theorem d_Mo_tick_69 : decode cb_Mo_tick 69 = .ok (.invokevirtual 260, 3) := by decide +kernel
theorem d_Mo_tick_72 : decode cb_Mo_tick 72 = .ok (.goto (-23), 3) := by decide +kernel
theorem d_Mo_tick_75 : decode cb_Mo_tick 75 = .ok (.iinc 1 1, 3) := by decide +kernel
theorem d_Mo_tick_78 : decode cb_Mo_tick 78 = .ok (.goto (-29), 3) := by decide +kernel
theorem d_Mo_tick_81 : decode cb_Mo_tick 81 = .ok (.aload_n 0, 1) := by decide +kernel
theorem d_Mo_tick_82 : decode cb_Mo_tick 82 = .ok (.getfield 275, 3) := by decide +kernel
theorem d_Mo_tick_85 : decode cb_Mo_tick 85 = .ok (.ireturn, 1) := by decide +kernel
theorem d_Mo_isDatagram_0 : decode cb_Mo_isDatagram 0 = .ok (.iload_n 1, 1) := by decide +kernel
theorem d_Mo_isDatagram_1 : decode cb_Mo_isDatagram 1 = .ok (.ifCond .lt 15, 3) := by decide +kernel
theorem d_Mo_isDatagram_4 : decode cb_Mo_isDatagram 4 = .ok (.iload_n 1, 1) := by decide +kernel
theorem d_Mo_isDatagram_5 : decode cb_Mo_isDatagram 5 = .ok (.aload_n 0, 1) := by decide +kernel
theorem d_Mo_isDatagram_6 : decode cb_Mo_isDatagram 6 = .ok (.getfield 156, 3) := by decide +kernel
theorem d_Mo_isDatagram_9 : decode cb_Mo_isDatagram 9 = .ok (.if_icmp .ge 7, 3) := by decide +kernel
theorem d_Mo_isDatagram_12 : decode cb_Mo_isDatagram 12 = .ok (.iconst 1, 1) := by decide +kernel
theorem d_Mo_isDatagram_13 : decode cb_Mo_isDatagram 13 = .ok (.goto 4, 3) := by decide +kernel
theorem d_Mo_isDatagram_16 : decode cb_Mo_isDatagram 16 = .ok (.iconst 0, 1) := by decide +kernel
theorem d_Mo_isDatagram_17 : decode cb_Mo_isDatagram 17 = .ok (.ireturn, 1) := by decide +kernel
theorem d_Mo_take_0 : decode cb_Mo_take 0 = .ok (.aload_n 0, 1) := by decide +kernel
theorem d_Mo_take_1 : decode cb_Mo_take 1 = .ok (.aload_n 0, 1) := by decide +kernel
theorem d_Mo_take_2 : decode cb_Mo_take 2 = .ok (.getfield 13, 3) := by decide +kernel
theorem d_Mo_take_5 : decode cb_Mo_take 5 = .ok (.iload_n 1, 1) := by decide +kernel
theorem d_Mo_take_6 : decode cb_Mo_take 6 = .ok (.iaload, 1) := by decide +kernel
theorem d_Mo_take_7 : decode cb_Mo_take 7 = .ok (.putfield 175, 3) := by decide +kernel
theorem d_Mo_take_10 : decode cb_Mo_take 10 = .ok (.iconst 0, 1) := by decide +kernel
theorem d_Mo_take_11 : decode cb_Mo_take 11 = .ok (.istore_n 2, 1) := by decide +kernel
theorem d_Mo_take_12 : decode cb_Mo_take 12 = .ok (.iload_n 2, 1) := by decide +kernel
theorem d_Mo_take_13 : decode cb_Mo_take 13 = .ok (.aload_n 0, 1) := by decide +kernel
theorem d_Mo_take_14 : decode cb_Mo_take 14 = .ok (.getfield 175, 3) := by decide +kernel
theorem d_Mo_take_17 : decode cb_Mo_take 17 = .ok (.if_icmp .ge 26, 3) := by decide +kernel
theorem d_Mo_take_20 : decode cb_Mo_take 20 = .ok (.aload_n 0, 1) := by decide +kernel
theorem d_Mo_take_21 : decode cb_Mo_take 21 = .ok (.getfield 129, 3) := by decide +kernel
theorem d_Mo_take_24 : decode cb_Mo_take 24 = .ok (.iload_n 2, 1) := by decide +kernel
theorem d_Mo_take_25 : decode cb_Mo_take 25 = .ok (.aload_n 0, 1) := by decide +kernel
theorem d_Mo_take_26 : decode cb_Mo_take 26 = .ok (.getfield 7, 3) := by decide +kernel
theorem d_Mo_take_29 : decode cb_Mo_take 29 = .ok (.bipush 64, 2) := by decide +kernel
theorem d_Mo_take_31 : decode cb_Mo_take 31 = .ok (.iload_n 1, 1) := by decide +kernel
theorem d_Mo_take_32 : decode cb_Mo_take 32 = .ok (.imul, 1) := by decide +kernel
theorem d_Mo_take_33 : decode cb_Mo_take 33 = .ok (.iload_n 2, 1) := by decide +kernel
theorem d_Mo_take_34 : decode cb_Mo_take 34 = .ok (.iadd, 1) := by decide +kernel
theorem d_Mo_take_35 : decode cb_Mo_take 35 = .ok (.iaload, 1) := by decide +kernel
theorem d_Mo_take_36 : decode cb_Mo_take 36 = .ok (.iastore, 1) := by decide +kernel
theorem d_Mo_take_37 : decode cb_Mo_take 37 = .ok (.iinc 2 1, 3) := by decide +kernel
theorem d_Mo_take_40 : decode cb_Mo_take 40 = .ok (.goto (-28), 3) := by decide +kernel
theorem d_Mo_take_43 : decode cb_Mo_take 43 = .ok (.iload_n 1, 1) := by decide +kernel
theorem d_Mo_take_44 : decode cb_Mo_take 44 = .ok (.istore_n 2, 1) := by decide +kernel
theorem d_Mo_take_45 : decode cb_Mo_take 45 = .ok (.iload_n 2, 1) := by decide +kernel
theorem d_Mo_take_46 : decode cb_Mo_take 46 = .ok (.iconst 1, 1) := by decide +kernel
theorem d_Mo_take_47 : decode cb_Mo_take 47 = .ok (.iadd, 1) := by decide +kernel
theorem d_Mo_take_48 : decode cb_Mo_take 48 = .ok (.aload_n 0, 1) := by decide +kernel
theorem d_Mo_take_49 : decode cb_Mo_take 49 = .ok (.getfield 156, 3) := by decide +kernel
theorem d_Mo_take_52 : decode cb_Mo_take 52 = .ok (.if_icmp .ge 76, 3) := by decide +kernel
theorem d_Mo_take_55 : decode cb_Mo_take 55 = .ok (.aload_n 0, 1) := by decide +kernel
theorem d_Mo_take_56 : decode cb_Mo_take 56 = .ok (.getfield 13, 3) := by decide +kernel
theorem d_Mo_take_59 : decode cb_Mo_take 59 = .ok (.iload_n 2, 1) := by decide +kernel
theorem d_Mo_take_60 : decode cb_Mo_take 60 = .ok (.aload_n 0, 1) := by decide +kernel
theorem d_Mo_take_61 : decode cb_Mo_take 61 = .ok (.getfield 13, 3) := by decide +kernel
theorem d_Mo_take_64 : decode cb_Mo_take 64 = .ok (.iload_n 2, 1) := by decide +kernel
theorem d_Mo_take_65 : decode cb_Mo_take 65 = .ok (.iconst 1, 1) := by decide +kernel
theorem d_Mo_take_66 : decode cb_Mo_take 66 = .ok (.iadd, 1) := by decide +kernel
theorem d_Mo_take_67 : decode cb_Mo_take 67 = .ok (.iaload, 1) := by decide +kernel
theorem d_Mo_take_68 : decode cb_Mo_take 68 = .ok (.iastore, 1) := by decide +kernel
theorem d_Mo_take_69 : decode cb_Mo_take 69 = .ok (.aload_n 0, 1) := by decide +kernel
theorem d_Mo_take_70 : decode cb_Mo_take 70 = .ok (.getfield 16, 3) := by decide +kernel
theorem d_Mo_take_73 : decode cb_Mo_take 73 = .ok (.iload_n 2, 1) := by decide +kernel
theorem d_Mo_take_74 : decode cb_Mo_take 74 = .ok (.aload_n 0, 1) := by decide +kernel
theorem d_Mo_take_75 : decode cb_Mo_take 75 = .ok (.getfield 16, 3) := by decide +kernel
theorem d_Mo_take_78 : decode cb_Mo_take 78 = .ok (.iload_n 2, 1) := by decide +kernel
theorem d_Mo_take_79 : decode cb_Mo_take 79 = .ok (.iconst 1, 1) := by decide +kernel
theorem d_Mo_take_80 : decode cb_Mo_take 80 = .ok (.iadd, 1) := by decide +kernel
theorem d_Mo_take_81 : decode cb_Mo_take 81 = .ok (.iaload, 1) := by decide +kernel
theorem d_Mo_take_82 : decode cb_Mo_take 82 = .ok (.iastore, 1) := by decide +kernel
theorem d_Mo_take_83 : decode cb_Mo_take 83 = .ok (.iconst 0, 1) := by decide +kernel
theorem d_Mo_take_84 : decode cb_Mo_take 84 = .ok (.istore_n 3, 1) := by decide +kernel
theorem d_Mo_take_85 : decode cb_Mo_take 85 = .ok (.iload_n 3, 1) := by decide +kernel
theorem d_Mo_take_86 : decode cb_Mo_take 86 = .ok (.bipush 64, 2) := by decide +kernel
theorem d_Mo_take_88 : decode cb_Mo_take 88 = .ok (.if_icmp .ge 34, 3) := by decide +kernel
theorem d_Mo_take_91 : decode cb_Mo_take 91 = .ok (.aload_n 0, 1) := by decide +kernel
theorem d_Mo_take_92 : decode cb_Mo_take 92 = .ok (.getfield 7, 3) := by decide +kernel
theorem d_Mo_take_95 : decode cb_Mo_take 95 = .ok (.bipush 64, 2) := by decide +kernel
theorem d_Mo_take_97 : decode cb_Mo_take 97 = .ok (.iload_n 2, 1) := by decide +kernel
theorem d_Mo_take_98 : decode cb_Mo_take 98 = .ok (.imul, 1) := by decide +kernel
theorem d_Mo_take_99 : decode cb_Mo_take 99 = .ok (.iload_n 3, 1) := by decide +kernel
theorem d_Mo_take_100 : decode cb_Mo_take 100 = .ok (.iadd, 1) := by decide +kernel
theorem d_Mo_take_101 : decode cb_Mo_take 101 = .ok (.aload_n 0, 1) := by decide +kernel
theorem d_Mo_take_102 : decode cb_Mo_take 102 = .ok (.getfield 7, 3) := by decide +kernel
theorem d_Mo_take_105 : decode cb_Mo_take 105 = .ok (.bipush 64, 2) := by decide +kernel
theorem d_Mo_take_107 : decode cb_Mo_take 107 = .ok (.iload_n 2, 1) := by decide +kernel
theorem d_Mo_take_108 : decode cb_Mo_take 108 = .ok (.imul, 1) := by decide +kernel
theorem d_Mo_take_109 : decode cb_Mo_take 109 = .ok (.bipush 64, 2) := by decide +kernel
theorem d_Mo_take_111 : decode cb_Mo_take 111 = .ok (.iadd, 1) := by decide +kernel
theorem d_Mo_take_112 : decode cb_Mo_take 112 = .ok (.iload_n 3, 1) := by decide +kernel
theorem d_Mo_take_113 : decode cb_Mo_take 113 = .ok (.iadd, 1) := by decide +kernel
theorem d_Mo_take_114 : decode cb_Mo_take 114 = .ok (.iaload, 1) := by decide +kernel
theorem d_Mo_take_115 : decode cb_Mo_take 115 = .ok (.iastore, 1) := by decide +kernel
theorem d_Mo_take_116 : decode cb_Mo_take 116 = .ok (.iinc 3 1, 3) := by decide +kernel
theorem d_Mo_take_119 : decode cb_Mo_take 119 = .ok (.goto (-34), 3) := by decide +kernel
theorem d_Mo_take_122 : decode cb_Mo_take 122 = .ok (.iinc 2 1, 3) := by decide +kernel
theorem d_Mo_take_125 : decode cb_Mo_take 125 = .ok (.goto (-80), 3) := by decide +kernel
theorem d_Mo_take_128 : decode cb_Mo_take 128 = .ok (.aload_n 0, 1) := by decide +kernel
theorem d_Mo_take_129 : decode cb_Mo_take 129 = .ok (.dup, 1) := by decide +kernel
theorem d_Mo_take_130 : decode cb_Mo_take 130 = .ok (.getfield 156, 3) := by decide +kernel
theorem d_Mo_take_133 : decode cb_Mo_take 133 = .ok (.iconst 1, 1) := by decide +kernel
theorem d_Mo_take_134 : decode cb_Mo_take 134 = .ok (.isub, 1) := by decide +kernel
theorem d_Mo_take_135 : decode cb_Mo_take 135 = .ok (.putfield 156, 3) := by decide +kernel
theorem d_Mo_take_138 : decode cb_Mo_take 138 = .ok (.return_, 1) := by decide +kernel
theorem d_Mo_deliver_0 : decode cb_Mo_deliver 0 = .ok (.aload_n 0, 1) := by decide +kernel
theorem d_Mo_deliver_1 : decode cb_Mo_deliver 1 = .ok (.iload_n 1, 1) := by decide +kernel
theorem d_Mo_deliver_2 : decode cb_Mo_deliver 2 = .ok (.invokevirtual 310, 3) := by decide +kernel
theorem d_Mo_deliver_5 : decode cb_Mo_deliver 5 = .ok (.ifCond .ne 5, 3) := by decide +kernel
theorem d_Mo_deliver_8 : decode cb_Mo_deliver 8 = .ok (.iconst (-1), 1) := by decide +kernel
theorem d_Mo_deliver_9 : decode cb_Mo_deliver 9 = .ok (.ireturn, 1) := by decide +kernel
theorem d_Mo_deliver_10 : decode cb_Mo_deliver 10 = .ok (.aload_n 0, 1) := by decide +kernel
theorem d_Mo_deliver_11 : decode cb_Mo_deliver 11 = .ok (.getfield 16, 3) := by decide +kernel
theorem d_Mo_deliver_14 : decode cb_Mo_deliver 14 = .ok (.iload_n 1, 1) := by decide +kernel
theorem d_Mo_deliver_15 : decode cb_Mo_deliver 15 = .ok (.iaload, 1) := by decide +kernel
theorem d_Mo_deliver_16 : decode cb_Mo_deliver 16 = .ok (.istore_n 2, 1) := by decide +kernel
theorem d_Mo_deliver_17 : decode cb_Mo_deliver 17 = .ok (.aload_n 0, 1) := by decide +kernel
theorem d_Mo_deliver_18 : decode cb_Mo_deliver 18 = .ok (.iload_n 1, 1) := by decide +kernel
theorem d_Mo_deliver_19 : decode cb_Mo_deliver 19 = .ok (.invokevirtual 313, 3) := by decide +kernel
theorem d_Mo_deliver_22 : decode cb_Mo_deliver 22 = .ok (.aload_n 0, 1) := by decide +kernel
theorem d_Mo_deliver_23 : decode cb_Mo_deliver 23 = .ok (.invokevirtual 316, 3) := by decide +kernel
theorem d_Mo_deliver_26 : decode cb_Mo_deliver 26 = .ok (.ifCond .eq 18, 3) := by decide +kernel
theorem d_Mo_deliver_29 : decode cb_Mo_deliver 29 = .ok (.iload_n 2, 1) := by decide +kernel
theorem d_Mo_deliver_30 : decode cb_Mo_deliver 30 = .ok (.ifCond .ne 10, 3) := by decide +kernel
theorem d_Mo_deliver_33 : decode cb_Mo_deliver 33 = .ok (.aload_n 0, 1) := by decide +kernel
theorem d_Mo_deliver_34 : decode cb_Mo_deliver 34 = .ok (.invokevirtual 320, 3) := by decide +kernel
theorem d_Mo_deliver_37 : decode cb_Mo_deliver 37 = .ok (.goto 7, 3) := by decide +kernel
theorem d_Mo_deliver_40 : decode cb_Mo_deliver 40 = .ok (.aload_n 0, 1) := by decide +kernel
theorem d_Mo_deliver_41 : decode cb_Mo_deliver 41 = .ok (.invokevirtual 323, 3) := by decide +kernel
theorem d_Mo_deliver_44 : decode cb_Mo_deliver 44 = .ok (.aload_n 0, 1) := by decide +kernel
theorem d_Mo_deliver_45 : decode cb_Mo_deliver 45 = .ok (.getfield 156, 3) := by decide +kernel
theorem d_Mo_deliver_48 : decode cb_Mo_deliver 48 = .ok (.ireturn, 1) := by decide +kernel
theorem d_Mo_lose_0 : decode cb_Mo_lose 0 = .ok (.aload_n 0, 1) := by decide +kernel
theorem d_Mo_lose_1 : decode cb_Mo_lose 1 = .ok (.iload_n 1, 1) := by decide +kernel
theorem d_Mo_lose_2 : decode cb_Mo_lose 2 = .ok (.invokevirtual 310, 3) := by decide +kernel
theorem d_Mo_lose_5 : decode cb_Mo_lose 5 = .ok (.ifCond .ne 5, 3) := by decide +kernel
theorem d_Mo_lose_8 : decode cb_Mo_lose 8 = .ok (.iconst (-1), 1) := by decide +kernel
theorem d_Mo_lose_9 : decode cb_Mo_lose 9 = .ok (.ireturn, 1) := by decide +kernel
theorem d_Mo_lose_10 : decode cb_Mo_lose 10 = .ok (.aload_n 0, 1) := by decide +kernel
theorem d_Mo_lose_11 : decode cb_Mo_lose 11 = .ok (.iload_n 1, 1) := by decide +kernel
theorem d_Mo_lose_12 : decode cb_Mo_lose 12 = .ok (.invokevirtual 313, 3) := by decide +kernel
theorem d_Mo_lose_15 : decode cb_Mo_lose 15 = .ok (.aload_n 0, 1) := by decide +kernel
theorem d_Mo_lose_16 : decode cb_Mo_lose 16 = .ok (.getfield 156, 3) := by decide +kernel
theorem d_Mo_lose_19 : decode cb_Mo_lose 19 = .ok (.ireturn, 1) := by decide +kernel
theorem d_Mo_repeat_0 : decode cb_Mo_repeat 0 = .ok (.aload_n 0, 1) := by decide +kernel
theorem d_Mo_repeat_1 : decode cb_Mo_repeat 1 = .ok (.iload_n 1, 1) := by decide +kernel
theorem d_Mo_repeat_2 : decode cb_Mo_repeat 2 = .ok (.invokevirtual 310, 3) := by decide +kernel
theorem d_Mo_repeat_5 : decode cb_Mo_repeat 5 = .ok (.ifCond .ne 5, 3) := by decide +kernel
theorem d_Mo_repeat_8 : decode cb_Mo_repeat 8 = .ok (.iconst (-1), 1) := by decide +kernel
theorem d_Mo_repeat_9 : decode cb_Mo_repeat 9 = .ok (.ireturn, 1) := by decide +kernel
theorem d_Mo_repeat_10 : decode cb_Mo_repeat 10 = .ok (.aload_n 0, 1) := by decide +kernel
theorem d_Mo_repeat_11 : decode cb_Mo_repeat 11 = .ok (.aload_n 0, 1) := by decide +kernel
theorem d_Mo_repeat_12 : decode cb_Mo_repeat 12 = .ok (.getfield 13, 3) := by decide +kernel
theorem d_Mo_repeat_15 : decode cb_Mo_repeat 15 = .ok (.iload_n 1, 1) := by decide +kernel
theorem d_Mo_repeat_16 : decode cb_Mo_repeat 16 = .ok (.iaload, 1) := by decide +kernel
theorem d_Mo_repeat_17 : decode cb_Mo_repeat 17 = .ok (.putfield 138, 3) := by decide +kernel
theorem d_Mo_repeat_20 : decode cb_Mo_repeat 20 = .ok (.iconst 0, 1) := by decide +kernel
theorem d_Mo_repeat_21 : decode cb_Mo_repeat 21 = .ok (.istore_n 2, 1) := by decide +kernel
theorem d_Mo_repeat_22 : decode cb_Mo_repeat 22 = .ok (.iload_n 2, 1) := by decide +kernel
theorem d_Mo_repeat_23 : decode cb_Mo_repeat 23 = .ok (.aload_n 0, 1) := by decide +kernel
theorem d_Mo_repeat_24 : decode cb_Mo_repeat 24 = .ok (.getfield 138, 3) := by decide +kernel
theorem d_Mo_repeat_27 : decode cb_Mo_repeat 27 = .ok (.if_icmp .ge 26, 3) := by decide +kernel
theorem d_Mo_repeat_30 : decode cb_Mo_repeat 30 = .ok (.aload_n 0, 1) := by decide +kernel
theorem d_Mo_repeat_31 : decode cb_Mo_repeat 31 = .ok (.getfield 126, 3) := by decide +kernel
theorem d_Mo_repeat_34 : decode cb_Mo_repeat 34 = .ok (.iload_n 2, 1) := by decide +kernel
theorem d_Mo_repeat_35 : decode cb_Mo_repeat 35 = .ok (.aload_n 0, 1) := by decide +kernel
theorem d_Mo_repeat_36 : decode cb_Mo_repeat 36 = .ok (.getfield 7, 3) := by decide +kernel
theorem d_Mo_repeat_39 : decode cb_Mo_repeat 39 = .ok (.bipush 64, 2) := by decide +kernel
theorem d_Mo_repeat_41 : decode cb_Mo_repeat 41 = .ok (.iload_n 1, 1) := by decide +kernel
theorem d_Mo_repeat_42 : decode cb_Mo_repeat 42 = .ok (.imul, 1) := by decide +kernel
theorem d_Mo_repeat_43 : decode cb_Mo_repeat 43 = .ok (.iload_n 2, 1) := by decide +kernel
theorem d_Mo_repeat_44 : decode cb_Mo_repeat 44 = .ok (.iadd, 1) := by decide +kernel
theorem d_Mo_repeat_45 : decode cb_Mo_repeat 45 = .ok (.iaload, 1) := by decide +kernel
theorem d_Mo_repeat_46 : decode cb_Mo_repeat 46 = .ok (.iastore, 1) := by decide +kernel
theorem d_Mo_repeat_47 : decode cb_Mo_repeat 47 = .ok (.iinc 2 1, 3) := by decide +kernel
theorem d_Mo_repeat_50 : decode cb_Mo_repeat 50 = .ok (.goto (-28), 3) := by decide +kernel
theorem d_Mo_repeat_53 : decode cb_Mo_repeat 53 = .ok (.aload_n 0, 1) := by decide +kernel
theorem d_Mo_repeat_54 : decode cb_Mo_repeat 54 = .ok (.aload_n 0, 1) := by decide +kernel
theorem d_Mo_repeat_55 : decode cb_Mo_repeat 55 = .ok (.getfield 16, 3) := by decide +kernel
theorem d_Mo_repeat_58 : decode cb_Mo_repeat 58 = .ok (.iload_n 1, 1) := by decide +kernel
theorem d_Mo_repeat_59 : decode cb_Mo_repeat 59 = .ok (.iaload, 1) := by decide +kernel
theorem d_Mo_repeat_60 : decode cb_Mo_repeat 60 = .ok (.invokevirtual 159, 3) := by decide +kernel
theorem d_Mo_repeat_63 : decode cb_Mo_repeat 63 = .ok (.aload_n 0, 1) := by decide +kernel
theorem d_Mo_repeat_64 : decode cb_Mo_repeat 64 = .ok (.getfield 156, 3) := by decide +kernel
theorem d_Mo_repeat_67 : decode cb_Mo_repeat 67 = .ok (.ireturn, 1) := by decide +kernel
theorem d_Mo_spoil_0 : decode cb_Mo_spoil 0 = .ok (.aload_n 0, 1) := by decide +kernel
theorem d_Mo_spoil_1 : decode cb_Mo_spoil 1 = .ok (.iload_n 1, 1) := by decide +kernel
theorem d_Mo_spoil_2 : decode cb_Mo_spoil 2 = .ok (.invokevirtual 310, 3) := by decide +kernel
theorem d_Mo_spoil_5 : decode cb_Mo_spoil 5 = .ok (.ifCond .eq 28, 3) := by decide +kernel
theorem d_Mo_spoil_8 : decode cb_Mo_spoil 8 = .ok (.iload_n 2, 1) := by decide +kernel
theorem d_Mo_spoil_9 : decode cb_Mo_spoil 9 = .ok (.ifCond .lt 24, 3) := by decide +kernel
theorem d_Mo_spoil_12 : decode cb_Mo_spoil 12 = .ok (.iload_n 2, 1) := by decide +kernel
theorem d_Mo_spoil_13 : decode cb_Mo_spoil 13 = .ok (.aload_n 0, 1) := by decide +kernel
theorem d_Mo_spoil_14 : decode cb_Mo_spoil 14 = .ok (.getfield 13, 3) := by decide +kernel
theorem d_Mo_spoil_17 : decode cb_Mo_spoil 17 = .ok (.iload_n 1, 1) := by decide +kernel
theorem d_Mo_spoil_18 : decode cb_Mo_spoil 18 = .ok (.iaload, 1) := by decide +kernel
theorem d_Mo_spoil_19 : decode cb_Mo_spoil 19 = .ok (.if_icmp .ge 14, 3) := by decide +kernel
theorem d_Mo_spoil_22 : decode cb_Mo_spoil 22 = .ok (.iload_n 3, 1) := by decide +kernel
theorem d_Mo_spoil_23 : decode cb_Mo_spoil 23 = .ok (.ifCond .lt 10, 3) := by decide +kernel
theorem d_Mo_spoil_26 : decode cb_Mo_spoil 26 = .ok (.iload_n 3, 1) := by decide +kernel
theorem d_Mo_spoil_27 : decode cb_Mo_spoil 27 = .ok (.sipush 255, 3) := by decide +kernel
theorem d_Mo_spoil_30 : decode cb_Mo_spoil 30 = .ok (.if_icmp .le 5, 3) := by decide +kernel
theorem d_Mo_spoil_33 : decode cb_Mo_spoil 33 = .ok (.iconst 0, 1) := by decide +kernel
theorem d_Mo_spoil_34 : decode cb_Mo_spoil 34 = .ok (.ireturn, 1) := by decide +kernel
theorem d_Mo_spoil_35 : decode cb_Mo_spoil 35 = .ok (.aload_n 0, 1) := by decide +kernel
theorem d_Mo_spoil_36 : decode cb_Mo_spoil 36 = .ok (.getfield 7, 3) := by decide +kernel
theorem d_Mo_spoil_39 : decode cb_Mo_spoil 39 = .ok (.bipush 64, 2) := by decide +kernel
theorem d_Mo_spoil_41 : decode cb_Mo_spoil 41 = .ok (.iload_n 1, 1) := by decide +kernel
theorem d_Mo_spoil_42 : decode cb_Mo_spoil 42 = .ok (.imul, 1) := by decide +kernel
theorem d_Mo_spoil_43 : decode cb_Mo_spoil 43 = .ok (.iload_n 2, 1) := by decide +kernel
theorem d_Mo_spoil_44 : decode cb_Mo_spoil 44 = .ok (.iadd, 1) := by decide +kernel
theorem d_Mo_spoil_45 : decode cb_Mo_spoil 45 = .ok (.aload_n 0, 1) := by decide +kernel
theorem d_Mo_spoil_46 : decode cb_Mo_spoil 46 = .ok (.getfield 7, 3) := by decide +kernel
theorem d_Mo_spoil_49 : decode cb_Mo_spoil 49 = .ok (.bipush 64, 2) := by decide +kernel
theorem d_Mo_spoil_51 : decode cb_Mo_spoil 51 = .ok (.iload_n 1, 1) := by decide +kernel
theorem d_Mo_spoil_52 : decode cb_Mo_spoil 52 = .ok (.imul, 1) := by decide +kernel
theorem d_Mo_spoil_53 : decode cb_Mo_spoil 53 = .ok (.iload_n 2, 1) := by decide +kernel
theorem d_Mo_spoil_54 : decode cb_Mo_spoil 54 = .ok (.iadd, 1) := by decide +kernel
theorem d_Mo_spoil_55 : decode cb_Mo_spoil 55 = .ok (.iaload, 1) := by decide +kernel
theorem d_Mo_spoil_56 : decode cb_Mo_spoil 56 = .ok (.iload_n 3, 1) := by decide +kernel
theorem d_Mo_spoil_57 : decode cb_Mo_spoil 57 = .ok (.ixor, 1) := by decide +kernel
theorem d_Mo_spoil_58 : decode cb_Mo_spoil 58 = .ok (.iastore, 1) := by decide +kernel
theorem d_Mo_spoil_59 : decode cb_Mo_spoil 59 = .ok (.iconst 1, 1) := by decide +kernel
theorem d_Mo_spoil_60 : decode cb_Mo_spoil 60 = .ok (.ireturn, 1) := by decide +kernel

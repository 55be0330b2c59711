theorem d_Li_takeOut_0 : decode cb_Li_takeOut 0 = .ok (.aload_n 0, 1) := by decide +kernel
theorem d_Li_takeOut_1 : decode cb_Li_takeOut 1 = .ok (.iload_n 1, 1) := by decide +kernel
theorem d_Li_takeOut_2 : decode cb_Li_takeOut 2 = .ok (.invokevirtual 32, 3) := by decide +kernel
theorem d_Li_takeOut_5 : decode cb_Li_takeOut 5 = .ok (.ifCond .ne 4, 3) := by decide +kernel
theorem d_Li_takeOut_8 : decode cb_Li_takeOut 8 = .ok (.return_, 1) := by decide +kernel
theorem d_Li_takeOut_9 : decode cb_Li_takeOut 9 = .ok (.aload_n 0, 1) := by decide +kernel
theorem d_Li_takeOut_10 : decode cb_Li_takeOut 10 = .ok (.getfield 11, 3) := by decide +kernel
theorem d_Li_takeOut_13 : decode cb_Li_takeOut 13 = .ok (.iload_n 1, 1) := by decide +kernel
theorem d_Li_takeOut_14 : decode cb_Li_takeOut 14 = .ok (.aaload, 1) := by decide +kernel
theorem d_Li_takeOut_15 : decode cb_Li_takeOut 15 = .ok (.astore_n 2, 1) := by decide +kernel
theorem d_Li_takeOut_16 : decode cb_Li_takeOut 16 = .ok (.iload_n 1, 1) := by decide +kernel
theorem d_Li_takeOut_17 : decode cb_Li_takeOut 17 = .ok (.istore_n 3, 1) := by decide +kernel
theorem d_Li_takeOut_18 : decode cb_Li_takeOut 18 = .ok (.iload_n 3, 1) := by decide +kernel
theorem d_Li_takeOut_19 : decode cb_Li_takeOut 19 = .ok (.aload_n 0, 1) := by decide +kernel
theorem d_Li_takeOut_20 : decode cb_Li_takeOut 20 = .ok (.getfield 24, 3) := by decide +kernel
theorem d_Li_takeOut_23 : decode cb_Li_takeOut 23 = .ok (.iconst 1, 1) := by decide +kernel
theorem d_Li_takeOut_24 : decode cb_Li_takeOut 24 = .ok (.isub, 1) := by decide +kernel
theorem d_Li_takeOut_25 : decode cb_Li_takeOut 25 = .ok (.if_icmp .ge 37, 3) := by decide +kernel
theorem d_Li_takeOut_28 : decode cb_Li_takeOut 28 = .ok (.aload_n 0, 1) := by decide +kernel
theorem d_Li_takeOut_29 : decode cb_Li_takeOut 29 = .ok (.getfield 11, 3) := by decide +kernel
theorem d_Li_takeOut_32 : decode cb_Li_takeOut 32 = .ok (.iload_n 3, 1) := by decide +kernel
theorem d_Li_takeOut_33 : decode cb_Li_takeOut 33 = .ok (.aload_n 0, 1) := by decide +kernel
theorem d_Li_takeOut_34 : decode cb_Li_takeOut 34 = .ok (.getfield 11, 3) := by decide +kernel
theorem d_Li_takeOut_37 : decode cb_Li_takeOut 37 = .ok (.iload_n 3, 1) := by decide +kernel
theorem d_Li_takeOut_38 : decode cb_Li_takeOut 38 = .ok (.iconst 1, 1) := by decide +kernel
theorem d_Li_takeOut_39 : decode cb_Li_takeOut 39 = .ok (.iadd, 1) := by decide +kernel
theorem d_Li_takeOut_40 : decode cb_Li_takeOut 40 = .ok (.aaload, 1) := by decide +kernel
theorem d_Li_takeOut_41 : decode cb_Li_takeOut 41 = .ok (.aastore, 1) := by decide +kernel
theorem d_Li_takeOut_42 : decode cb_Li_takeOut 42 = .ok (.aload_n 0, 1) := by decide +kernel
theorem d_Li_takeOut_43 : decode cb_Li_takeOut 43 = .ok (.getfield 17, 3) := by decide +kernel
theorem d_Li_takeOut_46 : decode cb_Li_takeOut 46 = .ok (.iload_n 3, 1) := by decide +kernel
theorem d_Li_takeOut_47 : decode cb_Li_takeOut 47 = .ok (.aload_n 0, 1) := by decide +kernel
theorem d_Li_takeOut_48 : decode cb_Li_takeOut 48 = .ok (.getfield 17, 3) := by decide +kernel
theorem d_Li_takeOut_51 : decode cb_Li_takeOut 51 = .ok (.iload_n 3, 1) := by decide +kernel
theorem d_Li_takeOut_52 : decode cb_Li_takeOut 52 = .ok (.iconst 1, 1) := by decide +kernel
theorem d_Li_takeOut_53 : decode cb_Li_takeOut 53 = .ok (.iadd, 1) := by decide +kernel
theorem d_Li_takeOut_54 : decode cb_Li_takeOut 54 = .ok (.iaload, 1) := by decide +kernel
theorem d_Li_takeOut_55 : decode cb_Li_takeOut 55 = .ok (.iastore, 1) := by decide +kernel
theorem d_Li_takeOut_56 : decode cb_Li_takeOut 56 = .ok (.iinc 3 1, 3) := by decide +kernel
theorem d_Li_takeOut_59 : decode cb_Li_takeOut 59 = .ok (.goto (-41), 3) := by decide +kernel
theorem d_Li_takeOut_62 : decode cb_Li_takeOut 62 = .ok (.aload_n 0, 1) := by decide +kernel
theorem d_Li_takeOut_63 : decode cb_Li_takeOut 63 = .ok (.dup, 1) := by decide +kernel
theorem d_Li_takeOut_64 : decode cb_Li_takeOut 64 = .ok (.getfield 24, 3) := by decide +kernel
theorem d_Li_takeOut_67 : decode cb_Li_takeOut 67 = .ok (.iconst 1, 1) := by decide +kernel
theorem d_Li_takeOut_68 : decode cb_Li_takeOut 68 = .ok (.isub, 1) := by decide +kernel
theorem d_Li_takeOut_69 : decode cb_Li_takeOut 69 = .ok (.putfield 24, 3) := by decide +kernel
theorem d_Li_takeOut_72 : decode cb_Li_takeOut 72 = .ok (.aload_n 0, 1) := by decide +kernel
theorem d_Li_takeOut_73 : decode cb_Li_takeOut 73 = .ok (.getfield 11, 3) := by decide +kernel
theorem d_Li_takeOut_76 : decode cb_Li_takeOut 76 = .ok (.aload_n 0, 1) := by decide +kernel
theorem d_Li_takeOut_77 : decode cb_Li_takeOut 77 = .ok (.getfield 24, 3) := by decide +kernel
theorem d_Li_takeOut_80 : decode cb_Li_takeOut 80 = .ok (.aload_n 2, 1) := by decide +kernel
theorem d_Li_takeOut_81 : decode cb_Li_takeOut 81 = .ok (.aastore, 1) := by decide +kernel
theorem d_Li_takeOut_82 : decode cb_Li_takeOut 82 = .ok (.return_, 1) := by decide +kernel
theorem d_Pe_isFor_0 : decode cb_Pe_isFor 0 = .ok (.aload_n 0, 1) := by decide +kernel
theorem d_Pe_isFor_1 : decode cb_Pe_isFor 1 = .ok (.getfield 20, 3) := by decide +kernel
theorem d_Pe_isFor_4 : decode cb_Pe_isFor 4 = .ok (.ifCond .eq 15, 3) := by decide +kernel
theorem d_Pe_isFor_7 : decode cb_Pe_isFor 7 = .ok (.aload_n 0, 1) := by decide +kernel
theorem d_Pe_isFor_8 : decode cb_Pe_isFor 8 = .ok (.getfield 28, 3) := by decide +kernel
theorem d_Pe_isFor_11 : decode cb_Pe_isFor 11 = .ok (.iload_n 1, 1) := by decide +kernel
theorem d_Pe_isFor_12 : decode cb_Pe_isFor 12 = .ok (.if_icmp .ne 7, 3) := by decide +kernel
theorem d_Pe_isFor_15 : decode cb_Pe_isFor 15 = .ok (.iconst 1, 1) := by decide +kernel
theorem d_Pe_isFor_16 : decode cb_Pe_isFor 16 = .ok (.goto 4, 3) := by decide +kernel
theorem d_Pe_isFor_19 : decode cb_Pe_isFor 19 = .ok (.iconst 0, 1) := by decide +kernel
theorem d_Pe_isFor_20 : decode cb_Pe_isFor 20 = .ok (.ireturn, 1) := by decide +kernel
theorem d_Sl_isAskedFor_0 : decode cb_Sl_isAskedFor 0 = .ok (.aload_n 0, 1) := by decide +kernel
theorem d_Sl_isAskedFor_1 : decode cb_Sl_isAskedFor 1 = .ok (.getfield 34, 3) := by decide +kernel
theorem d_Sl_isAskedFor_4 : decode cb_Sl_isAskedFor 4 = .ok (.iconst 1, 1) := by decide +kernel
theorem d_Sl_isAskedFor_5 : decode cb_Sl_isAskedFor 5 = .ok (.if_icmp .ne 32, 3) := by decide +kernel
theorem d_Sl_isAskedFor_8 : decode cb_Sl_isAskedFor 8 = .ok (.aload_n 0, 1) := by decide +kernel
theorem d_Sl_isAskedFor_9 : decode cb_Sl_isAskedFor 9 = .ok (.getfield 23, 3) := by decide +kernel
theorem d_Sl_isAskedFor_12 : decode cb_Sl_isAskedFor 12 = .ok (.aload_n 1, 1) := by decide +kernel
theorem d_Sl_isAskedFor_13 : decode cb_Sl_isAskedFor 13 = .ok (.getfield 71, 3) := by decide +kernel
theorem d_Sl_isAskedFor_16 : decode cb_Sl_isAskedFor 16 = .ok (.invokevirtual 76, 3) := by decide +kernel
theorem d_Sl_isAskedFor_19 : decode cb_Sl_isAskedFor 19 = .ok (.ifCond .eq 18, 3) := by decide +kernel
theorem d_Sl_isAskedFor_22 : decode cb_Sl_isAskedFor 22 = .ok (.aload_n 0, 1) := by decide +kernel
theorem d_Sl_isAskedFor_23 : decode cb_Sl_isAskedFor 23 = .ok (.getfield 37, 3) := by decide +kernel
theorem d_Sl_isAskedFor_26 : decode cb_Sl_isAskedFor 26 = .ok (.aload_n 1, 1) := by decide +kernel
theorem d_Sl_isAskedFor_27 : decode cb_Sl_isAskedFor 27 = .ok (.getfield 80, 3) := by decide +kernel
theorem d_Sl_isAskedFor_30 : decode cb_Sl_isAskedFor 30 = .ok (.if_icmp .ne 7, 3) := by decide +kernel
theorem d_Sl_isAskedFor_33 : decode cb_Sl_isAskedFor 33 = .ok (.iconst 1, 1) := by decide +kernel
theorem d_Sl_isAskedFor_34 : decode cb_Sl_isAskedFor 34 = .ok (.goto 4, 3) := by decide +kernel
theorem d_Sl_isAskedFor_37 : decode cb_Sl_isAskedFor 37 = .ok (.iconst 0, 1) := by decide +kernel
theorem d_Sl_isAskedFor_38 : decode cb_Sl_isAskedFor 38 = .ok (.ireturn, 1) := by decide +kernel
theorem d_Ob_numOf_0 : decode cb_Ob_numOf 0 = .ok (.iload_n 0, 1) := by decide +kernel
theorem d_Ob_numOf_1 : decode cb_Ob_numOf 1 = .ok (.iconst 4, 1) := by decide +kernel
theorem d_Ob_numOf_2 : decode cb_Ob_numOf 2 = .ok (.ishr, 1) := by decide +kernel
theorem d_Ob_numOf_3 : decode cb_Ob_numOf 3 = .ok (.ireturn, 1) := by decide +kernel
theorem d_Sl_isBlockDue_0 : decode cb_Sl_isBlockDue 0 = .ok (.aload_n 1, 1) := by decide +kernel
theorem d_Sl_isBlockDue_1 : decode cb_Sl_isBlockDue 1 = .ok (.getfield 102, 3) := by decide +kernel
theorem d_Sl_isBlockDue_4 : decode cb_Sl_isBlockDue 4 = .ok (.iconst (-1), 1) := by decide +kernel
theorem d_Sl_isBlockDue_5 : decode cb_Sl_isBlockDue 5 = .ok (.if_icmp .eq 60, 3) := by decide +kernel
theorem d_Sl_isBlockDue_8 : decode cb_Sl_isBlockDue 8 = .ok (.aload_n 1, 1) := by decide +kernel
theorem d_Sl_isBlockDue_9 : decode cb_Sl_isBlockDue 9 = .ok (.getfield 102, 3) := by decide +kernel
theorem d_Sl_isBlockDue_12 : decode cb_Sl_isBlockDue 12 = .ok (.invokestatic 105, 3) := by decide +kernel
theorem d_Sl_isBlockDue_15 : decode cb_Sl_isBlockDue 15 = .ok (.aload_n 0, 1) := by decide +kernel
theorem d_Sl_isBlockDue_16 : decode cb_Sl_isBlockDue 16 = .ok (.getfield 46, 3) := by decide +kernel
theorem d_Sl_isBlockDue_19 : decode cb_Sl_isBlockDue 19 = .ok (.if_icmp .ne 46, 3) := by decide +kernel
theorem d_Sl_isBlockDue_22 : decode cb_Sl_isBlockDue 22 = .ok (.aload_n 1, 1) := by decide +kernel
theorem d_Sl_isBlockDue_23 : decode cb_Sl_isBlockDue 23 = .ok (.getfield 102, 3) := by decide +kernel
theorem d_Sl_isBlockDue_26 : decode cb_Sl_isBlockDue 26 = .ok (.invokestatic 108, 3) := by decide +kernel
theorem d_Sl_isBlockDue_29 : decode cb_Sl_isBlockDue 29 = .ok (.aload_n 0, 1) := by decide +kernel
theorem d_Sl_isBlockDue_30 : decode cb_Sl_isBlockDue 30 = .ok (.getfield 43, 3) := by decide +kernel
theorem d_Sl_isBlockDue_33 : decode cb_Sl_isBlockDue 33 = .ok (.if_icmp .ne 32, 3) := by decide +kernel
theorem d_Sl_isBlockDue_36 : decode cb_Sl_isBlockDue 36 = .ok (.aload_n 0, 1) := by decide +kernel
theorem d_Sl_isBlockDue_37 : decode cb_Sl_isBlockDue 37 = .ok (.getfield 46, 3) := by decide +kernel
theorem d_Sl_isBlockDue_40 : decode cb_Sl_isBlockDue 40 = .ok (.aload_n 0, 1) := by decide +kernel
theorem d_Sl_isBlockDue_41 : decode cb_Sl_isBlockDue 41 = .ok (.getfield 43, 3) := by decide +kernel
theorem d_Sl_isBlockDue_44 : decode cb_Sl_isBlockDue 44 = .ok (.invokestatic 84, 3) := by decide +kernel
theorem d_Sl_isBlockDue_47 : decode cb_Sl_isBlockDue 47 = .ok (.imul, 1) := by decide +kernel
theorem d_Sl_isBlockDue_48 : decode cb_Sl_isBlockDue 48 = .ok (.aload_n 1, 1) := by decide +kernel
theorem d_Sl_isBlockDue_49 : decode cb_Sl_isBlockDue 49 = .ok (.getfield 111, 3) := by decide +kernel
theorem d_Sl_isBlockDue_52 : decode cb_Sl_isBlockDue 52 = .ok (.getfield 81, 3) := by decide +kernel
theorem d_Sl_isBlockDue_55 : decode cb_Sl_isBlockDue 55 = .ok (.iadd, 1) := by decide +kernel
theorem d_Sl_isBlockDue_56 : decode cb_Sl_isBlockDue 56 = .ok (.bipush 64, 2) := by decide +kernel
theorem d_Sl_isBlockDue_58 : decode cb_Sl_isBlockDue 58 = .ok (.if_icmp .gt 7, 3) := by decide +kernel
theorem d_Sl_isBlockDue_61 : decode cb_Sl_isBlockDue 61 = .ok (.iconst 1, 1) := by decide +kernel
theorem d_Sl_isBlockDue_62 : decode cb_Sl_isBlockDue 62 = .ok (.goto 4, 3) := by decide +kernel
theorem d_Sl_isBlockDue_65 : decode cb_Sl_isBlockDue 65 = .ok (.iconst 0, 1) := by decide +kernel
theorem d_Sl_isBlockDue_66 : decode cb_Sl_isBlockDue 66 = .ok (.ireturn, 1) := by decide +kernel
theorem d_By_cutTo_0 : decode cb_By_cutTo 0 = .ok (.aload_n 0, 1) := by decide +kernel
theorem d_By_cutTo_1 : decode cb_By_cutTo 1 = .ok (.aload_n 0, 1) := by decide +kernel
theorem d_By_cutTo_2 : decode cb_By_cutTo 2 = .ok (.getfield 15, 3) := by decide +kernel
theorem d_By_cutTo_5 : decode cb_By_cutTo 5 = .ok (.iload_n 1, 1) := by decide +kernel
theorem d_By_cutTo_6 : decode cb_By_cutTo 6 = .ok (.invokestatic 23, 3) := by decide +kernel
theorem d_By_cutTo_9 : decode cb_By_cutTo 9 = .ok (.putfield 15, 3) := by decide +kernel
theorem d_By_cutTo_12 : decode cb_By_cutTo 12 = .ok (.return_, 1) := by decide +kernel
theorem d_Ob_hasMore_0 : decode cb_Ob_hasMore 0 = .ok (.iload_n 0, 1) := by decide +kernel
theorem d_Ob_hasMore_1 : decode cb_Ob_hasMore 1 = .ok (.bipush 8, 2) := by decide +kernel
theorem d_Ob_hasMore_3 : decode cb_Ob_hasMore 3 = .ok (.iand, 1) := by decide +kernel
theorem d_Ob_hasMore_4 : decode cb_Ob_hasMore 4 = .ok (.ifCond .eq 7, 3) := by decide +kernel
theorem d_Ob_hasMore_7 : decode cb_Ob_hasMore 7 = .ok (.iconst 1, 1) := by decide +kernel
theorem d_Ob_hasMore_8 : decode cb_Ob_hasMore 8 = .ok (.goto 4, 3) := by decide +kernel
theorem d_Ob_hasMore_11 : decode cb_Ob_hasMore 11 = .ok (.iconst 0, 1) := by decide +kernel
theorem d_Ob_hasMore_12 : decode cb_Ob_hasMore 12 = .ok (.ireturn, 1) := by decide +kernel
theorem d_Sl_goOn_0 : decode cb_Sl_goOn 0 = .ok (.aload_n 1, 1) := by decide +kernel
theorem d_Sl_goOn_1 : decode cb_Sl_goOn 1 = .ok (.getfield 102, 3) := by decide +kernel
theorem d_Sl_goOn_4 : decode cb_Sl_goOn 4 = .ok (.invokestatic 132, 3) := by decide +kernel
theorem d_Sl_goOn_7 : decode cb_Sl_goOn 7 = .ok (.ifCond .eq 15, 3) := by decide +kernel
theorem d_Sl_goOn_10 : decode cb_Sl_goOn 10 = .ok (.aload_n 0, 1) := by decide +kernel
theorem d_Sl_goOn_11 : decode cb_Sl_goOn 11 = .ok (.dup, 1) := by decide +kernel
theorem d_Sl_goOn_12 : decode cb_Sl_goOn 12 = .ok (.getfield 46, 3) := by decide +kernel
theorem d_Sl_goOn_15 : decode cb_Sl_goOn 15 = .ok (.iconst 1, 1) := by decide +kernel
theorem d_Sl_goOn_16 : decode cb_Sl_goOn 16 = .ok (.iadd, 1) := by decide +kernel
theorem d_Sl_goOn_17 : decode cb_Sl_goOn 17 = .ok (.putfield 46, 3) := by decide +kernel
theorem d_Sl_goOn_20 : decode cb_Sl_goOn 20 = .ok (.iconst 1, 1) := by decide +kernel
theorem d_Sl_goOn_21 : decode cb_Sl_goOn 21 = .ok (.ireturn, 1) := by decide +kernel
theorem d_Sl_goOn_22 : decode cb_Sl_goOn 22 = .ok (.aload_n 0, 1) := by decide +kernel
theorem d_Sl_goOn_23 : decode cb_Sl_goOn 23 = .ok (.iconst 2, 1) := by decide +kernel
theorem d_Sl_goOn_24 : decode cb_Sl_goOn 24 = .ok (.putfield 34, 3) := by decide +kernel
theorem d_Sl_goOn_27 : decode cb_Sl_goOn 27 = .ok (.iconst 0, 1) := by decide +kernel
theorem d_Sl_goOn_28 : decode cb_Sl_goOn 28 = .ok (.ireturn, 1) := by decide +kernel
theorem d_Sl_takeBlock_0 : decode cb_Sl_takeBlock 0 = .ok (.aload_n 0, 1) := by decide +kernel
theorem d_Sl_takeBlock_1 : decode cb_Sl_takeBlock 1 = .ok (.getfield 14, 3) := by decide +kernel
theorem d_Sl_takeBlock_4 : decode cb_Sl_takeBlock 4 = .ok (.aload_n 0, 1) := by decide +kernel
theorem d_Sl_takeBlock_5 : decode cb_Sl_takeBlock 5 = .ok (.getfield 46, 3) := by decide +kernel
theorem d_Sl_takeBlock_8 : decode cb_Sl_takeBlock 8 = .ok (.aload_n 0, 1) := by decide +kernel
theorem d_Sl_takeBlock_9 : decode cb_Sl_takeBlock 9 = .ok (.getfield 43, 3) := by decide +kernel
theorem d_Sl_takeBlock_12 : decode cb_Sl_takeBlock 12 = .ok (.invokestatic 84, 3) := by decide +kernel
theorem d_Sl_takeBlock_15 : decode cb_Sl_takeBlock 15 = .ok (.imul, 1) := by decide +kernel
theorem d_Sl_takeBlock_16 : decode cb_Sl_takeBlock 16 = .ok (.invokevirtual 114, 3) := by decide +kernel
theorem d_Sl_takeBlock_19 : decode cb_Sl_takeBlock 19 = .ok (.aload_n 0, 1) := by decide +kernel
theorem d_Sl_takeBlock_20 : decode cb_Sl_takeBlock 20 = .ok (.getfield 14, 3) := by decide +kernel
theorem d_Sl_takeBlock_23 : decode cb_Sl_takeBlock 23 = .ok (.aload_n 1, 1) := by decide +kernel
theorem d_Sl_takeBlock_24 : decode cb_Sl_takeBlock 24 = .ok (.getfield 111, 3) := by decide +kernel
theorem d_Sl_takeBlock_27 : decode cb_Sl_takeBlock 27 = .ok (.iconst 0, 1) := by decide +kernel
theorem d_Sl_takeBlock_28 : decode cb_Sl_takeBlock 28 = .ok (.aload_n 1, 1) := by decide +kernel
theorem d_Sl_takeBlock_29 : decode cb_Sl_takeBlock 29 = .ok (.getfield 111, 3) := by decide +kernel
theorem d_Sl_takeBlock_32 : decode cb_Sl_takeBlock 32 = .ok (.getfield 81, 3) := by decide +kernel
theorem d_Sl_takeBlock_35 : decode cb_Sl_takeBlock 35 = .ok (.invokevirtual 117, 3) := by decide +kernel
theorem d_Sl_takeBlock_38 : decode cb_Sl_takeBlock 38 = .ok (.aload_n 0, 1) := by decide +kernel
theorem d_Sl_takeBlock_39 : decode cb_Sl_takeBlock 39 = .ok (.getfield 53, 3) := by decide +kernel
theorem d_Sl_takeBlock_42 : decode cb_Sl_takeBlock 42 = .ok (.ifCond .eq 24, 3) := by decide +kernel
theorem d_Sl_takeBlock_45 : decode cb_Sl_takeBlock 45 = .ok (.aload_n 1, 1) := by decide +kernel
theorem d_Sl_takeBlock_46 : decode cb_Sl_takeBlock 46 = .ok (.getfield 121, 3) := by decide +kernel
theorem d_Sl_takeBlock_49 : decode cb_Sl_takeBlock 49 = .ok (.iconst (-1), 1) := by decide +kernel
theorem d_Sl_takeBlock_50 : decode cb_Sl_takeBlock 50 = .ok (.if_icmp .eq 16, 3) := by decide +kernel
theorem d_Sl_takeBlock_53 : decode cb_Sl_takeBlock 53 = .ok (.aload_n 0, 1) := by decide +kernel
theorem d_Sl_takeBlock_54 : decode cb_Sl_takeBlock 54 = .ok (.iconst 1, 1) := by decide +kernel
theorem d_Sl_takeBlock_55 : decode cb_Sl_takeBlock 55 = .ok (.putfield 56, 3) := by decide +kernel
theorem d_Sl_takeBlock_58 : decode cb_Sl_takeBlock 58 = .ok (.aload_n 0, 1) := by decide +kernel
theorem d_Sl_takeBlock_59 : decode cb_Sl_takeBlock 59 = .ok (.aload_n 1, 1) := by decide +kernel
theorem d_Sl_takeBlock_60 : decode cb_Sl_takeBlock 60 = .ok (.getfield 121, 3) := by decide +kernel
theorem d_Sl_takeBlock_63 : decode cb_Sl_takeBlock 63 = .ok (.putfield 59, 3) := by decide +kernel
theorem d_Sl_takeBlock_66 : decode cb_Sl_takeBlock 66 = .ok (.aload_n 0, 1) := by decide +kernel
theorem d_Sl_takeBlock_67 : decode cb_Sl_takeBlock 67 = .ok (.aload_n 1, 1) := by decide +kernel
theorem d_Sl_takeBlock_68 : decode cb_Sl_takeBlock 68 = .ok (.invokevirtual 124, 3) := by decide +kernel
theorem d_Sl_takeBlock_71 : decode cb_Sl_takeBlock 71 = .ok (.ireturn, 1) := by decide +kernel
theorem d_Sl_takeAnswer_0 : decode cb_Sl_takeAnswer 0 = .ok (.aload_n 0, 1) := by decide +kernel
theorem d_Sl_takeAnswer_1 : decode cb_Sl_takeAnswer 1 = .ok (.getfield 23, 3) := by decide +kernel
theorem d_Sl_takeAnswer_4 : decode cb_Sl_takeAnswer 4 = .ok (.invokevirtual 68, 3) := by decide +kernel
theorem d_Sl_takeAnswer_7 : decode cb_Sl_takeAnswer 7 = .ok (.aload_n 0, 1) := by decide +kernel
theorem d_Sl_takeAnswer_8 : decode cb_Sl_takeAnswer 8 = .ok (.getfield 49, 3) := by decide +kernel
theorem d_Sl_takeAnswer_11 : decode cb_Sl_takeAnswer 11 = .ok (.ifCond .ne 26, 3) := by decide +kernel
theorem d_Sl_takeAnswer_14 : decode cb_Sl_takeAnswer 14 = .ok (.aload_n 1, 1) := by decide +kernel
theorem d_Sl_takeAnswer_15 : decode cb_Sl_takeAnswer 15 = .ok (.getfield 88, 3) := by decide +kernel
theorem d_Sl_takeAnswer_18 : decode cb_Sl_takeAnswer 18 = .ok (.bipush 69, 2) := by decide +kernel
theorem d_Sl_takeAnswer_20 : decode cb_Sl_takeAnswer 20 = .ok (.if_icmp .ne 17, 3) := by decide +kernel
theorem d_Sl_takeAnswer_23 : decode cb_Sl_takeAnswer 23 = .ok (.aload_n 0, 1) := by decide +kernel
theorem d_Sl_takeAnswer_24 : decode cb_Sl_takeAnswer 24 = .ok (.aload_n 1, 1) := by decide +kernel
theorem d_Sl_takeAnswer_25 : decode cb_Sl_takeAnswer 25 = .ok (.invokevirtual 91, 3) := by decide +kernel
theorem d_Sl_takeAnswer_28 : decode cb_Sl_takeAnswer 28 = .ok (.ifCond .eq 9, 3) := by decide +kernel
theorem d_Sl_takeAnswer_31 : decode cb_Sl_takeAnswer 31 = .ok (.aload_n 0, 1) := by decide +kernel
theorem d_Sl_takeAnswer_32 : decode cb_Sl_takeAnswer 32 = .ok (.aload_n 1, 1) := by decide +kernel
theorem d_Sl_takeAnswer_33 : decode cb_Sl_takeAnswer 33 = .ok (.invokevirtual 95, 3) := by decide +kernel
theorem d_Sl_takeAnswer_36 : decode cb_Sl_takeAnswer 36 = .ok (.ireturn, 1) := by decide +kernel
theorem d_Sl_takeAnswer_37 : decode cb_Sl_takeAnswer 37 = .ok (.aload_n 0, 1) := by decide +kernel
theorem d_Sl_takeAnswer_38 : decode cb_Sl_takeAnswer 38 = .ok (.getfield 49, 3) := by decide +kernel
theorem d_Sl_takeAnswer_41 : decode cb_Sl_takeAnswer 41 = .ok (.ifCond .eq 31, 3) := by decide +kernel
theorem d_Sl_takeAnswer_44 : decode cb_Sl_takeAnswer 44 = .ok (.aload_n 1, 1) := by decide +kernel
theorem d_Sl_takeAnswer_45 : decode cb_Sl_takeAnswer 45 = .ok (.getfield 88, 3) := by decide +kernel
theorem d_Sl_takeAnswer_48 : decode cb_Sl_takeAnswer 48 = .ok (.bipush 95, 2) := by decide +kernel
theorem d_Sl_takeAnswer_50 : decode cb_Sl_takeAnswer 50 = .ok (.if_icmp .ne 22, 3) := by decide +kernel
theorem d_Sl_takeAnswer_53 : decode cb_Sl_takeAnswer 53 = .ok (.aload_n 0, 1) := by decide +kernel
theorem d_Sl_takeAnswer_54 : decode cb_Sl_takeAnswer 54 = .ok (.invokevirtual 98, 3) := by decide +kernel
theorem d_Sl_takeAnswer_57 : decode cb_Sl_takeAnswer 57 = .ok (.ifCond .eq 15, 3) := by decide +kernel
theorem d_Sl_takeAnswer_60 : decode cb_Sl_takeAnswer 60 = .ok (.aload_n 0, 1) := by decide +kernel
theorem d_Sl_takeAnswer_61 : decode cb_Sl_takeAnswer 61 = .ok (.dup, 1) := by decide +kernel
theorem d_Sl_takeAnswer_62 : decode cb_Sl_takeAnswer 62 = .ok (.getfield 46, 3) := by decide +kernel
theorem d_Sl_takeAnswer_65 : decode cb_Sl_takeAnswer 65 = .ok (.iconst 1, 1) := by decide +kernel
theorem d_Sl_takeAnswer_66 : decode cb_Sl_takeAnswer 66 = .ok (.iadd, 1) := by decide +kernel
theorem d_Sl_takeAnswer_67 : decode cb_Sl_takeAnswer 67 = .ok (.putfield 46, 3) := by decide +kernel
theorem d_Sl_takeAnswer_70 : decode cb_Sl_takeAnswer 70 = .ok (.iconst 1, 1) := by decide +kernel
theorem d_Sl_takeAnswer_71 : decode cb_Sl_takeAnswer 71 = .ok (.ireturn, 1) := by decide +kernel
theorem d_Sl_takeAnswer_72 : decode cb_Sl_takeAnswer 72 = .ok (.aload_n 0, 1) := by decide +kernel
theorem d_Sl_takeAnswer_73 : decode cb_Sl_takeAnswer 73 = .ok (.getfield 49, 3) := by decide +kernel
theorem d_Sl_takeAnswer_76 : decode cb_Sl_takeAnswer 76 = .ok (.ifCond .eq 19, 3) := by decide +kernel
theorem d_Sl_takeAnswer_79 : decode cb_Sl_takeAnswer 79 = .ok (.aload_n 1, 1) := by decide +kernel
theorem d_Sl_takeAnswer_80 : decode cb_Sl_takeAnswer 80 = .ok (.getfield 88, 3) := by decide +kernel
theorem d_Sl_takeAnswer_83 : decode cb_Sl_takeAnswer 83 = .ok (.bipush 68, 2) := by decide +kernel
theorem d_Sl_takeAnswer_85 : decode cb_Sl_takeAnswer 85 = .ok (.if_icmp .ne 10, 3) := by decide +kernel
theorem d_Sl_takeAnswer_88 : decode cb_Sl_takeAnswer 88 = .ok (.aload_n 0, 1) := by decide +kernel
theorem d_Sl_takeAnswer_89 : decode cb_Sl_takeAnswer 89 = .ok (.iconst 2, 1) := by decide +kernel
theorem d_Sl_takeAnswer_90 : decode cb_Sl_takeAnswer 90 = .ok (.putfield 34, 3) := by decide +kernel
theorem d_Sl_takeAnswer_93 : decode cb_Sl_takeAnswer 93 = .ok (.iconst 0, 1) := by decide +kernel
theorem d_Sl_takeAnswer_94 : decode cb_Sl_takeAnswer 94 = .ok (.ireturn, 1) := by decide +kernel
theorem d_Sl_takeAnswer_95 : decode cb_Sl_takeAnswer 95 = .ok (.aload_n 0, 1) := by decide +kernel
theorem d_Sl_takeAnswer_96 : decode cb_Sl_takeAnswer 96 = .ok (.iconst 4, 1) := by decide +kernel
theorem d_Sl_takeAnswer_97 : decode cb_Sl_takeAnswer 97 = .ok (.putfield 34, 3) := by decide +kernel
theorem d_Sl_takeAnswer_100 : decode cb_Sl_takeAnswer 100 = .ok (.aload_n 0, 1) := by decide +kernel
theorem d_Sl_takeAnswer_101 : decode cb_Sl_takeAnswer 101 = .ok (.aload_n 1, 1) := by decide +kernel
theorem d_Sl_takeAnswer_102 : decode cb_Sl_takeAnswer 102 = .ok (.getfield 88, 3) := by decide +kernel
theorem d_Sl_takeAnswer_105 : decode cb_Sl_takeAnswer 105 = .ok (.putfield 62, 3) := by decide +kernel
theorem d_Sl_takeAnswer_108 : decode cb_Sl_takeAnswer 108 = .ok (.iconst 0, 1) := by decide +kernel
theorem d_Sl_takeAnswer_109 : decode cb_Sl_takeAnswer 109 = .ok (.ireturn, 1) := by decide +kernel
theorem d_Cl_receiveAnswer_0 : decode cb_Cl_receiveAnswer 0 = .ok (.iconst 0, 1) := by decide +kernel
theorem d_Cl_receiveAnswer_1 : decode cb_Cl_receiveAnswer 1 = .ok (.istore_n 2, 1) := by decide +kernel
theorem d_Cl_receiveAnswer_2 : decode cb_Cl_receiveAnswer 2 = .ok (.iload_n 2, 1) := by decide +kernel
theorem d_Cl_receiveAnswer_3 : decode cb_Cl_receiveAnswer 3 = .ok (.iconst 2, 1) := by decide +kernel
theorem d_Cl_receiveAnswer_4 : decode cb_Cl_receiveAnswer 4 = .ok (.if_icmp .ge 46, 3) := by decide +kernel
theorem d_Cl_receiveAnswer_7 : decode cb_Cl_receiveAnswer 7 = .ok (.aload_n 0, 1) := by decide +kernel
theorem d_Cl_receiveAnswer_8 : decode cb_Cl_receiveAnswer 8 = .ok (.getfield 11, 3) := by decide +kernel
theorem d_Cl_receiveAnswer_11 : decode cb_Cl_receiveAnswer 11 = .ok (.iload_n 2, 1) := by decide +kernel
theorem d_Cl_receiveAnswer_12 : decode cb_Cl_receiveAnswer 12 = .ok (.aaload, 1) := by decide +kernel
theorem d_Cl_receiveAnswer_13 : decode cb_Cl_receiveAnswer 13 = .ok (.aload_n 1, 1) := by decide +kernel
theorem d_Cl_receiveAnswer_14 : decode cb_Cl_receiveAnswer 14 = .ok (.invokevirtual 138, 3) := by decide +kernel
theorem d_Cl_receiveAnswer_17 : decode cb_Cl_receiveAnswer 17 = .ok (.ifCond .eq 27, 3) := by decide +kernel
theorem d_Cl_receiveAnswer_20 : decode cb_Cl_receiveAnswer 20 = .ok (.aload_n 0, 1) := by decide +kernel
theorem d_Cl_receiveAnswer_21 : decode cb_Cl_receiveAnswer 21 = .ok (.getfield 11, 3) := by decide +kernel
theorem d_Cl_receiveAnswer_24 : decode cb_Cl_receiveAnswer 24 = .ok (.iload_n 2, 1) := by decide +kernel
theorem d_Cl_receiveAnswer_25 : decode cb_Cl_receiveAnswer 25 = .ok (.aaload, 1) := by decide +kernel
theorem d_Cl_receiveAnswer_26 : decode cb_Cl_receiveAnswer 26 = .ok (.aload_n 1, 1) := by decide +kernel
theorem d_Cl_receiveAnswer_27 : decode cb_Cl_receiveAnswer 27 = .ok (.invokevirtual 142, 3) := by decide +kernel
theorem d_Cl_receiveAnswer_30 : decode cb_Cl_receiveAnswer 30 = .ok (.ifCond .eq 13, 3) := by decide +kernel
theorem d_Cl_receiveAnswer_33 : decode cb_Cl_receiveAnswer 33 = .ok (.aload_n 0, 1) := by decide +kernel
theorem d_Cl_receiveAnswer_34 : decode cb_Cl_receiveAnswer 34 = .ok (.aload_n 0, 1) := by decide +kernel
theorem d_Cl_receiveAnswer_35 : decode cb_Cl_receiveAnswer 35 = .ok (.getfield 11, 3) := by decide +kernel
theorem d_Cl_receiveAnswer_38 : decode cb_Cl_receiveAnswer 38 = .ok (.iload_n 2, 1) := by decide +kernel
theorem d_Cl_receiveAnswer_39 : decode cb_Cl_receiveAnswer 39 = .ok (.aaload, 1) := by decide +kernel
theorem d_Cl_receiveAnswer_40 : decode cb_Cl_receiveAnswer 40 = .ok (.invokevirtual 145, 3) := by decide +kernel
theorem d_Cl_receiveAnswer_43 : decode cb_Cl_receiveAnswer 43 = .ok (.return_, 1) := by decide +kernel
theorem d_Cl_receiveAnswer_44 : decode cb_Cl_receiveAnswer 44 = .ok (.iinc 2 1, 3) := by decide +kernel
theorem d_Cl_receiveAnswer_47 : decode cb_Cl_receiveAnswer 47 = .ok (.goto (-45), 3) := by decide +kernel
theorem d_Cl_receiveAnswer_50 : decode cb_Cl_receiveAnswer 50 = .ok (.return_, 1) := by decide +kernel
theorem d_Sl_isWatchedFor_0 : decode cb_Sl_isWatchedFor 0 = .ok (.aload_n 0, 1) := by decide +kernel
theorem d_Sl_isWatchedFor_1 : decode cb_Sl_isWatchedFor 1 = .ok (.getfield 34, 3) := by decide +kernel
theorem d_Sl_isWatchedFor_4 : decode cb_Sl_isWatchedFor 4 = .ok (.ifCond .eq 25, 3) := by decide +kernel
theorem d_Sl_isWatchedFor_7 : decode cb_Sl_isWatchedFor 7 = .ok (.aload_n 0, 1) := by decide +kernel
theorem d_Sl_isWatchedFor_8 : decode cb_Sl_isWatchedFor 8 = .ok (.getfield 56, 3) := by decide +kernel
theorem d_Sl_isWatchedFor_11 : decode cb_Sl_isWatchedFor 11 = .ok (.ifCond .eq 18, 3) := by decide +kernel
theorem d_Sl_isWatchedFor_14 : decode cb_Sl_isWatchedFor 14 = .ok (.aload_n 0, 1) := by decide +kernel
theorem d_Sl_isWatchedFor_15 : decode cb_Sl_isWatchedFor 15 = .ok (.getfield 37, 3) := by decide +kernel
theorem d_Sl_isWatchedFor_18 : decode cb_Sl_isWatchedFor 18 = .ok (.aload_n 1, 1) := by decide +kernel
theorem d_Sl_isWatchedFor_19 : decode cb_Sl_isWatchedFor 19 = .ok (.getfield 80, 3) := by decide +kernel
theorem d_Sl_isWatchedFor_22 : decode cb_Sl_isWatchedFor 22 = .ok (.if_icmp .ne 7, 3) := by decide +kernel
theorem d_Sl_isWatchedFor_25 : decode cb_Sl_isWatchedFor 25 = .ok (.iconst 1, 1) := by decide +kernel
theorem d_Sl_isWatchedFor_26 : decode cb_Sl_isWatchedFor 26 = .ok (.goto 4, 3) := by decide +kernel
theorem d_Sl_isWatchedFor_29 : decode cb_Sl_isWatchedFor 29 = .ok (.iconst 0, 1) := by decide +kernel
theorem d_Sl_isWatchedFor_30 : decode cb_Sl_isWatchedFor 30 = .ok (.ireturn, 1) := by decide +kernel
theorem d_Wr_beginEmpty_0 : decode cb_Wr_beginEmpty 0 = .ok (.aload_n 0, 1) := by decide +kernel
theorem d_Wr_beginEmpty_1 : decode cb_Wr_beginEmpty 1 = .ok (.getfield 14, 3) := by decide +kernel
theorem d_Wr_beginEmpty_4 : decode cb_Wr_beginEmpty 4 = .ok (.invokevirtual 24, 3) := by decide +kernel
theorem d_Wr_beginEmpty_7 : decode cb_Wr_beginEmpty 7 = .ok (.aload_n 0, 1) := by decide +kernel
theorem d_Wr_beginEmpty_8 : decode cb_Wr_beginEmpty 8 = .ok (.getfield 14, 3) := by decide +kernel
theorem d_Wr_beginEmpty_11 : decode cb_Wr_beginEmpty 11 = .ok (.bipush 64, 2) := by decide +kernel
theorem d_Wr_beginEmpty_13 : decode cb_Wr_beginEmpty 13 = .ok (.bipush 16, 2) := by decide +kernel
theorem d_Wr_beginEmpty_15 : decode cb_Wr_beginEmpty 15 = .ok (.iload_n 1, 1) := by decide +kernel
theorem d_Wr_beginEmpty_16 : decode cb_Wr_beginEmpty 16 = .ok (.imul, 1) := by decide +kernel
theorem d_Wr_beginEmpty_17 : decode cb_Wr_beginEmpty 17 = .ok (.iadd, 1) := by decide +kernel
theorem d_Wr_beginEmpty_18 : decode cb_Wr_beginEmpty 18 = .ok (.invokevirtual 27, 3) := by decide +kernel
theorem d_Wr_beginEmpty_21 : decode cb_Wr_beginEmpty 21 = .ok (.aload_n 0, 1) := by decide +kernel
theorem d_Wr_beginEmpty_22 : decode cb_Wr_beginEmpty 22 = .ok (.getfield 14, 3) := by decide +kernel
theorem d_Wr_beginEmpty_25 : decode cb_Wr_beginEmpty 25 = .ok (.iconst 0, 1) := by decide +kernel
theorem d_Wr_beginEmpty_26 : decode cb_Wr_beginEmpty 26 = .ok (.invokevirtual 27, 3) := by decide +kernel
theorem d_Wr_beginEmpty_29 : decode cb_Wr_beginEmpty 29 = .ok (.aload_n 0, 1) := by decide +kernel
theorem d_Wr_beginEmpty_30 : decode cb_Wr_beginEmpty 30 = .ok (.getfield 14, 3) := by decide +kernel
theorem d_Wr_beginEmpty_33 : decode cb_Wr_beginEmpty 33 = .ok (.iload_n 2, 1) := by decide +kernel
theorem d_Wr_beginEmpty_34 : decode cb_Wr_beginEmpty 34 = .ok (.bipush 8, 2) := by decide +kernel
theorem d_Wr_beginEmpty_36 : decode cb_Wr_beginEmpty 36 = .ok (.ishr, 1) := by decide +kernel
theorem d_Wr_beginEmpty_37 : decode cb_Wr_beginEmpty 37 = .ok (.invokevirtual 27, 3) := by decide +kernel
theorem d_Wr_beginEmpty_40 : decode cb_Wr_beginEmpty 40 = .ok (.aload_n 0, 1) := by decide +kernel
theorem d_Wr_beginEmpty_41 : decode cb_Wr_beginEmpty 41 = .ok (.getfield 14, 3) := by decide +kernel
theorem d_Wr_beginEmpty_44 : decode cb_Wr_beginEmpty 44 = .ok (.iload_n 2, 1) := by decide +kernel
theorem d_Wr_beginEmpty_45 : decode cb_Wr_beginEmpty 45 = .ok (.invokevirtual 27, 3) := by decide +kernel
theorem d_Wr_beginEmpty_48 : decode cb_Wr_beginEmpty 48 = .ok (.return_, 1) := by decide +kernel
theorem d_Sl_isNews_0 : decode cb_Sl_isNews 0 = .ok (.aload_n 1, 1) := by decide +kernel
theorem d_Sl_isNews_1 : decode cb_Sl_isNews 1 = .ok (.getfield 121, 3) := by decide +kernel
theorem d_Sl_isNews_4 : decode cb_Sl_isNews 4 = .ok (.aload_n 0, 1) := by decide +kernel
theorem d_Sl_isNews_5 : decode cb_Sl_isNews 5 = .ok (.getfield 59, 3) := by decide +kernel
theorem d_Sl_isNews_8 : decode cb_Sl_isNews 8 = .ok (.isub, 1) := by decide +kernel
theorem d_Sl_isNews_9 : decode cb_Sl_isNews 9 = .ok (.ldc 127, 2) := by decide +kernel
theorem d_Sl_isNews_11 : decode cb_Sl_isNews 11 = .ok (.iand, 1) := by decide +kernel
theorem d_Sl_isNews_12 : decode cb_Sl_isNews 12 = .ok (.istore_n 2, 1) := by decide +kernel
theorem d_Sl_isNews_13 : decode cb_Sl_isNews 13 = .ok (.aload_n 1, 1) := by decide +kernel
theorem d_Sl_isNews_14 : decode cb_Sl_isNews 14 = .ok (.getfield 121, 3) := by decide +kernel
theorem d_Sl_isNews_17 : decode cb_Sl_isNews 17 = .ok (.iconst (-1), 1) := by decide +kernel
theorem d_Sl_isNews_18 : decode cb_Sl_isNews 18 = .ok (.if_icmp .eq 51, 3) := by decide +kernel
theorem d_Sl_isNews_21 : decode cb_Sl_isNews 21 = .ok (.iload_n 2, 1) := by decide +kernel
theorem d_Sl_isNews_22 : decode cb_Sl_isNews 22 = .ok (.iconst 1, 1) := by decide +kernel
theorem d_Sl_isNews_23 : decode cb_Sl_isNews 23 = .ok (.if_icmp .lt 46, 3) := by decide +kernel
theorem d_Sl_isNews_26 : decode cb_Sl_isNews 26 = .ok (.iload_n 2, 1) := by decide +kernel
theorem d_Sl_isNews_27 : decode cb_Sl_isNews 27 = .ok (.sipush 32767, 3) := by decide +kernel
theorem d_Sl_isNews_30 : decode cb_Sl_isNews 30 = .ok (.if_icmp .gt 39, 3) := by decide +kernel
theorem d_Sl_isNews_33 : decode cb_Sl_isNews 33 = .ok (.aload_n 1, 1) := by decide +kernel
theorem d_Sl_isNews_34 : decode cb_Sl_isNews 34 = .ok (.getfield 102, 3) := by decide +kernel
theorem d_Sl_isNews_37 : decode cb_Sl_isNews 37 = .ok (.iconst (-1), 1) := by decide +kernel
theorem d_Sl_isNews_38 : decode cb_Sl_isNews 38 = .ok (.if_icmp .eq 31, 3) := by decide +kernel
theorem d_Sl_isNews_41 : decode cb_Sl_isNews 41 = .ok (.aload_n 1, 1) := by decide +kernel
theorem d_Sl_isNews_42 : decode cb_Sl_isNews 42 = .ok (.getfield 102, 3) := by decide +kernel
theorem d_Sl_isNews_45 : decode cb_Sl_isNews 45 = .ok (.invokestatic 105, 3) := by decide +kernel
theorem d_Sl_isNews_48 : decode cb_Sl_isNews 48 = .ok (.ifCond .ne 21, 3) := by decide +kernel
theorem d_Sl_isNews_51 : decode cb_Sl_isNews 51 = .ok (.aload_n 1, 1) := by decide +kernel
theorem d_Sl_isNews_52 : decode cb_Sl_isNews 52 = .ok (.getfield 102, 3) := by decide +kernel
theorem d_Sl_isNews_55 : decode cb_Sl_isNews 55 = .ok (.invokestatic 108, 3) := by decide +kernel
theorem d_Sl_isNews_58 : decode cb_Sl_isNews 58 = .ok (.aload_n 0, 1) := by decide +kernel
theorem d_Sl_isNews_59 : decode cb_Sl_isNews 59 = .ok (.getfield 43, 3) := by decide +kernel
theorem d_Sl_isNews_62 : decode cb_Sl_isNews 62 = .ok (.if_icmp .ne 7, 3) := by decide +kernel
theorem d_Sl_isNews_65 : decode cb_Sl_isNews 65 = .ok (.iconst 1, 1) := by decide +kernel
theorem d_Sl_isNews_66 : decode cb_Sl_isNews 66 = .ok (.goto 4, 3) := by decide +kernel
theorem d_Sl_isNews_69 : decode cb_Sl_isNews 69 = .ok (.iconst 0, 1) := by decide +kernel
theorem d_Sl_isNews_70 : decode cb_Sl_isNews 70 = .ok (.ireturn, 1) := by decide +kernel
theorem d_Sl_takeNews_0 : decode cb_Sl_takeNews 0 = .ok (.aload_n 0, 1) := by decide +kernel
theorem d_Sl_takeNews_1 : decode cb_Sl_takeNews 1 = .ok (.getfield 23, 3) := by decide +kernel
theorem d_Sl_takeNews_4 : decode cb_Sl_takeNews 4 = .ok (.invokevirtual 68, 3) := by decide +kernel
theorem d_Sl_takeNews_7 : decode cb_Sl_takeNews 7 = .ok (.aload_n 0, 1) := by decide +kernel
theorem d_Sl_takeNews_8 : decode cb_Sl_takeNews 8 = .ok (.aload_n 1, 1) := by decide +kernel
theorem d_Sl_takeNews_9 : decode cb_Sl_takeNews 9 = .ok (.getfield 121, 3) := by decide +kernel
theorem d_Sl_takeNews_12 : decode cb_Sl_takeNews 12 = .ok (.putfield 59, 3) := by decide +kernel
theorem d_Sl_takeNews_15 : decode cb_Sl_takeNews 15 = .ok (.aload_n 0, 1) := by decide +kernel
theorem d_Sl_takeNews_16 : decode cb_Sl_takeNews 16 = .ok (.getfield 14, 3) := by decide +kernel
theorem d_Sl_takeNews_19 : decode cb_Sl_takeNews 19 = .ok (.aload_n 1, 1) := by decide +kernel
theorem d_Sl_takeNews_20 : decode cb_Sl_takeNews 20 = .ok (.getfield 111, 3) := by decide +kernel
theorem d_Sl_takeNews_23 : decode cb_Sl_takeNews 23 = .ok (.invokevirtual 128, 3) := by decide +kernel
theorem d_Sl_takeNews_26 : decode cb_Sl_takeNews 26 = .ok (.aload_n 0, 1) := by decide +kernel
theorem d_Sl_takeNews_27 : decode cb_Sl_takeNews 27 = .ok (.iconst 0, 1) := by decide +kernel
theorem d_Sl_takeNews_28 : decode cb_Sl_takeNews 28 = .ok (.putfield 46, 3) := by decide +kernel
theorem d_Sl_takeNews_31 : decode cb_Sl_takeNews 31 = .ok (.aload_n 0, 1) := by decide +kernel
theorem d_Sl_takeNews_32 : decode cb_Sl_takeNews 32 = .ok (.aload_n 1, 1) := by decide +kernel
theorem d_Sl_takeNews_33 : decode cb_Sl_takeNews 33 = .ok (.invokevirtual 124, 3) := by decide +kernel
theorem d_Sl_takeNews_36 : decode cb_Sl_takeNews 36 = .ok (.ireturn, 1) := by decide +kernel
theorem d_Cl_receiveNews_0 : decode cb_Cl_receiveNews 0 = .ok (.aconst_null, 1) := by decide +kernel
theorem d_Cl_receiveNews_1 : decode cb_Cl_receiveNews 1 = .ok (.astore_n 2, 1) := by decide +kernel
theorem d_Cl_receiveNews_2 : decode cb_Cl_receiveNews 2 = .ok (.iconst 0, 1) := by decide +kernel
theorem d_Cl_receiveNews_3 : decode cb_Cl_receiveNews 3 = .ok (.istore_n 3, 1) := by decide +kernel
theorem d_Cl_receiveNews_4 : decode cb_Cl_receiveNews 4 = .ok (.iload_n 3, 1) := by decide +kernel
theorem d_Cl_receiveNews_5 : decode cb_Cl_receiveNews 5 = .ok (.iconst 2, 1) := by decide +kernel
theorem d_Cl_receiveNews_6 : decode cb_Cl_receiveNews 6 = .ok (.if_icmp .ge 29, 3) := by decide +kernel
theorem d_Cl_receiveNews_9 : decode cb_Cl_receiveNews 9 = .ok (.aload_n 0, 1) := by decide +kernel
theorem d_Cl_receiveNews_10 : decode cb_Cl_receiveNews 10 = .ok (.getfield 11, 3) := by decide +kernel
theorem d_Cl_receiveNews_13 : decode cb_Cl_receiveNews 13 = .ok (.iload_n 3, 1) := by decide +kernel
theorem d_Cl_receiveNews_14 : decode cb_Cl_receiveNews 14 = .ok (.aaload, 1) := by decide +kernel
theorem d_Cl_receiveNews_15 : decode cb_Cl_receiveNews 15 = .ok (.aload_n 1, 1) := by decide +kernel
theorem d_Cl_receiveNews_16 : decode cb_Cl_receiveNews 16 = .ok (.invokevirtual 149, 3) := by decide +kernel
theorem d_Cl_receiveNews_19 : decode cb_Cl_receiveNews 19 = .ok (.ifCond .eq 10, 3) := by decide +kernel
theorem d_Cl_receiveNews_22 : decode cb_Cl_receiveNews 22 = .ok (.aload_n 0, 1) := by decide +kernel
theorem d_Cl_receiveNews_23 : decode cb_Cl_receiveNews 23 = .ok (.getfield 11, 3) := by decide +kernel
theorem d_Cl_receiveNews_26 : decode cb_Cl_receiveNews 26 = .ok (.iload_n 3, 1) := by decide +kernel
theorem d_Cl_receiveNews_27 : decode cb_Cl_receiveNews 27 = .ok (.aaload, 1) := by decide +kernel
theorem d_Cl_receiveNews_28 : decode cb_Cl_receiveNews 28 = .ok (.astore_n 2, 1) := by decide +kernel
theorem d_Cl_receiveNews_29 : decode cb_Cl_receiveNews 29 = .ok (.iinc 3 1, 3) := by decide +kernel
theorem d_Cl_receiveNews_32 : decode cb_Cl_receiveNews 32 = .ok (.goto (-28), 3) := by decide +kernel
theorem d_Cl_receiveNews_35 : decode cb_Cl_receiveNews 35 = .ok (.aload_n 0, 1) := by decide +kernel
theorem d_Cl_receiveNews_36 : decode cb_Cl_receiveNews 36 = .ok (.getfield 27, 3) := by decide +kernel
theorem d_Cl_receiveNews_39 : decode cb_Cl_receiveNews 39 = .ok (.aload_n 2, 1) := by decide +kernel
theorem d_Cl_receiveNews_40 : decode cb_Cl_receiveNews 40 = .ok (.ifnonnull 7, 3) := by decide +kernel
theorem d_Cl_receiveNews_43 : decode cb_Cl_receiveNews 43 = .ok (.iconst 3, 1) := by decide +kernel
theorem d_Cl_receiveNews_44 : decode cb_Cl_receiveNews 44 = .ok (.goto 4, 3) := by decide +kernel
theorem d_Cl_receiveNews_47 : decode cb_Cl_receiveNews 47 = .ok (.iconst 2, 1) := by decide +kernel
theorem d_Cl_receiveNews_48 : decode cb_Cl_receiveNews 48 = .ok (.aload_n 1, 1) := by decide +kernel
theorem d_Cl_receiveNews_49 : decode cb_Cl_receiveNews 49 = .ok (.getfield 152, 3) := by decide +kernel
theorem d_Cl_receiveNews_52 : decode cb_Cl_receiveNews 52 = .ok (.invokevirtual 155, 3) := by decide +kernel
theorem d_Cl_receiveNews_55 : decode cb_Cl_receiveNews 55 = .ok (.aload_n 0, 1) := by decide +kernel
theorem d_Cl_receiveNews_56 : decode cb_Cl_receiveNews 56 = .ok (.getfield 20, 3) := by decide +kernel
theorem d_Cl_receiveNews_59 : decode cb_Cl_receiveNews 59 = .ok (.aload_n 0, 1) := by decide +kernel
theorem d_Cl_receiveNews_60 : decode cb_Cl_receiveNews 60 = .ok (.getfield 27, 3) := by decide +kernel
theorem d_Cl_receiveNews_63 : decode cb_Cl_receiveNews 63 = .ok (.getfield 105, 3) := by decide +kernel
theorem d_Cl_receiveNews_66 : decode cb_Cl_receiveNews 66 = .ok (.iconst 1, 1) := by decide +kernel
theorem d_Cl_receiveNews_67 : decode cb_Cl_receiveNews 67 = .ok (.invokevirtual 117, 3) := by decide +kernel
theorem d_Cl_receiveNews_70 : decode cb_Cl_receiveNews 70 = .ok (.aload_n 2, 1) := by decide +kernel
theorem d_Cl_receiveNews_71 : decode cb_Cl_receiveNews 71 = .ok (.ifnull 24, 3) := by decide +kernel
theorem d_Cl_receiveNews_74 : decode cb_Cl_receiveNews 74 = .ok (.aload_n 2, 1) := by decide +kernel
theorem d_Cl_receiveNews_75 : decode cb_Cl_receiveNews 75 = .ok (.aload_n 1, 1) := by decide +kernel
theorem d_Cl_receiveNews_76 : decode cb_Cl_receiveNews 76 = .ok (.invokevirtual 158, 3) := by decide +kernel
theorem d_Cl_receiveNews_79 : decode cb_Cl_receiveNews 79 = .ok (.ifCond .eq 16, 3) := by decide +kernel
theorem d_Cl_receiveNews_82 : decode cb_Cl_receiveNews 82 = .ok (.aload_n 2, 1) := by decide +kernel
theorem d_Cl_receiveNews_83 : decode cb_Cl_receiveNews 83 = .ok (.aload_n 1, 1) := by decide +kernel
theorem d_Cl_receiveNews_84 : decode cb_Cl_receiveNews 84 = .ok (.invokevirtual 161, 3) := by decide +kernel
theorem d_Cl_receiveNews_87 : decode cb_Cl_receiveNews 87 = .ok (.ifCond .eq 8, 3) := by decide +kernel
theorem d_Cl_receiveNews_90 : decode cb_Cl_receiveNews 90 = .ok (.aload_n 0, 1) := by decide +kernel
theorem d_Cl_receiveNews_91 : decode cb_Cl_receiveNews 91 = .ok (.aload_n 2, 1) := by decide +kernel
theorem d_Cl_receiveNews_92 : decode cb_Cl_receiveNews 92 = .ok (.invokevirtual 145, 3) := by decide +kernel
theorem d_Cl_receiveNews_95 : decode cb_Cl_receiveNews 95 = .ok (.return_, 1) := by decide +kernel

theorem d_Mo_sizeOf_0 : decode cb_Mo_sizeOf 0 = .ok (.iload_n 0, 1) := by decide +kernel
theorem d_Mo_sizeOf_1 : decode cb_Mo_sizeOf 1 = .ok (.ifCond .ne 8, 3) := by decide +kernel
theorem d_Mo_sizeOf_4 : decode cb_Mo_sizeOf 4 = .ok (.bipush 16, 2) := by decide +kernel
theorem d_Mo_sizeOf_6 : decode cb_Mo_sizeOf 6 = .ok (.goto 5, 3) := by decide +kernel
theorem d_Mo_sizeOf_9 : decode cb_Mo_sizeOf 9 = .ok (.bipush 32, 2) := by decide +kernel
theorem d_Mo_sizeOf_11 : decode cb_Mo_sizeOf 11 = .ok (.ireturn, 1) := by decide +kernel
theorem d_Mo_within_0 : decode cb_Mo_within 0 = .ok (.iload_n 0, 1) := by decide +kernel
theorem d_Mo_within_1 : decode cb_Mo_within 1 = .ok (.iload_n 1, 1) := by decide +kernel
theorem d_Mo_within_2 : decode cb_Mo_within 2 = .ok (.iload_n 2, 1) := by decide +kernel
theorem d_Mo_within_3 : decode cb_Mo_within 3 = .ok (.invokestatic 152, 3) := by decide +kernel
theorem d_Mo_within_6 : decode cb_Mo_within 6 = .ok (.imul, 1) := by decide +kernel
theorem d_Mo_within_7 : decode cb_Mo_within 7 = .ok (.isub, 1) := by decide +kernel
theorem d_Mo_within_8 : decode cb_Mo_within 8 = .ok (.istore_n 3, 1) := by decide +kernel
theorem d_Mo_within_9 : decode cb_Mo_within 9 = .ok (.iload_n 3, 1) := by decide +kernel
theorem d_Mo_within_10 : decode cb_Mo_within 10 = .ok (.ifCond .ge 7, 3) := by decide +kernel
theorem d_Mo_within_13 : decode cb_Mo_within 13 = .ok (.iconst 0, 1) := by decide +kernel
theorem d_Mo_within_14 : decode cb_Mo_within 14 = .ok (.goto 19, 3) := by decide +kernel
theorem d_Mo_within_17 : decode cb_Mo_within 17 = .ok (.iload_n 3, 1) := by decide +kernel
theorem d_Mo_within_18 : decode cb_Mo_within 18 = .ok (.iload_n 2, 1) := by decide +kernel
theorem d_Mo_within_19 : decode cb_Mo_within 19 = .ok (.invokestatic 152, 3) := by decide +kernel
theorem d_Mo_within_22 : decode cb_Mo_within 22 = .ok (.if_icmp .le 10, 3) := by decide +kernel
theorem d_Mo_within_25 : decode cb_Mo_within 25 = .ok (.iload_n 2, 1) := by decide +kernel
theorem d_Mo_within_26 : decode cb_Mo_within 26 = .ok (.invokestatic 152, 3) := by decide +kernel
theorem d_Mo_within_29 : decode cb_Mo_within 29 = .ok (.goto 4, 3) := by decide +kernel
theorem d_Mo_within_32 : decode cb_Mo_within 32 = .ok (.iload_n 3, 1) := by decide +kernel
theorem d_Mo_within_33 : decode cb_Mo_within 33 = .ok (.ireturn, 1) := by decide +kernel
theorem d_Mo_more_0 : decode cb_Mo_more 0 = .ok (.iload_n 0, 1) := by decide +kernel
theorem d_Mo_more_1 : decode cb_Mo_more 1 = .ok (.iload_n 1, 1) := by decide +kernel
theorem d_Mo_more_2 : decode cb_Mo_more 2 = .ok (.iconst 1, 1) := by decide +kernel
theorem d_Mo_more_3 : decode cb_Mo_more 3 = .ok (.iadd, 1) := by decide +kernel
theorem d_Mo_more_4 : decode cb_Mo_more 4 = .ok (.iload_n 2, 1) := by decide +kernel
theorem d_Mo_more_5 : decode cb_Mo_more 5 = .ok (.invokestatic 152, 3) := by decide +kernel
theorem d_Mo_more_8 : decode cb_Mo_more 8 = .ok (.imul, 1) := by decide +kernel
theorem d_Mo_more_9 : decode cb_Mo_more 9 = .ok (.if_icmp .le 7, 3) := by decide +kernel
theorem d_Mo_more_12 : decode cb_Mo_more 12 = .ok (.iconst 1, 1) := by decide +kernel
theorem d_Mo_more_13 : decode cb_Mo_more 13 = .ok (.goto 4, 3) := by decide +kernel
theorem d_Mo_more_16 : decode cb_Mo_more 16 = .ok (.iconst 0, 1) := by decide +kernel
theorem d_Mo_more_17 : decode cb_Mo_more 17 = .ok (.ireturn, 1) := by decide +kernel
theorem d_Mo_send_0 : decode cb_Mo_send 0 = .ok (.aload_n 0, 1) := by decide +kernel
theorem d_Mo_send_1 : decode cb_Mo_send 1 = .ok (.getfield 156, 3) := by decide +kernel
theorem d_Mo_send_4 : decode cb_Mo_send 4 = .ok (.bipush 16, 2) := by decide +kernel
theorem d_Mo_send_6 : decode cb_Mo_send 6 = .ok (.if_icmp .ne 4, 3) := by decide +kernel
theorem d_Mo_send_9 : decode cb_Mo_send 9 = .ok (.return_, 1) := by decide +kernel
theorem d_Mo_send_10 : decode cb_Mo_send 10 = .ok (.iconst 0, 1) := by decide +kernel
theorem d_Mo_send_11 : decode cb_Mo_send 11 = .ok (.istore_n 2, 1) := by decide +kernel
theorem d_Mo_send_12 : decode cb_Mo_send 12 = .ok (.iload_n 2, 1) := by decide +kernel
theorem d_Mo_send_13 : decode cb_Mo_send 13 = .ok (.aload_n 0, 1) := by decide +kernel
theorem d_Mo_send_14 : decode cb_Mo_send 14 = .ok (.getfield 138, 3) := by decide +kernel
theorem d_Mo_send_17 : decode cb_Mo_send 17 = .ok (.if_icmp .ge 29, 3) := by decide +kernel
theorem d_Mo_send_20 : decode cb_Mo_send 20 = .ok (.aload_n 0, 1) := by decide +kernel
theorem d_Mo_send_21 : decode cb_Mo_send 21 = .ok (.getfield 7, 3) := by decide +kernel
theorem d_Mo_send_24 : decode cb_Mo_send 24 = .ok (.bipush 64, 2) := by decide +kernel
theorem d_Mo_send_26 : decode cb_Mo_send 26 = .ok (.aload_n 0, 1) := by decide +kernel
theorem d_Mo_send_27 : decode cb_Mo_send 27 = .ok (.getfield 156, 3) := by decide +kernel
theorem d_Mo_send_30 : decode cb_Mo_send 30 = .ok (.imul, 1) := by decide +kernel
theorem d_Mo_send_31 : decode cb_Mo_send 31 = .ok (.iload_n 2, 1) := by decide +kernel
theorem d_Mo_send_32 : decode cb_Mo_send 32 = .ok (.iadd, 1) := by decide +kernel
theorem d_Mo_send_33 : decode cb_Mo_send 33 = .ok (.aload_n 0, 1) := by decide +kernel
theorem d_Mo_send_34 : decode cb_Mo_send 34 = .ok (.getfield 126, 3) := by decide +kernel
theorem d_Mo_send_37 : decode cb_Mo_send 37 = .ok (.iload_n 2, 1) := by decide +kernel
theorem d_Mo_send_38 : decode cb_Mo_send 38 = .ok (.iaload, 1) := by decide +kernel
theorem d_Mo_send_39 : decode cb_Mo_send 39 = .ok (.iastore, 1) := by decide +kernel
theorem d_Mo_send_40 : decode cb_Mo_send 40 = .ok (.iinc 2 1, 3) := by decide +kernel
theorem d_Mo_send_43 : decode cb_Mo_send 43 = .ok (.goto (-31), 3) := by decide +kernel
theorem d_Mo_send_46 : decode cb_Mo_send 46 = .ok (.aload_n 0, 1) := by decide +kernel
theorem d_Mo_send_47 : decode cb_Mo_send 47 = .ok (.getfield 13, 3) := by decide +kernel
theorem d_Mo_send_50 : decode cb_Mo_send 50 = .ok (.aload_n 0, 1) := by decide +kernel
theorem d_Mo_send_51 : decode cb_Mo_send 51 = .ok (.getfield 156, 3) := by decide +kernel
theorem d_Mo_send_54 : decode cb_Mo_send 54 = .ok (.aload_n 0, 1) := by decide +kernel
theorem d_Mo_send_55 : decode cb_Mo_send 55 = .ok (.getfield 138, 3) := by decide +kernel
theorem d_Mo_send_58 : decode cb_Mo_send 58 = .ok (.iastore, 1) := by decide +kernel
theorem d_Mo_send_59 : decode cb_Mo_send 59 = .ok (.aload_n 0, 1) := by decide +kernel
theorem d_Mo_send_60 : decode cb_Mo_send 60 = .ok (.getfield 16, 3) := by decide +kernel
theorem d_Mo_send_63 : decode cb_Mo_send 63 = .ok (.aload_n 0, 1) := by decide +kernel
theorem d_Mo_send_64 : decode cb_Mo_send 64 = .ok (.getfield 156, 3) := by decide +kernel
theorem d_Mo_send_67 : decode cb_Mo_send 67 = .ok (.iload_n 1, 1) := by decide +kernel
theorem d_Mo_send_68 : decode cb_Mo_send 68 = .ok (.iastore, 1) := by decide +kernel
theorem d_Mo_send_69 : decode cb_Mo_send 69 = .ok (.aload_n 0, 1) := by decide +kernel
theorem d_Mo_send_70 : decode cb_Mo_send 70 = .ok (.dup, 1) := by decide +kernel
theorem d_Mo_send_71 : decode cb_Mo_send 71 = .ok (.getfield 156, 3) := by decide +kernel
theorem d_Mo_send_74 : decode cb_Mo_send 74 = .ok (.iconst 1, 1) := by decide +kernel
theorem d_Mo_send_75 : decode cb_Mo_send 75 = .ok (.iadd, 1) := by decide +kernel
theorem d_Mo_send_76 : decode cb_Mo_send 76 = .ok (.putfield 156, 3) := by decide +kernel
theorem d_Mo_send_79 : decode cb_Mo_send 79 = .ok (.return_, 1) := by decide +kernel
theorem d_Mo_hold_0 : decode cb_Mo_hold 0 = .ok (.aload_n 0, 1) := by decide +kernel
theorem d_Mo_hold_1 : decode cb_Mo_hold 1 = .ok (.getfield 26, 3) := by decide +kernel
theorem d_Mo_hold_4 : decode cb_Mo_hold 4 = .ok (.iload_n 1, 1) := by decide +kernel
theorem d_Mo_hold_5 : decode cb_Mo_hold 5 = .ok (.iconst 1, 1) := by decide +kernel
theorem d_Mo_hold_6 : decode cb_Mo_hold 6 = .ok (.bastore, 1) := by decide +kernel
theorem d_Mo_hold_7 : decode cb_Mo_hold 7 = .ok (.aload_n 0, 1) := by decide +kernel
theorem d_Mo_hold_8 : decode cb_Mo_hold 8 = .ok (.getfield 30, 3) := by decide +kernel
theorem d_Mo_hold_11 : decode cb_Mo_hold 11 = .ok (.iload_n 1, 1) := by decide +kernel
theorem d_Mo_hold_12 : decode cb_Mo_hold 12 = .ok (.iload_n 2, 1) := by decide +kernel
theorem d_Mo_hold_13 : decode cb_Mo_hold 13 = .ok (.iastore, 1) := by decide +kernel
theorem d_Mo_hold_14 : decode cb_Mo_hold 14 = .ok (.aload_n 0, 1) := by decide +kernel
theorem d_Mo_hold_15 : decode cb_Mo_hold 15 = .ok (.getfield 33, 3) := by decide +kernel
theorem d_Mo_hold_18 : decode cb_Mo_hold 18 = .ok (.iload_n 1, 1) := by decide +kernel
theorem d_Mo_hold_19 : decode cb_Mo_hold 19 = .ok (.iconst 4, 1) := by decide +kernel
theorem d_Mo_hold_20 : decode cb_Mo_hold 20 = .ok (.iastore, 1) := by decide +kernel
theorem d_Mo_hold_21 : decode cb_Mo_hold 21 = .ok (.aload_n 0, 1) := by decide +kernel
theorem d_Mo_hold_22 : decode cb_Mo_hold 22 = .ok (.getfield 36, 3) := by decide +kernel
theorem d_Mo_hold_25 : decode cb_Mo_hold 25 = .ok (.iload_n 1, 1) := by decide +kernel
theorem d_Mo_hold_26 : decode cb_Mo_hold 26 = .ok (.iconst 4, 1) := by decide +kernel
theorem d_Mo_hold_27 : decode cb_Mo_hold 27 = .ok (.iastore, 1) := by decide +kernel
theorem d_Mo_hold_28 : decode cb_Mo_hold 28 = .ok (.aload_n 0, 1) := by decide +kernel
theorem d_Mo_hold_29 : decode cb_Mo_hold 29 = .ok (.getfield 39, 3) := by decide +kernel
theorem d_Mo_hold_32 : decode cb_Mo_hold 32 = .ok (.iload_n 1, 1) := by decide +kernel
theorem d_Mo_hold_33 : decode cb_Mo_hold 33 = .ok (.iconst 0, 1) := by decide +kernel
theorem d_Mo_hold_34 : decode cb_Mo_hold 34 = .ok (.iastore, 1) := by decide +kernel
theorem d_Mo_hold_35 : decode cb_Mo_hold 35 = .ok (.aload_n 0, 1) := by decide +kernel
theorem d_Mo_hold_36 : decode cb_Mo_hold 36 = .ok (.getfield 45, 3) := by decide +kernel
theorem d_Mo_hold_39 : decode cb_Mo_hold 39 = .ok (.iload_n 1, 1) := by decide +kernel
theorem d_Mo_hold_40 : decode cb_Mo_hold 40 = .ok (.aload_n 0, 1) := by decide +kernel
theorem d_Mo_hold_41 : decode cb_Mo_hold 41 = .ok (.getfield 138, 3) := by decide +kernel
theorem d_Mo_hold_44 : decode cb_Mo_hold 44 = .ok (.iastore, 1) := by decide +kernel
theorem d_Mo_hold_45 : decode cb_Mo_hold 45 = .ok (.iconst 0, 1) := by decide +kernel
theorem d_Mo_hold_46 : decode cb_Mo_hold 46 = .ok (.istore_n 3, 1) := by decide +kernel
theorem d_Mo_hold_47 : decode cb_Mo_hold 47 = .ok (.iload_n 3, 1) := by decide +kernel
theorem d_Mo_hold_48 : decode cb_Mo_hold 48 = .ok (.aload_n 0, 1) := by decide +kernel
theorem d_Mo_hold_49 : decode cb_Mo_hold 49 = .ok (.getfield 138, 3) := by decide +kernel
theorem d_Mo_hold_52 : decode cb_Mo_hold 52 = .ok (.if_icmp .ge 26, 3) := by decide +kernel
theorem d_Mo_hold_55 : decode cb_Mo_hold 55 = .ok (.aload_n 0, 1) := by decide +kernel
theorem d_Mo_hold_56 : decode cb_Mo_hold 56 = .ok (.getfield 42, 3) := by decide +kernel
theorem d_Mo_hold_59 : decode cb_Mo_hold 59 = .ok (.bipush 64, 2) := by decide +kernel
theorem d_Mo_hold_61 : decode cb_Mo_hold 61 = .ok (.iload_n 1, 1) := by decide +kernel
theorem d_Mo_hold_62 : decode cb_Mo_hold 62 = .ok (.imul, 1) := by decide +kernel
theorem d_Mo_hold_63 : decode cb_Mo_hold 63 = .ok (.iload_n 3, 1) := by decide +kernel
theorem d_Mo_hold_64 : decode cb_Mo_hold 64 = .ok (.iadd, 1) := by decide +kernel
theorem d_Mo_hold_65 : decode cb_Mo_hold 65 = .ok (.aload_n 0, 1) := by decide +kernel
theorem d_Mo_hold_66 : decode cb_Mo_hold 66 = .ok (.getfield 126, 3) := by decide +kernel
theorem d_Mo_hold_69 : decode cb_Mo_hold 69 = .ok (.iload_n 3, 1) := by decide +kernel
theorem d_Mo_hold_70 : decode cb_Mo_hold 70 = .ok (.iaload, 1) := by decide +kernel
theorem d_Mo_hold_71 : decode cb_Mo_hold 71 = .ok (.iastore, 1) := by decide +kernel
theorem d_Mo_hold_72 : decode cb_Mo_hold 72 = .ok (.iinc 3 1, 3) := by decide +kernel
theorem d_Mo_hold_75 : decode cb_Mo_hold 75 = .ok (.goto (-28), 3) := by decide +kernel
theorem d_Mo_hold_78 : decode cb_Mo_hold 78 = .ok (.return_, 1) := by decide +kernel
theorem d_Mo_sendAgain_0 : decode cb_Mo_sendAgain 0 = .ok (.aload_n 0, 1) := by decide +kernel
theorem d_Mo_sendAgain_1 : decode cb_Mo_sendAgain 1 = .ok (.aload_n 0, 1) := by decide +kernel
theorem d_Mo_sendAgain_2 : decode cb_Mo_sendAgain 2 = .ok (.getfield 45, 3) := by decide +kernel
theorem d_Mo_sendAgain_5 : decode cb_Mo_sendAgain 5 = .ok (.iload_n 1, 1) := by decide +kernel
theorem d_Mo_sendAgain_6 : decode cb_Mo_sendAgain 6 = .ok (.iaload, 1) := by decide +kernel
theorem d_Mo_sendAgain_7 : decode cb_Mo_sendAgain 7 = .ok (.putfield 138, 3) := by decide +kernel
theorem d_Mo_sendAgain_10 : decode cb_Mo_sendAgain 10 = .ok (.iconst 0, 1) := by decide +kernel
theorem d_Mo_sendAgain_11 : decode cb_Mo_sendAgain 11 = .ok (.istore_n 2, 1) := by decide +kernel
theorem d_Mo_sendAgain_12 : decode cb_Mo_sendAgain 12 = .ok (.iload_n 2, 1) := by decide +kernel
theorem d_Mo_sendAgain_13 : decode cb_Mo_sendAgain 13 = .ok (.aload_n 0, 1) := by decide +kernel
theorem d_Mo_sendAgain_14 : decode cb_Mo_sendAgain 14 = .ok (.getfield 138, 3) := by decide +kernel
theorem d_Mo_sendAgain_17 : decode cb_Mo_sendAgain 17 = .ok (.if_icmp .ge 26, 3) := by decide +kernel
theorem d_Mo_sendAgain_20 : decode cb_Mo_sendAgain 20 = .ok (.aload_n 0, 1) := by decide +kernel
theorem d_Mo_sendAgain_21 : decode cb_Mo_sendAgain 21 = .ok (.getfield 126, 3) := by decide +kernel
theorem d_Mo_sendAgain_24 : decode cb_Mo_sendAgain 24 = .ok (.iload_n 2, 1) := by decide +kernel
theorem d_Mo_sendAgain_25 : decode cb_Mo_sendAgain 25 = .ok (.aload_n 0, 1) := by decide +kernel
theorem d_Mo_sendAgain_26 : decode cb_Mo_sendAgain 26 = .ok (.getfield 42, 3) := by decide +kernel
theorem d_Mo_sendAgain_29 : decode cb_Mo_sendAgain 29 = .ok (.bipush 64, 2) := by decide +kernel
theorem d_Mo_sendAgain_31 : decode cb_Mo_sendAgain 31 = .ok (.iload_n 1, 1) := by decide +kernel
theorem d_Mo_sendAgain_32 : decode cb_Mo_sendAgain 32 = .ok (.imul, 1) := by decide +kernel
theorem d_Mo_sendAgain_33 : decode cb_Mo_sendAgain 33 = .ok (.iload_n 2, 1) := by decide +kernel
theorem d_Mo_sendAgain_34 : decode cb_Mo_sendAgain 34 = .ok (.iadd, 1) := by decide +kernel
theorem d_Mo_sendAgain_35 : decode cb_Mo_sendAgain 35 = .ok (.iaload, 1) := by decide +kernel
theorem d_Mo_sendAgain_36 : decode cb_Mo_sendAgain 36 = .ok (.iastore, 1) := by decide +kernel
theorem d_Mo_sendAgain_37 : decode cb_Mo_sendAgain 37 = .ok (.iinc 2 1, 3) := by decide +kernel
theorem d_Mo_sendAgain_40 : decode cb_Mo_sendAgain 40 = .ok (.goto (-28), 3) := by decide +kernel
theorem d_Mo_sendAgain_43 : decode cb_Mo_sendAgain 43 = .ok (.aload_n 0, 1) := by decide +kernel
theorem d_Mo_sendAgain_44 : decode cb_Mo_sendAgain 44 = .ok (.iload_n 1, 1) := by decide +kernel
theorem d_Mo_sendAgain_45 : decode cb_Mo_sendAgain 45 = .ok (.iconst 2, 1) := by decide +kernel
theorem d_Mo_sendAgain_46 : decode cb_Mo_sendAgain 46 = .ok (.if_icmp .ge 7, 3) := by decide +kernel
theorem d_Mo_sendAgain_49 : decode cb_Mo_sendAgain 49 = .ok (.iconst 1, 1) := by decide +kernel
theorem d_Mo_sendAgain_50 : decode cb_Mo_sendAgain 50 = .ok (.goto 4, 3) := by decide +kernel
theorem d_Mo_sendAgain_53 : decode cb_Mo_sendAgain 53 = .ok (.iconst 0, 1) := by decide +kernel
theorem d_Mo_sendAgain_54 : decode cb_Mo_sendAgain 54 = .ok (.invokevirtual 159, 3) := by decide +kernel
theorem d_Mo_sendAgain_57 : decode cb_Mo_sendAgain 57 = .ok (.return_, 1) := by decide +kernel
theorem d_Mo_bare_0 : decode cb_Mo_bare 0 = .ok (.aload_n 0, 1) := by decide +kernel
theorem d_Mo_bare_1 : decode cb_Mo_bare 1 = .ok (.iload_n 1, 1) := by decide +kernel
theorem d_Mo_bare_2 : decode cb_Mo_bare 2 = .ok (.iconst 0, 1) := by decide +kernel
theorem d_Mo_bare_3 : decode cb_Mo_bare 3 = .ok (.iload_n 2, 1) := by decide +kernel
theorem d_Mo_bare_4 : decode cb_Mo_bare 4 = .ok (.invokevirtual 162, 3) := by decide +kernel
theorem d_Mo_bare_7 : decode cb_Mo_bare 7 = .ok (.aload_n 0, 1) := by decide +kernel
theorem d_Mo_bare_8 : decode cb_Mo_bare 8 = .ok (.iload_n 3, 1) := by decide +kernel
theorem d_Mo_bare_9 : decode cb_Mo_bare 9 = .ok (.invokevirtual 159, 3) := by decide +kernel
theorem d_Mo_bare_12 : decode cb_Mo_bare 12 = .ok (.return_, 1) := by decide +kernel
theorem d_Mo_readNumber_0 : decode cb_Mo_readNumber 0 = .ok (.iconst 0, 1) := by decide +kernel
theorem d_Mo_readNumber_1 : decode cb_Mo_readNumber 1 = .ok (.istore 4, 2) := by decide +kernel
theorem d_Mo_readNumber_3 : decode cb_Mo_readNumber 3 = .ok (.iconst 0, 1) := by decide +kernel
theorem d_Mo_readNumber_4 : decode cb_Mo_readNumber 4 = .ok (.istore 5, 2) := by decide +kernel
theorem d_Mo_readNumber_6 : decode cb_Mo_readNumber 6 = .ok (.iload 5, 2) := by decide +kernel
theorem d_Mo_readNumber_8 : decode cb_Mo_readNumber 8 = .ok (.iload_n 3, 1) := by decide +kernel
theorem d_Mo_readNumber_9 : decode cb_Mo_readNumber 9 = .ok (.if_icmp .ge 32, 3) := by decide +kernel
theorem d_Mo_readNumber_12 : decode cb_Mo_readNumber 12 = .ok (.iload_n 3, 1) := by decide +kernel
theorem d_Mo_readNumber_13 : decode cb_Mo_readNumber 13 = .ok (.iconst 3, 1) := by decide +kernel
theorem d_Mo_readNumber_14 : decode cb_Mo_readNumber 14 = .ok (.if_icmp .ge 27, 3) := by decide +kernel
theorem d_Mo_readNumber_17 : decode cb_Mo_readNumber 17 = .ok (.sipush 256, 3) := by decide +kernel
theorem d_Mo_readNumber_20 : decode cb_Mo_readNumber 20 = .ok (.iload 4, 2) := by decide +kernel
theorem d_Mo_readNumber_22 : decode cb_Mo_readNumber 22 = .ok (.imul, 1) := by decide +kernel
theorem d_Mo_readNumber_23 : decode cb_Mo_readNumber 23 = .ok (.aload_n 0, 1) := by decide +kernel
theorem d_Mo_readNumber_24 : decode cb_Mo_readNumber 24 = .ok (.getfield 129, 3) := by decide +kernel
theorem d_Mo_readNumber_27 : decode cb_Mo_readNumber 27 = .ok (.iload_n 2, 1) := by decide +kernel
theorem d_Mo_readNumber_28 : decode cb_Mo_readNumber 28 = .ok (.iload 5, 2) := by decide +kernel
theorem d_Mo_readNumber_30 : decode cb_Mo_readNumber 30 = .ok (.iadd, 1) := by decide +kernel
theorem d_Mo_readNumber_31 : decode cb_Mo_readNumber 31 = .ok (.iaload, 1) := by decide +kernel
theorem d_Mo_readNumber_32 : decode cb_Mo_readNumber 32 = .ok (.iadd, 1) := by decide +kernel
theorem d_Mo_readNumber_33 : decode cb_Mo_readNumber 33 = .ok (.istore 4, 2) := by decide +kernel
theorem d_Mo_readNumber_35 : decode cb_Mo_readNumber 35 = .ok (.iinc 5 1, 3) := by decide +kernel
theorem d_Mo_readNumber_38 : decode cb_Mo_readNumber 38 = .ok (.goto (-32), 3) := by decide +kernel
theorem d_Mo_readNumber_41 : decode cb_Mo_readNumber 41 = .ok (.iload_n 3, 1) := by decide +kernel
theorem d_Mo_readNumber_42 : decode cb_Mo_readNumber 42 = .ok (.iconst 3, 1) := by decide +kernel
theorem d_Mo_readNumber_43 : decode cb_Mo_readNumber 43 = .ok (.if_icmp .ge 20, 3) := by decide +kernel
theorem d_Mo_readNumber_46 : decode cb_Mo_readNumber 46 = .ok (.iload_n 3, 1) := by decide +kernel
theorem d_Mo_readNumber_47 : decode cb_Mo_readNumber 47 = .ok (.ifCond .eq 12, 3) := by decide +kernel
theorem d_Mo_readNumber_50 : decode cb_Mo_readNumber 50 = .ok (.aload_n 0, 1) := by decide +kernel
theorem d_Mo_readNumber_51 : decode cb_Mo_readNumber 51 = .ok (.getfield 129, 3) := by decide +kernel
theorem d_Mo_readNumber_54 : decode cb_Mo_readNumber 54 = .ok (.iload_n 2, 1) := by decide +kernel
theorem d_Mo_readNumber_55 : decode cb_Mo_readNumber 55 = .ok (.iaload, 1) := by decide +kernel
theorem d_Mo_readNumber_56 : decode cb_Mo_readNumber 56 = .ok (.ifCond .eq 7, 3) := by decide +kernel
theorem d_Mo_readNumber_59 : decode cb_Mo_readNumber 59 = .ok (.iconst 1, 1) := by decide +kernel
theorem d_Mo_readNumber_60 : decode cb_Mo_readNumber 60 = .ok (.goto 4, 3) := by decide +kernel
theorem d_Mo_readNumber_63 : decode cb_Mo_readNumber 63 = .ok (.iconst 0, 1) := by decide +kernel
theorem d_Mo_readNumber_64 : decode cb_Mo_readNumber 64 = .ok (.istore 5, 2) := by decide +kernel
theorem d_Mo_readNumber_66 : decode cb_Mo_readNumber 66 = .ok (.iload_n 1, 1) := by decide +kernel
theorem d_Mo_readNumber_67 : decode cb_Mo_readNumber 67 = .ok (.bipush 6, 2) := by decide +kernel
theorem d_Mo_readNumber_69 : decode cb_Mo_readNumber 69 = .ok (.if_icmp .ne 12, 3) := by decide +kernel
theorem d_Mo_readNumber_72 : decode cb_Mo_readNumber 72 = .ok (.aload_n 0, 1) := by decide +kernel
theorem d_Mo_readNumber_73 : decode cb_Mo_readNumber 73 = .ok (.iload 4, 2) := by decide +kernel
theorem d_Mo_readNumber_75 : decode cb_Mo_readNumber 75 = .ok (.putfield 166, 3) := by decide +kernel
theorem d_Mo_readNumber_78 : decode cb_Mo_readNumber 78 = .ok (.iload 5, 2) := by decide +kernel
theorem d_Mo_readNumber_80 : decode cb_Mo_readNumber 80 = .ok (.ireturn, 1) := by decide +kernel
theorem d_Mo_readNumber_81 : decode cb_Mo_readNumber 81 = .ok (.aload_n 0, 1) := by decide +kernel
theorem d_Mo_readNumber_82 : decode cb_Mo_readNumber 82 = .ok (.iload_n 1, 1) := by decide +kernel
theorem d_Mo_readNumber_83 : decode cb_Mo_readNumber 83 = .ok (.bipush 23, 2) := by decide +kernel
theorem d_Mo_readNumber_85 : decode cb_Mo_readNumber 85 = .ok (.if_icmp .ne 8, 3) := by decide +kernel
theorem d_Mo_readNumber_88 : decode cb_Mo_readNumber 88 = .ok (.iload 4, 2) := by decide +kernel
theorem d_Mo_readNumber_90 : decode cb_Mo_readNumber 90 = .ok (.goto 7, 3) := by decide +kernel
theorem d_Mo_readNumber_93 : decode cb_Mo_readNumber 93 = .ok (.aload_n 0, 1) := by decide +kernel
theorem d_Mo_readNumber_94 : decode cb_Mo_readNumber 94 = .ok (.getfield 169, 3) := by decide +kernel
theorem d_Mo_readNumber_97 : decode cb_Mo_readNumber 97 = .ok (.putfield 169, 3) := by decide +kernel
theorem d_Mo_readNumber_100 : decode cb_Mo_readNumber 100 = .ok (.aload_n 0, 1) := by decide +kernel
theorem d_Mo_readNumber_101 : decode cb_Mo_readNumber 101 = .ok (.iload_n 1, 1) := by decide +kernel
theorem d_Mo_readNumber_102 : decode cb_Mo_readNumber 102 = .ok (.bipush 27, 2) := by decide +kernel
theorem d_Mo_readNumber_104 : decode cb_Mo_readNumber 104 = .ok (.if_icmp .ne 8, 3) := by decide +kernel
theorem d_Mo_readNumber_107 : decode cb_Mo_readNumber 107 = .ok (.iload 4, 2) := by decide +kernel
theorem d_Mo_readNumber_109 : decode cb_Mo_readNumber 109 = .ok (.goto 7, 3) := by decide +kernel
theorem d_Mo_readNumber_112 : decode cb_Mo_readNumber 112 = .ok (.aload_n 0, 1) := by decide +kernel
theorem d_Mo_readNumber_113 : decode cb_Mo_readNumber 113 = .ok (.getfield 172, 3) := by decide +kernel
theorem d_Mo_readNumber_116 : decode cb_Mo_readNumber 116 = .ok (.putfield 172, 3) := by decide +kernel
theorem d_Mo_readNumber_119 : decode cb_Mo_readNumber 119 = .ok (.iload 5, 2) := by decide +kernel
theorem d_Mo_readNumber_121 : decode cb_Mo_readNumber 121 = .ok (.ifCond .eq 24, 3) := by decide +kernel
theorem d_Mo_readNumber_124 : decode cb_Mo_readNumber 124 = .ok (.iload 4, 2) := by decide +kernel
theorem d_Mo_readNumber_126 : decode cb_Mo_readNumber 126 = .ok (.sipush 1023, 3) := by decide +kernel
theorem d_Mo_readNumber_129 : decode cb_Mo_readNumber 129 = .ok (.if_icmp .gt 16, 3) := by decide +kernel
theorem d_Mo_readNumber_132 : decode cb_Mo_readNumber 132 = .ok (.iload 4, 2) := by decide +kernel
theorem d_Mo_readNumber_134 : decode cb_Mo_readNumber 134 = .ok (.bipush 8, 2) := by decide +kernel
theorem d_Mo_readNumber_136 : decode cb_Mo_readNumber 136 = .ok (.irem, 1) := by decide +kernel
theorem d_Mo_readNumber_137 : decode cb_Mo_readNumber 137 = .ok (.iconst 2, 1) := by decide +kernel
theorem d_Mo_readNumber_138 : decode cb_Mo_readNumber 138 = .ok (.if_icmp .ge 7, 3) := by decide +kernel
theorem d_Mo_readNumber_141 : decode cb_Mo_readNumber 141 = .ok (.iconst 1, 1) := by decide +kernel
theorem d_Mo_readNumber_142 : decode cb_Mo_readNumber 142 = .ok (.goto 4, 3) := by decide +kernel
theorem d_Mo_readNumber_145 : decode cb_Mo_readNumber 145 = .ok (.iconst 0, 1) := by decide +kernel
theorem d_Mo_readNumber_146 : decode cb_Mo_readNumber 146 = .ok (.ireturn, 1) := by decide +kernel
theorem d_Mo_readOptions_0 : decode cb_Mo_readOptions 0 = .ok (.iload_n 1, 1) := by decide +kernel
theorem d_Mo_readOptions_1 : decode cb_Mo_readOptions 1 = .ok (.istore_n 2, 1) := by decide +kernel
theorem d_Mo_readOptions_2 : decode cb_Mo_readOptions 2 = .ok (.iconst 0, 1) := by decide +kernel
theorem d_Mo_readOptions_3 : decode cb_Mo_readOptions 3 = .ok (.istore_n 3, 1) := by decide +kernel
theorem d_Mo_readOptions_4 : decode cb_Mo_readOptions 4 = .ok (.iload_n 2, 1) := by decide +kernel
theorem d_Mo_readOptions_5 : decode cb_Mo_readOptions 5 = .ok (.aload_n 0, 1) := by decide +kernel
theorem d_Mo_readOptions_6 : decode cb_Mo_readOptions 6 = .ok (.getfield 175, 3) := by decide +kernel
theorem d_Mo_readOptions_9 : decode cb_Mo_readOptions 9 = .ok (.if_icmp .ge 240, 3) := by decide +kernel
theorem d_Mo_readOptions_12 : decode cb_Mo_readOptions 12 = .ok (.aload_n 0, 1) := by decide +kernel
theorem d_Mo_readOptions_13 : decode cb_Mo_readOptions 13 = .ok (.getfield 129, 3) := by decide +kernel
theorem d_Mo_readOptions_16 : decode cb_Mo_readOptions 16 = .ok (.iload_n 2, 1) := by decide +kernel
theorem d_Mo_readOptions_17 : decode cb_Mo_readOptions 17 = .ok (.iaload, 1) := by decide +kernel
theorem d_Mo_readOptions_18 : decode cb_Mo_readOptions 18 = .ok (.sipush 255, 3) := by decide +kernel
theorem d_Mo_readOptions_21 : decode cb_Mo_readOptions 21 = .ok (.if_icmp .eq 228, 3) := by decide +kernel
theorem d_Mo_readOptions_24 : decode cb_Mo_readOptions 24 = .ok (.aload_n 0, 1) := by decide +kernel
theorem d_Mo_readOptions_25 : decode cb_Mo_readOptions 25 = .ok (.getfield 129, 3) := by decide +kernel
theorem d_Mo_readOptions_28 : decode cb_Mo_readOptions 28 = .ok (.iload_n 2, 1) := by decide +kernel
theorem d_Mo_readOptions_29 : decode cb_Mo_readOptions 29 = .ok (.iaload, 1) := by decide +kernel
theorem d_Mo_readOptions_30 : decode cb_Mo_readOptions 30 = .ok (.bipush 16, 2) := by decide +kernel
theorem d_Mo_readOptions_32 : decode cb_Mo_readOptions 32 = .ok (.idiv, 1) := by decide +kernel
theorem d_Mo_readOptions_33 : decode cb_Mo_readOptions 33 = .ok (.istore 4, 2) := by decide +kernel
theorem d_Mo_readOptions_35 : decode cb_Mo_readOptions 35 = .ok (.aload_n 0, 1) := by decide +kernel
theorem d_Mo_readOptions_36 : decode cb_Mo_readOptions 36 = .ok (.getfield 129, 3) := by decide +kernel
theorem d_Mo_readOptions_39 : decode cb_Mo_readOptions 39 = .ok (.iload_n 2, 1) := by decide +kernel
theorem d_Mo_readOptions_40 : decode cb_Mo_readOptions 40 = .ok (.iaload, 1) := by decide +kernel
theorem d_Mo_readOptions_41 : decode cb_Mo_readOptions 41 = .ok (.bipush 16, 2) := by decide +kernel
theorem d_Mo_readOptions_43 : decode cb_Mo_readOptions 43 = .ok (.irem, 1) := by decide +kernel
theorem d_Mo_readOptions_44 : decode cb_Mo_readOptions 44 = .ok (.istore 5, 2) := by decide +kernel
theorem d_Mo_readOptions_46 : decode cb_Mo_readOptions 46 = .ok (.iinc 2 1, 3) := by decide +kernel
theorem d_Mo_readOptions_49 : decode cb_Mo_readOptions 49 = .ok (.iload 4, 2) := by decide +kernel
theorem d_Mo_readOptions_51 : decode cb_Mo_readOptions 51 = .ok (.bipush 13, 2) := by decide +kernel
theorem d_Mo_readOptions_53 : decode cb_Mo_readOptions 53 = .ok (.if_icmp .gt 25, 3) := by decide +kernel
theorem d_Mo_readOptions_56 : decode cb_Mo_readOptions 56 = .ok (.iload 5, 2) := by decide +kernel
theorem d_Mo_readOptions_58 : decode cb_Mo_readOptions 58 = .ok (.bipush 12, 2) := by decide +kernel
theorem d_Mo_readOptions_60 : decode cb_Mo_readOptions 60 = .ok (.if_icmp .gt 18, 3) := by decide +kernel
theorem d_Mo_readOptions_63 : decode cb_Mo_readOptions 63 = .ok (.iload 4, 2) := by decide +kernel
theorem d_Mo_readOptions_65 : decode cb_Mo_readOptions 65 = .ok (.bipush 13, 2) := by decide +kernel
theorem d_Mo_readOptions_67 : decode cb_Mo_readOptions 67 = .ok (.if_icmp .ne 13, 3) := by decide +kernel
theorem d_Mo_readOptions_70 : decode cb_Mo_readOptions 70 = .ok (.iload_n 2, 1) := by decide +kernel
theorem d_Mo_readOptions_71 : decode cb_Mo_readOptions 71 = .ok (.aload_n 0, 1) := by decide +kernel
theorem d_Mo_readOptions_72 : decode cb_Mo_readOptions 72 = .ok (.getfield 175, 3) := by decide +kernel
theorem d_Mo_readOptions_75 : decode cb_Mo_readOptions 75 = .ok (.if_icmp .ne 5, 3) := by decide +kernel
theorem d_Mo_readOptions_78 : decode cb_Mo_readOptions 78 = .ok (.iconst (-1), 1) := by decide +kernel
theorem d_Mo_readOptions_79 : decode cb_Mo_readOptions 79 = .ok (.ireturn, 1) := by decide +kernel
theorem d_Mo_readOptions_80 : decode cb_Mo_readOptions 80 = .ok (.iload 4, 2) := by decide +kernel
theorem d_Mo_readOptions_82 : decode cb_Mo_readOptions 82 = .ok (.bipush 13, 2) := by decide +kernel
theorem d_Mo_readOptions_84 : decode cb_Mo_readOptions 84 = .ok (.if_icmp .ne 17, 3) := by decide +kernel
theorem d_Mo_readOptions_87 : decode cb_Mo_readOptions 87 = .ok (.bipush 13, 2) := by decide +kernel
theorem d_Mo_readOptions_89 : decode cb_Mo_readOptions 89 = .ok (.aload_n 0, 1) := by decide +kernel
theorem d_Mo_readOptions_90 : decode cb_Mo_readOptions 90 = .ok (.getfield 129, 3) := by decide +kernel
theorem d_Mo_readOptions_93 : decode cb_Mo_readOptions 93 = .ok (.iload_n 2, 1) := by decide +kernel
theorem d_Mo_readOptions_94 : decode cb_Mo_readOptions 94 = .ok (.iaload, 1) := by decide +kernel
theorem d_Mo_readOptions_95 : decode cb_Mo_readOptions 95 = .ok (.iadd, 1) := by decide +kernel
theorem d_Mo_readOptions_96 : decode cb_Mo_readOptions 96 = .ok (.istore 4, 2) := by decide +kernel
theorem d_Mo_readOptions_98 : decode cb_Mo_readOptions 98 = .ok (.iinc 2 1, 3) := by decide +kernel
theorem d_Mo_readOptions_101 : decode cb_Mo_readOptions 101 = .ok (.iload 4, 2) := by decide +kernel
theorem d_Mo_readOptions_103 : decode cb_Mo_readOptions 103 = .ok (.ifCond .ne 7, 3) := by decide +kernel
theorem d_Mo_readOptions_106 : decode cb_Mo_readOptions 106 = .ok (.iconst 1, 1) := by decide +kernel
theorem d_Mo_readOptions_107 : decode cb_Mo_readOptions 107 = .ok (.goto 4, 3) := by decide +kernel
theorem d_Mo_readOptions_110 : decode cb_Mo_readOptions 110 = .ok (.iconst 0, 1) := by decide +kernel
theorem d_Mo_readOptions_111 : decode cb_Mo_readOptions 111 = .ok (.istore 6, 2) := by decide +kernel
theorem d_Mo_readOptions_113 : decode cb_Mo_readOptions 113 = .ok (.iload_n 3, 1) := by decide +kernel
theorem d_Mo_readOptions_114 : decode cb_Mo_readOptions 114 = .ok (.iload 4, 2) := by decide +kernel
theorem d_Mo_readOptions_116 : decode cb_Mo_readOptions 116 = .ok (.iadd, 1) := by decide +kernel
theorem d_Mo_readOptions_117 : decode cb_Mo_readOptions 117 = .ok (.istore_n 3, 1) := by decide +kernel
theorem d_Mo_readOptions_118 : decode cb_Mo_readOptions 118 = .ok (.iload_n 3, 1) := by decide +kernel
theorem d_Mo_readOptions_119 : decode cb_Mo_readOptions 119 = .ok (.bipush 6, 2) := by decide +kernel
theorem d_Mo_readOptions_121 : decode cb_Mo_readOptions 121 = .ok (.if_icmp .eq 21, 3) := by decide +kernel
theorem d_Mo_readOptions_124 : decode cb_Mo_readOptions 124 = .ok (.iload_n 3, 1) := by decide +kernel
theorem d_Mo_readOptions_125 : decode cb_Mo_readOptions 125 = .ok (.bipush 11, 2) := by decide +kernel
theorem d_Mo_readOptions_127 : decode cb_Mo_readOptions 127 = .ok (.if_icmp .eq 15, 3) := by decide +kernel
theorem d_Mo_readOptions_130 : decode cb_Mo_readOptions 130 = .ok (.iload_n 3, 1) := by decide +kernel
theorem d_Mo_readOptions_131 : decode cb_Mo_readOptions 131 = .ok (.bipush 23, 2) := by decide +kernel
theorem d_Mo_readOptions_133 : decode cb_Mo_readOptions 133 = .ok (.if_icmp .eq 9, 3) := by decide +kernel
theorem d_Mo_readOptions_136 : decode cb_Mo_readOptions 136 = .ok (.iload_n 3, 1) := by decide +kernel
theorem d_Mo_readOptions_137 : decode cb_Mo_readOptions 137 = .ok (.bipush 27, 2) := by decide +kernel
theorem d_Mo_readOptions_139 : decode cb_Mo_readOptions 139 = .ok (.if_icmp .ne 7, 3) := by decide +kernel
theorem d_Mo_readOptions_142 : decode cb_Mo_readOptions 142 = .ok (.iconst 1, 1) := by decide +kernel
theorem d_Mo_readOptions_143 : decode cb_Mo_readOptions 143 = .ok (.goto 4, 3) := by decide +kernel
theorem d_Mo_readOptions_146 : decode cb_Mo_readOptions 146 = .ok (.iconst 0, 1) := by decide +kernel
theorem d_Mo_readOptions_147 : decode cb_Mo_readOptions 147 = .ok (.istore 7, 2) := by decide +kernel
theorem d_Mo_readOptions_149 : decode cb_Mo_readOptions 149 = .ok (.iload 7, 2) := by decide +kernel
theorem d_Mo_readOptions_151 : decode cb_Mo_readOptions 151 = .ok (.ifCond .eq 25, 3) := by decide +kernel
theorem d_Mo_readOptions_154 : decode cb_Mo_readOptions 154 = .ok (.iload 6, 2) := by decide +kernel
theorem d_Mo_readOptions_156 : decode cb_Mo_readOptions 156 = .ok (.ifCond .eq 9, 3) := by decide +kernel
theorem d_Mo_readOptions_159 : decode cb_Mo_readOptions 159 = .ok (.iload_n 3, 1) := by decide +kernel
theorem d_Mo_readOptions_160 : decode cb_Mo_readOptions 160 = .ok (.bipush 11, 2) := by decide +kernel
theorem d_Mo_readOptions_162 : decode cb_Mo_readOptions 162 = .ok (.if_icmp .ne 14, 3) := by decide +kernel
theorem d_Mo_readOptions_165 : decode cb_Mo_readOptions 165 = .ok (.iload_n 2, 1) := by decide +kernel
theorem d_Mo_readOptions_166 : decode cb_Mo_readOptions 166 = .ok (.iload 5, 2) := by decide +kernel
theorem d_Mo_readOptions_168 : decode cb_Mo_readOptions 168 = .ok (.iadd, 1) := by decide +kernel
theorem d_Mo_readOptions_169 : decode cb_Mo_readOptions 169 = .ok (.aload_n 0, 1) := by decide +kernel
theorem d_Mo_readOptions_170 : decode cb_Mo_readOptions 170 = .ok (.getfield 175, 3) := by decide +kernel
theorem d_Mo_readOptions_173 : decode cb_Mo_readOptions 173 = .ok (.if_icmp .le 5, 3) := by decide +kernel
theorem d_Mo_readOptions_176 : decode cb_Mo_readOptions 176 = .ok (.iconst (-1), 1) := by decide +kernel
theorem d_Mo_readOptions_177 : decode cb_Mo_readOptions 177 = .ok (.ireturn, 1) := by decide +kernel
theorem d_Mo_readOptions_178 : decode cb_Mo_readOptions 178 = .ok (.iload_n 3, 1) := by decide +kernel
theorem d_Mo_readOptions_179 : decode cb_Mo_readOptions 179 = .ok (.bipush 11, 2) := by decide +kernel
theorem d_Mo_readOptions_181 : decode cb_Mo_readOptions 181 = .ok (.if_icmp .ne 47, 3) := by decide +kernel
theorem d_Mo_readOptions_184 : decode cb_Mo_readOptions 184 = .ok (.aload_n 0, 1) := by decide +kernel
theorem d_Mo_readOptions_185 : decode cb_Mo_readOptions 185 = .ok (.getfield 178, 3) := by decide +kernel
theorem d_Mo_readOptions_188 : decode cb_Mo_readOptions 188 = .ok (.iconst 2, 1) := by decide +kernel
theorem d_Mo_readOptions_189 : decode cb_Mo_readOptions 189 = .ok (.if_icmp .ne 5, 3) := by decide +kernel
theorem d_Mo_readOptions_192 : decode cb_Mo_readOptions 192 = .ok (.iconst (-1), 1) := by decide +kernel
theorem d_Mo_readOptions_193 : decode cb_Mo_readOptions 193 = .ok (.ireturn, 1) := by decide +kernel
theorem d_Mo_readOptions_194 : decode cb_Mo_readOptions 194 = .ok (.aload_n 0, 1) := by decide +kernel
theorem d_Mo_readOptions_195 : decode cb_Mo_readOptions 195 = .ok (.getfield 132, 3) := by decide +kernel
theorem d_Mo_readOptions_198 : decode cb_Mo_readOptions 198 = .ok (.aload_n 0, 1) := by decide +kernel
theorem d_Mo_readOptions_199 : decode cb_Mo_readOptions 199 = .ok (.getfield 178, 3) := by decide +kernel
theorem d_Mo_readOptions_202 : decode cb_Mo_readOptions 202 = .ok (.iload_n 2, 1) := by decide +kernel
theorem d_Mo_readOptions_203 : decode cb_Mo_readOptions 203 = .ok (.iastore, 1) := by decide +kernel
theorem d_Mo_readOptions_204 : decode cb_Mo_readOptions 204 = .ok (.aload_n 0, 1) := by decide +kernel
theorem d_Mo_readOptions_205 : decode cb_Mo_readOptions 205 = .ok (.getfield 135, 3) := by decide +kernel
theorem d_Mo_readOptions_208 : decode cb_Mo_readOptions 208 = .ok (.aload_n 0, 1) := by decide +kernel
theorem d_Mo_readOptions_209 : decode cb_Mo_readOptions 209 = .ok (.getfield 178, 3) := by decide +kernel
theorem d_Mo_readOptions_212 : decode cb_Mo_readOptions 212 = .ok (.iload 5, 2) := by decide +kernel
theorem d_Mo_readOptions_214 : decode cb_Mo_readOptions 214 = .ok (.iastore, 1) := by decide +kernel
theorem d_Mo_readOptions_215 : decode cb_Mo_readOptions 215 = .ok (.aload_n 0, 1) := by decide +kernel
theorem d_Mo_readOptions_216 : decode cb_Mo_readOptions 216 = .ok (.dup, 1) := by decide +kernel
theorem d_Mo_readOptions_217 : decode cb_Mo_readOptions 217 = .ok (.getfield 178, 3) := by decide +kernel
theorem d_Mo_readOptions_220 : decode cb_Mo_readOptions 220 = .ok (.iconst 1, 1) := by decide +kernel
theorem d_Mo_readOptions_221 : decode cb_Mo_readOptions 221 = .ok (.iadd, 1) := by decide +kernel
theorem d_Mo_readOptions_222 : decode cb_Mo_readOptions 222 = .ok (.putfield 178, 3) := by decide +kernel
theorem d_Mo_readOptions_225 : decode cb_Mo_readOptions 225 = .ok (.goto 16, 3) := by decide +kernel
theorem d_Mo_readOptions_228 : decode cb_Mo_readOptions 228 = .ok (.aload_n 0, 1) := by decide +kernel
theorem d_Mo_readOptions_229 : decode cb_Mo_readOptions 229 = .ok (.iload_n 3, 1) := by decide +kernel
theorem d_Mo_readOptions_230 : decode cb_Mo_readOptions 230 = .ok (.iload_n 2, 1) := by decide +kernel
theorem d_Mo_readOptions_231 : decode cb_Mo_readOptions 231 = .ok (.iload 5, 2) := by decide +kernel
theorem d_Mo_readOptions_233 : decode cb_Mo_readOptions 233 = .ok (.invokevirtual 181, 3) := by decide +kernel
theorem d_Mo_readOptions_236 : decode cb_Mo_readOptions 236 = .ok (.ifCond .ne 5, 3) := by decide +kernel
theorem d_Mo_readOptions_239 : decode cb_Mo_readOptions 239 = .ok (.iconst (-1), 1) := by decide +kernel
theorem d_Mo_readOptions_240 : decode cb_Mo_readOptions 240 = .ok (.ireturn, 1) := by decide +kernel
theorem d_Mo_readOptions_241 : decode cb_Mo_readOptions 241 = .ok (.iload_n 2, 1) := by decide +kernel
theorem d_Mo_readOptions_242 : decode cb_Mo_readOptions 242 = .ok (.iload 5, 2) := by decide +kernel
theorem d_Mo_readOptions_244 : decode cb_Mo_readOptions 244 = .ok (.iadd, 1) := by decide +kernel
theorem d_Mo_readOptions_245 : decode cb_Mo_readOptions 245 = .ok (.istore_n 2, 1) := by decide +kernel
theorem d_Mo_readOptions_246 : decode cb_Mo_readOptions 246 = .ok (.goto (-242), 3) := by decide +kernel
theorem d_Mo_readOptions_249 : decode cb_Mo_readOptions 249 = .ok (.iload_n 2, 1) := by decide +kernel
theorem d_Mo_readOptions_250 : decode cb_Mo_readOptions 250 = .ok (.ireturn, 1) := by decide +kernel
theorem d_Mo_read_0 : decode cb_Mo_read 0 = .ok (.aload_n 0, 1) := by decide +kernel
theorem d_Mo_read_1 : decode cb_Mo_read 1 = .ok (.iconst (-1), 1) := by decide +kernel
theorem d_Mo_read_2 : decode cb_Mo_read 2 = .ok (.putfield 166, 3) := by decide +kernel
theorem d_Mo_read_5 : decode cb_Mo_read 5 = .ok (.aload_n 0, 1) := by decide +kernel
theorem d_Mo_read_6 : decode cb_Mo_read 6 = .ok (.iconst (-1), 1) := by decide +kernel
theorem d_Mo_read_7 : decode cb_Mo_read 7 = .ok (.putfield 169, 3) := by decide +kernel
theorem d_Mo_read_10 : decode cb_Mo_read 10 = .ok (.aload_n 0, 1) := by decide +kernel
theorem d_Mo_read_11 : decode cb_Mo_read 11 = .ok (.iconst (-1), 1) := by decide +kernel
theorem d_Mo_read_12 : decode cb_Mo_read 12 = .ok (.putfield 172, 3) := by decide +kernel
theorem d_Mo_read_15 : decode cb_Mo_read 15 = .ok (.aload_n 0, 1) := by decide +kernel
theorem d_Mo_read_16 : decode cb_Mo_read 16 = .ok (.iconst 0, 1) := by decide +kernel
theorem d_Mo_read_17 : decode cb_Mo_read 17 = .ok (.putfield 178, 3) := by decide +kernel
theorem d_Mo_read_20 : decode cb_Mo_read 20 = .ok (.aload_n 0, 1) := by decide +kernel
theorem d_Mo_read_21 : decode cb_Mo_read 21 = .ok (.iconst 0, 1) := by decide +kernel
theorem d_Mo_read_22 : decode cb_Mo_read 22 = .ok (.putfield 185, 3) := by decide +kernel
theorem d_Mo_read_25 : decode cb_Mo_read 25 = .ok (.aload_n 0, 1) := by decide +kernel
theorem d_Mo_read_26 : decode cb_Mo_read 26 = .ok (.iconst (-1), 1) := by decide +kernel
theorem d_Mo_read_27 : decode cb_Mo_read 27 = .ok (.putfield 188, 3) := by decide +kernel
theorem d_Mo_read_30 : decode cb_Mo_read 30 = .ok (.aload_n 0, 1) := by decide +kernel
theorem d_Mo_read_31 : decode cb_Mo_read 31 = .ok (.getfield 175, 3) := by decide +kernel
theorem d_Mo_read_34 : decode cb_Mo_read 34 = .ok (.iconst 4, 1) := by decide +kernel
theorem d_Mo_read_35 : decode cb_Mo_read 35 = .ok (.if_icmp .lt 16, 3) := by decide +kernel
theorem d_Mo_read_38 : decode cb_Mo_read 38 = .ok (.aload_n 0, 1) := by decide +kernel
theorem d_Mo_read_39 : decode cb_Mo_read 39 = .ok (.getfield 129, 3) := by decide +kernel
theorem d_Mo_read_42 : decode cb_Mo_read 42 = .ok (.iconst 0, 1) := by decide +kernel
theorem d_Mo_read_43 : decode cb_Mo_read 43 = .ok (.iaload, 1) := by decide +kernel
theorem d_Mo_read_44 : decode cb_Mo_read 44 = .ok (.bipush 64, 2) := by decide +kernel
theorem d_Mo_read_46 : decode cb_Mo_read 46 = .ok (.idiv, 1) := by decide +kernel
theorem d_Mo_read_47 : decode cb_Mo_read 47 = .ok (.iconst 1, 1) := by decide +kernel
theorem d_Mo_read_48 : decode cb_Mo_read 48 = .ok (.if_icmp .eq 5, 3) := by decide +kernel
theorem d_Mo_read_51 : decode cb_Mo_read 51 = .ok (.iconst 0, 1) := by decide +kernel
theorem d_Mo_read_52 : decode cb_Mo_read 52 = .ok (.ireturn, 1) := by decide +kernel
theorem d_Mo_read_53 : decode cb_Mo_read 53 = .ok (.aload_n 0, 1) := by decide +kernel
theorem d_Mo_read_54 : decode cb_Mo_read 54 = .ok (.aload_n 0, 1) := by decide +kernel
theorem d_Mo_read_55 : decode cb_Mo_read 55 = .ok (.getfield 129, 3) := by decide +kernel
theorem d_Mo_read_58 : decode cb_Mo_read 58 = .ok (.iconst 0, 1) := by decide +kernel
theorem d_Mo_read_59 : decode cb_Mo_read 59 = .ok (.iaload, 1) := by decide +kernel
theorem d_Mo_read_60 : decode cb_Mo_read 60 = .ok (.bipush 16, 2) := by decide +kernel
theorem d_Mo_read_62 : decode cb_Mo_read 62 = .ok (.idiv, 1) := by decide +kernel
theorem d_Mo_read_63 : decode cb_Mo_read 63 = .ok (.iconst 4, 1) := by decide +kernel
theorem d_Mo_read_64 : decode cb_Mo_read 64 = .ok (.irem, 1) := by decide +kernel
theorem d_Mo_read_65 : decode cb_Mo_read 65 = .ok (.putfield 191, 3) := by decide +kernel
theorem d_Mo_read_68 : decode cb_Mo_read 68 = .ok (.aload_n 0, 1) := by decide +kernel
theorem d_Mo_read_69 : decode cb_Mo_read 69 = .ok (.aload_n 0, 1) := by decide +kernel
theorem d_Mo_read_70 : decode cb_Mo_read 70 = .ok (.getfield 129, 3) := by decide +kernel
theorem d_Mo_read_73 : decode cb_Mo_read 73 = .ok (.iconst 1, 1) := by decide +kernel
theorem d_Mo_read_74 : decode cb_Mo_read 74 = .ok (.iaload, 1) := by decide +kernel
theorem d_Mo_read_75 : decode cb_Mo_read 75 = .ok (.putfield 194, 3) := by decide +kernel
theorem d_Mo_read_78 : decode cb_Mo_read 78 = .ok (.aload_n 0, 1) := by decide +kernel
theorem d_Mo_read_79 : decode cb_Mo_read 79 = .ok (.sipush 256, 3) := by decide +kernel
theorem d_Mo_read_82 : decode cb_Mo_read 82 = .ok (.aload_n 0, 1) := by decide +kernel
theorem d_Mo_read_83 : decode cb_Mo_read 83 = .ok (.getfield 129, 3) := by decide +kernel
theorem d_Mo_read_86 : decode cb_Mo_read 86 = .ok (.iconst 2, 1) := by decide +kernel
theorem d_Mo_read_87 : decode cb_Mo_read 87 = .ok (.iaload, 1) := by decide +kernel
theorem d_Mo_read_88 : decode cb_Mo_read 88 = .ok (.imul, 1) := by decide +kernel
theorem d_Mo_read_89 : decode cb_Mo_read 89 = .ok (.aload_n 0, 1) := by decide +kernel
theorem d_Mo_read_90 : decode cb_Mo_read 90 = .ok (.getfield 129, 3) := by decide +kernel
theorem d_Mo_read_93 : decode cb_Mo_read 93 = .ok (.iconst 3, 1) := by decide +kernel
theorem d_Mo_read_94 : decode cb_Mo_read 94 = .ok (.iaload, 1) := by decide +kernel
theorem d_Mo_read_95 : decode cb_Mo_read 95 = .ok (.iadd, 1) := by decide +kernel
theorem d_Mo_read_96 : decode cb_Mo_read 96 = .ok (.putfield 197, 3) := by decide +kernel
theorem d_Mo_read_99 : decode cb_Mo_read 99 = .ok (.aload_n 0, 1) := by decide +kernel
theorem d_Mo_read_100 : decode cb_Mo_read 100 = .ok (.getfield 194, 3) := by decide +kernel
theorem d_Mo_read_103 : decode cb_Mo_read 103 = .ok (.ifCond .ne 29, 3) := by decide +kernel
theorem d_Mo_read_106 : decode cb_Mo_read 106 = .ok (.aload_n 0, 1) := by decide +kernel
theorem d_Mo_read_107 : decode cb_Mo_read 107 = .ok (.getfield 129, 3) := by decide +kernel
theorem d_Mo_read_110 : decode cb_Mo_read 110 = .ok (.iconst 0, 1) := by decide +kernel
theorem d_Mo_read_111 : decode cb_Mo_read 111 = .ok (.iaload, 1) := by decide +kernel
theorem d_Mo_read_112 : decode cb_Mo_read 112 = .ok (.bipush 16, 2) := by decide +kernel
theorem d_Mo_read_114 : decode cb_Mo_read 114 = .ok (.irem, 1) := by decide +kernel
theorem d_Mo_read_115 : decode cb_Mo_read 115 = .ok (.ifCond .ne 15, 3) := by decide +kernel
theorem d_Mo_read_118 : decode cb_Mo_read 118 = .ok (.aload_n 0, 1) := by decide +kernel
theorem d_Mo_read_119 : decode cb_Mo_read 119 = .ok (.getfield 175, 3) := by decide +kernel
theorem d_Mo_read_122 : decode cb_Mo_read 122 = .ok (.iconst 4, 1) := by decide +kernel
theorem d_Mo_read_123 : decode cb_Mo_read 123 = .ok (.if_icmp .ne 7, 3) := by decide +kernel
theorem d_Mo_read_126 : decode cb_Mo_read 126 = .ok (.iconst 1, 1) := by decide +kernel
theorem d_Mo_read_127 : decode cb_Mo_read 127 = .ok (.goto 4, 3) := by decide +kernel
theorem d_Mo_read_130 : decode cb_Mo_read 130 = .ok (.iconst 0, 1) := by decide +kernel
theorem d_Mo_read_131 : decode cb_Mo_read 131 = .ok (.ireturn, 1) := by decide +kernel
theorem d_Mo_read_132 : decode cb_Mo_read 132 = .ok (.aload_n 0, 1) := by decide +kernel
theorem d_Mo_read_133 : decode cb_Mo_read 133 = .ok (.getfield 129, 3) := by decide +kernel
theorem d_Mo_read_136 : decode cb_Mo_read 136 = .ok (.iconst 0, 1) := by decide +kernel
theorem d_Mo_read_137 : decode cb_Mo_read 137 = .ok (.iaload, 1) := by decide +kernel
theorem d_Mo_read_138 : decode cb_Mo_read 138 = .ok (.bipush 16, 2) := by decide +kernel
theorem d_Mo_read_140 : decode cb_Mo_read 140 = .ok (.irem, 1) := by decide +kernel
theorem d_Mo_read_141 : decode cb_Mo_read 141 = .ok (.iconst 1, 1) := by decide +kernel
theorem d_Mo_read_142 : decode cb_Mo_read 142 = .ok (.if_icmp .ne 11, 3) := by decide +kernel
theorem d_Mo_read_145 : decode cb_Mo_read 145 = .ok (.aload_n 0, 1) := by decide +kernel
theorem d_Mo_read_146 : decode cb_Mo_read 146 = .ok (.getfield 175, 3) := by decide +kernel
theorem d_Mo_read_149 : decode cb_Mo_read 149 = .ok (.iconst 5, 1) := by decide +kernel
theorem d_Mo_read_150 : decode cb_Mo_read 150 = .ok (.if_icmp .ge 5, 3) := by decide +kernel
theorem d_Mo_read_153 : decode cb_Mo_read 153 = .ok (.iconst 0, 1) := by decide +kernel
theorem d_Mo_read_154 : decode cb_Mo_read 154 = .ok (.ireturn, 1) := by decide +kernel
theorem d_Mo_read_155 : decode cb_Mo_read 155 = .ok (.aload_n 0, 1) := by decide +kernel
theorem d_Mo_read_156 : decode cb_Mo_read 156 = .ok (.aload_n 0, 1) := by decide +kernel
theorem d_Mo_read_157 : decode cb_Mo_read 157 = .ok (.getfield 129, 3) := by decide +kernel
theorem d_Mo_read_160 : decode cb_Mo_read 160 = .ok (.iconst 4, 1) := by decide +kernel
theorem d_Mo_read_161 : decode cb_Mo_read 161 = .ok (.iaload, 1) := by decide +kernel
theorem d_Mo_read_162 : decode cb_Mo_read 162 = .ok (.putfield 188, 3) := by decide +kernel
theorem d_Mo_read_165 : decode cb_Mo_read 165 = .ok (.aload_n 0, 1) := by decide +kernel
theorem d_Mo_read_166 : decode cb_Mo_read 166 = .ok (.iconst 5, 1) := by decide +kernel
theorem d_Mo_read_167 : decode cb_Mo_read 167 = .ok (.invokevirtual 200, 3) := by decide +kernel
theorem d_Mo_read_170 : decode cb_Mo_read 170 = .ok (.istore_n 1, 1) := by decide +kernel
theorem d_Mo_read_171 : decode cb_Mo_read 171 = .ok (.iload_n 1, 1) := by decide +kernel
theorem d_Mo_read_172 : decode cb_Mo_read 172 = .ok (.ifCond .ge 5, 3) := by decide +kernel
theorem d_Mo_read_175 : decode cb_Mo_read 175 = .ok (.iconst 0, 1) := by decide +kernel
theorem d_Mo_read_176 : decode cb_Mo_read 176 = .ok (.ireturn, 1) := by decide +kernel
theorem d_Mo_read_177 : decode cb_Mo_read 177 = .ok (.iload_n 1, 1) := by decide +kernel
theorem d_Mo_read_178 : decode cb_Mo_read 178 = .ok (.aload_n 0, 1) := by decide +kernel
theorem d_Mo_read_179 : decode cb_Mo_read 179 = .ok (.getfield 175, 3) := by decide +kernel
theorem d_Mo_read_182 : decode cb_Mo_read 182 = .ok (.if_icmp .ge 44, 3) := by decide +kernel
theorem d_Mo_read_185 : decode cb_Mo_read 185 = .ok (.aload_n 0, 1) := by decide +kernel
theorem d_Mo_read_186 : decode cb_Mo_read 186 = .ok (.iload_n 1, 1) := by decide +kernel
theorem d_Mo_read_187 : decode cb_Mo_read 187 = .ok (.iconst 1, 1) := by decide +kernel
theorem d_Mo_read_188 : decode cb_Mo_read 188 = .ok (.iadd, 1) := by decide +kernel
theorem d_Mo_read_189 : decode cb_Mo_read 189 = .ok (.putfield 203, 3) := by decide +kernel
theorem d_Mo_read_192 : decode cb_Mo_read 192 = .ok (.aload_n 0, 1) := by decide +kernel
theorem d_Mo_read_193 : decode cb_Mo_read 193 = .ok (.aload_n 0, 1) := by decide +kernel
theorem d_Mo_read_194 : decode cb_Mo_read 194 = .ok (.getfield 175, 3) := by decide +kernel
theorem d_Mo_read_197 : decode cb_Mo_read 197 = .ok (.iload_n 1, 1) := by decide +kernel
theorem d_Mo_read_198 : decode cb_Mo_read 198 = .ok (.isub, 1) := by decide +kernel
theorem d_Mo_read_199 : decode cb_Mo_read 199 = .ok (.iconst 1, 1) := by decide +kernel
theorem d_Mo_read_200 : decode cb_Mo_read 200 = .ok (.isub, 1) := by decide +kernel
theorem d_Mo_read_201 : decode cb_Mo_read 201 = .ok (.putfield 185, 3) := by decide +kernel
theorem d_Mo_read_204 : decode cb_Mo_read 204 = .ok (.aload_n 0, 1) := by decide +kernel
theorem d_Mo_read_205 : decode cb_Mo_read 205 = .ok (.getfield 185, 3) := by decide +kernel
theorem d_Mo_read_208 : decode cb_Mo_read 208 = .ok (.ifCond .le 16, 3) := by decide +kernel
theorem d_Mo_read_211 : decode cb_Mo_read 211 = .ok (.aload_n 0, 1) := by decide +kernel
theorem d_Mo_read_212 : decode cb_Mo_read 212 = .ok (.getfield 185, 3) := by decide +kernel
theorem d_Mo_read_215 : decode cb_Mo_read 215 = .ok (.bipush 33, 2) := by decide +kernel
theorem d_Mo_read_217 : decode cb_Mo_read 217 = .ok (.if_icmp .ge 7, 3) := by decide +kernel
theorem d_Mo_read_220 : decode cb_Mo_read 220 = .ok (.iconst 1, 1) := by decide +kernel
theorem d_Mo_read_221 : decode cb_Mo_read 221 = .ok (.goto 4, 3) := by decide +kernel
theorem d_Mo_read_224 : decode cb_Mo_read 224 = .ok (.iconst 0, 1) := by decide +kernel
theorem d_Mo_read_225 : decode cb_Mo_read 225 = .ok (.ireturn, 1) := by decide +kernel
theorem d_Mo_read_226 : decode cb_Mo_read 226 = .ok (.iconst 1, 1) := by decide +kernel
theorem d_Mo_read_227 : decode cb_Mo_read 227 = .ok (.ireturn, 1) := by decide +kernel

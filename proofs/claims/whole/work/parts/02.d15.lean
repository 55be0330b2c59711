theorem d_Cl_receive_0 : decode cb_Cl_receive 0 = .ok (.aload_n 1, 1) := by decide +kernel
theorem d_Cl_receive_1 : decode cb_Cl_receive 1 = .ok (.getfield 123, 3) := by decide +kernel
theorem d_Cl_receive_4 : decode cb_Cl_receive 4 = .ok (.iconst 2, 1) := by decide +kernel
theorem d_Cl_receive_5 : decode cb_Cl_receive 5 = .ok (.if_icmp .ne 11, 3) := by decide +kernel
theorem d_Cl_receive_8 : decode cb_Cl_receive 8 = .ok (.aload_n 0, 1) := by decide +kernel
theorem d_Cl_receive_9 : decode cb_Cl_receive 9 = .ok (.aload_n 1, 1) := by decide +kernel
theorem d_Cl_receive_10 : decode cb_Cl_receive 10 = .ok (.invokevirtual 128, 3) := by decide +kernel
theorem d_Cl_receive_13 : decode cb_Cl_receive 13 = .ok (.goto 24, 3) := by decide +kernel
theorem d_Cl_receive_16 : decode cb_Cl_receive 16 = .ok (.aload_n 1, 1) := by decide +kernel
theorem d_Cl_receive_17 : decode cb_Cl_receive 17 = .ok (.getfield 123, 3) := by decide +kernel
theorem d_Cl_receive_20 : decode cb_Cl_receive 20 = .ok (.ifCond .ne 17, 3) := by decide +kernel
theorem d_Cl_receive_23 : decode cb_Cl_receive 23 = .ok (.aload_n 1, 1) := by decide +kernel
theorem d_Cl_receive_24 : decode cb_Cl_receive 24 = .ok (.getfield 132, 3) := by decide +kernel
theorem d_Cl_receive_27 : decode cb_Cl_receive 27 = .ok (.bipush 69, 2) := by decide +kernel
theorem d_Cl_receive_29 : decode cb_Cl_receive 29 = .ok (.if_icmp .ne 8, 3) := by decide +kernel
theorem d_Cl_receive_32 : decode cb_Cl_receive 32 = .ok (.aload_n 0, 1) := by decide +kernel
theorem d_Cl_receive_33 : decode cb_Cl_receive 33 = .ok (.aload_n 1, 1) := by decide +kernel
theorem d_Cl_receive_34 : decode cb_Cl_receive 34 = .ok (.invokevirtual 135, 3) := by decide +kernel
theorem d_Cl_receive_37 : decode cb_Cl_receive 37 = .ok (.return_, 1) := by decide +kernel
theorem d_Ms_isRequest_0 : decode cb_Ms_isRequest 0 = .ok (.aload_n 0, 1) := by decide +kernel
theorem d_Ms_isRequest_1 : decode cb_Ms_isRequest 1 = .ok (.getfield 26, 3) := by decide +kernel
theorem d_Ms_isRequest_4 : decode cb_Ms_isRequest 4 = .ok (.ifCond .ne 23, 3) := by decide +kernel
theorem d_Ms_isRequest_7 : decode cb_Ms_isRequest 7 = .ok (.aload_n 0, 1) := by decide +kernel
theorem d_Ms_isRequest_8 : decode cb_Ms_isRequest 8 = .ok (.getfield 30, 3) := by decide +kernel
theorem d_Ms_isRequest_11 : decode cb_Ms_isRequest 11 = .ok (.iconst 1, 1) := by decide +kernel
theorem d_Ms_isRequest_12 : decode cb_Ms_isRequest 12 = .ok (.if_icmp .eq 11, 3) := by decide +kernel
theorem d_Ms_isRequest_15 : decode cb_Ms_isRequest 15 = .ok (.aload_n 0, 1) := by decide +kernel
theorem d_Ms_isRequest_16 : decode cb_Ms_isRequest 16 = .ok (.getfield 30, 3) := by decide +kernel
theorem d_Ms_isRequest_19 : decode cb_Ms_isRequest 19 = .ok (.iconst 3, 1) := by decide +kernel
theorem d_Ms_isRequest_20 : decode cb_Ms_isRequest 20 = .ok (.if_icmp .ne 7, 3) := by decide +kernel
theorem d_Ms_isRequest_23 : decode cb_Ms_isRequest 23 = .ok (.iconst 1, 1) := by decide +kernel
theorem d_Ms_isRequest_24 : decode cb_Ms_isRequest 24 = .ok (.goto 4, 3) := by decide +kernel
theorem d_Ms_isRequest_27 : decode cb_Ms_isRequest 27 = .ok (.iconst 0, 1) := by decide +kernel
theorem d_Ms_isRequest_28 : decode cb_Ms_isRequest 28 = .ok (.ireturn, 1) := by decide +kernel
theorem d_Me_placeOf_0 : decode cb_Me_placeOf 0 = .ok (.iconst 0, 1) := by decide +kernel
theorem d_Me_placeOf_1 : decode cb_Me_placeOf 1 = .ok (.istore_n 2, 1) := by decide +kernel
theorem d_Me_placeOf_2 : decode cb_Me_placeOf 2 = .ok (.iload_n 2, 1) := by decide +kernel
theorem d_Me_placeOf_3 : decode cb_Me_placeOf 3 = .ok (.aload_n 0, 1) := by decide +kernel
theorem d_Me_placeOf_4 : decode cb_Me_placeOf 4 = .ok (.getfield 27, 3) := by decide +kernel
theorem d_Me_placeOf_7 : decode cb_Me_placeOf 7 = .ok (.if_icmp .ge 21, 3) := by decide +kernel
theorem d_Me_placeOf_10 : decode cb_Me_placeOf 10 = .ok (.aload_n 0, 1) := by decide +kernel
theorem d_Me_placeOf_11 : decode cb_Me_placeOf 11 = .ok (.getfield 17, 3) := by decide +kernel
theorem d_Me_placeOf_14 : decode cb_Me_placeOf 14 = .ok (.iload_n 2, 1) := by decide +kernel
theorem d_Me_placeOf_15 : decode cb_Me_placeOf 15 = .ok (.iaload, 1) := by decide +kernel
theorem d_Me_placeOf_16 : decode cb_Me_placeOf 16 = .ok (.iload_n 1, 1) := by decide +kernel
theorem d_Me_placeOf_17 : decode cb_Me_placeOf 17 = .ok (.if_icmp .ne 5, 3) := by decide +kernel
theorem d_Me_placeOf_20 : decode cb_Me_placeOf 20 = .ok (.iload_n 2, 1) := by decide +kernel
theorem d_Me_placeOf_21 : decode cb_Me_placeOf 21 = .ok (.ireturn, 1) := by decide +kernel
theorem d_Me_placeOf_22 : decode cb_Me_placeOf 22 = .ok (.iinc 2 1, 3) := by decide +kernel
theorem d_Me_placeOf_25 : decode cb_Me_placeOf 25 = .ok (.goto (-23), 3) := by decide +kernel
theorem d_Me_placeOf_28 : decode cb_Me_placeOf 28 = .ok (.iconst (-1), 1) := by decide +kernel
theorem d_Me_placeOf_29 : decode cb_Me_placeOf 29 = .ok (.ireturn, 1) := by decide +kernel
theorem d_Me_find_0 : decode cb_Me_find 0 = .ok (.aload_n 0, 1) := by decide +kernel
theorem d_Me_find_1 : decode cb_Me_find 1 = .ok (.iload_n 1, 1) := by decide +kernel
theorem d_Me_find_2 : decode cb_Me_find 2 = .ok (.invokevirtual 31, 3) := by decide +kernel
theorem d_Me_find_5 : decode cb_Me_find 5 = .ok (.istore_n 3, 1) := by decide +kernel
theorem d_Me_find_6 : decode cb_Me_find 6 = .ok (.iload_n 3, 1) := by decide +kernel
theorem d_Me_find_7 : decode cb_Me_find 7 = .ok (.iconst (-1), 1) := by decide +kernel
theorem d_Me_find_8 : decode cb_Me_find 8 = .ok (.if_icmp .eq 20, 3) := by decide +kernel
theorem d_Me_find_11 : decode cb_Me_find 11 = .ok (.iload_n 2, 1) := by decide +kernel
theorem d_Me_find_12 : decode cb_Me_find 12 = .ok (.aload_n 0, 1) := by decide +kernel
theorem d_Me_find_13 : decode cb_Me_find 13 = .ok (.getfield 21, 3) := by decide +kernel
theorem d_Me_find_16 : decode cb_Me_find 16 = .ok (.iload_n 3, 1) := by decide +kernel
theorem d_Me_find_17 : decode cb_Me_find 17 = .ok (.iaload, 1) := by decide +kernel
theorem d_Me_find_18 : decode cb_Me_find 18 = .ok (.isub, 1) := by decide +kernel
theorem d_Me_find_19 : decode cb_Me_find 19 = .ok (.bipush 100, 2) := by decide +kernel
theorem d_Me_find_21 : decode cb_Me_find 21 = .ok (.if_icmp .ge 7, 3) := by decide +kernel
theorem d_Me_find_24 : decode cb_Me_find 24 = .ok (.iload_n 3, 1) := by decide +kernel
theorem d_Me_find_25 : decode cb_Me_find 25 = .ok (.goto 4, 3) := by decide +kernel
theorem d_Me_find_28 : decode cb_Me_find 28 = .ok (.iconst (-1), 1) := by decide +kernel
theorem d_Me_find_29 : decode cb_Me_find 29 = .ok (.ireturn, 1) := by decide +kernel
theorem d_By_spells_0 : decode cb_By_spells 0 = .ok (.aload_n 0, 1) := by decide +kernel
theorem d_By_spells_1 : decode cb_By_spells 1 = .ok (.getfield 15, 3) := by decide +kernel
theorem d_By_spells_4 : decode cb_By_spells 4 = .ok (.aload_n 1, 1) := by decide +kernel
theorem d_By_spells_5 : decode cb_By_spells 5 = .ok (.invokevirtual 42, 3) := by decide +kernel
theorem d_By_spells_8 : decode cb_By_spells 8 = .ok (.if_icmp .ne 7, 3) := by decide +kernel
theorem d_By_spells_11 : decode cb_By_spells 11 = .ok (.iconst 1, 1) := by decide +kernel
theorem d_By_spells_12 : decode cb_By_spells 12 = .ok (.goto 4, 3) := by decide +kernel
theorem d_By_spells_15 : decode cb_By_spells 15 = .ok (.iconst 0, 1) := by decide +kernel
theorem d_By_spells_16 : decode cb_By_spells 16 = .ok (.istore_n 2, 1) := by decide +kernel
theorem d_By_spells_17 : decode cb_By_spells 17 = .ok (.iconst 0, 1) := by decide +kernel
theorem d_By_spells_18 : decode cb_By_spells 18 = .ok (.istore_n 3, 1) := by decide +kernel
theorem d_By_spells_19 : decode cb_By_spells 19 = .ok (.iload_n 2, 1) := by decide +kernel
theorem d_By_spells_20 : decode cb_By_spells 20 = .ok (.ifCond .eq 37, 3) := by decide +kernel
theorem d_By_spells_23 : decode cb_By_spells 23 = .ok (.iload_n 3, 1) := by decide +kernel
theorem d_By_spells_24 : decode cb_By_spells 24 = .ok (.aload_n 0, 1) := by decide +kernel
theorem d_By_spells_25 : decode cb_By_spells 25 = .ok (.getfield 15, 3) := by decide +kernel
theorem d_By_spells_28 : decode cb_By_spells 28 = .ok (.if_icmp .ge 29, 3) := by decide +kernel
theorem d_By_spells_31 : decode cb_By_spells 31 = .ok (.aload_n 0, 1) := by decide +kernel
theorem d_By_spells_32 : decode cb_By_spells 32 = .ok (.getfield 9, 3) := by decide +kernel
theorem d_By_spells_35 : decode cb_By_spells 35 = .ok (.iload_n 3, 1) := by decide +kernel
theorem d_By_spells_36 : decode cb_By_spells 36 = .ok (.iaload, 1) := by decide +kernel
theorem d_By_spells_37 : decode cb_By_spells 37 = .ok (.aload_n 1, 1) := by decide +kernel
theorem d_By_spells_38 : decode cb_By_spells 38 = .ok (.iload_n 3, 1) := by decide +kernel
theorem d_By_spells_39 : decode cb_By_spells 39 = .ok (.invokevirtual 47, 3) := by decide +kernel
theorem d_By_spells_42 : decode cb_By_spells 42 = .ok (.if_icmp .ne 7, 3) := by decide +kernel
theorem d_By_spells_45 : decode cb_By_spells 45 = .ok (.iconst 1, 1) := by decide +kernel
theorem d_By_spells_46 : decode cb_By_spells 46 = .ok (.goto 4, 3) := by decide +kernel
theorem d_By_spells_49 : decode cb_By_spells 49 = .ok (.iconst 0, 1) := by decide +kernel
theorem d_By_spells_50 : decode cb_By_spells 50 = .ok (.istore_n 2, 1) := by decide +kernel
theorem d_By_spells_51 : decode cb_By_spells 51 = .ok (.iinc 3 1, 3) := by decide +kernel
theorem d_By_spells_54 : decode cb_By_spells 54 = .ok (.goto (-35), 3) := by decide +kernel
theorem d_By_spells_57 : decode cb_By_spells 57 = .ok (.iload_n 2, 1) := by decide +kernel
theorem d_By_spells_58 : decode cb_By_spells 58 = .ok (.ireturn, 1) := by decide +kernel
theorem d_Ms_isUnder_0 : decode cb_Ms_isUnder 0 = .ok (.iload_n 1, 1) := by decide +kernel
theorem d_Ms_isUnder_1 : decode cb_Ms_isUnder 1 = .ok (.invokestatic 33, 3) := by decide +kernel
theorem d_Ms_isUnder_4 : decode cb_Ms_isUnder 4 = .ok (.astore_n 2, 1) := by decide +kernel
theorem d_Ms_isUnder_5 : decode cb_Ms_isUnder 5 = .ok (.aload_n 2, 1) := by decide +kernel
theorem d_Ms_isUnder_6 : decode cb_Ms_isUnder 6 = .ok (.invokevirtual 37, 3) := by decide +kernel
theorem d_Ms_isUnder_9 : decode cb_Ms_isUnder 9 = .ok (.ifCond .eq 7, 3) := by decide +kernel
theorem d_Ms_isUnder_12 : decode cb_Ms_isUnder 12 = .ok (.iconst 1, 1) := by decide +kernel
theorem d_Ms_isUnder_13 : decode cb_Ms_isUnder 13 = .ok (.goto 4, 3) := by decide +kernel
theorem d_Ms_isUnder_16 : decode cb_Ms_isUnder 16 = .ok (.iconst 2, 1) := by decide +kernel
theorem d_Ms_isUnder_17 : decode cb_Ms_isUnder 17 = .ok (.istore_n 3, 1) := by decide +kernel
theorem d_Ms_isUnder_18 : decode cb_Ms_isUnder 18 = .ok (.aload_n 0, 1) := by decide +kernel
theorem d_Ms_isUnder_19 : decode cb_Ms_isUnder 19 = .ok (.getfield 43, 3) := by decide +kernel
theorem d_Ms_isUnder_22 : decode cb_Ms_isUnder 22 = .ok (.iload_n 3, 1) := by decide +kernel
theorem d_Ms_isUnder_23 : decode cb_Ms_isUnder 23 = .ok (.if_icmp .ne 32, 3) := by decide +kernel
theorem d_Ms_isUnder_26 : decode cb_Ms_isUnder 26 = .ok (.aload_n 0, 1) := by decide +kernel
theorem d_Ms_isUnder_27 : decode cb_Ms_isUnder 27 = .ok (.getfield 14, 3) := by decide +kernel
theorem d_Ms_isUnder_30 : decode cb_Ms_isUnder 30 = .ok (.iload_n 1, 1) := by decide +kernel
theorem d_Ms_isUnder_31 : decode cb_Ms_isUnder 31 = .ok (.invokestatic 46, 3) := by decide +kernel
theorem d_Ms_isUnder_34 : decode cb_Ms_isUnder 34 = .ok (.invokevirtual 49, 3) := by decide +kernel
theorem d_Ms_isUnder_37 : decode cb_Ms_isUnder 37 = .ok (.ifCond .eq 18, 3) := by decide +kernel
theorem d_Ms_isUnder_40 : decode cb_Ms_isUnder 40 = .ok (.aload_n 0, 1) := by decide +kernel
theorem d_Ms_isUnder_41 : decode cb_Ms_isUnder 41 = .ok (.getfield 20, 3) := by decide +kernel
theorem d_Ms_isUnder_44 : decode cb_Ms_isUnder 44 = .ok (.aload_n 2, 1) := by decide +kernel
theorem d_Ms_isUnder_45 : decode cb_Ms_isUnder 45 = .ok (.invokevirtual 49, 3) := by decide +kernel
theorem d_Ms_isUnder_48 : decode cb_Ms_isUnder 48 = .ok (.ifCond .eq 7, 3) := by decide +kernel
theorem d_Ms_isUnder_51 : decode cb_Ms_isUnder 51 = .ok (.iconst 1, 1) := by decide +kernel
theorem d_Ms_isUnder_52 : decode cb_Ms_isUnder 52 = .ok (.goto 4, 3) := by decide +kernel
theorem d_Ms_isUnder_55 : decode cb_Ms_isUnder 55 = .ok (.iconst 0, 1) := by decide +kernel
theorem d_Ms_isUnder_56 : decode cb_Ms_isUnder 56 = .ok (.ireturn, 1) := by decide +kernel
theorem d_Se_resourceUnder_0 : decode cb_Se_resourceUnder 0 = .ok (.iconst 0, 1) := by decide +kernel
theorem d_Se_resourceUnder_1 : decode cb_Se_resourceUnder 1 = .ok (.istore_n 2, 1) := by decide +kernel
theorem d_Se_resourceUnder_2 : decode cb_Se_resourceUnder 2 = .ok (.iload_n 2, 1) := by decide +kernel
theorem d_Se_resourceUnder_3 : decode cb_Se_resourceUnder 3 = .ok (.iconst 4, 1) := by decide +kernel
theorem d_Se_resourceUnder_4 : decode cb_Se_resourceUnder 4 = .ok (.if_icmp .ge 19, 3) := by decide +kernel
theorem d_Se_resourceUnder_7 : decode cb_Se_resourceUnder 7 = .ok (.aload_n 1, 1) := by decide +kernel
theorem d_Se_resourceUnder_8 : decode cb_Se_resourceUnder 8 = .ok (.iload_n 2, 1) := by decide +kernel
theorem d_Se_resourceUnder_9 : decode cb_Se_resourceUnder 9 = .ok (.invokevirtual 113, 3) := by decide +kernel
theorem d_Se_resourceUnder_12 : decode cb_Se_resourceUnder 12 = .ok (.ifCond .eq 5, 3) := by decide +kernel
theorem d_Se_resourceUnder_15 : decode cb_Se_resourceUnder 15 = .ok (.iload_n 2, 1) := by decide +kernel
theorem d_Se_resourceUnder_16 : decode cb_Se_resourceUnder 16 = .ok (.ireturn, 1) := by decide +kernel
theorem d_Se_resourceUnder_17 : decode cb_Se_resourceUnder 17 = .ok (.iinc 2 1, 3) := by decide +kernel
theorem d_Se_resourceUnder_20 : decode cb_Se_resourceUnder 20 = .ok (.goto (-18), 3) := by decide +kernel
theorem d_Se_resourceUnder_23 : decode cb_Se_resourceUnder 23 = .ok (.iconst (-1), 1) := by decide +kernel
theorem d_Se_resourceUnder_24 : decode cb_Se_resourceUnder 24 = .ok (.ireturn, 1) := by decide +kernel
theorem d_Se_takePart_0 : decode cb_Se_takePart 0 = .ok (.aload_n 0, 1) := by decide +kernel
theorem d_Se_takePart_1 : decode cb_Se_takePart 1 = .ok (.getfield 17, 3) := by decide +kernel
theorem d_Se_takePart_4 : decode cb_Se_takePart 4 = .ok (.iload_n 2, 1) := by decide +kernel
theorem d_Se_takePart_5 : decode cb_Se_takePart 5 = .ok (.aaload, 1) := by decide +kernel
theorem d_Se_takePart_6 : decode cb_Se_takePart 6 = .ok (.astore_n 3, 1) := by decide +kernel
theorem d_Se_takePart_7 : decode cb_Se_takePart 7 = .ok (.aload_n 1, 1) := by decide +kernel
theorem d_Se_takePart_8 : decode cb_Se_takePart 8 = .ok (.getfield 98, 3) := by decide +kernel
theorem d_Se_takePart_11 : decode cb_Se_takePart 11 = .ok (.invokestatic 126, 3) := by decide +kernel
theorem d_Se_takePart_14 : decode cb_Se_takePart 14 = .ok (.istore 4, 2) := by decide +kernel
theorem d_Se_takePart_16 : decode cb_Se_takePart 16 = .ok (.iload 4, 2) := by decide +kernel
theorem d_Se_takePart_18 : decode cb_Se_takePart 18 = .ok (.ifCond .ne 7, 3) := by decide +kernel
theorem d_Se_takePart_21 : decode cb_Se_takePart 21 = .ok (.aload_n 3, 1) := by decide +kernel
theorem d_Se_takePart_22 : decode cb_Se_takePart 22 = .ok (.invokevirtual 136, 3) := by decide +kernel
theorem d_Se_takePart_25 : decode cb_Se_takePart 25 = .ok (.iload 4, 2) := by decide +kernel
theorem d_Se_takePart_27 : decode cb_Se_takePart 27 = .ok (.aload_n 1, 1) := by decide +kernel
theorem d_Se_takePart_28 : decode cb_Se_takePart 28 = .ok (.getfield 98, 3) := by decide +kernel
theorem d_Se_takePart_31 : decode cb_Se_takePart 31 = .ok (.invokestatic 130, 3) := by decide +kernel
theorem d_Se_takePart_34 : decode cb_Se_takePart 34 = .ok (.invokestatic 133, 3) := by decide +kernel
theorem d_Se_takePart_37 : decode cb_Se_takePart 37 = .ok (.imul, 1) := by decide +kernel
theorem d_Se_takePart_38 : decode cb_Se_takePart 38 = .ok (.aload_n 3, 1) := by decide +kernel
theorem d_Se_takePart_39 : decode cb_Se_takePart 39 = .ok (.getfield 52, 3) := by decide +kernel
theorem d_Se_takePart_42 : decode cb_Se_takePart 42 = .ok (.if_icmp .eq 7, 3) := by decide +kernel
theorem d_Se_takePart_45 : decode cb_Se_takePart 45 = .ok (.sipush 136, 3) := by decide +kernel
theorem d_Se_takePart_48 : decode cb_Se_takePart 48 = .ok (.ireturn, 1) := by decide +kernel
theorem d_Se_takePart_49 : decode cb_Se_takePart 49 = .ok (.aload_n 3, 1) := by decide +kernel
theorem d_Se_takePart_50 : decode cb_Se_takePart 50 = .ok (.getfield 52, 3) := by decide +kernel
theorem d_Se_takePart_53 : decode cb_Se_takePart 53 = .ok (.aload_n 1, 1) := by decide +kernel
theorem d_Se_takePart_54 : decode cb_Se_takePart 54 = .ok (.getfield 139, 3) := by decide +kernel
theorem d_Se_takePart_57 : decode cb_Se_takePart 57 = .ok (.getfield 52, 3) := by decide +kernel
theorem d_Se_takePart_60 : decode cb_Se_takePart 60 = .ok (.iadd, 1) := by decide +kernel
theorem d_Se_takePart_61 : decode cb_Se_takePart 61 = .ok (.bipush 64, 2) := by decide +kernel
theorem d_Se_takePart_63 : decode cb_Se_takePart 63 = .ok (.if_icmp .le 11, 3) := by decide +kernel
theorem d_Se_takePart_66 : decode cb_Se_takePart 66 = .ok (.aload_n 3, 1) := by decide +kernel
theorem d_Se_takePart_67 : decode cb_Se_takePart 67 = .ok (.invokevirtual 136, 3) := by decide +kernel
theorem d_Se_takePart_70 : decode cb_Se_takePart 70 = .ok (.sipush 141, 3) := by decide +kernel
theorem d_Se_takePart_73 : decode cb_Se_takePart 73 = .ok (.ireturn, 1) := by decide +kernel
theorem d_Se_takePart_74 : decode cb_Se_takePart 74 = .ok (.aload_n 3, 1) := by decide +kernel
theorem d_Se_takePart_75 : decode cb_Se_takePart 75 = .ok (.aload_n 1, 1) := by decide +kernel
theorem d_Se_takePart_76 : decode cb_Se_takePart 76 = .ok (.getfield 139, 3) := by decide +kernel
theorem d_Se_takePart_79 : decode cb_Se_takePart 79 = .ok (.iconst 0, 1) := by decide +kernel
theorem d_Se_takePart_80 : decode cb_Se_takePart 80 = .ok (.aload_n 1, 1) := by decide +kernel
theorem d_Se_takePart_81 : decode cb_Se_takePart 81 = .ok (.getfield 139, 3) := by decide +kernel
theorem d_Se_takePart_84 : decode cb_Se_takePart 84 = .ok (.getfield 52, 3) := by decide +kernel
theorem d_Se_takePart_87 : decode cb_Se_takePart 87 = .ok (.invokevirtual 142, 3) := by decide +kernel
theorem d_Se_takePart_90 : decode cb_Se_takePart 90 = .ok (.aload_n 1, 1) := by decide +kernel
theorem d_Se_takePart_91 : decode cb_Se_takePart 91 = .ok (.getfield 98, 3) := by decide +kernel
theorem d_Se_takePart_94 : decode cb_Se_takePart 94 = .ok (.invokestatic 146, 3) := by decide +kernel
theorem d_Se_takePart_97 : decode cb_Se_takePart 97 = .ok (.ifCond .eq 6, 3) := by decide +kernel
theorem d_Se_takePart_100 : decode cb_Se_takePart 100 = .ok (.bipush 95, 2) := by decide +kernel
theorem d_Se_takePart_102 : decode cb_Se_takePart 102 = .ok (.ireturn, 1) := by decide +kernel
theorem d_Se_takePart_103 : decode cb_Se_takePart 103 = .ok (.aload_n 0, 1) := by decide +kernel
theorem d_Se_takePart_104 : decode cb_Se_takePart 104 = .ok (.getfield 11, 3) := by decide +kernel
theorem d_Se_takePart_107 : decode cb_Se_takePart 107 = .ok (.iload_n 2, 1) := by decide +kernel
theorem d_Se_takePart_108 : decode cb_Se_takePart 108 = .ok (.aaload, 1) := by decide +kernel
theorem d_Se_takePart_109 : decode cb_Se_takePart 109 = .ok (.aload_n 3, 1) := by decide +kernel
theorem d_Se_takePart_110 : decode cb_Se_takePart 110 = .ok (.invokevirtual 149, 3) := by decide +kernel
theorem d_Se_takePart_113 : decode cb_Se_takePart 113 = .ok (.aload_n 3, 1) := by decide +kernel
theorem d_Se_takePart_114 : decode cb_Se_takePart 114 = .ok (.invokevirtual 136, 3) := by decide +kernel
theorem d_Se_takePart_117 : decode cb_Se_takePart 117 = .ok (.bipush 68, 2) := by decide +kernel
theorem d_Se_takePart_119 : decode cb_Se_takePart 119 = .ok (.ireturn, 1) := by decide +kernel
theorem d_Se_handle_0 : decode cb_Se_handle 0 = .ok (.iload_n 2, 1) := by decide +kernel
theorem d_Se_handle_1 : decode cb_Se_handle 1 = .ok (.iconst (-1), 1) := by decide +kernel
theorem d_Se_handle_2 : decode cb_Se_handle 2 = .ok (.if_icmp .ne 7, 3) := by decide +kernel
theorem d_Se_handle_5 : decode cb_Se_handle 5 = .ok (.sipush 132, 3) := by decide +kernel
theorem d_Se_handle_8 : decode cb_Se_handle 8 = .ok (.ireturn, 1) := by decide +kernel
theorem d_Se_handle_9 : decode cb_Se_handle 9 = .ok (.aload_n 1, 1) := by decide +kernel
theorem d_Se_handle_10 : decode cb_Se_handle 10 = .ok (.getfield 117, 3) := by decide +kernel
theorem d_Se_handle_13 : decode cb_Se_handle 13 = .ok (.iconst 1, 1) := by decide +kernel
theorem d_Se_handle_14 : decode cb_Se_handle 14 = .ok (.if_icmp .ne 10, 3) := by decide +kernel
theorem d_Se_handle_17 : decode cb_Se_handle 17 = .ok (.aload_n 1, 1) := by decide +kernel
theorem d_Se_handle_18 : decode cb_Se_handle 18 = .ok (.getfield 120, 3) := by decide +kernel
theorem d_Se_handle_21 : decode cb_Se_handle 21 = .ok (.goto 7, 3) := by decide +kernel
theorem d_Se_handle_24 : decode cb_Se_handle 24 = .ok (.aload_n 1, 1) := by decide +kernel
theorem d_Se_handle_25 : decode cb_Se_handle 25 = .ok (.getfield 98, 3) := by decide +kernel
theorem d_Se_handle_28 : decode cb_Se_handle 28 = .ok (.iconst (-1), 1) := by decide +kernel
theorem d_Se_handle_29 : decode cb_Se_handle 29 = .ok (.if_icmp .ne 7, 3) := by decide +kernel
theorem d_Se_handle_32 : decode cb_Se_handle 32 = .ok (.sipush 130, 3) := by decide +kernel
theorem d_Se_handle_35 : decode cb_Se_handle 35 = .ok (.ireturn, 1) := by decide +kernel
theorem d_Se_handle_36 : decode cb_Se_handle 36 = .ok (.aload_n 1, 1) := by decide +kernel
theorem d_Se_handle_37 : decode cb_Se_handle 37 = .ok (.getfield 117, 3) := by decide +kernel
theorem d_Se_handle_40 : decode cb_Se_handle 40 = .ok (.iconst 3, 1) := by decide +kernel
theorem d_Se_handle_41 : decode cb_Se_handle 41 = .ok (.if_icmp .ne 10, 3) := by decide +kernel
theorem d_Se_handle_44 : decode cb_Se_handle 44 = .ok (.aload_n 0, 1) := by decide +kernel
theorem d_Se_handle_45 : decode cb_Se_handle 45 = .ok (.aload_n 1, 1) := by decide +kernel
theorem d_Se_handle_46 : decode cb_Se_handle 46 = .ok (.iload_n 2, 1) := by decide +kernel
theorem d_Se_handle_47 : decode cb_Se_handle 47 = .ok (.invokevirtual 123, 3) := by decide +kernel
theorem d_Se_handle_50 : decode cb_Se_handle 50 = .ok (.ireturn, 1) := by decide +kernel
theorem d_Se_handle_51 : decode cb_Se_handle 51 = .ok (.aload_n 1, 1) := by decide +kernel
theorem d_Se_handle_52 : decode cb_Se_handle 52 = .ok (.getfield 120, 3) := by decide +kernel
theorem d_Se_handle_55 : decode cb_Se_handle 55 = .ok (.invokestatic 126, 3) := by decide +kernel
theorem d_Se_handle_58 : decode cb_Se_handle 58 = .ok (.istore_n 3, 1) := by decide +kernel
theorem d_Se_handle_59 : decode cb_Se_handle 59 = .ok (.iload_n 3, 1) := by decide +kernel
theorem d_Se_handle_60 : decode cb_Se_handle 60 = .ok (.aload_n 1, 1) := by decide +kernel
theorem d_Se_handle_61 : decode cb_Se_handle 61 = .ok (.getfield 120, 3) := by decide +kernel
theorem d_Se_handle_64 : decode cb_Se_handle 64 = .ok (.invokestatic 130, 3) := by decide +kernel
theorem d_Se_handle_67 : decode cb_Se_handle 67 = .ok (.invokestatic 133, 3) := by decide +kernel
theorem d_Se_handle_70 : decode cb_Se_handle 70 = .ok (.imul, 1) := by decide +kernel
theorem d_Se_handle_71 : decode cb_Se_handle 71 = .ok (.aload_n 0, 1) := by decide +kernel
theorem d_Se_handle_72 : decode cb_Se_handle 72 = .ok (.getfield 11, 3) := by decide +kernel
theorem d_Se_handle_75 : decode cb_Se_handle 75 = .ok (.iload_n 2, 1) := by decide +kernel
theorem d_Se_handle_76 : decode cb_Se_handle 76 = .ok (.aaload, 1) := by decide +kernel
theorem d_Se_handle_77 : decode cb_Se_handle 77 = .ok (.getfield 52, 3) := by decide +kernel
theorem d_Se_handle_80 : decode cb_Se_handle 80 = .ok (.if_icmp .lt 7, 3) := by decide +kernel
theorem d_Se_handle_83 : decode cb_Se_handle 83 = .ok (.iconst 1, 1) := by decide +kernel
theorem d_Se_handle_84 : decode cb_Se_handle 84 = .ok (.goto 4, 3) := by decide +kernel
theorem d_Se_handle_87 : decode cb_Se_handle 87 = .ok (.iconst 0, 1) := by decide +kernel
theorem d_Se_handle_88 : decode cb_Se_handle 88 = .ok (.istore 4, 2) := by decide +kernel
theorem d_Se_handle_90 : decode cb_Se_handle 90 = .ok (.iload_n 3, 1) := by decide +kernel
theorem d_Se_handle_91 : decode cb_Se_handle 91 = .ok (.ifCond .eq 14, 3) := by decide +kernel
theorem d_Se_handle_94 : decode cb_Se_handle 94 = .ok (.iload 4, 2) := by decide +kernel
theorem d_Se_handle_96 : decode cb_Se_handle 96 = .ok (.ifCond .eq 9, 3) := by decide +kernel
theorem d_Se_handle_99 : decode cb_Se_handle 99 = .ok (.sipush 130, 3) := by decide +kernel
theorem d_Se_handle_102 : decode cb_Se_handle 102 = .ok (.goto 5, 3) := by decide +kernel
theorem d_Se_handle_105 : decode cb_Se_handle 105 = .ok (.bipush 69, 2) := by decide +kernel
theorem d_Se_handle_107 : decode cb_Se_handle 107 = .ok (.ireturn, 1) := by decide +kernel
theorem d_Se_watcherWith_0 : decode cb_Se_watcherWith 0 = .ok (.iconst 0, 1) := by decide +kernel
theorem d_Se_watcherWith_1 : decode cb_Se_watcherWith 1 = .ok (.istore_n 2, 1) := by decide +kernel
theorem d_Se_watcherWith_2 : decode cb_Se_watcherWith 2 = .ok (.iload_n 2, 1) := by decide +kernel
theorem d_Se_watcherWith_3 : decode cb_Se_watcherWith 3 = .ok (.aload_n 0, 1) := by decide +kernel
theorem d_Se_watcherWith_4 : decode cb_Se_watcherWith 4 = .ok (.getfield 183, 3) := by decide +kernel
theorem d_Se_watcherWith_7 : decode cb_Se_watcherWith 7 = .ok (.if_icmp .ge 24, 3) := by decide +kernel
theorem d_Se_watcherWith_10 : decode cb_Se_watcherWith 10 = .ok (.aload_n 0, 1) := by decide +kernel
theorem d_Se_watcherWith_11 : decode cb_Se_watcherWith 11 = .ok (.getfield 25, 3) := by decide +kernel
theorem d_Se_watcherWith_14 : decode cb_Se_watcherWith 14 = .ok (.iload_n 2, 1) := by decide +kernel
theorem d_Se_watcherWith_15 : decode cb_Se_watcherWith 15 = .ok (.aaload, 1) := by decide +kernel
theorem d_Se_watcherWith_16 : decode cb_Se_watcherWith 16 = .ok (.getfield 186, 3) := by decide +kernel
theorem d_Se_watcherWith_19 : decode cb_Se_watcherWith 19 = .ok (.iload_n 1, 1) := by decide +kernel
theorem d_Se_watcherWith_20 : decode cb_Se_watcherWith 20 = .ok (.if_icmp .ne 5, 3) := by decide +kernel
theorem d_Se_watcherWith_23 : decode cb_Se_watcherWith 23 = .ok (.iload_n 2, 1) := by decide +kernel
theorem d_Se_watcherWith_24 : decode cb_Se_watcherWith 24 = .ok (.ireturn, 1) := by decide +kernel
theorem d_Se_watcherWith_25 : decode cb_Se_watcherWith 25 = .ok (.iinc 2 1, 3) := by decide +kernel
theorem d_Se_watcherWith_28 : decode cb_Se_watcherWith 28 = .ok (.goto (-26), 3) := by decide +kernel
theorem d_Se_watcherWith_31 : decode cb_Se_watcherWith 31 = .ok (.iconst (-1), 1) := by decide +kernel
theorem d_Se_watcherWith_32 : decode cb_Se_watcherWith 32 = .ok (.ireturn, 1) := by decide +kernel
theorem d_Wa_begin_0 : decode cb_Wa_begin 0 = .ok (.aload_n 0, 1) := by decide +kernel
theorem d_Wa_begin_1 : decode cb_Wa_begin 1 = .ok (.getfield 10, 3) := by decide +kernel
theorem d_Wa_begin_4 : decode cb_Wa_begin 4 = .ok (.invokevirtual 16, 3) := by decide +kernel
theorem d_Wa_begin_7 : decode cb_Wa_begin 7 = .ok (.aload_n 0, 1) := by decide +kernel
theorem d_Wa_begin_8 : decode cb_Wa_begin 8 = .ok (.iload_n 1, 1) := by decide +kernel
theorem d_Wa_begin_9 : decode cb_Wa_begin 9 = .ok (.putfield 19, 3) := by decide +kernel
theorem d_Wa_begin_12 : decode cb_Wa_begin 12 = .ok (.aload_n 0, 1) := by decide +kernel
theorem d_Wa_begin_13 : decode cb_Wa_begin 13 = .ok (.iload_n 2, 1) := by decide +kernel
theorem d_Wa_begin_14 : decode cb_Wa_begin 14 = .ok (.putfield 23, 3) := by decide +kernel
theorem d_Wa_begin_17 : decode cb_Wa_begin 17 = .ok (.aload_n 0, 1) := by decide +kernel
theorem d_Wa_begin_18 : decode cb_Wa_begin 18 = .ok (.iload_n 3, 1) := by decide +kernel
theorem d_Wa_begin_19 : decode cb_Wa_begin 19 = .ok (.putfield 26, 3) := by decide +kernel
theorem d_Wa_begin_22 : decode cb_Wa_begin 22 = .ok (.aload_n 0, 1) := by decide +kernel
theorem d_Wa_begin_23 : decode cb_Wa_begin 23 = .ok (.iconst 0, 1) := by decide +kernel
theorem d_Wa_begin_24 : decode cb_Wa_begin 24 = .ok (.putfield 29, 3) := by decide +kernel
theorem d_Wa_begin_27 : decode cb_Wa_begin 27 = .ok (.return_, 1) := by decide +kernel
theorem d_Se_beginWatch_0 : decode cb_Se_beginWatch 0 = .ok (.aload_n 0, 1) := by decide +kernel
theorem d_Se_beginWatch_1 : decode cb_Se_beginWatch 1 = .ok (.iload_n 1, 1) := by decide +kernel
theorem d_Se_beginWatch_2 : decode cb_Se_beginWatch 2 = .ok (.invokevirtual 166, 3) := by decide +kernel
theorem d_Se_beginWatch_5 : decode cb_Se_beginWatch 5 = .ok (.istore 4, 2) := by decide +kernel
theorem d_Se_beginWatch_7 : decode cb_Se_beginWatch 7 = .ok (.iload 4, 2) := by decide +kernel
theorem d_Se_beginWatch_9 : decode cb_Se_beginWatch 9 = .ok (.iconst (-1), 1) := by decide +kernel
theorem d_Se_beginWatch_10 : decode cb_Se_beginWatch 10 = .ok (.if_icmp .ne 29, 3) := by decide +kernel
theorem d_Se_beginWatch_13 : decode cb_Se_beginWatch 13 = .ok (.aload_n 0, 1) := by decide +kernel
theorem d_Se_beginWatch_14 : decode cb_Se_beginWatch 14 = .ok (.getfield 183, 3) := by decide +kernel
theorem d_Se_beginWatch_17 : decode cb_Se_beginWatch 17 = .ok (.iconst 2, 1) := by decide +kernel
theorem d_Se_beginWatch_18 : decode cb_Se_beginWatch 18 = .ok (.if_icmp .ne 5, 3) := by decide +kernel
theorem d_Se_beginWatch_21 : decode cb_Se_beginWatch 21 = .ok (.iconst 0, 1) := by decide +kernel
theorem d_Se_beginWatch_22 : decode cb_Se_beginWatch 22 = .ok (.ireturn, 1) := by decide +kernel
theorem d_Se_beginWatch_23 : decode cb_Se_beginWatch 23 = .ok (.aload_n 0, 1) := by decide +kernel
theorem d_Se_beginWatch_24 : decode cb_Se_beginWatch 24 = .ok (.getfield 183, 3) := by decide +kernel
theorem d_Se_beginWatch_27 : decode cb_Se_beginWatch 27 = .ok (.istore 4, 2) := by decide +kernel
theorem d_Se_beginWatch_29 : decode cb_Se_beginWatch 29 = .ok (.aload_n 0, 1) := by decide +kernel
theorem d_Se_beginWatch_30 : decode cb_Se_beginWatch 30 = .ok (.dup, 1) := by decide +kernel
theorem d_Se_beginWatch_31 : decode cb_Se_beginWatch 31 = .ok (.getfield 183, 3) := by decide +kernel
theorem d_Se_beginWatch_34 : decode cb_Se_beginWatch 34 = .ok (.iconst 1, 1) := by decide +kernel
theorem d_Se_beginWatch_35 : decode cb_Se_beginWatch 35 = .ok (.iadd, 1) := by decide +kernel
theorem d_Se_beginWatch_36 : decode cb_Se_beginWatch 36 = .ok (.putfield 183, 3) := by decide +kernel
theorem d_Se_beginWatch_39 : decode cb_Se_beginWatch 39 = .ok (.aload_n 0, 1) := by decide +kernel
theorem d_Se_beginWatch_40 : decode cb_Se_beginWatch 40 = .ok (.getfield 25, 3) := by decide +kernel
theorem d_Se_beginWatch_43 : decode cb_Se_beginWatch 43 = .ok (.iload 4, 2) := by decide +kernel
theorem d_Se_beginWatch_45 : decode cb_Se_beginWatch 45 = .ok (.aaload, 1) := by decide +kernel
theorem d_Se_beginWatch_46 : decode cb_Se_beginWatch 46 = .ok (.iload_n 1, 1) := by decide +kernel
theorem d_Se_beginWatch_47 : decode cb_Se_beginWatch 47 = .ok (.iload_n 2, 1) := by decide +kernel
theorem d_Se_beginWatch_48 : decode cb_Se_beginWatch 48 = .ok (.iload_n 3, 1) := by decide +kernel
theorem d_Se_beginWatch_49 : decode cb_Se_beginWatch 49 = .ok (.invokevirtual 187, 3) := by decide +kernel
theorem d_Se_beginWatch_52 : decode cb_Se_beginWatch 52 = .ok (.iconst 1, 1) := by decide +kernel
theorem d_Se_beginWatch_53 : decode cb_Se_beginWatch 53 = .ok (.ireturn, 1) := by decide +kernel
theorem d_Se_addContent_0 : decode cb_Se_addContent 0 = .ok (.aload_n 1, 1) := by decide +kernel
theorem d_Se_addContent_1 : decode cb_Se_addContent 1 = .ok (.getfield 120, 3) := by decide +kernel
theorem d_Se_addContent_4 : decode cb_Se_addContent 4 = .ok (.invokestatic 126, 3) := by decide +kernel
theorem d_Se_addContent_7 : decode cb_Se_addContent 7 = .ok (.istore_n 3, 1) := by decide +kernel
theorem d_Se_addContent_8 : decode cb_Se_addContent 8 = .ok (.aload_n 1, 1) := by decide +kernel
theorem d_Se_addContent_9 : decode cb_Se_addContent 9 = .ok (.getfield 120, 3) := by decide +kernel
theorem d_Se_addContent_12 : decode cb_Se_addContent 12 = .ok (.invokestatic 130, 3) := by decide +kernel
theorem d_Se_addContent_15 : decode cb_Se_addContent 15 = .ok (.istore 4, 2) := by decide +kernel
theorem d_Se_addContent_17 : decode cb_Se_addContent 17 = .ok (.iload_n 3, 1) := by decide +kernel
theorem d_Se_addContent_18 : decode cb_Se_addContent 18 = .ok (.ifCond .ne 48, 3) := by decide +kernel
theorem d_Se_addContent_21 : decode cb_Se_addContent 21 = .ok (.aload_n 1, 1) := by decide +kernel
theorem d_Se_addContent_22 : decode cb_Se_addContent 22 = .ok (.getfield 153, 3) := by decide +kernel
theorem d_Se_addContent_25 : decode cb_Se_addContent 25 = .ok (.ifCond .ne 41, 3) := by decide +kernel
theorem d_Se_addContent_28 : decode cb_Se_addContent 28 = .ok (.aload_n 0, 1) := by decide +kernel
theorem d_Se_addContent_29 : decode cb_Se_addContent 29 = .ok (.aload_n 1, 1) := by decide +kernel
theorem d_Se_addContent_30 : decode cb_Se_addContent 30 = .ok (.getfield 87, 3) := by decide +kernel
theorem d_Se_addContent_33 : decode cb_Se_addContent 33 = .ok (.iload_n 2, 1) := by decide +kernel
theorem d_Se_addContent_34 : decode cb_Se_addContent 34 = .ok (.iload 4, 2) := by decide +kernel
theorem d_Se_addContent_36 : decode cb_Se_addContent 36 = .ok (.invokevirtual 156, 3) := by decide +kernel
theorem d_Se_addContent_39 : decode cb_Se_addContent 39 = .ok (.ifCond .eq 27, 3) := by decide +kernel
theorem d_Se_addContent_42 : decode cb_Se_addContent 42 = .ok (.aload_n 0, 1) := by decide +kernel
theorem d_Se_addContent_43 : decode cb_Se_addContent 43 = .ok (.aload_n 0, 1) := by decide +kernel
theorem d_Se_addContent_44 : decode cb_Se_addContent 44 = .ok (.getfield 160, 3) := by decide +kernel
theorem d_Se_addContent_47 : decode cb_Se_addContent 47 = .ok (.invokestatic 163, 3) := by decide +kernel
theorem d_Se_addContent_50 : decode cb_Se_addContent 50 = .ok (.putfield 160, 3) := by decide +kernel
theorem d_Se_addContent_53 : decode cb_Se_addContent 53 = .ok (.aload_n 0, 1) := by decide +kernel
theorem d_Se_addContent_54 : decode cb_Se_addContent 54 = .ok (.getfield 44, 3) := by decide +kernel
theorem d_Se_addContent_57 : decode cb_Se_addContent 57 = .ok (.bipush 6, 2) := by decide +kernel
theorem d_Se_addContent_59 : decode cb_Se_addContent 59 = .ok (.aload_n 0, 1) := by decide +kernel
theorem d_Se_addContent_60 : decode cb_Se_addContent 60 = .ok (.getfield 160, 3) := by decide +kernel
theorem d_Se_addContent_63 : decode cb_Se_addContent 63 = .ok (.invokevirtual 101, 3) := by decide +kernel
theorem d_Se_addContent_66 : decode cb_Se_addContent 66 = .ok (.iload_n 3, 1) := by decide +kernel
theorem d_Se_addContent_67 : decode cb_Se_addContent 67 = .ok (.ifCond .ne 23, 3) := by decide +kernel
theorem d_Se_addContent_70 : decode cb_Se_addContent 70 = .ok (.aload_n 1, 1) := by decide +kernel
theorem d_Se_addContent_71 : decode cb_Se_addContent 71 = .ok (.getfield 153, 3) := by decide +kernel
theorem d_Se_addContent_74 : decode cb_Se_addContent 74 = .ok (.iconst 1, 1) := by decide +kernel
theorem d_Se_addContent_75 : decode cb_Se_addContent 75 = .ok (.if_icmp .ne 15, 3) := by decide +kernel
theorem d_Se_addContent_78 : decode cb_Se_addContent 78 = .ok (.aload_n 0, 1) := by decide +kernel
theorem d_Se_addContent_79 : decode cb_Se_addContent 79 = .ok (.aload_n 0, 1) := by decide +kernel
theorem d_Se_addContent_80 : decode cb_Se_addContent 80 = .ok (.aload_n 1, 1) := by decide +kernel
theorem d_Se_addContent_81 : decode cb_Se_addContent 81 = .ok (.getfield 87, 3) := by decide +kernel
theorem d_Se_addContent_84 : decode cb_Se_addContent 84 = .ok (.invokevirtual 166, 3) := by decide +kernel
theorem d_Se_addContent_87 : decode cb_Se_addContent 87 = .ok (.invokevirtual 169, 3) := by decide +kernel
theorem d_Se_addContent_90 : decode cb_Se_addContent 90 = .ok (.aload_n 0, 1) := by decide +kernel
theorem d_Se_addContent_91 : decode cb_Se_addContent 91 = .ok (.getfield 44, 3) := by decide +kernel
theorem d_Se_addContent_94 : decode cb_Se_addContent 94 = .ok (.bipush 23, 2) := by decide +kernel
theorem d_Se_addContent_96 : decode cb_Se_addContent 96 = .ok (.aload_n 0, 1) := by decide +kernel
theorem d_Se_addContent_97 : decode cb_Se_addContent 97 = .ok (.iload_n 2, 1) := by decide +kernel
theorem d_Se_addContent_98 : decode cb_Se_addContent 98 = .ok (.iload_n 3, 1) := by decide +kernel
theorem d_Se_addContent_99 : decode cb_Se_addContent 99 = .ok (.iload 4, 2) := by decide +kernel
theorem d_Se_addContent_101 : decode cb_Se_addContent 101 = .ok (.invokevirtual 172, 3) := by decide +kernel
theorem d_Se_addContent_104 : decode cb_Se_addContent 104 = .ok (.invokevirtual 101, 3) := by decide +kernel
theorem d_Se_addContent_107 : decode cb_Se_addContent 107 = .ok (.aload_n 0, 1) := by decide +kernel
theorem d_Se_addContent_108 : decode cb_Se_addContent 108 = .ok (.getfield 44, 3) := by decide +kernel
theorem d_Se_addContent_111 : decode cb_Se_addContent 111 = .ok (.aload_n 0, 1) := by decide +kernel
theorem d_Se_addContent_112 : decode cb_Se_addContent 112 = .ok (.getfield 11, 3) := by decide +kernel
theorem d_Se_addContent_115 : decode cb_Se_addContent 115 = .ok (.iload_n 2, 1) := by decide +kernel
theorem d_Se_addContent_116 : decode cb_Se_addContent 116 = .ok (.aaload, 1) := by decide +kernel
theorem d_Se_addContent_117 : decode cb_Se_addContent 117 = .ok (.iload_n 3, 1) := by decide +kernel
theorem d_Se_addContent_118 : decode cb_Se_addContent 118 = .ok (.iload 4, 2) := by decide +kernel
theorem d_Se_addContent_120 : decode cb_Se_addContent 120 = .ok (.invokestatic 133, 3) := by decide +kernel
theorem d_Se_addContent_123 : decode cb_Se_addContent 123 = .ok (.imul, 1) := by decide +kernel
theorem d_Se_addContent_124 : decode cb_Se_addContent 124 = .ok (.iload 4, 2) := by decide +kernel
theorem d_Se_addContent_126 : decode cb_Se_addContent 126 = .ok (.invokestatic 133, 3) := by decide +kernel
theorem d_Se_addContent_129 : decode cb_Se_addContent 129 = .ok (.invokevirtual 176, 3) := by decide +kernel
theorem d_Se_addContent_132 : decode cb_Se_addContent 132 = .ok (.return_, 1) := by decide +kernel
theorem d_Me_takeOut_0 : decode cb_Me_takeOut 0 = .ok (.aload_n 0, 1) := by decide +kernel
theorem d_Me_takeOut_1 : decode cb_Me_takeOut 1 = .ok (.getfield 11, 3) := by decide +kernel
theorem d_Me_takeOut_4 : decode cb_Me_takeOut 4 = .ok (.iload_n 1, 1) := by decide +kernel
theorem d_Me_takeOut_5 : decode cb_Me_takeOut 5 = .ok (.aaload, 1) := by decide +kernel
theorem d_Me_takeOut_6 : decode cb_Me_takeOut 6 = .ok (.astore_n 2, 1) := by decide +kernel
theorem d_Me_takeOut_7 : decode cb_Me_takeOut 7 = .ok (.iload_n 1, 1) := by decide +kernel
theorem d_Me_takeOut_8 : decode cb_Me_takeOut 8 = .ok (.istore_n 3, 1) := by decide +kernel
theorem d_Me_takeOut_9 : decode cb_Me_takeOut 9 = .ok (.iload_n 3, 1) := by decide +kernel
theorem d_Me_takeOut_10 : decode cb_Me_takeOut 10 = .ok (.aload_n 0, 1) := by decide +kernel
theorem d_Me_takeOut_11 : decode cb_Me_takeOut 11 = .ok (.getfield 27, 3) := by decide +kernel
theorem d_Me_takeOut_14 : decode cb_Me_takeOut 14 = .ok (.iconst 1, 1) := by decide +kernel
theorem d_Me_takeOut_15 : decode cb_Me_takeOut 15 = .ok (.isub, 1) := by decide +kernel
theorem d_Me_takeOut_16 : decode cb_Me_takeOut 16 = .ok (.if_icmp .ge 51, 3) := by decide +kernel
theorem d_Me_takeOut_19 : decode cb_Me_takeOut 19 = .ok (.aload_n 0, 1) := by decide +kernel
theorem d_Me_takeOut_20 : decode cb_Me_takeOut 20 = .ok (.getfield 11, 3) := by decide +kernel
theorem d_Me_takeOut_23 : decode cb_Me_takeOut 23 = .ok (.iload_n 3, 1) := by decide +kernel
theorem d_Me_takeOut_24 : decode cb_Me_takeOut 24 = .ok (.aload_n 0, 1) := by decide +kernel
theorem d_Me_takeOut_25 : decode cb_Me_takeOut 25 = .ok (.getfield 11, 3) := by decide +kernel
theorem d_Me_takeOut_28 : decode cb_Me_takeOut 28 = .ok (.iload_n 3, 1) := by decide +kernel
theorem d_Me_takeOut_29 : decode cb_Me_takeOut 29 = .ok (.iconst 1, 1) := by decide +kernel
theorem d_Me_takeOut_30 : decode cb_Me_takeOut 30 = .ok (.iadd, 1) := by decide +kernel
theorem d_Me_takeOut_31 : decode cb_Me_takeOut 31 = .ok (.aaload, 1) := by decide +kernel
theorem d_Me_takeOut_32 : decode cb_Me_takeOut 32 = .ok (.aastore, 1) := by decide +kernel
theorem d_Me_takeOut_33 : decode cb_Me_takeOut 33 = .ok (.aload_n 0, 1) := by decide +kernel
theorem d_Me_takeOut_34 : decode cb_Me_takeOut 34 = .ok (.getfield 17, 3) := by decide +kernel
theorem d_Me_takeOut_37 : decode cb_Me_takeOut 37 = .ok (.iload_n 3, 1) := by decide +kernel
theorem d_Me_takeOut_38 : decode cb_Me_takeOut 38 = .ok (.aload_n 0, 1) := by decide +kernel
theorem d_Me_takeOut_39 : decode cb_Me_takeOut 39 = .ok (.getfield 17, 3) := by decide +kernel
theorem d_Me_takeOut_42 : decode cb_Me_takeOut 42 = .ok (.iload_n 3, 1) := by decide +kernel
theorem d_Me_takeOut_43 : decode cb_Me_takeOut 43 = .ok (.iconst 1, 1) := by decide +kernel
theorem d_Me_takeOut_44 : decode cb_Me_takeOut 44 = .ok (.iadd, 1) := by decide +kernel
theorem d_Me_takeOut_45 : decode cb_Me_takeOut 45 = .ok (.iaload, 1) := by decide +kernel
theorem d_Me_takeOut_46 : decode cb_Me_takeOut 46 = .ok (.iastore, 1) := by decide +kernel
theorem d_Me_takeOut_47 : decode cb_Me_takeOut 47 = .ok (.aload_n 0, 1) := by decide +kernel
theorem d_Me_takeOut_48 : decode cb_Me_takeOut 48 = .ok (.getfield 21, 3) := by decide +kernel
theorem d_Me_takeOut_51 : decode cb_Me_takeOut 51 = .ok (.iload_n 3, 1) := by decide +kernel
theorem d_Me_takeOut_52 : decode cb_Me_takeOut 52 = .ok (.aload_n 0, 1) := by decide +kernel
theorem d_Me_takeOut_53 : decode cb_Me_takeOut 53 = .ok (.getfield 21, 3) := by decide +kernel
theorem d_Me_takeOut_56 : decode cb_Me_takeOut 56 = .ok (.iload_n 3, 1) := by decide +kernel
theorem d_Me_takeOut_57 : decode cb_Me_takeOut 57 = .ok (.iconst 1, 1) := by decide +kernel
theorem d_Me_takeOut_58 : decode cb_Me_takeOut 58 = .ok (.iadd, 1) := by decide +kernel
theorem d_Me_takeOut_59 : decode cb_Me_takeOut 59 = .ok (.iaload, 1) := by decide +kernel
theorem d_Me_takeOut_60 : decode cb_Me_takeOut 60 = .ok (.iastore, 1) := by decide +kernel
theorem d_Me_takeOut_61 : decode cb_Me_takeOut 61 = .ok (.iinc 3 1, 3) := by decide +kernel
theorem d_Me_takeOut_64 : decode cb_Me_takeOut 64 = .ok (.goto (-55), 3) := by decide +kernel
theorem d_Me_takeOut_67 : decode cb_Me_takeOut 67 = .ok (.aload_n 0, 1) := by decide +kernel
theorem d_Me_takeOut_68 : decode cb_Me_takeOut 68 = .ok (.dup, 1) := by decide +kernel
theorem d_Me_takeOut_69 : decode cb_Me_takeOut 69 = .ok (.getfield 27, 3) := by decide +kernel
theorem d_Me_takeOut_72 : decode cb_Me_takeOut 72 = .ok (.iconst 1, 1) := by decide +kernel
theorem d_Me_takeOut_73 : decode cb_Me_takeOut 73 = .ok (.isub, 1) := by decide +kernel
theorem d_Me_takeOut_74 : decode cb_Me_takeOut 74 = .ok (.putfield 27, 3) := by decide +kernel
theorem d_Me_takeOut_77 : decode cb_Me_takeOut 77 = .ok (.aload_n 0, 1) := by decide +kernel
theorem d_Me_takeOut_78 : decode cb_Me_takeOut 78 = .ok (.getfield 11, 3) := by decide +kernel
theorem d_Me_takeOut_81 : decode cb_Me_takeOut 81 = .ok (.aload_n 0, 1) := by decide +kernel
theorem d_Me_takeOut_82 : decode cb_Me_takeOut 82 = .ok (.getfield 27, 3) := by decide +kernel
theorem d_Me_takeOut_85 : decode cb_Me_takeOut 85 = .ok (.aload_n 2, 1) := by decide +kernel
theorem d_Me_takeOut_86 : decode cb_Me_takeOut 86 = .ok (.aastore, 1) := by decide +kernel
theorem d_Me_takeOut_87 : decode cb_Me_takeOut 87 = .ok (.return_, 1) := by decide +kernel

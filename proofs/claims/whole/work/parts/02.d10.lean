theorem d_By_init_0 : decode cb_By_init 0 = .ok (.aload_n 0, 1) := by decide +kernel
theorem d_By_init_1 : decode cb_By_init 1 = .ok (.invokespecial 3, 3) := by decide +kernel
theorem d_By_init_4 : decode cb_By_init 4 = .ok (.aload_n 0, 1) := by decide +kernel
theorem d_By_init_5 : decode cb_By_init 5 = .ok (.iload_n 1, 1) := by decide +kernel
theorem d_By_init_6 : decode cb_By_init 6 = .ok (.newarray .int, 2) := by decide +kernel
theorem d_By_init_8 : decode cb_By_init 8 = .ok (.putfield 9, 3) := by decide +kernel
theorem d_By_init_11 : decode cb_By_init 11 = .ok (.aload_n 0, 1) := by decide +kernel
theorem d_By_init_12 : decode cb_By_init 12 = .ok (.iconst 0, 1) := by decide +kernel
theorem d_By_init_13 : decode cb_By_init 13 = .ok (.putfield 15, 3) := by decide +kernel
theorem d_By_init_16 : decode cb_By_init 16 = .ok (.return_, 1) := by decide +kernel
theorem d_Li_init_0 : decode cb_Li_init 0 = .ok (.aload_n 0, 1) := by decide +kernel
theorem d_Li_init_1 : decode cb_Li_init 1 = .ok (.invokespecial 3, 3) := by decide +kernel
theorem d_Li_init_4 : decode cb_Li_init 4 = .ok (.aload_n 0, 1) := by decide +kernel
theorem d_Li_init_5 : decode cb_Li_init 5 = .ok (.bipush 16, 2) := by decide +kernel
theorem d_Li_init_7 : decode cb_Li_init 7 = .ok (.anewarray 9, 3) := by decide +kernel
theorem d_Li_init_10 : decode cb_Li_init 10 = .ok (.putfield 11, 3) := by decide +kernel
theorem d_Li_init_13 : decode cb_Li_init 13 = .ok (.aload_n 0, 1) := by decide +kernel
theorem d_Li_init_14 : decode cb_Li_init 14 = .ok (.bipush 16, 2) := by decide +kernel
theorem d_Li_init_16 : decode cb_Li_init 16 = .ok (.newarray .int, 2) := by decide +kernel
theorem d_Li_init_18 : decode cb_Li_init 18 = .ok (.putfield 17, 3) := by decide +kernel
theorem d_Li_init_21 : decode cb_Li_init 21 = .ok (.iconst 0, 1) := by decide +kernel
theorem d_Li_init_22 : decode cb_Li_init 22 = .ok (.istore_n 1, 1) := by decide +kernel
theorem d_Li_init_23 : decode cb_Li_init 23 = .ok (.iload_n 1, 1) := by decide +kernel
theorem d_Li_init_24 : decode cb_Li_init 24 = .ok (.bipush 16, 2) := by decide +kernel
theorem d_Li_init_26 : decode cb_Li_init 26 = .ok (.if_icmp .ge 24, 3) := by decide +kernel
theorem d_Li_init_29 : decode cb_Li_init 29 = .ok (.aload_n 0, 1) := by decide +kernel
theorem d_Li_init_30 : decode cb_Li_init 30 = .ok (.getfield 11, 3) := by decide +kernel
theorem d_Li_init_33 : decode cb_Li_init 33 = .ok (.iload_n 1, 1) := by decide +kernel
theorem d_Li_init_34 : decode cb_Li_init 34 = .ok (.new 9, 3) := by decide +kernel
theorem d_Li_init_37 : decode cb_Li_init 37 = .ok (.dup, 1) := by decide +kernel
theorem d_Li_init_38 : decode cb_Li_init 38 = .ok (.bipush 48, 2) := by decide +kernel
theorem d_Li_init_40 : decode cb_Li_init 40 = .ok (.invokespecial 21, 3) := by decide +kernel
theorem d_Li_init_43 : decode cb_Li_init 43 = .ok (.aastore, 1) := by decide +kernel
theorem d_Li_init_44 : decode cb_Li_init 44 = .ok (.iinc 1 1, 3) := by decide +kernel
theorem d_Li_init_47 : decode cb_Li_init 47 = .ok (.goto (-24), 3) := by decide +kernel
theorem d_Li_init_50 : decode cb_Li_init 50 = .ok (.aload_n 0, 1) := by decide +kernel
theorem d_Li_init_51 : decode cb_Li_init 51 = .ok (.iconst 0, 1) := by decide +kernel
theorem d_Li_init_52 : decode cb_Li_init 52 = .ok (.putfield 24, 3) := by decide +kernel
theorem d_Li_init_55 : decode cb_Li_init 55 = .ok (.return_, 1) := by decide +kernel
theorem d_Pe_init_0 : decode cb_Pe_init 0 = .ok (.aload_n 0, 1) := by decide +kernel
theorem d_Pe_init_1 : decode cb_Pe_init 1 = .ok (.invokespecial 3, 3) := by decide +kernel
theorem d_Pe_init_4 : decode cb_Pe_init 4 = .ok (.aload_n 0, 1) := by decide +kernel
theorem d_Pe_init_5 : decode cb_Pe_init 5 = .ok (.new 9, 3) := by decide +kernel
theorem d_Pe_init_8 : decode cb_Pe_init 8 = .ok (.dup, 1) := by decide +kernel
theorem d_Pe_init_9 : decode cb_Pe_init 9 = .ok (.bipush 48, 2) := by decide +kernel
theorem d_Pe_init_11 : decode cb_Pe_init 11 = .ok (.invokespecial 11, 3) := by decide +kernel
theorem d_Pe_init_14 : decode cb_Pe_init 14 = .ok (.putfield 14, 3) := by decide +kernel
theorem d_Pe_init_17 : decode cb_Pe_init 17 = .ok (.aload_n 0, 1) := by decide +kernel
theorem d_Pe_init_18 : decode cb_Pe_init 18 = .ok (.iconst 0, 1) := by decide +kernel
theorem d_Pe_init_19 : decode cb_Pe_init 19 = .ok (.putfield 20, 3) := by decide +kernel
theorem d_Pe_init_22 : decode cb_Pe_init 22 = .ok (.return_, 1) := by decide +kernel
theorem d_Sl_init_0 : decode cb_Sl_init 0 = .ok (.aload_n 0, 1) := by decide +kernel
theorem d_Sl_init_1 : decode cb_Sl_init 1 = .ok (.invokespecial 3, 3) := by decide +kernel
theorem d_Sl_init_4 : decode cb_Sl_init 4 = .ok (.aload_n 0, 1) := by decide +kernel
theorem d_Sl_init_5 : decode cb_Sl_init 5 = .ok (.new 9, 3) := by decide +kernel
theorem d_Sl_init_8 : decode cb_Sl_init 8 = .ok (.dup, 1) := by decide +kernel
theorem d_Sl_init_9 : decode cb_Sl_init 9 = .ok (.bipush 80, 2) := by decide +kernel
theorem d_Sl_init_11 : decode cb_Sl_init 11 = .ok (.invokespecial 11, 3) := by decide +kernel
theorem d_Sl_init_14 : decode cb_Sl_init 14 = .ok (.putfield 14, 3) := by decide +kernel
theorem d_Sl_init_17 : decode cb_Sl_init 17 = .ok (.aload_n 0, 1) := by decide +kernel
theorem d_Sl_init_18 : decode cb_Sl_init 18 = .ok (.new 20, 3) := by decide +kernel
theorem d_Sl_init_21 : decode cb_Sl_init 21 = .ok (.dup, 1) := by decide +kernel
theorem d_Sl_init_22 : decode cb_Sl_init 22 = .ok (.invokespecial 22, 3) := by decide +kernel
theorem d_Sl_init_25 : decode cb_Sl_init 25 = .ok (.putfield 23, 3) := by decide +kernel
theorem d_Sl_init_28 : decode cb_Sl_init 28 = .ok (.aload_n 0, 1) := by decide +kernel
theorem d_Sl_init_29 : decode cb_Sl_init 29 = .ok (.iload_n 1, 1) := by decide +kernel
theorem d_Sl_init_30 : decode cb_Sl_init 30 = .ok (.putfield 27, 3) := by decide +kernel
theorem d_Sl_init_33 : decode cb_Sl_init 33 = .ok (.aload_n 0, 1) := by decide +kernel
theorem d_Sl_init_34 : decode cb_Sl_init 34 = .ok (.iconst 0, 1) := by decide +kernel
theorem d_Sl_init_35 : decode cb_Sl_init 35 = .ok (.putfield 31, 3) := by decide +kernel
theorem d_Sl_init_38 : decode cb_Sl_init 38 = .ok (.aload_n 0, 1) := by decide +kernel
theorem d_Sl_init_39 : decode cb_Sl_init 39 = .ok (.iconst 0, 1) := by decide +kernel
theorem d_Sl_init_40 : decode cb_Sl_init 40 = .ok (.putfield 34, 3) := by decide +kernel
theorem d_Sl_init_43 : decode cb_Sl_init 43 = .ok (.return_, 1) := by decide +kernel
theorem d_Wr_init_0 : decode cb_Wr_init 0 = .ok (.aload_n 0, 1) := by decide +kernel
theorem d_Wr_init_1 : decode cb_Wr_init 1 = .ok (.invokespecial 3, 3) := by decide +kernel
theorem d_Wr_init_4 : decode cb_Wr_init 4 = .ok (.aload_n 0, 1) := by decide +kernel
theorem d_Wr_init_5 : decode cb_Wr_init 5 = .ok (.new 9, 3) := by decide +kernel
theorem d_Wr_init_8 : decode cb_Wr_init 8 = .ok (.dup, 1) := by decide +kernel
theorem d_Wr_init_9 : decode cb_Wr_init 9 = .ok (.bipush 48, 2) := by decide +kernel
theorem d_Wr_init_11 : decode cb_Wr_init 11 = .ok (.invokespecial 11, 3) := by decide +kernel
theorem d_Wr_init_14 : decode cb_Wr_init 14 = .ok (.putfield 14, 3) := by decide +kernel
theorem d_Wr_init_17 : decode cb_Wr_init 17 = .ok (.aload_n 0, 1) := by decide +kernel
theorem d_Wr_init_18 : decode cb_Wr_init 18 = .ok (.iconst 0, 1) := by decide +kernel
theorem d_Wr_init_19 : decode cb_Wr_init 19 = .ok (.putfield 20, 3) := by decide +kernel
theorem d_Wr_init_22 : decode cb_Wr_init 22 = .ok (.return_, 1) := by decide +kernel
theorem d_Cl_init_0 : decode cb_Cl_init 0 = .ok (.aload_n 0, 1) := by decide +kernel
theorem d_Cl_init_1 : decode cb_Cl_init 1 = .ok (.invokespecial 3, 3) := by decide +kernel
theorem d_Cl_init_4 : decode cb_Cl_init 4 = .ok (.aload_n 0, 1) := by decide +kernel
theorem d_Cl_init_5 : decode cb_Cl_init 5 = .ok (.iconst 2, 1) := by decide +kernel
theorem d_Cl_init_6 : decode cb_Cl_init 6 = .ok (.anewarray 9, 3) := by decide +kernel
theorem d_Cl_init_9 : decode cb_Cl_init 9 = .ok (.putfield 11, 3) := by decide +kernel
theorem d_Cl_init_12 : decode cb_Cl_init 12 = .ok (.iconst 0, 1) := by decide +kernel
theorem d_Cl_init_13 : decode cb_Cl_init 13 = .ok (.istore_n 2, 1) := by decide +kernel
theorem d_Cl_init_14 : decode cb_Cl_init 14 = .ok (.iload_n 2, 1) := by decide +kernel
theorem d_Cl_init_15 : decode cb_Cl_init 15 = .ok (.iconst 2, 1) := by decide +kernel
theorem d_Cl_init_16 : decode cb_Cl_init 16 = .ok (.if_icmp .ge 23, 3) := by decide +kernel
theorem d_Cl_init_19 : decode cb_Cl_init 19 = .ok (.aload_n 0, 1) := by decide +kernel
theorem d_Cl_init_20 : decode cb_Cl_init 20 = .ok (.getfield 11, 3) := by decide +kernel
theorem d_Cl_init_23 : decode cb_Cl_init 23 = .ok (.iload_n 2, 1) := by decide +kernel
theorem d_Cl_init_24 : decode cb_Cl_init 24 = .ok (.new 9, 3) := by decide +kernel
theorem d_Cl_init_27 : decode cb_Cl_init 27 = .ok (.dup, 1) := by decide +kernel
theorem d_Cl_init_28 : decode cb_Cl_init 28 = .ok (.iload_n 2, 1) := by decide +kernel
theorem d_Cl_init_29 : decode cb_Cl_init 29 = .ok (.invokespecial 17, 3) := by decide +kernel
theorem d_Cl_init_32 : decode cb_Cl_init 32 = .ok (.aastore, 1) := by decide +kernel
theorem d_Cl_init_33 : decode cb_Cl_init 33 = .ok (.iinc 2 1, 3) := by decide +kernel
theorem d_Cl_init_36 : decode cb_Cl_init 36 = .ok (.goto (-22), 3) := by decide +kernel
theorem d_Cl_init_39 : decode cb_Cl_init 39 = .ok (.aload_n 0, 1) := by decide +kernel
theorem d_Cl_init_40 : decode cb_Cl_init 40 = .ok (.aload_n 1, 1) := by decide +kernel
theorem d_Cl_init_41 : decode cb_Cl_init 41 = .ok (.putfield 20, 3) := by decide +kernel
theorem d_Cl_init_44 : decode cb_Cl_init 44 = .ok (.aload_n 0, 1) := by decide +kernel
theorem d_Cl_init_45 : decode cb_Cl_init 45 = .ok (.new 24, 3) := by decide +kernel
theorem d_Cl_init_48 : decode cb_Cl_init 48 = .ok (.dup, 1) := by decide +kernel
theorem d_Cl_init_49 : decode cb_Cl_init 49 = .ok (.invokespecial 26, 3) := by decide +kernel
theorem d_Cl_init_52 : decode cb_Cl_init 52 = .ok (.putfield 27, 3) := by decide +kernel
theorem d_Cl_init_55 : decode cb_Cl_init 55 = .ok (.aload_n 0, 1) := by decide +kernel
theorem d_Cl_init_56 : decode cb_Cl_init 56 = .ok (.iconst 1, 1) := by decide +kernel
theorem d_Cl_init_57 : decode cb_Cl_init 57 = .ok (.putfield 31, 3) := by decide +kernel
theorem d_Cl_init_60 : decode cb_Cl_init 60 = .ok (.return_, 1) := by decide +kernel
theorem d_Wa_init_0 : decode cb_Wa_init 0 = .ok (.aload_n 0, 1) := by decide +kernel
theorem d_Wa_init_1 : decode cb_Wa_init 1 = .ok (.invokespecial 1, 3) := by decide +kernel
theorem d_Wa_init_4 : decode cb_Wa_init 4 = .ok (.aload_n 0, 1) := by decide +kernel
theorem d_Wa_init_5 : decode cb_Wa_init 5 = .ok (.new 7, 3) := by decide +kernel
theorem d_Wa_init_8 : decode cb_Wa_init 8 = .ok (.dup, 1) := by decide +kernel
theorem d_Wa_init_9 : decode cb_Wa_init 9 = .ok (.invokespecial 9, 3) := by decide +kernel
theorem d_Wa_init_12 : decode cb_Wa_init 12 = .ok (.putfield 10, 3) := by decide +kernel
theorem d_Wa_init_15 : decode cb_Wa_init 15 = .ok (.return_, 1) := by decide +kernel
theorem d_Me_init_0 : decode cb_Me_init 0 = .ok (.aload_n 0, 1) := by decide +kernel
theorem d_Me_init_1 : decode cb_Me_init 1 = .ok (.invokespecial 3, 3) := by decide +kernel
theorem d_Me_init_4 : decode cb_Me_init 4 = .ok (.aload_n 0, 1) := by decide +kernel
theorem d_Me_init_5 : decode cb_Me_init 5 = .ok (.iconst 4, 1) := by decide +kernel
theorem d_Me_init_6 : decode cb_Me_init 6 = .ok (.anewarray 9, 3) := by decide +kernel
theorem d_Me_init_9 : decode cb_Me_init 9 = .ok (.putfield 11, 3) := by decide +kernel
theorem d_Me_init_12 : decode cb_Me_init 12 = .ok (.aload_n 0, 1) := by decide +kernel
theorem d_Me_init_13 : decode cb_Me_init 13 = .ok (.iconst 4, 1) := by decide +kernel
theorem d_Me_init_14 : decode cb_Me_init 14 = .ok (.newarray .int, 2) := by decide +kernel
theorem d_Me_init_16 : decode cb_Me_init 16 = .ok (.putfield 17, 3) := by decide +kernel
theorem d_Me_init_19 : decode cb_Me_init 19 = .ok (.aload_n 0, 1) := by decide +kernel
theorem d_Me_init_20 : decode cb_Me_init 20 = .ok (.iconst 4, 1) := by decide +kernel
theorem d_Me_init_21 : decode cb_Me_init 21 = .ok (.newarray .int, 2) := by decide +kernel
theorem d_Me_init_23 : decode cb_Me_init 23 = .ok (.putfield 21, 3) := by decide +kernel
theorem d_Me_init_26 : decode cb_Me_init 26 = .ok (.iconst 0, 1) := by decide +kernel
theorem d_Me_init_27 : decode cb_Me_init 27 = .ok (.istore_n 1, 1) := by decide +kernel
theorem d_Me_init_28 : decode cb_Me_init 28 = .ok (.iload_n 1, 1) := by decide +kernel
theorem d_Me_init_29 : decode cb_Me_init 29 = .ok (.iconst 4, 1) := by decide +kernel
theorem d_Me_init_30 : decode cb_Me_init 30 = .ok (.if_icmp .ge 24, 3) := by decide +kernel
theorem d_Me_init_33 : decode cb_Me_init 33 = .ok (.aload_n 0, 1) := by decide +kernel
theorem d_Me_init_34 : decode cb_Me_init 34 = .ok (.getfield 11, 3) := by decide +kernel
theorem d_Me_init_37 : decode cb_Me_init 37 = .ok (.iload_n 1, 1) := by decide +kernel
theorem d_Me_init_38 : decode cb_Me_init 38 = .ok (.new 9, 3) := by decide +kernel
theorem d_Me_init_41 : decode cb_Me_init 41 = .ok (.dup, 1) := by decide +kernel
theorem d_Me_init_42 : decode cb_Me_init 42 = .ok (.bipush 48, 2) := by decide +kernel
theorem d_Me_init_44 : decode cb_Me_init 44 = .ok (.invokespecial 24, 3) := by decide +kernel
theorem d_Me_init_47 : decode cb_Me_init 47 = .ok (.aastore, 1) := by decide +kernel
theorem d_Me_init_48 : decode cb_Me_init 48 = .ok (.iinc 1 1, 3) := by decide +kernel
theorem d_Me_init_51 : decode cb_Me_init 51 = .ok (.goto (-23), 3) := by decide +kernel
theorem d_Me_init_54 : decode cb_Me_init 54 = .ok (.aload_n 0, 1) := by decide +kernel
theorem d_Me_init_55 : decode cb_Me_init 55 = .ok (.iconst 0, 1) := by decide +kernel
theorem d_Me_init_56 : decode cb_Me_init 56 = .ok (.putfield 27, 3) := by decide +kernel
theorem d_Me_init_59 : decode cb_Me_init 59 = .ok (.return_, 1) := by decide +kernel
theorem d_Se_init_0 : decode cb_Se_init 0 = .ok (.aload_n 0, 1) := by decide +kernel
theorem d_Se_init_1 : decode cb_Se_init 1 = .ok (.invokespecial 3, 3) := by decide +kernel
theorem d_Se_init_4 : decode cb_Se_init 4 = .ok (.aload_n 0, 1) := by decide +kernel
theorem d_Se_init_5 : decode cb_Se_init 5 = .ok (.iconst 4, 1) := by decide +kernel
theorem d_Se_init_6 : decode cb_Se_init 6 = .ok (.anewarray 9, 3) := by decide +kernel
theorem d_Se_init_9 : decode cb_Se_init 9 = .ok (.putfield 11, 3) := by decide +kernel
theorem d_Se_init_12 : decode cb_Se_init 12 = .ok (.aload_n 0, 1) := by decide +kernel
theorem d_Se_init_13 : decode cb_Se_init 13 = .ok (.iconst 4, 1) := by decide +kernel
theorem d_Se_init_14 : decode cb_Se_init 14 = .ok (.anewarray 9, 3) := by decide +kernel
theorem d_Se_init_17 : decode cb_Se_init 17 = .ok (.putfield 17, 3) := by decide +kernel
theorem d_Se_init_20 : decode cb_Se_init 20 = .ok (.iconst 0, 1) := by decide +kernel
theorem d_Se_init_21 : decode cb_Se_init 21 = .ok (.istore_n 2, 1) := by decide +kernel
theorem d_Se_init_22 : decode cb_Se_init 22 = .ok (.iload_n 2, 1) := by decide +kernel
theorem d_Se_init_23 : decode cb_Se_init 23 = .ok (.iconst 4, 1) := by decide +kernel
theorem d_Se_init_24 : decode cb_Se_init 24 = .ok (.if_icmp .ge 39, 3) := by decide +kernel
theorem d_Se_init_27 : decode cb_Se_init 27 = .ok (.aload_n 0, 1) := by decide +kernel
theorem d_Se_init_28 : decode cb_Se_init 28 = .ok (.getfield 11, 3) := by decide +kernel
theorem d_Se_init_31 : decode cb_Se_init 31 = .ok (.iload_n 2, 1) := by decide +kernel
theorem d_Se_init_32 : decode cb_Se_init 32 = .ok (.new 9, 3) := by decide +kernel
theorem d_Se_init_35 : decode cb_Se_init 35 = .ok (.dup, 1) := by decide +kernel
theorem d_Se_init_36 : decode cb_Se_init 36 = .ok (.bipush 64, 2) := by decide +kernel
theorem d_Se_init_38 : decode cb_Se_init 38 = .ok (.invokespecial 20, 3) := by decide +kernel
theorem d_Se_init_41 : decode cb_Se_init 41 = .ok (.aastore, 1) := by decide +kernel
theorem d_Se_init_42 : decode cb_Se_init 42 = .ok (.aload_n 0, 1) := by decide +kernel
theorem d_Se_init_43 : decode cb_Se_init 43 = .ok (.getfield 17, 3) := by decide +kernel
theorem d_Se_init_46 : decode cb_Se_init 46 = .ok (.iload_n 2, 1) := by decide +kernel
theorem d_Se_init_47 : decode cb_Se_init 47 = .ok (.new 9, 3) := by decide +kernel
theorem d_Se_init_50 : decode cb_Se_init 50 = .ok (.dup, 1) := by decide +kernel
theorem d_Se_init_51 : decode cb_Se_init 51 = .ok (.bipush 64, 2) := by decide +kernel
theorem d_Se_init_53 : decode cb_Se_init 53 = .ok (.invokespecial 20, 3) := by decide +kernel
theorem d_Se_init_56 : decode cb_Se_init 56 = .ok (.aastore, 1) := by decide +kernel
theorem d_Se_init_57 : decode cb_Se_init 57 = .ok (.iinc 2 1, 3) := by decide +kernel
theorem d_Se_init_60 : decode cb_Se_init 60 = .ok (.goto (-38), 3) := by decide +kernel
theorem d_Se_init_63 : decode cb_Se_init 63 = .ok (.aload_n 0, 1) := by decide +kernel
theorem d_Se_init_64 : decode cb_Se_init 64 = .ok (.iconst 2, 1) := by decide +kernel
theorem d_Se_init_65 : decode cb_Se_init 65 = .ok (.anewarray 23, 3) := by decide +kernel
theorem d_Se_init_68 : decode cb_Se_init 68 = .ok (.putfield 25, 3) := by decide +kernel
theorem d_Se_init_71 : decode cb_Se_init 71 = .ok (.iconst 0, 1) := by decide +kernel
theorem d_Se_init_72 : decode cb_Se_init 72 = .ok (.istore_n 2, 1) := by decide +kernel
theorem d_Se_init_73 : decode cb_Se_init 73 = .ok (.iload_n 2, 1) := by decide +kernel
theorem d_Se_init_74 : decode cb_Se_init 74 = .ok (.iconst 2, 1) := by decide +kernel
theorem d_Se_init_75 : decode cb_Se_init 75 = .ok (.if_icmp .ge 22, 3) := by decide +kernel
theorem d_Se_init_78 : decode cb_Se_init 78 = .ok (.aload_n 0, 1) := by decide +kernel
theorem d_Se_init_79 : decode cb_Se_init 79 = .ok (.getfield 25, 3) := by decide +kernel
theorem d_Se_init_82 : decode cb_Se_init 82 = .ok (.iload_n 2, 1) := by decide +kernel
theorem d_Se_init_83 : decode cb_Se_init 83 = .ok (.new 23, 3) := by decide +kernel
theorem d_Se_init_86 : decode cb_Se_init 86 = .ok (.dup, 1) := by decide +kernel
theorem d_Se_init_87 : decode cb_Se_init 87 = .ok (.invokespecial 29, 3) := by decide +kernel
theorem d_Se_init_90 : decode cb_Se_init 90 = .ok (.aastore, 1) := by decide +kernel
theorem d_Se_init_91 : decode cb_Se_init 91 = .ok (.iinc 2 1, 3) := by decide +kernel
theorem d_Se_init_94 : decode cb_Se_init 94 = .ok (.goto (-21), 3) := by decide +kernel
theorem d_Se_init_97 : decode cb_Se_init 97 = .ok (.aload_n 0, 1) := by decide +kernel
theorem d_Se_init_98 : decode cb_Se_init 98 = .ok (.new 30, 3) := by decide +kernel
theorem d_Se_init_101 : decode cb_Se_init 101 = .ok (.dup, 1) := by decide +kernel
theorem d_Se_init_102 : decode cb_Se_init 102 = .ok (.invokespecial 32, 3) := by decide +kernel
theorem d_Se_init_105 : decode cb_Se_init 105 = .ok (.putfield 33, 3) := by decide +kernel
theorem d_Se_init_108 : decode cb_Se_init 108 = .ok (.aload_n 0, 1) := by decide +kernel
theorem d_Se_init_109 : decode cb_Se_init 109 = .ok (.aload_n 1, 1) := by decide +kernel
theorem d_Se_init_110 : decode cb_Se_init 110 = .ok (.putfield 37, 3) := by decide +kernel
theorem d_Se_init_113 : decode cb_Se_init 113 = .ok (.aload_n 0, 1) := by decide +kernel
theorem d_Se_init_114 : decode cb_Se_init 114 = .ok (.new 41, 3) := by decide +kernel
theorem d_Se_init_117 : decode cb_Se_init 117 = .ok (.dup, 1) := by decide +kernel
theorem d_Se_init_118 : decode cb_Se_init 118 = .ok (.invokespecial 43, 3) := by decide +kernel
theorem d_Se_init_121 : decode cb_Se_init 121 = .ok (.putfield 44, 3) := by decide +kernel
theorem d_Se_init_124 : decode cb_Se_init 124 = .ok (.aload_n 0, 1) := by decide +kernel
theorem d_Se_init_125 : decode cb_Se_init 125 = .ok (.iconst 1, 1) := by decide +kernel
theorem d_Se_init_126 : decode cb_Se_init 126 = .ok (.putfield 48, 3) := by decide +kernel
theorem d_Se_init_129 : decode cb_Se_init 129 = .ok (.return_, 1) := by decide +kernel
theorem d_Ms_init_0 : decode cb_Ms_init 0 = .ok (.aload_n 0, 1) := by decide +kernel
theorem d_Ms_init_1 : decode cb_Ms_init 1 = .ok (.invokespecial 3, 3) := by decide +kernel
theorem d_Ms_init_4 : decode cb_Ms_init 4 = .ok (.aload_n 0, 1) := by decide +kernel
theorem d_Ms_init_5 : decode cb_Ms_init 5 = .ok (.new 9, 3) := by decide +kernel
theorem d_Ms_init_8 : decode cb_Ms_init 8 = .ok (.dup, 1) := by decide +kernel
theorem d_Ms_init_9 : decode cb_Ms_init 9 = .ok (.bipush 12, 2) := by decide +kernel
theorem d_Ms_init_11 : decode cb_Ms_init 11 = .ok (.invokespecial 11, 3) := by decide +kernel
theorem d_Ms_init_14 : decode cb_Ms_init 14 = .ok (.putfield 14, 3) := by decide +kernel
theorem d_Ms_init_17 : decode cb_Ms_init 17 = .ok (.aload_n 0, 1) := by decide +kernel
theorem d_Ms_init_18 : decode cb_Ms_init 18 = .ok (.new 9, 3) := by decide +kernel
theorem d_Ms_init_21 : decode cb_Ms_init 21 = .ok (.dup, 1) := by decide +kernel
theorem d_Ms_init_22 : decode cb_Ms_init 22 = .ok (.bipush 12, 2) := by decide +kernel
theorem d_Ms_init_24 : decode cb_Ms_init 24 = .ok (.invokespecial 11, 3) := by decide +kernel
theorem d_Ms_init_27 : decode cb_Ms_init 27 = .ok (.putfield 20, 3) := by decide +kernel
theorem d_Ms_init_30 : decode cb_Ms_init 30 = .ok (.aload_n 0, 1) := by decide +kernel
theorem d_Ms_init_31 : decode cb_Ms_init 31 = .ok (.new 9, 3) := by decide +kernel
theorem d_Ms_init_34 : decode cb_Ms_init 34 = .ok (.dup, 1) := by decide +kernel
theorem d_Ms_init_35 : decode cb_Ms_init 35 = .ok (.bipush 32, 2) := by decide +kernel
theorem d_Ms_init_37 : decode cb_Ms_init 37 = .ok (.invokespecial 11, 3) := by decide +kernel
theorem d_Ms_init_40 : decode cb_Ms_init 40 = .ok (.putfield 23, 3) := by decide +kernel
theorem d_Ms_init_43 : decode cb_Ms_init 43 = .ok (.return_, 1) := by decide +kernel
theorem d_Ob_init_0 : decode cb_Ob_init 0 = .ok (.aload_n 0, 1) := by decide +kernel
theorem d_Ob_init_1 : decode cb_Ob_init 1 = .ok (.invokespecial 1, 3) := by decide +kernel
theorem d_Ob_init_4 : decode cb_Ob_init 4 = .ok (.aload_n 0, 1) := by decide +kernel
theorem d_Ob_init_5 : decode cb_Ob_init 5 = .ok (.new 7, 3) := by decide +kernel
theorem d_Ob_init_8 : decode cb_Ob_init 8 = .ok (.dup, 1) := by decide +kernel
theorem d_Ob_init_9 : decode cb_Ob_init 9 = .ok (.invokespecial 9, 3) := by decide +kernel
theorem d_Ob_init_12 : decode cb_Ob_init 12 = .ok (.putfield 10, 3) := by decide +kernel
theorem d_Ob_init_15 : decode cb_Ob_init 15 = .ok (.aload_n 0, 1) := by decide +kernel
theorem d_Ob_init_16 : decode cb_Ob_init 16 = .ok (.new 16, 3) := by decide +kernel
theorem d_Ob_init_19 : decode cb_Ob_init 19 = .ok (.dup, 1) := by decide +kernel
theorem d_Ob_init_20 : decode cb_Ob_init 20 = .ok (.aload_n 0, 1) := by decide +kernel
theorem d_Ob_init_21 : decode cb_Ob_init 21 = .ok (.getfield 10, 3) := by decide +kernel
theorem d_Ob_init_24 : decode cb_Ob_init 24 = .ok (.invokespecial 18, 3) := by decide +kernel
theorem d_Ob_init_27 : decode cb_Ob_init 27 = .ok (.putfield 21, 3) := by decide +kernel
theorem d_Ob_init_30 : decode cb_Ob_init 30 = .ok (.aload_n 0, 1) := by decide +kernel
theorem d_Ob_init_31 : decode cb_Ob_init 31 = .ok (.new 25, 3) := by decide +kernel
theorem d_Ob_init_34 : decode cb_Ob_init 34 = .ok (.dup, 1) := by decide +kernel
theorem d_Ob_init_35 : decode cb_Ob_init 35 = .ok (.aload_n 0, 1) := by decide +kernel
theorem d_Ob_init_36 : decode cb_Ob_init 36 = .ok (.getfield 10, 3) := by decide +kernel
theorem d_Ob_init_39 : decode cb_Ob_init 39 = .ok (.invokespecial 27, 3) := by decide +kernel
theorem d_Ob_init_42 : decode cb_Ob_init 42 = .ok (.putfield 28, 3) := by decide +kernel
theorem d_Ob_init_45 : decode cb_Ob_init 45 = .ok (.aload_n 0, 1) := by decide +kernel
theorem d_Ob_init_46 : decode cb_Ob_init 46 = .ok (.new 32, 3) := by decide +kernel
theorem d_Ob_init_49 : decode cb_Ob_init 49 = .ok (.dup, 1) := by decide +kernel
theorem d_Ob_init_50 : decode cb_Ob_init 50 = .ok (.invokespecial 34, 3) := by decide +kernel
theorem d_Ob_init_53 : decode cb_Ob_init 53 = .ok (.putfield 35, 3) := by decide +kernel
theorem d_Ob_init_56 : decode cb_Ob_init 56 = .ok (.aload_n 0, 1) := by decide +kernel
theorem d_Ob_init_57 : decode cb_Ob_init 57 = .ok (.iconst 0, 1) := by decide +kernel
theorem d_Ob_init_58 : decode cb_Ob_init 58 = .ok (.putfield 39, 3) := by decide +kernel
theorem d_Ob_init_61 : decode cb_Ob_init 61 = .ok (.return_, 1) := by decide +kernel
theorem d_Ob_isWithin_0 : decode cb_Ob_isWithin 0 = .ok (.iload_n 0, 1) := by decide +kernel
theorem d_Ob_isWithin_1 : decode cb_Ob_isWithin 1 = .ok (.ifCond .lt 12, 3) := by decide +kernel
theorem d_Ob_isWithin_4 : decode cb_Ob_isWithin 4 = .ok (.iload_n 0, 1) := by decide +kernel
theorem d_Ob_isWithin_5 : decode cb_Ob_isWithin 5 = .ok (.iload_n 1, 1) := by decide +kernel
theorem d_Ob_isWithin_6 : decode cb_Ob_isWithin 6 = .ok (.if_icmp .gt 7, 3) := by decide +kernel
theorem d_Ob_isWithin_9 : decode cb_Ob_isWithin 9 = .ok (.iconst 1, 1) := by decide +kernel
theorem d_Ob_isWithin_10 : decode cb_Ob_isWithin 10 = .ok (.goto 4, 3) := by decide +kernel
theorem d_Ob_isWithin_13 : decode cb_Ob_isWithin 13 = .ok (.iconst 0, 1) := by decide +kernel
theorem d_Ob_isWithin_14 : decode cb_Ob_isWithin 14 = .ok (.ireturn, 1) := by decide +kernel
theorem d_Ob_isAskable_0 : decode cb_Ob_isAskable 0 = .ok (.iload_n 0, 1) := by decide +kernel
theorem d_Ob_isAskable_1 : decode cb_Ob_isAskable 1 = .ok (.iconst 1, 1) := by decide +kernel
theorem d_Ob_isAskable_2 : decode cb_Ob_isAskable 2 = .ok (.invokestatic 67, 3) := by decide +kernel
theorem d_Ob_isAskable_5 : decode cb_Ob_isAskable 5 = .ok (.ifCond .eq 23, 3) := by decide +kernel
theorem d_Ob_isAskable_8 : decode cb_Ob_isAskable 8 = .ok (.iload_n 1, 1) := by decide +kernel
theorem d_Ob_isAskable_9 : decode cb_Ob_isAskable 9 = .ok (.iconst 4, 1) := by decide +kernel
theorem d_Ob_isAskable_10 : decode cb_Ob_isAskable 10 = .ok (.invokestatic 67, 3) := by decide +kernel
theorem d_Ob_isAskable_13 : decode cb_Ob_isAskable 13 = .ok (.ifCond .eq 15, 3) := by decide +kernel
theorem d_Ob_isAskable_16 : decode cb_Ob_isAskable 16 = .ok (.iload_n 2, 1) := by decide +kernel
theorem d_Ob_isAskable_17 : decode cb_Ob_isAskable 17 = .ok (.iconst 1, 1) := by decide +kernel
theorem d_Ob_isAskable_18 : decode cb_Ob_isAskable 18 = .ok (.invokestatic 67, 3) := by decide +kernel
theorem d_Ob_isAskable_21 : decode cb_Ob_isAskable 21 = .ok (.ifCond .eq 7, 3) := by decide +kernel
theorem d_Ob_isAskable_24 : decode cb_Ob_isAskable 24 = .ok (.iconst 1, 1) := by decide +kernel
theorem d_Ob_isAskable_25 : decode cb_Ob_isAskable 25 = .ok (.goto 4, 3) := by decide +kernel
theorem d_Ob_isAskable_28 : decode cb_Ob_isAskable 28 = .ok (.iconst 0, 1) := by decide +kernel
theorem d_Ob_isAskable_29 : decode cb_Ob_isAskable 29 = .ok (.ireturn, 1) := by decide +kernel
theorem d_By_clear_0 : decode cb_By_clear 0 = .ok (.aload_n 0, 1) := by decide +kernel
theorem d_By_clear_1 : decode cb_By_clear 1 = .ok (.iconst 0, 1) := by decide +kernel
theorem d_By_clear_2 : decode cb_By_clear 2 = .ok (.putfield 15, 3) := by decide +kernel
theorem d_By_clear_5 : decode cb_By_clear 5 = .ok (.return_, 1) := by decide +kernel
theorem d_Sl_begin_0 : decode cb_Sl_begin 0 = .ok (.aload_n 0, 1) := by decide +kernel
theorem d_Sl_begin_1 : decode cb_Sl_begin 1 = .ok (.dup, 1) := by decide +kernel
theorem d_Sl_begin_2 : decode cb_Sl_begin 2 = .ok (.getfield 31, 3) := by decide +kernel
theorem d_Sl_begin_5 : decode cb_Sl_begin 5 = .ok (.iconst 1, 1) := by decide +kernel
theorem d_Sl_begin_6 : decode cb_Sl_begin 6 = .ok (.iadd, 1) := by decide +kernel
theorem d_Sl_begin_7 : decode cb_Sl_begin 7 = .ok (.putfield 31, 3) := by decide +kernel
theorem d_Sl_begin_10 : decode cb_Sl_begin 10 = .ok (.aload_n 0, 1) := by decide +kernel
theorem d_Sl_begin_11 : decode cb_Sl_begin 11 = .ok (.iconst 2, 1) := by decide +kernel
theorem d_Sl_begin_12 : decode cb_Sl_begin 12 = .ok (.aload_n 0, 1) := by decide +kernel
theorem d_Sl_begin_13 : decode cb_Sl_begin 13 = .ok (.getfield 31, 3) := by decide +kernel
theorem d_Sl_begin_16 : decode cb_Sl_begin 16 = .ok (.imul, 1) := by decide +kernel
theorem d_Sl_begin_17 : decode cb_Sl_begin 17 = .ok (.aload_n 0, 1) := by decide +kernel
theorem d_Sl_begin_18 : decode cb_Sl_begin 18 = .ok (.getfield 27, 3) := by decide +kernel
theorem d_Sl_begin_21 : decode cb_Sl_begin 21 = .ok (.iadd, 1) := by decide +kernel
theorem d_Sl_begin_22 : decode cb_Sl_begin 22 = .ok (.sipush 255, 3) := by decide +kernel
theorem d_Sl_begin_25 : decode cb_Sl_begin 25 = .ok (.iand, 1) := by decide +kernel
theorem d_Sl_begin_26 : decode cb_Sl_begin 26 = .ok (.putfield 37, 3) := by decide +kernel
theorem d_Sl_begin_29 : decode cb_Sl_begin 29 = .ok (.aload_n 0, 1) := by decide +kernel
theorem d_Sl_begin_30 : decode cb_Sl_begin 30 = .ok (.iload_n 1, 1) := by decide +kernel
theorem d_Sl_begin_31 : decode cb_Sl_begin 31 = .ok (.putfield 40, 3) := by decide +kernel
theorem d_Sl_begin_34 : decode cb_Sl_begin 34 = .ok (.aload_n 0, 1) := by decide +kernel
theorem d_Sl_begin_35 : decode cb_Sl_begin 35 = .ok (.iload_n 2, 1) := by decide +kernel
theorem d_Sl_begin_36 : decode cb_Sl_begin 36 = .ok (.putfield 43, 3) := by decide +kernel
theorem d_Sl_begin_39 : decode cb_Sl_begin 39 = .ok (.aload_n 0, 1) := by decide +kernel
theorem d_Sl_begin_40 : decode cb_Sl_begin 40 = .ok (.iconst 0, 1) := by decide +kernel
theorem d_Sl_begin_41 : decode cb_Sl_begin 41 = .ok (.putfield 46, 3) := by decide +kernel
theorem d_Sl_begin_44 : decode cb_Sl_begin 44 = .ok (.aload_n 0, 1) := by decide +kernel
theorem d_Sl_begin_45 : decode cb_Sl_begin 45 = .ok (.iload_n 3, 1) := by decide +kernel
theorem d_Sl_begin_46 : decode cb_Sl_begin 46 = .ok (.putfield 49, 3) := by decide +kernel
theorem d_Sl_begin_49 : decode cb_Sl_begin 49 = .ok (.aload_n 0, 1) := by decide +kernel
theorem d_Sl_begin_50 : decode cb_Sl_begin 50 = .ok (.iload 4, 2) := by decide +kernel
theorem d_Sl_begin_52 : decode cb_Sl_begin 52 = .ok (.putfield 53, 3) := by decide +kernel
theorem d_Sl_begin_55 : decode cb_Sl_begin 55 = .ok (.aload_n 0, 1) := by decide +kernel
theorem d_Sl_begin_56 : decode cb_Sl_begin 56 = .ok (.iconst 0, 1) := by decide +kernel
theorem d_Sl_begin_57 : decode cb_Sl_begin 57 = .ok (.putfield 56, 3) := by decide +kernel
theorem d_Sl_begin_60 : decode cb_Sl_begin 60 = .ok (.aload_n 0, 1) := by decide +kernel
theorem d_Sl_begin_61 : decode cb_Sl_begin 61 = .ok (.iconst 0, 1) := by decide +kernel
theorem d_Sl_begin_62 : decode cb_Sl_begin 62 = .ok (.putfield 59, 3) := by decide +kernel
theorem d_Sl_begin_65 : decode cb_Sl_begin 65 = .ok (.aload_n 0, 1) := by decide +kernel
theorem d_Sl_begin_66 : decode cb_Sl_begin 66 = .ok (.iconst 0, 1) := by decide +kernel
theorem d_Sl_begin_67 : decode cb_Sl_begin 67 = .ok (.putfield 62, 3) := by decide +kernel
theorem d_Sl_begin_70 : decode cb_Sl_begin 70 = .ok (.aload_n 0, 1) := by decide +kernel
theorem d_Sl_begin_71 : decode cb_Sl_begin 71 = .ok (.getfield 14, 3) := by decide +kernel
theorem d_Sl_begin_74 : decode cb_Sl_begin 74 = .ok (.invokevirtual 65, 3) := by decide +kernel
theorem d_Sl_begin_77 : decode cb_Sl_begin 77 = .ok (.return_, 1) := by decide +kernel
theorem d_By_add_0 : decode cb_By_add 0 = .ok (.aload_n 0, 1) := by decide +kernel
theorem d_By_add_1 : decode cb_By_add 1 = .ok (.getfield 15, 3) := by decide +kernel
theorem d_By_add_4 : decode cb_By_add 4 = .ok (.aload_n 0, 1) := by decide +kernel
theorem d_By_add_5 : decode cb_By_add 5 = .ok (.getfield 9, 3) := by decide +kernel
theorem d_By_add_8 : decode cb_By_add 8 = .ok (.arraylength, 1) := by decide +kernel
theorem d_By_add_9 : decode cb_By_add 9 = .ok (.if_icmp .ge 27, 3) := by decide +kernel
theorem d_By_add_12 : decode cb_By_add 12 = .ok (.aload_n 0, 1) := by decide +kernel
theorem d_By_add_13 : decode cb_By_add 13 = .ok (.getfield 9, 3) := by decide +kernel
theorem d_By_add_16 : decode cb_By_add 16 = .ok (.aload_n 0, 1) := by decide +kernel
theorem d_By_add_17 : decode cb_By_add 17 = .ok (.getfield 15, 3) := by decide +kernel
theorem d_By_add_20 : decode cb_By_add 20 = .ok (.iload_n 1, 1) := by decide +kernel
theorem d_By_add_21 : decode cb_By_add 21 = .ok (.sipush 255, 3) := by decide +kernel
theorem d_By_add_24 : decode cb_By_add 24 = .ok (.iand, 1) := by decide +kernel
theorem d_By_add_25 : decode cb_By_add 25 = .ok (.iastore, 1) := by decide +kernel
theorem d_By_add_26 : decode cb_By_add 26 = .ok (.aload_n 0, 1) := by decide +kernel
theorem d_By_add_27 : decode cb_By_add 27 = .ok (.dup, 1) := by decide +kernel
theorem d_By_add_28 : decode cb_By_add 28 = .ok (.getfield 15, 3) := by decide +kernel
theorem d_By_add_31 : decode cb_By_add 31 = .ok (.iconst 1, 1) := by decide +kernel
theorem d_By_add_32 : decode cb_By_add 32 = .ok (.iadd, 1) := by decide +kernel
theorem d_By_add_33 : decode cb_By_add 33 = .ok (.putfield 15, 3) := by decide +kernel
theorem d_By_add_36 : decode cb_By_add 36 = .ok (.return_, 1) := by decide +kernel
theorem d_Wr_begin_0 : decode cb_Wr_begin 0 = .ok (.aload_n 0, 1) := by decide +kernel
theorem d_Wr_begin_1 : decode cb_Wr_begin 1 = .ok (.getfield 14, 3) := by decide +kernel
theorem d_Wr_begin_4 : decode cb_Wr_begin 4 = .ok (.invokevirtual 24, 3) := by decide +kernel
theorem d_Wr_begin_7 : decode cb_Wr_begin 7 = .ok (.aload_n 0, 1) := by decide +kernel
theorem d_Wr_begin_8 : decode cb_Wr_begin 8 = .ok (.getfield 14, 3) := by decide +kernel
theorem d_Wr_begin_11 : decode cb_Wr_begin 11 = .ok (.bipush 64, 2) := by decide +kernel
theorem d_Wr_begin_13 : decode cb_Wr_begin 13 = .ok (.bipush 16, 2) := by decide +kernel
theorem d_Wr_begin_15 : decode cb_Wr_begin 15 = .ok (.iload_n 1, 1) := by decide +kernel
theorem d_Wr_begin_16 : decode cb_Wr_begin 16 = .ok (.imul, 1) := by decide +kernel
theorem d_Wr_begin_17 : decode cb_Wr_begin 17 = .ok (.iadd, 1) := by decide +kernel
theorem d_Wr_begin_18 : decode cb_Wr_begin 18 = .ok (.iconst 1, 1) := by decide +kernel
theorem d_Wr_begin_19 : decode cb_Wr_begin 19 = .ok (.iadd, 1) := by decide +kernel
theorem d_Wr_begin_20 : decode cb_Wr_begin 20 = .ok (.invokevirtual 27, 3) := by decide +kernel
theorem d_Wr_begin_23 : decode cb_Wr_begin 23 = .ok (.aload_n 0, 1) := by decide +kernel
theorem d_Wr_begin_24 : decode cb_Wr_begin 24 = .ok (.getfield 14, 3) := by decide +kernel
theorem d_Wr_begin_27 : decode cb_Wr_begin 27 = .ok (.iload_n 2, 1) := by decide +kernel
theorem d_Wr_begin_28 : decode cb_Wr_begin 28 = .ok (.invokevirtual 27, 3) := by decide +kernel
theorem d_Wr_begin_31 : decode cb_Wr_begin 31 = .ok (.aload_n 0, 1) := by decide +kernel
theorem d_Wr_begin_32 : decode cb_Wr_begin 32 = .ok (.getfield 14, 3) := by decide +kernel
theorem d_Wr_begin_35 : decode cb_Wr_begin 35 = .ok (.iload_n 3, 1) := by decide +kernel
theorem d_Wr_begin_36 : decode cb_Wr_begin 36 = .ok (.bipush 8, 2) := by decide +kernel
theorem d_Wr_begin_38 : decode cb_Wr_begin 38 = .ok (.ishr, 1) := by decide +kernel
theorem d_Wr_begin_39 : decode cb_Wr_begin 39 = .ok (.invokevirtual 27, 3) := by decide +kernel
theorem d_Wr_begin_42 : decode cb_Wr_begin 42 = .ok (.aload_n 0, 1) := by decide +kernel
theorem d_Wr_begin_43 : decode cb_Wr_begin 43 = .ok (.getfield 14, 3) := by decide +kernel
theorem d_Wr_begin_46 : decode cb_Wr_begin 46 = .ok (.iload_n 3, 1) := by decide +kernel
theorem d_Wr_begin_47 : decode cb_Wr_begin 47 = .ok (.invokevirtual 27, 3) := by decide +kernel
theorem d_Wr_begin_50 : decode cb_Wr_begin 50 = .ok (.aload_n 0, 1) := by decide +kernel
theorem d_Wr_begin_51 : decode cb_Wr_begin 51 = .ok (.getfield 14, 3) := by decide +kernel
theorem d_Wr_begin_54 : decode cb_Wr_begin 54 = .ok (.iload 4, 2) := by decide +kernel
theorem d_Wr_begin_56 : decode cb_Wr_begin 56 = .ok (.invokevirtual 27, 3) := by decide +kernel
theorem d_Wr_begin_59 : decode cb_Wr_begin 59 = .ok (.aload_n 0, 1) := by decide +kernel
theorem d_Wr_begin_60 : decode cb_Wr_begin 60 = .ok (.iconst 0, 1) := by decide +kernel
theorem d_Wr_begin_61 : decode cb_Wr_begin 61 = .ok (.putfield 20, 3) := by decide +kernel
theorem d_Wr_begin_64 : decode cb_Wr_begin 64 = .ok (.return_, 1) := by decide +kernel

theorem d_Mo_remember_0 : decode cb_Mo_remember 0 = .ok (.aload_n 0, 1) := by decide +kernel
theorem d_Mo_remember_1 : decode cb_Mo_remember 1 = .ok (.aload_n 0, 1) := by decide +kernel
theorem d_Mo_remember_2 : decode cb_Mo_remember 2 = .ok (.getfield 197, 3) := by decide +kernel
theorem d_Mo_remember_5 : decode cb_Mo_remember 5 = .ok (.invokevirtual 269, 3) := by decide +kernel
theorem d_Mo_remember_8 : decode cb_Mo_remember 8 = .ok (.istore_n 1, 1) := by decide +kernel
theorem d_Mo_remember_9 : decode cb_Mo_remember 9 = .ok (.iload_n 1, 1) := by decide +kernel
theorem d_Mo_remember_10 : decode cb_Mo_remember 10 = .ok (.ifCond .lt 8, 3) := by decide +kernel
theorem d_Mo_remember_13 : decode cb_Mo_remember 13 = .ok (.aload_n 0, 1) := by decide +kernel
theorem d_Mo_remember_14 : decode cb_Mo_remember 14 = .ok (.iload_n 1, 1) := by decide +kernel
theorem d_Mo_remember_15 : decode cb_Mo_remember 15 = .ok (.invokevirtual 272, 3) := by decide +kernel
theorem d_Mo_remember_18 : decode cb_Mo_remember 18 = .ok (.aload_n 0, 1) := by decide +kernel
theorem d_Mo_remember_19 : decode cb_Mo_remember 19 = .ok (.getfield 266, 3) := by decide +kernel
theorem d_Mo_remember_22 : decode cb_Mo_remember 22 = .ok (.iconst 4, 1) := by decide +kernel
theorem d_Mo_remember_23 : decode cb_Mo_remember 23 = .ok (.if_icmp .ne 8, 3) := by decide +kernel
theorem d_Mo_remember_26 : decode cb_Mo_remember 26 = .ok (.aload_n 0, 1) := by decide +kernel
theorem d_Mo_remember_27 : decode cb_Mo_remember 27 = .ok (.iconst 0, 1) := by decide +kernel
theorem d_Mo_remember_28 : decode cb_Mo_remember 28 = .ok (.invokevirtual 272, 3) := by decide +kernel
theorem d_Mo_remember_31 : decode cb_Mo_remember 31 = .ok (.aload_n 0, 1) := by decide +kernel
theorem d_Mo_remember_32 : decode cb_Mo_remember 32 = .ok (.getfield 114, 3) := by decide +kernel
theorem d_Mo_remember_35 : decode cb_Mo_remember 35 = .ok (.aload_n 0, 1) := by decide +kernel
theorem d_Mo_remember_36 : decode cb_Mo_remember 36 = .ok (.getfield 266, 3) := by decide +kernel
theorem d_Mo_remember_39 : decode cb_Mo_remember 39 = .ok (.aload_n 0, 1) := by decide +kernel
theorem d_Mo_remember_40 : decode cb_Mo_remember 40 = .ok (.getfield 197, 3) := by decide +kernel
theorem d_Mo_remember_43 : decode cb_Mo_remember 43 = .ok (.iastore, 1) := by decide +kernel
theorem d_Mo_remember_44 : decode cb_Mo_remember 44 = .ok (.aload_n 0, 1) := by decide +kernel
theorem d_Mo_remember_45 : decode cb_Mo_remember 45 = .ok (.getfield 117, 3) := by decide +kernel
theorem d_Mo_remember_48 : decode cb_Mo_remember 48 = .ok (.aload_n 0, 1) := by decide +kernel
theorem d_Mo_remember_49 : decode cb_Mo_remember 49 = .ok (.getfield 266, 3) := by decide +kernel
theorem d_Mo_remember_52 : decode cb_Mo_remember 52 = .ok (.aload_n 0, 1) := by decide +kernel
theorem d_Mo_remember_53 : decode cb_Mo_remember 53 = .ok (.getfield 275, 3) := by decide +kernel
theorem d_Mo_remember_56 : decode cb_Mo_remember 56 = .ok (.iastore, 1) := by decide +kernel
theorem d_Mo_remember_57 : decode cb_Mo_remember 57 = .ok (.aload_n 0, 1) := by decide +kernel
theorem d_Mo_remember_58 : decode cb_Mo_remember 58 = .ok (.getfield 123, 3) := by decide +kernel
theorem d_Mo_remember_61 : decode cb_Mo_remember 61 = .ok (.aload_n 0, 1) := by decide +kernel
theorem d_Mo_remember_62 : decode cb_Mo_remember 62 = .ok (.getfield 266, 3) := by decide +kernel
theorem d_Mo_remember_65 : decode cb_Mo_remember 65 = .ok (.aload_n 0, 1) := by decide +kernel
theorem d_Mo_remember_66 : decode cb_Mo_remember 66 = .ok (.getfield 138, 3) := by decide +kernel
theorem d_Mo_remember_69 : decode cb_Mo_remember 69 = .ok (.iastore, 1) := by decide +kernel
theorem d_Mo_remember_70 : decode cb_Mo_remember 70 = .ok (.iconst 0, 1) := by decide +kernel
theorem d_Mo_remember_71 : decode cb_Mo_remember 71 = .ok (.istore_n 2, 1) := by decide +kernel
theorem d_Mo_remember_72 : decode cb_Mo_remember 72 = .ok (.iload_n 2, 1) := by decide +kernel
theorem d_Mo_remember_73 : decode cb_Mo_remember 73 = .ok (.aload_n 0, 1) := by decide +kernel
theorem d_Mo_remember_74 : decode cb_Mo_remember 74 = .ok (.getfield 138, 3) := by decide +kernel
theorem d_Mo_remember_77 : decode cb_Mo_remember 77 = .ok (.if_icmp .ge 29, 3) := by decide +kernel
theorem d_Mo_remember_80 : decode cb_Mo_remember 80 = .ok (.aload_n 0, 1) := by decide +kernel
theorem d_Mo_remember_81 : decode cb_Mo_remember 81 = .ok (.getfield 120, 3) := by decide +kernel
theorem d_Mo_remember_84 : decode cb_Mo_remember 84 = .ok (.bipush 64, 2) := by decide +kernel
theorem d_Mo_remember_86 : decode cb_Mo_remember 86 = .ok (.aload_n 0, 1) := by decide +kernel
theorem d_Mo_remember_87 : decode cb_Mo_remember 87 = .ok (.getfield 266, 3) := by decide +kernel
theorem d_Mo_remember_90 : decode cb_Mo_remember 90 = .ok (.imul, 1) := by decide +kernel
theorem d_Mo_remember_91 : decode cb_Mo_remember 91 = .ok (.iload_n 2, 1) := by decide +kernel
theorem d_Mo_remember_92 : decode cb_Mo_remember 92 = .ok (.iadd, 1) := by decide +kernel
theorem d_Mo_remember_93 : decode cb_Mo_remember 93 = .ok (.aload_n 0, 1) := by decide +kernel
theorem d_Mo_remember_94 : decode cb_Mo_remember 94 = .ok (.getfield 126, 3) := by decide +kernel
theorem d_Mo_remember_97 : decode cb_Mo_remember 97 = .ok (.iload_n 2, 1) := by decide +kernel
theorem d_Mo_remember_98 : decode cb_Mo_remember 98 = .ok (.iaload, 1) := by decide +kernel
theorem d_Mo_remember_99 : decode cb_Mo_remember 99 = .ok (.iastore, 1) := by decide +kernel
theorem d_Mo_remember_100 : decode cb_Mo_remember 100 = .ok (.iinc 2 1, 3) := by decide +kernel
theorem d_Mo_remember_103 : decode cb_Mo_remember 103 = .ok (.goto (-31), 3) := by decide +kernel
theorem d_Mo_remember_106 : decode cb_Mo_remember 106 = .ok (.aload_n 0, 1) := by decide +kernel
theorem d_Mo_remember_107 : decode cb_Mo_remember 107 = .ok (.dup, 1) := by decide +kernel
theorem d_Mo_remember_108 : decode cb_Mo_remember 108 = .ok (.getfield 266, 3) := by decide +kernel
theorem d_Mo_remember_111 : decode cb_Mo_remember 111 = .ok (.iconst 1, 1) := by decide +kernel
theorem d_Mo_remember_112 : decode cb_Mo_remember 112 = .ok (.iadd, 1) := by decide +kernel
theorem d_Mo_remember_113 : decode cb_Mo_remember 113 = .ok (.putfield 266, 3) := by decide +kernel
theorem d_Mo_remember_116 : decode cb_Mo_remember 116 = .ok (.return_, 1) := by decide +kernel
theorem d_Mo_handle_0 : decode cb_Mo_handle 0 = .ok (.aload_n 0, 1) := by decide +kernel
theorem d_Mo_handle_1 : decode cb_Mo_handle 1 = .ok (.dup, 1) := by decide +kernel
theorem d_Mo_handle_2 : decode cb_Mo_handle 2 = .ok (.getfield 278, 3) := by decide +kernel
theorem d_Mo_handle_5 : decode cb_Mo_handle 5 = .ok (.iconst 1, 1) := by decide +kernel
theorem d_Mo_handle_6 : decode cb_Mo_handle 6 = .ok (.iadd, 1) := by decide +kernel
theorem d_Mo_handle_7 : decode cb_Mo_handle 7 = .ok (.putfield 278, 3) := by decide +kernel
theorem d_Mo_handle_10 : decode cb_Mo_handle 10 = .ok (.aload_n 0, 1) := by decide +kernel
theorem d_Mo_handle_11 : decode cb_Mo_handle 11 = .ok (.invokevirtual 281, 3) := by decide +kernel
theorem d_Mo_handle_14 : decode cb_Mo_handle 14 = .ok (.istore_n 1, 1) := by decide +kernel
theorem d_Mo_handle_15 : decode cb_Mo_handle 15 = .ok (.aload_n 0, 1) := by decide +kernel
theorem d_Mo_handle_16 : decode cb_Mo_handle 16 = .ok (.getfield 194, 3) := by decide +kernel
theorem d_Mo_handle_19 : decode cb_Mo_handle 19 = .ok (.iconst 1, 1) := by decide +kernel
theorem d_Mo_handle_20 : decode cb_Mo_handle 20 = .ok (.if_icmp .ne 10, 3) := by decide +kernel
theorem d_Mo_handle_23 : decode cb_Mo_handle 23 = .ok (.aload_n 0, 1) := by decide +kernel
theorem d_Mo_handle_24 : decode cb_Mo_handle 24 = .ok (.getfield 169, 3) := by decide +kernel
theorem d_Mo_handle_27 : decode cb_Mo_handle 27 = .ok (.goto 7, 3) := by decide +kernel
theorem d_Mo_handle_30 : decode cb_Mo_handle 30 = .ok (.aload_n 0, 1) := by decide +kernel
theorem d_Mo_handle_31 : decode cb_Mo_handle 31 = .ok (.getfield 172, 3) := by decide +kernel
theorem d_Mo_handle_34 : decode cb_Mo_handle 34 = .ok (.istore_n 2, 1) := by decide +kernel
theorem d_Mo_handle_35 : decode cb_Mo_handle 35 = .ok (.iload_n 1, 1) := by decide +kernel
theorem d_Mo_handle_36 : decode cb_Mo_handle 36 = .ok (.ifCond .lt 7, 3) := by decide +kernel
theorem d_Mo_handle_39 : decode cb_Mo_handle 39 = .ok (.iload_n 2, 1) := by decide +kernel
theorem d_Mo_handle_40 : decode cb_Mo_handle 40 = .ok (.ifCond .ge 36, 3) := by decide +kernel
theorem d_Mo_handle_43 : decode cb_Mo_handle 43 = .ok (.aload_n 0, 1) := by decide +kernel
theorem d_Mo_handle_44 : decode cb_Mo_handle 44 = .ok (.iconst 2, 1) := by decide +kernel
theorem d_Mo_handle_45 : decode cb_Mo_handle 45 = .ok (.iload_n 1, 1) := by decide +kernel
theorem d_Mo_handle_46 : decode cb_Mo_handle 46 = .ok (.ifCond .ge 9, 3) := by decide +kernel
theorem d_Mo_handle_49 : decode cb_Mo_handle 49 = .ok (.sipush 132, 3) := by decide +kernel
theorem d_Mo_handle_52 : decode cb_Mo_handle 52 = .ok (.goto 6, 3) := by decide +kernel
theorem d_Mo_handle_55 : decode cb_Mo_handle 55 = .ok (.sipush 130, 3) := by decide +kernel
theorem d_Mo_handle_58 : decode cb_Mo_handle 58 = .ok (.aload_n 0, 1) := by decide +kernel
theorem d_Mo_handle_59 : decode cb_Mo_handle 59 = .ok (.getfield 197, 3) := by decide +kernel
theorem d_Mo_handle_62 : decode cb_Mo_handle 62 = .ok (.invokevirtual 162, 3) := by decide +kernel
theorem d_Mo_handle_65 : decode cb_Mo_handle 65 = .ok (.aload_n 0, 1) := by decide +kernel
theorem d_Mo_handle_66 : decode cb_Mo_handle 66 = .ok (.aload_n 0, 1) := by decide +kernel
theorem d_Mo_handle_67 : decode cb_Mo_handle 67 = .ok (.getfield 188, 3) := by decide +kernel
theorem d_Mo_handle_70 : decode cb_Mo_handle 70 = .ok (.invokevirtual 144, 3) := by decide +kernel
theorem d_Mo_handle_73 : decode cb_Mo_handle 73 = .ok (.goto 53, 3) := by decide +kernel
theorem d_Mo_handle_76 : decode cb_Mo_handle 76 = .ok (.aload_n 0, 1) := by decide +kernel
theorem d_Mo_handle_77 : decode cb_Mo_handle 77 = .ok (.getfield 194, 3) := by decide +kernel
theorem d_Mo_handle_80 : decode cb_Mo_handle 80 = .ok (.iconst 1, 1) := by decide +kernel
theorem d_Mo_handle_81 : decode cb_Mo_handle 81 = .ok (.if_icmp .ne 11, 3) := by decide +kernel
theorem d_Mo_handle_84 : decode cb_Mo_handle 84 = .ok (.aload_n 0, 1) := by decide +kernel
theorem d_Mo_handle_85 : decode cb_Mo_handle 85 = .ok (.iload_n 1, 1) := by decide +kernel
theorem d_Mo_handle_86 : decode cb_Mo_handle 86 = .ok (.invokevirtual 285, 3) := by decide +kernel
theorem d_Mo_handle_89 : decode cb_Mo_handle 89 = .ok (.goto 37, 3) := by decide +kernel
theorem d_Mo_handle_92 : decode cb_Mo_handle 92 = .ok (.aload_n 0, 1) := by decide +kernel
theorem d_Mo_handle_93 : decode cb_Mo_handle 93 = .ok (.iload_n 1, 1) := by decide +kernel
theorem d_Mo_handle_94 : decode cb_Mo_handle 94 = .ok (.invokevirtual 288, 3) := by decide +kernel
theorem d_Mo_handle_97 : decode cb_Mo_handle 97 = .ok (.istore_n 3, 1) := by decide +kernel
theorem d_Mo_handle_98 : decode cb_Mo_handle 98 = .ok (.aload_n 0, 1) := by decide +kernel
theorem d_Mo_handle_99 : decode cb_Mo_handle 99 = .ok (.iconst 2, 1) := by decide +kernel
theorem d_Mo_handle_100 : decode cb_Mo_handle 100 = .ok (.iload_n 3, 1) := by decide +kernel
theorem d_Mo_handle_101 : decode cb_Mo_handle 101 = .ok (.aload_n 0, 1) := by decide +kernel
theorem d_Mo_handle_102 : decode cb_Mo_handle 102 = .ok (.getfield 197, 3) := by decide +kernel
theorem d_Mo_handle_105 : decode cb_Mo_handle 105 = .ok (.invokevirtual 162, 3) := by decide +kernel
theorem d_Mo_handle_108 : decode cb_Mo_handle 108 = .ok (.aload_n 0, 1) := by decide +kernel
theorem d_Mo_handle_109 : decode cb_Mo_handle 109 = .ok (.aload_n 0, 1) := by decide +kernel
theorem d_Mo_handle_110 : decode cb_Mo_handle 110 = .ok (.getfield 188, 3) := by decide +kernel
theorem d_Mo_handle_113 : decode cb_Mo_handle 113 = .ok (.invokevirtual 144, 3) := by decide +kernel
theorem d_Mo_handle_116 : decode cb_Mo_handle 116 = .ok (.aload_n 0, 1) := by decide +kernel
theorem d_Mo_handle_117 : decode cb_Mo_handle 117 = .ok (.bipush 27, 2) := by decide +kernel
theorem d_Mo_handle_119 : decode cb_Mo_handle 119 = .ok (.aload_n 0, 1) := by decide +kernel
theorem d_Mo_handle_120 : decode cb_Mo_handle 120 = .ok (.getfield 172, 3) := by decide +kernel
theorem d_Mo_handle_123 : decode cb_Mo_handle 123 = .ok (.invokevirtual 209, 3) := by decide +kernel
theorem d_Mo_handle_126 : decode cb_Mo_handle 126 = .ok (.aload_n 0, 1) := by decide +kernel
theorem d_Mo_handle_127 : decode cb_Mo_handle 127 = .ok (.invokevirtual 291, 3) := by decide +kernel
theorem d_Mo_handle_130 : decode cb_Mo_handle 130 = .ok (.aload_n 0, 1) := by decide +kernel
theorem d_Mo_handle_131 : decode cb_Mo_handle 131 = .ok (.iconst 0, 1) := by decide +kernel
theorem d_Mo_handle_132 : decode cb_Mo_handle 132 = .ok (.invokevirtual 159, 3) := by decide +kernel
theorem d_Mo_handle_135 : decode cb_Mo_handle 135 = .ok (.return_, 1) := by decide +kernel
theorem d_Mo_toServer_0 : decode cb_Mo_toServer 0 = .ok (.aload_n 0, 1) := by decide +kernel
theorem d_Mo_toServer_1 : decode cb_Mo_toServer 1 = .ok (.getfield 191, 3) := by decide +kernel
theorem d_Mo_toServer_4 : decode cb_Mo_toServer 4 = .ok (.ifCond .ne 106, 3) := by decide +kernel
theorem d_Mo_toServer_7 : decode cb_Mo_toServer 7 = .ok (.aload_n 0, 1) := by decide +kernel
theorem d_Mo_toServer_8 : decode cb_Mo_toServer 8 = .ok (.getfield 194, 3) := by decide +kernel
theorem d_Mo_toServer_11 : decode cb_Mo_toServer 11 = .ok (.iconst 1, 1) := by decide +kernel
theorem d_Mo_toServer_12 : decode cb_Mo_toServer 12 = .ok (.if_icmp .eq 11, 3) := by decide +kernel
theorem d_Mo_toServer_15 : decode cb_Mo_toServer 15 = .ok (.aload_n 0, 1) := by decide +kernel
theorem d_Mo_toServer_16 : decode cb_Mo_toServer 16 = .ok (.getfield 194, 3) := by decide +kernel
theorem d_Mo_toServer_19 : decode cb_Mo_toServer 19 = .ok (.iconst 3, 1) := by decide +kernel
theorem d_Mo_toServer_20 : decode cb_Mo_toServer 20 = .ok (.if_icmp .ne 90, 3) := by decide +kernel
theorem d_Mo_toServer_23 : decode cb_Mo_toServer 23 = .ok (.aload_n 0, 1) := by decide +kernel
theorem d_Mo_toServer_24 : decode cb_Mo_toServer 24 = .ok (.aload_n 0, 1) := by decide +kernel
theorem d_Mo_toServer_25 : decode cb_Mo_toServer 25 = .ok (.getfield 197, 3) := by decide +kernel
theorem d_Mo_toServer_28 : decode cb_Mo_toServer 28 = .ok (.invokevirtual 269, 3) := by decide +kernel
theorem d_Mo_toServer_31 : decode cb_Mo_toServer 31 = .ok (.istore_n 1, 1) := by decide +kernel
theorem d_Mo_toServer_32 : decode cb_Mo_toServer 32 = .ok (.iload_n 1, 1) := by decide +kernel
theorem d_Mo_toServer_33 : decode cb_Mo_toServer 33 = .ok (.ifCond .lt 70, 3) := by decide +kernel
theorem d_Mo_toServer_36 : decode cb_Mo_toServer 36 = .ok (.aload_n 0, 1) := by decide +kernel
theorem d_Mo_toServer_37 : decode cb_Mo_toServer 37 = .ok (.getfield 275, 3) := by decide +kernel
theorem d_Mo_toServer_40 : decode cb_Mo_toServer 40 = .ok (.aload_n 0, 1) := by decide +kernel
theorem d_Mo_toServer_41 : decode cb_Mo_toServer 41 = .ok (.getfield 117, 3) := by decide +kernel
theorem d_Mo_toServer_44 : decode cb_Mo_toServer 44 = .ok (.iload_n 1, 1) := by decide +kernel
theorem d_Mo_toServer_45 : decode cb_Mo_toServer 45 = .ok (.iaload, 1) := by decide +kernel
theorem d_Mo_toServer_46 : decode cb_Mo_toServer 46 = .ok (.isub, 1) := by decide +kernel
theorem d_Mo_toServer_47 : decode cb_Mo_toServer 47 = .ok (.bipush 100, 2) := by decide +kernel
theorem d_Mo_toServer_49 : decode cb_Mo_toServer 49 = .ok (.if_icmp .ge 54, 3) := by decide +kernel
theorem d_Mo_toServer_52 : decode cb_Mo_toServer 52 = .ok (.aload_n 0, 1) := by decide +kernel
theorem d_Mo_toServer_53 : decode cb_Mo_toServer 53 = .ok (.aload_n 0, 1) := by decide +kernel
theorem d_Mo_toServer_54 : decode cb_Mo_toServer 54 = .ok (.getfield 123, 3) := by decide +kernel
theorem d_Mo_toServer_57 : decode cb_Mo_toServer 57 = .ok (.iload_n 1, 1) := by decide +kernel
theorem d_Mo_toServer_58 : decode cb_Mo_toServer 58 = .ok (.iaload, 1) := by decide +kernel
theorem d_Mo_toServer_59 : decode cb_Mo_toServer 59 = .ok (.putfield 138, 3) := by decide +kernel
theorem d_Mo_toServer_62 : decode cb_Mo_toServer 62 = .ok (.iconst 0, 1) := by decide +kernel
theorem d_Mo_toServer_63 : decode cb_Mo_toServer 63 = .ok (.istore_n 2, 1) := by decide +kernel
theorem d_Mo_toServer_64 : decode cb_Mo_toServer 64 = .ok (.iload_n 2, 1) := by decide +kernel
theorem d_Mo_toServer_65 : decode cb_Mo_toServer 65 = .ok (.aload_n 0, 1) := by decide +kernel
theorem d_Mo_toServer_66 : decode cb_Mo_toServer 66 = .ok (.getfield 138, 3) := by decide +kernel
theorem d_Mo_toServer_69 : decode cb_Mo_toServer 69 = .ok (.if_icmp .ge 26, 3) := by decide +kernel
theorem d_Mo_toServer_72 : decode cb_Mo_toServer 72 = .ok (.aload_n 0, 1) := by decide +kernel
theorem d_Mo_toServer_73 : decode cb_Mo_toServer 73 = .ok (.getfield 126, 3) := by decide +kernel
theorem d_Mo_toServer_76 : decode cb_Mo_toServer 76 = .ok (.iload_n 2, 1) := by decide +kernel
theorem d_Mo_toServer_77 : decode cb_Mo_toServer 77 = .ok (.aload_n 0, 1) := by decide +kernel
theorem d_Mo_toServer_78 : decode cb_Mo_toServer 78 = .ok (.getfield 120, 3) := by decide +kernel
theorem d_Mo_toServer_81 : decode cb_Mo_toServer 81 = .ok (.bipush 64, 2) := by decide +kernel
theorem d_Mo_toServer_83 : decode cb_Mo_toServer 83 = .ok (.iload_n 1, 1) := by decide +kernel
theorem d_Mo_toServer_84 : decode cb_Mo_toServer 84 = .ok (.imul, 1) := by decide +kernel
theorem d_Mo_toServer_85 : decode cb_Mo_toServer 85 = .ok (.iload_n 2, 1) := by decide +kernel
theorem d_Mo_toServer_86 : decode cb_Mo_toServer 86 = .ok (.iadd, 1) := by decide +kernel
theorem d_Mo_toServer_87 : decode cb_Mo_toServer 87 = .ok (.iaload, 1) := by decide +kernel
theorem d_Mo_toServer_88 : decode cb_Mo_toServer 88 = .ok (.iastore, 1) := by decide +kernel
theorem d_Mo_toServer_89 : decode cb_Mo_toServer 89 = .ok (.iinc 2 1, 3) := by decide +kernel
theorem d_Mo_toServer_92 : decode cb_Mo_toServer 92 = .ok (.goto (-28), 3) := by decide +kernel
theorem d_Mo_toServer_95 : decode cb_Mo_toServer 95 = .ok (.aload_n 0, 1) := by decide +kernel
theorem d_Mo_toServer_96 : decode cb_Mo_toServer 96 = .ok (.iconst 0, 1) := by decide +kernel
theorem d_Mo_toServer_97 : decode cb_Mo_toServer 97 = .ok (.invokevirtual 159, 3) := by decide +kernel
theorem d_Mo_toServer_100 : decode cb_Mo_toServer 100 = .ok (.goto 7, 3) := by decide +kernel
theorem d_Mo_toServer_103 : decode cb_Mo_toServer 103 = .ok (.aload_n 0, 1) := by decide +kernel
theorem d_Mo_toServer_104 : decode cb_Mo_toServer 104 = .ok (.invokevirtual 294, 3) := by decide +kernel
theorem d_Mo_toServer_107 : decode cb_Mo_toServer 107 = .ok (.goto 108, 3) := by decide +kernel
theorem d_Mo_toServer_110 : decode cb_Mo_toServer 110 = .ok (.aload_n 0, 1) := by decide +kernel
theorem d_Mo_toServer_111 : decode cb_Mo_toServer 111 = .ok (.getfield 191, 3) := by decide +kernel
theorem d_Mo_toServer_114 : decode cb_Mo_toServer 114 = .ok (.iconst 2, 1) := by decide +kernel
theorem d_Mo_toServer_115 : decode cb_Mo_toServer 115 = .ok (.if_icmp .eq 11, 3) := by decide +kernel
theorem d_Mo_toServer_118 : decode cb_Mo_toServer 118 = .ok (.aload_n 0, 1) := by decide +kernel
theorem d_Mo_toServer_119 : decode cb_Mo_toServer 119 = .ok (.getfield 191, 3) := by decide +kernel
theorem d_Mo_toServer_122 : decode cb_Mo_toServer 122 = .ok (.iconst 3, 1) := by decide +kernel
theorem d_Mo_toServer_123 : decode cb_Mo_toServer 123 = .ok (.if_icmp .ne 92, 3) := by decide +kernel
theorem d_Mo_toServer_126 : decode cb_Mo_toServer 126 = .ok (.aload_n 0, 1) := by decide +kernel
theorem d_Mo_toServer_127 : decode cb_Mo_toServer 127 = .ok (.getfield 194, 3) := by decide +kernel
theorem d_Mo_toServer_130 : decode cb_Mo_toServer 130 = .ok (.ifCond .ne 85, 3) := by decide +kernel
theorem d_Mo_toServer_133 : decode cb_Mo_toServer 133 = .ok (.iconst 0, 1) := by decide +kernel
theorem d_Mo_toServer_134 : decode cb_Mo_toServer 134 = .ok (.istore_n 1, 1) := by decide +kernel
theorem d_Mo_toServer_135 : decode cb_Mo_toServer 135 = .ok (.iload_n 1, 1) := by decide +kernel
theorem d_Mo_toServer_136 : decode cb_Mo_toServer 136 = .ok (.aload_n 0, 1) := by decide +kernel
theorem d_Mo_toServer_137 : decode cb_Mo_toServer 137 = .ok (.getfield 242, 3) := by decide +kernel
theorem d_Mo_toServer_140 : decode cb_Mo_toServer 140 = .ok (.if_icmp .ge 75, 3) := by decide +kernel
theorem d_Mo_toServer_143 : decode cb_Mo_toServer 143 = .ok (.aload_n 0, 1) := by decide +kernel
theorem d_Mo_toServer_144 : decode cb_Mo_toServer 144 = .ok (.getfield 26, 3) := by decide +kernel
theorem d_Mo_toServer_147 : decode cb_Mo_toServer 147 = .ok (.iconst 2, 1) := by decide +kernel
theorem d_Mo_toServer_148 : decode cb_Mo_toServer 148 = .ok (.iload_n 1, 1) := by decide +kernel
theorem d_Mo_toServer_149 : decode cb_Mo_toServer 149 = .ok (.iadd, 1) := by decide +kernel
theorem d_Mo_toServer_150 : decode cb_Mo_toServer 150 = .ok (.baload, 1) := by decide +kernel
theorem d_Mo_toServer_151 : decode cb_Mo_toServer 151 = .ok (.ifCond .eq 58, 3) := by decide +kernel
theorem d_Mo_toServer_154 : decode cb_Mo_toServer 154 = .ok (.aload_n 0, 1) := by decide +kernel
theorem d_Mo_toServer_155 : decode cb_Mo_toServer 155 = .ok (.getfield 30, 3) := by decide +kernel
theorem d_Mo_toServer_158 : decode cb_Mo_toServer 158 = .ok (.iconst 2, 1) := by decide +kernel
theorem d_Mo_toServer_159 : decode cb_Mo_toServer 159 = .ok (.iload_n 1, 1) := by decide +kernel
theorem d_Mo_toServer_160 : decode cb_Mo_toServer 160 = .ok (.iadd, 1) := by decide +kernel
theorem d_Mo_toServer_161 : decode cb_Mo_toServer 161 = .ok (.iaload, 1) := by decide +kernel
theorem d_Mo_toServer_162 : decode cb_Mo_toServer 162 = .ok (.aload_n 0, 1) := by decide +kernel
theorem d_Mo_toServer_163 : decode cb_Mo_toServer 163 = .ok (.getfield 197, 3) := by decide +kernel
theorem d_Mo_toServer_166 : decode cb_Mo_toServer 166 = .ok (.if_icmp .ne 43, 3) := by decide +kernel
theorem d_Mo_toServer_169 : decode cb_Mo_toServer 169 = .ok (.aload_n 0, 1) := by decide +kernel
theorem d_Mo_toServer_170 : decode cb_Mo_toServer 170 = .ok (.getfield 26, 3) := by decide +kernel
theorem d_Mo_toServer_173 : decode cb_Mo_toServer 173 = .ok (.iconst 2, 1) := by decide +kernel
theorem d_Mo_toServer_174 : decode cb_Mo_toServer 174 = .ok (.iload_n 1, 1) := by decide +kernel
theorem d_Mo_toServer_175 : decode cb_Mo_toServer 175 = .ok (.iadd, 1) := by decide +kernel
theorem d_Mo_toServer_176 : decode cb_Mo_toServer 176 = .ok (.iconst 0, 1) := by decide +kernel
theorem d_Mo_toServer_177 : decode cb_Mo_toServer 177 = .ok (.bastore, 1) := by decide +kernel
theorem d_Mo_toServer_178 : decode cb_Mo_toServer 178 = .ok (.aload_n 0, 1) := by decide +kernel
theorem d_Mo_toServer_179 : decode cb_Mo_toServer 179 = .ok (.getfield 191, 3) := by decide +kernel
theorem d_Mo_toServer_182 : decode cb_Mo_toServer 182 = .ok (.iconst 3, 1) := by decide +kernel
theorem d_Mo_toServer_183 : decode cb_Mo_toServer 183 = .ok (.if_icmp .ne 11, 3) := by decide +kernel
theorem d_Mo_toServer_186 : decode cb_Mo_toServer 186 = .ok (.aload_n 0, 1) := by decide +kernel
theorem d_Mo_toServer_187 : decode cb_Mo_toServer 187 = .ok (.iload_n 1, 1) := by decide +kernel
theorem d_Mo_toServer_188 : decode cb_Mo_toServer 188 = .ok (.invokevirtual 260, 3) := by decide +kernel
theorem d_Mo_toServer_191 : decode cb_Mo_toServer 191 = .ok (.goto 17, 3) := by decide +kernel
theorem d_Mo_toServer_194 : decode cb_Mo_toServer 194 = .ok (.aload_n 0, 1) := by decide +kernel
theorem d_Mo_toServer_195 : decode cb_Mo_toServer 195 = .ok (.getfield 111, 3) := by decide +kernel
theorem d_Mo_toServer_198 : decode cb_Mo_toServer 198 = .ok (.iload_n 1, 1) := by decide +kernel
theorem d_Mo_toServer_199 : decode cb_Mo_toServer 199 = .ok (.baload, 1) := by decide +kernel
theorem d_Mo_toServer_200 : decode cb_Mo_toServer 200 = .ok (.ifCond .eq 8, 3) := by decide +kernel
theorem d_Mo_toServer_203 : decode cb_Mo_toServer 203 = .ok (.aload_n 0, 1) := by decide +kernel
theorem d_Mo_toServer_204 : decode cb_Mo_toServer 204 = .ok (.iload_n 1, 1) := by decide +kernel
theorem d_Mo_toServer_205 : decode cb_Mo_toServer 205 = .ok (.invokevirtual 251, 3) := by decide +kernel
theorem d_Mo_toServer_208 : decode cb_Mo_toServer 208 = .ok (.return_, 1) := by decide +kernel
theorem d_Mo_toServer_209 : decode cb_Mo_toServer 209 = .ok (.iinc 1 1, 3) := by decide +kernel
theorem d_Mo_toServer_212 : decode cb_Mo_toServer 212 = .ok (.goto (-77), 3) := by decide +kernel
theorem d_Mo_toServer_215 : decode cb_Mo_toServer 215 = .ok (.return_, 1) := by decide +kernel
theorem d_Mo_isSlot_0 : decode cb_Mo_isSlot 0 = .ok (.iload_n 0, 1) := by decide +kernel
theorem d_Mo_isSlot_1 : decode cb_Mo_isSlot 1 = .ok (.ifCond .eq 8, 3) := by decide +kernel
theorem d_Mo_isSlot_4 : decode cb_Mo_isSlot 4 = .ok (.iload_n 0, 1) := by decide +kernel
theorem d_Mo_isSlot_5 : decode cb_Mo_isSlot 5 = .ok (.iconst 1, 1) := by decide +kernel
theorem d_Mo_isSlot_6 : decode cb_Mo_isSlot 6 = .ok (.if_icmp .ne 7, 3) := by decide +kernel
theorem d_Mo_isSlot_9 : decode cb_Mo_isSlot 9 = .ok (.iconst 1, 1) := by decide +kernel
theorem d_Mo_isSlot_10 : decode cb_Mo_isSlot 10 = .ok (.goto 4, 3) := by decide +kernel
theorem d_Mo_isSlot_13 : decode cb_Mo_isSlot 13 = .ok (.iconst 0, 1) := by decide +kernel
theorem d_Mo_isSlot_14 : decode cb_Mo_isSlot 14 = .ok (.ireturn, 1) := by decide +kernel
theorem d_Mo_use_0 : decode cb_Mo_use 0 = .ok (.aload_n 0, 1) := by decide +kernel
theorem d_Mo_use_1 : decode cb_Mo_use 1 = .ok (.getfield 51, 3) := by decide +kernel
theorem d_Mo_use_4 : decode cb_Mo_use 4 = .ok (.iload_n 1, 1) := by decide +kernel
theorem d_Mo_use_5 : decode cb_Mo_use 5 = .ok (.dup2, 1) := by decide +kernel
theorem d_Mo_use_6 : decode cb_Mo_use 6 = .ok (.iaload, 1) := by decide +kernel
theorem d_Mo_use_7 : decode cb_Mo_use 7 = .ok (.iconst 1, 1) := by decide +kernel
theorem d_Mo_use_8 : decode cb_Mo_use 8 = .ok (.iadd, 1) := by decide +kernel
theorem d_Mo_use_9 : decode cb_Mo_use 9 = .ok (.iastore, 1) := by decide +kernel
theorem d_Mo_use_10 : decode cb_Mo_use 10 = .ok (.aload_n 0, 1) := by decide +kernel
theorem d_Mo_use_11 : decode cb_Mo_use 11 = .ok (.getfield 54, 3) := by decide +kernel
theorem d_Mo_use_14 : decode cb_Mo_use 14 = .ok (.iload_n 1, 1) := by decide +kernel
theorem d_Mo_use_15 : decode cb_Mo_use 15 = .ok (.iconst 2, 1) := by decide +kernel
theorem d_Mo_use_16 : decode cb_Mo_use 16 = .ok (.aload_n 0, 1) := by decide +kernel
theorem d_Mo_use_17 : decode cb_Mo_use 17 = .ok (.getfield 51, 3) := by decide +kernel
theorem d_Mo_use_20 : decode cb_Mo_use 20 = .ok (.iload_n 1, 1) := by decide +kernel
theorem d_Mo_use_21 : decode cb_Mo_use 21 = .ok (.iaload, 1) := by decide +kernel
theorem d_Mo_use_22 : decode cb_Mo_use 22 = .ok (.imul, 1) := by decide +kernel
theorem d_Mo_use_23 : decode cb_Mo_use 23 = .ok (.iload_n 1, 1) := by decide +kernel
theorem d_Mo_use_24 : decode cb_Mo_use 24 = .ok (.iadd, 1) := by decide +kernel
theorem d_Mo_use_25 : decode cb_Mo_use 25 = .ok (.sipush 256, 3) := by decide +kernel
theorem d_Mo_use_28 : decode cb_Mo_use 28 = .ok (.irem, 1) := by decide +kernel
theorem d_Mo_use_29 : decode cb_Mo_use 29 = .ok (.iastore, 1) := by decide +kernel
theorem d_Mo_use_30 : decode cb_Mo_use 30 = .ok (.aload_n 0, 1) := by decide +kernel
theorem d_Mo_use_31 : decode cb_Mo_use 31 = .ok (.getfield 57, 3) := by decide +kernel
theorem d_Mo_use_34 : decode cb_Mo_use 34 = .ok (.iload_n 1, 1) := by decide +kernel
theorem d_Mo_use_35 : decode cb_Mo_use 35 = .ok (.iload_n 2, 1) := by decide +kernel
theorem d_Mo_use_36 : decode cb_Mo_use 36 = .ok (.iastore, 1) := by decide +kernel
theorem d_Mo_use_37 : decode cb_Mo_use 37 = .ok (.aload_n 0, 1) := by decide +kernel
theorem d_Mo_use_38 : decode cb_Mo_use 38 = .ok (.getfield 60, 3) := by decide +kernel
theorem d_Mo_use_41 : decode cb_Mo_use 41 = .ok (.iload_n 1, 1) := by decide +kernel
theorem d_Mo_use_42 : decode cb_Mo_use 42 = .ok (.iload_n 3, 1) := by decide +kernel
theorem d_Mo_use_43 : decode cb_Mo_use 43 = .ok (.iastore, 1) := by decide +kernel
theorem d_Mo_use_44 : decode cb_Mo_use 44 = .ok (.aload_n 0, 1) := by decide +kernel
theorem d_Mo_use_45 : decode cb_Mo_use 45 = .ok (.getfield 63, 3) := by decide +kernel
theorem d_Mo_use_48 : decode cb_Mo_use 48 = .ok (.iload_n 1, 1) := by decide +kernel
theorem d_Mo_use_49 : decode cb_Mo_use 49 = .ok (.iconst 0, 1) := by decide +kernel
theorem d_Mo_use_50 : decode cb_Mo_use 50 = .ok (.iastore, 1) := by decide +kernel
theorem d_Mo_use_51 : decode cb_Mo_use 51 = .ok (.aload_n 0, 1) := by decide +kernel
theorem d_Mo_use_52 : decode cb_Mo_use 52 = .ok (.getfield 72, 3) := by decide +kernel
theorem d_Mo_use_55 : decode cb_Mo_use 55 = .ok (.iload_n 1, 1) := by decide +kernel
theorem d_Mo_use_56 : decode cb_Mo_use 56 = .ok (.iconst 0, 1) := by decide +kernel
theorem d_Mo_use_57 : decode cb_Mo_use 57 = .ok (.bastore, 1) := by decide +kernel
theorem d_Mo_use_58 : decode cb_Mo_use 58 = .ok (.aload_n 0, 1) := by decide +kernel
theorem d_Mo_use_59 : decode cb_Mo_use 59 = .ok (.getfield 75, 3) := by decide +kernel
theorem d_Mo_use_62 : decode cb_Mo_use 62 = .ok (.iload_n 1, 1) := by decide +kernel
theorem d_Mo_use_63 : decode cb_Mo_use 63 = .ok (.iconst 0, 1) := by decide +kernel
theorem d_Mo_use_64 : decode cb_Mo_use 64 = .ok (.iastore, 1) := by decide +kernel
theorem d_Mo_use_65 : decode cb_Mo_use 65 = .ok (.aload_n 0, 1) := by decide +kernel
theorem d_Mo_use_66 : decode cb_Mo_use 66 = .ok (.getfield 78, 3) := by decide +kernel
theorem d_Mo_use_69 : decode cb_Mo_use 69 = .ok (.iload_n 1, 1) := by decide +kernel
theorem d_Mo_use_70 : decode cb_Mo_use 70 = .ok (.iconst 0, 1) := by decide +kernel
theorem d_Mo_use_71 : decode cb_Mo_use 71 = .ok (.iastore, 1) := by decide +kernel
theorem d_Mo_use_72 : decode cb_Mo_use 72 = .ok (.aload_n 0, 1) := by decide +kernel
theorem d_Mo_use_73 : decode cb_Mo_use 73 = .ok (.iload_n 1, 1) := by decide +kernel
theorem d_Mo_use_74 : decode cb_Mo_use 74 = .ok (.iconst 1, 1) := by decide +kernel
theorem d_Mo_use_75 : decode cb_Mo_use 75 = .ok (.invokevirtual 229, 3) := by decide +kernel
theorem d_Mo_use_78 : decode cb_Mo_use 78 = .ok (.aload_n 0, 1) := by decide +kernel
theorem d_Mo_use_79 : decode cb_Mo_use 79 = .ok (.getfield 54, 3) := by decide +kernel
theorem d_Mo_use_82 : decode cb_Mo_use 82 = .ok (.iload_n 1, 1) := by decide +kernel
theorem d_Mo_use_83 : decode cb_Mo_use 83 = .ok (.iaload, 1) := by decide +kernel
theorem d_Mo_use_84 : decode cb_Mo_use 84 = .ok (.ireturn, 1) := by decide +kernel
theorem d_Mo_get_0 : decode cb_Mo_get 0 = .ok (.iload_n 1, 1) := by decide +kernel
theorem d_Mo_get_1 : decode cb_Mo_get 1 = .ok (.invokestatic 297, 3) := by decide +kernel
theorem d_Mo_get_4 : decode cb_Mo_get 4 = .ok (.ifCond .eq 21, 3) := by decide +kernel
theorem d_Mo_get_7 : decode cb_Mo_get 7 = .ok (.iload_n 2, 1) := by decide +kernel
theorem d_Mo_get_8 : decode cb_Mo_get 8 = .ok (.ifCond .lt 17, 3) := by decide +kernel
theorem d_Mo_get_11 : decode cb_Mo_get 11 = .ok (.iload_n 2, 1) := by decide +kernel
theorem d_Mo_get_12 : decode cb_Mo_get 12 = .ok (.iconst 4, 1) := by decide +kernel
theorem d_Mo_get_13 : decode cb_Mo_get 13 = .ok (.if_icmp .gt 12, 3) := by decide +kernel
theorem d_Mo_get_16 : decode cb_Mo_get 16 = .ok (.iload_n 3, 1) := by decide +kernel
theorem d_Mo_get_17 : decode cb_Mo_get 17 = .ok (.ifCond .lt 8, 3) := by decide +kernel
theorem d_Mo_get_20 : decode cb_Mo_get 20 = .ok (.iload_n 3, 1) := by decide +kernel
theorem d_Mo_get_21 : decode cb_Mo_get 21 = .ok (.iconst 1, 1) := by decide +kernel
theorem d_Mo_get_22 : decode cb_Mo_get 22 = .ok (.if_icmp .le 5, 3) := by decide +kernel
theorem d_Mo_get_25 : decode cb_Mo_get 25 = .ok (.iconst (-1), 1) := by decide +kernel
theorem d_Mo_get_26 : decode cb_Mo_get 26 = .ok (.ireturn, 1) := by decide +kernel
theorem d_Mo_get_27 : decode cb_Mo_get 27 = .ok (.aload_n 0, 1) := by decide +kernel
theorem d_Mo_get_28 : decode cb_Mo_get 28 = .ok (.getfield 48, 3) := by decide +kernel
theorem d_Mo_get_31 : decode cb_Mo_get 31 = .ok (.iload_n 1, 1) := by decide +kernel
theorem d_Mo_get_32 : decode cb_Mo_get 32 = .ok (.iaload, 1) := by decide +kernel
theorem d_Mo_get_33 : decode cb_Mo_get 33 = .ok (.ifCond .eq 6, 3) := by decide +kernel
theorem d_Mo_get_36 : decode cb_Mo_get 36 = .ok (.bipush (-2), 2) := by decide +kernel
theorem d_Mo_get_38 : decode cb_Mo_get 38 = .ok (.ireturn, 1) := by decide +kernel
theorem d_Mo_get_39 : decode cb_Mo_get 39 = .ok (.aload_n 0, 1) := by decide +kernel
theorem d_Mo_get_40 : decode cb_Mo_get 40 = .ok (.getfield 66, 3) := by decide +kernel
theorem d_Mo_get_43 : decode cb_Mo_get 43 = .ok (.iload_n 1, 1) := by decide +kernel
theorem d_Mo_get_44 : decode cb_Mo_get 44 = .ok (.iconst 0, 1) := by decide +kernel
theorem d_Mo_get_45 : decode cb_Mo_get 45 = .ok (.bastore, 1) := by decide +kernel
theorem d_Mo_get_46 : decode cb_Mo_get 46 = .ok (.aload_n 0, 1) := by decide +kernel
theorem d_Mo_get_47 : decode cb_Mo_get 47 = .ok (.getfield 69, 3) := by decide +kernel
theorem d_Mo_get_50 : decode cb_Mo_get 50 = .ok (.iload_n 1, 1) := by decide +kernel
theorem d_Mo_get_51 : decode cb_Mo_get 51 = .ok (.iload 4, 2) := by decide +kernel
theorem d_Mo_get_53 : decode cb_Mo_get 53 = .ok (.bastore, 1) := by decide +kernel
theorem d_Mo_get_54 : decode cb_Mo_get 54 = .ok (.aload_n 0, 1) := by decide +kernel
theorem d_Mo_get_55 : decode cb_Mo_get 55 = .ok (.getfield 87, 3) := by decide +kernel
theorem d_Mo_get_58 : decode cb_Mo_get 58 = .ok (.iload_n 1, 1) := by decide +kernel
theorem d_Mo_get_59 : decode cb_Mo_get 59 = .ok (.iconst 0, 1) := by decide +kernel
theorem d_Mo_get_60 : decode cb_Mo_get 60 = .ok (.iastore, 1) := by decide +kernel
theorem d_Mo_get_61 : decode cb_Mo_get 61 = .ok (.aload_n 0, 1) := by decide +kernel
theorem d_Mo_get_62 : decode cb_Mo_get 62 = .ok (.iload_n 1, 1) := by decide +kernel
theorem d_Mo_get_63 : decode cb_Mo_get 63 = .ok (.iload_n 2, 1) := by decide +kernel
theorem d_Mo_get_64 : decode cb_Mo_get 64 = .ok (.iload_n 3, 1) := by decide +kernel
theorem d_Mo_get_65 : decode cb_Mo_get 65 = .ok (.invokevirtual 301, 3) := by decide +kernel
theorem d_Mo_get_68 : decode cb_Mo_get 68 = .ok (.ireturn, 1) := by decide +kernel
theorem d_Mo_put_0 : decode cb_Mo_put 0 = .ok (.iload_n 1, 1) := by decide +kernel
theorem d_Mo_put_1 : decode cb_Mo_put 1 = .ok (.invokestatic 297, 3) := by decide +kernel
theorem d_Mo_put_4 : decode cb_Mo_put 4 = .ok (.ifCond .eq 33, 3) := by decide +kernel
theorem d_Mo_put_7 : decode cb_Mo_put 7 = .ok (.iload_n 2, 1) := by decide +kernel
theorem d_Mo_put_8 : decode cb_Mo_put 8 = .ok (.ifCond .lt 29, 3) := by decide +kernel
theorem d_Mo_put_11 : decode cb_Mo_put 11 = .ok (.iload_n 2, 1) := by decide +kernel
theorem d_Mo_put_12 : decode cb_Mo_put 12 = .ok (.iconst 4, 1) := by decide +kernel
theorem d_Mo_put_13 : decode cb_Mo_put 13 = .ok (.if_icmp .gt 24, 3) := by decide +kernel
theorem d_Mo_put_16 : decode cb_Mo_put 16 = .ok (.iload_n 3, 1) := by decide +kernel
theorem d_Mo_put_17 : decode cb_Mo_put 17 = .ok (.ifCond .lt 20, 3) := by decide +kernel
theorem d_Mo_put_20 : decode cb_Mo_put 20 = .ok (.iload_n 3, 1) := by decide +kernel
theorem d_Mo_put_21 : decode cb_Mo_put 21 = .ok (.iconst 1, 1) := by decide +kernel
theorem d_Mo_put_22 : decode cb_Mo_put 22 = .ok (.if_icmp .gt 15, 3) := by decide +kernel
theorem d_Mo_put_25 : decode cb_Mo_put 25 = .ok (.iload 4, 2) := by decide +kernel
theorem d_Mo_put_27 : decode cb_Mo_put 27 = .ok (.ifCond .lt 10, 3) := by decide +kernel
theorem d_Mo_put_30 : decode cb_Mo_put 30 = .ok (.iload 4, 2) := by decide +kernel
theorem d_Mo_put_32 : decode cb_Mo_put 32 = .ok (.bipush 80, 2) := by decide +kernel
theorem d_Mo_put_34 : decode cb_Mo_put 34 = .ok (.if_icmp .le 5, 3) := by decide +kernel
theorem d_Mo_put_37 : decode cb_Mo_put 37 = .ok (.iconst (-1), 1) := by decide +kernel
theorem d_Mo_put_38 : decode cb_Mo_put 38 = .ok (.ireturn, 1) := by decide +kernel
theorem d_Mo_put_39 : decode cb_Mo_put 39 = .ok (.aload_n 0, 1) := by decide +kernel
theorem d_Mo_put_40 : decode cb_Mo_put 40 = .ok (.getfield 48, 3) := by decide +kernel
theorem d_Mo_put_43 : decode cb_Mo_put 43 = .ok (.iload_n 1, 1) := by decide +kernel
theorem d_Mo_put_44 : decode cb_Mo_put 44 = .ok (.iaload, 1) := by decide +kernel
theorem d_Mo_put_45 : decode cb_Mo_put 45 = .ok (.ifCond .eq 6, 3) := by decide +kernel
theorem d_Mo_put_48 : decode cb_Mo_put 48 = .ok (.bipush (-2), 2) := by decide +kernel
theorem d_Mo_put_50 : decode cb_Mo_put 50 = .ok (.ireturn, 1) := by decide +kernel
theorem d_Mo_put_51 : decode cb_Mo_put 51 = .ok (.aload_n 0, 1) := by decide +kernel
theorem d_Mo_put_52 : decode cb_Mo_put 52 = .ok (.getfield 66, 3) := by decide +kernel
theorem d_Mo_put_55 : decode cb_Mo_put 55 = .ok (.iload_n 1, 1) := by decide +kernel
theorem d_Mo_put_56 : decode cb_Mo_put 56 = .ok (.iconst 1, 1) := by decide +kernel
theorem d_Mo_put_57 : decode cb_Mo_put 57 = .ok (.bastore, 1) := by decide +kernel
theorem d_Mo_put_58 : decode cb_Mo_put 58 = .ok (.aload_n 0, 1) := by decide +kernel
theorem d_Mo_put_59 : decode cb_Mo_put 59 = .ok (.getfield 69, 3) := by decide +kernel
theorem d_Mo_put_62 : decode cb_Mo_put 62 = .ok (.iload_n 1, 1) := by decide +kernel
theorem d_Mo_put_63 : decode cb_Mo_put 63 = .ok (.iconst 0, 1) := by decide +kernel
theorem d_Mo_put_64 : decode cb_Mo_put 64 = .ok (.bastore, 1) := by decide +kernel
theorem d_Mo_put_65 : decode cb_Mo_put 65 = .ok (.aload_n 0, 1) := by decide +kernel
theorem d_Mo_put_66 : decode cb_Mo_put 66 = .ok (.getfield 87, 3) := by decide +kernel
theorem d_Mo_put_69 : decode cb_Mo_put 69 = .ok (.iload_n 1, 1) := by decide +kernel
theorem d_Mo_put_70 : decode cb_Mo_put 70 = .ok (.iload 4, 2) := by decide +kernel
theorem d_Mo_put_72 : decode cb_Mo_put 72 = .ok (.iastore, 1) := by decide +kernel
theorem d_Mo_put_73 : decode cb_Mo_put 73 = .ok (.iconst 0, 1) := by decide +kernel
theorem d_Mo_put_74 : decode cb_Mo_put 74 = .ok (.istore 6, 2) := by decide +kernel
theorem d_Mo_put_76 : decode cb_Mo_put 76 = .ok (.iload 6, 2) := by decide +kernel
theorem d_Mo_put_78 : decode cb_Mo_put 78 = .ok (.iload 4, 2) := by decide +kernel
theorem d_Mo_put_80 : decode cb_Mo_put 80 = .ok (.if_icmp .ge 32, 3) := by decide +kernel
theorem d_Mo_put_83 : decode cb_Mo_put 83 = .ok (.aload_n 0, 1) := by decide +kernel
theorem d_Mo_put_84 : decode cb_Mo_put 84 = .ok (.getfield 84, 3) := by decide +kernel
theorem d_Mo_put_87 : decode cb_Mo_put 87 = .ok (.bipush 80, 2) := by decide +kernel
theorem d_Mo_put_89 : decode cb_Mo_put 89 = .ok (.iload_n 1, 1) := by decide +kernel
theorem d_Mo_put_90 : decode cb_Mo_put 90 = .ok (.imul, 1) := by decide +kernel
theorem d_Mo_put_91 : decode cb_Mo_put 91 = .ok (.iload 6, 2) := by decide +kernel
theorem d_Mo_put_93 : decode cb_Mo_put 93 = .ok (.iadd, 1) := by decide +kernel
theorem d_Mo_put_94 : decode cb_Mo_put 94 = .ok (.iload 5, 2) := by decide +kernel
theorem d_Mo_put_96 : decode cb_Mo_put 96 = .ok (.iconst 5, 1) := by decide +kernel
theorem d_Mo_put_97 : decode cb_Mo_put 97 = .ok (.iload 6, 2) := by decide +kernel
theorem d_Mo_put_99 : decode cb_Mo_put 99 = .ok (.imul, 1) := by decide +kernel
theorem d_Mo_put_100 : decode cb_Mo_put 100 = .ok (.iadd, 1) := by decide +kernel
theorem d_Mo_put_101 : decode cb_Mo_put 101 = .ok (.sipush 255, 3) := by decide +kernel
theorem d_Mo_put_104 : decode cb_Mo_put 104 = .ok (.iand, 1) := by decide +kernel
theorem d_Mo_put_105 : decode cb_Mo_put 105 = .ok (.iastore, 1) := by decide +kernel
theorem d_Mo_put_106 : decode cb_Mo_put 106 = .ok (.iinc 6 1, 3) := by decide +kernel
theorem d_Mo_put_109 : decode cb_Mo_put 109 = .ok (.goto (-33), 3) := by decide +kernel
theorem d_Mo_put_112 : decode cb_Mo_put 112 = .ok (.aload_n 0, 1) := by decide +kernel
theorem d_Mo_put_113 : decode cb_Mo_put 113 = .ok (.iload_n 1, 1) := by decide +kernel
theorem d_Mo_put_114 : decode cb_Mo_put 114 = .ok (.iload_n 2, 1) := by decide +kernel
theorem d_Mo_put_115 : decode cb_Mo_put 115 = .ok (.iload_n 3, 1) := by decide +kernel
theorem d_Mo_put_116 : decode cb_Mo_put 116 = .ok (.invokevirtual 301, 3) := by decide +kernel
theorem d_Mo_put_119 : decode cb_Mo_put 119 = .ok (.ireturn, 1) := by decide +kernel

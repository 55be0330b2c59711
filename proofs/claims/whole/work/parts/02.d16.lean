theorem d_Me_keep_0 : decode cb_Me_keep 0 = .ok (.aload_n 0, 1) := by decide +kernel
theorem d_Me_keep_1 : decode cb_Me_keep 1 = .ok (.iload_n 1, 1) := by decide +kernel
theorem d_Me_keep_2 : decode cb_Me_keep 2 = .ok (.invokevirtual 31, 3) := by decide +kernel
theorem d_Me_keep_5 : decode cb_Me_keep 5 = .ok (.istore 4, 2) := by decide +kernel
theorem d_Me_keep_7 : decode cb_Me_keep 7 = .ok (.iload 4, 2) := by decide +kernel
theorem d_Me_keep_9 : decode cb_Me_keep 9 = .ok (.iconst (-1), 1) := by decide +kernel
theorem d_Me_keep_10 : decode cb_Me_keep 10 = .ok (.if_icmp .eq 9, 3) := by decide +kernel
theorem d_Me_keep_13 : decode cb_Me_keep 13 = .ok (.aload_n 0, 1) := by decide +kernel
theorem d_Me_keep_14 : decode cb_Me_keep 14 = .ok (.iload 4, 2) := by decide +kernel
theorem d_Me_keep_16 : decode cb_Me_keep 16 = .ok (.invokevirtual 35, 3) := by decide +kernel
theorem d_Me_keep_19 : decode cb_Me_keep 19 = .ok (.aload_n 0, 1) := by decide +kernel
theorem d_Me_keep_20 : decode cb_Me_keep 20 = .ok (.getfield 27, 3) := by decide +kernel
theorem d_Me_keep_23 : decode cb_Me_keep 23 = .ok (.iconst 4, 1) := by decide +kernel
theorem d_Me_keep_24 : decode cb_Me_keep 24 = .ok (.if_icmp .ne 8, 3) := by decide +kernel
theorem d_Me_keep_27 : decode cb_Me_keep 27 = .ok (.aload_n 0, 1) := by decide +kernel
theorem d_Me_keep_28 : decode cb_Me_keep 28 = .ok (.iconst 0, 1) := by decide +kernel
theorem d_Me_keep_29 : decode cb_Me_keep 29 = .ok (.invokevirtual 35, 3) := by decide +kernel
theorem d_Me_keep_32 : decode cb_Me_keep 32 = .ok (.aload_n 0, 1) := by decide +kernel
theorem d_Me_keep_33 : decode cb_Me_keep 33 = .ok (.getfield 11, 3) := by decide +kernel
theorem d_Me_keep_36 : decode cb_Me_keep 36 = .ok (.aload_n 0, 1) := by decide +kernel
theorem d_Me_keep_37 : decode cb_Me_keep 37 = .ok (.getfield 27, 3) := by decide +kernel
theorem d_Me_keep_40 : decode cb_Me_keep 40 = .ok (.aaload, 1) := by decide +kernel
theorem d_Me_keep_41 : decode cb_Me_keep 41 = .ok (.aload_n 3, 1) := by decide +kernel
theorem d_Me_keep_42 : decode cb_Me_keep 42 = .ok (.invokevirtual 38, 3) := by decide +kernel
theorem d_Me_keep_45 : decode cb_Me_keep 45 = .ok (.aload_n 0, 1) := by decide +kernel
theorem d_Me_keep_46 : decode cb_Me_keep 46 = .ok (.getfield 17, 3) := by decide +kernel
theorem d_Me_keep_49 : decode cb_Me_keep 49 = .ok (.aload_n 0, 1) := by decide +kernel
theorem d_Me_keep_50 : decode cb_Me_keep 50 = .ok (.getfield 27, 3) := by decide +kernel
theorem d_Me_keep_53 : decode cb_Me_keep 53 = .ok (.iload_n 1, 1) := by decide +kernel
theorem d_Me_keep_54 : decode cb_Me_keep 54 = .ok (.iastore, 1) := by decide +kernel
theorem d_Me_keep_55 : decode cb_Me_keep 55 = .ok (.aload_n 0, 1) := by decide +kernel
theorem d_Me_keep_56 : decode cb_Me_keep 56 = .ok (.getfield 21, 3) := by decide +kernel
theorem d_Me_keep_59 : decode cb_Me_keep 59 = .ok (.aload_n 0, 1) := by decide +kernel
theorem d_Me_keep_60 : decode cb_Me_keep 60 = .ok (.getfield 27, 3) := by decide +kernel
theorem d_Me_keep_63 : decode cb_Me_keep 63 = .ok (.iload_n 2, 1) := by decide +kernel
theorem d_Me_keep_64 : decode cb_Me_keep 64 = .ok (.iastore, 1) := by decide +kernel
theorem d_Me_keep_65 : decode cb_Me_keep 65 = .ok (.aload_n 0, 1) := by decide +kernel
theorem d_Me_keep_66 : decode cb_Me_keep 66 = .ok (.dup, 1) := by decide +kernel
theorem d_Me_keep_67 : decode cb_Me_keep 67 = .ok (.getfield 27, 3) := by decide +kernel
theorem d_Me_keep_70 : decode cb_Me_keep 70 = .ok (.iconst 1, 1) := by decide +kernel
theorem d_Me_keep_71 : decode cb_Me_keep 71 = .ok (.iadd, 1) := by decide +kernel
theorem d_Me_keep_72 : decode cb_Me_keep 72 = .ok (.putfield 27, 3) := by decide +kernel
theorem d_Me_keep_75 : decode cb_Me_keep 75 = .ok (.return_, 1) := by decide +kernel
theorem d_Se_answer_0 : decode cb_Se_answer 0 = .ok (.aload_n 0, 1) := by decide +kernel
theorem d_Se_answer_1 : decode cb_Se_answer 1 = .ok (.getfield 33, 3) := by decide +kernel
theorem d_Se_answer_4 : decode cb_Se_answer 4 = .ok (.aload_n 1, 1) := by decide +kernel
theorem d_Se_answer_5 : decode cb_Se_answer 5 = .ok (.getfield 55, 3) := by decide +kernel
theorem d_Se_answer_8 : decode cb_Se_answer 8 = .ok (.iload_n 2, 1) := by decide +kernel
theorem d_Se_answer_9 : decode cb_Se_answer 9 = .ok (.invokevirtual 60, 3) := by decide +kernel
theorem d_Se_answer_12 : decode cb_Se_answer 12 = .ok (.istore_n 3, 1) := by decide +kernel
theorem d_Se_answer_13 : decode cb_Se_answer 13 = .ok (.iload_n 3, 1) := by decide +kernel
theorem d_Se_answer_14 : decode cb_Se_answer 14 = .ok (.iconst (-1), 1) := by decide +kernel
theorem d_Se_answer_15 : decode cb_Se_answer 15 = .ok (.if_icmp .eq 21, 3) := by decide +kernel
theorem d_Se_answer_18 : decode cb_Se_answer 18 = .ok (.aload_n 0, 1) := by decide +kernel
theorem d_Se_answer_19 : decode cb_Se_answer 19 = .ok (.getfield 37, 3) := by decide +kernel
theorem d_Se_answer_22 : decode cb_Se_answer 22 = .ok (.aload_n 0, 1) := by decide +kernel
theorem d_Se_answer_23 : decode cb_Se_answer 23 = .ok (.getfield 33, 3) := by decide +kernel
theorem d_Se_answer_26 : decode cb_Se_answer 26 = .ok (.getfield 64, 3) := by decide +kernel
theorem d_Se_answer_29 : decode cb_Se_answer 29 = .ok (.iload_n 3, 1) := by decide +kernel
theorem d_Se_answer_30 : decode cb_Se_answer 30 = .ok (.aaload, 1) := by decide +kernel
theorem d_Se_answer_31 : decode cb_Se_answer 31 = .ok (.iconst 0, 1) := by decide +kernel
theorem d_Se_answer_32 : decode cb_Se_answer 32 = .ok (.invokevirtual 67, 3) := by decide +kernel
theorem d_Se_answer_35 : decode cb_Se_answer 35 = .ok (.return_, 1) := by decide +kernel
theorem d_Se_answer_36 : decode cb_Se_answer 36 = .ok (.aload_n 0, 1) := by decide +kernel
theorem d_Se_answer_37 : decode cb_Se_answer 37 = .ok (.dup, 1) := by decide +kernel
theorem d_Se_answer_38 : decode cb_Se_answer 38 = .ok (.getfield 73, 3) := by decide +kernel
theorem d_Se_answer_41 : decode cb_Se_answer 41 = .ok (.iconst 1, 1) := by decide +kernel
theorem d_Se_answer_42 : decode cb_Se_answer 42 = .ok (.iadd, 1) := by decide +kernel
theorem d_Se_answer_43 : decode cb_Se_answer 43 = .ok (.putfield 73, 3) := by decide +kernel
theorem d_Se_answer_46 : decode cb_Se_answer 46 = .ok (.aload_n 0, 1) := by decide +kernel
theorem d_Se_answer_47 : decode cb_Se_answer 47 = .ok (.aload_n 1, 1) := by decide +kernel
theorem d_Se_answer_48 : decode cb_Se_answer 48 = .ok (.invokevirtual 76, 3) := by decide +kernel
theorem d_Se_answer_51 : decode cb_Se_answer 51 = .ok (.istore 4, 2) := by decide +kernel
theorem d_Se_answer_53 : decode cb_Se_answer 53 = .ok (.aload_n 0, 1) := by decide +kernel
theorem d_Se_answer_54 : decode cb_Se_answer 54 = .ok (.aload_n 1, 1) := by decide +kernel
theorem d_Se_answer_55 : decode cb_Se_answer 55 = .ok (.iload 4, 2) := by decide +kernel
theorem d_Se_answer_57 : decode cb_Se_answer 57 = .ok (.invokevirtual 80, 3) := by decide +kernel
theorem d_Se_answer_60 : decode cb_Se_answer 60 = .ok (.istore 5, 2) := by decide +kernel
theorem d_Se_answer_62 : decode cb_Se_answer 62 = .ok (.iload 5, 2) := by decide +kernel
theorem d_Se_answer_64 : decode cb_Se_answer 64 = .ok (.bipush 68, 2) := by decide +kernel
theorem d_Se_answer_66 : decode cb_Se_answer 66 = .ok (.if_icmp .ne 9, 3) := by decide +kernel
theorem d_Se_answer_69 : decode cb_Se_answer 69 = .ok (.aload_n 0, 1) := by decide +kernel
theorem d_Se_answer_70 : decode cb_Se_answer 70 = .ok (.iload 4, 2) := by decide +kernel
theorem d_Se_answer_72 : decode cb_Se_answer 72 = .ok (.invokevirtual 84, 3) := by decide +kernel
theorem d_Se_answer_75 : decode cb_Se_answer 75 = .ok (.aload_n 0, 1) := by decide +kernel
theorem d_Se_answer_76 : decode cb_Se_answer 76 = .ok (.getfield 44, 3) := by decide +kernel
theorem d_Se_answer_79 : decode cb_Se_answer 79 = .ok (.iconst 2, 1) := by decide +kernel
theorem d_Se_answer_80 : decode cb_Se_answer 80 = .ok (.iload 5, 2) := by decide +kernel
theorem d_Se_answer_82 : decode cb_Se_answer 82 = .ok (.aload_n 1, 1) := by decide +kernel
theorem d_Se_answer_83 : decode cb_Se_answer 83 = .ok (.getfield 55, 3) := by decide +kernel
theorem d_Se_answer_86 : decode cb_Se_answer 86 = .ok (.aload_n 1, 1) := by decide +kernel
theorem d_Se_answer_87 : decode cb_Se_answer 87 = .ok (.getfield 87, 3) := by decide +kernel
theorem d_Se_answer_90 : decode cb_Se_answer 90 = .ok (.invokevirtual 90, 3) := by decide +kernel
theorem d_Se_answer_93 : decode cb_Se_answer 93 = .ok (.iload 5, 2) := by decide +kernel
theorem d_Se_answer_95 : decode cb_Se_answer 95 = .ok (.bipush 69, 2) := by decide +kernel
theorem d_Se_answer_97 : decode cb_Se_answer 97 = .ok (.if_icmp .ne 13, 3) := by decide +kernel
theorem d_Se_answer_100 : decode cb_Se_answer 100 = .ok (.aload_n 0, 1) := by decide +kernel
theorem d_Se_answer_101 : decode cb_Se_answer 101 = .ok (.aload_n 1, 1) := by decide +kernel
theorem d_Se_answer_102 : decode cb_Se_answer 102 = .ok (.iload 4, 2) := by decide +kernel
theorem d_Se_answer_104 : decode cb_Se_answer 104 = .ok (.invokevirtual 94, 3) := by decide +kernel
theorem d_Se_answer_107 : decode cb_Se_answer 107 = .ok (.goto 32, 3) := by decide +kernel
theorem d_Se_answer_110 : decode cb_Se_answer 110 = .ok (.iload 5, 2) := by decide +kernel
theorem d_Se_answer_112 : decode cb_Se_answer 112 = .ok (.sipush 132, 3) := by decide +kernel
theorem d_Se_answer_115 : decode cb_Se_answer 115 = .ok (.if_icmp .eq 24, 3) := by decide +kernel
theorem d_Se_answer_118 : decode cb_Se_answer 118 = .ok (.iload 5, 2) := by decide +kernel
theorem d_Se_answer_120 : decode cb_Se_answer 120 = .ok (.sipush 130, 3) := by decide +kernel
theorem d_Se_answer_123 : decode cb_Se_answer 123 = .ok (.if_icmp .eq 16, 3) := by decide +kernel
theorem d_Se_answer_126 : decode cb_Se_answer 126 = .ok (.aload_n 0, 1) := by decide +kernel
theorem d_Se_answer_127 : decode cb_Se_answer 127 = .ok (.getfield 44, 3) := by decide +kernel
theorem d_Se_answer_130 : decode cb_Se_answer 130 = .ok (.bipush 27, 2) := by decide +kernel
theorem d_Se_answer_132 : decode cb_Se_answer 132 = .ok (.aload_n 1, 1) := by decide +kernel
theorem d_Se_answer_133 : decode cb_Se_answer 133 = .ok (.getfield 98, 3) := by decide +kernel
theorem d_Se_answer_136 : decode cb_Se_answer 136 = .ok (.invokevirtual 101, 3) := by decide +kernel
theorem d_Se_answer_139 : decode cb_Se_answer 139 = .ok (.aload_n 0, 1) := by decide +kernel
theorem d_Se_answer_140 : decode cb_Se_answer 140 = .ok (.getfield 33, 3) := by decide +kernel
theorem d_Se_answer_143 : decode cb_Se_answer 143 = .ok (.aload_n 1, 1) := by decide +kernel
theorem d_Se_answer_144 : decode cb_Se_answer 144 = .ok (.getfield 55, 3) := by decide +kernel
theorem d_Se_answer_147 : decode cb_Se_answer 147 = .ok (.iload_n 2, 1) := by decide +kernel
theorem d_Se_answer_148 : decode cb_Se_answer 148 = .ok (.aload_n 0, 1) := by decide +kernel
theorem d_Se_answer_149 : decode cb_Se_answer 149 = .ok (.getfield 44, 3) := by decide +kernel
theorem d_Se_answer_152 : decode cb_Se_answer 152 = .ok (.getfield 105, 3) := by decide +kernel
theorem d_Se_answer_155 : decode cb_Se_answer 155 = .ok (.invokevirtual 109, 3) := by decide +kernel
theorem d_Se_answer_158 : decode cb_Se_answer 158 = .ok (.aload_n 0, 1) := by decide +kernel
theorem d_Se_answer_159 : decode cb_Se_answer 159 = .ok (.getfield 37, 3) := by decide +kernel
theorem d_Se_answer_162 : decode cb_Se_answer 162 = .ok (.aload_n 0, 1) := by decide +kernel
theorem d_Se_answer_163 : decode cb_Se_answer 163 = .ok (.getfield 44, 3) := by decide +kernel
theorem d_Se_answer_166 : decode cb_Se_answer 166 = .ok (.getfield 105, 3) := by decide +kernel
theorem d_Se_answer_169 : decode cb_Se_answer 169 = .ok (.iconst 0, 1) := by decide +kernel
theorem d_Se_answer_170 : decode cb_Se_answer 170 = .ok (.invokevirtual 67, 3) := by decide +kernel
theorem d_Se_answer_173 : decode cb_Se_answer 173 = .ok (.return_, 1) := by decide +kernel
theorem d_Se_receiveReceipt_0 : decode cb_Se_receiveReceipt 0 = .ok (.aload_n 1, 1) := by decide +kernel
theorem d_Se_receiveReceipt_1 : decode cb_Se_receiveReceipt 1 = .ok (.getfield 117, 3) := by decide +kernel
theorem d_Se_receiveReceipt_4 : decode cb_Se_receiveReceipt 4 = .ok (.ifCond .ne 19, 3) := by decide +kernel
theorem d_Se_receiveReceipt_7 : decode cb_Se_receiveReceipt 7 = .ok (.aload_n 1, 1) := by decide +kernel
theorem d_Se_receiveReceipt_8 : decode cb_Se_receiveReceipt 8 = .ok (.getfield 221, 3) := by decide +kernel
theorem d_Se_receiveReceipt_11 : decode cb_Se_receiveReceipt 11 = .ok (.iconst 2, 1) := by decide +kernel
theorem d_Se_receiveReceipt_12 : decode cb_Se_receiveReceipt 12 = .ok (.if_icmp .eq 12, 3) := by decide +kernel
theorem d_Se_receiveReceipt_15 : decode cb_Se_receiveReceipt 15 = .ok (.aload_n 1, 1) := by decide +kernel
theorem d_Se_receiveReceipt_16 : decode cb_Se_receiveReceipt 16 = .ok (.getfield 221, 3) := by decide +kernel
theorem d_Se_receiveReceipt_19 : decode cb_Se_receiveReceipt 19 = .ok (.iconst 3, 1) := by decide +kernel
theorem d_Se_receiveReceipt_20 : decode cb_Se_receiveReceipt 20 = .ok (.if_icmp .eq 4, 3) := by decide +kernel
theorem d_Se_receiveReceipt_23 : decode cb_Se_receiveReceipt 23 = .ok (.return_, 1) := by decide +kernel
theorem d_Se_receiveReceipt_24 : decode cb_Se_receiveReceipt 24 = .ok (.iconst 0, 1) := by decide +kernel
theorem d_Se_receiveReceipt_25 : decode cb_Se_receiveReceipt 25 = .ok (.istore_n 2, 1) := by decide +kernel
theorem d_Se_receiveReceipt_26 : decode cb_Se_receiveReceipt 26 = .ok (.iload_n 2, 1) := by decide +kernel
theorem d_Se_receiveReceipt_27 : decode cb_Se_receiveReceipt 27 = .ok (.aload_n 0, 1) := by decide +kernel
theorem d_Se_receiveReceipt_28 : decode cb_Se_receiveReceipt 28 = .ok (.getfield 183, 3) := by decide +kernel
theorem d_Se_receiveReceipt_31 : decode cb_Se_receiveReceipt 31 = .ok (.if_icmp .ge 79, 3) := by decide +kernel
theorem d_Se_receiveReceipt_34 : decode cb_Se_receiveReceipt 34 = .ok (.aload_n 0, 1) := by decide +kernel
theorem d_Se_receiveReceipt_35 : decode cb_Se_receiveReceipt 35 = .ok (.getfield 25, 3) := by decide +kernel
theorem d_Se_receiveReceipt_38 : decode cb_Se_receiveReceipt 38 = .ok (.iload_n 2, 1) := by decide +kernel
theorem d_Se_receiveReceipt_39 : decode cb_Se_receiveReceipt 39 = .ok (.aaload, 1) := by decide +kernel
theorem d_Se_receiveReceipt_40 : decode cb_Se_receiveReceipt 40 = .ok (.getfield 190, 3) := by decide +kernel
theorem d_Se_receiveReceipt_43 : decode cb_Se_receiveReceipt 43 = .ok (.aload_n 1, 1) := by decide +kernel
theorem d_Se_receiveReceipt_44 : decode cb_Se_receiveReceipt 44 = .ok (.getfield 55, 3) := by decide +kernel
theorem d_Se_receiveReceipt_47 : decode cb_Se_receiveReceipt 47 = .ok (.invokevirtual 224, 3) := by decide +kernel
theorem d_Se_receiveReceipt_50 : decode cb_Se_receiveReceipt 50 = .ok (.ifCond .eq 54, 3) := by decide +kernel
theorem d_Se_receiveReceipt_53 : decode cb_Se_receiveReceipt 53 = .ok (.aload_n 0, 1) := by decide +kernel
theorem d_Se_receiveReceipt_54 : decode cb_Se_receiveReceipt 54 = .ok (.getfield 25, 3) := by decide +kernel
theorem d_Se_receiveReceipt_57 : decode cb_Se_receiveReceipt 57 = .ok (.iload_n 2, 1) := by decide +kernel
theorem d_Se_receiveReceipt_58 : decode cb_Se_receiveReceipt 58 = .ok (.aaload, 1) := by decide +kernel
theorem d_Se_receiveReceipt_59 : decode cb_Se_receiveReceipt 59 = .ok (.getfield 190, 3) := by decide +kernel
theorem d_Se_receiveReceipt_62 : decode cb_Se_receiveReceipt 62 = .ok (.invokevirtual 194, 3) := by decide +kernel
theorem d_Se_receiveReceipt_65 : decode cb_Se_receiveReceipt 65 = .ok (.aload_n 1, 1) := by decide +kernel
theorem d_Se_receiveReceipt_66 : decode cb_Se_receiveReceipt 66 = .ok (.getfield 221, 3) := by decide +kernel
theorem d_Se_receiveReceipt_69 : decode cb_Se_receiveReceipt 69 = .ok (.iconst 3, 1) := by decide +kernel
theorem d_Se_receiveReceipt_70 : decode cb_Se_receiveReceipt 70 = .ok (.if_icmp .ne 11, 3) := by decide +kernel
theorem d_Se_receiveReceipt_73 : decode cb_Se_receiveReceipt 73 = .ok (.aload_n 0, 1) := by decide +kernel
theorem d_Se_receiveReceipt_74 : decode cb_Se_receiveReceipt 74 = .ok (.iload_n 2, 1) := by decide +kernel
theorem d_Se_receiveReceipt_75 : decode cb_Se_receiveReceipt 75 = .ok (.invokevirtual 169, 3) := by decide +kernel
theorem d_Se_receiveReceipt_78 : decode cb_Se_receiveReceipt 78 = .ok (.goto 25, 3) := by decide +kernel
theorem d_Se_receiveReceipt_81 : decode cb_Se_receiveReceipt 81 = .ok (.aload_n 0, 1) := by decide +kernel
theorem d_Se_receiveReceipt_82 : decode cb_Se_receiveReceipt 82 = .ok (.getfield 25, 3) := by decide +kernel
theorem d_Se_receiveReceipt_85 : decode cb_Se_receiveReceipt 85 = .ok (.iload_n 2, 1) := by decide +kernel
theorem d_Se_receiveReceipt_86 : decode cb_Se_receiveReceipt 86 = .ok (.aaload, 1) := by decide +kernel
theorem d_Se_receiveReceipt_87 : decode cb_Se_receiveReceipt 87 = .ok (.getfield 210, 3) := by decide +kernel
theorem d_Se_receiveReceipt_90 : decode cb_Se_receiveReceipt 90 = .ok (.ifCond .eq 13, 3) := by decide +kernel
theorem d_Se_receiveReceipt_93 : decode cb_Se_receiveReceipt 93 = .ok (.aload_n 0, 1) := by decide +kernel
theorem d_Se_receiveReceipt_94 : decode cb_Se_receiveReceipt 94 = .ok (.aload_n 0, 1) := by decide +kernel
theorem d_Se_receiveReceipt_95 : decode cb_Se_receiveReceipt 95 = .ok (.getfield 25, 3) := by decide +kernel
theorem d_Se_receiveReceipt_98 : decode cb_Se_receiveReceipt 98 = .ok (.iload_n 2, 1) := by decide +kernel
theorem d_Se_receiveReceipt_99 : decode cb_Se_receiveReceipt 99 = .ok (.aaload, 1) := by decide +kernel
theorem d_Se_receiveReceipt_100 : decode cb_Se_receiveReceipt 100 = .ok (.invokevirtual 202, 3) := by decide +kernel
theorem d_Se_receiveReceipt_103 : decode cb_Se_receiveReceipt 103 = .ok (.return_, 1) := by decide +kernel
theorem d_Se_receiveReceipt_104 : decode cb_Se_receiveReceipt 104 = .ok (.iinc 2 1, 3) := by decide +kernel
theorem d_Se_receiveReceipt_107 : decode cb_Se_receiveReceipt 107 = .ok (.goto (-81), 3) := by decide +kernel
theorem d_Se_receiveReceipt_110 : decode cb_Se_receiveReceipt 110 = .ok (.return_, 1) := by decide +kernel
theorem d_Ob_deliver_0 : decode cb_Ob_deliver 0 = .ok (.aload_n 0, 1) := by decide +kernel
theorem d_Ob_deliver_1 : decode cb_Ob_deliver 1 = .ok (.getfield 10, 3) := by decide +kernel
theorem d_Ob_deliver_4 : decode cb_Ob_deliver 4 = .ok (.iload_n 1, 1) := by decide +kernel
theorem d_Ob_deliver_5 : decode cb_Ob_deliver 5 = .ok (.invokevirtual 96, 3) := by decide +kernel
theorem d_Ob_deliver_8 : decode cb_Ob_deliver 8 = .ok (.ifCond .ne 5, 3) := by decide +kernel
theorem d_Ob_deliver_11 : decode cb_Ob_deliver 11 = .ok (.iconst (-1), 1) := by decide +kernel
theorem d_Ob_deliver_12 : decode cb_Ob_deliver 12 = .ok (.ireturn, 1) := by decide +kernel
theorem d_Ob_deliver_13 : decode cb_Ob_deliver 13 = .ok (.aload_n 0, 1) := by decide +kernel
theorem d_Ob_deliver_14 : decode cb_Ob_deliver 14 = .ok (.getfield 10, 3) := by decide +kernel
theorem d_Ob_deliver_17 : decode cb_Ob_deliver 17 = .ok (.getfield 100, 3) := by decide +kernel
theorem d_Ob_deliver_20 : decode cb_Ob_deliver 20 = .ok (.iload_n 1, 1) := by decide +kernel
theorem d_Ob_deliver_21 : decode cb_Ob_deliver 21 = .ok (.iaload, 1) := by decide +kernel
theorem d_Ob_deliver_22 : decode cb_Ob_deliver 22 = .ok (.istore_n 2, 1) := by decide +kernel
theorem d_Ob_deliver_23 : decode cb_Ob_deliver 23 = .ok (.aload_n 0, 1) := by decide +kernel
theorem d_Ob_deliver_24 : decode cb_Ob_deliver 24 = .ok (.getfield 35, 3) := by decide +kernel
theorem d_Ob_deliver_27 : decode cb_Ob_deliver 27 = .ok (.aload_n 0, 1) := by decide +kernel
theorem d_Ob_deliver_28 : decode cb_Ob_deliver 28 = .ok (.getfield 10, 3) := by decide +kernel
theorem d_Ob_deliver_31 : decode cb_Ob_deliver 31 = .ok (.getfield 104, 3) := by decide +kernel
theorem d_Ob_deliver_34 : decode cb_Ob_deliver 34 = .ok (.iload_n 1, 1) := by decide +kernel
theorem d_Ob_deliver_35 : decode cb_Ob_deliver 35 = .ok (.aaload, 1) := by decide +kernel
theorem d_Ob_deliver_36 : decode cb_Ob_deliver 36 = .ok (.invokevirtual 107, 3) := by decide +kernel
theorem d_Ob_deliver_39 : decode cb_Ob_deliver 39 = .ok (.istore_n 3, 1) := by decide +kernel
theorem d_Ob_deliver_40 : decode cb_Ob_deliver 40 = .ok (.aload_n 0, 1) := by decide +kernel
theorem d_Ob_deliver_41 : decode cb_Ob_deliver 41 = .ok (.getfield 10, 3) := by decide +kernel
theorem d_Ob_deliver_44 : decode cb_Ob_deliver 44 = .ok (.iload_n 1, 1) := by decide +kernel
theorem d_Ob_deliver_45 : decode cb_Ob_deliver 45 = .ok (.invokevirtual 111, 3) := by decide +kernel
theorem d_Ob_deliver_48 : decode cb_Ob_deliver 48 = .ok (.iload_n 3, 1) := by decide +kernel
theorem d_Ob_deliver_49 : decode cb_Ob_deliver 49 = .ok (.ifCond .eq 21, 3) := by decide +kernel
theorem d_Ob_deliver_52 : decode cb_Ob_deliver 52 = .ok (.iload_n 2, 1) := by decide +kernel
theorem d_Ob_deliver_53 : decode cb_Ob_deliver 53 = .ok (.ifCond .ne 17, 3) := by decide +kernel
theorem d_Ob_deliver_56 : decode cb_Ob_deliver 56 = .ok (.aload_n 0, 1) := by decide +kernel
theorem d_Ob_deliver_57 : decode cb_Ob_deliver 57 = .ok (.getfield 21, 3) := by decide +kernel
theorem d_Ob_deliver_60 : decode cb_Ob_deliver 60 = .ok (.aload_n 0, 1) := by decide +kernel
theorem d_Ob_deliver_61 : decode cb_Ob_deliver 61 = .ok (.getfield 35, 3) := by decide +kernel
theorem d_Ob_deliver_64 : decode cb_Ob_deliver 64 = .ok (.invokevirtual 114, 3) := by decide +kernel
theorem d_Ob_deliver_67 : decode cb_Ob_deliver 67 = .ok (.goto 50, 3) := by decide +kernel
theorem d_Ob_deliver_70 : decode cb_Ob_deliver 70 = .ok (.iload_n 3, 1) := by decide +kernel
theorem d_Ob_deliver_71 : decode cb_Ob_deliver 71 = .ok (.ifCond .eq 31, 3) := by decide +kernel
theorem d_Ob_deliver_74 : decode cb_Ob_deliver 74 = .ok (.aload_n 0, 1) := by decide +kernel
theorem d_Ob_deliver_75 : decode cb_Ob_deliver 75 = .ok (.getfield 35, 3) := by decide +kernel
theorem d_Ob_deliver_78 : decode cb_Ob_deliver 78 = .ok (.invokevirtual 118, 3) := by decide +kernel
theorem d_Ob_deliver_81 : decode cb_Ob_deliver 81 = .ok (.ifCond .eq 21, 3) := by decide +kernel
theorem d_Ob_deliver_84 : decode cb_Ob_deliver 84 = .ok (.aload_n 0, 1) := by decide +kernel
theorem d_Ob_deliver_85 : decode cb_Ob_deliver 85 = .ok (.getfield 28, 3) := by decide +kernel
theorem d_Ob_deliver_88 : decode cb_Ob_deliver 88 = .ok (.aload_n 0, 1) := by decide +kernel
theorem d_Ob_deliver_89 : decode cb_Ob_deliver 89 = .ok (.getfield 35, 3) := by decide +kernel
theorem d_Ob_deliver_92 : decode cb_Ob_deliver 92 = .ok (.aload_n 0, 1) := by decide +kernel
theorem d_Ob_deliver_93 : decode cb_Ob_deliver 93 = .ok (.getfield 39, 3) := by decide +kernel
theorem d_Ob_deliver_96 : decode cb_Ob_deliver 96 = .ok (.invokevirtual 122, 3) := by decide +kernel
theorem d_Ob_deliver_99 : decode cb_Ob_deliver 99 = .ok (.goto 18, 3) := by decide +kernel
theorem d_Ob_deliver_102 : decode cb_Ob_deliver 102 = .ok (.iload_n 3, 1) := by decide +kernel
theorem d_Ob_deliver_103 : decode cb_Ob_deliver 103 = .ok (.ifCond .eq 14, 3) := by decide +kernel
theorem d_Ob_deliver_106 : decode cb_Ob_deliver 106 = .ok (.aload_n 0, 1) := by decide +kernel
theorem d_Ob_deliver_107 : decode cb_Ob_deliver 107 = .ok (.getfield 28, 3) := by decide +kernel
theorem d_Ob_deliver_110 : decode cb_Ob_deliver 110 = .ok (.aload_n 0, 1) := by decide +kernel
theorem d_Ob_deliver_111 : decode cb_Ob_deliver 111 = .ok (.getfield 35, 3) := by decide +kernel
theorem d_Ob_deliver_114 : decode cb_Ob_deliver 114 = .ok (.invokevirtual 126, 3) := by decide +kernel
theorem d_Ob_deliver_117 : decode cb_Ob_deliver 117 = .ok (.aload_n 0, 1) := by decide +kernel
theorem d_Ob_deliver_118 : decode cb_Ob_deliver 118 = .ok (.getfield 10, 3) := by decide +kernel
theorem d_Ob_deliver_121 : decode cb_Ob_deliver 121 = .ok (.getfield 129, 3) := by decide +kernel
theorem d_Ob_deliver_124 : decode cb_Ob_deliver 124 = .ok (.ireturn, 1) := by decide +kernel
theorem d_Ob_lose_0 : decode cb_Ob_lose 0 = .ok (.aload_n 0, 1) := by decide +kernel
theorem d_Ob_lose_1 : decode cb_Ob_lose 1 = .ok (.getfield 10, 3) := by decide +kernel
theorem d_Ob_lose_4 : decode cb_Ob_lose 4 = .ok (.iload_n 1, 1) := by decide +kernel
theorem d_Ob_lose_5 : decode cb_Ob_lose 5 = .ok (.invokevirtual 96, 3) := by decide +kernel
theorem d_Ob_lose_8 : decode cb_Ob_lose 8 = .ok (.ifCond .ne 5, 3) := by decide +kernel
theorem d_Ob_lose_11 : decode cb_Ob_lose 11 = .ok (.iconst (-1), 1) := by decide +kernel
theorem d_Ob_lose_12 : decode cb_Ob_lose 12 = .ok (.ireturn, 1) := by decide +kernel
theorem d_Ob_lose_13 : decode cb_Ob_lose 13 = .ok (.aload_n 0, 1) := by decide +kernel
theorem d_Ob_lose_14 : decode cb_Ob_lose 14 = .ok (.getfield 10, 3) := by decide +kernel
theorem d_Ob_lose_17 : decode cb_Ob_lose 17 = .ok (.iload_n 1, 1) := by decide +kernel
theorem d_Ob_lose_18 : decode cb_Ob_lose 18 = .ok (.invokevirtual 111, 3) := by decide +kernel
theorem d_Ob_lose_21 : decode cb_Ob_lose 21 = .ok (.aload_n 0, 1) := by decide +kernel
theorem d_Ob_lose_22 : decode cb_Ob_lose 22 = .ok (.getfield 10, 3) := by decide +kernel
theorem d_Ob_lose_25 : decode cb_Ob_lose 25 = .ok (.getfield 129, 3) := by decide +kernel
theorem d_Ob_lose_28 : decode cb_Ob_lose 28 = .ok (.ireturn, 1) := by decide +kernel
theorem d_Ob_repeat_0 : decode cb_Ob_repeat 0 = .ok (.aload_n 0, 1) := by decide +kernel
theorem d_Ob_repeat_1 : decode cb_Ob_repeat 1 = .ok (.getfield 10, 3) := by decide +kernel
theorem d_Ob_repeat_4 : decode cb_Ob_repeat 4 = .ok (.iload_n 1, 1) := by decide +kernel
theorem d_Ob_repeat_5 : decode cb_Ob_repeat 5 = .ok (.invokevirtual 96, 3) := by decide +kernel
theorem d_Ob_repeat_8 : decode cb_Ob_repeat 8 = .ok (.ifCond .ne 5, 3) := by decide +kernel
theorem d_Ob_repeat_11 : decode cb_Ob_repeat 11 = .ok (.iconst (-1), 1) := by decide +kernel
theorem d_Ob_repeat_12 : decode cb_Ob_repeat 12 = .ok (.ireturn, 1) := by decide +kernel
theorem d_Ob_repeat_13 : decode cb_Ob_repeat 13 = .ok (.aload_n 0, 1) := by decide +kernel
theorem d_Ob_repeat_14 : decode cb_Ob_repeat 14 = .ok (.getfield 10, 3) := by decide +kernel
theorem d_Ob_repeat_17 : decode cb_Ob_repeat 17 = .ok (.aload_n 0, 1) := by decide +kernel
theorem d_Ob_repeat_18 : decode cb_Ob_repeat 18 = .ok (.getfield 10, 3) := by decide +kernel
theorem d_Ob_repeat_21 : decode cb_Ob_repeat 21 = .ok (.getfield 104, 3) := by decide +kernel
theorem d_Ob_repeat_24 : decode cb_Ob_repeat 24 = .ok (.iload_n 1, 1) := by decide +kernel
theorem d_Ob_repeat_25 : decode cb_Ob_repeat 25 = .ok (.aaload, 1) := by decide +kernel
theorem d_Ob_repeat_26 : decode cb_Ob_repeat 26 = .ok (.aload_n 0, 1) := by decide +kernel
theorem d_Ob_repeat_27 : decode cb_Ob_repeat 27 = .ok (.getfield 10, 3) := by decide +kernel
theorem d_Ob_repeat_30 : decode cb_Ob_repeat 30 = .ok (.getfield 100, 3) := by decide +kernel
theorem d_Ob_repeat_33 : decode cb_Ob_repeat 33 = .ok (.iload_n 1, 1) := by decide +kernel
theorem d_Ob_repeat_34 : decode cb_Ob_repeat 34 = .ok (.iaload, 1) := by decide +kernel
theorem d_Ob_repeat_35 : decode cb_Ob_repeat 35 = .ok (.invokevirtual 132, 3) := by decide +kernel
theorem d_Ob_repeat_38 : decode cb_Ob_repeat 38 = .ok (.aload_n 0, 1) := by decide +kernel
theorem d_Ob_repeat_39 : decode cb_Ob_repeat 39 = .ok (.getfield 10, 3) := by decide +kernel
theorem d_Ob_repeat_42 : decode cb_Ob_repeat 42 = .ok (.getfield 129, 3) := by decide +kernel
theorem d_Ob_repeat_45 : decode cb_Ob_repeat 45 = .ok (.ireturn, 1) := by decide +kernel
theorem d_Ob_spoil_0 : decode cb_Ob_spoil 0 = .ok (.aload_n 0, 1) := by decide +kernel
theorem d_Ob_spoil_1 : decode cb_Ob_spoil 1 = .ok (.getfield 10, 3) := by decide +kernel
theorem d_Ob_spoil_4 : decode cb_Ob_spoil 4 = .ok (.iload_n 1, 1) := by decide +kernel
theorem d_Ob_spoil_5 : decode cb_Ob_spoil 5 = .ok (.invokevirtual 96, 3) := by decide +kernel
theorem d_Ob_spoil_8 : decode cb_Ob_spoil 8 = .ok (.ifCond .eq 29, 3) := by decide +kernel
theorem d_Ob_spoil_11 : decode cb_Ob_spoil 11 = .ok (.aload_n 0, 1) := by decide +kernel
theorem d_Ob_spoil_12 : decode cb_Ob_spoil 12 = .ok (.getfield 10, 3) := by decide +kernel
theorem d_Ob_spoil_15 : decode cb_Ob_spoil 15 = .ok (.getfield 104, 3) := by decide +kernel
theorem d_Ob_spoil_18 : decode cb_Ob_spoil 18 = .ok (.iload_n 1, 1) := by decide +kernel
theorem d_Ob_spoil_19 : decode cb_Ob_spoil 19 = .ok (.aaload, 1) := by decide +kernel
theorem d_Ob_spoil_20 : decode cb_Ob_spoil 20 = .ok (.iload_n 2, 1) := by decide +kernel
theorem d_Ob_spoil_21 : decode cb_Ob_spoil 21 = .ok (.invokevirtual 136, 3) := by decide +kernel
theorem d_Ob_spoil_24 : decode cb_Ob_spoil 24 = .ok (.ifCond .eq 13, 3) := by decide +kernel
theorem d_Ob_spoil_27 : decode cb_Ob_spoil 27 = .ok (.iload_n 3, 1) := by decide +kernel
theorem d_Ob_spoil_28 : decode cb_Ob_spoil 28 = .ok (.sipush 255, 3) := by decide +kernel
theorem d_Ob_spoil_31 : decode cb_Ob_spoil 31 = .ok (.invokestatic 67, 3) := by decide +kernel
theorem d_Ob_spoil_34 : decode cb_Ob_spoil 34 = .ok (.ifCond .ne 5, 3) := by decide +kernel
theorem d_Ob_spoil_37 : decode cb_Ob_spoil 37 = .ok (.iconst 0, 1) := by decide +kernel
theorem d_Ob_spoil_38 : decode cb_Ob_spoil 38 = .ok (.ireturn, 1) := by decide +kernel
theorem d_Ob_spoil_39 : decode cb_Ob_spoil 39 = .ok (.aload_n 0, 1) := by decide +kernel
theorem d_Ob_spoil_40 : decode cb_Ob_spoil 40 = .ok (.getfield 10, 3) := by decide +kernel
theorem d_Ob_spoil_43 : decode cb_Ob_spoil 43 = .ok (.getfield 104, 3) := by decide +kernel
theorem d_Ob_spoil_46 : decode cb_Ob_spoil 46 = .ok (.iload_n 1, 1) := by decide +kernel
theorem d_Ob_spoil_47 : decode cb_Ob_spoil 47 = .ok (.aaload, 1) := by decide +kernel
theorem d_Ob_spoil_48 : decode cb_Ob_spoil 48 = .ok (.getfield 137, 3) := by decide +kernel
theorem d_Ob_spoil_51 : decode cb_Ob_spoil 51 = .ok (.iload_n 2, 1) := by decide +kernel
theorem d_Ob_spoil_52 : decode cb_Ob_spoil 52 = .ok (.dup2, 1) := by decide +kernel
theorem d_Ob_spoil_53 : decode cb_Ob_spoil 53 = .ok (.iaload, 1) := by decide +kernel
theorem d_Ob_spoil_54 : decode cb_Ob_spoil 54 = .ok (.iload_n 3, 1) := by decide +kernel
theorem d_Ob_spoil_55 : decode cb_Ob_spoil 55 = .ok (.ixor, 1) := by decide +kernel
theorem d_Ob_spoil_56 : decode cb_Ob_spoil 56 = .ok (.iastore, 1) := by decide +kernel
theorem d_Ob_spoil_57 : decode cb_Ob_spoil 57 = .ok (.iconst 1, 1) := by decide +kernel
theorem d_Ob_spoil_58 : decode cb_Ob_spoil 58 = .ok (.ireturn, 1) := by decide +kernel
theorem d_Ob_waiting_0 : decode cb_Ob_waiting 0 = .ok (.aload_n 0, 1) := by decide +kernel
theorem d_Ob_waiting_1 : decode cb_Ob_waiting 1 = .ok (.getfield 10, 3) := by decide +kernel
theorem d_Ob_waiting_4 : decode cb_Ob_waiting 4 = .ok (.getfield 129, 3) := by decide +kernel
theorem d_Ob_waiting_7 : decode cb_Ob_waiting 7 = .ok (.ireturn, 1) := by decide +kernel
theorem d_Ob_datagram_0 : decode cb_Ob_datagram 0 = .ok (.aload_n 0, 1) := by decide +kernel
theorem d_Ob_datagram_1 : decode cb_Ob_datagram 1 = .ok (.getfield 10, 3) := by decide +kernel
theorem d_Ob_datagram_4 : decode cb_Ob_datagram 4 = .ok (.iload_n 1, 1) := by decide +kernel
theorem d_Ob_datagram_5 : decode cb_Ob_datagram 5 = .ok (.invokevirtual 96, 3) := by decide +kernel
theorem d_Ob_datagram_8 : decode cb_Ob_datagram 8 = .ok (.ifCond .ne 5, 3) := by decide +kernel
theorem d_Ob_datagram_11 : decode cb_Ob_datagram 11 = .ok (.iconst (-1), 1) := by decide +kernel
theorem d_Ob_datagram_12 : decode cb_Ob_datagram 12 = .ok (.ireturn, 1) := by decide +kernel
theorem d_Ob_datagram_13 : decode cb_Ob_datagram 13 = .ok (.iload_n 2, 1) := by decide +kernel
theorem d_Ob_datagram_14 : decode cb_Ob_datagram 14 = .ok (.iconst (-1), 1) := by decide +kernel
theorem d_Ob_datagram_15 : decode cb_Ob_datagram 15 = .ok (.if_icmp .ne 16, 3) := by decide +kernel
theorem d_Ob_datagram_18 : decode cb_Ob_datagram 18 = .ok (.aload_n 0, 1) := by decide +kernel
theorem d_Ob_datagram_19 : decode cb_Ob_datagram 19 = .ok (.getfield 10, 3) := by decide +kernel
theorem d_Ob_datagram_22 : decode cb_Ob_datagram 22 = .ok (.getfield 104, 3) := by decide +kernel
theorem d_Ob_datagram_25 : decode cb_Ob_datagram 25 = .ok (.iload_n 1, 1) := by decide +kernel
theorem d_Ob_datagram_26 : decode cb_Ob_datagram 26 = .ok (.aaload, 1) := by decide +kernel
theorem d_Ob_datagram_27 : decode cb_Ob_datagram 27 = .ok (.getfield 140, 3) := by decide +kernel
theorem d_Ob_datagram_30 : decode cb_Ob_datagram 30 = .ok (.ireturn, 1) := by decide +kernel
theorem d_Ob_datagram_31 : decode cb_Ob_datagram 31 = .ok (.iload_n 2, 1) := by decide +kernel
theorem d_Ob_datagram_32 : decode cb_Ob_datagram 32 = .ok (.bipush (-2), 2) := by decide +kernel
theorem d_Ob_datagram_34 : decode cb_Ob_datagram 34 = .ok (.if_icmp .ne 13, 3) := by decide +kernel
theorem d_Ob_datagram_37 : decode cb_Ob_datagram 37 = .ok (.aload_n 0, 1) := by decide +kernel
theorem d_Ob_datagram_38 : decode cb_Ob_datagram 38 = .ok (.getfield 10, 3) := by decide +kernel
theorem d_Ob_datagram_41 : decode cb_Ob_datagram 41 = .ok (.getfield 100, 3) := by decide +kernel
theorem d_Ob_datagram_44 : decode cb_Ob_datagram 44 = .ok (.iload_n 1, 1) := by decide +kernel
theorem d_Ob_datagram_45 : decode cb_Ob_datagram 45 = .ok (.iaload, 1) := by decide +kernel
theorem d_Ob_datagram_46 : decode cb_Ob_datagram 46 = .ok (.ireturn, 1) := by decide +kernel
theorem d_Ob_datagram_47 : decode cb_Ob_datagram 47 = .ok (.aload_n 0, 1) := by decide +kernel
theorem d_Ob_datagram_48 : decode cb_Ob_datagram 48 = .ok (.getfield 10, 3) := by decide +kernel
theorem d_Ob_datagram_51 : decode cb_Ob_datagram 51 = .ok (.getfield 104, 3) := by decide +kernel
theorem d_Ob_datagram_54 : decode cb_Ob_datagram 54 = .ok (.iload_n 1, 1) := by decide +kernel
theorem d_Ob_datagram_55 : decode cb_Ob_datagram 55 = .ok (.aaload, 1) := by decide +kernel
theorem d_Ob_datagram_56 : decode cb_Ob_datagram 56 = .ok (.iload_n 2, 1) := by decide +kernel
theorem d_Ob_datagram_57 : decode cb_Ob_datagram 57 = .ok (.invokevirtual 143, 3) := by decide +kernel
theorem d_Ob_datagram_60 : decode cb_Ob_datagram 60 = .ok (.ireturn, 1) := by decide +kernel
theorem d_Sl_tellOf_0 : decode cb_Sl_tellOf 0 = .ok (.aload_n 0, 1) := by decide +kernel
theorem d_Sl_tellOf_1 : decode cb_Sl_tellOf 1 = .ok (.getfield 34, 3) := by decide +kernel
theorem d_Sl_tellOf_4 : decode cb_Sl_tellOf 4 = .ok (.ifCond .ne 5, 3) := by decide +kernel
theorem d_Sl_tellOf_7 : decode cb_Sl_tellOf 7 = .ok (.iconst 0, 1) := by decide +kernel
theorem d_Sl_tellOf_8 : decode cb_Sl_tellOf 8 = .ok (.ireturn, 1) := by decide +kernel
theorem d_Sl_tellOf_9 : decode cb_Sl_tellOf 9 = .ok (.iload_n 1, 1) := by decide +kernel
theorem d_Sl_tellOf_10 : decode cb_Sl_tellOf 10 = .ok (.tableswitch 79 0 5 #[38, 43, 48, 53, 61, 74], 38) := by decide +kernel
theorem d_Sl_tellOf_48 : decode cb_Sl_tellOf 48 = .ok (.aload_n 0, 1) := by decide +kernel
theorem d_Sl_tellOf_49 : decode cb_Sl_tellOf 49 = .ok (.getfield 34, 3) := by decide +kernel
theorem d_Sl_tellOf_52 : decode cb_Sl_tellOf 52 = .ok (.ireturn, 1) := by decide +kernel
theorem d_Sl_tellOf_53 : decode cb_Sl_tellOf 53 = .ok (.aload_n 0, 1) := by decide +kernel
theorem d_Sl_tellOf_54 : decode cb_Sl_tellOf 54 = .ok (.getfield 37, 3) := by decide +kernel
theorem d_Sl_tellOf_57 : decode cb_Sl_tellOf 57 = .ok (.ireturn, 1) := by decide +kernel
theorem d_Sl_tellOf_58 : decode cb_Sl_tellOf 58 = .ok (.aload_n 0, 1) := by decide +kernel
theorem d_Sl_tellOf_59 : decode cb_Sl_tellOf 59 = .ok (.getfield 46, 3) := by decide +kernel
theorem d_Sl_tellOf_62 : decode cb_Sl_tellOf 62 = .ok (.ireturn, 1) := by decide +kernel
theorem d_Sl_tellOf_63 : decode cb_Sl_tellOf 63 = .ok (.aload_n 0, 1) := by decide +kernel
theorem d_Sl_tellOf_64 : decode cb_Sl_tellOf 64 = .ok (.getfield 14, 3) := by decide +kernel
theorem d_Sl_tellOf_67 : decode cb_Sl_tellOf 67 = .ok (.getfield 81, 3) := by decide +kernel
theorem d_Sl_tellOf_70 : decode cb_Sl_tellOf 70 = .ok (.ireturn, 1) := by decide +kernel
theorem d_Sl_tellOf_71 : decode cb_Sl_tellOf 71 = .ok (.aload_n 0, 1) := by decide +kernel
theorem d_Sl_tellOf_72 : decode cb_Sl_tellOf 72 = .ok (.getfield 56, 3) := by decide +kernel
theorem d_Sl_tellOf_75 : decode cb_Sl_tellOf 75 = .ok (.ifCond .eq 7, 3) := by decide +kernel
theorem d_Sl_tellOf_78 : decode cb_Sl_tellOf 78 = .ok (.iconst 1, 1) := by decide +kernel
theorem d_Sl_tellOf_79 : decode cb_Sl_tellOf 79 = .ok (.goto 4, 3) := by decide +kernel
theorem d_Sl_tellOf_82 : decode cb_Sl_tellOf 82 = .ok (.iconst 0, 1) := by decide +kernel
theorem d_Sl_tellOf_83 : decode cb_Sl_tellOf 83 = .ok (.ireturn, 1) := by decide +kernel
theorem d_Sl_tellOf_84 : decode cb_Sl_tellOf 84 = .ok (.aload_n 0, 1) := by decide +kernel
theorem d_Sl_tellOf_85 : decode cb_Sl_tellOf 85 = .ok (.getfield 59, 3) := by decide +kernel
theorem d_Sl_tellOf_88 : decode cb_Sl_tellOf 88 = .ok (.ireturn, 1) := by decide +kernel
theorem d_Sl_tellOf_89 : decode cb_Sl_tellOf 89 = .ok (.aload_n 0, 1) := by decide +kernel
theorem d_Sl_tellOf_90 : decode cb_Sl_tellOf 90 = .ok (.getfield 34, 3) := by decide +kernel
theorem d_Sl_tellOf_93 : decode cb_Sl_tellOf 93 = .ok (.iconst 4, 1) := by decide +kernel
theorem d_Sl_tellOf_94 : decode cb_Sl_tellOf 94 = .ok (.if_icmp .ne 10, 3) := by decide +kernel
theorem d_Sl_tellOf_97 : decode cb_Sl_tellOf 97 = .ok (.aload_n 0, 1) := by decide +kernel
theorem d_Sl_tellOf_98 : decode cb_Sl_tellOf 98 = .ok (.getfield 62, 3) := by decide +kernel
theorem d_Sl_tellOf_101 : decode cb_Sl_tellOf 101 = .ok (.goto 4, 3) := by decide +kernel
theorem d_Sl_tellOf_104 : decode cb_Sl_tellOf 104 = .ok (.iconst 0, 1) := by decide +kernel
theorem d_Sl_tellOf_105 : decode cb_Sl_tellOf 105 = .ok (.ireturn, 1) := by decide +kernel
theorem d_Ob_slot_0 : decode cb_Ob_slot 0 = .ok (.iload_n 1, 1) := by decide +kernel
theorem d_Ob_slot_1 : decode cb_Ob_slot 1 = .ok (.iconst 1, 1) := by decide +kernel
theorem d_Ob_slot_2 : decode cb_Ob_slot 2 = .ok (.invokestatic 67, 3) := by decide +kernel
theorem d_Ob_slot_5 : decode cb_Ob_slot 5 = .ok (.ifCond .eq 12, 3) := by decide +kernel
theorem d_Ob_slot_8 : decode cb_Ob_slot 8 = .ok (.iload_n 2, 1) := by decide +kernel
theorem d_Ob_slot_9 : decode cb_Ob_slot 9 = .ok (.bipush 6, 2) := by decide +kernel
theorem d_Ob_slot_11 : decode cb_Ob_slot 11 = .ok (.invokestatic 67, 3) := by decide +kernel
theorem d_Ob_slot_14 : decode cb_Ob_slot 14 = .ok (.ifCond .ne 5, 3) := by decide +kernel
theorem d_Ob_slot_17 : decode cb_Ob_slot 17 = .ok (.iconst (-1), 1) := by decide +kernel
theorem d_Ob_slot_18 : decode cb_Ob_slot 18 = .ok (.ireturn, 1) := by decide +kernel
theorem d_Ob_slot_19 : decode cb_Ob_slot 19 = .ok (.aload_n 0, 1) := by decide +kernel
theorem d_Ob_slot_20 : decode cb_Ob_slot 20 = .ok (.getfield 21, 3) := by decide +kernel
theorem d_Ob_slot_23 : decode cb_Ob_slot 23 = .ok (.getfield 47, 3) := by decide +kernel
theorem d_Ob_slot_26 : decode cb_Ob_slot 26 = .ok (.iload_n 1, 1) := by decide +kernel
theorem d_Ob_slot_27 : decode cb_Ob_slot 27 = .ok (.aaload, 1) := by decide +kernel
theorem d_Ob_slot_28 : decode cb_Ob_slot 28 = .ok (.iload_n 2, 1) := by decide +kernel
theorem d_Ob_slot_29 : decode cb_Ob_slot 29 = .ok (.invokevirtual 147, 3) := by decide +kernel
theorem d_Ob_slot_32 : decode cb_Ob_slot 32 = .ok (.ireturn, 1) := by decide +kernel

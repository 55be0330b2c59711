theorem d_Mo_waiting_0 : decode cb_Mo_waiting 0 = .ok (.aload_n 0, 1) := by decide +kernel
theorem d_Mo_waiting_1 : decode cb_Mo_waiting 1 = .ok (.getfield 156, 3) := by decide +kernel
theorem d_Mo_waiting_4 : decode cb_Mo_waiting 4 = .ok (.ireturn, 1) := by decide +kernel
theorem d_Mo_datagram_0 : decode cb_Mo_datagram 0 = .ok (.aload_n 0, 1) := by decide +kernel
theorem d_Mo_datagram_1 : decode cb_Mo_datagram 1 = .ok (.iload_n 1, 1) := by decide +kernel
theorem d_Mo_datagram_2 : decode cb_Mo_datagram 2 = .ok (.invokevirtual 310, 3) := by decide +kernel
theorem d_Mo_datagram_5 : decode cb_Mo_datagram 5 = .ok (.ifCond .eq 19, 3) := by decide +kernel
theorem d_Mo_datagram_8 : decode cb_Mo_datagram 8 = .ok (.iload_n 2, 1) := by decide +kernel
theorem d_Mo_datagram_9 : decode cb_Mo_datagram 9 = .ok (.bipush (-2), 2) := by decide +kernel
theorem d_Mo_datagram_11 : decode cb_Mo_datagram 11 = .ok (.if_icmp .lt 13, 3) := by decide +kernel
theorem d_Mo_datagram_14 : decode cb_Mo_datagram 14 = .ok (.iload_n 2, 1) := by decide +kernel
theorem d_Mo_datagram_15 : decode cb_Mo_datagram 15 = .ok (.aload_n 0, 1) := by decide +kernel
theorem d_Mo_datagram_16 : decode cb_Mo_datagram 16 = .ok (.getfield 13, 3) := by decide +kernel
theorem d_Mo_datagram_19 : decode cb_Mo_datagram 19 = .ok (.iload_n 1, 1) := by decide +kernel
theorem d_Mo_datagram_20 : decode cb_Mo_datagram 20 = .ok (.iaload, 1) := by decide +kernel
theorem d_Mo_datagram_21 : decode cb_Mo_datagram 21 = .ok (.if_icmp .lt 5, 3) := by decide +kernel
theorem d_Mo_datagram_24 : decode cb_Mo_datagram 24 = .ok (.iconst (-1), 1) := by decide +kernel
theorem d_Mo_datagram_25 : decode cb_Mo_datagram 25 = .ok (.ireturn, 1) := by decide +kernel
theorem d_Mo_datagram_26 : decode cb_Mo_datagram 26 = .ok (.iload_n 2, 1) := by decide +kernel
theorem d_Mo_datagram_27 : decode cb_Mo_datagram 27 = .ok (.iconst (-1), 1) := by decide +kernel
theorem d_Mo_datagram_28 : decode cb_Mo_datagram 28 = .ok (.if_icmp .ne 12, 3) := by decide +kernel
theorem d_Mo_datagram_31 : decode cb_Mo_datagram 31 = .ok (.aload_n 0, 1) := by decide +kernel
theorem d_Mo_datagram_32 : decode cb_Mo_datagram 32 = .ok (.getfield 13, 3) := by decide +kernel
theorem d_Mo_datagram_35 : decode cb_Mo_datagram 35 = .ok (.iload_n 1, 1) := by decide +kernel
theorem d_Mo_datagram_36 : decode cb_Mo_datagram 36 = .ok (.iaload, 1) := by decide +kernel
theorem d_Mo_datagram_37 : decode cb_Mo_datagram 37 = .ok (.goto 29, 3) := by decide +kernel
theorem d_Mo_datagram_40 : decode cb_Mo_datagram 40 = .ok (.iload_n 2, 1) := by decide +kernel
theorem d_Mo_datagram_41 : decode cb_Mo_datagram 41 = .ok (.bipush (-2), 2) := by decide +kernel
theorem d_Mo_datagram_43 : decode cb_Mo_datagram 43 = .ok (.if_icmp .ne 12, 3) := by decide +kernel
theorem d_Mo_datagram_46 : decode cb_Mo_datagram 46 = .ok (.aload_n 0, 1) := by decide +kernel
theorem d_Mo_datagram_47 : decode cb_Mo_datagram 47 = .ok (.getfield 16, 3) := by decide +kernel
theorem d_Mo_datagram_50 : decode cb_Mo_datagram 50 = .ok (.iload_n 1, 1) := by decide +kernel
theorem d_Mo_datagram_51 : decode cb_Mo_datagram 51 = .ok (.iaload, 1) := by decide +kernel
theorem d_Mo_datagram_52 : decode cb_Mo_datagram 52 = .ok (.goto 14, 3) := by decide +kernel
theorem d_Mo_datagram_55 : decode cb_Mo_datagram 55 = .ok (.aload_n 0, 1) := by decide +kernel
theorem d_Mo_datagram_56 : decode cb_Mo_datagram 56 = .ok (.getfield 7, 3) := by decide +kernel
theorem d_Mo_datagram_59 : decode cb_Mo_datagram 59 = .ok (.bipush 64, 2) := by decide +kernel
theorem d_Mo_datagram_61 : decode cb_Mo_datagram 61 = .ok (.iload_n 1, 1) := by decide +kernel
theorem d_Mo_datagram_62 : decode cb_Mo_datagram 62 = .ok (.imul, 1) := by decide +kernel
theorem d_Mo_datagram_63 : decode cb_Mo_datagram 63 = .ok (.iload_n 2, 1) := by decide +kernel
theorem d_Mo_datagram_64 : decode cb_Mo_datagram 64 = .ok (.iadd, 1) := by decide +kernel
theorem d_Mo_datagram_65 : decode cb_Mo_datagram 65 = .ok (.iaload, 1) := by decide +kernel
theorem d_Mo_datagram_66 : decode cb_Mo_datagram 66 = .ok (.ireturn, 1) := by decide +kernel
theorem d_Mo_slot_0 : decode cb_Mo_slot 0 = .ok (.iload_n 1, 1) := by decide +kernel
theorem d_Mo_slot_1 : decode cb_Mo_slot 1 = .ok (.invokestatic 297, 3) := by decide +kernel
theorem d_Mo_slot_4 : decode cb_Mo_slot 4 = .ok (.ifCond .eq 13, 3) := by decide +kernel
theorem d_Mo_slot_7 : decode cb_Mo_slot 7 = .ok (.iload_n 2, 1) := by decide +kernel
theorem d_Mo_slot_8 : decode cb_Mo_slot 8 = .ok (.ifCond .lt 9, 3) := by decide +kernel
theorem d_Mo_slot_11 : decode cb_Mo_slot 11 = .ok (.iload_n 2, 1) := by decide +kernel
theorem d_Mo_slot_12 : decode cb_Mo_slot 12 = .ok (.bipush 6, 2) := by decide +kernel
theorem d_Mo_slot_14 : decode cb_Mo_slot 14 = .ok (.if_icmp .le 5, 3) := by decide +kernel
theorem d_Mo_slot_17 : decode cb_Mo_slot 17 = .ok (.iconst (-1), 1) := by decide +kernel
theorem d_Mo_slot_18 : decode cb_Mo_slot 18 = .ok (.ireturn, 1) := by decide +kernel
theorem d_Mo_slot_19 : decode cb_Mo_slot 19 = .ok (.aload_n 0, 1) := by decide +kernel
theorem d_Mo_slot_20 : decode cb_Mo_slot 20 = .ok (.getfield 48, 3) := by decide +kernel
theorem d_Mo_slot_23 : decode cb_Mo_slot 23 = .ok (.iload_n 1, 1) := by decide +kernel
theorem d_Mo_slot_24 : decode cb_Mo_slot 24 = .ok (.iaload, 1) := by decide +kernel
theorem d_Mo_slot_25 : decode cb_Mo_slot 25 = .ok (.ifCond .ne 5, 3) := by decide +kernel
theorem d_Mo_slot_28 : decode cb_Mo_slot 28 = .ok (.iconst 0, 1) := by decide +kernel
theorem d_Mo_slot_29 : decode cb_Mo_slot 29 = .ok (.ireturn, 1) := by decide +kernel
theorem d_Mo_slot_30 : decode cb_Mo_slot 30 = .ok (.iload_n 2, 1) := by decide +kernel
theorem d_Mo_slot_31 : decode cb_Mo_slot 31 = .ok (.tableswitch 100 0 5 #[37, 44, 51, 58, 65, 80], 37) := by decide +kernel
theorem d_Mo_slot_68 : decode cb_Mo_slot 68 = .ok (.aload_n 0, 1) := by decide +kernel
theorem d_Mo_slot_69 : decode cb_Mo_slot 69 = .ok (.getfield 48, 3) := by decide +kernel
theorem d_Mo_slot_72 : decode cb_Mo_slot 72 = .ok (.iload_n 1, 1) := by decide +kernel
theorem d_Mo_slot_73 : decode cb_Mo_slot 73 = .ok (.iaload, 1) := by decide +kernel
theorem d_Mo_slot_74 : decode cb_Mo_slot 74 = .ok (.ireturn, 1) := by decide +kernel
theorem d_Mo_slot_75 : decode cb_Mo_slot 75 = .ok (.aload_n 0, 1) := by decide +kernel
theorem d_Mo_slot_76 : decode cb_Mo_slot 76 = .ok (.getfield 54, 3) := by decide +kernel
theorem d_Mo_slot_79 : decode cb_Mo_slot 79 = .ok (.iload_n 1, 1) := by decide +kernel
theorem d_Mo_slot_80 : decode cb_Mo_slot 80 = .ok (.iaload, 1) := by decide +kernel
theorem d_Mo_slot_81 : decode cb_Mo_slot 81 = .ok (.ireturn, 1) := by decide +kernel
theorem d_Mo_slot_82 : decode cb_Mo_slot 82 = .ok (.aload_n 0, 1) := by decide +kernel
theorem d_Mo_slot_83 : decode cb_Mo_slot 83 = .ok (.getfield 63, 3) := by decide +kernel
theorem d_Mo_slot_86 : decode cb_Mo_slot 86 = .ok (.iload_n 1, 1) := by decide +kernel
theorem d_Mo_slot_87 : decode cb_Mo_slot 87 = .ok (.iaload, 1) := by decide +kernel
theorem d_Mo_slot_88 : decode cb_Mo_slot 88 = .ok (.ireturn, 1) := by decide +kernel
theorem d_Mo_slot_89 : decode cb_Mo_slot 89 = .ok (.aload_n 0, 1) := by decide +kernel
theorem d_Mo_slot_90 : decode cb_Mo_slot 90 = .ok (.getfield 87, 3) := by decide +kernel
theorem d_Mo_slot_93 : decode cb_Mo_slot 93 = .ok (.iload_n 1, 1) := by decide +kernel
theorem d_Mo_slot_94 : decode cb_Mo_slot 94 = .ok (.iaload, 1) := by decide +kernel
theorem d_Mo_slot_95 : decode cb_Mo_slot 95 = .ok (.ireturn, 1) := by decide +kernel
theorem d_Mo_slot_96 : decode cb_Mo_slot 96 = .ok (.aload_n 0, 1) := by decide +kernel
theorem d_Mo_slot_97 : decode cb_Mo_slot 97 = .ok (.getfield 72, 3) := by decide +kernel
theorem d_Mo_slot_100 : decode cb_Mo_slot 100 = .ok (.iload_n 1, 1) := by decide +kernel
theorem d_Mo_slot_101 : decode cb_Mo_slot 101 = .ok (.baload, 1) := by decide +kernel
theorem d_Mo_slot_102 : decode cb_Mo_slot 102 = .ok (.ifCond .eq 7, 3) := by decide +kernel
theorem d_Mo_slot_105 : decode cb_Mo_slot 105 = .ok (.iconst 1, 1) := by decide +kernel
theorem d_Mo_slot_106 : decode cb_Mo_slot 106 = .ok (.goto 4, 3) := by decide +kernel
theorem d_Mo_slot_109 : decode cb_Mo_slot 109 = .ok (.iconst 0, 1) := by decide +kernel
theorem d_Mo_slot_110 : decode cb_Mo_slot 110 = .ok (.ireturn, 1) := by decide +kernel
theorem d_Mo_slot_111 : decode cb_Mo_slot 111 = .ok (.aload_n 0, 1) := by decide +kernel
theorem d_Mo_slot_112 : decode cb_Mo_slot 112 = .ok (.getfield 72, 3) := by decide +kernel
theorem d_Mo_slot_115 : decode cb_Mo_slot 115 = .ok (.iload_n 1, 1) := by decide +kernel
theorem d_Mo_slot_116 : decode cb_Mo_slot 116 = .ok (.baload, 1) := by decide +kernel
theorem d_Mo_slot_117 : decode cb_Mo_slot 117 = .ok (.ifCond .eq 12, 3) := by decide +kernel
theorem d_Mo_slot_120 : decode cb_Mo_slot 120 = .ok (.aload_n 0, 1) := by decide +kernel
theorem d_Mo_slot_121 : decode cb_Mo_slot 121 = .ok (.getfield 75, 3) := by decide +kernel
theorem d_Mo_slot_124 : decode cb_Mo_slot 124 = .ok (.iload_n 1, 1) := by decide +kernel
theorem d_Mo_slot_125 : decode cb_Mo_slot 125 = .ok (.iaload, 1) := by decide +kernel
theorem d_Mo_slot_126 : decode cb_Mo_slot 126 = .ok (.goto 4, 3) := by decide +kernel
theorem d_Mo_slot_129 : decode cb_Mo_slot 129 = .ok (.iconst 0, 1) := by decide +kernel
theorem d_Mo_slot_130 : decode cb_Mo_slot 130 = .ok (.ireturn, 1) := by decide +kernel
theorem d_Mo_slot_131 : decode cb_Mo_slot 131 = .ok (.aload_n 0, 1) := by decide +kernel
theorem d_Mo_slot_132 : decode cb_Mo_slot 132 = .ok (.getfield 48, 3) := by decide +kernel
theorem d_Mo_slot_135 : decode cb_Mo_slot 135 = .ok (.iload_n 1, 1) := by decide +kernel
theorem d_Mo_slot_136 : decode cb_Mo_slot 136 = .ok (.iaload, 1) := by decide +kernel
theorem d_Mo_slot_137 : decode cb_Mo_slot 137 = .ok (.iconst 4, 1) := by decide +kernel
theorem d_Mo_slot_138 : decode cb_Mo_slot 138 = .ok (.if_icmp .ne 12, 3) := by decide +kernel
theorem d_Mo_slot_141 : decode cb_Mo_slot 141 = .ok (.aload_n 0, 1) := by decide +kernel
theorem d_Mo_slot_142 : decode cb_Mo_slot 142 = .ok (.getfield 78, 3) := by decide +kernel
theorem d_Mo_slot_145 : decode cb_Mo_slot 145 = .ok (.iload_n 1, 1) := by decide +kernel
theorem d_Mo_slot_146 : decode cb_Mo_slot 146 = .ok (.iaload, 1) := by decide +kernel
theorem d_Mo_slot_147 : decode cb_Mo_slot 147 = .ok (.goto 4, 3) := by decide +kernel
theorem d_Mo_slot_150 : decode cb_Mo_slot 150 = .ok (.iconst 0, 1) := by decide +kernel
theorem d_Mo_slot_151 : decode cb_Mo_slot 151 = .ok (.ireturn, 1) := by decide +kernel
theorem d_Mo_body_0 : decode cb_Mo_body 0 = .ok (.iload_n 1, 1) := by decide +kernel
theorem d_Mo_body_1 : decode cb_Mo_body 1 = .ok (.invokestatic 297, 3) := by decide +kernel
theorem d_Mo_body_4 : decode cb_Mo_body 4 = .ok (.ifCond .eq 26, 3) := by decide +kernel
theorem d_Mo_body_7 : decode cb_Mo_body 7 = .ok (.aload_n 0, 1) := by decide +kernel
theorem d_Mo_body_8 : decode cb_Mo_body 8 = .ok (.getfield 48, 3) := by decide +kernel
theorem d_Mo_body_11 : decode cb_Mo_body 11 = .ok (.iload_n 1, 1) := by decide +kernel
theorem d_Mo_body_12 : decode cb_Mo_body 12 = .ok (.iaload, 1) := by decide +kernel
theorem d_Mo_body_13 : decode cb_Mo_body 13 = .ok (.ifCond .eq 17, 3) := by decide +kernel
theorem d_Mo_body_16 : decode cb_Mo_body 16 = .ok (.iload_n 2, 1) := by decide +kernel
theorem d_Mo_body_17 : decode cb_Mo_body 17 = .ok (.ifCond .lt 13, 3) := by decide +kernel
theorem d_Mo_body_20 : decode cb_Mo_body 20 = .ok (.iload_n 2, 1) := by decide +kernel
theorem d_Mo_body_21 : decode cb_Mo_body 21 = .ok (.aload_n 0, 1) := by decide +kernel
theorem d_Mo_body_22 : decode cb_Mo_body 22 = .ok (.getfield 87, 3) := by decide +kernel
theorem d_Mo_body_25 : decode cb_Mo_body 25 = .ok (.iload_n 1, 1) := by decide +kernel
theorem d_Mo_body_26 : decode cb_Mo_body 26 = .ok (.iaload, 1) := by decide +kernel
theorem d_Mo_body_27 : decode cb_Mo_body 27 = .ok (.if_icmp .lt 5, 3) := by decide +kernel
theorem d_Mo_body_30 : decode cb_Mo_body 30 = .ok (.iconst (-1), 1) := by decide +kernel
theorem d_Mo_body_31 : decode cb_Mo_body 31 = .ok (.ireturn, 1) := by decide +kernel
theorem d_Mo_body_32 : decode cb_Mo_body 32 = .ok (.aload_n 0, 1) := by decide +kernel
theorem d_Mo_body_33 : decode cb_Mo_body 33 = .ok (.getfield 84, 3) := by decide +kernel
theorem d_Mo_body_36 : decode cb_Mo_body 36 = .ok (.bipush 80, 2) := by decide +kernel
theorem d_Mo_body_38 : decode cb_Mo_body 38 = .ok (.iload_n 1, 1) := by decide +kernel
theorem d_Mo_body_39 : decode cb_Mo_body 39 = .ok (.imul, 1) := by decide +kernel
theorem d_Mo_body_40 : decode cb_Mo_body 40 = .ok (.iload_n 2, 1) := by decide +kernel
theorem d_Mo_body_41 : decode cb_Mo_body 41 = .ok (.iadd, 1) := by decide +kernel
theorem d_Mo_body_42 : decode cb_Mo_body 42 = .ok (.iaload, 1) := by decide +kernel
theorem d_Mo_body_43 : decode cb_Mo_body 43 = .ok (.ireturn, 1) := by decide +kernel
theorem d_Mo_content_0 : decode cb_Mo_content 0 = .ok (.iload_n 1, 1) := by decide +kernel
theorem d_Mo_content_1 : decode cb_Mo_content 1 = .ok (.ifCond .lt 23, 3) := by decide +kernel
theorem d_Mo_content_4 : decode cb_Mo_content 4 = .ok (.iload_n 1, 1) := by decide +kernel
theorem d_Mo_content_5 : decode cb_Mo_content 5 = .ok (.iconst 3, 1) := by decide +kernel
theorem d_Mo_content_6 : decode cb_Mo_content 6 = .ok (.if_icmp .gt 18, 3) := by decide +kernel
theorem d_Mo_content_9 : decode cb_Mo_content 9 = .ok (.iload_n 2, 1) := by decide +kernel
theorem d_Mo_content_10 : decode cb_Mo_content 10 = .ok (.iconst (-1), 1) := by decide +kernel
theorem d_Mo_content_11 : decode cb_Mo_content 11 = .ok (.if_icmp .lt 13, 3) := by decide +kernel
theorem d_Mo_content_14 : decode cb_Mo_content 14 = .ok (.iload_n 2, 1) := by decide +kernel
theorem d_Mo_content_15 : decode cb_Mo_content 15 = .ok (.aload_n 0, 1) := by decide +kernel
theorem d_Mo_content_16 : decode cb_Mo_content 16 = .ok (.getfield 93, 3) := by decide +kernel
theorem d_Mo_content_19 : decode cb_Mo_content 19 = .ok (.iload_n 1, 1) := by decide +kernel
theorem d_Mo_content_20 : decode cb_Mo_content 20 = .ok (.iaload, 1) := by decide +kernel
theorem d_Mo_content_21 : decode cb_Mo_content 21 = .ok (.if_icmp .lt 5, 3) := by decide +kernel
theorem d_Mo_content_24 : decode cb_Mo_content 24 = .ok (.iconst (-1), 1) := by decide +kernel
theorem d_Mo_content_25 : decode cb_Mo_content 25 = .ok (.ireturn, 1) := by decide +kernel
theorem d_Mo_content_26 : decode cb_Mo_content 26 = .ok (.iload_n 2, 1) := by decide +kernel
theorem d_Mo_content_27 : decode cb_Mo_content 27 = .ok (.iconst (-1), 1) := by decide +kernel
theorem d_Mo_content_28 : decode cb_Mo_content 28 = .ok (.if_icmp .ne 12, 3) := by decide +kernel
theorem d_Mo_content_31 : decode cb_Mo_content 31 = .ok (.aload_n 0, 1) := by decide +kernel
theorem d_Mo_content_32 : decode cb_Mo_content 32 = .ok (.getfield 93, 3) := by decide +kernel
theorem d_Mo_content_35 : decode cb_Mo_content 35 = .ok (.iload_n 1, 1) := by decide +kernel
theorem d_Mo_content_36 : decode cb_Mo_content 36 = .ok (.iaload, 1) := by decide +kernel
theorem d_Mo_content_37 : decode cb_Mo_content 37 = .ok (.goto 14, 3) := by decide +kernel
theorem d_Mo_content_40 : decode cb_Mo_content 40 = .ok (.aload_n 0, 1) := by decide +kernel
theorem d_Mo_content_41 : decode cb_Mo_content 41 = .ok (.getfield 90, 3) := by decide +kernel
theorem d_Mo_content_44 : decode cb_Mo_content 44 = .ok (.bipush 64, 2) := by decide +kernel
theorem d_Mo_content_46 : decode cb_Mo_content 46 = .ok (.iload_n 1, 1) := by decide +kernel
theorem d_Mo_content_47 : decode cb_Mo_content 47 = .ok (.imul, 1) := by decide +kernel
theorem d_Mo_content_48 : decode cb_Mo_content 48 = .ok (.iload_n 2, 1) := by decide +kernel
theorem d_Mo_content_49 : decode cb_Mo_content 49 = .ok (.iadd, 1) := by decide +kernel
theorem d_Mo_content_50 : decode cb_Mo_content 50 = .ok (.iaload, 1) := by decide +kernel
theorem d_Mo_content_51 : decode cb_Mo_content 51 = .ok (.ireturn, 1) := by decide +kernel
theorem d_Mo_server_0 : decode cb_Mo_server 0 = .ok (.iload_n 1, 1) := by decide +kernel
theorem d_Mo_server_1 : decode cb_Mo_server 1 = .ok (.ifCond .ne 10, 3) := by decide +kernel
theorem d_Mo_server_4 : decode cb_Mo_server 4 = .ok (.aload_n 0, 1) := by decide +kernel
theorem d_Mo_server_5 : decode cb_Mo_server 5 = .ok (.getfield 278, 3) := by decide +kernel
theorem d_Mo_server_8 : decode cb_Mo_server 8 = .ok (.goto 63, 3) := by decide +kernel
theorem d_Mo_server_11 : decode cb_Mo_server 11 = .ok (.iload_n 1, 1) := by decide +kernel
theorem d_Mo_server_12 : decode cb_Mo_server 12 = .ok (.iconst 1, 1) := by decide +kernel
theorem d_Mo_server_13 : decode cb_Mo_server 13 = .ok (.if_icmp .ne 10, 3) := by decide +kernel
theorem d_Mo_server_16 : decode cb_Mo_server 16 = .ok (.aload_n 0, 1) := by decide +kernel
theorem d_Mo_server_17 : decode cb_Mo_server 17 = .ok (.getfield 242, 3) := by decide +kernel
theorem d_Mo_server_20 : decode cb_Mo_server 20 = .ok (.goto 51, 3) := by decide +kernel
theorem d_Mo_server_23 : decode cb_Mo_server 23 = .ok (.iload_n 1, 1) := by decide +kernel
theorem d_Mo_server_24 : decode cb_Mo_server 24 = .ok (.iconst 2, 1) := by decide +kernel
theorem d_Mo_server_25 : decode cb_Mo_server 25 = .ok (.if_icmp .ne 10, 3) := by decide +kernel
theorem d_Mo_server_28 : decode cb_Mo_server 28 = .ok (.aload_n 0, 1) := by decide +kernel
theorem d_Mo_server_29 : decode cb_Mo_server 29 = .ok (.getfield 245, 3) := by decide +kernel
theorem d_Mo_server_32 : decode cb_Mo_server 32 = .ok (.goto 39, 3) := by decide +kernel
theorem d_Mo_server_35 : decode cb_Mo_server 35 = .ok (.iload_n 1, 1) := by decide +kernel
theorem d_Mo_server_36 : decode cb_Mo_server 36 = .ok (.iconst 3, 1) := by decide +kernel
theorem d_Mo_server_37 : decode cb_Mo_server 37 = .ok (.if_icmp .ne 33, 3) := by decide +kernel
theorem d_Mo_server_40 : decode cb_Mo_server 40 = .ok (.aload_n 0, 1) := by decide +kernel
theorem d_Mo_server_41 : decode cb_Mo_server 41 = .ok (.getfield 99, 3) := by decide +kernel
theorem d_Mo_server_44 : decode cb_Mo_server 44 = .ok (.iconst 0, 1) := by decide +kernel
theorem d_Mo_server_45 : decode cb_Mo_server 45 = .ok (.iaload, 1) := by decide +kernel
theorem d_Mo_server_46 : decode cb_Mo_server 46 = .ok (.aload_n 0, 1) := by decide +kernel
theorem d_Mo_server_47 : decode cb_Mo_server 47 = .ok (.getfield 99, 3) := by decide +kernel
theorem d_Mo_server_50 : decode cb_Mo_server 50 = .ok (.iconst 1, 1) := by decide +kernel
theorem d_Mo_server_51 : decode cb_Mo_server 51 = .ok (.iaload, 1) := by decide +kernel
theorem d_Mo_server_52 : decode cb_Mo_server 52 = .ok (.iadd, 1) := by decide +kernel
theorem d_Mo_server_53 : decode cb_Mo_server 53 = .ok (.aload_n 0, 1) := by decide +kernel
theorem d_Mo_server_54 : decode cb_Mo_server 54 = .ok (.getfield 99, 3) := by decide +kernel
theorem d_Mo_server_57 : decode cb_Mo_server 57 = .ok (.iconst 2, 1) := by decide +kernel
theorem d_Mo_server_58 : decode cb_Mo_server 58 = .ok (.iaload, 1) := by decide +kernel
theorem d_Mo_server_59 : decode cb_Mo_server 59 = .ok (.iadd, 1) := by decide +kernel
theorem d_Mo_server_60 : decode cb_Mo_server 60 = .ok (.aload_n 0, 1) := by decide +kernel
theorem d_Mo_server_61 : decode cb_Mo_server 61 = .ok (.getfield 99, 3) := by decide +kernel
theorem d_Mo_server_64 : decode cb_Mo_server 64 = .ok (.iconst 3, 1) := by decide +kernel
theorem d_Mo_server_65 : decode cb_Mo_server 65 = .ok (.iaload, 1) := by decide +kernel
theorem d_Mo_server_66 : decode cb_Mo_server 66 = .ok (.iadd, 1) := by decide +kernel
theorem d_Mo_server_67 : decode cb_Mo_server 67 = .ok (.goto 4, 3) := by decide +kernel
theorem d_Mo_server_70 : decode cb_Mo_server 70 = .ok (.iconst (-1), 1) := by decide +kernel
theorem d_Mo_server_71 : decode cb_Mo_server 71 = .ok (.ireturn, 1) := by decide +kernel

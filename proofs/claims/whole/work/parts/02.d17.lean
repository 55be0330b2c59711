theorem d_Ob_body_0 : decode cb_Ob_body 0 = .ok (.iload_n 1, 1) := by decide +kernel
theorem d_Ob_body_1 : decode cb_Ob_body 1 = .ok (.iconst 1, 1) := by decide +kernel
theorem d_Ob_body_2 : decode cb_Ob_body 2 = .ok (.invokestatic 67, 3) := by decide +kernel
theorem d_Ob_body_5 : decode cb_Ob_body 5 = .ok (.ifCond .eq 18, 3) := by decide +kernel
theorem d_Ob_body_8 : decode cb_Ob_body 8 = .ok (.aload_n 0, 1) := by decide +kernel
theorem d_Ob_body_9 : decode cb_Ob_body 9 = .ok (.getfield 21, 3) := by decide +kernel
theorem d_Ob_body_12 : decode cb_Ob_body 12 = .ok (.getfield 47, 3) := by decide +kernel
theorem d_Ob_body_15 : decode cb_Ob_body 15 = .ok (.iload_n 1, 1) := by decide +kernel
theorem d_Ob_body_16 : decode cb_Ob_body 16 = .ok (.aaload, 1) := by decide +kernel
theorem d_Ob_body_17 : decode cb_Ob_body 17 = .ok (.getfield 51, 3) := by decide +kernel
theorem d_Ob_body_20 : decode cb_Ob_body 20 = .ok (.ifCond .ne 5, 3) := by decide +kernel
theorem d_Ob_body_23 : decode cb_Ob_body 23 = .ok (.iconst (-1), 1) := by decide +kernel
theorem d_Ob_body_24 : decode cb_Ob_body 24 = .ok (.ireturn, 1) := by decide +kernel
theorem d_Ob_body_25 : decode cb_Ob_body 25 = .ok (.aload_n 0, 1) := by decide +kernel
theorem d_Ob_body_26 : decode cb_Ob_body 26 = .ok (.getfield 21, 3) := by decide +kernel
theorem d_Ob_body_29 : decode cb_Ob_body 29 = .ok (.getfield 47, 3) := by decide +kernel
theorem d_Ob_body_32 : decode cb_Ob_body 32 = .ok (.iload_n 1, 1) := by decide +kernel
theorem d_Ob_body_33 : decode cb_Ob_body 33 = .ok (.aaload, 1) := by decide +kernel
theorem d_Ob_body_34 : decode cb_Ob_body 34 = .ok (.getfield 71, 3) := by decide +kernel
theorem d_Ob_body_37 : decode cb_Ob_body 37 = .ok (.iload_n 2, 1) := by decide +kernel
theorem d_Ob_body_38 : decode cb_Ob_body 38 = .ok (.invokevirtual 143, 3) := by decide +kernel
theorem d_Ob_body_41 : decode cb_Ob_body 41 = .ok (.ireturn, 1) := by decide +kernel
theorem d_Ob_content_0 : decode cb_Ob_content 0 = .ok (.iload_n 1, 1) := by decide +kernel
theorem d_Ob_content_1 : decode cb_Ob_content 1 = .ok (.iconst 3, 1) := by decide +kernel
theorem d_Ob_content_2 : decode cb_Ob_content 2 = .ok (.invokestatic 67, 3) := by decide +kernel
theorem d_Ob_content_5 : decode cb_Ob_content 5 = .ok (.ifCond .ne 5, 3) := by decide +kernel
theorem d_Ob_content_8 : decode cb_Ob_content 8 = .ok (.iconst (-1), 1) := by decide +kernel
theorem d_Ob_content_9 : decode cb_Ob_content 9 = .ok (.ireturn, 1) := by decide +kernel
theorem d_Ob_content_10 : decode cb_Ob_content 10 = .ok (.aload_n 0, 1) := by decide +kernel
theorem d_Ob_content_11 : decode cb_Ob_content 11 = .ok (.getfield 28, 3) := by decide +kernel
theorem d_Ob_content_14 : decode cb_Ob_content 14 = .ok (.getfield 84, 3) := by decide +kernel
theorem d_Ob_content_17 : decode cb_Ob_content 17 = .ok (.iload_n 1, 1) := by decide +kernel
theorem d_Ob_content_18 : decode cb_Ob_content 18 = .ok (.aaload, 1) := by decide +kernel
theorem d_Ob_content_19 : decode cb_Ob_content 19 = .ok (.astore_n 3, 1) := by decide +kernel
theorem d_Ob_content_20 : decode cb_Ob_content 20 = .ok (.iload_n 2, 1) := by decide +kernel
theorem d_Ob_content_21 : decode cb_Ob_content 21 = .ok (.iconst (-1), 1) := by decide +kernel
theorem d_Ob_content_22 : decode cb_Ob_content 22 = .ok (.if_icmp .ne 10, 3) := by decide +kernel
theorem d_Ob_content_25 : decode cb_Ob_content 25 = .ok (.aload_n 3, 1) := by decide +kernel
theorem d_Ob_content_26 : decode cb_Ob_content 26 = .ok (.getfield 140, 3) := by decide +kernel
theorem d_Ob_content_29 : decode cb_Ob_content 29 = .ok (.goto 8, 3) := by decide +kernel
theorem d_Ob_content_32 : decode cb_Ob_content 32 = .ok (.aload_n 3, 1) := by decide +kernel
theorem d_Ob_content_33 : decode cb_Ob_content 33 = .ok (.iload_n 2, 1) := by decide +kernel
theorem d_Ob_content_34 : decode cb_Ob_content 34 = .ok (.invokevirtual 143, 3) := by decide +kernel
theorem d_Ob_content_37 : decode cb_Ob_content 37 = .ok (.ireturn, 1) := by decide +kernel
theorem d_Se_lengthOfParts_0 : decode cb_Se_lengthOfParts 0 = .ok (.iconst 0, 1) := by decide +kernel
theorem d_Se_lengthOfParts_1 : decode cb_Se_lengthOfParts 1 = .ok (.istore_n 1, 1) := by decide +kernel
theorem d_Se_lengthOfParts_2 : decode cb_Se_lengthOfParts 2 = .ok (.iconst 0, 1) := by decide +kernel
theorem d_Se_lengthOfParts_3 : decode cb_Se_lengthOfParts 3 = .ok (.istore_n 2, 1) := by decide +kernel
theorem d_Se_lengthOfParts_4 : decode cb_Se_lengthOfParts 4 = .ok (.iload_n 2, 1) := by decide +kernel
theorem d_Se_lengthOfParts_5 : decode cb_Se_lengthOfParts 5 = .ok (.iconst 4, 1) := by decide +kernel
theorem d_Se_lengthOfParts_6 : decode cb_Se_lengthOfParts 6 = .ok (.if_icmp .ge 21, 3) := by decide +kernel
theorem d_Se_lengthOfParts_9 : decode cb_Se_lengthOfParts 9 = .ok (.iload_n 1, 1) := by decide +kernel
theorem d_Se_lengthOfParts_10 : decode cb_Se_lengthOfParts 10 = .ok (.aload_n 0, 1) := by decide +kernel
theorem d_Se_lengthOfParts_11 : decode cb_Se_lengthOfParts 11 = .ok (.getfield 17, 3) := by decide +kernel
theorem d_Se_lengthOfParts_14 : decode cb_Se_lengthOfParts 14 = .ok (.iload_n 2, 1) := by decide +kernel
theorem d_Se_lengthOfParts_15 : decode cb_Se_lengthOfParts 15 = .ok (.aaload, 1) := by decide +kernel
theorem d_Se_lengthOfParts_16 : decode cb_Se_lengthOfParts 16 = .ok (.getfield 52, 3) := by decide +kernel
theorem d_Se_lengthOfParts_19 : decode cb_Se_lengthOfParts 19 = .ok (.iadd, 1) := by decide +kernel
theorem d_Se_lengthOfParts_20 : decode cb_Se_lengthOfParts 20 = .ok (.istore_n 1, 1) := by decide +kernel
theorem d_Se_lengthOfParts_21 : decode cb_Se_lengthOfParts 21 = .ok (.iinc 2 1, 3) := by decide +kernel
theorem d_Se_lengthOfParts_24 : decode cb_Se_lengthOfParts 24 = .ok (.goto (-20), 3) := by decide +kernel
theorem d_Se_lengthOfParts_27 : decode cb_Se_lengthOfParts 27 = .ok (.iload_n 1, 1) := by decide +kernel
theorem d_Se_lengthOfParts_28 : decode cb_Se_lengthOfParts 28 = .ok (.ireturn, 1) := by decide +kernel
theorem d_Ob_server_0 : decode cb_Ob_server 0 = .ok (.iload_n 1, 1) := by decide +kernel
theorem d_Ob_server_1 : decode cb_Ob_server 1 = .ok (.tableswitch 63 0 3 #[31, 39, 47, 55], 31) := by decide +kernel
theorem d_Ob_server_32 : decode cb_Ob_server 32 = .ok (.aload_n 0, 1) := by decide +kernel
theorem d_Ob_server_33 : decode cb_Ob_server 33 = .ok (.getfield 28, 3) := by decide +kernel
theorem d_Ob_server_36 : decode cb_Ob_server 36 = .ok (.getfield 150, 3) := by decide +kernel
theorem d_Ob_server_39 : decode cb_Ob_server 39 = .ok (.ireturn, 1) := by decide +kernel
theorem d_Ob_server_40 : decode cb_Ob_server 40 = .ok (.aload_n 0, 1) := by decide +kernel
theorem d_Ob_server_41 : decode cb_Ob_server 41 = .ok (.getfield 28, 3) := by decide +kernel
theorem d_Ob_server_44 : decode cb_Ob_server 44 = .ok (.getfield 153, 3) := by decide +kernel
theorem d_Ob_server_47 : decode cb_Ob_server 47 = .ok (.ireturn, 1) := by decide +kernel
theorem d_Ob_server_48 : decode cb_Ob_server 48 = .ok (.aload_n 0, 1) := by decide +kernel
theorem d_Ob_server_49 : decode cb_Ob_server 49 = .ok (.getfield 28, 3) := by decide +kernel
theorem d_Ob_server_52 : decode cb_Ob_server 52 = .ok (.getfield 156, 3) := by decide +kernel
theorem d_Ob_server_55 : decode cb_Ob_server 55 = .ok (.ireturn, 1) := by decide +kernel
theorem d_Ob_server_56 : decode cb_Ob_server 56 = .ok (.aload_n 0, 1) := by decide +kernel
theorem d_Ob_server_57 : decode cb_Ob_server 57 = .ok (.getfield 28, 3) := by decide +kernel
theorem d_Ob_server_60 : decode cb_Ob_server 60 = .ok (.invokevirtual 159, 3) := by decide +kernel
theorem d_Ob_server_63 : decode cb_Ob_server 63 = .ok (.ireturn, 1) := by decide +kernel
theorem d_Ob_server_64 : decode cb_Ob_server 64 = .ok (.iconst (-1), 1) := by decide +kernel
theorem d_Ob_server_65 : decode cb_Ob_server 65 = .ok (.ireturn, 1) := by decide +kernel
theorem d_Mo_init_0 : decode cb_Mo_init 0 = .ok (.aload_n 0, 1) := by decide +kernel
theorem d_Mo_init_1 : decode cb_Mo_init 1 = .ok (.invokespecial 1, 3) := by decide +kernel
theorem d_Mo_init_4 : decode cb_Mo_init 4 = .ok (.aload_n 0, 1) := by decide +kernel
theorem d_Mo_init_5 : decode cb_Mo_init 5 = .ok (.sipush 1024, 3) := by decide +kernel
theorem d_Mo_init_8 : decode cb_Mo_init 8 = .ok (.newarray .int, 2) := by decide +kernel
theorem d_Mo_init_10 : decode cb_Mo_init 10 = .ok (.putfield 7, 3) := by decide +kernel
theorem d_Mo_init_13 : decode cb_Mo_init 13 = .ok (.aload_n 0, 1) := by decide +kernel
theorem d_Mo_init_14 : decode cb_Mo_init 14 = .ok (.bipush 16, 2) := by decide +kernel
theorem d_Mo_init_16 : decode cb_Mo_init 16 = .ok (.newarray .int, 2) := by decide +kernel
theorem d_Mo_init_18 : decode cb_Mo_init 18 = .ok (.putfield 13, 3) := by decide +kernel
theorem d_Mo_init_21 : decode cb_Mo_init 21 = .ok (.aload_n 0, 1) := by decide +kernel
theorem d_Mo_init_22 : decode cb_Mo_init 22 = .ok (.bipush 16, 2) := by decide +kernel
theorem d_Mo_init_24 : decode cb_Mo_init 24 = .ok (.newarray .int, 2) := by decide +kernel
theorem d_Mo_init_26 : decode cb_Mo_init 26 = .ok (.putfield 16, 3) := by decide +kernel
theorem d_Mo_init_29 : decode cb_Mo_init 29 = .ok (.aload_n 0, 1) := by decide +kernel
theorem d_Mo_init_30 : decode cb_Mo_init 30 = .ok (.iconst 1, 1) := by decide +kernel
theorem d_Mo_init_31 : decode cb_Mo_init 31 = .ok (.putfield 19, 3) := by decide +kernel
theorem d_Mo_init_34 : decode cb_Mo_init 34 = .ok (.aload_n 0, 1) := by decide +kernel
theorem d_Mo_init_35 : decode cb_Mo_init 35 = .ok (.iconst 1, 1) := by decide +kernel
theorem d_Mo_init_36 : decode cb_Mo_init 36 = .ok (.putfield 23, 3) := by decide +kernel
theorem d_Mo_init_39 : decode cb_Mo_init 39 = .ok (.aload_n 0, 1) := by decide +kernel
theorem d_Mo_init_40 : decode cb_Mo_init 40 = .ok (.iconst 4, 1) := by decide +kernel
theorem d_Mo_init_41 : decode cb_Mo_init 41 = .ok (.newarray .boolean, 2) := by decide +kernel
theorem d_Mo_init_43 : decode cb_Mo_init 43 = .ok (.putfield 26, 3) := by decide +kernel
theorem d_Mo_init_46 : decode cb_Mo_init 46 = .ok (.aload_n 0, 1) := by decide +kernel
theorem d_Mo_init_47 : decode cb_Mo_init 47 = .ok (.iconst 4, 1) := by decide +kernel
theorem d_Mo_init_48 : decode cb_Mo_init 48 = .ok (.newarray .int, 2) := by decide +kernel
theorem d_Mo_init_50 : decode cb_Mo_init 50 = .ok (.putfield 30, 3) := by decide +kernel
theorem d_Mo_init_53 : decode cb_Mo_init 53 = .ok (.aload_n 0, 1) := by decide +kernel
theorem d_Mo_init_54 : decode cb_Mo_init 54 = .ok (.iconst 4, 1) := by decide +kernel
theorem d_Mo_init_55 : decode cb_Mo_init 55 = .ok (.newarray .int, 2) := by decide +kernel
theorem d_Mo_init_57 : decode cb_Mo_init 57 = .ok (.putfield 33, 3) := by decide +kernel
theorem d_Mo_init_60 : decode cb_Mo_init 60 = .ok (.aload_n 0, 1) := by decide +kernel
theorem d_Mo_init_61 : decode cb_Mo_init 61 = .ok (.iconst 4, 1) := by decide +kernel
theorem d_Mo_init_62 : decode cb_Mo_init 62 = .ok (.newarray .int, 2) := by decide +kernel
theorem d_Mo_init_64 : decode cb_Mo_init 64 = .ok (.putfield 36, 3) := by decide +kernel
theorem d_Mo_init_67 : decode cb_Mo_init 67 = .ok (.aload_n 0, 1) := by decide +kernel
theorem d_Mo_init_68 : decode cb_Mo_init 68 = .ok (.iconst 4, 1) := by decide +kernel
theorem d_Mo_init_69 : decode cb_Mo_init 69 = .ok (.newarray .int, 2) := by decide +kernel
theorem d_Mo_init_71 : decode cb_Mo_init 71 = .ok (.putfield 39, 3) := by decide +kernel
theorem d_Mo_init_74 : decode cb_Mo_init 74 = .ok (.aload_n 0, 1) := by decide +kernel
theorem d_Mo_init_75 : decode cb_Mo_init 75 = .ok (.sipush 256, 3) := by decide +kernel
theorem d_Mo_init_78 : decode cb_Mo_init 78 = .ok (.newarray .int, 2) := by decide +kernel
theorem d_Mo_init_80 : decode cb_Mo_init 80 = .ok (.putfield 42, 3) := by decide +kernel
theorem d_Mo_init_83 : decode cb_Mo_init 83 = .ok (.aload_n 0, 1) := by decide +kernel
theorem d_Mo_init_84 : decode cb_Mo_init 84 = .ok (.iconst 4, 1) := by decide +kernel
theorem d_Mo_init_85 : decode cb_Mo_init 85 = .ok (.newarray .int, 2) := by decide +kernel
theorem d_Mo_init_87 : decode cb_Mo_init 87 = .ok (.putfield 45, 3) := by decide +kernel
theorem d_Mo_init_90 : decode cb_Mo_init 90 = .ok (.aload_n 0, 1) := by decide +kernel
theorem d_Mo_init_91 : decode cb_Mo_init 91 = .ok (.iconst 2, 1) := by decide +kernel
theorem d_Mo_init_92 : decode cb_Mo_init 92 = .ok (.newarray .int, 2) := by decide +kernel
theorem d_Mo_init_94 : decode cb_Mo_init 94 = .ok (.putfield 48, 3) := by decide +kernel
theorem d_Mo_init_97 : decode cb_Mo_init 97 = .ok (.aload_n 0, 1) := by decide +kernel
theorem d_Mo_init_98 : decode cb_Mo_init 98 = .ok (.iconst 2, 1) := by decide +kernel
theorem d_Mo_init_99 : decode cb_Mo_init 99 = .ok (.newarray .int, 2) := by decide +kernel
theorem d_Mo_init_101 : decode cb_Mo_init 101 = .ok (.putfield 51, 3) := by decide +kernel
theorem d_Mo_init_104 : decode cb_Mo_init 104 = .ok (.aload_n 0, 1) := by decide +kernel
theorem d_Mo_init_105 : decode cb_Mo_init 105 = .ok (.iconst 2, 1) := by decide +kernel
theorem d_Mo_init_106 : decode cb_Mo_init 106 = .ok (.newarray .int, 2) := by decide +kernel
theorem d_Mo_init_108 : decode cb_Mo_init 108 = .ok (.putfield 54, 3) := by decide +kernel
theorem d_Mo_init_111 : decode cb_Mo_init 111 = .ok (.aload_n 0, 1) := by decide +kernel
theorem d_Mo_init_112 : decode cb_Mo_init 112 = .ok (.iconst 2, 1) := by decide +kernel
theorem d_Mo_init_113 : decode cb_Mo_init 113 = .ok (.newarray .int, 2) := by decide +kernel
theorem d_Mo_init_115 : decode cb_Mo_init 115 = .ok (.putfield 57, 3) := by decide +kernel
theorem d_Mo_init_118 : decode cb_Mo_init 118 = .ok (.aload_n 0, 1) := by decide +kernel
theorem d_Mo_init_119 : decode cb_Mo_init 119 = .ok (.iconst 2, 1) := by decide +kernel
theorem d_Mo_init_120 : decode cb_Mo_init 120 = .ok (.newarray .int, 2) := by decide +kernel
theorem d_Mo_init_122 : decode cb_Mo_init 122 = .ok (.putfield 60, 3) := by decide +kernel
theorem d_Mo_init_125 : decode cb_Mo_init 125 = .ok (.aload_n 0, 1) := by decide +kernel
theorem d_Mo_init_126 : decode cb_Mo_init 126 = .ok (.iconst 2, 1) := by decide +kernel
theorem d_Mo_init_127 : decode cb_Mo_init 127 = .ok (.newarray .int, 2) := by decide +kernel
theorem d_Mo_init_129 : decode cb_Mo_init 129 = .ok (.putfield 63, 3) := by decide +kernel
theorem d_Mo_init_132 : decode cb_Mo_init 132 = .ok (.aload_n 0, 1) := by decide +kernel
theorem d_Mo_init_133 : decode cb_Mo_init 133 = .ok (.iconst 2, 1) := by decide +kernel
theorem d_Mo_init_134 : decode cb_Mo_init 134 = .ok (.newarray .boolean, 2) := by decide +kernel
theorem d_Mo_init_136 : decode cb_Mo_init 136 = .ok (.putfield 66, 3) := by decide +kernel
theorem d_Mo_init_139 : decode cb_Mo_init 139 = .ok (.aload_n 0, 1) := by decide +kernel
theorem d_Mo_init_140 : decode cb_Mo_init 140 = .ok (.iconst 2, 1) := by decide +kernel
theorem d_Mo_init_141 : decode cb_Mo_init 141 = .ok (.newarray .boolean, 2) := by decide +kernel
theorem d_Mo_init_143 : decode cb_Mo_init 143 = .ok (.putfield 69, 3) := by decide +kernel
theorem d_Mo_init_146 : decode cb_Mo_init 146 = .ok (.aload_n 0, 1) := by decide +kernel
theorem d_Mo_init_147 : decode cb_Mo_init 147 = .ok (.iconst 2, 1) := by decide +kernel
theorem d_Mo_init_148 : decode cb_Mo_init 148 = .ok (.newarray .boolean, 2) := by decide +kernel
theorem d_Mo_init_150 : decode cb_Mo_init 150 = .ok (.putfield 72, 3) := by decide +kernel
theorem d_Mo_init_153 : decode cb_Mo_init 153 = .ok (.aload_n 0, 1) := by decide +kernel
theorem d_Mo_init_154 : decode cb_Mo_init 154 = .ok (.iconst 2, 1) := by decide +kernel
theorem d_Mo_init_155 : decode cb_Mo_init 155 = .ok (.newarray .int, 2) := by decide +kernel
theorem d_Mo_init_157 : decode cb_Mo_init 157 = .ok (.putfield 75, 3) := by decide +kernel
theorem d_Mo_init_160 : decode cb_Mo_init 160 = .ok (.aload_n 0, 1) := by decide +kernel
theorem d_Mo_init_161 : decode cb_Mo_init 161 = .ok (.iconst 2, 1) := by decide +kernel
theorem d_Mo_init_162 : decode cb_Mo_init 162 = .ok (.newarray .int, 2) := by decide +kernel
theorem d_Mo_init_164 : decode cb_Mo_init 164 = .ok (.putfield 78, 3) := by decide +kernel
theorem d_Mo_init_167 : decode cb_Mo_init 167 = .ok (.aload_n 0, 1) := by decide +kernel
theorem d_Mo_init_168 : decode cb_Mo_init 168 = .ok (.iconst 2, 1) := by decide +kernel
theorem d_Mo_init_169 : decode cb_Mo_init 169 = .ok (.newarray .boolean, 2) := by decide +kernel
theorem d_Mo_init_171 : decode cb_Mo_init 171 = .ok (.putfield 81, 3) := by decide +kernel
theorem d_Mo_init_174 : decode cb_Mo_init 174 = .ok (.aload_n 0, 1) := by decide +kernel
theorem d_Mo_init_175 : decode cb_Mo_init 175 = .ok (.sipush 160, 3) := by decide +kernel
theorem d_Mo_init_178 : decode cb_Mo_init 178 = .ok (.newarray .int, 2) := by decide +kernel
theorem d_Mo_init_180 : decode cb_Mo_init 180 = .ok (.putfield 84, 3) := by decide +kernel
theorem d_Mo_init_183 : decode cb_Mo_init 183 = .ok (.aload_n 0, 1) := by decide +kernel
theorem d_Mo_init_184 : decode cb_Mo_init 184 = .ok (.iconst 2, 1) := by decide +kernel
theorem d_Mo_init_185 : decode cb_Mo_init 185 = .ok (.newarray .int, 2) := by decide +kernel
theorem d_Mo_init_187 : decode cb_Mo_init 187 = .ok (.putfield 87, 3) := by decide +kernel
theorem d_Mo_init_190 : decode cb_Mo_init 190 = .ok (.aload_n 0, 1) := by decide +kernel
theorem d_Mo_init_191 : decode cb_Mo_init 191 = .ok (.sipush 256, 3) := by decide +kernel
theorem d_Mo_init_194 : decode cb_Mo_init 194 = .ok (.newarray .int, 2) := by decide +kernel
theorem d_Mo_init_196 : decode cb_Mo_init 196 = .ok (.putfield 90, 3) := by decide +kernel
theorem d_Mo_init_199 : decode cb_Mo_init 199 = .ok (.aload_n 0, 1) := by decide +kernel
theorem d_Mo_init_200 : decode cb_Mo_init 200 = .ok (.iconst 4, 1) := by decide +kernel
theorem d_Mo_init_201 : decode cb_Mo_init 201 = .ok (.newarray .int, 2) := by decide +kernel
theorem d_Mo_init_203 : decode cb_Mo_init 203 = .ok (.putfield 93, 3) := by decide +kernel
theorem d_Mo_init_206 : decode cb_Mo_init 206 = .ok (.aload_n 0, 1) := by decide +kernel
theorem d_Mo_init_207 : decode cb_Mo_init 207 = .ok (.sipush 256, 3) := by decide +kernel
theorem d_Mo_init_210 : decode cb_Mo_init 210 = .ok (.newarray .int, 2) := by decide +kernel
theorem d_Mo_init_212 : decode cb_Mo_init 212 = .ok (.putfield 96, 3) := by decide +kernel
theorem d_Mo_init_215 : decode cb_Mo_init 215 = .ok (.aload_n 0, 1) := by decide +kernel
theorem d_Mo_init_216 : decode cb_Mo_init 216 = .ok (.iconst 4, 1) := by decide +kernel
theorem d_Mo_init_217 : decode cb_Mo_init 217 = .ok (.newarray .int, 2) := by decide +kernel
theorem d_Mo_init_219 : decode cb_Mo_init 219 = .ok (.putfield 99, 3) := by decide +kernel
theorem d_Mo_init_222 : decode cb_Mo_init 222 = .ok (.aload_n 0, 1) := by decide +kernel
theorem d_Mo_init_223 : decode cb_Mo_init 223 = .ok (.iconst 2, 1) := by decide +kernel
theorem d_Mo_init_224 : decode cb_Mo_init 224 = .ok (.newarray .int, 2) := by decide +kernel
theorem d_Mo_init_226 : decode cb_Mo_init 226 = .ok (.putfield 102, 3) := by decide +kernel
theorem d_Mo_init_229 : decode cb_Mo_init 229 = .ok (.aload_n 0, 1) := by decide +kernel
theorem d_Mo_init_230 : decode cb_Mo_init 230 = .ok (.iconst 2, 1) := by decide +kernel
theorem d_Mo_init_231 : decode cb_Mo_init 231 = .ok (.newarray .int, 2) := by decide +kernel
theorem d_Mo_init_233 : decode cb_Mo_init 233 = .ok (.putfield 105, 3) := by decide +kernel
theorem d_Mo_init_236 : decode cb_Mo_init 236 = .ok (.aload_n 0, 1) := by decide +kernel
theorem d_Mo_init_237 : decode cb_Mo_init 237 = .ok (.iconst 2, 1) := by decide +kernel
theorem d_Mo_init_238 : decode cb_Mo_init 238 = .ok (.newarray .int, 2) := by decide +kernel
theorem d_Mo_init_240 : decode cb_Mo_init 240 = .ok (.putfield 108, 3) := by decide +kernel
theorem d_Mo_init_243 : decode cb_Mo_init 243 = .ok (.aload_n 0, 1) := by decide +kernel
theorem d_Mo_init_244 : decode cb_Mo_init 244 = .ok (.iconst 2, 1) := by decide +kernel
theorem d_Mo_init_245 : decode cb_Mo_init 245 = .ok (.newarray .boolean, 2) := by decide +kernel
theorem d_Mo_init_247 : decode cb_Mo_init 247 = .ok (.putfield 111, 3) := by decide +kernel
theorem d_Mo_init_250 : decode cb_Mo_init 250 = .ok (.aload_n 0, 1) := by decide +kernel
theorem d_Mo_init_251 : decode cb_Mo_init 251 = .ok (.iconst 4, 1) := by decide +kernel
theorem d_Mo_init_252 : decode cb_Mo_init 252 = .ok (.newarray .int, 2) := by decide +kernel
theorem d_Mo_init_254 : decode cb_Mo_init 254 = .ok (.putfield 114, 3) := by decide +kernel
theorem d_Mo_init_257 : decode cb_Mo_init 257 = .ok (.aload_n 0, 1) := by decide +kernel
theorem d_Mo_init_258 : decode cb_Mo_init 258 = .ok (.iconst 4, 1) := by decide +kernel
theorem d_Mo_init_259 : decode cb_Mo_init 259 = .ok (.newarray .int, 2) := by decide +kernel
theorem d_Mo_init_261 : decode cb_Mo_init 261 = .ok (.putfield 117, 3) := by decide +kernel
theorem d_Mo_init_264 : decode cb_Mo_init 264 = .ok (.aload_n 0, 1) := by decide +kernel
theorem d_Mo_init_265 : decode cb_Mo_init 265 = .ok (.sipush 256, 3) := by decide +kernel
theorem d_Mo_init_268 : decode cb_Mo_init 268 = .ok (.newarray .int, 2) := by decide +kernel
theorem d_Mo_init_270 : decode cb_Mo_init 270 = .ok (.putfield 120, 3) := by decide +kernel
theorem d_Mo_init_273 : decode cb_Mo_init 273 = .ok (.aload_n 0, 1) := by decide +kernel
theorem d_Mo_init_274 : decode cb_Mo_init 274 = .ok (.iconst 4, 1) := by decide +kernel
theorem d_Mo_init_275 : decode cb_Mo_init 275 = .ok (.newarray .int, 2) := by decide +kernel
theorem d_Mo_init_277 : decode cb_Mo_init 277 = .ok (.putfield 123, 3) := by decide +kernel
theorem d_Mo_init_280 : decode cb_Mo_init 280 = .ok (.aload_n 0, 1) := by decide +kernel
theorem d_Mo_init_281 : decode cb_Mo_init 281 = .ok (.bipush 64, 2) := by decide +kernel
theorem d_Mo_init_283 : decode cb_Mo_init 283 = .ok (.newarray .int, 2) := by decide +kernel
theorem d_Mo_init_285 : decode cb_Mo_init 285 = .ok (.putfield 126, 3) := by decide +kernel
theorem d_Mo_init_288 : decode cb_Mo_init 288 = .ok (.aload_n 0, 1) := by decide +kernel
theorem d_Mo_init_289 : decode cb_Mo_init 289 = .ok (.bipush 64, 2) := by decide +kernel
theorem d_Mo_init_291 : decode cb_Mo_init 291 = .ok (.newarray .int, 2) := by decide +kernel
theorem d_Mo_init_293 : decode cb_Mo_init 293 = .ok (.putfield 129, 3) := by decide +kernel
theorem d_Mo_init_296 : decode cb_Mo_init 296 = .ok (.aload_n 0, 1) := by decide +kernel
theorem d_Mo_init_297 : decode cb_Mo_init 297 = .ok (.iconst 2, 1) := by decide +kernel
theorem d_Mo_init_298 : decode cb_Mo_init 298 = .ok (.newarray .int, 2) := by decide +kernel
theorem d_Mo_init_300 : decode cb_Mo_init 300 = .ok (.putfield 132, 3) := by decide +kernel
theorem d_Mo_init_303 : decode cb_Mo_init 303 = .ok (.aload_n 0, 1) := by decide +kernel
theorem d_Mo_init_304 : decode cb_Mo_init 304 = .ok (.iconst 2, 1) := by decide +kernel
theorem d_Mo_init_305 : decode cb_Mo_init 305 = .ok (.newarray .int, 2) := by decide +kernel
theorem d_Mo_init_307 : decode cb_Mo_init 307 = .ok (.putfield 135, 3) := by decide +kernel
theorem d_Mo_init_310 : decode cb_Mo_init 310 = .ok (.return_, 1) := by decide +kernel
theorem d_Mo_write_0 : decode cb_Mo_write 0 = .ok (.aload_n 0, 1) := by decide +kernel
theorem d_Mo_write_1 : decode cb_Mo_write 1 = .ok (.getfield 126, 3) := by decide +kernel
theorem d_Mo_write_4 : decode cb_Mo_write 4 = .ok (.aload_n 0, 1) := by decide +kernel
theorem d_Mo_write_5 : decode cb_Mo_write 5 = .ok (.getfield 138, 3) := by decide +kernel
theorem d_Mo_write_8 : decode cb_Mo_write 8 = .ok (.iload_n 1, 1) := by decide +kernel
theorem d_Mo_write_9 : decode cb_Mo_write 9 = .ok (.iastore, 1) := by decide +kernel
theorem d_Mo_write_10 : decode cb_Mo_write 10 = .ok (.aload_n 0, 1) := by decide +kernel
theorem d_Mo_write_11 : decode cb_Mo_write 11 = .ok (.dup, 1) := by decide +kernel
theorem d_Mo_write_12 : decode cb_Mo_write 12 = .ok (.getfield 138, 3) := by decide +kernel
theorem d_Mo_write_15 : decode cb_Mo_write 15 = .ok (.iconst 1, 1) := by decide +kernel
theorem d_Mo_write_16 : decode cb_Mo_write 16 = .ok (.iadd, 1) := by decide +kernel
theorem d_Mo_write_17 : decode cb_Mo_write 17 = .ok (.putfield 138, 3) := by decide +kernel
theorem d_Mo_write_20 : decode cb_Mo_write 20 = .ok (.return_, 1) := by decide +kernel
theorem d_Mo_begin_0 : decode cb_Mo_begin 0 = .ok (.aload_n 0, 1) := by decide +kernel
theorem d_Mo_begin_1 : decode cb_Mo_begin 1 = .ok (.iconst 0, 1) := by decide +kernel
theorem d_Mo_begin_2 : decode cb_Mo_begin 2 = .ok (.putfield 138, 3) := by decide +kernel
theorem d_Mo_begin_5 : decode cb_Mo_begin 5 = .ok (.aload_n 0, 1) := by decide +kernel
theorem d_Mo_begin_6 : decode cb_Mo_begin 6 = .ok (.iconst 0, 1) := by decide +kernel
theorem d_Mo_begin_7 : decode cb_Mo_begin 7 = .ok (.putfield 141, 3) := by decide +kernel
theorem d_Mo_begin_10 : decode cb_Mo_begin 10 = .ok (.aload_n 0, 1) := by decide +kernel
theorem d_Mo_begin_11 : decode cb_Mo_begin 11 = .ok (.bipush 64, 2) := by decide +kernel
theorem d_Mo_begin_13 : decode cb_Mo_begin 13 = .ok (.bipush 16, 2) := by decide +kernel
theorem d_Mo_begin_15 : decode cb_Mo_begin 15 = .ok (.iload_n 1, 1) := by decide +kernel
theorem d_Mo_begin_16 : decode cb_Mo_begin 16 = .ok (.imul, 1) := by decide +kernel
theorem d_Mo_begin_17 : decode cb_Mo_begin 17 = .ok (.iadd, 1) := by decide +kernel
theorem d_Mo_begin_18 : decode cb_Mo_begin 18 = .ok (.iload_n 2, 1) := by decide +kernel
theorem d_Mo_begin_19 : decode cb_Mo_begin 19 = .ok (.ifCond .ne 7, 3) := by decide +kernel
theorem d_Mo_begin_22 : decode cb_Mo_begin 22 = .ok (.iconst 0, 1) := by decide +kernel
theorem d_Mo_begin_23 : decode cb_Mo_begin 23 = .ok (.goto 4, 3) := by decide +kernel
theorem d_Mo_begin_26 : decode cb_Mo_begin 26 = .ok (.iconst 1, 1) := by decide +kernel
theorem d_Mo_begin_27 : decode cb_Mo_begin 27 = .ok (.iadd, 1) := by decide +kernel
theorem d_Mo_begin_28 : decode cb_Mo_begin 28 = .ok (.invokevirtual 144, 3) := by decide +kernel
theorem d_Mo_begin_31 : decode cb_Mo_begin 31 = .ok (.aload_n 0, 1) := by decide +kernel
theorem d_Mo_begin_32 : decode cb_Mo_begin 32 = .ok (.iload_n 2, 1) := by decide +kernel
theorem d_Mo_begin_33 : decode cb_Mo_begin 33 = .ok (.invokevirtual 144, 3) := by decide +kernel
theorem d_Mo_begin_36 : decode cb_Mo_begin 36 = .ok (.aload_n 0, 1) := by decide +kernel
theorem d_Mo_begin_37 : decode cb_Mo_begin 37 = .ok (.iload_n 3, 1) := by decide +kernel
theorem d_Mo_begin_38 : decode cb_Mo_begin 38 = .ok (.sipush 256, 3) := by decide +kernel
theorem d_Mo_begin_41 : decode cb_Mo_begin 41 = .ok (.idiv, 1) := by decide +kernel
theorem d_Mo_begin_42 : decode cb_Mo_begin 42 = .ok (.invokevirtual 144, 3) := by decide +kernel
theorem d_Mo_begin_45 : decode cb_Mo_begin 45 = .ok (.aload_n 0, 1) := by decide +kernel
theorem d_Mo_begin_46 : decode cb_Mo_begin 46 = .ok (.iload_n 3, 1) := by decide +kernel
theorem d_Mo_begin_47 : decode cb_Mo_begin 47 = .ok (.sipush 256, 3) := by decide +kernel
theorem d_Mo_begin_50 : decode cb_Mo_begin 50 = .ok (.irem, 1) := by decide +kernel
theorem d_Mo_begin_51 : decode cb_Mo_begin 51 = .ok (.invokevirtual 144, 3) := by decide +kernel
theorem d_Mo_begin_54 : decode cb_Mo_begin 54 = .ok (.return_, 1) := by decide +kernel
theorem d_Mo_head_0 : decode cb_Mo_head 0 = .ok (.iload_n 1, 1) := by decide +kernel
theorem d_Mo_head_1 : decode cb_Mo_head 1 = .ok (.aload_n 0, 1) := by decide +kernel
theorem d_Mo_head_2 : decode cb_Mo_head 2 = .ok (.getfield 141, 3) := by decide +kernel
theorem d_Mo_head_5 : decode cb_Mo_head 5 = .ok (.isub, 1) := by decide +kernel
theorem d_Mo_head_6 : decode cb_Mo_head 6 = .ok (.istore_n 3, 1) := by decide +kernel
theorem d_Mo_head_7 : decode cb_Mo_head 7 = .ok (.aload_n 0, 1) := by decide +kernel
theorem d_Mo_head_8 : decode cb_Mo_head 8 = .ok (.iload_n 1, 1) := by decide +kernel
theorem d_Mo_head_9 : decode cb_Mo_head 9 = .ok (.putfield 141, 3) := by decide +kernel
theorem d_Mo_head_12 : decode cb_Mo_head 12 = .ok (.iload_n 3, 1) := by decide +kernel
theorem d_Mo_head_13 : decode cb_Mo_head 13 = .ok (.bipush 13, 2) := by decide +kernel
theorem d_Mo_head_15 : decode cb_Mo_head 15 = .ok (.if_icmp .ge 16, 3) := by decide +kernel
theorem d_Mo_head_18 : decode cb_Mo_head 18 = .ok (.aload_n 0, 1) := by decide +kernel
theorem d_Mo_head_19 : decode cb_Mo_head 19 = .ok (.bipush 16, 2) := by decide +kernel
theorem d_Mo_head_21 : decode cb_Mo_head 21 = .ok (.iload_n 3, 1) := by decide +kernel
theorem d_Mo_head_22 : decode cb_Mo_head 22 = .ok (.imul, 1) := by decide +kernel
theorem d_Mo_head_23 : decode cb_Mo_head 23 = .ok (.iload_n 2, 1) := by decide +kernel
theorem d_Mo_head_24 : decode cb_Mo_head 24 = .ok (.iadd, 1) := by decide +kernel
theorem d_Mo_head_25 : decode cb_Mo_head 25 = .ok (.invokevirtual 144, 3) := by decide +kernel
theorem d_Mo_head_28 : decode cb_Mo_head 28 = .ok (.goto 20, 3) := by decide +kernel
theorem d_Mo_head_31 : decode cb_Mo_head 31 = .ok (.aload_n 0, 1) := by decide +kernel
theorem d_Mo_head_32 : decode cb_Mo_head 32 = .ok (.sipush 208, 3) := by decide +kernel
theorem d_Mo_head_35 : decode cb_Mo_head 35 = .ok (.iload_n 2, 1) := by decide +kernel
theorem d_Mo_head_36 : decode cb_Mo_head 36 = .ok (.iadd, 1) := by decide +kernel
theorem d_Mo_head_37 : decode cb_Mo_head 37 = .ok (.invokevirtual 144, 3) := by decide +kernel
theorem d_Mo_head_40 : decode cb_Mo_head 40 = .ok (.aload_n 0, 1) := by decide +kernel
theorem d_Mo_head_41 : decode cb_Mo_head 41 = .ok (.iload_n 3, 1) := by decide +kernel
theorem d_Mo_head_42 : decode cb_Mo_head 42 = .ok (.bipush 13, 2) := by decide +kernel
theorem d_Mo_head_44 : decode cb_Mo_head 44 = .ok (.isub, 1) := by decide +kernel
theorem d_Mo_head_45 : decode cb_Mo_head 45 = .ok (.invokevirtual 144, 3) := by decide +kernel
theorem d_Mo_head_48 : decode cb_Mo_head 48 = .ok (.return_, 1) := by decide +kernel
theorem d_Mo_option_0 : decode cb_Mo_option 0 = .ok (.aload_n 0, 1) := by decide +kernel
theorem d_Mo_option_1 : decode cb_Mo_option 1 = .ok (.iload_n 1, 1) := by decide +kernel
theorem d_Mo_option_2 : decode cb_Mo_option 2 = .ok (.iload_n 2, 1) := by decide +kernel
theorem d_Mo_option_3 : decode cb_Mo_option 3 = .ok (.ifCond .ne 7, 3) := by decide +kernel
theorem d_Mo_option_6 : decode cb_Mo_option 6 = .ok (.iconst 0, 1) := by decide +kernel
theorem d_Mo_option_7 : decode cb_Mo_option 7 = .ok (.goto 15, 3) := by decide +kernel
theorem d_Mo_option_10 : decode cb_Mo_option 10 = .ok (.iload_n 2, 1) := by decide +kernel
theorem d_Mo_option_11 : decode cb_Mo_option 11 = .ok (.sipush 256, 3) := by decide +kernel
theorem d_Mo_option_14 : decode cb_Mo_option 14 = .ok (.if_icmp .ge 7, 3) := by decide +kernel
theorem d_Mo_option_17 : decode cb_Mo_option 17 = .ok (.iconst 1, 1) := by decide +kernel
theorem d_Mo_option_18 : decode cb_Mo_option 18 = .ok (.goto 4, 3) := by decide +kernel
theorem d_Mo_option_21 : decode cb_Mo_option 21 = .ok (.iconst 2, 1) := by decide +kernel
theorem d_Mo_option_22 : decode cb_Mo_option 22 = .ok (.invokevirtual 148, 3) := by decide +kernel
theorem d_Mo_option_25 : decode cb_Mo_option 25 = .ok (.iload_n 2, 1) := by decide +kernel
theorem d_Mo_option_26 : decode cb_Mo_option 26 = .ok (.sipush 255, 3) := by decide +kernel
theorem d_Mo_option_29 : decode cb_Mo_option 29 = .ok (.if_icmp .le 12, 3) := by decide +kernel
theorem d_Mo_option_32 : decode cb_Mo_option 32 = .ok (.aload_n 0, 1) := by decide +kernel
theorem d_Mo_option_33 : decode cb_Mo_option 33 = .ok (.iload_n 2, 1) := by decide +kernel
theorem d_Mo_option_34 : decode cb_Mo_option 34 = .ok (.sipush 256, 3) := by decide +kernel
theorem d_Mo_option_37 : decode cb_Mo_option 37 = .ok (.idiv, 1) := by decide +kernel
theorem d_Mo_option_38 : decode cb_Mo_option 38 = .ok (.invokevirtual 144, 3) := by decide +kernel
theorem d_Mo_option_41 : decode cb_Mo_option 41 = .ok (.iload_n 2, 1) := by decide +kernel
theorem d_Mo_option_42 : decode cb_Mo_option 42 = .ok (.ifCond .le 12, 3) := by decide +kernel
theorem d_Mo_option_45 : decode cb_Mo_option 45 = .ok (.aload_n 0, 1) := by decide +kernel
theorem d_Mo_option_46 : decode cb_Mo_option 46 = .ok (.iload_n 2, 1) := by decide +kernel
theorem d_Mo_option_47 : decode cb_Mo_option 47 = .ok (.sipush 256, 3) := by decide +kernel
theorem d_Mo_option_50 : decode cb_Mo_option 50 = .ok (.irem, 1) := by decide +kernel
theorem d_Mo_option_51 : decode cb_Mo_option 51 = .ok (.invokevirtual 144, 3) := by decide +kernel
theorem d_Mo_option_54 : decode cb_Mo_option 54 = .ok (.return_, 1) := by decide +kernel
theorem d_Mo_path_0 : decode cb_Mo_path 0 = .ok (.iload_n 1, 1) := by decide +kernel
theorem d_Mo_path_1 : decode cb_Mo_path 1 = .ok (.iconst 1, 1) := by decide +kernel
theorem d_Mo_path_2 : decode cb_Mo_path 2 = .ok (.if_icmp .eq 8, 3) := by decide +kernel
theorem d_Mo_path_5 : decode cb_Mo_path 5 = .ok (.iload_n 1, 1) := by decide +kernel
theorem d_Mo_path_6 : decode cb_Mo_path 6 = .ok (.iconst 3, 1) := by decide +kernel
theorem d_Mo_path_7 : decode cb_Mo_path 7 = .ok (.if_icmp .ne 7, 3) := by decide +kernel
theorem d_Mo_path_10 : decode cb_Mo_path 10 = .ok (.iconst 1, 1) := by decide +kernel
theorem d_Mo_path_11 : decode cb_Mo_path 11 = .ok (.goto 4, 3) := by decide +kernel
theorem d_Mo_path_14 : decode cb_Mo_path 14 = .ok (.iconst 0, 1) := by decide +kernel
theorem d_Mo_path_15 : decode cb_Mo_path 15 = .ok (.istore_n 2, 1) := by decide +kernel
theorem d_Mo_path_16 : decode cb_Mo_path 16 = .ok (.iload_n 1, 1) := by decide +kernel
theorem d_Mo_path_17 : decode cb_Mo_path 17 = .ok (.iconst 2, 1) := by decide +kernel
theorem d_Mo_path_18 : decode cb_Mo_path 18 = .ok (.if_icmp .eq 8, 3) := by decide +kernel
theorem d_Mo_path_21 : decode cb_Mo_path 21 = .ok (.iload_n 1, 1) := by decide +kernel
theorem d_Mo_path_22 : decode cb_Mo_path 22 = .ok (.iconst 3, 1) := by decide +kernel
theorem d_Mo_path_23 : decode cb_Mo_path 23 = .ok (.if_icmp .ne 7, 3) := by decide +kernel
theorem d_Mo_path_26 : decode cb_Mo_path 26 = .ok (.iconst 1, 1) := by decide +kernel
theorem d_Mo_path_27 : decode cb_Mo_path 27 = .ok (.goto 4, 3) := by decide +kernel
theorem d_Mo_path_30 : decode cb_Mo_path 30 = .ok (.iconst 0, 1) := by decide +kernel
theorem d_Mo_path_31 : decode cb_Mo_path 31 = .ok (.istore_n 3, 1) := by decide +kernel
theorem d_Mo_path_32 : decode cb_Mo_path 32 = .ok (.aload_n 0, 1) := by decide +kernel
theorem d_Mo_path_33 : decode cb_Mo_path 33 = .ok (.bipush 11, 2) := by decide +kernel
theorem d_Mo_path_35 : decode cb_Mo_path 35 = .ok (.iload_n 3, 1) := by decide +kernel
theorem d_Mo_path_36 : decode cb_Mo_path 36 = .ok (.ifCond .eq 7, 3) := by decide +kernel
theorem d_Mo_path_39 : decode cb_Mo_path 39 = .ok (.iconst 2, 1) := by decide +kernel
theorem d_Mo_path_40 : decode cb_Mo_path 40 = .ok (.goto 4, 3) := by decide +kernel
theorem d_Mo_path_43 : decode cb_Mo_path 43 = .ok (.iconst 1, 1) := by decide +kernel
theorem d_Mo_path_44 : decode cb_Mo_path 44 = .ok (.invokevirtual 148, 3) := by decide +kernel
theorem d_Mo_path_47 : decode cb_Mo_path 47 = .ok (.aload_n 0, 1) := by decide +kernel
theorem d_Mo_path_48 : decode cb_Mo_path 48 = .ok (.iload_n 3, 1) := by decide +kernel
theorem d_Mo_path_49 : decode cb_Mo_path 49 = .ok (.ifCond .eq 8, 3) := by decide +kernel
theorem d_Mo_path_52 : decode cb_Mo_path 52 = .ok (.bipush 99, 2) := by decide +kernel
theorem d_Mo_path_54 : decode cb_Mo_path 54 = .ok (.goto 15, 3) := by decide +kernel
theorem d_Mo_path_57 : decode cb_Mo_path 57 = .ok (.iload_n 1, 1) := by decide +kernel
theorem d_Mo_path_58 : decode cb_Mo_path 58 = .ok (.iconst 4, 1) := by decide +kernel
theorem d_Mo_path_59 : decode cb_Mo_path 59 = .ok (.if_icmp .ne 8, 3) := by decide +kernel
theorem d_Mo_path_62 : decode cb_Mo_path 62 = .ok (.bipush 120, 2) := by decide +kernel
theorem d_Mo_path_64 : decode cb_Mo_path 64 = .ok (.goto 5, 3) := by decide +kernel
theorem d_Mo_path_67 : decode cb_Mo_path 67 = .ok (.bipush 97, 2) := by decide +kernel
theorem d_Mo_path_69 : decode cb_Mo_path 69 = .ok (.invokevirtual 144, 3) := by decide +kernel
theorem d_Mo_path_72 : decode cb_Mo_path 72 = .ok (.iload_n 3, 1) := by decide +kernel
theorem d_Mo_path_73 : decode cb_Mo_path 73 = .ok (.ifCond .eq 9, 3) := by decide +kernel
theorem d_Mo_path_76 : decode cb_Mo_path 76 = .ok (.aload_n 0, 1) := by decide +kernel
theorem d_Mo_path_77 : decode cb_Mo_path 77 = .ok (.bipush 99, 2) := by decide +kernel
theorem d_Mo_path_79 : decode cb_Mo_path 79 = .ok (.invokevirtual 144, 3) := by decide +kernel
theorem d_Mo_path_82 : decode cb_Mo_path 82 = .ok (.iload_n 2, 1) := by decide +kernel
theorem d_Mo_path_83 : decode cb_Mo_path 83 = .ok (.ifCond .eq 25, 3) := by decide +kernel
theorem d_Mo_path_86 : decode cb_Mo_path 86 = .ok (.aload_n 0, 1) := by decide +kernel
theorem d_Mo_path_87 : decode cb_Mo_path 87 = .ok (.bipush 11, 2) := by decide +kernel
theorem d_Mo_path_89 : decode cb_Mo_path 89 = .ok (.iconst 1, 1) := by decide +kernel
theorem d_Mo_path_90 : decode cb_Mo_path 90 = .ok (.invokevirtual 148, 3) := by decide +kernel
theorem d_Mo_path_93 : decode cb_Mo_path 93 = .ok (.aload_n 0, 1) := by decide +kernel
theorem d_Mo_path_94 : decode cb_Mo_path 94 = .ok (.iload_n 3, 1) := by decide +kernel
theorem d_Mo_path_95 : decode cb_Mo_path 95 = .ok (.ifCond .eq 8, 3) := by decide +kernel
theorem d_Mo_path_98 : decode cb_Mo_path 98 = .ok (.bipush 100, 2) := by decide +kernel
theorem d_Mo_path_100 : decode cb_Mo_path 100 = .ok (.goto 5, 3) := by decide +kernel
theorem d_Mo_path_103 : decode cb_Mo_path 103 = .ok (.bipush 98, 2) := by decide +kernel
theorem d_Mo_path_105 : decode cb_Mo_path 105 = .ok (.invokevirtual 144, 3) := by decide +kernel
theorem d_Mo_path_108 : decode cb_Mo_path 108 = .ok (.return_, 1) := by decide +kernel

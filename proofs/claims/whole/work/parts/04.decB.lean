theorem dX10_init_0 : decode cX10_init 0 = .ok (.aload_n 0, 1) := by decide +kernel
theorem dX10_init_1 : decode cX10_init 1 = .ok (.invokespecial 1, 3) := by decide +kernel
theorem dX10_init_4 : decode cX10_init 4 = .ok (.aload_n 0, 1) := by decide +kernel
theorem dX10_init_5 : decode cX10_init 5 = .ok (.sipush 6000, 3) := by decide +kernel
theorem dX10_init_8 : decode cX10_init 8 = .ok (.newarray .int, 2) := by decide +kernel
theorem dX10_init_10 : decode cX10_init 10 = .ok (.putfield 9, 3) := by decide +kernel
theorem dX10_init_13 : decode cX10_init 13 = .ok (.aload_n 0, 1) := by decide +kernel
theorem dX10_init_14 : decode cX10_init 14 = .ok (.sipush 6000, 3) := by decide +kernel
theorem dX10_init_17 : decode cX10_init 17 = .ok (.newarray .int, 2) := by decide +kernel
theorem dX10_init_19 : decode cX10_init 19 = .ok (.putfield 13, 3) := by decide +kernel
theorem dX10_init_22 : decode cX10_init 22 = .ok (.aload_n 0, 1) := by decide +kernel
theorem dX10_init_23 : decode cX10_init 23 = .ok (.iconst (-1), 1) := by decide +kernel
theorem dX10_init_24 : decode cX10_init 24 = .ok (.putfield 16, 3) := by decide +kernel
theorem dX10_init_27 : decode cX10_init 27 = .ok (.aload_n 0, 1) := by decide +kernel
theorem dX10_init_28 : decode cX10_init 28 = .ok (.sipush 301, 3) := by decide +kernel
theorem dX10_init_31 : decode cX10_init 31 = .ok (.newarray .int, 2) := by decide +kernel
theorem dX10_init_33 : decode cX10_init 33 = .ok (.putfield 20, 3) := by decide +kernel
theorem dX10_init_36 : decode cX10_init 36 = .ok (.aload_n 0, 1) := by decide +kernel
theorem dX10_init_37 : decode cX10_init 37 = .ok (.sipush 301, 3) := by decide +kernel
theorem dX10_init_40 : decode cX10_init 40 = .ok (.newarray .int, 2) := by decide +kernel
theorem dX10_init_42 : decode cX10_init 42 = .ok (.putfield 23, 3) := by decide +kernel
theorem dX10_init_45 : decode cX10_init 45 = .ok (.aload_n 0, 1) := by decide +kernel
theorem dX10_init_46 : decode cX10_init 46 = .ok (.sipush 2000, 3) := by decide +kernel
theorem dX10_init_49 : decode cX10_init 49 = .ok (.newarray .int, 2) := by decide +kernel
theorem dX10_init_51 : decode cX10_init 51 = .ok (.putfield 26, 3) := by decide +kernel
theorem dX10_init_54 : decode cX10_init 54 = .ok (.aload_n 0, 1) := by decide +kernel
theorem dX10_init_55 : decode cX10_init 55 = .ok (.sipush 301, 3) := by decide +kernel
theorem dX10_init_58 : decode cX10_init 58 = .ok (.newarray .int, 2) := by decide +kernel
theorem dX10_init_60 : decode cX10_init 60 = .ok (.putfield 29, 3) := by decide +kernel
theorem dX10_init_63 : decode cX10_init 63 = .ok (.aload_n 0, 1) := by decide +kernel
theorem dX10_init_64 : decode cX10_init 64 = .ok (.sipush 301, 3) := by decide +kernel
theorem dX10_init_67 : decode cX10_init 67 = .ok (.newarray .int, 2) := by decide +kernel
theorem dX10_init_69 : decode cX10_init 69 = .ok (.putfield 32, 3) := by decide +kernel
theorem dX10_init_72 : decode cX10_init 72 = .ok (.aload_n 0, 1) := by decide +kernel
theorem dX10_init_73 : decode cX10_init 73 = .ok (.sipush 2000, 3) := by decide +kernel
theorem dX10_init_76 : decode cX10_init 76 = .ok (.newarray .int, 2) := by decide +kernel
theorem dX10_init_78 : decode cX10_init 78 = .ok (.putfield 35, 3) := by decide +kernel
theorem dX10_init_81 : decode cX10_init 81 = .ok (.aload_n 0, 1) := by decide +kernel
theorem dX10_init_82 : decode cX10_init 82 = .ok (.sipush 301, 3) := by decide +kernel
theorem dX10_init_85 : decode cX10_init 85 = .ok (.newarray .boolean, 2) := by decide +kernel
theorem dX10_init_87 : decode cX10_init 87 = .ok (.putfield 38, 3) := by decide +kernel
theorem dX10_init_90 : decode cX10_init 90 = .ok (.aload_n 0, 1) := by decide +kernel
theorem dX10_init_91 : decode cX10_init 91 = .ok (.sipush 301, 3) := by decide +kernel
theorem dX10_init_94 : decode cX10_init 94 = .ok (.newarray .int, 2) := by decide +kernel
theorem dX10_init_96 : decode cX10_init 96 = .ok (.putfield 42, 3) := by decide +kernel
theorem dX10_init_99 : decode cX10_init 99 = .ok (.aload_n 0, 1) := by decide +kernel
theorem dX10_init_100 : decode cX10_init 100 = .ok (.sipush 301, 3) := by decide +kernel
theorem dX10_init_103 : decode cX10_init 103 = .ok (.newarray .int, 2) := by decide +kernel
theorem dX10_init_105 : decode cX10_init 105 = .ok (.putfield 45, 3) := by decide +kernel
theorem dX10_init_108 : decode cX10_init 108 = .ok (.aload_n 0, 1) := by decide +kernel
theorem dX10_init_109 : decode cX10_init 109 = .ok (.sipush 2000, 3) := by decide +kernel
theorem dX10_init_112 : decode cX10_init 112 = .ok (.newarray .int, 2) := by decide +kernel
theorem dX10_init_114 : decode cX10_init 114 = .ok (.putfield 48, 3) := by decide +kernel
theorem dX10_init_117 : decode cX10_init 117 = .ok (.aload_n 0, 1) := by decide +kernel
theorem dX10_init_118 : decode cX10_init 118 = .ok (.sipush 301, 3) := by decide +kernel
theorem dX10_init_121 : decode cX10_init 121 = .ok (.newarray .boolean, 2) := by decide +kernel
theorem dX10_init_123 : decode cX10_init 123 = .ok (.putfield 51, 3) := by decide +kernel
theorem dX10_init_126 : decode cX10_init 126 = .ok (.aload_n 0, 1) := by decide +kernel
theorem dX10_init_127 : decode cX10_init 127 = .ok (.sipush 601, 3) := by decide +kernel
theorem dX10_init_130 : decode cX10_init 130 = .ok (.newarray .int, 2) := by decide +kernel
theorem dX10_init_132 : decode cX10_init 132 = .ok (.putfield 54, 3) := by decide +kernel
theorem dX10_init_135 : decode cX10_init 135 = .ok (.aload_n 0, 1) := by decide +kernel
theorem dX10_init_136 : decode cX10_init 136 = .ok (.sipush 301, 3) := by decide +kernel
theorem dX10_init_139 : decode cX10_init 139 = .ok (.newarray .int, 2) := by decide +kernel
theorem dX10_init_141 : decode cX10_init 141 = .ok (.putfield 57, 3) := by decide +kernel
theorem dX10_init_144 : decode cX10_init 144 = .ok (.aload_n 0, 1) := by decide +kernel
theorem dX10_init_145 : decode cX10_init 145 = .ok (.sipush 601, 3) := by decide +kernel
theorem dX10_init_148 : decode cX10_init 148 = .ok (.newarray .boolean, 2) := by decide +kernel
theorem dX10_init_150 : decode cX10_init 150 = .ok (.putfield 60, 3) := by decide +kernel
theorem dX10_init_153 : decode cX10_init 153 = .ok (.aload_n 0, 1) := by decide +kernel
theorem dX10_init_154 : decode cX10_init 154 = .ok (.sipush 601, 3) := by decide +kernel
theorem dX10_init_157 : decode cX10_init 157 = .ok (.newarray .boolean, 2) := by decide +kernel
theorem dX10_init_159 : decode cX10_init 159 = .ok (.putfield 63, 3) := by decide +kernel
theorem dX10_init_162 : decode cX10_init 162 = .ok (.aload_n 0, 1) := by decide +kernel
theorem dX10_init_163 : decode cX10_init 163 = .ok (.sipush 601, 3) := by decide +kernel
theorem dX10_init_166 : decode cX10_init 166 = .ok (.newarray .boolean, 2) := by decide +kernel
theorem dX10_init_168 : decode cX10_init 168 = .ok (.putfield 66, 3) := by decide +kernel
theorem dX10_init_171 : decode cX10_init 171 = .ok (.aload_n 0, 1) := by decide +kernel
theorem dX10_init_172 : decode cX10_init 172 = .ok (.sipush 601, 3) := by decide +kernel
theorem dX10_init_175 : decode cX10_init 175 = .ok (.newarray .boolean, 2) := by decide +kernel
theorem dX10_init_177 : decode cX10_init 177 = .ok (.putfield 69, 3) := by decide +kernel
theorem dX10_init_180 : decode cX10_init 180 = .ok (.aload_n 0, 1) := by decide +kernel
theorem dX10_init_181 : decode cX10_init 181 = .ok (.sipush 301, 3) := by decide +kernel
theorem dX10_init_184 : decode cX10_init 184 = .ok (.newarray .int, 2) := by decide +kernel
theorem dX10_init_186 : decode cX10_init 186 = .ok (.putfield 72, 3) := by decide +kernel
theorem dX10_init_189 : decode cX10_init 189 = .ok (.aload_n 0, 1) := by decide +kernel
theorem dX10_init_190 : decode cX10_init 190 = .ok (.sipush 151, 3) := by decide +kernel
theorem dX10_init_193 : decode cX10_init 193 = .ok (.newarray .int, 2) := by decide +kernel
theorem dX10_init_195 : decode cX10_init 195 = .ok (.putfield 75, 3) := by decide +kernel
theorem dX10_init_198 : decode cX10_init 198 = .ok (.aload_n 0, 1) := by decide +kernel
theorem dX10_init_199 : decode cX10_init 199 = .ok (.sipush 151, 3) := by decide +kernel
theorem dX10_init_202 : decode cX10_init 202 = .ok (.newarray .int, 2) := by decide +kernel
theorem dX10_init_204 : decode cX10_init 204 = .ok (.putfield 78, 3) := by decide +kernel
theorem dX10_init_207 : decode cX10_init 207 = .ok (.aload_n 0, 1) := by decide +kernel
theorem dX10_init_208 : decode cX10_init 208 = .ok (.sipush 151, 3) := by decide +kernel
theorem dX10_init_211 : decode cX10_init 211 = .ok (.newarray .int, 2) := by decide +kernel
theorem dX10_init_213 : decode cX10_init 213 = .ok (.putfield 81, 3) := by decide +kernel
theorem dX10_init_216 : decode cX10_init 216 = .ok (.aload_n 0, 1) := by decide +kernel
theorem dX10_init_217 : decode cX10_init 217 = .ok (.sipush 4000, 3) := by decide +kernel
theorem dX10_init_220 : decode cX10_init 220 = .ok (.newarray .int, 2) := by decide +kernel
theorem dX10_init_222 : decode cX10_init 222 = .ok (.putfield 84, 3) := by decide +kernel
theorem dX10_init_225 : decode cX10_init 225 = .ok (.aload_n 0, 1) := by decide +kernel
theorem dX10_init_226 : decode cX10_init 226 = .ok (.sipush 601, 3) := by decide +kernel
theorem dX10_init_229 : decode cX10_init 229 = .ok (.newarray .int, 2) := by decide +kernel
theorem dX10_init_231 : decode cX10_init 231 = .ok (.putfield 87, 3) := by decide +kernel
theorem dX10_init_234 : decode cX10_init 234 = .ok (.aload_n 0, 1) := by decide +kernel
theorem dX10_init_235 : decode cX10_init 235 = .ok (.sipush 601, 3) := by decide +kernel
theorem dX10_init_238 : decode cX10_init 238 = .ok (.newarray .int, 2) := by decide +kernel
theorem dX10_init_240 : decode cX10_init 240 = .ok (.putfield 90, 3) := by decide +kernel
theorem dX10_init_243 : decode cX10_init 243 = .ok (.aload_n 0, 1) := by decide +kernel
theorem dX10_init_244 : decode cX10_init 244 = .ok (.sipush 6000, 3) := by decide +kernel
theorem dX10_init_247 : decode cX10_init 247 = .ok (.newarray .int, 2) := by decide +kernel
theorem dX10_init_249 : decode cX10_init 249 = .ok (.putfield 93, 3) := by decide +kernel
theorem dX10_init_252 : decode cX10_init 252 = .ok (.return_, 1) := by decide +kernel
theorem dX10_thrown_0 : decode cX10_thrown 0 = .ok (.aload_n 0, 1) := by decide +kernel
theorem dX10_thrown_1 : decode cX10_thrown 1 = .ok (.getfield 96, 3) := by decide +kernel
theorem dX10_thrown_4 : decode cX10_thrown 4 = .ok (.ireturn, 1) := by decide +kernel
theorem dX10_fail_0 : decode cX10_fail 0 = .ok (.aload_n 0, 1) := by decide +kernel
theorem dX10_fail_1 : decode cX10_fail 1 = .ok (.iconst 1, 1) := by decide +kernel
theorem dX10_fail_2 : decode cX10_fail 2 = .ok (.putfield 96, 3) := by decide +kernel
theorem dX10_fail_5 : decode cX10_fail 5 = .ok (.iconst 0, 1) := by decide +kernel
theorem dX10_fail_6 : decode cX10_fail 6 = .ok (.ireturn, 1) := by decide +kernel
theorem dX10_feed_0 : decode cX10_feed 0 = .ok (.aload_n 0, 1) := by decide +kernel
theorem dX10_feed_1 : decode cX10_feed 1 = .ok (.iconst 0, 1) := by decide +kernel
theorem dX10_feed_2 : decode cX10_feed 2 = .ok (.putfield 96, 3) := by decide +kernel
theorem dX10_feed_5 : decode cX10_feed 5 = .ok (.aload_n 0, 1) := by decide +kernel
theorem dX10_feed_6 : decode cX10_feed 6 = .ok (.getfield 99, 3) := by decide +kernel
theorem dX10_feed_9 : decode cX10_feed 9 = .ok (.bipush 20, 2) := by decide +kernel
theorem dX10_feed_11 : decode cX10_feed 11 = .ok (.iadd, 1) := by decide +kernel
theorem dX10_feed_12 : decode cX10_feed 12 = .ok (.sipush 6000, 3) := by decide +kernel
theorem dX10_feed_15 : decode cX10_feed 15 = .ok (.if_icmp .le 5, 3) := by decide +kernel
theorem dX10_feed_18 : decode cX10_feed 18 = .ok (.iconst (-1), 1) := by decide +kernel
theorem dX10_feed_19 : decode cX10_feed 19 = .ok (.ireturn, 1) := by decide +kernel
theorem dX10_feed_20 : decode cX10_feed 20 = .ok (.iconst 0, 1) := by decide +kernel
theorem dX10_feed_21 : decode cX10_feed 21 = .ok (.istore 6, 2) := by decide +kernel
theorem dX10_feed_23 : decode cX10_feed 23 = .ok (.iload 6, 2) := by decide +kernel
theorem dX10_feed_25 : decode cX10_feed 25 = .ok (.bipush 20, 2) := by decide +kernel
theorem dX10_feed_27 : decode cX10_feed 27 = .ok (.if_icmp .ge 93, 3) := by decide +kernel
theorem dX10_feed_30 : decode cX10_feed 30 = .ok (.iload 6, 2) := by decide +kernel
theorem dX10_feed_32 : decode cX10_feed 32 = .ok (.iconst 4, 1) := by decide +kernel
theorem dX10_feed_33 : decode cX10_feed 33 = .ok (.if_icmp .ge 7, 3) := by decide +kernel
theorem dX10_feed_36 : decode cX10_feed 36 = .ok (.iload_n 1, 1) := by decide +kernel
theorem dX10_feed_37 : decode cX10_feed 37 = .ok (.goto 39, 3) := by decide +kernel
theorem dX10_feed_40 : decode cX10_feed 40 = .ok (.iload 6, 2) := by decide +kernel
theorem dX10_feed_42 : decode cX10_feed 42 = .ok (.bipush 8, 2) := by decide +kernel
theorem dX10_feed_44 : decode cX10_feed 44 = .ok (.if_icmp .ge 7, 3) := by decide +kernel
theorem dX10_feed_47 : decode cX10_feed 47 = .ok (.iload_n 2, 1) := by decide +kernel
theorem dX10_feed_48 : decode cX10_feed 48 = .ok (.goto 28, 3) := by decide +kernel
theorem dX10_feed_51 : decode cX10_feed 51 = .ok (.iload 6, 2) := by decide +kernel
theorem dX10_feed_53 : decode cX10_feed 53 = .ok (.bipush 12, 2) := by decide +kernel
theorem dX10_feed_55 : decode cX10_feed 55 = .ok (.if_icmp .ge 7, 3) := by decide +kernel
theorem dX10_feed_58 : decode cX10_feed 58 = .ok (.iload_n 3, 1) := by decide +kernel
theorem dX10_feed_59 : decode cX10_feed 59 = .ok (.goto 17, 3) := by decide +kernel
theorem dX10_feed_62 : decode cX10_feed 62 = .ok (.iload 6, 2) := by decide +kernel
theorem dX10_feed_64 : decode cX10_feed 64 = .ok (.bipush 16, 2) := by decide +kernel
theorem dX10_feed_66 : decode cX10_feed 66 = .ok (.if_icmp .ge 8, 3) := by decide +kernel
theorem dX10_feed_69 : decode cX10_feed 69 = .ok (.iload 4, 2) := by decide +kernel
theorem dX10_feed_71 : decode cX10_feed 71 = .ok (.goto 5, 3) := by decide +kernel
theorem dX10_feed_74 : decode cX10_feed 74 = .ok (.iload 5, 2) := by decide +kernel
theorem dX10_feed_76 : decode cX10_feed 76 = .ok (.istore 7, 2) := by decide +kernel
theorem dX10_feed_78 : decode cX10_feed 78 = .ok (.aload_n 0, 1) := by decide +kernel
theorem dX10_feed_79 : decode cX10_feed 79 = .ok (.getfield 9, 3) := by decide +kernel
theorem dX10_feed_82 : decode cX10_feed 82 = .ok (.aload_n 0, 1) := by decide +kernel
theorem dX10_feed_83 : decode cX10_feed 83 = .ok (.getfield 99, 3) := by decide +kernel
theorem dX10_feed_86 : decode cX10_feed 86 = .ok (.iload 7, 2) := by decide +kernel
theorem dX10_feed_88 : decode cX10_feed 88 = .ok (.bipush 24, 2) := by decide +kernel
theorem dX10_feed_90 : decode cX10_feed 90 = .ok (.bipush 8, 2) := by decide +kernel
theorem dX10_feed_92 : decode cX10_feed 92 = .ok (.iload 6, 2) := by decide +kernel
theorem dX10_feed_94 : decode cX10_feed 94 = .ok (.iconst 4, 1) := by decide +kernel
theorem dX10_feed_95 : decode cX10_feed 95 = .ok (.irem, 1) := by decide +kernel
theorem dX10_feed_96 : decode cX10_feed 96 = .ok (.imul, 1) := by decide +kernel
theorem dX10_feed_97 : decode cX10_feed 97 = .ok (.isub, 1) := by decide +kernel
theorem dX10_feed_98 : decode cX10_feed 98 = .ok (.ishr, 1) := by decide +kernel
theorem dX10_feed_99 : decode cX10_feed 99 = .ok (.sipush 255, 3) := by decide +kernel
theorem dX10_feed_102 : decode cX10_feed 102 = .ok (.iand, 1) := by decide +kernel
theorem dX10_feed_103 : decode cX10_feed 103 = .ok (.iastore, 1) := by decide +kernel
theorem dX10_feed_104 : decode cX10_feed 104 = .ok (.aload_n 0, 1) := by decide +kernel
theorem dX10_feed_105 : decode cX10_feed 105 = .ok (.dup, 1) := by decide +kernel
theorem dX10_feed_106 : decode cX10_feed 106 = .ok (.getfield 99, 3) := by decide +kernel
theorem dX10_feed_109 : decode cX10_feed 109 = .ok (.iconst 1, 1) := by decide +kernel
theorem dX10_feed_110 : decode cX10_feed 110 = .ok (.iadd, 1) := by decide +kernel
theorem dX10_feed_111 : decode cX10_feed 111 = .ok (.putfield 99, 3) := by decide +kernel
theorem dX10_feed_114 : decode cX10_feed 114 = .ok (.iinc 6 1, 3) := by decide +kernel
theorem dX10_feed_117 : decode cX10_feed 117 = .ok (.goto (-94), 3) := by decide +kernel
theorem dX10_feed_120 : decode cX10_feed 120 = .ok (.aload_n 0, 1) := by decide +kernel
theorem dX10_feed_121 : decode cX10_feed 121 = .ok (.getfield 99, 3) := by decide +kernel
theorem dX10_feed_124 : decode cX10_feed 124 = .ok (.ireturn, 1) := by decide +kernel
theorem dX10_wrong_0 : decode cX10_wrong 0 = .ok (.aload_n 0, 1) := by decide +kernel
theorem dX10_wrong_1 : decode cX10_wrong 1 = .ok (.getfield 102, 3) := by decide +kernel
theorem dX10_wrong_4 : decode cX10_wrong 4 = .ok (.ifCond .eq 4, 3) := by decide +kernel
theorem dX10_wrong_7 : decode cX10_wrong 7 = .ok (.return_, 1) := by decide +kernel
theorem dX10_wrong_8 : decode cX10_wrong 8 = .ok (.aload_n 0, 1) := by decide +kernel
theorem dX10_wrong_9 : decode cX10_wrong 9 = .ok (.iload_n 1, 1) := by decide +kernel
theorem dX10_wrong_10 : decode cX10_wrong 10 = .ok (.putfield 102, 3) := by decide +kernel
theorem dX10_wrong_13 : decode cX10_wrong 13 = .ok (.aload_n 0, 1) := by decide +kernel
theorem dX10_wrong_14 : decode cX10_wrong 14 = .ok (.iload_n 2, 1) := by decide +kernel
theorem dX10_wrong_15 : decode cX10_wrong 15 = .ok (.putfield 105, 3) := by decide +kernel
theorem dX10_wrong_18 : decode cX10_wrong 18 = .ok (.return_, 1) := by decide +kernel
theorem dX10_isBlank_0 : decode cX10_isBlank 0 = .ok (.iload_n 0, 1) := by decide +kernel
theorem dX10_isBlank_1 : decode cX10_isBlank 1 = .ok (.bipush 32, 2) := by decide +kernel
theorem dX10_isBlank_3 : decode cX10_isBlank 3 = .ok (.if_icmp .eq 21, 3) := by decide +kernel
theorem dX10_isBlank_6 : decode cX10_isBlank 6 = .ok (.iload_n 0, 1) := by decide +kernel
theorem dX10_isBlank_7 : decode cX10_isBlank 7 = .ok (.bipush 9, 2) := by decide +kernel
theorem dX10_isBlank_9 : decode cX10_isBlank 9 = .ok (.if_icmp .eq 15, 3) := by decide +kernel
theorem dX10_isBlank_12 : decode cX10_isBlank 12 = .ok (.iload_n 0, 1) := by decide +kernel
theorem dX10_isBlank_13 : decode cX10_isBlank 13 = .ok (.bipush 13, 2) := by decide +kernel
theorem dX10_isBlank_15 : decode cX10_isBlank 15 = .ok (.if_icmp .eq 9, 3) := by decide +kernel
theorem dX10_isBlank_18 : decode cX10_isBlank 18 = .ok (.iload_n 0, 1) := by decide +kernel
theorem dX10_isBlank_19 : decode cX10_isBlank 19 = .ok (.bipush 10, 2) := by decide +kernel
theorem dX10_isBlank_21 : decode cX10_isBlank 21 = .ok (.if_icmp .ne 7, 3) := by decide +kernel
theorem dX10_isBlank_24 : decode cX10_isBlank 24 = .ok (.iconst 1, 1) := by decide +kernel
theorem dX10_isBlank_25 : decode cX10_isBlank 25 = .ok (.goto 4, 3) := by decide +kernel
theorem dX10_isBlank_28 : decode cX10_isBlank 28 = .ok (.iconst 0, 1) := by decide +kernel
theorem dX10_isBlank_29 : decode cX10_isBlank 29 = .ok (.ireturn, 1) := by decide +kernel
theorem dX10_next_0 : decode cX10_next 0 = .ok (.iconst 1, 1) := by decide +kernel
theorem dX10_next_1 : decode cX10_next 1 = .ok (.istore_n 1, 1) := by decide +kernel
theorem dX10_next_2 : decode cX10_next 2 = .ok (.iload_n 1, 1) := by decide +kernel
theorem dX10_next_3 : decode cX10_next 3 = .ok (.ifCond .eq 137, 3) := by decide +kernel
theorem dX10_next_6 : decode cX10_next 6 = .ok (.iconst 0, 1) := by decide +kernel
theorem dX10_next_7 : decode cX10_next 7 = .ok (.istore_n 1, 1) := by decide +kernel
theorem dX10_next_8 : decode cX10_next 8 = .ok (.aload_n 0, 1) := by decide +kernel
theorem dX10_next_9 : decode cX10_next 9 = .ok (.getfield 108, 3) := by decide +kernel
theorem dX10_next_12 : decode cX10_next 12 = .ok (.aload_n 0, 1) := by decide +kernel
theorem dX10_next_13 : decode cX10_next 13 = .ok (.getfield 111, 3) := by decide +kernel
theorem dX10_next_16 : decode cX10_next 16 = .ok (.if_icmp .ge 83, 3) := by decide +kernel
theorem dX10_next_19 : decode cX10_next 19 = .ok (.aload_n 0, 1) := by decide +kernel
theorem dX10_next_20 : decode cX10_next 20 = .ok (.getfield 13, 3) := by decide +kernel
theorem dX10_next_23 : decode cX10_next 23 = .ok (.aload_n 0, 1) := by decide +kernel
theorem dX10_next_24 : decode cX10_next 24 = .ok (.getfield 108, 3) := by decide +kernel
theorem dX10_next_27 : decode cX10_next 27 = .ok (.iaload, 1) := by decide +kernel
theorem dX10_next_28 : decode cX10_next 28 = .ok (.bipush 99, 2) := by decide +kernel
theorem dX10_next_30 : decode cX10_next 30 = .ok (.if_icmp .ne 69, 3) := by decide +kernel
theorem dX10_next_33 : decode cX10_next 33 = .ok (.aload_n 0, 1) := by decide +kernel
theorem dX10_next_34 : decode cX10_next 34 = .ok (.getfield 108, 3) := by decide +kernel
theorem dX10_next_37 : decode cX10_next 37 = .ok (.ifCond .eq 19, 3) := by decide +kernel
theorem dX10_next_40 : decode cX10_next 40 = .ok (.aload_n 0, 1) := by decide +kernel
theorem dX10_next_41 : decode cX10_next 41 = .ok (.getfield 13, 3) := by decide +kernel
theorem dX10_next_44 : decode cX10_next 44 = .ok (.aload_n 0, 1) := by decide +kernel
theorem dX10_next_45 : decode cX10_next 45 = .ok (.getfield 108, 3) := by decide +kernel
theorem dX10_next_48 : decode cX10_next 48 = .ok (.iconst 1, 1) := by decide +kernel
theorem dX10_next_49 : decode cX10_next 49 = .ok (.isub, 1) := by decide +kernel
theorem dX10_next_50 : decode cX10_next 50 = .ok (.iaload, 1) := by decide +kernel
theorem dX10_next_51 : decode cX10_next 51 = .ok (.bipush 10, 2) := by decide +kernel
theorem dX10_next_53 : decode cX10_next 53 = .ok (.if_icmp .ne 46, 3) := by decide +kernel
theorem dX10_next_56 : decode cX10_next 56 = .ok (.aload_n 0, 1) := by decide +kernel
theorem dX10_next_57 : decode cX10_next 57 = .ok (.getfield 108, 3) := by decide +kernel
theorem dX10_next_60 : decode cX10_next 60 = .ok (.aload_n 0, 1) := by decide +kernel
theorem dX10_next_61 : decode cX10_next 61 = .ok (.getfield 111, 3) := by decide +kernel
theorem dX10_next_64 : decode cX10_next 64 = .ok (.if_icmp .ge 30, 3) := by decide +kernel
theorem dX10_next_67 : decode cX10_next 67 = .ok (.aload_n 0, 1) := by decide +kernel
theorem dX10_next_68 : decode cX10_next 68 = .ok (.getfield 13, 3) := by decide +kernel
theorem dX10_next_71 : decode cX10_next 71 = .ok (.aload_n 0, 1) := by decide +kernel
theorem dX10_next_72 : decode cX10_next 72 = .ok (.getfield 108, 3) := by decide +kernel
theorem dX10_next_75 : decode cX10_next 75 = .ok (.iaload, 1) := by decide +kernel
theorem dX10_next_76 : decode cX10_next 76 = .ok (.bipush 10, 2) := by decide +kernel
theorem dX10_next_78 : decode cX10_next 78 = .ok (.if_icmp .eq 16, 3) := by decide +kernel
theorem dX10_next_81 : decode cX10_next 81 = .ok (.aload_n 0, 1) := by decide +kernel
theorem dX10_next_82 : decode cX10_next 82 = .ok (.dup, 1) := by decide +kernel
theorem dX10_next_83 : decode cX10_next 83 = .ok (.getfield 108, 3) := by decide +kernel
theorem dX10_next_86 : decode cX10_next 86 = .ok (.iconst 1, 1) := by decide +kernel
theorem dX10_next_87 : decode cX10_next 87 = .ok (.iadd, 1) := by decide +kernel
theorem dX10_next_88 : decode cX10_next 88 = .ok (.putfield 108, 3) := by decide +kernel
theorem dX10_next_91 : decode cX10_next 91 = .ok (.goto (-35), 3) := by decide +kernel
theorem dX10_next_94 : decode cX10_next 94 = .ok (.iconst 1, 1) := by decide +kernel
theorem dX10_next_95 : decode cX10_next 95 = .ok (.istore_n 1, 1) := by decide +kernel
theorem dX10_next_96 : decode cX10_next 96 = .ok (.goto (-94), 3) := by decide +kernel
theorem dX10_next_99 : decode cX10_next 99 = .ok (.aload_n 0, 1) := by decide +kernel
theorem dX10_next_100 : decode cX10_next 100 = .ok (.getfield 108, 3) := by decide +kernel
theorem dX10_next_103 : decode cX10_next 103 = .ok (.aload_n 0, 1) := by decide +kernel
theorem dX10_next_104 : decode cX10_next 104 = .ok (.getfield 111, 3) := by decide +kernel
theorem dX10_next_107 : decode cX10_next 107 = .ok (.if_icmp .ge (-105), 3) := by decide +kernel
theorem dX10_next_110 : decode cX10_next 110 = .ok (.aload_n 0, 1) := by decide +kernel
theorem dX10_next_111 : decode cX10_next 111 = .ok (.getfield 13, 3) := by decide +kernel
theorem dX10_next_114 : decode cX10_next 114 = .ok (.aload_n 0, 1) := by decide +kernel
theorem dX10_next_115 : decode cX10_next 115 = .ok (.getfield 108, 3) := by decide +kernel
theorem dX10_next_118 : decode cX10_next 118 = .ok (.iaload, 1) := by decide +kernel
theorem dX10_next_119 : decode cX10_next 119 = .ok (.invokestatic 114, 3) := by decide +kernel
theorem dX10_next_122 : decode cX10_next 122 = .ok (.ifCond .eq (-120), 3) := by decide +kernel
theorem dX10_next_125 : decode cX10_next 125 = .ok (.aload_n 0, 1) := by decide +kernel
theorem dX10_next_126 : decode cX10_next 126 = .ok (.dup, 1) := by decide +kernel
theorem dX10_next_127 : decode cX10_next 127 = .ok (.getfield 108, 3) := by decide +kernel
theorem dX10_next_130 : decode cX10_next 130 = .ok (.iconst 1, 1) := by decide +kernel
theorem dX10_next_131 : decode cX10_next 131 = .ok (.iadd, 1) := by decide +kernel
theorem dX10_next_132 : decode cX10_next 132 = .ok (.putfield 108, 3) := by decide +kernel
theorem dX10_next_135 : decode cX10_next 135 = .ok (.iconst 1, 1) := by decide +kernel
theorem dX10_next_136 : decode cX10_next 136 = .ok (.istore_n 1, 1) := by decide +kernel
theorem dX10_next_137 : decode cX10_next 137 = .ok (.goto (-135), 3) := by decide +kernel
theorem dX10_next_140 : decode cX10_next 140 = .ok (.aload_n 0, 1) := by decide +kernel
theorem dX10_next_141 : decode cX10_next 141 = .ok (.aload_n 0, 1) := by decide +kernel
theorem dX10_next_142 : decode cX10_next 142 = .ok (.getfield 108, 3) := by decide +kernel
theorem dX10_next_145 : decode cX10_next 145 = .ok (.putfield 118, 3) := by decide +kernel
theorem dX10_next_148 : decode cX10_next 148 = .ok (.aload_n 0, 1) := by decide +kernel
theorem dX10_next_149 : decode cX10_next 149 = .ok (.getfield 108, 3) := by decide +kernel
theorem dX10_next_152 : decode cX10_next 152 = .ok (.aload_n 0, 1) := by decide +kernel
theorem dX10_next_153 : decode cX10_next 153 = .ok (.getfield 111, 3) := by decide +kernel
theorem dX10_next_156 : decode cX10_next 156 = .ok (.if_icmp .ge 31, 3) := by decide +kernel
theorem dX10_next_159 : decode cX10_next 159 = .ok (.aload_n 0, 1) := by decide +kernel
theorem dX10_next_160 : decode cX10_next 160 = .ok (.getfield 13, 3) := by decide +kernel
theorem dX10_next_163 : decode cX10_next 163 = .ok (.aload_n 0, 1) := by decide +kernel
theorem dX10_next_164 : decode cX10_next 164 = .ok (.getfield 108, 3) := by decide +kernel
theorem dX10_next_167 : decode cX10_next 167 = .ok (.iaload, 1) := by decide +kernel
theorem dX10_next_168 : decode cX10_next 168 = .ok (.invokestatic 114, 3) := by decide +kernel
theorem dX10_next_171 : decode cX10_next 171 = .ok (.ifCond .ne 16, 3) := by decide +kernel
theorem dX10_next_174 : decode cX10_next 174 = .ok (.aload_n 0, 1) := by decide +kernel
theorem dX10_next_175 : decode cX10_next 175 = .ok (.dup, 1) := by decide +kernel
theorem dX10_next_176 : decode cX10_next 176 = .ok (.getfield 108, 3) := by decide +kernel
theorem dX10_next_179 : decode cX10_next 179 = .ok (.iconst 1, 1) := by decide +kernel
theorem dX10_next_180 : decode cX10_next 180 = .ok (.iadd, 1) := by decide +kernel
theorem dX10_next_181 : decode cX10_next 181 = .ok (.putfield 108, 3) := by decide +kernel
theorem dX10_next_184 : decode cX10_next 184 = .ok (.goto (-36), 3) := by decide +kernel
theorem dX10_next_187 : decode cX10_next 187 = .ok (.aload_n 0, 1) := by decide +kernel
theorem dX10_next_188 : decode cX10_next 188 = .ok (.aload_n 0, 1) := by decide +kernel
theorem dX10_next_189 : decode cX10_next 189 = .ok (.getfield 108, 3) := by decide +kernel
theorem dX10_next_192 : decode cX10_next 192 = .ok (.putfield 121, 3) := by decide +kernel
theorem dX10_next_195 : decode cX10_next 195 = .ok (.aload_n 0, 1) := by decide +kernel
theorem dX10_next_196 : decode cX10_next 196 = .ok (.getfield 118, 3) := by decide +kernel
theorem dX10_next_199 : decode cX10_next 199 = .ok (.aload_n 0, 1) := by decide +kernel
theorem dX10_next_200 : decode cX10_next 200 = .ok (.getfield 121, 3) := by decide +kernel
theorem dX10_next_203 : decode cX10_next 203 = .ok (.if_icmp .ge 7, 3) := by decide +kernel
theorem dX10_next_206 : decode cX10_next 206 = .ok (.iconst 1, 1) := by decide +kernel
theorem dX10_next_207 : decode cX10_next 207 = .ok (.goto 4, 3) := by decide +kernel
theorem dX10_next_210 : decode cX10_next 210 = .ok (.iconst 0, 1) := by decide +kernel
theorem dX10_next_211 : decode cX10_next 211 = .ok (.ireturn, 1) := by decide +kernel
theorem dX10_need_0 : decode cX10_need 0 = .ok (.aload_n 0, 1) := by decide +kernel
theorem dX10_need_1 : decode cX10_need 1 = .ok (.getfield 102, 3) := by decide +kernel
theorem dX10_need_4 : decode cX10_need 4 = .ok (.ifCond .ne 19, 3) := by decide +kernel
theorem dX10_need_7 : decode cX10_need 7 = .ok (.aload_n 0, 1) := by decide +kernel
theorem dX10_need_8 : decode cX10_need 8 = .ok (.invokevirtual 124, 3) := by decide +kernel
theorem dX10_need_11 : decode cX10_need 11 = .ok (.ifCond .ne 12, 3) := by decide +kernel
theorem dX10_need_14 : decode cX10_need 14 = .ok (.aload_n 0, 1) := by decide +kernel
theorem dX10_need_15 : decode cX10_need 15 = .ok (.iconst 1, 1) := by decide +kernel
theorem dX10_need_16 : decode cX10_need 16 = .ok (.aload_n 0, 1) := by decide +kernel
theorem dX10_need_17 : decode cX10_need 17 = .ok (.getfield 111, 3) := by decide +kernel
theorem dX10_need_20 : decode cX10_need 20 = .ok (.invokevirtual 128, 3) := by decide +kernel
theorem dX10_need_23 : decode cX10_need 23 = .ok (.return_, 1) := by decide +kernel
theorem dX10_isWord_0 : decode cX10_isWord 0 = .ok (.aload_n 0, 1) := by decide +kernel
theorem dX10_isWord_1 : decode cX10_isWord 1 = .ok (.getfield 121, 3) := by decide +kernel
theorem dX10_isWord_4 : decode cX10_isWord 4 = .ok (.aload_n 0, 1) := by decide +kernel
theorem dX10_isWord_5 : decode cX10_isWord 5 = .ok (.getfield 118, 3) := by decide +kernel
theorem dX10_isWord_8 : decode cX10_isWord 8 = .ok (.isub, 1) := by decide +kernel
theorem dX10_isWord_9 : decode cX10_isWord 9 = .ok (.iload_n 1, 1) := by decide +kernel
theorem dX10_isWord_10 : decode cX10_isWord 10 = .ok (.if_icmp .ne 61, 3) := by decide +kernel
theorem dX10_isWord_13 : decode cX10_isWord 13 = .ok (.aload_n 0, 1) := by decide +kernel
theorem dX10_isWord_14 : decode cX10_isWord 14 = .ok (.getfield 13, 3) := by decide +kernel
theorem dX10_isWord_17 : decode cX10_isWord 17 = .ok (.aload_n 0, 1) := by decide +kernel
theorem dX10_isWord_18 : decode cX10_isWord 18 = .ok (.getfield 118, 3) := by decide +kernel
theorem dX10_isWord_21 : decode cX10_isWord 21 = .ok (.iaload, 1) := by decide +kernel
theorem dX10_isWord_22 : decode cX10_isWord 22 = .ok (.iload_n 2, 1) := by decide +kernel
theorem dX10_isWord_23 : decode cX10_isWord 23 = .ok (.if_icmp .ne 48, 3) := by decide +kernel
theorem dX10_isWord_26 : decode cX10_isWord 26 = .ok (.iload_n 1, 1) := by decide +kernel
theorem dX10_isWord_27 : decode cX10_isWord 27 = .ok (.iconst 2, 1) := by decide +kernel
theorem dX10_isWord_28 : decode cX10_isWord 28 = .ok (.if_icmp .lt 18, 3) := by decide +kernel
theorem dX10_isWord_31 : decode cX10_isWord 31 = .ok (.aload_n 0, 1) := by decide +kernel
theorem dX10_isWord_32 : decode cX10_isWord 32 = .ok (.getfield 13, 3) := by decide +kernel
theorem dX10_isWord_35 : decode cX10_isWord 35 = .ok (.aload_n 0, 1) := by decide +kernel
theorem dX10_isWord_36 : decode cX10_isWord 36 = .ok (.getfield 118, 3) := by decide +kernel
theorem dX10_isWord_39 : decode cX10_isWord 39 = .ok (.iconst 1, 1) := by decide +kernel
theorem dX10_isWord_40 : decode cX10_isWord 40 = .ok (.iadd, 1) := by decide +kernel
theorem dX10_isWord_41 : decode cX10_isWord 41 = .ok (.iaload, 1) := by decide +kernel
theorem dX10_isWord_42 : decode cX10_isWord 42 = .ok (.iload_n 3, 1) := by decide +kernel
theorem dX10_isWord_43 : decode cX10_isWord 43 = .ok (.if_icmp .ne 28, 3) := by decide +kernel
theorem dX10_isWord_46 : decode cX10_isWord 46 = .ok (.iload_n 1, 1) := by decide +kernel
theorem dX10_isWord_47 : decode cX10_isWord 47 = .ok (.iconst 3, 1) := by decide +kernel
theorem dX10_isWord_48 : decode cX10_isWord 48 = .ok (.if_icmp .lt 19, 3) := by decide +kernel
theorem dX10_isWord_51 : decode cX10_isWord 51 = .ok (.aload_n 0, 1) := by decide +kernel
theorem dX10_isWord_52 : decode cX10_isWord 52 = .ok (.getfield 13, 3) := by decide +kernel
theorem dX10_isWord_55 : decode cX10_isWord 55 = .ok (.aload_n 0, 1) := by decide +kernel
theorem dX10_isWord_56 : decode cX10_isWord 56 = .ok (.getfield 118, 3) := by decide +kernel
theorem dX10_isWord_59 : decode cX10_isWord 59 = .ok (.iconst 2, 1) := by decide +kernel
theorem dX10_isWord_60 : decode cX10_isWord 60 = .ok (.iadd, 1) := by decide +kernel
theorem dX10_isWord_61 : decode cX10_isWord 61 = .ok (.iaload, 1) := by decide +kernel
theorem dX10_isWord_62 : decode cX10_isWord 62 = .ok (.iload 4, 2) := by decide +kernel
theorem dX10_isWord_64 : decode cX10_isWord 64 = .ok (.if_icmp .ne 7, 3) := by decide +kernel
theorem dX10_isWord_67 : decode cX10_isWord 67 = .ok (.iconst 1, 1) := by decide +kernel
theorem dX10_isWord_68 : decode cX10_isWord 68 = .ok (.goto 4, 3) := by decide +kernel
theorem dX10_isWord_71 : decode cX10_isWord 71 = .ok (.iconst 0, 1) := by decide +kernel
theorem dX10_isWord_72 : decode cX10_isWord 72 = .ok (.ireturn, 1) := by decide +kernel
theorem dX10_number_0 : decode cX10_number 0 = .ok (.aload_n 0, 1) := by decide +kernel
theorem dX10_number_1 : decode cX10_number 1 = .ok (.getfield 102, 3) := by decide +kernel
theorem dX10_number_4 : decode cX10_number 4 = .ok (.ifCond .eq 5, 3) := by decide +kernel
theorem dX10_number_7 : decode cX10_number 7 = .ok (.iconst 0, 1) := by decide +kernel
theorem dX10_number_8 : decode cX10_number 8 = .ok (.ireturn, 1) := by decide +kernel
theorem dX10_number_9 : decode cX10_number 9 = .ok (.aload_n 0, 1) := by decide +kernel
theorem dX10_number_10 : decode cX10_number 10 = .ok (.getfield 13, 3) := by decide +kernel
theorem dX10_number_13 : decode cX10_number 13 = .ok (.aload_n 0, 1) := by decide +kernel
theorem dX10_number_14 : decode cX10_number 14 = .ok (.getfield 118, 3) := by decide +kernel
theorem dX10_number_17 : decode cX10_number 17 = .ok (.iaload, 1) := by decide +kernel
theorem dX10_number_18 : decode cX10_number 18 = .ok (.bipush 45, 2) := by decide +kernel
theorem dX10_number_20 : decode cX10_number 20 = .ok (.if_icmp .ne 7, 3) := by decide +kernel
theorem dX10_number_23 : decode cX10_number 23 = .ok (.iconst 1, 1) := by decide +kernel
theorem dX10_number_24 : decode cX10_number 24 = .ok (.goto 4, 3) := by decide +kernel
theorem dX10_number_27 : decode cX10_number 27 = .ok (.iconst 0, 1) := by decide +kernel
theorem dX10_number_28 : decode cX10_number 28 = .ok (.istore_n 1, 1) := by decide +kernel
theorem dX10_number_29 : decode cX10_number 29 = .ok (.iload_n 1, 1) := by decide +kernel
theorem dX10_number_30 : decode cX10_number 30 = .ok (.ifCond .eq 12, 3) := by decide +kernel
theorem dX10_number_33 : decode cX10_number 33 = .ok (.aload_n 0, 1) := by decide +kernel
theorem dX10_number_34 : decode cX10_number 34 = .ok (.getfield 118, 3) := by decide +kernel
theorem dX10_number_37 : decode cX10_number 37 = .ok (.iconst 1, 1) := by decide +kernel
theorem dX10_number_38 : decode cX10_number 38 = .ok (.iadd, 1) := by decide +kernel
theorem dX10_number_39 : decode cX10_number 39 = .ok (.goto 7, 3) := by decide +kernel
theorem dX10_number_42 : decode cX10_number 42 = .ok (.aload_n 0, 1) := by decide +kernel
theorem dX10_number_43 : decode cX10_number 43 = .ok (.getfield 118, 3) := by decide +kernel
theorem dX10_number_46 : decode cX10_number 46 = .ok (.istore_n 2, 1) := by decide +kernel
theorem dX10_number_47 : decode cX10_number 47 = .ok (.aload_n 0, 1) := by decide +kernel
theorem dX10_number_48 : decode cX10_number 48 = .ok (.getfield 121, 3) := by decide +kernel
theorem dX10_number_51 : decode cX10_number 51 = .ok (.iload_n 2, 1) := by decide +kernel
theorem dX10_number_52 : decode cX10_number 52 = .ok (.if_icmp .le 18, 3) := by decide +kernel
theorem dX10_number_55 : decode cX10_number 55 = .ok (.aload_n 0, 1) := by decide +kernel
theorem dX10_number_56 : decode cX10_number 56 = .ok (.getfield 121, 3) := by decide +kernel
theorem dX10_number_59 : decode cX10_number 59 = .ok (.iload_n 2, 1) := by decide +kernel
theorem dX10_number_60 : decode cX10_number 60 = .ok (.isub, 1) := by decide +kernel
theorem dX10_number_61 : decode cX10_number 61 = .ok (.bipush 6, 2) := by decide +kernel
theorem dX10_number_63 : decode cX10_number 63 = .ok (.if_icmp .gt 7, 3) := by decide +kernel
theorem dX10_number_66 : decode cX10_number 66 = .ok (.iconst 1, 1) := by decide +kernel
theorem dX10_number_67 : decode cX10_number 67 = .ok (.goto 4, 3) := by decide +kernel
theorem dX10_number_70 : decode cX10_number 70 = .ok (.iconst 0, 1) := by decide +kernel
theorem dX10_number_71 : decode cX10_number 71 = .ok (.istore_n 3, 1) := by decide +kernel
theorem dX10_number_72 : decode cX10_number 72 = .ok (.iconst 0, 1) := by decide +kernel
theorem dX10_number_73 : decode cX10_number 73 = .ok (.istore 4, 2) := by decide +kernel
theorem dX10_number_75 : decode cX10_number 75 = .ok (.iload_n 2, 1) := by decide +kernel
theorem dX10_number_76 : decode cX10_number 76 = .ok (.istore 5, 2) := by decide +kernel
theorem dX10_number_78 : decode cX10_number 78 = .ok (.iload 5, 2) := by decide +kernel
theorem dX10_number_80 : decode cX10_number 80 = .ok (.aload_n 0, 1) := by decide +kernel
theorem dX10_number_81 : decode cX10_number 81 = .ok (.getfield 121, 3) := by decide +kernel
theorem dX10_number_84 : decode cX10_number 84 = .ok (.if_icmp .ge 61, 3) := by decide +kernel
theorem dX10_number_87 : decode cX10_number 87 = .ok (.iload_n 3, 1) := by decide +kernel
theorem dX10_number_88 : decode cX10_number 88 = .ok (.ifCond .eq 57, 3) := by decide +kernel
theorem dX10_number_91 : decode cX10_number 91 = .ok (.aload_n 0, 1) := by decide +kernel
theorem dX10_number_92 : decode cX10_number 92 = .ok (.getfield 13, 3) := by decide +kernel
theorem dX10_number_95 : decode cX10_number 95 = .ok (.iload 5, 2) := by decide +kernel
theorem dX10_number_97 : decode cX10_number 97 = .ok (.iaload, 1) := by decide +kernel
theorem dX10_number_98 : decode cX10_number 98 = .ok (.bipush 48, 2) := by decide +kernel
theorem dX10_number_100 : decode cX10_number 100 = .ok (.if_icmp .lt 19, 3) := by decide +kernel
theorem dX10_number_103 : decode cX10_number 103 = .ok (.aload_n 0, 1) := by decide +kernel
theorem dX10_number_104 : decode cX10_number 104 = .ok (.getfield 13, 3) := by decide +kernel
theorem dX10_number_107 : decode cX10_number 107 = .ok (.iload 5, 2) := by decide +kernel
theorem dX10_number_109 : decode cX10_number 109 = .ok (.iaload, 1) := by decide +kernel
theorem dX10_number_110 : decode cX10_number 110 = .ok (.bipush 57, 2) := by decide +kernel
theorem dX10_number_112 : decode cX10_number 112 = .ok (.if_icmp .gt 7, 3) := by decide +kernel
theorem dX10_number_115 : decode cX10_number 115 = .ok (.iconst 1, 1) := by decide +kernel
theorem dX10_number_116 : decode cX10_number 116 = .ok (.goto 4, 3) := by decide +kernel
theorem dX10_number_119 : decode cX10_number 119 = .ok (.iconst 0, 1) := by decide +kernel
theorem dX10_number_120 : decode cX10_number 120 = .ok (.istore_n 3, 1) := by decide +kernel
theorem dX10_number_121 : decode cX10_number 121 = .ok (.bipush 10, 2) := by decide +kernel
theorem dX10_number_123 : decode cX10_number 123 = .ok (.iload 4, 2) := by decide +kernel
theorem dX10_number_125 : decode cX10_number 125 = .ok (.imul, 1) := by decide +kernel
theorem dX10_number_126 : decode cX10_number 126 = .ok (.aload_n 0, 1) := by decide +kernel
theorem dX10_number_127 : decode cX10_number 127 = .ok (.getfield 13, 3) := by decide +kernel
theorem dX10_number_130 : decode cX10_number 130 = .ok (.iload 5, 2) := by decide +kernel
theorem dX10_number_132 : decode cX10_number 132 = .ok (.iaload, 1) := by decide +kernel
theorem dX10_number_133 : decode cX10_number 133 = .ok (.iadd, 1) := by decide +kernel
theorem dX10_number_134 : decode cX10_number 134 = .ok (.bipush 48, 2) := by decide +kernel
theorem dX10_number_136 : decode cX10_number 136 = .ok (.isub, 1) := by decide +kernel
theorem dX10_number_137 : decode cX10_number 137 = .ok (.istore 4, 2) := by decide +kernel
theorem dX10_number_139 : decode cX10_number 139 = .ok (.iinc 5 1, 3) := by decide +kernel
theorem dX10_number_142 : decode cX10_number 142 = .ok (.goto (-64), 3) := by decide +kernel
theorem dX10_number_145 : decode cX10_number 145 = .ok (.iload_n 3, 1) := by decide +kernel
theorem dX10_number_146 : decode cX10_number 146 = .ok (.ifCond .ne 12, 3) := by decide +kernel
theorem dX10_number_149 : decode cX10_number 149 = .ok (.aload_n 0, 1) := by decide +kernel
theorem dX10_number_150 : decode cX10_number 150 = .ok (.iconst 1, 1) := by decide +kernel
theorem dX10_number_151 : decode cX10_number 151 = .ok (.aload_n 0, 1) := by decide +kernel
theorem dX10_number_152 : decode cX10_number 152 = .ok (.getfield 118, 3) := by decide +kernel
theorem dX10_number_155 : decode cX10_number 155 = .ok (.invokevirtual 128, 3) := by decide +kernel
theorem dX10_number_158 : decode cX10_number 158 = .ok (.iload_n 1, 1) := by decide +kernel
theorem dX10_number_159 : decode cX10_number 159 = .ok (.ifCond .eq 9, 3) := by decide +kernel
theorem dX10_number_162 : decode cX10_number 162 = .ok (.iload 4, 2) := by decide +kernel
theorem dX10_number_164 : decode cX10_number 164 = .ok (.ineg, 1) := by decide +kernel
theorem dX10_number_165 : decode cX10_number 165 = .ok (.goto 5, 3) := by decide +kernel
theorem dX10_number_168 : decode cX10_number 168 = .ok (.iload 4, 2) := by decide +kernel
theorem dX10_number_170 : decode cX10_number 170 = .ok (.ireturn, 1) := by decide +kernel
theorem dX10_within_0 : decode cX10_within 0 = .ok (.aload_n 0, 1) := by decide +kernel
theorem dX10_within_1 : decode cX10_within 1 = .ok (.invokevirtual 132, 3) := by decide +kernel
theorem dX10_within_4 : decode cX10_within 4 = .ok (.aload_n 0, 1) := by decide +kernel
theorem dX10_within_5 : decode cX10_within 5 = .ok (.invokevirtual 135, 3) := by decide +kernel
theorem dX10_within_8 : decode cX10_within 8 = .ok (.istore_n 2, 1) := by decide +kernel
theorem dX10_within_9 : decode cX10_within 9 = .ok (.iload_n 2, 1) := by decide +kernel
theorem dX10_within_10 : decode cX10_within 10 = .ok (.ifCond .lt 8, 3) := by decide +kernel
theorem dX10_within_13 : decode cX10_within 13 = .ok (.iload_n 2, 1) := by decide +kernel
theorem dX10_within_14 : decode cX10_within 14 = .ok (.iload_n 1, 1) := by decide +kernel
theorem dX10_within_15 : decode cX10_within 15 = .ok (.if_icmp .le 12, 3) := by decide +kernel
theorem dX10_within_18 : decode cX10_within 18 = .ok (.aload_n 0, 1) := by decide +kernel
theorem dX10_within_19 : decode cX10_within 19 = .ok (.iconst 2, 1) := by decide +kernel
theorem dX10_within_20 : decode cX10_within 20 = .ok (.aload_n 0, 1) := by decide +kernel
theorem dX10_within_21 : decode cX10_within 21 = .ok (.getfield 118, 3) := by decide +kernel
theorem dX10_within_24 : decode cX10_within 24 = .ok (.invokevirtual 128, 3) := by decide +kernel
theorem dX10_within_27 : decode cX10_within 27 = .ok (.iload_n 2, 1) := by decide +kernel
theorem dX10_within_28 : decode cX10_within 28 = .ok (.ireturn, 1) := by decide +kernel
theorem dX10_beginRead_0 : decode cX10_beginRead 0 = .ok (.aload_n 0, 1) := by decide +kernel
theorem dX10_beginRead_1 : decode cX10_beginRead 1 = .ok (.iconst 0, 1) := by decide +kernel
theorem dX10_beginRead_2 : decode cX10_beginRead 2 = .ok (.putfield 139, 3) := by decide +kernel
theorem dX10_beginRead_5 : decode cX10_beginRead 5 = .ok (.aload_n 0, 1) := by decide +kernel
theorem dX10_beginRead_6 : decode cX10_beginRead 6 = .ok (.iconst 0, 1) := by decide +kernel
theorem dX10_beginRead_7 : decode cX10_beginRead 7 = .ok (.putfield 142, 3) := by decide +kernel
theorem dX10_beginRead_10 : decode cX10_beginRead 10 = .ok (.aload_n 0, 1) := by decide +kernel
theorem dX10_beginRead_11 : decode cX10_beginRead 11 = .ok (.iconst 0, 1) := by decide +kernel
theorem dX10_beginRead_12 : decode cX10_beginRead 12 = .ok (.putfield 145, 3) := by decide +kernel
theorem dX10_beginRead_15 : decode cX10_beginRead 15 = .ok (.aload_n 0, 1) := by decide +kernel
theorem dX10_beginRead_16 : decode cX10_beginRead 16 = .ok (.iload_n 1, 1) := by decide +kernel
theorem dX10_beginRead_17 : decode cX10_beginRead 17 = .ok (.putfield 148, 3) := by decide +kernel
theorem dX10_beginRead_20 : decode cX10_beginRead 20 = .ok (.aload_n 0, 1) := by decide +kernel
theorem dX10_beginRead_21 : decode cX10_beginRead 21 = .ok (.iconst 0, 1) := by decide +kernel
theorem dX10_beginRead_22 : decode cX10_beginRead 22 = .ok (.putfield 102, 3) := by decide +kernel
theorem dX10_beginRead_25 : decode cX10_beginRead 25 = .ok (.aload_n 0, 1) := by decide +kernel
theorem dX10_beginRead_26 : decode cX10_beginRead 26 = .ok (.iconst 0, 1) := by decide +kernel
theorem dX10_beginRead_27 : decode cX10_beginRead 27 = .ok (.putfield 108, 3) := by decide +kernel
theorem dX10_beginRead_30 : decode cX10_beginRead 30 = .ok (.return_, 1) := by decide +kernel
theorem dX10_beginRow_0 : decode cX10_beginRow 0 = .ok (.aload_n 0, 1) := by decide +kernel
theorem dX10_beginRow_1 : decode cX10_beginRow 1 = .ok (.dup, 1) := by decide +kernel
theorem dX10_beginRow_2 : decode cX10_beginRow 2 = .ok (.getfield 139, 3) := by decide +kernel
theorem dX10_beginRow_5 : decode cX10_beginRow 5 = .ok (.iconst 1, 1) := by decide +kernel
theorem dX10_beginRow_6 : decode cX10_beginRow 6 = .ok (.iadd, 1) := by decide +kernel
theorem dX10_beginRow_7 : decode cX10_beginRow 7 = .ok (.putfield 139, 3) := by decide +kernel
theorem dX10_beginRow_10 : decode cX10_beginRow 10 = .ok (.aload_n 0, 1) := by decide +kernel
theorem dX10_beginRow_11 : decode cX10_beginRow 11 = .ok (.getfield 42, 3) := by decide +kernel
theorem dX10_beginRow_14 : decode cX10_beginRow 14 = .ok (.aload_n 0, 1) := by decide +kernel
theorem dX10_beginRow_15 : decode cX10_beginRow 15 = .ok (.getfield 139, 3) := by decide +kernel
theorem dX10_beginRow_18 : decode cX10_beginRow 18 = .ok (.aload_n 0, 1) := by decide +kernel
theorem dX10_beginRow_19 : decode cX10_beginRow 19 = .ok (.getfield 142, 3) := by decide +kernel
theorem dX10_beginRow_22 : decode cX10_beginRow 22 = .ok (.iastore, 1) := by decide +kernel
theorem dX10_beginRow_23 : decode cX10_beginRow 23 = .ok (.aload_n 0, 1) := by decide +kernel
theorem dX10_beginRow_24 : decode cX10_beginRow 24 = .ok (.getfield 45, 3) := by decide +kernel
theorem dX10_beginRow_27 : decode cX10_beginRow 27 = .ok (.aload_n 0, 1) := by decide +kernel
theorem dX10_beginRow_28 : decode cX10_beginRow 28 = .ok (.getfield 139, 3) := by decide +kernel
theorem dX10_beginRow_31 : decode cX10_beginRow 31 = .ok (.iconst 0, 1) := by decide +kernel
theorem dX10_beginRow_32 : decode cX10_beginRow 32 = .ok (.iastore, 1) := by decide +kernel
theorem dX10_beginRow_33 : decode cX10_beginRow 33 = .ok (.aload_n 0, 1) := by decide +kernel
theorem dX10_beginRow_34 : decode cX10_beginRow 34 = .ok (.getfield 51, 3) := by decide +kernel
theorem dX10_beginRow_37 : decode cX10_beginRow 37 = .ok (.aload_n 0, 1) := by decide +kernel
theorem dX10_beginRow_38 : decode cX10_beginRow 38 = .ok (.getfield 139, 3) := by decide +kernel
theorem dX10_beginRow_41 : decode cX10_beginRow 41 = .ok (.iconst 0, 1) := by decide +kernel
theorem dX10_beginRow_42 : decode cX10_beginRow 42 = .ok (.bastore, 1) := by decide +kernel
theorem dX10_beginRow_43 : decode cX10_beginRow 43 = .ok (.aload_n 0, 1) := by decide +kernel
theorem dX10_beginRow_44 : decode cX10_beginRow 44 = .ok (.iconst 0, 1) := by decide +kernel
theorem dX10_beginRow_45 : decode cX10_beginRow 45 = .ok (.putfield 151, 3) := by decide +kernel
theorem dX10_beginRow_48 : decode cX10_beginRow 48 = .ok (.return_, 1) := by decide +kernel
theorem dX10_literal_0 : decode cX10_literal 0 = .ok (.iload_n 1, 1) := by decide +kernel
theorem dX10_literal_1 : decode cX10_literal 1 = .ok (.aload_n 0, 1) := by decide +kernel
theorem dX10_literal_2 : decode cX10_literal 2 = .ok (.getfield 148, 3) := by decide +kernel
theorem dX10_literal_5 : decode cX10_literal 5 = .ok (.ineg, 1) := by decide +kernel
theorem dX10_literal_6 : decode cX10_literal 6 = .ok (.if_icmp .lt 11, 3) := by decide +kernel
theorem dX10_literal_9 : decode cX10_literal 9 = .ok (.iload_n 1, 1) := by decide +kernel
theorem dX10_literal_10 : decode cX10_literal 10 = .ok (.aload_n 0, 1) := by decide +kernel
theorem dX10_literal_11 : decode cX10_literal 11 = .ok (.getfield 148, 3) := by decide +kernel
theorem dX10_literal_14 : decode cX10_literal 14 = .ok (.if_icmp .le 12, 3) := by decide +kernel
theorem dX10_literal_17 : decode cX10_literal 17 = .ok (.aload_n 0, 1) := by decide +kernel
theorem dX10_literal_18 : decode cX10_literal 18 = .ok (.iconst 2, 1) := by decide +kernel
theorem dX10_literal_19 : decode cX10_literal 19 = .ok (.iload_n 2, 1) := by decide +kernel
theorem dX10_literal_20 : decode cX10_literal 20 = .ok (.invokevirtual 128, 3) := by decide +kernel
theorem dX10_literal_23 : decode cX10_literal 23 = .ok (.goto 28, 3) := by decide +kernel
theorem dX10_literal_26 : decode cX10_literal 26 = .ok (.aload_n 0, 1) := by decide +kernel
theorem dX10_literal_27 : decode cX10_literal 27 = .ok (.getfield 151, 3) := by decide +kernel
theorem dX10_literal_30 : decode cX10_literal 30 = .ok (.bipush 40, 2) := by decide +kernel
theorem dX10_literal_32 : decode cX10_literal 32 = .ok (.if_icmp .eq 13, 3) := by decide +kernel
theorem dX10_literal_35 : decode cX10_literal 35 = .ok (.aload_n 0, 1) := by decide +kernel
theorem dX10_literal_36 : decode cX10_literal 36 = .ok (.getfield 145, 3) := by decide +kernel
theorem dX10_literal_39 : decode cX10_literal 39 = .ok (.sipush 2000, 3) := by decide +kernel
theorem dX10_literal_42 : decode cX10_literal 42 = .ok (.if_icmp .ne 9, 3) := by decide +kernel
theorem dX10_literal_45 : decode cX10_literal 45 = .ok (.aload_n 0, 1) := by decide +kernel
theorem dX10_literal_46 : decode cX10_literal 46 = .ok (.iconst 3, 1) := by decide +kernel
theorem dX10_literal_47 : decode cX10_literal 47 = .ok (.iload_n 2, 1) := by decide +kernel
theorem dX10_literal_48 : decode cX10_literal 48 = .ok (.invokevirtual 128, 3) := by decide +kernel
theorem dX10_literal_51 : decode cX10_literal 51 = .ok (.aload_n 0, 1) := by decide +kernel
theorem dX10_literal_52 : decode cX10_literal 52 = .ok (.getfield 102, 3) := by decide +kernel
theorem dX10_literal_55 : decode cX10_literal 55 = .ok (.ifCond .eq 4, 3) := by decide +kernel
theorem dX10_literal_58 : decode cX10_literal 58 = .ok (.return_, 1) := by decide +kernel
theorem dX10_literal_59 : decode cX10_literal 59 = .ok (.aload_n 0, 1) := by decide +kernel
theorem dX10_literal_60 : decode cX10_literal 60 = .ok (.dup, 1) := by decide +kernel
theorem dX10_literal_61 : decode cX10_literal 61 = .ok (.getfield 151, 3) := by decide +kernel
theorem dX10_literal_64 : decode cX10_literal 64 = .ok (.iconst 1, 1) := by decide +kernel
theorem dX10_literal_65 : decode cX10_literal 65 = .ok (.iadd, 1) := by decide +kernel
theorem dX10_literal_66 : decode cX10_literal 66 = .ok (.putfield 151, 3) := by decide +kernel
theorem dX10_literal_69 : decode cX10_literal 69 = .ok (.aload_n 0, 1) := by decide +kernel
theorem dX10_literal_70 : decode cX10_literal 70 = .ok (.dup, 1) := by decide +kernel
theorem dX10_literal_71 : decode cX10_literal 71 = .ok (.getfield 145, 3) := by decide +kernel
theorem dX10_literal_74 : decode cX10_literal 74 = .ok (.iconst 1, 1) := by decide +kernel
theorem dX10_literal_75 : decode cX10_literal 75 = .ok (.iadd, 1) := by decide +kernel
theorem dX10_literal_76 : decode cX10_literal 76 = .ok (.putfield 145, 3) := by decide +kernel
theorem dX10_literal_79 : decode cX10_literal 79 = .ok (.aload_n 0, 1) := by decide +kernel
theorem dX10_literal_80 : decode cX10_literal 80 = .ok (.getfield 42, 3) := by decide +kernel
theorem dX10_literal_83 : decode cX10_literal 83 = .ok (.aload_n 0, 1) := by decide +kernel
theorem dX10_literal_84 : decode cX10_literal 84 = .ok (.getfield 139, 3) := by decide +kernel
theorem dX10_literal_87 : decode cX10_literal 87 = .ok (.iaload, 1) := by decide +kernel
theorem dX10_literal_88 : decode cX10_literal 88 = .ok (.istore_n 3, 1) := by decide +kernel
theorem dX10_literal_89 : decode cX10_literal 89 = .ok (.iload_n 3, 1) := by decide +kernel
theorem dX10_literal_90 : decode cX10_literal 90 = .ok (.aload_n 0, 1) := by decide +kernel
theorem dX10_literal_91 : decode cX10_literal 91 = .ok (.getfield 142, 3) := by decide +kernel
theorem dX10_literal_94 : decode cX10_literal 94 = .ok (.if_icmp .ge 20, 3) := by decide +kernel
theorem dX10_literal_97 : decode cX10_literal 97 = .ok (.aload_n 0, 1) := by decide +kernel
theorem dX10_literal_98 : decode cX10_literal 98 = .ok (.getfield 48, 3) := by decide +kernel
theorem dX10_literal_101 : decode cX10_literal 101 = .ok (.iload_n 3, 1) := by decide +kernel
theorem dX10_literal_102 : decode cX10_literal 102 = .ok (.iaload, 1) := by decide +kernel
theorem dX10_literal_103 : decode cX10_literal 103 = .ok (.iload_n 1, 1) := by decide +kernel
theorem dX10_literal_104 : decode cX10_literal 104 = .ok (.if_icmp .ne 4, 3) := by decide +kernel
theorem dX10_literal_107 : decode cX10_literal 107 = .ok (.return_, 1) := by decide +kernel
theorem dX10_literal_108 : decode cX10_literal 108 = .ok (.iinc 3 1, 3) := by decide +kernel
theorem dX10_literal_111 : decode cX10_literal 111 = .ok (.goto (-22), 3) := by decide +kernel
theorem dX10_literal_114 : decode cX10_literal 114 = .ok (.aload_n 0, 1) := by decide +kernel
theorem dX10_literal_115 : decode cX10_literal 115 = .ok (.getfield 48, 3) := by decide +kernel
theorem dX10_literal_118 : decode cX10_literal 118 = .ok (.aload_n 0, 1) := by decide +kernel
theorem dX10_literal_119 : decode cX10_literal 119 = .ok (.getfield 142, 3) := by decide +kernel
theorem dX10_literal_122 : decode cX10_literal 122 = .ok (.iload_n 1, 1) := by decide +kernel
theorem dX10_literal_123 : decode cX10_literal 123 = .ok (.iastore, 1) := by decide +kernel
theorem dX10_literal_124 : decode cX10_literal 124 = .ok (.aload_n 0, 1) := by decide +kernel
theorem dX10_literal_125 : decode cX10_literal 125 = .ok (.dup, 1) := by decide +kernel
theorem dX10_literal_126 : decode cX10_literal 126 = .ok (.getfield 142, 3) := by decide +kernel
theorem dX10_literal_129 : decode cX10_literal 129 = .ok (.iconst 1, 1) := by decide +kernel
theorem dX10_literal_130 : decode cX10_literal 130 = .ok (.iadd, 1) := by decide +kernel
theorem dX10_literal_131 : decode cX10_literal 131 = .ok (.putfield 142, 3) := by decide +kernel
theorem dX10_literal_134 : decode cX10_literal 134 = .ok (.aload_n 0, 1) := by decide +kernel
theorem dX10_literal_135 : decode cX10_literal 135 = .ok (.getfield 45, 3) := by decide +kernel
theorem dX10_literal_138 : decode cX10_literal 138 = .ok (.aload_n 0, 1) := by decide +kernel
theorem dX10_literal_139 : decode cX10_literal 139 = .ok (.getfield 139, 3) := by decide +kernel
theorem dX10_literal_142 : decode cX10_literal 142 = .ok (.dup2, 1) := by decide +kernel
theorem dX10_literal_143 : decode cX10_literal 143 = .ok (.iaload, 1) := by decide +kernel
theorem dX10_literal_144 : decode cX10_literal 144 = .ok (.iconst 1, 1) := by decide +kernel
theorem dX10_literal_145 : decode cX10_literal 145 = .ok (.iadd, 1) := by decide +kernel
theorem dX10_literal_146 : decode cX10_literal 146 = .ok (.iastore, 1) := by decide +kernel
theorem dX10_literal_147 : decode cX10_literal 147 = .ok (.return_, 1) := by decide +kernel
theorem dX10_readRowOf_0 : decode cX10_readRowOf 0 = .ok (.iload_n 1, 1) := by decide +kernel
theorem dX10_readRowOf_1 : decode cX10_readRowOf 1 = .ok (.istore_n 2, 1) := by decide +kernel
theorem dX10_readRowOf_2 : decode cX10_readRowOf 2 = .ok (.aload_n 0, 1) := by decide +kernel
theorem dX10_readRowOf_3 : decode cX10_readRowOf 3 = .ok (.getfield 102, 3) := by decide +kernel
theorem dX10_readRowOf_6 : decode cX10_readRowOf 6 = .ok (.ifCond .ne 7, 3) := by decide +kernel
theorem dX10_readRowOf_9 : decode cX10_readRowOf 9 = .ok (.iconst 1, 1) := by decide +kernel
theorem dX10_readRowOf_10 : decode cX10_readRowOf 10 = .ok (.goto 4, 3) := by decide +kernel
theorem dX10_readRowOf_13 : decode cX10_readRowOf 13 = .ok (.iconst 0, 1) := by decide +kernel
theorem dX10_readRowOf_14 : decode cX10_readRowOf 14 = .ok (.istore_n 3, 1) := by decide +kernel
theorem dX10_readRowOf_15 : decode cX10_readRowOf 15 = .ok (.iload_n 3, 1) := by decide +kernel
theorem dX10_readRowOf_16 : decode cX10_readRowOf 16 = .ok (.ifCond .eq 62, 3) := by decide +kernel
theorem dX10_readRowOf_19 : decode cX10_readRowOf 19 = .ok (.iload_n 2, 1) := by decide +kernel
theorem dX10_readRowOf_20 : decode cX10_readRowOf 20 = .ok (.ifCond .ne 7, 3) := by decide +kernel
theorem dX10_readRowOf_23 : decode cX10_readRowOf 23 = .ok (.aload_n 0, 1) := by decide +kernel
theorem dX10_readRowOf_24 : decode cX10_readRowOf 24 = .ok (.invokevirtual 132, 3) := by decide +kernel
theorem dX10_readRowOf_27 : decode cX10_readRowOf 27 = .ok (.iconst 0, 1) := by decide +kernel
theorem dX10_readRowOf_28 : decode cX10_readRowOf 28 = .ok (.istore_n 2, 1) := by decide +kernel
theorem dX10_readRowOf_29 : decode cX10_readRowOf 29 = .ok (.aload_n 0, 1) := by decide +kernel
theorem dX10_readRowOf_30 : decode cX10_readRowOf 30 = .ok (.invokevirtual 135, 3) := by decide +kernel
theorem dX10_readRowOf_33 : decode cX10_readRowOf 33 = .ok (.istore 4, 2) := by decide +kernel
theorem dX10_readRowOf_35 : decode cX10_readRowOf 35 = .ok (.aload_n 0, 1) := by decide +kernel
theorem dX10_readRowOf_36 : decode cX10_readRowOf 36 = .ok (.getfield 102, 3) := by decide +kernel
theorem dX10_readRowOf_39 : decode cX10_readRowOf 39 = .ok (.ifCond .ne 18, 3) := by decide +kernel
theorem dX10_readRowOf_42 : decode cX10_readRowOf 42 = .ok (.iload 4, 2) := by decide +kernel
theorem dX10_readRowOf_44 : decode cX10_readRowOf 44 = .ok (.ifCond .eq 13, 3) := by decide +kernel
theorem dX10_readRowOf_47 : decode cX10_readRowOf 47 = .ok (.aload_n 0, 1) := by decide +kernel
theorem dX10_readRowOf_48 : decode cX10_readRowOf 48 = .ok (.iload 4, 2) := by decide +kernel
theorem dX10_readRowOf_50 : decode cX10_readRowOf 50 = .ok (.aload_n 0, 1) := by decide +kernel
theorem dX10_readRowOf_51 : decode cX10_readRowOf 51 = .ok (.getfield 118, 3) := by decide +kernel
theorem dX10_readRowOf_54 : decode cX10_readRowOf 54 = .ok (.invokevirtual 154, 3) := by decide +kernel
theorem dX10_readRowOf_57 : decode cX10_readRowOf 57 = .ok (.aload_n 0, 1) := by decide +kernel
theorem dX10_readRowOf_58 : decode cX10_readRowOf 58 = .ok (.getfield 102, 3) := by decide +kernel
theorem dX10_readRowOf_61 : decode cX10_readRowOf 61 = .ok (.ifCond .ne 12, 3) := by decide +kernel
theorem dX10_readRowOf_64 : decode cX10_readRowOf 64 = .ok (.iload 4, 2) := by decide +kernel
theorem dX10_readRowOf_66 : decode cX10_readRowOf 66 = .ok (.ifCond .eq 7, 3) := by decide +kernel
theorem dX10_readRowOf_69 : decode cX10_readRowOf 69 = .ok (.iconst 1, 1) := by decide +kernel
theorem dX10_readRowOf_70 : decode cX10_readRowOf 70 = .ok (.goto 4, 3) := by decide +kernel
theorem dX10_readRowOf_73 : decode cX10_readRowOf 73 = .ok (.iconst 0, 1) := by decide +kernel
theorem dX10_readRowOf_74 : decode cX10_readRowOf 74 = .ok (.istore_n 3, 1) := by decide +kernel
theorem dX10_readRowOf_75 : decode cX10_readRowOf 75 = .ok (.goto (-60), 3) := by decide +kernel
theorem dX10_readRowOf_78 : decode cX10_readRowOf 78 = .ok (.return_, 1) := by decide +kernel
theorem dX10_formula_0 : decode cX10_formula 0 = .ok (.aload_n 0, 1) := by decide +kernel
theorem dX10_formula_1 : decode cX10_formula 1 = .ok (.iconst 0, 1) := by decide +kernel
theorem dX10_formula_2 : decode cX10_formula 2 = .ok (.putfield 96, 3) := by decide +kernel
theorem dX10_formula_5 : decode cX10_formula 5 = .ok (.iload_n 1, 1) := by decide +kernel
theorem dX10_formula_6 : decode cX10_formula 6 = .ok (.ifCond .lt 11, 3) := by decide +kernel
theorem dX10_formula_9 : decode cX10_formula 9 = .ok (.iload_n 1, 1) := by decide +kernel
theorem dX10_formula_10 : decode cX10_formula 10 = .ok (.aload_n 0, 1) := by decide +kernel
theorem dX10_formula_11 : decode cX10_formula 11 = .ok (.getfield 99, 3) := by decide +kernel
theorem dX10_formula_14 : decode cX10_formula 14 = .ok (.if_icmp .le 8, 3) := by decide +kernel
theorem dX10_formula_17 : decode cX10_formula 17 = .ok (.aload_n 0, 1) := by decide +kernel
theorem dX10_formula_18 : decode cX10_formula 18 = .ok (.invokevirtual 157, 3) := by decide +kernel
theorem dX10_formula_21 : decode cX10_formula 21 = .ok (.ireturn, 1) := by decide +kernel
theorem dX10_formula_22 : decode cX10_formula 22 = .ok (.aload_n 0, 1) := by decide +kernel
theorem dX10_formula_23 : decode cX10_formula 23 = .ok (.iload_n 1, 1) := by decide +kernel
theorem dX10_formula_24 : decode cX10_formula 24 = .ok (.invokevirtual 160, 3) := by decide +kernel
theorem dX10_formula_27 : decode cX10_formula 27 = .ok (.aload_n 0, 1) := by decide +kernel
theorem dX10_formula_28 : decode cX10_formula 28 = .ok (.invokevirtual 132, 3) := by decide +kernel
theorem dX10_formula_31 : decode cX10_formula 31 = .ok (.aload_n 0, 1) := by decide +kernel
theorem dX10_formula_32 : decode cX10_formula 32 = .ok (.getfield 102, 3) := by decide +kernel
theorem dX10_formula_35 : decode cX10_formula 35 = .ok (.ifCond .ne 24, 3) := by decide +kernel
theorem dX10_formula_38 : decode cX10_formula 38 = .ok (.aload_n 0, 1) := by decide +kernel
theorem dX10_formula_39 : decode cX10_formula 39 = .ok (.iconst 1, 1) := by decide +kernel
theorem dX10_formula_40 : decode cX10_formula 40 = .ok (.bipush 112, 2) := by decide +kernel
theorem dX10_formula_42 : decode cX10_formula 42 = .ok (.iconst 0, 1) := by decide +kernel
theorem dX10_formula_43 : decode cX10_formula 43 = .ok (.iconst 0, 1) := by decide +kernel
theorem dX10_formula_44 : decode cX10_formula 44 = .ok (.invokevirtual 164, 3) := by decide +kernel
theorem dX10_formula_47 : decode cX10_formula 47 = .ok (.ifCond .ne 12, 3) := by decide +kernel
theorem dX10_formula_50 : decode cX10_formula 50 = .ok (.aload_n 0, 1) := by decide +kernel
theorem dX10_formula_51 : decode cX10_formula 51 = .ok (.iconst 1, 1) := by decide +kernel
theorem dX10_formula_52 : decode cX10_formula 52 = .ok (.aload_n 0, 1) := by decide +kernel
theorem dX10_formula_53 : decode cX10_formula 53 = .ok (.getfield 118, 3) := by decide +kernel
theorem dX10_formula_56 : decode cX10_formula 56 = .ok (.invokevirtual 128, 3) := by decide +kernel
theorem dX10_formula_59 : decode cX10_formula 59 = .ok (.aload_n 0, 1) := by decide +kernel
theorem dX10_formula_60 : decode cX10_formula 60 = .ok (.invokevirtual 132, 3) := by decide +kernel
theorem dX10_formula_63 : decode cX10_formula 63 = .ok (.aload_n 0, 1) := by decide +kernel
theorem dX10_formula_64 : decode cX10_formula 64 = .ok (.getfield 102, 3) := by decide +kernel
theorem dX10_formula_67 : decode cX10_formula 67 = .ok (.ifCond .ne 26, 3) := by decide +kernel
theorem dX10_formula_70 : decode cX10_formula 70 = .ok (.aload_n 0, 1) := by decide +kernel
theorem dX10_formula_71 : decode cX10_formula 71 = .ok (.iconst 3, 1) := by decide +kernel
theorem dX10_formula_72 : decode cX10_formula 72 = .ok (.bipush 99, 2) := by decide +kernel
theorem dX10_formula_74 : decode cX10_formula 74 = .ok (.bipush 110, 2) := by decide +kernel
theorem dX10_formula_76 : decode cX10_formula 76 = .ok (.bipush 102, 2) := by decide +kernel
theorem dX10_formula_78 : decode cX10_formula 78 = .ok (.invokevirtual 164, 3) := by decide +kernel
theorem dX10_formula_81 : decode cX10_formula 81 = .ok (.ifCond .ne 12, 3) := by decide +kernel
theorem dX10_formula_84 : decode cX10_formula 84 = .ok (.aload_n 0, 1) := by decide +kernel
theorem dX10_formula_85 : decode cX10_formula 85 = .ok (.iconst 1, 1) := by decide +kernel
theorem dX10_formula_86 : decode cX10_formula 86 = .ok (.aload_n 0, 1) := by decide +kernel
theorem dX10_formula_87 : decode cX10_formula 87 = .ok (.getfield 118, 3) := by decide +kernel
theorem dX10_formula_90 : decode cX10_formula 90 = .ok (.invokevirtual 128, 3) := by decide +kernel
theorem dX10_formula_93 : decode cX10_formula 93 = .ok (.aload_n 0, 1) := by decide +kernel
theorem dX10_formula_94 : decode cX10_formula 94 = .ok (.sipush 150, 3) := by decide +kernel
theorem dX10_formula_97 : decode cX10_formula 97 = .ok (.invokevirtual 168, 3) := by decide +kernel
theorem dX10_formula_100 : decode cX10_formula 100 = .ok (.istore_n 2, 1) := by decide +kernel
theorem dX10_formula_101 : decode cX10_formula 101 = .ok (.aload_n 0, 1) := by decide +kernel
theorem dX10_formula_102 : decode cX10_formula 102 = .ok (.sipush 300, 3) := by decide +kernel
theorem dX10_formula_105 : decode cX10_formula 105 = .ok (.invokevirtual 168, 3) := by decide +kernel
theorem dX10_formula_108 : decode cX10_formula 108 = .ok (.istore_n 3, 1) := by decide +kernel
theorem dX10_formula_109 : decode cX10_formula 109 = .ok (.aload_n 0, 1) := by decide +kernel
theorem dX10_formula_110 : decode cX10_formula 110 = .ok (.iload_n 2, 1) := by decide +kernel
theorem dX10_formula_111 : decode cX10_formula 111 = .ok (.putfield 148, 3) := by decide +kernel
theorem dX10_formula_114 : decode cX10_formula 114 = .ok (.iconst 0, 1) := by decide +kernel
theorem dX10_formula_115 : decode cX10_formula 115 = .ok (.istore 4, 2) := by decide +kernel
theorem dX10_formula_117 : decode cX10_formula 117 = .ok (.iload 4, 2) := by decide +kernel
theorem dX10_formula_119 : decode cX10_formula 119 = .ok (.iload_n 3, 1) := by decide +kernel
theorem dX10_formula_120 : decode cX10_formula 120 = .ok (.if_icmp .ge 25, 3) := by decide +kernel
theorem dX10_formula_123 : decode cX10_formula 123 = .ok (.aload_n 0, 1) := by decide +kernel
theorem dX10_formula_124 : decode cX10_formula 124 = .ok (.getfield 102, 3) := by decide +kernel
theorem dX10_formula_127 : decode cX10_formula 127 = .ok (.ifCond .ne 18, 3) := by decide +kernel
theorem dX10_formula_130 : decode cX10_formula 130 = .ok (.aload_n 0, 1) := by decide +kernel
theorem dX10_formula_131 : decode cX10_formula 131 = .ok (.invokevirtual 172, 3) := by decide +kernel
theorem dX10_formula_134 : decode cX10_formula 134 = .ok (.aload_n 0, 1) := by decide +kernel
theorem dX10_formula_135 : decode cX10_formula 135 = .ok (.iconst 0, 1) := by decide +kernel
theorem dX10_formula_136 : decode cX10_formula 136 = .ok (.invokevirtual 175, 3) := by decide +kernel
theorem dX10_formula_139 : decode cX10_formula 139 = .ok (.iinc 4 1, 3) := by decide +kernel
theorem dX10_formula_142 : decode cX10_formula 142 = .ok (.goto (-25), 3) := by decide +kernel
theorem dX10_formula_145 : decode cX10_formula 145 = .ok (.aload_n 0, 1) := by decide +kernel
theorem dX10_formula_146 : decode cX10_formula 146 = .ok (.getfield 102, 3) := by decide +kernel
theorem dX10_formula_149 : decode cX10_formula 149 = .ok (.ifCond .ne 19, 3) := by decide +kernel
theorem dX10_formula_152 : decode cX10_formula 152 = .ok (.aload_n 0, 1) := by decide +kernel
theorem dX10_formula_153 : decode cX10_formula 153 = .ok (.invokevirtual 124, 3) := by decide +kernel
theorem dX10_formula_156 : decode cX10_formula 156 = .ok (.ifCond .eq 12, 3) := by decide +kernel
theorem dX10_formula_159 : decode cX10_formula 159 = .ok (.aload_n 0, 1) := by decide +kernel
theorem dX10_formula_160 : decode cX10_formula 160 = .ok (.iconst 1, 1) := by decide +kernel
theorem dX10_formula_161 : decode cX10_formula 161 = .ok (.aload_n 0, 1) := by decide +kernel
theorem dX10_formula_162 : decode cX10_formula 162 = .ok (.getfield 118, 3) := by decide +kernel
theorem dX10_formula_165 : decode cX10_formula 165 = .ok (.invokevirtual 128, 3) := by decide +kernel
theorem dX10_formula_168 : decode cX10_formula 168 = .ok (.aload_n 0, 1) := by decide +kernel
theorem dX10_formula_169 : decode cX10_formula 169 = .ok (.invokevirtual 179, 3) := by decide +kernel
theorem dX10_formula_172 : decode cX10_formula 172 = .ok (.ifCond .eq 108, 3) := by decide +kernel
theorem dX10_formula_175 : decode cX10_formula 175 = .ok (.aload_n 0, 1) := by decide +kernel
theorem dX10_formula_176 : decode cX10_formula 176 = .ok (.iload_n 2, 1) := by decide +kernel
theorem dX10_formula_177 : decode cX10_formula 177 = .ok (.putfield 182, 3) := by decide +kernel
theorem dX10_formula_180 : decode cX10_formula 180 = .ok (.aload_n 0, 1) := by decide +kernel
theorem dX10_formula_181 : decode cX10_formula 181 = .ok (.aload_n 0, 1) := by decide +kernel
theorem dX10_formula_182 : decode cX10_formula 182 = .ok (.getfield 139, 3) := by decide +kernel
theorem dX10_formula_185 : decode cX10_formula 185 = .ok (.putfield 185, 3) := by decide +kernel
theorem dX10_formula_188 : decode cX10_formula 188 = .ok (.iconst 1, 1) := by decide +kernel
theorem dX10_formula_189 : decode cX10_formula 189 = .ok (.istore 4, 2) := by decide +kernel
theorem dX10_formula_191 : decode cX10_formula 191 = .ok (.iload 4, 2) := by decide +kernel
theorem dX10_formula_193 : decode cX10_formula 193 = .ok (.aload_n 0, 1) := by decide +kernel
theorem dX10_formula_194 : decode cX10_formula 194 = .ok (.getfield 139, 3) := by decide +kernel
theorem dX10_formula_197 : decode cX10_formula 197 = .ok (.if_icmp .gt 37, 3) := by decide +kernel
theorem dX10_formula_200 : decode cX10_formula 200 = .ok (.aload_n 0, 1) := by decide +kernel
theorem dX10_formula_201 : decode cX10_formula 201 = .ok (.getfield 20, 3) := by decide +kernel
theorem dX10_formula_204 : decode cX10_formula 204 = .ok (.iload 4, 2) := by decide +kernel
theorem dX10_formula_206 : decode cX10_formula 206 = .ok (.aload_n 0, 1) := by decide +kernel
theorem dX10_formula_207 : decode cX10_formula 207 = .ok (.getfield 42, 3) := by decide +kernel
theorem dX10_formula_210 : decode cX10_formula 210 = .ok (.iload 4, 2) := by decide +kernel
theorem dX10_formula_212 : decode cX10_formula 212 = .ok (.iaload, 1) := by decide +kernel
theorem dX10_formula_213 : decode cX10_formula 213 = .ok (.iastore, 1) := by decide +kernel
theorem dX10_formula_214 : decode cX10_formula 214 = .ok (.aload_n 0, 1) := by decide +kernel
theorem dX10_formula_215 : decode cX10_formula 215 = .ok (.getfield 23, 3) := by decide +kernel
theorem dX10_formula_218 : decode cX10_formula 218 = .ok (.iload 4, 2) := by decide +kernel
theorem dX10_formula_220 : decode cX10_formula 220 = .ok (.aload_n 0, 1) := by decide +kernel
theorem dX10_formula_221 : decode cX10_formula 221 = .ok (.getfield 45, 3) := by decide +kernel
theorem dX10_formula_224 : decode cX10_formula 224 = .ok (.iload 4, 2) := by decide +kernel
theorem dX10_formula_226 : decode cX10_formula 226 = .ok (.iaload, 1) := by decide +kernel
theorem dX10_formula_227 : decode cX10_formula 227 = .ok (.iastore, 1) := by decide +kernel
theorem dX10_formula_228 : decode cX10_formula 228 = .ok (.iinc 4 1, 3) := by decide +kernel
theorem dX10_formula_231 : decode cX10_formula 231 = .ok (.goto (-40), 3) := by decide +kernel
theorem dX10_formula_234 : decode cX10_formula 234 = .ok (.iconst 0, 1) := by decide +kernel
theorem dX10_formula_235 : decode cX10_formula 235 = .ok (.istore 4, 2) := by decide +kernel
theorem dX10_formula_237 : decode cX10_formula 237 = .ok (.iload 4, 2) := by decide +kernel
theorem dX10_formula_239 : decode cX10_formula 239 = .ok (.aload_n 0, 1) := by decide +kernel
theorem dX10_formula_240 : decode cX10_formula 240 = .ok (.getfield 142, 3) := by decide +kernel
theorem dX10_formula_243 : decode cX10_formula 243 = .ok (.if_icmp .ge 23, 3) := by decide +kernel
theorem dX10_formula_246 : decode cX10_formula 246 = .ok (.aload_n 0, 1) := by decide +kernel
theorem dX10_formula_247 : decode cX10_formula 247 = .ok (.getfield 26, 3) := by decide +kernel
theorem dX10_formula_250 : decode cX10_formula 250 = .ok (.iload 4, 2) := by decide +kernel
theorem dX10_formula_252 : decode cX10_formula 252 = .ok (.aload_n 0, 1) := by decide +kernel
theorem dX10_formula_253 : decode cX10_formula 253 = .ok (.getfield 48, 3) := by decide +kernel
theorem dX10_formula_256 : decode cX10_formula 256 = .ok (.iload 4, 2) := by decide +kernel
theorem dX10_formula_258 : decode cX10_formula 258 = .ok (.iaload, 1) := by decide +kernel
theorem dX10_formula_259 : decode cX10_formula 259 = .ok (.iastore, 1) := by decide +kernel
theorem dX10_formula_260 : decode cX10_formula 260 = .ok (.iinc 4 1, 3) := by decide +kernel
theorem dX10_formula_263 : decode cX10_formula 263 = .ok (.goto (-26), 3) := by decide +kernel
theorem dX10_formula_266 : decode cX10_formula 266 = .ok (.aload_n 0, 1) := by decide +kernel
theorem dX10_formula_267 : decode cX10_formula 267 = .ok (.iconst 0, 1) := by decide +kernel
theorem dX10_formula_268 : decode cX10_formula 268 = .ok (.putfield 188, 3) := by decide +kernel
theorem dX10_formula_271 : decode cX10_formula 271 = .ok (.aload_n 0, 1) := by decide +kernel
theorem dX10_formula_272 : decode cX10_formula 272 = .ok (.iconst 0, 1) := by decide +kernel
theorem dX10_formula_273 : decode cX10_formula 273 = .ok (.putfield 191, 3) := by decide +kernel
theorem dX10_formula_276 : decode cX10_formula 276 = .ok (.aload_n 0, 1) := by decide +kernel
theorem dX10_formula_277 : decode cX10_formula 277 = .ok (.invokevirtual 195, 3) := by decide +kernel
theorem dX10_formula_280 : decode cX10_formula 280 = .ok (.aload_n 0, 1) := by decide +kernel
theorem dX10_formula_281 : decode cX10_formula 281 = .ok (.getfield 198, 3) := by decide +kernel
theorem dX10_formula_284 : decode cX10_formula 284 = .ok (.ireturn, 1) := by decide +kernel
theorem dX10_take_0 : decode cX10_take 0 = .ok (.iconst 0, 1) := by decide +kernel
theorem dX10_take_1 : decode cX10_take 1 = .ok (.istore_n 2, 1) := by decide +kernel
theorem dX10_take_2 : decode cX10_take 2 = .ok (.iload_n 2, 1) := by decide +kernel
theorem dX10_take_3 : decode cX10_take 3 = .ok (.iload_n 1, 1) := by decide +kernel
theorem dX10_take_4 : decode cX10_take 4 = .ok (.if_icmp .ge 21, 3) := by decide +kernel
theorem dX10_take_7 : decode cX10_take 7 = .ok (.aload_n 0, 1) := by decide +kernel
theorem dX10_take_8 : decode cX10_take 8 = .ok (.getfield 13, 3) := by decide +kernel
theorem dX10_take_11 : decode cX10_take 11 = .ok (.iload_n 2, 1) := by decide +kernel
theorem dX10_take_12 : decode cX10_take 12 = .ok (.aload_n 0, 1) := by decide +kernel
theorem dX10_take_13 : decode cX10_take 13 = .ok (.getfield 9, 3) := by decide +kernel
theorem dX10_take_16 : decode cX10_take 16 = .ok (.iload_n 2, 1) := by decide +kernel
theorem dX10_take_17 : decode cX10_take 17 = .ok (.iaload, 1) := by decide +kernel
theorem dX10_take_18 : decode cX10_take 18 = .ok (.iastore, 1) := by decide +kernel
theorem dX10_take_19 : decode cX10_take 19 = .ok (.iinc 2 1, 3) := by decide +kernel
theorem dX10_take_22 : decode cX10_take 22 = .ok (.goto (-20), 3) := by decide +kernel
theorem dX10_take_25 : decode cX10_take 25 = .ok (.aload_n 0, 1) := by decide +kernel
theorem dX10_take_26 : decode cX10_take 26 = .ok (.iload_n 1, 1) := by decide +kernel
theorem dX10_take_27 : decode cX10_take 27 = .ok (.putfield 111, 3) := by decide +kernel
theorem dX10_take_30 : decode cX10_take 30 = .ok (.aload_n 0, 1) := by decide +kernel
theorem dX10_take_31 : decode cX10_take 31 = .ok (.iconst 0, 1) := by decide +kernel
theorem dX10_take_32 : decode cX10_take 32 = .ok (.putfield 99, 3) := by decide +kernel
theorem dX10_take_35 : decode cX10_take 35 = .ok (.aload_n 0, 1) := by decide +kernel
theorem dX10_take_36 : decode cX10_take 36 = .ok (.sipush 150, 3) := by decide +kernel
theorem dX10_take_39 : decode cX10_take 39 = .ok (.invokevirtual 201, 3) := by decide +kernel
theorem dX10_take_42 : decode cX10_take 42 = .ok (.return_, 1) := by decide +kernel
theorem dX10_settled_0 : decode cX10_settled 0 = .ok (.aload_n 0, 1) := by decide +kernel
theorem dX10_settled_1 : decode cX10_settled 1 = .ok (.aload_n 0, 1) := by decide +kernel
theorem dX10_settled_2 : decode cX10_settled 2 = .ok (.getfield 102, 3) := by decide +kernel
theorem dX10_settled_5 : decode cX10_settled 5 = .ok (.putfield 198, 3) := by decide +kernel
theorem dX10_settled_8 : decode cX10_settled 8 = .ok (.aload_n 0, 1) := by decide +kernel
theorem dX10_settled_9 : decode cX10_settled 9 = .ok (.aload_n 0, 1) := by decide +kernel
theorem dX10_settled_10 : decode cX10_settled 10 = .ok (.getfield 102, 3) := by decide +kernel
theorem dX10_settled_13 : decode cX10_settled 13 = .ok (.ifCond .ne 7, 3) := by decide +kernel
theorem dX10_settled_16 : decode cX10_settled 16 = .ok (.iconst (-1), 1) := by decide +kernel
theorem dX10_settled_17 : decode cX10_settled 17 = .ok (.goto 7, 3) := by decide +kernel
theorem dX10_settled_20 : decode cX10_settled 20 = .ok (.aload_n 0, 1) := by decide +kernel
theorem dX10_settled_21 : decode cX10_settled 21 = .ok (.getfield 105, 3) := by decide +kernel
theorem dX10_settled_24 : decode cX10_settled 24 = .ok (.putfield 16, 3) := by decide +kernel
theorem dX10_settled_27 : decode cX10_settled 27 = .ok (.aload_n 0, 1) := by decide +kernel
theorem dX10_settled_28 : decode cX10_settled 28 = .ok (.getfield 102, 3) := by decide +kernel
theorem dX10_settled_31 : decode cX10_settled 31 = .ok (.ifCond .ne 7, 3) := by decide +kernel
theorem dX10_settled_34 : decode cX10_settled 34 = .ok (.iconst 1, 1) := by decide +kernel
theorem dX10_settled_35 : decode cX10_settled 35 = .ok (.goto 4, 3) := by decide +kernel
theorem dX10_settled_38 : decode cX10_settled 38 = .ok (.iconst 0, 1) := by decide +kernel
theorem dX10_settled_39 : decode cX10_settled 39 = .ok (.ireturn, 1) := by decide +kernel
theorem dX10_readText_0 : decode cX10_readText 0 = .ok (.aload_n 0, 1) := by decide +kernel
theorem dX10_readText_1 : decode cX10_readText 1 = .ok (.getfield 102, 3) := by decide +kernel
theorem dX10_readText_4 : decode cX10_readText 4 = .ok (.ifCond .ne 112, 3) := by decide +kernel
theorem dX10_readText_7 : decode cX10_readText 7 = .ok (.aload_n 0, 1) := by decide +kernel
theorem dX10_readText_8 : decode cX10_readText 8 = .ok (.invokevirtual 124, 3) := by decide +kernel
theorem dX10_readText_11 : decode cX10_readText 11 = .ok (.ifCond .eq 105, 3) := by decide +kernel
theorem dX10_readText_14 : decode cX10_readText 14 = .ok (.aload_n 0, 1) := by decide +kernel
theorem dX10_readText_15 : decode cX10_readText 15 = .ok (.iconst 1, 1) := by decide +kernel
theorem dX10_readText_16 : decode cX10_readText 16 = .ok (.bipush 100, 2) := by decide +kernel
theorem dX10_readText_18 : decode cX10_readText 18 = .ok (.iconst 0, 1) := by decide +kernel
theorem dX10_readText_19 : decode cX10_readText 19 = .ok (.iconst 0, 1) := by decide +kernel
theorem dX10_readText_20 : decode cX10_readText 20 = .ok (.invokevirtual 164, 3) := by decide +kernel
theorem dX10_readText_23 : decode cX10_readText 23 = .ok (.istore_n 1, 1) := by decide +kernel
theorem dX10_readText_24 : decode cX10_readText 24 = .ok (.aload_n 0, 1) := by decide +kernel
theorem dX10_readText_25 : decode cX10_readText 25 = .ok (.getfield 139, 3) := by decide +kernel
theorem dX10_readText_28 : decode cX10_readText 28 = .ok (.sipush 300, 3) := by decide +kernel
theorem dX10_readText_31 : decode cX10_readText 31 = .ok (.if_icmp .ne 48, 3) := by decide +kernel
theorem dX10_readText_34 : decode cX10_readText 34 = .ok (.iload_n 1, 1) := by decide +kernel
theorem dX10_readText_35 : decode cX10_readText 35 = .ok (.ifCond .eq 7, 3) := by decide +kernel
theorem dX10_readText_38 : decode cX10_readText 38 = .ok (.iconst 0, 1) := by decide +kernel
theorem dX10_readText_39 : decode cX10_readText 39 = .ok (.goto 7, 3) := by decide +kernel
theorem dX10_readText_42 : decode cX10_readText 42 = .ok (.aload_n 0, 1) := by decide +kernel
theorem dX10_readText_43 : decode cX10_readText 43 = .ok (.invokevirtual 135, 3) := by decide +kernel
theorem dX10_readText_46 : decode cX10_readText 46 = .ok (.istore_n 2, 1) := by decide +kernel
theorem dX10_readText_47 : decode cX10_readText 47 = .ok (.iload_n 2, 1) := by decide +kernel
theorem dX10_readText_48 : decode cX10_readText 48 = .ok (.sipush (-150), 3) := by decide +kernel
theorem dX10_readText_51 : decode cX10_readText 51 = .ok (.if_icmp .lt 10, 3) := by decide +kernel
theorem dX10_readText_54 : decode cX10_readText 54 = .ok (.iload_n 2, 1) := by decide +kernel
theorem dX10_readText_55 : decode cX10_readText 55 = .ok (.sipush 150, 3) := by decide +kernel
theorem dX10_readText_58 : decode cX10_readText 58 = .ok (.if_icmp .le 12, 3) := by decide +kernel
theorem dX10_readText_61 : decode cX10_readText 61 = .ok (.aload_n 0, 1) := by decide +kernel
theorem dX10_readText_62 : decode cX10_readText 62 = .ok (.iconst 2, 1) := by decide +kernel
theorem dX10_readText_63 : decode cX10_readText 63 = .ok (.aload_n 0, 1) := by decide +kernel
theorem dX10_readText_64 : decode cX10_readText 64 = .ok (.getfield 118, 3) := by decide +kernel
theorem dX10_readText_67 : decode cX10_readText 67 = .ok (.invokevirtual 128, 3) := by decide +kernel
theorem dX10_readText_70 : decode cX10_readText 70 = .ok (.aload_n 0, 1) := by decide +kernel
theorem dX10_readText_71 : decode cX10_readText 71 = .ok (.iconst 3, 1) := by decide +kernel
theorem dX10_readText_72 : decode cX10_readText 72 = .ok (.aload_n 0, 1) := by decide +kernel
theorem dX10_readText_73 : decode cX10_readText 73 = .ok (.getfield 118, 3) := by decide +kernel
theorem dX10_readText_76 : decode cX10_readText 76 = .ok (.invokevirtual 128, 3) := by decide +kernel
theorem dX10_readText_79 : decode cX10_readText 79 = .ok (.aload_n 0, 1) := by decide +kernel
theorem dX10_readText_80 : decode cX10_readText 80 = .ok (.getfield 102, 3) := by decide +kernel
theorem dX10_readText_83 : decode cX10_readText 83 = .ok (.ifCond .ne 30, 3) := by decide +kernel
theorem dX10_readText_86 : decode cX10_readText 86 = .ok (.aload_n 0, 1) := by decide +kernel
theorem dX10_readText_87 : decode cX10_readText 87 = .ok (.invokevirtual 172, 3) := by decide +kernel
theorem dX10_readText_90 : decode cX10_readText 90 = .ok (.aload_n 0, 1) := by decide +kernel
theorem dX10_readText_91 : decode cX10_readText 91 = .ok (.getfield 51, 3) := by decide +kernel
theorem dX10_readText_94 : decode cX10_readText 94 = .ok (.aload_n 0, 1) := by decide +kernel
theorem dX10_readText_95 : decode cX10_readText 95 = .ok (.getfield 139, 3) := by decide +kernel
theorem dX10_readText_98 : decode cX10_readText 98 = .ok (.iload_n 1, 1) := by decide +kernel
theorem dX10_readText_99 : decode cX10_readText 99 = .ok (.bastore, 1) := by decide +kernel
theorem dX10_readText_100 : decode cX10_readText 100 = .ok (.aload_n 0, 1) := by decide +kernel
theorem dX10_readText_101 : decode cX10_readText 101 = .ok (.iload_n 1, 1) := by decide +kernel
theorem dX10_readText_102 : decode cX10_readText 102 = .ok (.ifCond .ne 7, 3) := by decide +kernel
theorem dX10_readText_105 : decode cX10_readText 105 = .ok (.iconst 1, 1) := by decide +kernel
theorem dX10_readText_106 : decode cX10_readText 106 = .ok (.goto 4, 3) := by decide +kernel
theorem dX10_readText_109 : decode cX10_readText 109 = .ok (.iconst 0, 1) := by decide +kernel
theorem dX10_readText_110 : decode cX10_readText 110 = .ok (.invokevirtual 175, 3) := by decide +kernel
theorem dX10_readText_113 : decode cX10_readText 113 = .ok (.goto (-113), 3) := by decide +kernel
theorem dX10_readText_116 : decode cX10_readText 116 = .ok (.return_, 1) := by decide +kernel
theorem dX10_readBytes_0 : decode cX10_readBytes 0 = .ok (.aload_n 0, 1) := by decide +kernel
theorem dX10_readBytes_1 : decode cX10_readBytes 1 = .ok (.getfield 102, 3) := by decide +kernel
theorem dX10_readBytes_4 : decode cX10_readBytes 4 = .ok (.ifCond .ne 125, 3) := by decide +kernel
theorem dX10_readBytes_7 : decode cX10_readBytes 7 = .ok (.aload_n 0, 1) := by decide +kernel
theorem dX10_readBytes_8 : decode cX10_readBytes 8 = .ok (.getfield 108, 3) := by decide +kernel
theorem dX10_readBytes_11 : decode cX10_readBytes 11 = .ok (.aload_n 0, 1) := by decide +kernel
theorem dX10_readBytes_12 : decode cX10_readBytes 12 = .ok (.getfield 111, 3) := by decide +kernel
theorem dX10_readBytes_15 : decode cX10_readBytes 15 = .ok (.if_icmp .ge 114, 3) := by decide +kernel
theorem dX10_readBytes_18 : decode cX10_readBytes 18 = .ok (.aload_n 0, 1) := by decide +kernel
theorem dX10_readBytes_19 : decode cX10_readBytes 19 = .ok (.getfield 13, 3) := by decide +kernel
theorem dX10_readBytes_22 : decode cX10_readBytes 22 = .ok (.aload_n 0, 1) := by decide +kernel
theorem dX10_readBytes_23 : decode cX10_readBytes 23 = .ok (.getfield 108, 3) := by decide +kernel
theorem dX10_readBytes_26 : decode cX10_readBytes 26 = .ok (.iaload, 1) := by decide +kernel
theorem dX10_readBytes_27 : decode cX10_readBytes 27 = .ok (.istore_n 1, 1) := by decide +kernel
theorem dX10_readBytes_28 : decode cX10_readBytes 28 = .ok (.iload_n 1, 1) := by decide +kernel
theorem dX10_readBytes_29 : decode cX10_readBytes 29 = .ok (.bipush 97, 2) := by decide +kernel
theorem dX10_readBytes_31 : decode cX10_readBytes 31 = .ok (.if_icmp .eq 21, 3) := by decide +kernel
theorem dX10_readBytes_34 : decode cX10_readBytes 34 = .ok (.iload_n 1, 1) := by decide +kernel
theorem dX10_readBytes_35 : decode cX10_readBytes 35 = .ok (.bipush 100, 2) := by decide +kernel
theorem dX10_readBytes_37 : decode cX10_readBytes 37 = .ok (.if_icmp .eq 15, 3) := by decide +kernel
theorem dX10_readBytes_40 : decode cX10_readBytes 40 = .ok (.aload_n 0, 1) := by decide +kernel
theorem dX10_readBytes_41 : decode cX10_readBytes 41 = .ok (.iconst 1, 1) := by decide +kernel
theorem dX10_readBytes_42 : decode cX10_readBytes 42 = .ok (.aload_n 0, 1) := by decide +kernel
theorem dX10_readBytes_43 : decode cX10_readBytes 43 = .ok (.getfield 108, 3) := by decide +kernel
theorem dX10_readBytes_46 : decode cX10_readBytes 46 = .ok (.invokevirtual 128, 3) := by decide +kernel
theorem dX10_readBytes_49 : decode cX10_readBytes 49 = .ok (.goto 22, 3) := by decide +kernel
theorem dX10_readBytes_52 : decode cX10_readBytes 52 = .ok (.aload_n 0, 1) := by decide +kernel
theorem dX10_readBytes_53 : decode cX10_readBytes 53 = .ok (.getfield 139, 3) := by decide +kernel
theorem dX10_readBytes_56 : decode cX10_readBytes 56 = .ok (.sipush 300, 3) := by decide +kernel
theorem dX10_readBytes_59 : decode cX10_readBytes 59 = .ok (.if_icmp .ne 12, 3) := by decide +kernel
theorem dX10_readBytes_62 : decode cX10_readBytes 62 = .ok (.aload_n 0, 1) := by decide +kernel
theorem dX10_readBytes_63 : decode cX10_readBytes 63 = .ok (.iconst 3, 1) := by decide +kernel
theorem dX10_readBytes_64 : decode cX10_readBytes 64 = .ok (.aload_n 0, 1) := by decide +kernel
theorem dX10_readBytes_65 : decode cX10_readBytes 65 = .ok (.getfield 108, 3) := by decide +kernel
theorem dX10_readBytes_68 : decode cX10_readBytes 68 = .ok (.invokevirtual 128, 3) := by decide +kernel
theorem dX10_readBytes_71 : decode cX10_readBytes 71 = .ok (.aload_n 0, 1) := by decide +kernel
theorem dX10_readBytes_72 : decode cX10_readBytes 72 = .ok (.getfield 102, 3) := by decide +kernel
theorem dX10_readBytes_75 : decode cX10_readBytes 75 = .ok (.ifCond .ne 51, 3) := by decide +kernel
theorem dX10_readBytes_78 : decode cX10_readBytes 78 = .ok (.aload_n 0, 1) := by decide +kernel
theorem dX10_readBytes_79 : decode cX10_readBytes 79 = .ok (.invokevirtual 172, 3) := by decide +kernel
theorem dX10_readBytes_82 : decode cX10_readBytes 82 = .ok (.aload_n 0, 1) := by decide +kernel
theorem dX10_readBytes_83 : decode cX10_readBytes 83 = .ok (.getfield 51, 3) := by decide +kernel
theorem dX10_readBytes_86 : decode cX10_readBytes 86 = .ok (.aload_n 0, 1) := by decide +kernel
theorem dX10_readBytes_87 : decode cX10_readBytes 87 = .ok (.getfield 139, 3) := by decide +kernel
theorem dX10_readBytes_90 : decode cX10_readBytes 90 = .ok (.iload_n 1, 1) := by decide +kernel
theorem dX10_readBytes_91 : decode cX10_readBytes 91 = .ok (.bipush 100, 2) := by decide +kernel
theorem dX10_readBytes_93 : decode cX10_readBytes 93 = .ok (.if_icmp .ne 7, 3) := by decide +kernel
theorem dX10_readBytes_96 : decode cX10_readBytes 96 = .ok (.iconst 1, 1) := by decide +kernel
theorem dX10_readBytes_97 : decode cX10_readBytes 97 = .ok (.goto 4, 3) := by decide +kernel
theorem dX10_readBytes_100 : decode cX10_readBytes 100 = .ok (.iconst 0, 1) := by decide +kernel
theorem dX10_readBytes_101 : decode cX10_readBytes 101 = .ok (.bastore, 1) := by decide +kernel
theorem dX10_readBytes_102 : decode cX10_readBytes 102 = .ok (.aload_n 0, 1) := by decide +kernel
theorem dX10_readBytes_103 : decode cX10_readBytes 103 = .ok (.dup, 1) := by decide +kernel
theorem dX10_readBytes_104 : decode cX10_readBytes 104 = .ok (.getfield 108, 3) := by decide +kernel
theorem dX10_readBytes_107 : decode cX10_readBytes 107 = .ok (.iconst 1, 1) := by decide +kernel
theorem dX10_readBytes_108 : decode cX10_readBytes 108 = .ok (.iadd, 1) := by decide +kernel
theorem dX10_readBytes_109 : decode cX10_readBytes 109 = .ok (.putfield 108, 3) := by decide +kernel
theorem dX10_readBytes_112 : decode cX10_readBytes 112 = .ok (.iconst 1, 1) := by decide +kernel
theorem dX10_readBytes_113 : decode cX10_readBytes 113 = .ok (.istore_n 2, 1) := by decide +kernel
theorem dX10_readBytes_114 : decode cX10_readBytes 114 = .ok (.iload_n 2, 1) := by decide +kernel
theorem dX10_readBytes_115 : decode cX10_readBytes 115 = .ok (.ifCond .eq 11, 3) := by decide +kernel
theorem dX10_readBytes_118 : decode cX10_readBytes 118 = .ok (.aload_n 0, 1) := by decide +kernel
theorem dX10_readBytes_119 : decode cX10_readBytes 119 = .ok (.invokevirtual 204, 3) := by decide +kernel
theorem dX10_readBytes_122 : decode cX10_readBytes 122 = .ok (.istore_n 2, 1) := by decide +kernel
theorem dX10_readBytes_123 : decode cX10_readBytes 123 = .ok (.goto (-9), 3) := by decide +kernel
theorem dX10_readBytes_126 : decode cX10_readBytes 126 = .ok (.goto (-126), 3) := by decide +kernel
theorem dX10_readBytes_129 : decode cX10_readBytes 129 = .ok (.return_, 1) := by decide +kernel
theorem dX10_readNumber_0 : decode cX10_readNumber 0 = .ok (.aload_n 0, 1) := by decide +kernel
theorem dX10_readNumber_1 : decode cX10_readNumber 1 = .ok (.getfield 108, 3) := by decide +kernel
theorem dX10_readNumber_4 : decode cX10_readNumber 4 = .ok (.aload_n 0, 1) := by decide +kernel
theorem dX10_readNumber_5 : decode cX10_readNumber 5 = .ok (.getfield 111, 3) := by decide +kernel
theorem dX10_readNumber_8 : decode cX10_readNumber 8 = .ok (.if_icmp .ne 14, 3) := by decide +kernel
theorem dX10_readNumber_11 : decode cX10_readNumber 11 = .ok (.aload_n 0, 1) := by decide +kernel
theorem dX10_readNumber_12 : decode cX10_readNumber 12 = .ok (.iconst 1, 1) := by decide +kernel
theorem dX10_readNumber_13 : decode cX10_readNumber 13 = .ok (.aload_n 0, 1) := by decide +kernel
theorem dX10_readNumber_14 : decode cX10_readNumber 14 = .ok (.getfield 111, 3) := by decide +kernel
theorem dX10_readNumber_17 : decode cX10_readNumber 17 = .ok (.invokevirtual 128, 3) := by decide +kernel
theorem dX10_readNumber_20 : decode cX10_readNumber 20 = .ok (.iconst 0, 1) := by decide +kernel
theorem dX10_readNumber_21 : decode cX10_readNumber 21 = .ok (.ireturn, 1) := by decide +kernel
theorem dX10_readNumber_22 : decode cX10_readNumber 22 = .ok (.aload_n 0, 1) := by decide +kernel
theorem dX10_readNumber_23 : decode cX10_readNumber 23 = .ok (.getfield 108, 3) := by decide +kernel
theorem dX10_readNumber_26 : decode cX10_readNumber 26 = .ok (.istore_n 1, 1) := by decide +kernel
theorem dX10_readNumber_27 : decode cX10_readNumber 27 = .ok (.aload_n 0, 1) := by decide +kernel
theorem dX10_readNumber_28 : decode cX10_readNumber 28 = .ok (.getfield 13, 3) := by decide +kernel
theorem dX10_readNumber_31 : decode cX10_readNumber 31 = .ok (.aload_n 0, 1) := by decide +kernel
theorem dX10_readNumber_32 : decode cX10_readNumber 32 = .ok (.getfield 108, 3) := by decide +kernel
theorem dX10_readNumber_35 : decode cX10_readNumber 35 = .ok (.iaload, 1) := by decide +kernel
theorem dX10_readNumber_36 : decode cX10_readNumber 36 = .ok (.istore_n 2, 1) := by decide +kernel
theorem dX10_readNumber_37 : decode cX10_readNumber 37 = .ok (.aload_n 0, 1) := by decide +kernel
theorem dX10_readNumber_38 : decode cX10_readNumber 38 = .ok (.dup, 1) := by decide +kernel
theorem dX10_readNumber_39 : decode cX10_readNumber 39 = .ok (.getfield 108, 3) := by decide +kernel
theorem dX10_readNumber_42 : decode cX10_readNumber 42 = .ok (.iconst 1, 1) := by decide +kernel
theorem dX10_readNumber_43 : decode cX10_readNumber 43 = .ok (.iadd, 1) := by decide +kernel
theorem dX10_readNumber_44 : decode cX10_readNumber 44 = .ok (.putfield 108, 3) := by decide +kernel
theorem dX10_readNumber_47 : decode cX10_readNumber 47 = .ok (.iload_n 2, 1) := by decide +kernel
theorem dX10_readNumber_48 : decode cX10_readNumber 48 = .ok (.sipush 128, 3) := by decide +kernel
theorem dX10_readNumber_51 : decode cX10_readNumber 51 = .ok (.if_icmp .lt 90, 3) := by decide +kernel
theorem dX10_readNumber_54 : decode cX10_readNumber 54 = .ok (.aload_n 0, 1) := by decide +kernel
theorem dX10_readNumber_55 : decode cX10_readNumber 55 = .ok (.getfield 108, 3) := by decide +kernel
theorem dX10_readNumber_58 : decode cX10_readNumber 58 = .ok (.aload_n 0, 1) := by decide +kernel
theorem dX10_readNumber_59 : decode cX10_readNumber 59 = .ok (.getfield 111, 3) := by decide +kernel
theorem dX10_readNumber_62 : decode cX10_readNumber 62 = .ok (.if_icmp .ne 14, 3) := by decide +kernel
theorem dX10_readNumber_65 : decode cX10_readNumber 65 = .ok (.aload_n 0, 1) := by decide +kernel
theorem dX10_readNumber_66 : decode cX10_readNumber 66 = .ok (.iconst 1, 1) := by decide +kernel
theorem dX10_readNumber_67 : decode cX10_readNumber 67 = .ok (.aload_n 0, 1) := by decide +kernel
theorem dX10_readNumber_68 : decode cX10_readNumber 68 = .ok (.getfield 111, 3) := by decide +kernel
theorem dX10_readNumber_71 : decode cX10_readNumber 71 = .ok (.invokevirtual 128, 3) := by decide +kernel
theorem dX10_readNumber_74 : decode cX10_readNumber 74 = .ok (.iconst 0, 1) := by decide +kernel
theorem dX10_readNumber_75 : decode cX10_readNumber 75 = .ok (.ireturn, 1) := by decide +kernel
theorem dX10_readNumber_76 : decode cX10_readNumber 76 = .ok (.aload_n 0, 1) := by decide +kernel
theorem dX10_readNumber_77 : decode cX10_readNumber 77 = .ok (.getfield 13, 3) := by decide +kernel
theorem dX10_readNumber_80 : decode cX10_readNumber 80 = .ok (.aload_n 0, 1) := by decide +kernel
theorem dX10_readNumber_81 : decode cX10_readNumber 81 = .ok (.getfield 108, 3) := by decide +kernel
theorem dX10_readNumber_84 : decode cX10_readNumber 84 = .ok (.iaload, 1) := by decide +kernel
theorem dX10_readNumber_85 : decode cX10_readNumber 85 = .ok (.ifCond .eq 18, 3) := by decide +kernel
theorem dX10_readNumber_88 : decode cX10_readNumber 88 = .ok (.aload_n 0, 1) := by decide +kernel
theorem dX10_readNumber_89 : decode cX10_readNumber 89 = .ok (.getfield 13, 3) := by decide +kernel
theorem dX10_readNumber_92 : decode cX10_readNumber 92 = .ok (.aload_n 0, 1) := by decide +kernel
theorem dX10_readNumber_93 : decode cX10_readNumber 93 = .ok (.getfield 108, 3) := by decide +kernel
theorem dX10_readNumber_96 : decode cX10_readNumber 96 = .ok (.iaload, 1) := by decide +kernel
theorem dX10_readNumber_97 : decode cX10_readNumber 97 = .ok (.sipush 128, 3) := by decide +kernel
theorem dX10_readNumber_100 : decode cX10_readNumber 100 = .ok (.if_icmp .lt 11, 3) := by decide +kernel
theorem dX10_readNumber_103 : decode cX10_readNumber 103 = .ok (.aload_n 0, 1) := by decide +kernel
theorem dX10_readNumber_104 : decode cX10_readNumber 104 = .ok (.iconst 1, 1) := by decide +kernel
theorem dX10_readNumber_105 : decode cX10_readNumber 105 = .ok (.iload_n 1, 1) := by decide +kernel
theorem dX10_readNumber_106 : decode cX10_readNumber 106 = .ok (.invokevirtual 128, 3) := by decide +kernel
theorem dX10_readNumber_109 : decode cX10_readNumber 109 = .ok (.iconst 0, 1) := by decide +kernel
theorem dX10_readNumber_110 : decode cX10_readNumber 110 = .ok (.ireturn, 1) := by decide +kernel
theorem dX10_readNumber_111 : decode cX10_readNumber 111 = .ok (.iload_n 2, 1) := by decide +kernel
theorem dX10_readNumber_112 : decode cX10_readNumber 112 = .ok (.sipush 128, 3) := by decide +kernel
theorem dX10_readNumber_115 : decode cX10_readNumber 115 = .ok (.isub, 1) := by decide +kernel
theorem dX10_readNumber_116 : decode cX10_readNumber 116 = .ok (.sipush 128, 3) := by decide +kernel
theorem dX10_readNumber_119 : decode cX10_readNumber 119 = .ok (.aload_n 0, 1) := by decide +kernel
theorem dX10_readNumber_120 : decode cX10_readNumber 120 = .ok (.getfield 13, 3) := by decide +kernel
theorem dX10_readNumber_123 : decode cX10_readNumber 123 = .ok (.aload_n 0, 1) := by decide +kernel
theorem dX10_readNumber_124 : decode cX10_readNumber 124 = .ok (.getfield 108, 3) := by decide +kernel
theorem dX10_readNumber_127 : decode cX10_readNumber 127 = .ok (.iaload, 1) := by decide +kernel
theorem dX10_readNumber_128 : decode cX10_readNumber 128 = .ok (.imul, 1) := by decide +kernel
theorem dX10_readNumber_129 : decode cX10_readNumber 129 = .ok (.iadd, 1) := by decide +kernel
theorem dX10_readNumber_130 : decode cX10_readNumber 130 = .ok (.istore_n 2, 1) := by decide +kernel
theorem dX10_readNumber_131 : decode cX10_readNumber 131 = .ok (.aload_n 0, 1) := by decide +kernel
theorem dX10_readNumber_132 : decode cX10_readNumber 132 = .ok (.dup, 1) := by decide +kernel
theorem dX10_readNumber_133 : decode cX10_readNumber 133 = .ok (.getfield 108, 3) := by decide +kernel
theorem dX10_readNumber_136 : decode cX10_readNumber 136 = .ok (.iconst 1, 1) := by decide +kernel
theorem dX10_readNumber_137 : decode cX10_readNumber 137 = .ok (.iadd, 1) := by decide +kernel
theorem dX10_readNumber_138 : decode cX10_readNumber 138 = .ok (.putfield 108, 3) := by decide +kernel
theorem dX10_readNumber_141 : decode cX10_readNumber 141 = .ok (.iload_n 2, 1) := by decide +kernel
theorem dX10_readNumber_142 : decode cX10_readNumber 142 = .ok (.ifCond .ne 5, 3) := by decide +kernel
theorem dX10_readNumber_145 : decode cX10_readNumber 145 = .ok (.iconst 0, 1) := by decide +kernel
theorem dX10_readNumber_146 : decode cX10_readNumber 146 = .ok (.ireturn, 1) := by decide +kernel
theorem dX10_readNumber_147 : decode cX10_readNumber 147 = .ok (.iload_n 2, 1) := by decide +kernel
theorem dX10_readNumber_148 : decode cX10_readNumber 148 = .ok (.iconst 2, 1) := by decide +kernel
theorem dX10_readNumber_149 : decode cX10_readNumber 149 = .ok (.if_icmp .lt 10, 3) := by decide +kernel
theorem dX10_readNumber_152 : decode cX10_readNumber 152 = .ok (.iload_n 2, 1) := by decide +kernel
theorem dX10_readNumber_153 : decode cX10_readNumber 153 = .ok (.sipush 301, 3) := by decide +kernel
theorem dX10_readNumber_156 : decode cX10_readNumber 156 = .ok (.if_icmp .le 12, 3) := by decide +kernel
theorem dX10_readNumber_159 : decode cX10_readNumber 159 = .ok (.aload_n 0, 1) := by decide +kernel
theorem dX10_readNumber_160 : decode cX10_readNumber 160 = .ok (.iconst 2, 1) := by decide +kernel
theorem dX10_readNumber_161 : decode cX10_readNumber 161 = .ok (.iload_n 1, 1) := by decide +kernel
theorem dX10_readNumber_162 : decode cX10_readNumber 162 = .ok (.invokevirtual 128, 3) := by decide +kernel
theorem dX10_readNumber_165 : decode cX10_readNumber 165 = .ok (.goto 24, 3) := by decide +kernel
theorem dX10_readNumber_168 : decode cX10_readNumber 168 = .ok (.aload_n 0, 1) := by decide +kernel
theorem dX10_readNumber_169 : decode cX10_readNumber 169 = .ok (.iload_n 2, 1) := by decide +kernel
theorem dX10_readNumber_170 : decode cX10_readNumber 170 = .ok (.iconst 2, 1) := by decide +kernel
theorem dX10_readNumber_171 : decode cX10_readNumber 171 = .ok (.irem, 1) := by decide +kernel
theorem dX10_readNumber_172 : decode cX10_readNumber 172 = .ok (.ifCond .ne 9, 3) := by decide +kernel
theorem dX10_readNumber_175 : decode cX10_readNumber 175 = .ok (.iload_n 2, 1) := by decide +kernel
theorem dX10_readNumber_176 : decode cX10_readNumber 176 = .ok (.iconst 2, 1) := by decide +kernel
theorem dX10_readNumber_177 : decode cX10_readNumber 177 = .ok (.idiv, 1) := by decide +kernel
theorem dX10_readNumber_178 : decode cX10_readNumber 178 = .ok (.goto 7, 3) := by decide +kernel
theorem dX10_readNumber_181 : decode cX10_readNumber 181 = .ok (.iload_n 2, 1) := by decide +kernel
theorem dX10_readNumber_182 : decode cX10_readNumber 182 = .ok (.iconst 2, 1) := by decide +kernel
theorem dX10_readNumber_183 : decode cX10_readNumber 183 = .ok (.idiv, 1) := by decide +kernel
theorem dX10_readNumber_184 : decode cX10_readNumber 184 = .ok (.ineg, 1) := by decide +kernel
theorem dX10_readNumber_185 : decode cX10_readNumber 185 = .ok (.iload_n 1, 1) := by decide +kernel
theorem dX10_readNumber_186 : decode cX10_readNumber 186 = .ok (.invokevirtual 154, 3) := by decide +kernel
theorem dX10_readNumber_189 : decode cX10_readNumber 189 = .ok (.aload_n 0, 1) := by decide +kernel
theorem dX10_readNumber_190 : decode cX10_readNumber 190 = .ok (.getfield 102, 3) := by decide +kernel
theorem dX10_readNumber_193 : decode cX10_readNumber 193 = .ok (.ifCond .ne 7, 3) := by decide +kernel
theorem dX10_readNumber_196 : decode cX10_readNumber 196 = .ok (.iconst 1, 1) := by decide +kernel
theorem dX10_readNumber_197 : decode cX10_readNumber 197 = .ok (.goto 4, 3) := by decide +kernel
theorem dX10_readNumber_200 : decode cX10_readNumber 200 = .ok (.iconst 0, 1) := by decide +kernel
theorem dX10_readNumber_201 : decode cX10_readNumber 201 = .ok (.ireturn, 1) := by decide +kernel
theorem dX10_becomesProof_0 : decode cX10_becomesProof 0 = .ok (.aload_n 0, 1) := by decide +kernel
theorem dX10_becomesProof_1 : decode cX10_becomesProof 1 = .ok (.aload_n 0, 1) := by decide +kernel
theorem dX10_becomesProof_2 : decode cX10_becomesProof 2 = .ok (.getfield 139, 3) := by decide +kernel
theorem dX10_becomesProof_5 : decode cX10_becomesProof 5 = .ok (.putfield 188, 3) := by decide +kernel
theorem dX10_becomesProof_8 : decode cX10_becomesProof 8 = .ok (.iconst 1, 1) := by decide +kernel
theorem dX10_becomesProof_9 : decode cX10_becomesProof 9 = .ok (.istore_n 1, 1) := by decide +kernel
theorem dX10_becomesProof_10 : decode cX10_becomesProof 10 = .ok (.iload_n 1, 1) := by decide +kernel
theorem dX10_becomesProof_11 : decode cX10_becomesProof 11 = .ok (.aload_n 0, 1) := by decide +kernel
theorem dX10_becomesProof_12 : decode cX10_becomesProof 12 = .ok (.getfield 139, 3) := by decide +kernel
theorem dX10_becomesProof_15 : decode cX10_becomesProof 15 = .ok (.if_icmp .gt 45, 3) := by decide +kernel
theorem dX10_becomesProof_18 : decode cX10_becomesProof 18 = .ok (.aload_n 0, 1) := by decide +kernel
theorem dX10_becomesProof_19 : decode cX10_becomesProof 19 = .ok (.getfield 29, 3) := by decide +kernel
theorem dX10_becomesProof_22 : decode cX10_becomesProof 22 = .ok (.iload_n 1, 1) := by decide +kernel
theorem dX10_becomesProof_23 : decode cX10_becomesProof 23 = .ok (.aload_n 0, 1) := by decide +kernel
theorem dX10_becomesProof_24 : decode cX10_becomesProof 24 = .ok (.getfield 42, 3) := by decide +kernel
theorem dX10_becomesProof_27 : decode cX10_becomesProof 27 = .ok (.iload_n 1, 1) := by decide +kernel
theorem dX10_becomesProof_28 : decode cX10_becomesProof 28 = .ok (.iaload, 1) := by decide +kernel
theorem dX10_becomesProof_29 : decode cX10_becomesProof 29 = .ok (.iastore, 1) := by decide +kernel
theorem dX10_becomesProof_30 : decode cX10_becomesProof 30 = .ok (.aload_n 0, 1) := by decide +kernel
theorem dX10_becomesProof_31 : decode cX10_becomesProof 31 = .ok (.getfield 32, 3) := by decide +kernel
theorem dX10_becomesProof_34 : decode cX10_becomesProof 34 = .ok (.iload_n 1, 1) := by decide +kernel
theorem dX10_becomesProof_35 : decode cX10_becomesProof 35 = .ok (.aload_n 0, 1) := by decide +kernel
theorem dX10_becomesProof_36 : decode cX10_becomesProof 36 = .ok (.getfield 45, 3) := by decide +kernel
theorem dX10_becomesProof_39 : decode cX10_becomesProof 39 = .ok (.iload_n 1, 1) := by decide +kernel
theorem dX10_becomesProof_40 : decode cX10_becomesProof 40 = .ok (.iaload, 1) := by decide +kernel
theorem dX10_becomesProof_41 : decode cX10_becomesProof 41 = .ok (.iastore, 1) := by decide +kernel
theorem dX10_becomesProof_42 : decode cX10_becomesProof 42 = .ok (.aload_n 0, 1) := by decide +kernel
theorem dX10_becomesProof_43 : decode cX10_becomesProof 43 = .ok (.getfield 38, 3) := by decide +kernel
theorem dX10_becomesProof_46 : decode cX10_becomesProof 46 = .ok (.iload_n 1, 1) := by decide +kernel
theorem dX10_becomesProof_47 : decode cX10_becomesProof 47 = .ok (.aload_n 0, 1) := by decide +kernel
theorem dX10_becomesProof_48 : decode cX10_becomesProof 48 = .ok (.getfield 51, 3) := by decide +kernel
theorem dX10_becomesProof_51 : decode cX10_becomesProof 51 = .ok (.iload_n 1, 1) := by decide +kernel
theorem dX10_becomesProof_52 : decode cX10_becomesProof 52 = .ok (.baload, 1) := by decide +kernel
theorem dX10_becomesProof_53 : decode cX10_becomesProof 53 = .ok (.bastore, 1) := by decide +kernel
theorem dX10_becomesProof_54 : decode cX10_becomesProof 54 = .ok (.iinc 1 1, 3) := by decide +kernel
theorem dX10_becomesProof_57 : decode cX10_becomesProof 57 = .ok (.goto (-47), 3) := by decide +kernel
theorem dX10_becomesProof_60 : decode cX10_becomesProof 60 = .ok (.iconst 0, 1) := by decide +kernel
theorem dX10_becomesProof_61 : decode cX10_becomesProof 61 = .ok (.istore_n 1, 1) := by decide +kernel
theorem dX10_becomesProof_62 : decode cX10_becomesProof 62 = .ok (.iload_n 1, 1) := by decide +kernel
theorem dX10_becomesProof_63 : decode cX10_becomesProof 63 = .ok (.aload_n 0, 1) := by decide +kernel
theorem dX10_becomesProof_64 : decode cX10_becomesProof 64 = .ok (.getfield 142, 3) := by decide +kernel
theorem dX10_becomesProof_67 : decode cX10_becomesProof 67 = .ok (.if_icmp .ge 21, 3) := by decide +kernel
theorem dX10_becomesProof_70 : decode cX10_becomesProof 70 = .ok (.aload_n 0, 1) := by decide +kernel
theorem dX10_becomesProof_71 : decode cX10_becomesProof 71 = .ok (.getfield 35, 3) := by decide +kernel
theorem dX10_becomesProof_74 : decode cX10_becomesProof 74 = .ok (.iload_n 1, 1) := by decide +kernel
theorem dX10_becomesProof_75 : decode cX10_becomesProof 75 = .ok (.aload_n 0, 1) := by decide +kernel
theorem dX10_becomesProof_76 : decode cX10_becomesProof 76 = .ok (.getfield 48, 3) := by decide +kernel
theorem dX10_becomesProof_79 : decode cX10_becomesProof 79 = .ok (.iload_n 1, 1) := by decide +kernel
theorem dX10_becomesProof_80 : decode cX10_becomesProof 80 = .ok (.iaload, 1) := by decide +kernel
theorem dX10_becomesProof_81 : decode cX10_becomesProof 81 = .ok (.iastore, 1) := by decide +kernel
theorem dX10_becomesProof_82 : decode cX10_becomesProof 82 = .ok (.iinc 1 1, 3) := by decide +kernel
theorem dX10_becomesProof_85 : decode cX10_becomesProof 85 = .ok (.goto (-23), 3) := by decide +kernel
theorem dX10_becomesProof_88 : decode cX10_becomesProof 88 = .ok (.aload_n 0, 1) := by decide +kernel
theorem dX10_becomesProof_89 : decode cX10_becomesProof 89 = .ok (.iconst 0, 1) := by decide +kernel
theorem dX10_becomesProof_90 : decode cX10_becomesProof 90 = .ok (.putfield 191, 3) := by decide +kernel
theorem dX10_becomesProof_93 : decode cX10_becomesProof 93 = .ok (.aload_n 0, 1) := by decide +kernel
theorem dX10_becomesProof_94 : decode cX10_becomesProof 94 = .ok (.invokevirtual 195, 3) := by decide +kernel
theorem dX10_becomesProof_97 : decode cX10_becomesProof 97 = .ok (.return_, 1) := by decide +kernel
theorem dX10_number0_0 : decode cX10_number0 0 = .ok (.aload_n 0, 1) := by decide +kernel
theorem dX10_number0_1 : decode cX10_number0 1 = .ok (.aload_n 0, 1) := by decide +kernel
theorem dX10_number0_2 : decode cX10_number0 2 = .ok (.getfield 185, 3) := by decide +kernel
theorem dX10_number0_5 : decode cX10_number0 5 = .ok (.putfield 207, 3) := by decide +kernel
theorem dX10_number0_8 : decode cX10_number0 8 = .ok (.iconst 1, 1) := by decide +kernel
theorem dX10_number0_9 : decode cX10_number0 9 = .ok (.istore_n 1, 1) := by decide +kernel
theorem dX10_number0_10 : decode cX10_number0 10 = .ok (.iload_n 1, 1) := by decide +kernel
theorem dX10_number0_11 : decode cX10_number0 11 = .ok (.aload_n 0, 1) := by decide +kernel
theorem dX10_number0_12 : decode cX10_number0 12 = .ok (.getfield 188, 3) := by decide +kernel
theorem dX10_number0_15 : decode cX10_number0 15 = .ok (.if_icmp .gt 61, 3) := by decide +kernel
theorem dX10_number0_18 : decode cX10_number0 18 = .ok (.aload_n 0, 1) := by decide +kernel
theorem dX10_number0_19 : decode cX10_number0 19 = .ok (.getfield 38, 3) := by decide +kernel
theorem dX10_number0_22 : decode cX10_number0 22 = .ok (.iload_n 1, 1) := by decide +kernel
theorem dX10_number0_23 : decode cX10_number0 23 = .ok (.baload, 1) := by decide +kernel
theorem dX10_number0_24 : decode cX10_number0 24 = .ok (.ifCond .ne 23, 3) := by decide +kernel
theorem dX10_number0_27 : decode cX10_number0 27 = .ok (.aload_n 0, 1) := by decide +kernel
theorem dX10_number0_28 : decode cX10_number0 28 = .ok (.dup, 1) := by decide +kernel
theorem dX10_number0_29 : decode cX10_number0 29 = .ok (.getfield 207, 3) := by decide +kernel
theorem dX10_number0_32 : decode cX10_number0 32 = .ok (.iconst 1, 1) := by decide +kernel
theorem dX10_number0_33 : decode cX10_number0 33 = .ok (.iadd, 1) := by decide +kernel
theorem dX10_number0_34 : decode cX10_number0 34 = .ok (.putfield 207, 3) := by decide +kernel
theorem dX10_number0_37 : decode cX10_number0 37 = .ok (.aload_n 0, 1) := by decide +kernel
theorem dX10_number0_38 : decode cX10_number0 38 = .ok (.getfield 54, 3) := by decide +kernel
theorem dX10_number0_41 : decode cX10_number0 41 = .ok (.aload_n 0, 1) := by decide +kernel
theorem dX10_number0_42 : decode cX10_number0 42 = .ok (.getfield 207, 3) := by decide +kernel
theorem dX10_number0_45 : decode cX10_number0 45 = .ok (.iload_n 1, 1) := by decide +kernel
theorem dX10_number0_46 : decode cX10_number0 46 = .ok (.iastore, 1) := by decide +kernel
theorem dX10_number0_47 : decode cX10_number0 47 = .ok (.aload_n 0, 1) := by decide +kernel
theorem dX10_number0_48 : decode cX10_number0 48 = .ok (.getfield 57, 3) := by decide +kernel
theorem dX10_number0_51 : decode cX10_number0 51 = .ok (.iload_n 1, 1) := by decide +kernel
theorem dX10_number0_52 : decode cX10_number0 52 = .ok (.aload_n 0, 1) := by decide +kernel
theorem dX10_number0_53 : decode cX10_number0 53 = .ok (.getfield 38, 3) := by decide +kernel
theorem dX10_number0_56 : decode cX10_number0 56 = .ok (.iload_n 1, 1) := by decide +kernel
theorem dX10_number0_57 : decode cX10_number0 57 = .ok (.baload, 1) := by decide +kernel
theorem dX10_number0_58 : decode cX10_number0 58 = .ok (.ifCond .eq 7, 3) := by decide +kernel
theorem dX10_number0_61 : decode cX10_number0 61 = .ok (.iconst 0, 1) := by decide +kernel
theorem dX10_number0_62 : decode cX10_number0 62 = .ok (.goto 7, 3) := by decide +kernel
theorem dX10_number0_65 : decode cX10_number0 65 = .ok (.aload_n 0, 1) := by decide +kernel
theorem dX10_number0_66 : decode cX10_number0 66 = .ok (.getfield 207, 3) := by decide +kernel
theorem dX10_number0_69 : decode cX10_number0 69 = .ok (.iastore, 1) := by decide +kernel
theorem dX10_number0_70 : decode cX10_number0 70 = .ok (.iinc 1 1, 3) := by decide +kernel
theorem dX10_number0_73 : decode cX10_number0 73 = .ok (.goto (-63), 3) := by decide +kernel
theorem dX10_number0_76 : decode cX10_number0 76 = .ok (.return_, 1) := by decide +kernel
theorem dX10_proof_0 : decode cX10_proof 0 = .ok (.aload_n 0, 1) := by decide +kernel
theorem dX10_proof_1 : decode cX10_proof 1 = .ok (.iconst 0, 1) := by decide +kernel
theorem dX10_proof_2 : decode cX10_proof 2 = .ok (.putfield 96, 3) := by decide +kernel
theorem dX10_proof_5 : decode cX10_proof 5 = .ok (.iload_n 1, 1) := by decide +kernel
theorem dX10_proof_6 : decode cX10_proof 6 = .ok (.ifCond .lt 11, 3) := by decide +kernel
theorem dX10_proof_9 : decode cX10_proof 9 = .ok (.iload_n 1, 1) := by decide +kernel
theorem dX10_proof_10 : decode cX10_proof 10 = .ok (.aload_n 0, 1) := by decide +kernel
theorem dX10_proof_11 : decode cX10_proof 11 = .ok (.getfield 99, 3) := by decide +kernel
theorem dX10_proof_14 : decode cX10_proof 14 = .ok (.if_icmp .le 8, 3) := by decide +kernel
theorem dX10_proof_17 : decode cX10_proof 17 = .ok (.aload_n 0, 1) := by decide +kernel
theorem dX10_proof_18 : decode cX10_proof 18 = .ok (.invokevirtual 157, 3) := by decide +kernel
theorem dX10_proof_21 : decode cX10_proof 21 = .ok (.ireturn, 1) := by decide +kernel
theorem dX10_proof_22 : decode cX10_proof 22 = .ok (.aload_n 0, 1) := by decide +kernel
theorem dX10_proof_23 : decode cX10_proof 23 = .ok (.iload_n 1, 1) := by decide +kernel
theorem dX10_proof_24 : decode cX10_proof 24 = .ok (.invokevirtual 160, 3) := by decide +kernel
theorem dX10_proof_27 : decode cX10_proof 27 = .ok (.iload_n 2, 1) := by decide +kernel
theorem dX10_proof_28 : decode cX10_proof 28 = .ok (.ifCond .eq 10, 3) := by decide +kernel
theorem dX10_proof_31 : decode cX10_proof 31 = .ok (.aload_n 0, 1) := by decide +kernel
theorem dX10_proof_32 : decode cX10_proof 32 = .ok (.invokevirtual 210, 3) := by decide +kernel
theorem dX10_proof_35 : decode cX10_proof 35 = .ok (.goto 7, 3) := by decide +kernel
theorem dX10_proof_38 : decode cX10_proof 38 = .ok (.aload_n 0, 1) := by decide +kernel
theorem dX10_proof_39 : decode cX10_proof 39 = .ok (.invokevirtual 213, 3) := by decide +kernel
theorem dX10_proof_42 : decode cX10_proof 42 = .ok (.aload_n 0, 1) := by decide +kernel
theorem dX10_proof_43 : decode cX10_proof 43 = .ok (.invokevirtual 179, 3) := by decide +kernel
theorem dX10_proof_46 : decode cX10_proof 46 = .ok (.ifCond .eq 7, 3) := by decide +kernel
theorem dX10_proof_49 : decode cX10_proof 49 = .ok (.aload_n 0, 1) := by decide +kernel
theorem dX10_proof_50 : decode cX10_proof 50 = .ok (.invokevirtual 216, 3) := by decide +kernel
theorem dX10_proof_53 : decode cX10_proof 53 = .ok (.aload_n 0, 1) := by decide +kernel
theorem dX10_proof_54 : decode cX10_proof 54 = .ok (.getfield 198, 3) := by decide +kernel
theorem dX10_proof_57 : decode cX10_proof 57 = .ok (.ireturn, 1) := by decide +kernel
theorem dX10_fault_0 : decode cX10_fault 0 = .ok (.aload_n 0, 1) := by decide +kernel
theorem dX10_fault_1 : decode cX10_fault 1 = .ok (.iconst 0, 1) := by decide +kernel
theorem dX10_fault_2 : decode cX10_fault 2 = .ok (.putfield 96, 3) := by decide +kernel
theorem dX10_fault_5 : decode cX10_fault 5 = .ok (.iload_n 1, 1) := by decide +kernel
theorem dX10_fault_6 : decode cX10_fault 6 = .ok (.ifCond .lt 8, 3) := by decide +kernel
theorem dX10_fault_9 : decode cX10_fault 9 = .ok (.iload_n 1, 1) := by decide +kernel
theorem dX10_fault_10 : decode cX10_fault 10 = .ok (.iconst 1, 1) := by decide +kernel
theorem dX10_fault_11 : decode cX10_fault 11 = .ok (.if_icmp .le 8, 3) := by decide +kernel
theorem dX10_fault_14 : decode cX10_fault 14 = .ok (.aload_n 0, 1) := by decide +kernel
theorem dX10_fault_15 : decode cX10_fault 15 = .ok (.invokevirtual 157, 3) := by decide +kernel
theorem dX10_fault_18 : decode cX10_fault 18 = .ok (.ireturn, 1) := by decide +kernel
theorem dX10_fault_19 : decode cX10_fault 19 = .ok (.iload_n 1, 1) := by decide +kernel
theorem dX10_fault_20 : decode cX10_fault 20 = .ok (.ifCond .ne 10, 3) := by decide +kernel
theorem dX10_fault_23 : decode cX10_fault 23 = .ok (.aload_n 0, 1) := by decide +kernel
theorem dX10_fault_24 : decode cX10_fault 24 = .ok (.getfield 198, 3) := by decide +kernel
theorem dX10_fault_27 : decode cX10_fault 27 = .ok (.goto 7, 3) := by decide +kernel
theorem dX10_fault_30 : decode cX10_fault 30 = .ok (.aload_n 0, 1) := by decide +kernel
theorem dX10_fault_31 : decode cX10_fault 31 = .ok (.getfield 16, 3) := by decide +kernel
theorem dX10_fault_34 : decode cX10_fault 34 = .ok (.ireturn, 1) := by decide +kernel
theorem dX10_longOf_0 : decode cX10_longOf 0 = .ok (.iload_n 1, 1) := by decide +kernel
theorem dX10_longOf_1 : decode cX10_longOf 1 = .ok (.aload_n 0, 1) := by decide +kernel
theorem dX10_longOf_2 : decode cX10_longOf 2 = .ok (.getfield 185, 3) := by decide +kernel
theorem dX10_longOf_5 : decode cX10_longOf 5 = .ok (.if_icmp .gt 12, 3) := by decide +kernel
theorem dX10_longOf_8 : decode cX10_longOf 8 = .ok (.aload_n 0, 1) := by decide +kernel
theorem dX10_longOf_9 : decode cX10_longOf 9 = .ok (.getfield 23, 3) := by decide +kernel
theorem dX10_longOf_12 : decode cX10_longOf 12 = .ok (.iload_n 1, 1) := by decide +kernel
theorem dX10_longOf_13 : decode cX10_longOf 13 = .ok (.iaload, 1) := by decide +kernel
theorem dX10_longOf_14 : decode cX10_longOf 14 = .ok (.goto 14, 3) := by decide +kernel
theorem dX10_longOf_17 : decode cX10_longOf 17 = .ok (.aload_n 0, 1) := by decide +kernel
theorem dX10_longOf_18 : decode cX10_longOf 18 = .ok (.getfield 32, 3) := by decide +kernel
theorem dX10_longOf_21 : decode cX10_longOf 21 = .ok (.aload_n 0, 1) := by decide +kernel
theorem dX10_longOf_22 : decode cX10_longOf 22 = .ok (.getfield 54, 3) := by decide +kernel
theorem dX10_longOf_25 : decode cX10_longOf 25 = .ok (.iload_n 1, 1) := by decide +kernel
theorem dX10_longOf_26 : decode cX10_longOf 26 = .ok (.iaload, 1) := by decide +kernel
theorem dX10_longOf_27 : decode cX10_longOf 27 = .ok (.iaload, 1) := by decide +kernel
theorem dX10_longOf_28 : decode cX10_longOf 28 = .ok (.ireturn, 1) := by decide +kernel
theorem dX10_literalOf_0 : decode cX10_literalOf 0 = .ok (.iload_n 1, 1) := by decide +kernel
theorem dX10_literalOf_1 : decode cX10_literalOf 1 = .ok (.aload_n 0, 1) := by decide +kernel
theorem dX10_literalOf_2 : decode cX10_literalOf 2 = .ok (.getfield 185, 3) := by decide +kernel
theorem dX10_literalOf_5 : decode cX10_literalOf 5 = .ok (.if_icmp .gt 19, 3) := by decide +kernel
theorem dX10_literalOf_8 : decode cX10_literalOf 8 = .ok (.aload_n 0, 1) := by decide +kernel
theorem dX10_literalOf_9 : decode cX10_literalOf 9 = .ok (.getfield 26, 3) := by decide +kernel
theorem dX10_literalOf_12 : decode cX10_literalOf 12 = .ok (.aload_n 0, 1) := by decide +kernel
theorem dX10_literalOf_13 : decode cX10_literalOf 13 = .ok (.getfield 20, 3) := by decide +kernel
theorem dX10_literalOf_16 : decode cX10_literalOf 16 = .ok (.iload_n 1, 1) := by decide +kernel
theorem dX10_literalOf_17 : decode cX10_literalOf 17 = .ok (.iaload, 1) := by decide +kernel
theorem dX10_literalOf_18 : decode cX10_literalOf 18 = .ok (.iload_n 2, 1) := by decide +kernel
theorem dX10_literalOf_19 : decode cX10_literalOf 19 = .ok (.iadd, 1) := by decide +kernel
theorem dX10_literalOf_20 : decode cX10_literalOf 20 = .ok (.iaload, 1) := by decide +kernel
theorem dX10_literalOf_21 : decode cX10_literalOf 21 = .ok (.goto 21, 3) := by decide +kernel
theorem dX10_literalOf_24 : decode cX10_literalOf 24 = .ok (.aload_n 0, 1) := by decide +kernel
theorem dX10_literalOf_25 : decode cX10_literalOf 25 = .ok (.getfield 35, 3) := by decide +kernel
theorem dX10_literalOf_28 : decode cX10_literalOf 28 = .ok (.aload_n 0, 1) := by decide +kernel
theorem dX10_literalOf_29 : decode cX10_literalOf 29 = .ok (.getfield 29, 3) := by decide +kernel
theorem dX10_literalOf_32 : decode cX10_literalOf 32 = .ok (.aload_n 0, 1) := by decide +kernel
theorem dX10_literalOf_33 : decode cX10_literalOf 33 = .ok (.getfield 54, 3) := by decide +kernel
theorem dX10_literalOf_36 : decode cX10_literalOf 36 = .ok (.iload_n 1, 1) := by decide +kernel
theorem dX10_literalOf_37 : decode cX10_literalOf 37 = .ok (.iaload, 1) := by decide +kernel
theorem dX10_literalOf_38 : decode cX10_literalOf 38 = .ok (.iaload, 1) := by decide +kernel
theorem dX10_literalOf_39 : decode cX10_literalOf 39 = .ok (.iload_n 2, 1) := by decide +kernel
theorem dX10_literalOf_40 : decode cX10_literalOf 40 = .ok (.iadd, 1) := by decide +kernel
theorem dX10_literalOf_41 : decode cX10_literalOf 41 = .ok (.iaload, 1) := by decide +kernel
theorem dX10_literalOf_42 : decode cX10_literalOf 42 = .ok (.ireturn, 1) := by decide +kernel
theorem dX10_has_0 : decode cX10_has 0 = .ok (.iconst 0, 1) := by decide +kernel
theorem dX10_has_1 : decode cX10_has 1 = .ok (.istore_n 3, 1) := by decide +kernel
theorem dX10_has_2 : decode cX10_has 2 = .ok (.iconst 0, 1) := by decide +kernel
theorem dX10_has_3 : decode cX10_has 3 = .ok (.istore 4, 2) := by decide +kernel
theorem dX10_has_5 : decode cX10_has 5 = .ok (.iload 4, 2) := by decide +kernel
theorem dX10_has_7 : decode cX10_has 7 = .ok (.aload_n 0, 1) := by decide +kernel
theorem dX10_has_8 : decode cX10_has 8 = .ok (.iload_n 1, 1) := by decide +kernel
theorem dX10_has_9 : decode cX10_has 9 = .ok (.invokevirtual 219, 3) := by decide +kernel
theorem dX10_has_12 : decode cX10_has 12 = .ok (.if_icmp .ge 30, 3) := by decide +kernel
theorem dX10_has_15 : decode cX10_has 15 = .ok (.iload_n 3, 1) := by decide +kernel
theorem dX10_has_16 : decode cX10_has 16 = .ok (.ifCond .ne 14, 3) := by decide +kernel
theorem dX10_has_19 : decode cX10_has 19 = .ok (.aload_n 0, 1) := by decide +kernel
theorem dX10_has_20 : decode cX10_has 20 = .ok (.iload_n 1, 1) := by decide +kernel
theorem dX10_has_21 : decode cX10_has 21 = .ok (.iload 4, 2) := by decide +kernel
theorem dX10_has_23 : decode cX10_has 23 = .ok (.invokevirtual 222, 3) := by decide +kernel
theorem dX10_has_26 : decode cX10_has 26 = .ok (.iload_n 2, 1) := by decide +kernel
theorem dX10_has_27 : decode cX10_has 27 = .ok (.if_icmp .ne 7, 3) := by decide +kernel
theorem dX10_has_30 : decode cX10_has 30 = .ok (.iconst 1, 1) := by decide +kernel
theorem dX10_has_31 : decode cX10_has 31 = .ok (.goto 4, 3) := by decide +kernel
theorem dX10_has_34 : decode cX10_has 34 = .ok (.iconst 0, 1) := by decide +kernel
theorem dX10_has_35 : decode cX10_has 35 = .ok (.istore_n 3, 1) := by decide +kernel
theorem dX10_has_36 : decode cX10_has 36 = .ok (.iinc 4 1, 3) := by decide +kernel
theorem dX10_has_39 : decode cX10_has 39 = .ok (.goto (-34), 3) := by decide +kernel
theorem dX10_has_42 : decode cX10_has 42 = .ok (.iload_n 3, 1) := by decide +kernel
theorem dX10_has_43 : decode cX10_has 43 = .ok (.ireturn, 1) := by decide +kernel
theorem dX10_valueOf_0 : decode cX10_valueOf 0 = .ok (.iload_n 1, 1) := by decide +kernel
theorem dX10_valueOf_1 : decode cX10_valueOf 1 = .ok (.ifCond .le 12, 3) := by decide +kernel
theorem dX10_valueOf_4 : decode cX10_valueOf 4 = .ok (.aload_n 0, 1) := by decide +kernel
theorem dX10_valueOf_5 : decode cX10_valueOf 5 = .ok (.getfield 75, 3) := by decide +kernel
theorem dX10_valueOf_8 : decode cX10_valueOf 8 = .ok (.iload_n 1, 1) := by decide +kernel
theorem dX10_valueOf_9 : decode cX10_valueOf 9 = .ok (.iaload, 1) := by decide +kernel
theorem dX10_valueOf_10 : decode cX10_valueOf 10 = .ok (.goto 11, 3) := by decide +kernel
theorem dX10_valueOf_13 : decode cX10_valueOf 13 = .ok (.aload_n 0, 1) := by decide +kernel
theorem dX10_valueOf_14 : decode cX10_valueOf 14 = .ok (.getfield 75, 3) := by decide +kernel
theorem dX10_valueOf_17 : decode cX10_valueOf 17 = .ok (.iload_n 1, 1) := by decide +kernel
theorem dX10_valueOf_18 : decode cX10_valueOf 18 = .ok (.ineg, 1) := by decide +kernel
theorem dX10_valueOf_19 : decode cX10_valueOf 19 = .ok (.iaload, 1) := by decide +kernel
theorem dX10_valueOf_20 : decode cX10_valueOf 20 = .ok (.ineg, 1) := by decide +kernel
theorem dX10_valueOf_21 : decode cX10_valueOf 21 = .ok (.ireturn, 1) := by decide +kernel
theorem dX10_begin_0 : decode cX10_begin 0 = .ok (.iconst 0, 1) := by decide +kernel
theorem dX10_begin_1 : decode cX10_begin 1 = .ok (.istore_n 1, 1) := by decide +kernel
theorem dX10_begin_2 : decode cX10_begin 2 = .ok (.iload_n 1, 1) := by decide +kernel
theorem dX10_begin_3 : decode cX10_begin 3 = .ok (.sipush 150, 3) := by decide +kernel
theorem dX10_begin_6 : decode cX10_begin 6 = .ok (.if_icmp .gt 16, 3) := by decide +kernel
theorem dX10_begin_9 : decode cX10_begin 9 = .ok (.aload_n 0, 1) := by decide +kernel
theorem dX10_begin_10 : decode cX10_begin 10 = .ok (.getfield 75, 3) := by decide +kernel
theorem dX10_begin_13 : decode cX10_begin 13 = .ok (.iload_n 1, 1) := by decide +kernel
theorem dX10_begin_14 : decode cX10_begin 14 = .ok (.iconst 0, 1) := by decide +kernel
theorem dX10_begin_15 : decode cX10_begin 15 = .ok (.iastore, 1) := by decide +kernel
theorem dX10_begin_16 : decode cX10_begin 16 = .ok (.iinc 1 1, 3) := by decide +kernel
theorem dX10_begin_19 : decode cX10_begin 19 = .ok (.goto (-17), 3) := by decide +kernel
theorem dX10_begin_22 : decode cX10_begin 22 = .ok (.aload_n 0, 1) := by decide +kernel
theorem dX10_begin_23 : decode cX10_begin 23 = .ok (.iconst 0, 1) := by decide +kernel
theorem dX10_begin_24 : decode cX10_begin 24 = .ok (.putfield 226, 3) := by decide +kernel
theorem dX10_begin_27 : decode cX10_begin 27 = .ok (.aload_n 0, 1) := by decide +kernel
theorem dX10_begin_28 : decode cX10_begin 28 = .ok (.iconst 0, 1) := by decide +kernel
theorem dX10_begin_29 : decode cX10_begin 29 = .ok (.putfield 229, 3) := by decide +kernel
theorem dX10_begin_32 : decode cX10_begin 32 = .ok (.aload_n 0, 1) := by decide +kernel
theorem dX10_begin_33 : decode cX10_begin 33 = .ok (.iconst 0, 1) := by decide +kernel
theorem dX10_begin_34 : decode cX10_begin 34 = .ok (.putfield 232, 3) := by decide +kernel
theorem dX10_begin_37 : decode cX10_begin 37 = .ok (.return_, 1) := by decide +kernel
theorem dX10_becomes_0 : decode cX10_becomes 0 = .ok (.aload_n 0, 1) := by decide +kernel
theorem dX10_becomes_1 : decode cX10_becomes 1 = .ok (.getfield 235, 3) := by decide +kernel
theorem dX10_becomes_4 : decode cX10_becomes 4 = .ok (.ifCond .ne 9, 3) := by decide +kernel
theorem dX10_becomes_7 : decode cX10_becomes 7 = .ok (.aload_n 0, 1) := by decide +kernel
theorem dX10_becomes_8 : decode cX10_becomes 8 = .ok (.iconst 1, 1) := by decide +kernel
theorem dX10_becomes_9 : decode cX10_becomes 9 = .ok (.putfield 238, 3) := by decide +kernel
theorem dX10_becomes_12 : decode cX10_becomes 12 = .ok (.return_, 1) := by decide +kernel
theorem dX10_becomes_13 : decode cX10_becomes 13 = .ok (.aload_n 0, 1) := by decide +kernel
theorem dX10_becomes_14 : decode cX10_becomes 14 = .ok (.dup, 1) := by decide +kernel
theorem dX10_becomes_15 : decode cX10_becomes 15 = .ok (.getfield 235, 3) := by decide +kernel
theorem dX10_becomes_18 : decode cX10_becomes 18 = .ok (.iconst 1, 1) := by decide +kernel
theorem dX10_becomes_19 : decode cX10_becomes 19 = .ok (.isub, 1) := by decide +kernel
theorem dX10_becomes_20 : decode cX10_becomes 20 = .ok (.putfield 235, 3) := by decide +kernel
theorem dX10_becomes_23 : decode cX10_becomes 23 = .ok (.aload_n 0, 1) := by decide +kernel
theorem dX10_becomes_24 : decode cX10_becomes 24 = .ok (.getfield 75, 3) := by decide +kernel
theorem dX10_becomes_27 : decode cX10_becomes 27 = .ok (.iload_n 1, 1) := by decide +kernel
theorem dX10_becomes_28 : decode cX10_becomes 28 = .ok (.ifCond .le 7, 3) := by decide +kernel
theorem dX10_becomes_31 : decode cX10_becomes 31 = .ok (.iload_n 1, 1) := by decide +kernel
theorem dX10_becomes_32 : decode cX10_becomes 32 = .ok (.goto 5, 3) := by decide +kernel
theorem dX10_becomes_35 : decode cX10_becomes 35 = .ok (.iload_n 1, 1) := by decide +kernel
theorem dX10_becomes_36 : decode cX10_becomes 36 = .ok (.ineg, 1) := by decide +kernel
theorem dX10_becomes_37 : decode cX10_becomes 37 = .ok (.iload_n 1, 1) := by decide +kernel
theorem dX10_becomes_38 : decode cX10_becomes 38 = .ok (.ifCond .le 7, 3) := by decide +kernel
theorem dX10_becomes_41 : decode cX10_becomes 41 = .ok (.iconst 1, 1) := by decide +kernel
theorem dX10_becomes_42 : decode cX10_becomes 42 = .ok (.goto 4, 3) := by decide +kernel
theorem dX10_becomes_45 : decode cX10_becomes 45 = .ok (.iconst (-1), 1) := by decide +kernel
theorem dX10_becomes_46 : decode cX10_becomes 46 = .ok (.iastore, 1) := by decide +kernel
theorem dX10_becomes_47 : decode cX10_becomes 47 = .ok (.aload_n 0, 1) := by decide +kernel
theorem dX10_becomes_48 : decode cX10_becomes 48 = .ok (.getfield 78, 3) := by decide +kernel
theorem dX10_becomes_51 : decode cX10_becomes 51 = .ok (.aload_n 0, 1) := by decide +kernel
theorem dX10_becomes_52 : decode cX10_becomes 52 = .ok (.getfield 226, 3) := by decide +kernel
theorem dX10_becomes_55 : decode cX10_becomes 55 = .ok (.iload_n 1, 1) := by decide +kernel
theorem dX10_becomes_56 : decode cX10_becomes 56 = .ok (.iastore, 1) := by decide +kernel
theorem dX10_becomes_57 : decode cX10_becomes 57 = .ok (.aload_n 0, 1) := by decide +kernel
theorem dX10_becomes_58 : decode cX10_becomes 58 = .ok (.getfield 81, 3) := by decide +kernel
theorem dX10_becomes_61 : decode cX10_becomes 61 = .ok (.aload_n 0, 1) := by decide +kernel
theorem dX10_becomes_62 : decode cX10_becomes 62 = .ok (.getfield 226, 3) := by decide +kernel
theorem dX10_becomes_65 : decode cX10_becomes 65 = .ok (.iload_n 2, 1) := by decide +kernel
theorem dX10_becomes_66 : decode cX10_becomes 66 = .ok (.iastore, 1) := by decide +kernel
theorem dX10_becomes_67 : decode cX10_becomes 67 = .ok (.aload_n 0, 1) := by decide +kernel
theorem dX10_becomes_68 : decode cX10_becomes 68 = .ok (.dup, 1) := by decide +kernel
theorem dX10_becomes_69 : decode cX10_becomes 69 = .ok (.getfield 226, 3) := by decide +kernel
theorem dX10_becomes_72 : decode cX10_becomes 72 = .ok (.iconst 1, 1) := by decide +kernel
theorem dX10_becomes_73 : decode cX10_becomes 73 = .ok (.iadd, 1) := by decide +kernel
theorem dX10_becomes_74 : decode cX10_becomes 74 = .ok (.putfield 226, 3) := by decide +kernel
theorem dX10_becomes_77 : decode cX10_becomes 77 = .ok (.return_, 1) := by decide +kernel
theorem dX10_assume_0 : decode cX10_assume 0 = .ok (.aload_n 0, 1) := by decide +kernel
theorem dX10_assume_1 : decode cX10_assume 1 = .ok (.getfield 238, 3) := by decide +kernel
theorem dX10_assume_4 : decode cX10_assume 4 = .ok (.ifCond .ne 19, 3) := by decide +kernel
theorem dX10_assume_7 : decode cX10_assume 7 = .ok (.aload_n 0, 1) := by decide +kernel
theorem dX10_assume_8 : decode cX10_assume 8 = .ok (.getfield 229, 3) := by decide +kernel
theorem dX10_assume_11 : decode cX10_assume 11 = .ok (.ifCond .ne 12, 3) := by decide +kernel
theorem dX10_assume_14 : decode cX10_assume 14 = .ok (.aload_n 0, 1) := by decide +kernel
theorem dX10_assume_15 : decode cX10_assume 15 = .ok (.iload_n 1, 1) := by decide +kernel
theorem dX10_assume_16 : decode cX10_assume 16 = .ok (.invokevirtual 241, 3) := by decide +kernel
theorem dX10_assume_19 : decode cX10_assume 19 = .ok (.iconst 1, 1) := by decide +kernel
theorem dX10_assume_20 : decode cX10_assume 20 = .ok (.if_icmp .ne 4, 3) := by decide +kernel
theorem dX10_assume_23 : decode cX10_assume 23 = .ok (.return_, 1) := by decide +kernel
theorem dX10_assume_24 : decode cX10_assume 24 = .ok (.aload_n 0, 1) := by decide +kernel
theorem dX10_assume_25 : decode cX10_assume 25 = .ok (.iload_n 1, 1) := by decide +kernel
theorem dX10_assume_26 : decode cX10_assume 26 = .ok (.invokevirtual 241, 3) := by decide +kernel
theorem dX10_assume_29 : decode cX10_assume 29 = .ok (.iconst (-1), 1) := by decide +kernel
theorem dX10_assume_30 : decode cX10_assume 30 = .ok (.if_icmp .ne 11, 3) := by decide +kernel
theorem dX10_assume_33 : decode cX10_assume 33 = .ok (.aload_n 0, 1) := by decide +kernel
theorem dX10_assume_34 : decode cX10_assume 34 = .ok (.iconst 1, 1) := by decide +kernel
theorem dX10_assume_35 : decode cX10_assume 35 = .ok (.putfield 229, 3) := by decide +kernel
theorem dX10_assume_38 : decode cX10_assume 38 = .ok (.goto 9, 3) := by decide +kernel
theorem dX10_assume_41 : decode cX10_assume 41 = .ok (.aload_n 0, 1) := by decide +kernel
theorem dX10_assume_42 : decode cX10_assume 42 = .ok (.iload_n 1, 1) := by decide +kernel
theorem dX10_assume_43 : decode cX10_assume 43 = .ok (.iconst 0, 1) := by decide +kernel
theorem dX10_assume_44 : decode cX10_assume 44 = .ok (.invokevirtual 244, 3) := by decide +kernel
theorem dX10_assume_47 : decode cX10_assume 47 = .ok (.return_, 1) := by decide +kernel
theorem dX10_unit_0 : decode cX10_unit 0 = .ok (.iconst 0, 1) := by decide +kernel
theorem dX10_unit_1 : decode cX10_unit 1 = .ok (.istore_n 2, 1) := by decide +kernel
theorem dX10_unit_2 : decode cX10_unit 2 = .ok (.iconst 0, 1) := by decide +kernel
theorem dX10_unit_3 : decode cX10_unit 3 = .ok (.istore_n 3, 1) := by decide +kernel
theorem dX10_unit_4 : decode cX10_unit 4 = .ok (.iconst 0, 1) := by decide +kernel
theorem dX10_unit_5 : decode cX10_unit 5 = .ok (.istore 4, 2) := by decide +kernel
theorem dX10_unit_7 : decode cX10_unit 7 = .ok (.iload 4, 2) := by decide +kernel
theorem dX10_unit_9 : decode cX10_unit 9 = .ok (.aload_n 0, 1) := by decide +kernel
theorem dX10_unit_10 : decode cX10_unit 10 = .ok (.iload_n 1, 1) := by decide +kernel
theorem dX10_unit_11 : decode cX10_unit 11 = .ok (.invokevirtual 219, 3) := by decide +kernel
theorem dX10_unit_14 : decode cX10_unit 14 = .ok (.if_icmp .ge 48, 3) := by decide +kernel
theorem dX10_unit_17 : decode cX10_unit 17 = .ok (.aload_n 0, 1) := by decide +kernel
theorem dX10_unit_18 : decode cX10_unit 18 = .ok (.aload_n 0, 1) := by decide +kernel
theorem dX10_unit_19 : decode cX10_unit 19 = .ok (.iload_n 1, 1) := by decide +kernel
theorem dX10_unit_20 : decode cX10_unit 20 = .ok (.iload 4, 2) := by decide +kernel
theorem dX10_unit_22 : decode cX10_unit 22 = .ok (.invokevirtual 222, 3) := by decide +kernel
theorem dX10_unit_25 : decode cX10_unit 25 = .ok (.invokevirtual 241, 3) := by decide +kernel
theorem dX10_unit_28 : decode cX10_unit 28 = .ok (.istore 5, 2) := by decide +kernel
theorem dX10_unit_30 : decode cX10_unit 30 = .ok (.iload 5, 2) := by decide +kernel
theorem dX10_unit_32 : decode cX10_unit 32 = .ok (.iconst 1, 1) := by decide +kernel
theorem dX10_unit_33 : decode cX10_unit 33 = .ok (.if_icmp .ne 7, 3) := by decide +kernel
theorem dX10_unit_36 : decode cX10_unit 36 = .ok (.sipush (-1000), 3) := by decide +kernel
theorem dX10_unit_39 : decode cX10_unit 39 = .ok (.ireturn, 1) := by decide +kernel
theorem dX10_unit_40 : decode cX10_unit 40 = .ok (.iload 5, 2) := by decide +kernel
theorem dX10_unit_42 : decode cX10_unit 42 = .ok (.ifCond .ne 14, 3) := by decide +kernel
theorem dX10_unit_45 : decode cX10_unit 45 = .ok (.iinc 2 1, 3) := by decide +kernel
theorem dX10_unit_48 : decode cX10_unit 48 = .ok (.aload_n 0, 1) := by decide +kernel
theorem dX10_unit_49 : decode cX10_unit 49 = .ok (.iload_n 1, 1) := by decide +kernel
theorem dX10_unit_50 : decode cX10_unit 50 = .ok (.iload 4, 2) := by decide +kernel
theorem dX10_unit_52 : decode cX10_unit 52 = .ok (.invokevirtual 222, 3) := by decide +kernel
theorem dX10_unit_55 : decode cX10_unit 55 = .ok (.istore_n 3, 1) := by decide +kernel
theorem dX10_unit_56 : decode cX10_unit 56 = .ok (.iinc 4 1, 3) := by decide +kernel
theorem dX10_unit_59 : decode cX10_unit 59 = .ok (.goto (-52), 3) := by decide +kernel
theorem dX10_unit_62 : decode cX10_unit 62 = .ok (.iload_n 2, 1) := by decide +kernel
theorem dX10_unit_63 : decode cX10_unit 63 = .ok (.iconst 1, 1) := by decide +kernel
theorem dX10_unit_64 : decode cX10_unit 64 = .ok (.if_icmp .le 9, 3) := by decide +kernel
theorem dX10_unit_67 : decode cX10_unit 67 = .ok (.sipush (-1000), 3) := by decide +kernel
theorem dX10_unit_70 : decode cX10_unit 70 = .ok (.goto 4, 3) := by decide +kernel
theorem dX10_unit_73 : decode cX10_unit 73 = .ok (.iload_n 3, 1) := by decide +kernel
theorem dX10_unit_74 : decode cX10_unit 74 = .ok (.ireturn, 1) := by decide +kernel
theorem dX10_first_0 : decode cX10_first 0 = .ok (.iconst 0, 1) := by decide +kernel
theorem dX10_first_1 : decode cX10_first 1 = .ok (.istore_n 1, 1) := by decide +kernel
theorem dX10_first_2 : decode cX10_first 2 = .ok (.iload_n 1, 1) := by decide +kernel
theorem dX10_first_3 : decode cX10_first 3 = .ok (.iconst 2, 1) := by decide +kernel
theorem dX10_first_4 : decode cX10_first 4 = .ok (.if_icmp .ge 65, 3) := by decide +kernel
theorem dX10_first_7 : decode cX10_first 7 = .ok (.iconst 1, 1) := by decide +kernel
theorem dX10_first_8 : decode cX10_first 8 = .ok (.istore_n 2, 1) := by decide +kernel
theorem dX10_first_9 : decode cX10_first 9 = .ok (.iload_n 2, 1) := by decide +kernel
theorem dX10_first_10 : decode cX10_first 10 = .ok (.aload_n 0, 1) := by decide +kernel
theorem dX10_first_11 : decode cX10_first 11 = .ok (.getfield 207, 3) := by decide +kernel
theorem dX10_first_14 : decode cX10_first 14 = .ok (.if_icmp .gt 49, 3) := by decide +kernel
theorem dX10_first_17 : decode cX10_first 17 = .ok (.aload_n 0, 1) := by decide +kernel
theorem dX10_first_18 : decode cX10_first 18 = .ok (.getfield 60, 3) := by decide +kernel
theorem dX10_first_21 : decode cX10_first 21 = .ok (.iload_n 2, 1) := by decide +kernel
theorem dX10_first_22 : decode cX10_first 22 = .ok (.baload, 1) := by decide +kernel
theorem dX10_first_23 : decode cX10_first 23 = .ok (.ifCond .eq 34, 3) := by decide +kernel
theorem dX10_first_26 : decode cX10_first 26 = .ok (.aload_n 0, 1) := by decide +kernel
theorem dX10_first_27 : decode cX10_first 27 = .ok (.getfield 63, 3) := by decide +kernel
theorem dX10_first_30 : decode cX10_first 30 = .ok (.iload_n 2, 1) := by decide +kernel
theorem dX10_first_31 : decode cX10_first 31 = .ok (.baload, 1) := by decide +kernel
theorem dX10_first_32 : decode cX10_first 32 = .ok (.iload_n 1, 1) := by decide +kernel
theorem dX10_first_33 : decode cX10_first 33 = .ok (.ifCond .ne 7, 3) := by decide +kernel
theorem dX10_first_36 : decode cX10_first 36 = .ok (.iconst 1, 1) := by decide +kernel
theorem dX10_first_37 : decode cX10_first 37 = .ok (.goto 4, 3) := by decide +kernel
theorem dX10_first_40 : decode cX10_first 40 = .ok (.iconst 0, 1) := by decide +kernel
theorem dX10_first_41 : decode cX10_first 41 = .ok (.if_icmp .ne 16, 3) := by decide +kernel
theorem dX10_first_44 : decode cX10_first 44 = .ok (.aload_n 0, 1) := by decide +kernel
theorem dX10_first_45 : decode cX10_first 45 = .ok (.iload_n 2, 1) := by decide +kernel
theorem dX10_first_46 : decode cX10_first 46 = .ok (.invokevirtual 247, 3) := by decide +kernel
theorem dX10_first_49 : decode cX10_first 49 = .ok (.sipush (-1000), 3) := by decide +kernel
theorem dX10_first_52 : decode cX10_first 52 = .ok (.if_icmp .eq 5, 3) := by decide +kernel
theorem dX10_first_55 : decode cX10_first 55 = .ok (.iload_n 2, 1) := by decide +kernel
theorem dX10_first_56 : decode cX10_first 56 = .ok (.ireturn, 1) := by decide +kernel
theorem dX10_first_57 : decode cX10_first 57 = .ok (.iinc 2 1, 3) := by decide +kernel
theorem dX10_first_60 : decode cX10_first 60 = .ok (.goto (-51), 3) := by decide +kernel
theorem dX10_first_63 : decode cX10_first 63 = .ok (.iinc 1 1, 3) := by decide +kernel
theorem dX10_first_66 : decode cX10_first 66 = .ok (.goto (-64), 3) := by decide +kernel
theorem dX10_first_69 : decode cX10_first 69 = .ok (.iconst 0, 1) := by decide +kernel
theorem dX10_first_70 : decode cX10_first 70 = .ok (.ireturn, 1) := by decide +kernel
theorem dX10_propagate_0 : decode cX10_propagate 0 = .ok (.aload_n 0, 1) := by decide +kernel
theorem dX10_propagate_1 : decode cX10_propagate 1 = .ok (.getfield 238, 3) := by decide +kernel
theorem dX10_propagate_4 : decode cX10_propagate 4 = .ok (.ifCond .ne 52, 3) := by decide +kernel
theorem dX10_propagate_7 : decode cX10_propagate 7 = .ok (.aload_n 0, 1) := by decide +kernel
theorem dX10_propagate_8 : decode cX10_propagate 8 = .ok (.getfield 229, 3) := by decide +kernel
theorem dX10_propagate_11 : decode cX10_propagate 11 = .ok (.ifCond .ne 45, 3) := by decide +kernel
theorem dX10_propagate_14 : decode cX10_propagate 14 = .ok (.aload_n 0, 1) := by decide +kernel
theorem dX10_propagate_15 : decode cX10_propagate 15 = .ok (.invokevirtual 250, 3) := by decide +kernel
theorem dX10_propagate_18 : decode cX10_propagate 18 = .ok (.istore_n 1, 1) := by decide +kernel
theorem dX10_propagate_19 : decode cX10_propagate 19 = .ok (.iload_n 1, 1) := by decide +kernel
theorem dX10_propagate_20 : decode cX10_propagate 20 = .ok (.ifCond .ne 4, 3) := by decide +kernel
theorem dX10_propagate_23 : decode cX10_propagate 23 = .ok (.return_, 1) := by decide +kernel
theorem dX10_propagate_24 : decode cX10_propagate 24 = .ok (.aload_n 0, 1) := by decide +kernel
theorem dX10_propagate_25 : decode cX10_propagate 25 = .ok (.iload_n 1, 1) := by decide +kernel
theorem dX10_propagate_26 : decode cX10_propagate 26 = .ok (.invokevirtual 247, 3) := by decide +kernel
theorem dX10_propagate_29 : decode cX10_propagate 29 = .ok (.istore_n 2, 1) := by decide +kernel
theorem dX10_propagate_30 : decode cX10_propagate 30 = .ok (.iload_n 2, 1) := by decide +kernel
theorem dX10_propagate_31 : decode cX10_propagate 31 = .ok (.ifCond .ne 16, 3) := by decide +kernel
theorem dX10_propagate_34 : decode cX10_propagate 34 = .ok (.aload_n 0, 1) := by decide +kernel
theorem dX10_propagate_35 : decode cX10_propagate 35 = .ok (.iconst 1, 1) := by decide +kernel
theorem dX10_propagate_36 : decode cX10_propagate 36 = .ok (.putfield 229, 3) := by decide +kernel
theorem dX10_propagate_39 : decode cX10_propagate 39 = .ok (.aload_n 0, 1) := by decide +kernel
theorem dX10_propagate_40 : decode cX10_propagate 40 = .ok (.iload_n 1, 1) := by decide +kernel
theorem dX10_propagate_41 : decode cX10_propagate 41 = .ok (.putfield 232, 3) := by decide +kernel
theorem dX10_propagate_44 : decode cX10_propagate 44 = .ok (.goto 9, 3) := by decide +kernel
theorem dX10_propagate_47 : decode cX10_propagate 47 = .ok (.aload_n 0, 1) := by decide +kernel
theorem dX10_propagate_48 : decode cX10_propagate 48 = .ok (.iload_n 2, 1) := by decide +kernel
theorem dX10_propagate_49 : decode cX10_propagate 49 = .ok (.iload_n 1, 1) := by decide +kernel
theorem dX10_propagate_50 : decode cX10_propagate 50 = .ok (.invokevirtual 244, 3) := by decide +kernel
theorem dX10_propagate_53 : decode cX10_propagate 53 = .ok (.goto (-53), 3) := by decide +kernel
theorem dX10_propagate_56 : decode cX10_propagate 56 = .ok (.return_, 1) := by decide +kernel
theorem dX10_keepHint_0 : decode cX10_keepHint 0 = .ok (.aload_n 0, 1) := by decide +kernel
theorem dX10_keepHint_1 : decode cX10_keepHint 1 = .ok (.getfield 253, 3) := by decide +kernel
theorem dX10_keepHint_4 : decode cX10_keepHint 4 = .ok (.sipush 4000, 3) := by decide +kernel
theorem dX10_keepHint_7 : decode cX10_keepHint 7 = .ok (.if_icmp .ne 4, 3) := by decide +kernel
theorem dX10_keepHint_10 : decode cX10_keepHint 10 = .ok (.return_, 1) := by decide +kernel
theorem dX10_keepHint_11 : decode cX10_keepHint 11 = .ok (.aload_n 0, 1) := by decide +kernel
theorem dX10_keepHint_12 : decode cX10_keepHint 12 = .ok (.getfield 84, 3) := by decide +kernel
theorem dX10_keepHint_15 : decode cX10_keepHint 15 = .ok (.aload_n 0, 1) := by decide +kernel
theorem dX10_keepHint_16 : decode cX10_keepHint 16 = .ok (.getfield 253, 3) := by decide +kernel
theorem dX10_keepHint_19 : decode cX10_keepHint 19 = .ok (.iload_n 1, 1) := by decide +kernel
theorem dX10_keepHint_20 : decode cX10_keepHint 20 = .ok (.iastore, 1) := by decide +kernel
theorem dX10_keepHint_21 : decode cX10_keepHint 21 = .ok (.aload_n 0, 1) := by decide +kernel
theorem dX10_keepHint_22 : decode cX10_keepHint 22 = .ok (.dup, 1) := by decide +kernel
theorem dX10_keepHint_23 : decode cX10_keepHint 23 = .ok (.getfield 253, 3) := by decide +kernel
theorem dX10_keepHint_26 : decode cX10_keepHint 26 = .ok (.iconst 1, 1) := by decide +kernel
theorem dX10_keepHint_27 : decode cX10_keepHint 27 = .ok (.iadd, 1) := by decide +kernel
theorem dX10_keepHint_28 : decode cX10_keepHint 28 = .ok (.putfield 253, 3) := by decide +kernel
theorem dX10_keepHint_31 : decode cX10_keepHint 31 = .ok (.aload_n 0, 1) := by decide +kernel
theorem dX10_keepHint_32 : decode cX10_keepHint 32 = .ok (.getfield 90, 3) := by decide +kernel
theorem dX10_keepHint_35 : decode cX10_keepHint 35 = .ok (.iload_n 2, 1) := by decide +kernel
theorem dX10_keepHint_36 : decode cX10_keepHint 36 = .ok (.dup2, 1) := by decide +kernel
theorem dX10_keepHint_37 : decode cX10_keepHint 37 = .ok (.iaload, 1) := by decide +kernel
theorem dX10_keepHint_38 : decode cX10_keepHint 38 = .ok (.iconst 1, 1) := by decide +kernel
theorem dX10_keepHint_39 : decode cX10_keepHint 39 = .ok (.iadd, 1) := by decide +kernel
theorem dX10_keepHint_40 : decode cX10_keepHint 40 = .ok (.iastore, 1) := by decide +kernel
theorem dX10_keepHint_41 : decode cX10_keepHint 41 = .ok (.return_, 1) := by decide +kernel
theorem dX10_standsInUsed_0 : decode cX10_standsInUsed 0 = .ok (.iconst 0, 1) := by decide +kernel
theorem dX10_standsInUsed_1 : decode cX10_standsInUsed 1 = .ok (.istore_n 2, 1) := by decide +kernel
theorem dX10_standsInUsed_2 : decode cX10_standsInUsed 2 = .ok (.iconst 1, 1) := by decide +kernel
theorem dX10_standsInUsed_3 : decode cX10_standsInUsed 3 = .ok (.istore_n 3, 1) := by decide +kernel
theorem dX10_standsInUsed_4 : decode cX10_standsInUsed 4 = .ok (.iload_n 3, 1) := by decide +kernel
theorem dX10_standsInUsed_5 : decode cX10_standsInUsed 5 = .ok (.aload_n 0, 1) := by decide +kernel
theorem dX10_standsInUsed_6 : decode cX10_standsInUsed 6 = .ok (.getfield 207, 3) := by decide +kernel
theorem dX10_standsInUsed_9 : decode cX10_standsInUsed 9 = .ok (.if_icmp .gt 37, 3) := by decide +kernel
theorem dX10_standsInUsed_12 : decode cX10_standsInUsed 12 = .ok (.iload_n 2, 1) := by decide +kernel
theorem dX10_standsInUsed_13 : decode cX10_standsInUsed 13 = .ok (.ifCond .ne 33, 3) := by decide +kernel
theorem dX10_standsInUsed_16 : decode cX10_standsInUsed 16 = .ok (.aload_n 0, 1) := by decide +kernel
theorem dX10_standsInUsed_17 : decode cX10_standsInUsed 17 = .ok (.getfield 66, 3) := by decide +kernel
theorem dX10_standsInUsed_20 : decode cX10_standsInUsed 20 = .ok (.iload_n 3, 1) := by decide +kernel
theorem dX10_standsInUsed_21 : decode cX10_standsInUsed 21 = .ok (.baload, 1) := by decide +kernel
theorem dX10_standsInUsed_22 : decode cX10_standsInUsed 22 = .ok (.ifCond .eq 16, 3) := by decide +kernel
theorem dX10_standsInUsed_25 : decode cX10_standsInUsed 25 = .ok (.aload_n 0, 1) := by decide +kernel
theorem dX10_standsInUsed_26 : decode cX10_standsInUsed 26 = .ok (.iload_n 3, 1) := by decide +kernel
theorem dX10_standsInUsed_27 : decode cX10_standsInUsed 27 = .ok (.iload_n 1, 1) := by decide +kernel
theorem dX10_standsInUsed_28 : decode cX10_standsInUsed 28 = .ok (.invokevirtual 256, 3) := by decide +kernel
theorem dX10_standsInUsed_31 : decode cX10_standsInUsed 31 = .ok (.ifCond .eq 7, 3) := by decide +kernel
theorem dX10_standsInUsed_34 : decode cX10_standsInUsed 34 = .ok (.iconst 1, 1) := by decide +kernel
theorem dX10_standsInUsed_35 : decode cX10_standsInUsed 35 = .ok (.goto 4, 3) := by decide +kernel
theorem dX10_standsInUsed_38 : decode cX10_standsInUsed 38 = .ok (.iconst 0, 1) := by decide +kernel
theorem dX10_standsInUsed_39 : decode cX10_standsInUsed 39 = .ok (.istore_n 2, 1) := by decide +kernel
theorem dX10_standsInUsed_40 : decode cX10_standsInUsed 40 = .ok (.iinc 3 1, 3) := by decide +kernel
theorem dX10_standsInUsed_43 : decode cX10_standsInUsed 43 = .ok (.goto (-39), 3) := by decide +kernel
theorem dX10_standsInUsed_46 : decode cX10_standsInUsed 46 = .ok (.iload_n 2, 1) := by decide +kernel
theorem dX10_standsInUsed_47 : decode cX10_standsInUsed 47 = .ok (.ireturn, 1) := by decide +kernel
theorem dX10_uses_0 : decode cX10_uses 0 = .ok (.aload_n 0, 1) := by decide +kernel
theorem dX10_uses_1 : decode cX10_uses 1 = .ok (.getfield 232, 3) := by decide +kernel
theorem dX10_uses_4 : decode cX10_uses 4 = .ok (.ifCond .ne 4, 3) := by decide +kernel
theorem dX10_uses_7 : decode cX10_uses 7 = .ok (.return_, 1) := by decide +kernel
theorem dX10_uses_8 : decode cX10_uses 8 = .ok (.iconst 0, 1) := by decide +kernel
theorem dX10_uses_9 : decode cX10_uses 9 = .ok (.istore_n 2, 1) := by decide +kernel
theorem dX10_uses_10 : decode cX10_uses 10 = .ok (.iload_n 2, 1) := by decide +kernel
theorem dX10_uses_11 : decode cX10_uses 11 = .ok (.aload_n 0, 1) := by decide +kernel
theorem dX10_uses_12 : decode cX10_uses 12 = .ok (.getfield 207, 3) := by decide +kernel
theorem dX10_uses_15 : decode cX10_uses 15 = .ok (.if_icmp .gt 16, 3) := by decide +kernel
theorem dX10_uses_18 : decode cX10_uses 18 = .ok (.aload_n 0, 1) := by decide +kernel
theorem dX10_uses_19 : decode cX10_uses 19 = .ok (.getfield 66, 3) := by decide +kernel
theorem dX10_uses_22 : decode cX10_uses 22 = .ok (.iload_n 2, 1) := by decide +kernel
theorem dX10_uses_23 : decode cX10_uses 23 = .ok (.iconst 0, 1) := by decide +kernel
theorem dX10_uses_24 : decode cX10_uses 24 = .ok (.bastore, 1) := by decide +kernel
theorem dX10_uses_25 : decode cX10_uses 25 = .ok (.iinc 2 1, 3) := by decide +kernel
theorem dX10_uses_28 : decode cX10_uses 28 = .ok (.goto (-18), 3) := by decide +kernel
theorem dX10_uses_31 : decode cX10_uses 31 = .ok (.aload_n 0, 1) := by decide +kernel
theorem dX10_uses_32 : decode cX10_uses 32 = .ok (.getfield 66, 3) := by decide +kernel
theorem dX10_uses_35 : decode cX10_uses 35 = .ok (.aload_n 0, 1) := by decide +kernel
theorem dX10_uses_36 : decode cX10_uses 36 = .ok (.getfield 232, 3) := by decide +kernel
theorem dX10_uses_39 : decode cX10_uses 39 = .ok (.iconst 1, 1) := by decide +kernel
theorem dX10_uses_40 : decode cX10_uses 40 = .ok (.bastore, 1) := by decide +kernel
theorem dX10_uses_41 : decode cX10_uses 41 = .ok (.aload_n 0, 1) := by decide +kernel
theorem dX10_uses_42 : decode cX10_uses 42 = .ok (.getfield 226, 3) := by decide +kernel
theorem dX10_uses_45 : decode cX10_uses 45 = .ok (.iconst 1, 1) := by decide +kernel
theorem dX10_uses_46 : decode cX10_uses 46 = .ok (.isub, 1) := by decide +kernel
theorem dX10_uses_47 : decode cX10_uses 47 = .ok (.istore_n 2, 1) := by decide +kernel
theorem dX10_uses_48 : decode cX10_uses 48 = .ok (.iload_n 2, 1) := by decide +kernel
theorem dX10_uses_49 : decode cX10_uses 49 = .ok (.ifCond .lt 44, 3) := by decide +kernel
theorem dX10_uses_52 : decode cX10_uses 52 = .ok (.aload_n 0, 1) := by decide +kernel
theorem dX10_uses_53 : decode cX10_uses 53 = .ok (.getfield 81, 3) := by decide +kernel
theorem dX10_uses_56 : decode cX10_uses 56 = .ok (.iload_n 2, 1) := by decide +kernel
theorem dX10_uses_57 : decode cX10_uses 57 = .ok (.iaload, 1) := by decide +kernel
theorem dX10_uses_58 : decode cX10_uses 58 = .ok (.ifCond .le 29, 3) := by decide +kernel
theorem dX10_uses_61 : decode cX10_uses 61 = .ok (.aload_n 0, 1) := by decide +kernel
theorem dX10_uses_62 : decode cX10_uses 62 = .ok (.aload_n 0, 1) := by decide +kernel
theorem dX10_uses_63 : decode cX10_uses 63 = .ok (.getfield 78, 3) := by decide +kernel
theorem dX10_uses_66 : decode cX10_uses 66 = .ok (.iload_n 2, 1) := by decide +kernel
theorem dX10_uses_67 : decode cX10_uses 67 = .ok (.iaload, 1) := by decide +kernel
theorem dX10_uses_68 : decode cX10_uses 68 = .ok (.ineg, 1) := by decide +kernel
theorem dX10_uses_69 : decode cX10_uses 69 = .ok (.invokevirtual 260, 3) := by decide +kernel
theorem dX10_uses_72 : decode cX10_uses 72 = .ok (.ifCond .eq 15, 3) := by decide +kernel
theorem dX10_uses_75 : decode cX10_uses 75 = .ok (.aload_n 0, 1) := by decide +kernel
theorem dX10_uses_76 : decode cX10_uses 76 = .ok (.getfield 66, 3) := by decide +kernel
theorem dX10_uses_79 : decode cX10_uses 79 = .ok (.aload_n 0, 1) := by decide +kernel
theorem dX10_uses_80 : decode cX10_uses 80 = .ok (.getfield 81, 3) := by decide +kernel
theorem dX10_uses_83 : decode cX10_uses 83 = .ok (.iload_n 2, 1) := by decide +kernel
theorem dX10_uses_84 : decode cX10_uses 84 = .ok (.iaload, 1) := by decide +kernel
theorem dX10_uses_85 : decode cX10_uses 85 = .ok (.iconst 1, 1) := by decide +kernel
theorem dX10_uses_86 : decode cX10_uses 86 = .ok (.bastore, 1) := by decide +kernel
theorem dX10_uses_87 : decode cX10_uses 87 = .ok (.iinc 2 (-1), 3) := by decide +kernel
theorem dX10_uses_90 : decode cX10_uses 90 = .ok (.goto (-42), 3) := by decide +kernel
theorem dX10_uses_93 : decode cX10_uses 93 = .ok (.iconst 0, 1) := by decide +kernel
theorem dX10_uses_94 : decode cX10_uses 94 = .ok (.istore_n 2, 1) := by decide +kernel
theorem dX10_uses_95 : decode cX10_uses 95 = .ok (.iload_n 2, 1) := by decide +kernel
theorem dX10_uses_96 : decode cX10_uses 96 = .ok (.aload_n 0, 1) := by decide +kernel
theorem dX10_uses_97 : decode cX10_uses 97 = .ok (.getfield 226, 3) := by decide +kernel
theorem dX10_uses_100 : decode cX10_uses 100 = .ok (.if_icmp .ge 43, 3) := by decide +kernel
theorem dX10_uses_103 : decode cX10_uses 103 = .ok (.aload_n 0, 1) := by decide +kernel
theorem dX10_uses_104 : decode cX10_uses 104 = .ok (.getfield 81, 3) := by decide +kernel
theorem dX10_uses_107 : decode cX10_uses 107 = .ok (.iload_n 2, 1) := by decide +kernel
theorem dX10_uses_108 : decode cX10_uses 108 = .ok (.iaload, 1) := by decide +kernel
theorem dX10_uses_109 : decode cX10_uses 109 = .ok (.ifCond .le 28, 3) := by decide +kernel
theorem dX10_uses_112 : decode cX10_uses 112 = .ok (.aload_n 0, 1) := by decide +kernel
theorem dX10_uses_113 : decode cX10_uses 113 = .ok (.getfield 66, 3) := by decide +kernel
theorem dX10_uses_116 : decode cX10_uses 116 = .ok (.aload_n 0, 1) := by decide +kernel
theorem dX10_uses_117 : decode cX10_uses 117 = .ok (.getfield 81, 3) := by decide +kernel
theorem dX10_uses_120 : decode cX10_uses 120 = .ok (.iload_n 2, 1) := by decide +kernel
theorem dX10_uses_121 : decode cX10_uses 121 = .ok (.iaload, 1) := by decide +kernel
theorem dX10_uses_122 : decode cX10_uses 122 = .ok (.baload, 1) := by decide +kernel
theorem dX10_uses_123 : decode cX10_uses 123 = .ok (.ifCond .eq 14, 3) := by decide +kernel
theorem dX10_uses_126 : decode cX10_uses 126 = .ok (.aload_n 0, 1) := by decide +kernel
theorem dX10_uses_127 : decode cX10_uses 127 = .ok (.aload_n 0, 1) := by decide +kernel
theorem dX10_uses_128 : decode cX10_uses 128 = .ok (.getfield 81, 3) := by decide +kernel
theorem dX10_uses_131 : decode cX10_uses 131 = .ok (.iload_n 2, 1) := by decide +kernel
theorem dX10_uses_132 : decode cX10_uses 132 = .ok (.iaload, 1) := by decide +kernel
theorem dX10_uses_133 : decode cX10_uses 133 = .ok (.iload_n 1, 1) := by decide +kernel
theorem dX10_uses_134 : decode cX10_uses 134 = .ok (.invokevirtual 263, 3) := by decide +kernel
theorem dX10_uses_137 : decode cX10_uses 137 = .ok (.iinc 2 1, 3) := by decide +kernel
theorem dX10_uses_140 : decode cX10_uses 140 = .ok (.goto (-45), 3) := by decide +kernel
theorem dX10_uses_143 : decode cX10_uses 143 = .ok (.aload_n 0, 1) := by decide +kernel
theorem dX10_uses_144 : decode cX10_uses 144 = .ok (.aload_n 0, 1) := by decide +kernel
theorem dX10_uses_145 : decode cX10_uses 145 = .ok (.getfield 232, 3) := by decide +kernel
theorem dX10_uses_148 : decode cX10_uses 148 = .ok (.iload_n 1, 1) := by decide +kernel
theorem dX10_uses_149 : decode cX10_uses 149 = .ok (.invokevirtual 263, 3) := by decide +kernel
theorem dX10_uses_152 : decode cX10_uses 152 = .ok (.iconst 1, 1) := by decide +kernel
theorem dX10_uses_153 : decode cX10_uses 153 = .ok (.istore_n 2, 1) := by decide +kernel
theorem dX10_uses_154 : decode cX10_uses 154 = .ok (.iload_n 2, 1) := by decide +kernel
theorem dX10_uses_155 : decode cX10_uses 155 = .ok (.aload_n 0, 1) := by decide +kernel
theorem dX10_uses_156 : decode cX10_uses 156 = .ok (.getfield 207, 3) := by decide +kernel
theorem dX10_uses_159 : decode cX10_uses 159 = .ok (.if_icmp .gt 38, 3) := by decide +kernel
theorem dX10_uses_162 : decode cX10_uses 162 = .ok (.aload_n 0, 1) := by decide +kernel
theorem dX10_uses_163 : decode cX10_uses 163 = .ok (.getfield 63, 3) := by decide +kernel
theorem dX10_uses_166 : decode cX10_uses 166 = .ok (.iload_n 2, 1) := by decide +kernel
theorem dX10_uses_167 : decode cX10_uses 167 = .ok (.aload_n 0, 1) := by decide +kernel
theorem dX10_uses_168 : decode cX10_uses 168 = .ok (.getfield 63, 3) := by decide +kernel
theorem dX10_uses_171 : decode cX10_uses 171 = .ok (.iload_n 2, 1) := by decide +kernel
theorem dX10_uses_172 : decode cX10_uses 172 = .ok (.baload, 1) := by decide +kernel
theorem dX10_uses_173 : decode cX10_uses 173 = .ok (.ifCond .ne 12, 3) := by decide +kernel
theorem dX10_uses_176 : decode cX10_uses 176 = .ok (.aload_n 0, 1) := by decide +kernel
theorem dX10_uses_177 : decode cX10_uses 177 = .ok (.getfield 66, 3) := by decide +kernel
theorem dX10_uses_180 : decode cX10_uses 180 = .ok (.iload_n 2, 1) := by decide +kernel
theorem dX10_uses_181 : decode cX10_uses 181 = .ok (.baload, 1) := by decide +kernel
theorem dX10_uses_182 : decode cX10_uses 182 = .ok (.ifCond .eq 7, 3) := by decide +kernel
theorem dX10_uses_185 : decode cX10_uses 185 = .ok (.iconst 1, 1) := by decide +kernel
theorem dX10_uses_186 : decode cX10_uses 186 = .ok (.goto 4, 3) := by decide +kernel
theorem dX10_uses_189 : decode cX10_uses 189 = .ok (.iconst 0, 1) := by decide +kernel
theorem dX10_uses_190 : decode cX10_uses 190 = .ok (.bastore, 1) := by decide +kernel
theorem dX10_uses_191 : decode cX10_uses 191 = .ok (.iinc 2 1, 3) := by decide +kernel
theorem dX10_uses_194 : decode cX10_uses 194 = .ok (.goto (-40), 3) := by decide +kernel
theorem dX10_uses_197 : decode cX10_uses 197 = .ok (.return_, 1) := by decide +kernel
theorem dX10_fromNothing_0 : decode cX10_fromNothing 0 = .ok (.aload_n 0, 1) := by decide +kernel
theorem dX10_fromNothing_1 : decode cX10_fromNothing 1 = .ok (.invokevirtual 266, 3) := by decide +kernel
theorem dX10_fromNothing_4 : decode cX10_fromNothing 4 = .ok (.aload_n 0, 1) := by decide +kernel
theorem dX10_fromNothing_5 : decode cX10_fromNothing 5 = .ok (.invokevirtual 269, 3) := by decide +kernel
theorem dX10_fromNothing_8 : decode cX10_fromNothing 8 = .ok (.iconst 0, 1) := by decide +kernel
theorem dX10_fromNothing_9 : decode cX10_fromNothing 9 = .ok (.istore_n 1, 1) := by decide +kernel
theorem dX10_fromNothing_10 : decode cX10_fromNothing 10 = .ok (.iload_n 1, 1) := by decide +kernel
theorem dX10_fromNothing_11 : decode cX10_fromNothing 11 = .ok (.aload_n 0, 1) := by decide +kernel
theorem dX10_fromNothing_12 : decode cX10_fromNothing 12 = .ok (.getfield 207, 3) := by decide +kernel
theorem dX10_fromNothing_15 : decode cX10_fromNothing 15 = .ok (.if_icmp .gt 16, 3) := by decide +kernel
theorem dX10_fromNothing_18 : decode cX10_fromNothing 18 = .ok (.aload_n 0, 1) := by decide +kernel
theorem dX10_fromNothing_19 : decode cX10_fromNothing 19 = .ok (.getfield 69, 3) := by decide +kernel
theorem dX10_fromNothing_22 : decode cX10_fromNothing 22 = .ok (.iload_n 1, 1) := by decide +kernel
theorem dX10_fromNothing_23 : decode cX10_fromNothing 23 = .ok (.iconst 0, 1) := by decide +kernel
theorem dX10_fromNothing_24 : decode cX10_fromNothing 24 = .ok (.bastore, 1) := by decide +kernel
theorem dX10_fromNothing_25 : decode cX10_fromNothing 25 = .ok (.iinc 1 1, 3) := by decide +kernel
theorem dX10_fromNothing_28 : decode cX10_fromNothing 28 = .ok (.goto (-18), 3) := by decide +kernel
theorem dX10_fromNothing_31 : decode cX10_fromNothing 31 = .ok (.iconst 0, 1) := by decide +kernel
theorem dX10_fromNothing_32 : decode cX10_fromNothing 32 = .ok (.istore_n 1, 1) := by decide +kernel
theorem dX10_fromNothing_33 : decode cX10_fromNothing 33 = .ok (.iload_n 1, 1) := by decide +kernel
theorem dX10_fromNothing_34 : decode cX10_fromNothing 34 = .ok (.aload_n 0, 1) := by decide +kernel
theorem dX10_fromNothing_35 : decode cX10_fromNothing 35 = .ok (.getfield 226, 3) := by decide +kernel
theorem dX10_fromNothing_38 : decode cX10_fromNothing 38 = .ok (.if_icmp .ge 21, 3) := by decide +kernel
theorem dX10_fromNothing_41 : decode cX10_fromNothing 41 = .ok (.aload_n 0, 1) := by decide +kernel
theorem dX10_fromNothing_42 : decode cX10_fromNothing 42 = .ok (.getfield 69, 3) := by decide +kernel
theorem dX10_fromNothing_45 : decode cX10_fromNothing 45 = .ok (.aload_n 0, 1) := by decide +kernel
theorem dX10_fromNothing_46 : decode cX10_fromNothing 46 = .ok (.getfield 81, 3) := by decide +kernel
theorem dX10_fromNothing_49 : decode cX10_fromNothing 49 = .ok (.iload_n 1, 1) := by decide +kernel
theorem dX10_fromNothing_50 : decode cX10_fromNothing 50 = .ok (.iaload, 1) := by decide +kernel
theorem dX10_fromNothing_51 : decode cX10_fromNothing 51 = .ok (.iconst 1, 1) := by decide +kernel
theorem dX10_fromNothing_52 : decode cX10_fromNothing 52 = .ok (.bastore, 1) := by decide +kernel
theorem dX10_fromNothing_53 : decode cX10_fromNothing 53 = .ok (.iinc 1 1, 3) := by decide +kernel
theorem dX10_fromNothing_56 : decode cX10_fromNothing 56 = .ok (.goto (-23), 3) := by decide +kernel
theorem dX10_fromNothing_59 : decode cX10_fromNothing 59 = .ok (.return_, 1) := by decide +kernel
theorem dX10_weighed_0 : decode cX10_weighed 0 = .ok (.aload_n 0, 1) := by decide +kernel
theorem dX10_weighed_1 : decode cX10_weighed 1 = .ok (.getfield 253, 3) := by decide +kernel
theorem dX10_weighed_4 : decode cX10_weighed 4 = .ok (.istore_n 3, 1) := by decide +kernel
theorem dX10_weighed_5 : decode cX10_weighed 5 = .ok (.aload_n 0, 1) := by decide +kernel
theorem dX10_weighed_6 : decode cX10_weighed 6 = .ok (.getfield 87, 3) := by decide +kernel
theorem dX10_weighed_9 : decode cX10_weighed 9 = .ok (.iload_n 1, 1) := by decide +kernel
theorem dX10_weighed_10 : decode cX10_weighed 10 = .ok (.aload_n 0, 1) := by decide +kernel
theorem dX10_weighed_11 : decode cX10_weighed 11 = .ok (.getfield 253, 3) := by decide +kernel
theorem dX10_weighed_14 : decode cX10_weighed 14 = .ok (.iastore, 1) := by decide +kernel
theorem dX10_weighed_15 : decode cX10_weighed 15 = .ok (.aload_n 0, 1) := by decide +kernel
theorem dX10_weighed_16 : decode cX10_weighed 16 = .ok (.getfield 90, 3) := by decide +kernel
theorem dX10_weighed_19 : decode cX10_weighed 19 = .ok (.iload_n 1, 1) := by decide +kernel
theorem dX10_weighed_20 : decode cX10_weighed 20 = .ok (.iconst 0, 1) := by decide +kernel
theorem dX10_weighed_21 : decode cX10_weighed 21 = .ok (.iastore, 1) := by decide +kernel
theorem dX10_weighed_22 : decode cX10_weighed 22 = .ok (.aload_n 0, 1) := by decide +kernel
theorem dX10_weighed_23 : decode cX10_weighed 23 = .ok (.invokevirtual 266, 3) := by decide +kernel
theorem dX10_weighed_26 : decode cX10_weighed 26 = .ok (.iconst 0, 1) := by decide +kernel
theorem dX10_weighed_27 : decode cX10_weighed 27 = .ok (.istore 4, 2) := by decide +kernel
theorem dX10_weighed_29 : decode cX10_weighed 29 = .ok (.iload 4, 2) := by decide +kernel
theorem dX10_weighed_31 : decode cX10_weighed 31 = .ok (.aload_n 0, 1) := by decide +kernel
theorem dX10_weighed_32 : decode cX10_weighed 32 = .ok (.iload_n 1, 1) := by decide +kernel
theorem dX10_weighed_33 : decode cX10_weighed 33 = .ok (.invokevirtual 219, 3) := by decide +kernel
theorem dX10_weighed_36 : decode cX10_weighed 36 = .ok (.if_icmp .ge 21, 3) := by decide +kernel
theorem dX10_weighed_39 : decode cX10_weighed 39 = .ok (.aload_n 0, 1) := by decide +kernel
theorem dX10_weighed_40 : decode cX10_weighed 40 = .ok (.aload_n 0, 1) := by decide +kernel
theorem dX10_weighed_41 : decode cX10_weighed 41 = .ok (.iload_n 1, 1) := by decide +kernel
theorem dX10_weighed_42 : decode cX10_weighed 42 = .ok (.iload 4, 2) := by decide +kernel
theorem dX10_weighed_44 : decode cX10_weighed 44 = .ok (.invokevirtual 222, 3) := by decide +kernel
theorem dX10_weighed_47 : decode cX10_weighed 47 = .ok (.ineg, 1) := by decide +kernel
theorem dX10_weighed_48 : decode cX10_weighed 48 = .ok (.invokevirtual 272, 3) := by decide +kernel
theorem dX10_weighed_51 : decode cX10_weighed 51 = .ok (.iinc 4 1, 3) := by decide +kernel
theorem dX10_weighed_54 : decode cX10_weighed 54 = .ok (.goto (-25), 3) := by decide +kernel
theorem dX10_weighed_57 : decode cX10_weighed 57 = .ok (.aload_n 0, 1) := by decide +kernel
theorem dX10_weighed_58 : decode cX10_weighed 58 = .ok (.invokevirtual 269, 3) := by decide +kernel
theorem dX10_weighed_61 : decode cX10_weighed 61 = .ok (.aload_n 0, 1) := by decide +kernel
theorem dX10_weighed_62 : decode cX10_weighed 62 = .ok (.getfield 238, 3) := by decide +kernel
theorem dX10_weighed_65 : decode cX10_weighed 65 = .ok (.ifCond .eq 5, 3) := by decide +kernel
theorem dX10_weighed_68 : decode cX10_weighed 68 = .ok (.iconst 2, 1) := by decide +kernel
theorem dX10_weighed_69 : decode cX10_weighed 69 = .ok (.ireturn, 1) := by decide +kernel
theorem dX10_weighed_70 : decode cX10_weighed 70 = .ok (.aload_n 0, 1) := by decide +kernel
theorem dX10_weighed_71 : decode cX10_weighed 71 = .ok (.getfield 229, 3) := by decide +kernel
theorem dX10_weighed_74 : decode cX10_weighed 74 = .ok (.ifCond .eq 20, 3) := by decide +kernel
theorem dX10_weighed_77 : decode cX10_weighed 77 = .ok (.aload_n 0, 1) := by decide +kernel
theorem dX10_weighed_78 : decode cX10_weighed 78 = .ok (.iload_n 1, 1) := by decide +kernel
theorem dX10_weighed_79 : decode cX10_weighed 79 = .ok (.invokevirtual 275, 3) := by decide +kernel
theorem dX10_weighed_82 : decode cX10_weighed 82 = .ok (.aload_n 0, 1) := by decide +kernel
theorem dX10_weighed_83 : decode cX10_weighed 83 = .ok (.dup, 1) := by decide +kernel
theorem dX10_weighed_84 : decode cX10_weighed 84 = .ok (.getfield 278, 3) := by decide +kernel
theorem dX10_weighed_87 : decode cX10_weighed 87 = .ok (.iconst 1, 1) := by decide +kernel
theorem dX10_weighed_88 : decode cX10_weighed 88 = .ok (.iadd, 1) := by decide +kernel
theorem dX10_weighed_89 : decode cX10_weighed 89 = .ok (.putfield 278, 3) := by decide +kernel
theorem dX10_weighed_92 : decode cX10_weighed 92 = .ok (.iconst 0, 1) := by decide +kernel
theorem dX10_weighed_93 : decode cX10_weighed 93 = .ok (.ireturn, 1) := by decide +kernel
theorem dX10_weighed_94 : decode cX10_weighed 94 = .ok (.iload_n 2, 1) := by decide +kernel
theorem dX10_weighed_95 : decode cX10_weighed 95 = .ok (.ifCond .eq 11, 3) := by decide +kernel
theorem dX10_weighed_98 : decode cX10_weighed 98 = .ok (.aload_n 0, 1) := by decide +kernel
theorem dX10_weighed_99 : decode cX10_weighed 99 = .ok (.iload_n 1, 1) := by decide +kernel
theorem dX10_weighed_100 : decode cX10_weighed 100 = .ok (.invokevirtual 219, 3) := by decide +kernel
theorem dX10_weighed_103 : decode cX10_weighed 103 = .ok (.ifCond .ne 5, 3) := by decide +kernel
theorem dX10_weighed_106 : decode cX10_weighed 106 = .ok (.iconst 1, 1) := by decide +kernel
theorem dX10_weighed_107 : decode cX10_weighed 107 = .ok (.ireturn, 1) := by decide +kernel
theorem dX10_weighed_108 : decode cX10_weighed 108 = .ok (.aload_n 0, 1) := by decide +kernel
theorem dX10_weighed_109 : decode cX10_weighed 109 = .ok (.iload_n 1, 1) := by decide +kernel
theorem dX10_weighed_110 : decode cX10_weighed 110 = .ok (.iconst 0, 1) := by decide +kernel
theorem dX10_weighed_111 : decode cX10_weighed 111 = .ok (.invokevirtual 222, 3) := by decide +kernel
theorem dX10_weighed_114 : decode cX10_weighed 114 = .ok (.istore 4, 2) := by decide +kernel
theorem dX10_weighed_116 : decode cX10_weighed 116 = .ok (.iconst 1, 1) := by decide +kernel
theorem dX10_weighed_117 : decode cX10_weighed 117 = .ok (.istore 5, 2) := by decide +kernel
theorem dX10_weighed_119 : decode cX10_weighed 119 = .ok (.iload 5, 2) := by decide +kernel
theorem dX10_weighed_121 : decode cX10_weighed 121 = .ok (.aload_n 0, 1) := by decide +kernel
theorem dX10_weighed_122 : decode cX10_weighed 122 = .ok (.getfield 207, 3) := by decide +kernel
theorem dX10_weighed_125 : decode cX10_weighed 125 = .ok (.if_icmp .gt 180, 3) := by decide +kernel
theorem dX10_weighed_128 : decode cX10_weighed 128 = .ok (.aload_n 0, 1) := by decide +kernel
theorem dX10_weighed_129 : decode cX10_weighed 129 = .ok (.getfield 60, 3) := by decide +kernel
theorem dX10_weighed_132 : decode cX10_weighed 132 = .ok (.iload 5, 2) := by decide +kernel
theorem dX10_weighed_134 : decode cX10_weighed 134 = .ok (.baload, 1) := by decide +kernel
theorem dX10_weighed_135 : decode cX10_weighed 135 = .ok (.ifCond .eq 164, 3) := by decide +kernel
theorem dX10_weighed_138 : decode cX10_weighed 138 = .ok (.aload_n 0, 1) := by decide +kernel
theorem dX10_weighed_139 : decode cX10_weighed 139 = .ok (.iload 5, 2) := by decide +kernel
theorem dX10_weighed_141 : decode cX10_weighed 141 = .ok (.iload 4, 2) := by decide +kernel
theorem dX10_weighed_143 : decode cX10_weighed 143 = .ok (.ineg, 1) := by decide +kernel
theorem dX10_weighed_144 : decode cX10_weighed 144 = .ok (.invokevirtual 256, 3) := by decide +kernel
theorem dX10_weighed_147 : decode cX10_weighed 147 = .ok (.ifCond .ne 6, 3) := by decide +kernel
theorem dX10_weighed_150 : decode cX10_weighed 150 = .ok (.goto 149, 3) := by decide +kernel
theorem dX10_weighed_153 : decode cX10_weighed 153 = .ok (.aload_n 0, 1) := by decide +kernel
theorem dX10_weighed_154 : decode cX10_weighed 154 = .ok (.invokevirtual 266, 3) := by decide +kernel
theorem dX10_weighed_157 : decode cX10_weighed 157 = .ok (.iconst 0, 1) := by decide +kernel
theorem dX10_weighed_158 : decode cX10_weighed 158 = .ok (.istore 6, 2) := by decide +kernel
theorem dX10_weighed_160 : decode cX10_weighed 160 = .ok (.iload 6, 2) := by decide +kernel
theorem dX10_weighed_162 : decode cX10_weighed 162 = .ok (.aload_n 0, 1) := by decide +kernel
theorem dX10_weighed_163 : decode cX10_weighed 163 = .ok (.iload_n 1, 1) := by decide +kernel
theorem dX10_weighed_164 : decode cX10_weighed 164 = .ok (.invokevirtual 219, 3) := by decide +kernel
theorem dX10_weighed_167 : decode cX10_weighed 167 = .ok (.if_icmp .ge 21, 3) := by decide +kernel
theorem dX10_weighed_170 : decode cX10_weighed 170 = .ok (.aload_n 0, 1) := by decide +kernel
theorem dX10_weighed_171 : decode cX10_weighed 171 = .ok (.aload_n 0, 1) := by decide +kernel
theorem dX10_weighed_172 : decode cX10_weighed 172 = .ok (.iload_n 1, 1) := by decide +kernel
theorem dX10_weighed_173 : decode cX10_weighed 173 = .ok (.iload 6, 2) := by decide +kernel
theorem dX10_weighed_175 : decode cX10_weighed 175 = .ok (.invokevirtual 222, 3) := by decide +kernel
theorem dX10_weighed_178 : decode cX10_weighed 178 = .ok (.ineg, 1) := by decide +kernel
theorem dX10_weighed_179 : decode cX10_weighed 179 = .ok (.invokevirtual 272, 3) := by decide +kernel
theorem dX10_weighed_182 : decode cX10_weighed 182 = .ok (.iinc 6 1, 3) := by decide +kernel
theorem dX10_weighed_185 : decode cX10_weighed 185 = .ok (.goto (-25), 3) := by decide +kernel
theorem dX10_weighed_188 : decode cX10_weighed 188 = .ok (.iconst 0, 1) := by decide +kernel
theorem dX10_weighed_189 : decode cX10_weighed 189 = .ok (.istore 6, 2) := by decide +kernel
theorem dX10_weighed_191 : decode cX10_weighed 191 = .ok (.iload 6, 2) := by decide +kernel
theorem dX10_weighed_193 : decode cX10_weighed 193 = .ok (.aload_n 0, 1) := by decide +kernel
theorem dX10_weighed_194 : decode cX10_weighed 194 = .ok (.iload 5, 2) := by decide +kernel
theorem dX10_weighed_196 : decode cX10_weighed 196 = .ok (.invokevirtual 219, 3) := by decide +kernel
theorem dX10_weighed_199 : decode cX10_weighed 199 = .ok (.if_icmp .ge 36, 3) := by decide +kernel
theorem dX10_weighed_202 : decode cX10_weighed 202 = .ok (.aload_n 0, 1) := by decide +kernel
theorem dX10_weighed_203 : decode cX10_weighed 203 = .ok (.iload 5, 2) := by decide +kernel
theorem dX10_weighed_205 : decode cX10_weighed 205 = .ok (.iload 6, 2) := by decide +kernel
theorem dX10_weighed_207 : decode cX10_weighed 207 = .ok (.invokevirtual 222, 3) := by decide +kernel
theorem dX10_weighed_210 : decode cX10_weighed 210 = .ok (.iload 4, 2) := by decide +kernel
theorem dX10_weighed_212 : decode cX10_weighed 212 = .ok (.ineg, 1) := by decide +kernel
theorem dX10_weighed_213 : decode cX10_weighed 213 = .ok (.if_icmp .eq 16, 3) := by decide +kernel
theorem dX10_weighed_216 : decode cX10_weighed 216 = .ok (.aload_n 0, 1) := by decide +kernel
theorem dX10_weighed_217 : decode cX10_weighed 217 = .ok (.aload_n 0, 1) := by decide +kernel
theorem dX10_weighed_218 : decode cX10_weighed 218 = .ok (.iload 5, 2) := by decide +kernel
theorem dX10_weighed_220 : decode cX10_weighed 220 = .ok (.iload 6, 2) := by decide +kernel
theorem dX10_weighed_222 : decode cX10_weighed 222 = .ok (.invokevirtual 222, 3) := by decide +kernel
theorem dX10_weighed_225 : decode cX10_weighed 225 = .ok (.ineg, 1) := by decide +kernel
theorem dX10_weighed_226 : decode cX10_weighed 226 = .ok (.invokevirtual 272, 3) := by decide +kernel
theorem dX10_weighed_229 : decode cX10_weighed 229 = .ok (.iinc 6 1, 3) := by decide +kernel
theorem dX10_weighed_232 : decode cX10_weighed 232 = .ok (.goto (-41), 3) := by decide +kernel
theorem dX10_weighed_235 : decode cX10_weighed 235 = .ok (.aload_n 0, 1) := by decide +kernel
theorem dX10_weighed_236 : decode cX10_weighed 236 = .ok (.invokevirtual 269, 3) := by decide +kernel
theorem dX10_weighed_239 : decode cX10_weighed 239 = .ok (.aload_n 0, 1) := by decide +kernel
theorem dX10_weighed_240 : decode cX10_weighed 240 = .ok (.getfield 238, 3) := by decide +kernel
theorem dX10_weighed_243 : decode cX10_weighed 243 = .ok (.ifCond .ne 10, 3) := by decide +kernel
theorem dX10_weighed_246 : decode cX10_weighed 246 = .ok (.aload_n 0, 1) := by decide +kernel
theorem dX10_weighed_247 : decode cX10_weighed 247 = .ok (.getfield 229, 3) := by decide +kernel
theorem dX10_weighed_250 : decode cX10_weighed 250 = .ok (.ifCond .ne 28, 3) := by decide +kernel
theorem dX10_weighed_253 : decode cX10_weighed 253 = .ok (.aload_n 0, 1) := by decide +kernel
theorem dX10_weighed_254 : decode cX10_weighed 254 = .ok (.iload_n 3, 1) := by decide +kernel
theorem dX10_weighed_255 : decode cX10_weighed 255 = .ok (.putfield 253, 3) := by decide +kernel
theorem dX10_weighed_258 : decode cX10_weighed 258 = .ok (.aload_n 0, 1) := by decide +kernel
theorem dX10_weighed_259 : decode cX10_weighed 259 = .ok (.getfield 90, 3) := by decide +kernel
theorem dX10_weighed_262 : decode cX10_weighed 262 = .ok (.iload_n 1, 1) := by decide +kernel
theorem dX10_weighed_263 : decode cX10_weighed 263 = .ok (.iconst 0, 1) := by decide +kernel
theorem dX10_weighed_264 : decode cX10_weighed 264 = .ok (.iastore, 1) := by decide +kernel
theorem dX10_weighed_265 : decode cX10_weighed 265 = .ok (.aload_n 0, 1) := by decide +kernel
theorem dX10_weighed_266 : decode cX10_weighed 266 = .ok (.getfield 238, 3) := by decide +kernel
theorem dX10_weighed_269 : decode cX10_weighed 269 = .ok (.ifCond .eq 7, 3) := by decide +kernel
theorem dX10_weighed_272 : decode cX10_weighed 272 = .ok (.iconst 2, 1) := by decide +kernel
theorem dX10_weighed_273 : decode cX10_weighed 273 = .ok (.goto 4, 3) := by decide +kernel
theorem dX10_weighed_276 : decode cX10_weighed 276 = .ok (.iconst 1, 1) := by decide +kernel
theorem dX10_weighed_277 : decode cX10_weighed 277 = .ok (.ireturn, 1) := by decide +kernel
theorem dX10_weighed_278 : decode cX10_weighed 278 = .ok (.aload_n 0, 1) := by decide +kernel
theorem dX10_weighed_279 : decode cX10_weighed 279 = .ok (.iload 5, 2) := by decide +kernel
theorem dX10_weighed_281 : decode cX10_weighed 281 = .ok (.ineg, 1) := by decide +kernel
theorem dX10_weighed_282 : decode cX10_weighed 282 = .ok (.iload_n 1, 1) := by decide +kernel
theorem dX10_weighed_283 : decode cX10_weighed 283 = .ok (.invokevirtual 263, 3) := by decide +kernel
theorem dX10_weighed_286 : decode cX10_weighed 286 = .ok (.aload_n 0, 1) := by decide +kernel
theorem dX10_weighed_287 : decode cX10_weighed 287 = .ok (.iload_n 1, 1) := by decide +kernel
theorem dX10_weighed_288 : decode cX10_weighed 288 = .ok (.invokevirtual 275, 3) := by decide +kernel
theorem dX10_weighed_291 : decode cX10_weighed 291 = .ok (.aload_n 0, 1) := by decide +kernel
theorem dX10_weighed_292 : decode cX10_weighed 292 = .ok (.getfield 63, 3) := by decide +kernel
theorem dX10_weighed_295 : decode cX10_weighed 295 = .ok (.iload 5, 2) := by decide +kernel
theorem dX10_weighed_297 : decode cX10_weighed 297 = .ok (.iconst 1, 1) := by decide +kernel
theorem dX10_weighed_298 : decode cX10_weighed 298 = .ok (.bastore, 1) := by decide +kernel
theorem dX10_weighed_299 : decode cX10_weighed 299 = .ok (.iinc 5 1, 3) := by decide +kernel
theorem dX10_weighed_302 : decode cX10_weighed 302 = .ok (.goto (-183), 3) := by decide +kernel
theorem dX10_weighed_305 : decode cX10_weighed 305 = .ok (.aload_n 0, 1) := by decide +kernel
theorem dX10_weighed_306 : decode cX10_weighed 306 = .ok (.dup, 1) := by decide +kernel
theorem dX10_weighed_307 : decode cX10_weighed 307 = .ok (.getfield 281, 3) := by decide +kernel
theorem dX10_weighed_310 : decode cX10_weighed 310 = .ok (.iconst 1, 1) := by decide +kernel
theorem dX10_weighed_311 : decode cX10_weighed 311 = .ok (.iadd, 1) := by decide +kernel
theorem dX10_weighed_312 : decode cX10_weighed 312 = .ok (.putfield 281, 3) := by decide +kernel
theorem dX10_weighed_315 : decode cX10_weighed 315 = .ok (.iconst 0, 1) := by decide +kernel
theorem dX10_weighed_316 : decode cX10_weighed 316 = .ok (.ireturn, 1) := by decide +kernel
theorem dX10_isOf_0 : decode cX10_isOf 0 = .ok (.aload_n 0, 1) := by decide +kernel
theorem dX10_isOf_1 : decode cX10_isOf 1 = .ok (.iload_n 1, 1) := by decide +kernel
theorem dX10_isOf_2 : decode cX10_isOf 2 = .ok (.invokevirtual 219, 3) := by decide +kernel
theorem dX10_isOf_5 : decode cX10_isOf 5 = .ok (.aload_n 0, 1) := by decide +kernel
theorem dX10_isOf_6 : decode cX10_isOf 6 = .ok (.getfield 32, 3) := by decide +kernel
theorem dX10_isOf_9 : decode cX10_isOf 9 = .ok (.iload_n 2, 1) := by decide +kernel
theorem dX10_isOf_10 : decode cX10_isOf 10 = .ok (.iaload, 1) := by decide +kernel
theorem dX10_isOf_11 : decode cX10_isOf 11 = .ok (.if_icmp .ne 7, 3) := by decide +kernel
theorem dX10_isOf_14 : decode cX10_isOf 14 = .ok (.iconst 1, 1) := by decide +kernel
theorem dX10_isOf_15 : decode cX10_isOf 15 = .ok (.goto 4, 3) := by decide +kernel
theorem dX10_isOf_18 : decode cX10_isOf 18 = .ok (.iconst 0, 1) := by decide +kernel
theorem dX10_isOf_19 : decode cX10_isOf 19 = .ok (.istore_n 3, 1) := by decide +kernel
theorem dX10_isOf_20 : decode cX10_isOf 20 = .ok (.iconst 0, 1) := by decide +kernel
theorem dX10_isOf_21 : decode cX10_isOf 21 = .ok (.istore 4, 2) := by decide +kernel
theorem dX10_isOf_23 : decode cX10_isOf 23 = .ok (.iload_n 3, 1) := by decide +kernel
theorem dX10_isOf_24 : decode cX10_isOf 24 = .ok (.ifCond .eq 40, 3) := by decide +kernel
theorem dX10_isOf_27 : decode cX10_isOf 27 = .ok (.iload 4, 2) := by decide +kernel
theorem dX10_isOf_29 : decode cX10_isOf 29 = .ok (.aload_n 0, 1) := by decide +kernel
theorem dX10_isOf_30 : decode cX10_isOf 30 = .ok (.getfield 32, 3) := by decide +kernel
theorem dX10_isOf_33 : decode cX10_isOf 33 = .ok (.iload_n 2, 1) := by decide +kernel
theorem dX10_isOf_34 : decode cX10_isOf 34 = .ok (.iaload, 1) := by decide +kernel
theorem dX10_isOf_35 : decode cX10_isOf 35 = .ok (.if_icmp .ge 29, 3) := by decide +kernel
theorem dX10_isOf_38 : decode cX10_isOf 38 = .ok (.aload_n 0, 1) := by decide +kernel
theorem dX10_isOf_39 : decode cX10_isOf 39 = .ok (.iload_n 1, 1) := by decide +kernel
theorem dX10_isOf_40 : decode cX10_isOf 40 = .ok (.aload_n 0, 1) := by decide +kernel
theorem dX10_isOf_41 : decode cX10_isOf 41 = .ok (.getfield 35, 3) := by decide +kernel
theorem dX10_isOf_44 : decode cX10_isOf 44 = .ok (.aload_n 0, 1) := by decide +kernel
theorem dX10_isOf_45 : decode cX10_isOf 45 = .ok (.getfield 29, 3) := by decide +kernel
theorem dX10_isOf_48 : decode cX10_isOf 48 = .ok (.iload_n 2, 1) := by decide +kernel
theorem dX10_isOf_49 : decode cX10_isOf 49 = .ok (.iaload, 1) := by decide +kernel
theorem dX10_isOf_50 : decode cX10_isOf 50 = .ok (.iload 4, 2) := by decide +kernel
theorem dX10_isOf_52 : decode cX10_isOf 52 = .ok (.iadd, 1) := by decide +kernel
theorem dX10_isOf_53 : decode cX10_isOf 53 = .ok (.iaload, 1) := by decide +kernel
theorem dX10_isOf_54 : decode cX10_isOf 54 = .ok (.invokevirtual 256, 3) := by decide +kernel
theorem dX10_isOf_57 : decode cX10_isOf 57 = .ok (.istore_n 3, 1) := by decide +kernel
theorem dX10_isOf_58 : decode cX10_isOf 58 = .ok (.iinc 4 1, 3) := by decide +kernel
theorem dX10_isOf_61 : decode cX10_isOf 61 = .ok (.goto (-38), 3) := by decide +kernel
theorem dX10_isOf_64 : decode cX10_isOf 64 = .ok (.iload_n 3, 1) := by decide +kernel
theorem dX10_isOf_65 : decode cX10_isOf 65 = .ok (.ireturn, 1) := by decide +kernel
theorem dX10_delete_0 : decode cX10_delete 0 = .ok (.aload_n 0, 1) := by decide +kernel
theorem dX10_delete_1 : decode cX10_delete 1 = .ok (.getfield 207, 3) := by decide +kernel
theorem dX10_delete_4 : decode cX10_delete 4 = .ok (.istore_n 3, 1) := by decide +kernel
theorem dX10_delete_5 : decode cX10_delete 5 = .ok (.iload_n 3, 1) := by decide +kernel
theorem dX10_delete_6 : decode cX10_delete 6 = .ok (.ifCond .le 27, 3) := by decide +kernel
theorem dX10_delete_9 : decode cX10_delete 9 = .ok (.aload_n 0, 1) := by decide +kernel
theorem dX10_delete_10 : decode cX10_delete 10 = .ok (.getfield 60, 3) := by decide +kernel
theorem dX10_delete_13 : decode cX10_delete 13 = .ok (.iload_n 3, 1) := by decide +kernel
theorem dX10_delete_14 : decode cX10_delete 14 = .ok (.baload, 1) := by decide +kernel
theorem dX10_delete_15 : decode cX10_delete 15 = .ok (.ifCond .eq 12, 3) := by decide +kernel
theorem dX10_delete_18 : decode cX10_delete 18 = .ok (.aload_n 0, 1) := by decide +kernel
theorem dX10_delete_19 : decode cX10_delete 19 = .ok (.iload_n 3, 1) := by decide +kernel
theorem dX10_delete_20 : decode cX10_delete 20 = .ok (.iload_n 1, 1) := by decide +kernel
theorem dX10_delete_21 : decode cX10_delete 21 = .ok (.invokevirtual 284, 3) := by decide +kernel
theorem dX10_delete_24 : decode cX10_delete 24 = .ok (.ifCond .ne 9, 3) := by decide +kernel
theorem dX10_delete_27 : decode cX10_delete 27 = .ok (.iinc 3 (-1), 3) := by decide +kernel
theorem dX10_delete_30 : decode cX10_delete 30 = .ok (.goto (-25), 3) := by decide +kernel
theorem dX10_delete_33 : decode cX10_delete 33 = .ok (.iload_n 3, 1) := by decide +kernel
theorem dX10_delete_34 : decode cX10_delete 34 = .ok (.ifCond .eq 16, 3) := by decide +kernel
theorem dX10_delete_37 : decode cX10_delete 37 = .ok (.iload_n 2, 1) := by decide +kernel
theorem dX10_delete_38 : decode cX10_delete 38 = .ok (.ifCond .eq 13, 3) := by decide +kernel
theorem dX10_delete_41 : decode cX10_delete 41 = .ok (.aload_n 0, 1) := by decide +kernel
theorem dX10_delete_42 : decode cX10_delete 42 = .ok (.getfield 69, 3) := by decide +kernel
theorem dX10_delete_45 : decode cX10_delete 45 = .ok (.iload_n 3, 1) := by decide +kernel
theorem dX10_delete_46 : decode cX10_delete 46 = .ok (.baload, 1) := by decide +kernel
theorem dX10_delete_47 : decode cX10_delete 47 = .ok (.ifCond .eq 4, 3) := by decide +kernel
theorem dX10_delete_50 : decode cX10_delete 50 = .ok (.return_, 1) := by decide +kernel
theorem dX10_delete_51 : decode cX10_delete 51 = .ok (.aload_n 0, 1) := by decide +kernel
theorem dX10_delete_52 : decode cX10_delete 52 = .ok (.getfield 60, 3) := by decide +kernel
theorem dX10_delete_55 : decode cX10_delete 55 = .ok (.iload_n 3, 1) := by decide +kernel
theorem dX10_delete_56 : decode cX10_delete 56 = .ok (.iconst 0, 1) := by decide +kernel
theorem dX10_delete_57 : decode cX10_delete 57 = .ok (.bastore, 1) := by decide +kernel
theorem dX10_delete_58 : decode cX10_delete 58 = .ok (.aload_n 0, 1) := by decide +kernel
theorem dX10_delete_59 : decode cX10_delete 59 = .ok (.getfield 72, 3) := by decide +kernel
theorem dX10_delete_62 : decode cX10_delete 62 = .ok (.iload_n 1, 1) := by decide +kernel
theorem dX10_delete_63 : decode cX10_delete 63 = .ok (.iload_n 3, 1) := by decide +kernel
theorem dX10_delete_64 : decode cX10_delete 64 = .ok (.iastore, 1) := by decide +kernel
theorem dX10_delete_65 : decode cX10_delete 65 = .ok (.return_, 1) := by decide +kernel
theorem dX10_ends_0 : decode cX10_ends 0 = .ok (.aload_n 0, 1) := by decide +kernel
theorem dX10_ends_1 : decode cX10_ends 1 = .ok (.iload_n 1, 1) := by decide +kernel
theorem dX10_ends_2 : decode cX10_ends 2 = .ok (.putfield 287, 3) := by decide +kernel
theorem dX10_ends_5 : decode cX10_ends 5 = .ok (.aload_n 0, 1) := by decide +kernel
theorem dX10_ends_6 : decode cX10_ends 6 = .ok (.iload_n 2, 1) := by decide +kernel
theorem dX10_ends_7 : decode cX10_ends 7 = .ok (.putfield 290, 3) := by decide +kernel
theorem dX10_ends_10 : decode cX10_ends 10 = .ok (.iload_n 1, 1) := by decide +kernel
theorem dX10_ends_11 : decode cX10_ends 11 = .ok (.ireturn, 1) := by decide +kernel
theorem dX10_weigh_0 : decode cX10_weigh 0 = .ok (.aload_n 0, 1) := by decide +kernel
theorem dX10_weigh_1 : decode cX10_weigh 1 = .ok (.iconst 0, 1) := by decide +kernel
theorem dX10_weigh_2 : decode cX10_weigh 2 = .ok (.putfield 96, 3) := by decide +kernel
theorem dX10_weigh_5 : decode cX10_weigh 5 = .ok (.iload 4, 2) := by decide +kernel
theorem dX10_weigh_7 : decode cX10_weigh 7 = .ok (.ifCond .lt 11, 3) := by decide +kernel
theorem dX10_weigh_10 : decode cX10_weigh 10 = .ok (.iload 4, 2) := by decide +kernel
theorem dX10_weigh_12 : decode cX10_weigh 12 = .ok (.sipush 20000, 3) := by decide +kernel
theorem dX10_weigh_15 : decode cX10_weigh 15 = .ok (.if_icmp .le 8, 3) := by decide +kernel
theorem dX10_weigh_18 : decode cX10_weigh 18 = .ok (.aload_n 0, 1) := by decide +kernel
theorem dX10_weigh_19 : decode cX10_weigh 19 = .ok (.invokevirtual 157, 3) := by decide +kernel
theorem dX10_weigh_22 : decode cX10_weigh 22 = .ok (.ireturn, 1) := by decide +kernel
theorem dX10_weigh_23 : decode cX10_weigh 23 = .ok (.iconst 0, 1) := by decide +kernel
theorem dX10_weigh_24 : decode cX10_weigh 24 = .ok (.istore 5, 2) := by decide +kernel
theorem dX10_weigh_26 : decode cX10_weigh 26 = .ok (.iload 5, 2) := by decide +kernel
theorem dX10_weigh_28 : decode cX10_weigh 28 = .ok (.aload_n 0, 1) := by decide +kernel
theorem dX10_weigh_29 : decode cX10_weigh 29 = .ok (.getfield 207, 3) := by decide +kernel
theorem dX10_weigh_32 : decode cX10_weigh 32 = .ok (.if_icmp .gt 51, 3) := by decide +kernel
theorem dX10_weigh_35 : decode cX10_weigh 35 = .ok (.aload_n 0, 1) := by decide +kernel
theorem dX10_weigh_36 : decode cX10_weigh 36 = .ok (.getfield 60, 3) := by decide +kernel
theorem dX10_weigh_39 : decode cX10_weigh 39 = .ok (.iload 5, 2) := by decide +kernel
theorem dX10_weigh_41 : decode cX10_weigh 41 = .ok (.iload 5, 2) := by decide +kernel
theorem dX10_weigh_43 : decode cX10_weigh 43 = .ok (.ifCond .le 16, 3) := by decide +kernel
theorem dX10_weigh_46 : decode cX10_weigh 46 = .ok (.iload 5, 2) := by decide +kernel
theorem dX10_weigh_48 : decode cX10_weigh 48 = .ok (.aload_n 0, 1) := by decide +kernel
theorem dX10_weigh_49 : decode cX10_weigh 49 = .ok (.getfield 185, 3) := by decide +kernel
theorem dX10_weigh_52 : decode cX10_weigh 52 = .ok (.if_icmp .gt 7, 3) := by decide +kernel
theorem dX10_weigh_55 : decode cX10_weigh 55 = .ok (.iconst 1, 1) := by decide +kernel
theorem dX10_weigh_56 : decode cX10_weigh 56 = .ok (.goto 4, 3) := by decide +kernel
theorem dX10_weigh_59 : decode cX10_weigh 59 = .ok (.iconst 0, 1) := by decide +kernel
theorem dX10_weigh_60 : decode cX10_weigh 60 = .ok (.bastore, 1) := by decide +kernel
theorem dX10_weigh_61 : decode cX10_weigh 61 = .ok (.aload_n 0, 1) := by decide +kernel
theorem dX10_weigh_62 : decode cX10_weigh 62 = .ok (.getfield 63, 3) := by decide +kernel
theorem dX10_weigh_65 : decode cX10_weigh 65 = .ok (.iload 5, 2) := by decide +kernel
theorem dX10_weigh_67 : decode cX10_weigh 67 = .ok (.iconst 0, 1) := by decide +kernel
theorem dX10_weigh_68 : decode cX10_weigh 68 = .ok (.bastore, 1) := by decide +kernel
theorem dX10_weigh_69 : decode cX10_weigh 69 = .ok (.aload_n 0, 1) := by decide +kernel
theorem dX10_weigh_70 : decode cX10_weigh 70 = .ok (.getfield 90, 3) := by decide +kernel
theorem dX10_weigh_73 : decode cX10_weigh 73 = .ok (.iload 5, 2) := by decide +kernel
theorem dX10_weigh_75 : decode cX10_weigh 75 = .ok (.iconst 0, 1) := by decide +kernel
theorem dX10_weigh_76 : decode cX10_weigh 76 = .ok (.iastore, 1) := by decide +kernel
theorem dX10_weigh_77 : decode cX10_weigh 77 = .ok (.iinc 5 1, 3) := by decide +kernel
theorem dX10_weigh_80 : decode cX10_weigh 80 = .ok (.goto (-54), 3) := by decide +kernel
theorem dX10_weigh_83 : decode cX10_weigh 83 = .ok (.iconst 0, 1) := by decide +kernel
theorem dX10_weigh_84 : decode cX10_weigh 84 = .ok (.istore 5, 2) := by decide +kernel
theorem dX10_weigh_86 : decode cX10_weigh 86 = .ok (.iload 5, 2) := by decide +kernel
theorem dX10_weigh_88 : decode cX10_weigh 88 = .ok (.aload_n 0, 1) := by decide +kernel
theorem dX10_weigh_89 : decode cX10_weigh 89 = .ok (.getfield 188, 3) := by decide +kernel
theorem dX10_weigh_92 : decode cX10_weigh 92 = .ok (.if_icmp .gt 17, 3) := by decide +kernel
theorem dX10_weigh_95 : decode cX10_weigh 95 = .ok (.aload_n 0, 1) := by decide +kernel
theorem dX10_weigh_96 : decode cX10_weigh 96 = .ok (.getfield 72, 3) := by decide +kernel
theorem dX10_weigh_99 : decode cX10_weigh 99 = .ok (.iload 5, 2) := by decide +kernel
theorem dX10_weigh_101 : decode cX10_weigh 101 = .ok (.iconst 0, 1) := by decide +kernel
theorem dX10_weigh_102 : decode cX10_weigh 102 = .ok (.iastore, 1) := by decide +kernel
theorem dX10_weigh_103 : decode cX10_weigh 103 = .ok (.iinc 5 1, 3) := by decide +kernel
theorem dX10_weigh_106 : decode cX10_weigh 106 = .ok (.goto (-20), 3) := by decide +kernel
theorem dX10_weigh_109 : decode cX10_weigh 109 = .ok (.aload_n 0, 1) := by decide +kernel
theorem dX10_weigh_110 : decode cX10_weigh 110 = .ok (.iconst 1, 1) := by decide +kernel
theorem dX10_weigh_111 : decode cX10_weigh 111 = .ok (.putfield 191, 3) := by decide +kernel
theorem dX10_weigh_114 : decode cX10_weigh 114 = .ok (.aload_n 0, 1) := by decide +kernel
theorem dX10_weigh_115 : decode cX10_weigh 115 = .ok (.iload 4, 2) := by decide +kernel
theorem dX10_weigh_117 : decode cX10_weigh 117 = .ok (.putfield 235, 3) := by decide +kernel
theorem dX10_weigh_120 : decode cX10_weigh 120 = .ok (.aload_n 0, 1) := by decide +kernel
theorem dX10_weigh_121 : decode cX10_weigh 121 = .ok (.iconst 0, 1) := by decide +kernel
theorem dX10_weigh_122 : decode cX10_weigh 122 = .ok (.putfield 278, 3) := by decide +kernel
theorem dX10_weigh_125 : decode cX10_weigh 125 = .ok (.aload_n 0, 1) := by decide +kernel
theorem dX10_weigh_126 : decode cX10_weigh 126 = .ok (.iconst 0, 1) := by decide +kernel
theorem dX10_weigh_127 : decode cX10_weigh 127 = .ok (.putfield 281, 3) := by decide +kernel
theorem dX10_weigh_130 : decode cX10_weigh 130 = .ok (.aload_n 0, 1) := by decide +kernel
theorem dX10_weigh_131 : decode cX10_weigh 131 = .ok (.iconst 0, 1) := by decide +kernel
theorem dX10_weigh_132 : decode cX10_weigh 132 = .ok (.putfield 253, 3) := by decide +kernel
theorem dX10_weigh_135 : decode cX10_weigh 135 = .ok (.aload_n 0, 1) := by decide +kernel
theorem dX10_weigh_136 : decode cX10_weigh 136 = .ok (.iconst 0, 1) := by decide +kernel
theorem dX10_weigh_137 : decode cX10_weigh 137 = .ok (.putfield 238, 3) := by decide +kernel
theorem dX10_weigh_140 : decode cX10_weigh 140 = .ok (.aload_n 0, 1) := by decide +kernel
theorem dX10_weigh_141 : decode cX10_weigh 141 = .ok (.iconst (-1), 1) := by decide +kernel
theorem dX10_weigh_142 : decode cX10_weigh 142 = .ok (.putfield 293, 3) := by decide +kernel
theorem dX10_weigh_145 : decode cX10_weigh 145 = .ok (.iconst 0, 1) := by decide +kernel
theorem dX10_weigh_146 : decode cX10_weigh 146 = .ok (.istore 5, 2) := by decide +kernel
theorem dX10_weigh_148 : decode cX10_weigh 148 = .ok (.aload_n 0, 1) := by decide +kernel
theorem dX10_weigh_149 : decode cX10_weigh 149 = .ok (.invokevirtual 296, 3) := by decide +kernel
theorem dX10_weigh_152 : decode cX10_weigh 152 = .ok (.aload_n 0, 1) := by decide +kernel
theorem dX10_weigh_153 : decode cX10_weigh 153 = .ok (.getfield 238, 3) := by decide +kernel
theorem dX10_weigh_156 : decode cX10_weigh 156 = .ok (.ifCond .ne 98, 3) := by decide +kernel
theorem dX10_weigh_159 : decode cX10_weigh 159 = .ok (.aload_n 0, 1) := by decide +kernel
theorem dX10_weigh_160 : decode cX10_weigh 160 = .ok (.getfield 229, 3) := by decide +kernel
theorem dX10_weigh_163 : decode cX10_weigh 163 = .ok (.ifCond .ne 91, 3) := by decide +kernel
theorem dX10_weigh_166 : decode cX10_weigh 166 = .ok (.iload 5, 2) := by decide +kernel
theorem dX10_weigh_168 : decode cX10_weigh 168 = .ok (.aload_n 0, 1) := by decide +kernel
theorem dX10_weigh_169 : decode cX10_weigh 169 = .ok (.getfield 188, 3) := by decide +kernel
theorem dX10_weigh_172 : decode cX10_weigh 172 = .ok (.if_icmp .ge 82, 3) := by decide +kernel
theorem dX10_weigh_175 : decode cX10_weigh 175 = .ok (.iinc 5 1, 3) := by decide +kernel
theorem dX10_weigh_178 : decode cX10_weigh 178 = .ok (.aload_n 0, 1) := by decide +kernel
theorem dX10_weigh_179 : decode cX10_weigh 179 = .ok (.getfield 38, 3) := by decide +kernel
theorem dX10_weigh_182 : decode cX10_weigh 182 = .ok (.iload 5, 2) := by decide +kernel
theorem dX10_weigh_184 : decode cX10_weigh 184 = .ok (.baload, 1) := by decide +kernel
theorem dX10_weigh_185 : decode cX10_weigh 185 = .ok (.ifCond .eq 13, 3) := by decide +kernel
theorem dX10_weigh_188 : decode cX10_weigh 188 = .ok (.aload_n 0, 1) := by decide +kernel
theorem dX10_weigh_189 : decode cX10_weigh 189 = .ok (.iload 5, 2) := by decide +kernel
theorem dX10_weigh_191 : decode cX10_weigh 191 = .ok (.iload_n 3, 1) := by decide +kernel
theorem dX10_weigh_192 : decode cX10_weigh 192 = .ok (.invokevirtual 299, 3) := by decide +kernel
theorem dX10_weigh_195 : decode cX10_weigh 195 = .ok (.goto 52, 3) := by decide +kernel
theorem dX10_weigh_198 : decode cX10_weigh 198 = .ok (.iload_n 1, 1) := by decide +kernel
theorem dX10_weigh_199 : decode cX10_weigh 199 = .ok (.ifCond .eq 7, 3) := by decide +kernel
theorem dX10_weigh_202 : decode cX10_weigh 202 = .ok (.iconst 0, 1) := by decide +kernel
theorem dX10_weigh_203 : decode cX10_weigh 203 = .ok (.goto 15, 3) := by decide +kernel
theorem dX10_weigh_206 : decode cX10_weigh 206 = .ok (.aload_n 0, 1) := by decide +kernel
theorem dX10_weigh_207 : decode cX10_weigh 207 = .ok (.aload_n 0, 1) := by decide +kernel
theorem dX10_weigh_208 : decode cX10_weigh 208 = .ok (.getfield 57, 3) := by decide +kernel
theorem dX10_weigh_211 : decode cX10_weigh 211 = .ok (.iload 5, 2) := by decide +kernel
theorem dX10_weigh_213 : decode cX10_weigh 213 = .ok (.iaload, 1) := by decide +kernel
theorem dX10_weigh_214 : decode cX10_weigh 214 = .ok (.iload_n 2, 1) := by decide +kernel
theorem dX10_weigh_215 : decode cX10_weigh 215 = .ok (.invokevirtual 303, 3) := by decide +kernel
theorem dX10_weigh_218 : decode cX10_weigh 218 = .ok (.istore 6, 2) := by decide +kernel
theorem dX10_weigh_220 : decode cX10_weigh 220 = .ok (.iload 6, 2) := by decide +kernel
theorem dX10_weigh_222 : decode cX10_weigh 222 = .ok (.ifCond .eq 12, 3) := by decide +kernel
theorem dX10_weigh_225 : decode cX10_weigh 225 = .ok (.aload_n 0, 1) := by decide +kernel
theorem dX10_weigh_226 : decode cX10_weigh 226 = .ok (.iload 6, 2) := by decide +kernel
theorem dX10_weigh_228 : decode cX10_weigh 228 = .ok (.iload 5, 2) := by decide +kernel
theorem dX10_weigh_230 : decode cX10_weigh 230 = .ok (.invokevirtual 307, 3) := by decide +kernel
theorem dX10_weigh_233 : decode cX10_weigh 233 = .ok (.ireturn, 1) := by decide +kernel
theorem dX10_weigh_234 : decode cX10_weigh 234 = .ok (.aload_n 0, 1) := by decide +kernel
theorem dX10_weigh_235 : decode cX10_weigh 235 = .ok (.getfield 60, 3) := by decide +kernel
theorem dX10_weigh_238 : decode cX10_weigh 238 = .ok (.aload_n 0, 1) := by decide +kernel
theorem dX10_weigh_239 : decode cX10_weigh 239 = .ok (.getfield 57, 3) := by decide +kernel
theorem dX10_weigh_242 : decode cX10_weigh 242 = .ok (.iload 5, 2) := by decide +kernel
theorem dX10_weigh_244 : decode cX10_weigh 244 = .ok (.iaload, 1) := by decide +kernel
theorem dX10_weigh_245 : decode cX10_weigh 245 = .ok (.iconst 1, 1) := by decide +kernel
theorem dX10_weigh_246 : decode cX10_weigh 246 = .ok (.bastore, 1) := by decide +kernel
theorem dX10_weigh_247 : decode cX10_weigh 247 = .ok (.aload_n 0, 1) := by decide +kernel
theorem dX10_weigh_248 : decode cX10_weigh 248 = .ok (.invokevirtual 296, 3) := by decide +kernel
theorem dX10_weigh_251 : decode cX10_weigh 251 = .ok (.goto (-99), 3) := by decide +kernel
theorem dX10_weigh_254 : decode cX10_weigh 254 = .ok (.aload_n 0, 1) := by decide +kernel
theorem dX10_weigh_255 : decode cX10_weigh 255 = .ok (.getfield 238, 3) := by decide +kernel
theorem dX10_weigh_258 : decode cX10_weigh 258 = .ok (.ifCond .eq 10, 3) := by decide +kernel
theorem dX10_weigh_261 : decode cX10_weigh 261 = .ok (.aload_n 0, 1) := by decide +kernel
theorem dX10_weigh_262 : decode cX10_weigh 262 = .ok (.iconst 2, 1) := by decide +kernel
theorem dX10_weigh_263 : decode cX10_weigh 263 = .ok (.iconst 0, 1) := by decide +kernel
theorem dX10_weigh_264 : decode cX10_weigh 264 = .ok (.invokevirtual 307, 3) := by decide +kernel
theorem dX10_weigh_267 : decode cX10_weigh 267 = .ok (.ireturn, 1) := by decide +kernel
theorem dX10_weigh_268 : decode cX10_weigh 268 = .ok (.aload_n 0, 1) := by decide +kernel
theorem dX10_weigh_269 : decode cX10_weigh 269 = .ok (.getfield 229, 3) := by decide +kernel
theorem dX10_weigh_272 : decode cX10_weigh 272 = .ok (.ifCond .ne 10, 3) := by decide +kernel
theorem dX10_weigh_275 : decode cX10_weigh 275 = .ok (.aload_n 0, 1) := by decide +kernel
theorem dX10_weigh_276 : decode cX10_weigh 276 = .ok (.iconst 1, 1) := by decide +kernel
theorem dX10_weigh_277 : decode cX10_weigh 277 = .ok (.iconst (-1), 1) := by decide +kernel
theorem dX10_weigh_278 : decode cX10_weigh 278 = .ok (.invokevirtual 307, 3) := by decide +kernel
theorem dX10_weigh_281 : decode cX10_weigh 281 = .ok (.ireturn, 1) := by decide +kernel
theorem dX10_weigh_282 : decode cX10_weigh 282 = .ok (.aload_n 0, 1) := by decide +kernel
theorem dX10_weigh_283 : decode cX10_weigh 283 = .ok (.iload 5, 2) := by decide +kernel
theorem dX10_weigh_285 : decode cX10_weigh 285 = .ok (.putfield 293, 3) := by decide +kernel
theorem dX10_weigh_288 : decode cX10_weigh 288 = .ok (.aload_n 0, 1) := by decide +kernel
theorem dX10_weigh_289 : decode cX10_weigh 289 = .ok (.getfield 87, 3) := by decide +kernel
theorem dX10_weigh_292 : decode cX10_weigh 292 = .ok (.iconst 0, 1) := by decide +kernel
theorem dX10_weigh_293 : decode cX10_weigh 293 = .ok (.aload_n 0, 1) := by decide +kernel
theorem dX10_weigh_294 : decode cX10_weigh 294 = .ok (.getfield 253, 3) := by decide +kernel
theorem dX10_weigh_297 : decode cX10_weigh 297 = .ok (.iastore, 1) := by decide +kernel
theorem dX10_weigh_298 : decode cX10_weigh 298 = .ok (.aload_n 0, 1) := by decide +kernel
theorem dX10_weigh_299 : decode cX10_weigh 299 = .ok (.iconst 0, 1) := by decide +kernel
theorem dX10_weigh_300 : decode cX10_weigh 300 = .ok (.invokevirtual 275, 3) := by decide +kernel
theorem dX10_weigh_303 : decode cX10_weigh 303 = .ok (.iload_n 1, 1) := by decide +kernel
theorem dX10_weigh_304 : decode cX10_weigh 304 = .ok (.ifCond .eq 13, 3) := by decide +kernel
theorem dX10_weigh_307 : decode cX10_weigh 307 = .ok (.aload_n 0, 1) := by decide +kernel
theorem dX10_weigh_308 : decode cX10_weigh 308 = .ok (.iload 5, 2) := by decide +kernel
theorem dX10_weigh_310 : decode cX10_weigh 310 = .ok (.iload_n 2, 1) := by decide +kernel
theorem dX10_weigh_311 : decode cX10_weigh 311 = .ok (.invokevirtual 309, 3) := by decide +kernel
theorem dX10_weigh_314 : decode cX10_weigh 314 = .ok (.goto 9, 3) := by decide +kernel
theorem dX10_weigh_317 : decode cX10_weigh 317 = .ok (.aload_n 0, 1) := by decide +kernel
theorem dX10_weigh_318 : decode cX10_weigh 318 = .ok (.iconst 0, 1) := by decide +kernel
theorem dX10_weigh_319 : decode cX10_weigh 319 = .ok (.iconst (-1), 1) := by decide +kernel
theorem dX10_weigh_320 : decode cX10_weigh 320 = .ok (.invokevirtual 307, 3) := by decide +kernel
theorem dX10_weigh_323 : decode cX10_weigh 323 = .ok (.ireturn, 1) := by decide +kernel
theorem dX10_back_0 : decode cX10_back 0 = .ok (.iload_n 1, 1) := by decide +kernel
theorem dX10_back_1 : decode cX10_back 1 = .ok (.istore_n 3, 1) := by decide +kernel
theorem dX10_back_2 : decode cX10_back 2 = .ok (.iload_n 3, 1) := by decide +kernel
theorem dX10_back_3 : decode cX10_back 3 = .ok (.ifCond .le 94, 3) := by decide +kernel
theorem dX10_back_6 : decode cX10_back 6 = .ok (.aload_n 0, 1) := by decide +kernel
theorem dX10_back_7 : decode cX10_back 7 = .ok (.getfield 38, 3) := by decide +kernel
theorem dX10_back_10 : decode cX10_back 10 = .ok (.iload_n 3, 1) := by decide +kernel
theorem dX10_back_11 : decode cX10_back 11 = .ok (.baload, 1) := by decide +kernel
theorem dX10_back_12 : decode cX10_back 12 = .ok (.ifCond .eq 27, 3) := by decide +kernel
theorem dX10_back_15 : decode cX10_back 15 = .ok (.aload_n 0, 1) := by decide +kernel
theorem dX10_back_16 : decode cX10_back 16 = .ok (.getfield 72, 3) := by decide +kernel
theorem dX10_back_19 : decode cX10_back 19 = .ok (.iload_n 3, 1) := by decide +kernel
theorem dX10_back_20 : decode cX10_back 20 = .ok (.iaload, 1) := by decide +kernel
theorem dX10_back_21 : decode cX10_back 21 = .ok (.ifCond .le 70, 3) := by decide +kernel
theorem dX10_back_24 : decode cX10_back 24 = .ok (.aload_n 0, 1) := by decide +kernel
theorem dX10_back_25 : decode cX10_back 25 = .ok (.getfield 60, 3) := by decide +kernel
theorem dX10_back_28 : decode cX10_back 28 = .ok (.aload_n 0, 1) := by decide +kernel
theorem dX10_back_29 : decode cX10_back 29 = .ok (.getfield 72, 3) := by decide +kernel
theorem dX10_back_32 : decode cX10_back 32 = .ok (.iload_n 3, 1) := by decide +kernel
theorem dX10_back_33 : decode cX10_back 33 = .ok (.iaload, 1) := by decide +kernel
theorem dX10_back_34 : decode cX10_back 34 = .ok (.iconst 1, 1) := by decide +kernel
theorem dX10_back_35 : decode cX10_back 35 = .ok (.bastore, 1) := by decide +kernel
theorem dX10_back_36 : decode cX10_back 36 = .ok (.goto 55, 3) := by decide +kernel
theorem dX10_back_39 : decode cX10_back 39 = .ok (.aload_n 0, 1) := by decide +kernel
theorem dX10_back_40 : decode cX10_back 40 = .ok (.getfield 57, 3) := by decide +kernel
theorem dX10_back_43 : decode cX10_back 43 = .ok (.iload_n 3, 1) := by decide +kernel
theorem dX10_back_44 : decode cX10_back 44 = .ok (.iaload, 1) := by decide +kernel
theorem dX10_back_45 : decode cX10_back 45 = .ok (.istore 4, 2) := by decide +kernel
theorem dX10_back_47 : decode cX10_back 47 = .ok (.aload_n 0, 1) := by decide +kernel
theorem dX10_back_48 : decode cX10_back 48 = .ok (.getfield 60, 3) := by decide +kernel
theorem dX10_back_51 : decode cX10_back 51 = .ok (.iload 4, 2) := by decide +kernel
theorem dX10_back_53 : decode cX10_back 53 = .ok (.iconst 0, 1) := by decide +kernel
theorem dX10_back_54 : decode cX10_back 54 = .ok (.bastore, 1) := by decide +kernel
theorem dX10_back_55 : decode cX10_back 55 = .ok (.aload_n 0, 1) := by decide +kernel
theorem dX10_back_56 : decode cX10_back 56 = .ok (.getfield 63, 3) := by decide +kernel
theorem dX10_back_59 : decode cX10_back 59 = .ok (.iload 4, 2) := by decide +kernel
theorem dX10_back_61 : decode cX10_back 61 = .ok (.baload, 1) := by decide +kernel
theorem dX10_back_62 : decode cX10_back 62 = .ok (.ifCond .eq 13, 3) := by decide +kernel
theorem dX10_back_65 : decode cX10_back 65 = .ok (.aload_n 0, 1) := by decide +kernel
theorem dX10_back_66 : decode cX10_back 66 = .ok (.iload 4, 2) := by decide +kernel
theorem dX10_back_68 : decode cX10_back 68 = .ok (.iload_n 2, 1) := by decide +kernel
theorem dX10_back_69 : decode cX10_back 69 = .ok (.invokevirtual 303, 3) := by decide +kernel
theorem dX10_back_72 : decode cX10_back 72 = .ok (.goto 4, 3) := by decide +kernel
theorem dX10_back_75 : decode cX10_back 75 = .ok (.iconst 0, 1) := by decide +kernel
theorem dX10_back_76 : decode cX10_back 76 = .ok (.istore 5, 2) := by decide +kernel
theorem dX10_back_78 : decode cX10_back 78 = .ok (.iload 5, 2) := by decide +kernel
theorem dX10_back_80 : decode cX10_back 80 = .ok (.ifCond .eq 11, 3) := by decide +kernel
theorem dX10_back_83 : decode cX10_back 83 = .ok (.aload_n 0, 1) := by decide +kernel
theorem dX10_back_84 : decode cX10_back 84 = .ok (.iload 5, 2) := by decide +kernel
theorem dX10_back_86 : decode cX10_back 86 = .ok (.iload_n 3, 1) := by decide +kernel
theorem dX10_back_87 : decode cX10_back 87 = .ok (.invokevirtual 307, 3) := by decide +kernel
theorem dX10_back_90 : decode cX10_back 90 = .ok (.ireturn, 1) := by decide +kernel
theorem dX10_back_91 : decode cX10_back 91 = .ok (.iinc 3 (-1), 3) := by decide +kernel
theorem dX10_back_94 : decode cX10_back 94 = .ok (.goto (-92), 3) := by decide +kernel
theorem dX10_back_97 : decode cX10_back 97 = .ok (.aload_n 0, 1) := by decide +kernel
theorem dX10_back_98 : decode cX10_back 98 = .ok (.iconst 0, 1) := by decide +kernel
theorem dX10_back_99 : decode cX10_back 99 = .ok (.iconst (-1), 1) := by decide +kernel
theorem dX10_back_100 : decode cX10_back 100 = .ok (.invokevirtual 307, 3) := by decide +kernel
theorem dX10_back_103 : decode cX10_back 103 = .ok (.ireturn, 1) := by decide +kernel
theorem dX10_count_0 : decode cX10_count 0 = .ok (.aload_n 0, 1) := by decide +kernel
theorem dX10_count_1 : decode cX10_count 1 = .ok (.iconst 0, 1) := by decide +kernel
theorem dX10_count_2 : decode cX10_count 2 = .ok (.putfield 96, 3) := by decide +kernel
theorem dX10_count_5 : decode cX10_count 5 = .ok (.iconst 0, 1) := by decide +kernel
theorem dX10_count_6 : decode cX10_count 6 = .ok (.istore_n 2, 1) := by decide +kernel
theorem dX10_count_7 : decode cX10_count 7 = .ok (.iconst 0, 1) := by decide +kernel
theorem dX10_count_8 : decode cX10_count 8 = .ok (.istore_n 3, 1) := by decide +kernel
theorem dX10_count_9 : decode cX10_count 9 = .ok (.iconst 1, 1) := by decide +kernel
theorem dX10_count_10 : decode cX10_count 10 = .ok (.istore 4, 2) := by decide +kernel
theorem dX10_count_12 : decode cX10_count 12 = .ok (.iload 4, 2) := by decide +kernel
theorem dX10_count_14 : decode cX10_count 14 = .ok (.aload_n 0, 1) := by decide +kernel
theorem dX10_count_15 : decode cX10_count 15 = .ok (.getfield 207, 3) := by decide +kernel
theorem dX10_count_18 : decode cX10_count 18 = .ok (.if_icmp .gt 60, 3) := by decide +kernel
theorem dX10_count_21 : decode cX10_count 21 = .ok (.aload_n 0, 1) := by decide +kernel
theorem dX10_count_22 : decode cX10_count 22 = .ok (.getfield 191, 3) := by decide +kernel
theorem dX10_count_25 : decode cX10_count 25 = .ok (.ifCond .eq 53, 3) := by decide +kernel
theorem dX10_count_28 : decode cX10_count 28 = .ok (.aload_n 0, 1) := by decide +kernel
theorem dX10_count_29 : decode cX10_count 29 = .ok (.getfield 63, 3) := by decide +kernel
theorem dX10_count_32 : decode cX10_count 32 = .ok (.iload 4, 2) := by decide +kernel
theorem dX10_count_34 : decode cX10_count 34 = .ok (.baload, 1) := by decide +kernel
theorem dX10_count_35 : decode cX10_count 35 = .ok (.ifCond .eq 15, 3) := by decide +kernel
theorem dX10_count_38 : decode cX10_count 38 = .ok (.iload 4, 2) := by decide +kernel
theorem dX10_count_40 : decode cX10_count 40 = .ok (.aload_n 0, 1) := by decide +kernel
theorem dX10_count_41 : decode cX10_count 41 = .ok (.getfield 185, 3) := by decide +kernel
theorem dX10_count_44 : decode cX10_count 44 = .ok (.if_icmp .gt 6, 3) := by decide +kernel
theorem dX10_count_47 : decode cX10_count 47 = .ok (.iinc 2 1, 3) := by decide +kernel
theorem dX10_count_50 : decode cX10_count 50 = .ok (.aload_n 0, 1) := by decide +kernel
theorem dX10_count_51 : decode cX10_count 51 = .ok (.getfield 63, 3) := by decide +kernel
theorem dX10_count_54 : decode cX10_count 54 = .ok (.iload 4, 2) := by decide +kernel
theorem dX10_count_56 : decode cX10_count 56 = .ok (.baload, 1) := by decide +kernel
theorem dX10_count_57 : decode cX10_count 57 = .ok (.ifCond .eq 15, 3) := by decide +kernel
theorem dX10_count_60 : decode cX10_count 60 = .ok (.iload 4, 2) := by decide +kernel
theorem dX10_count_62 : decode cX10_count 62 = .ok (.aload_n 0, 1) := by decide +kernel
theorem dX10_count_63 : decode cX10_count 63 = .ok (.getfield 185, 3) := by decide +kernel
theorem dX10_count_66 : decode cX10_count 66 = .ok (.if_icmp .le 6, 3) := by decide +kernel
theorem dX10_count_69 : decode cX10_count 69 = .ok (.iinc 3 1, 3) := by decide +kernel
theorem dX10_count_72 : decode cX10_count 72 = .ok (.iinc 4 1, 3) := by decide +kernel
theorem dX10_count_75 : decode cX10_count 75 = .ok (.goto (-63), 3) := by decide +kernel
theorem dX10_count_78 : decode cX10_count 78 = .ok (.iload_n 1, 1) := by decide +kernel
theorem dX10_count_79 : decode cX10_count 79 = .ok (.tableswitch 181 0 11 #[61, 77, 93, 109, 125, 127, 129, 145, 161, 166, 171, 176], 61) := by decide +kernel
theorem dX10_count_140 : decode cX10_count 140 = .ok (.aload_n 0, 1) := by decide +kernel
theorem dX10_count_141 : decode cX10_count 141 = .ok (.getfield 191, 3) := by decide +kernel
theorem dX10_count_144 : decode cX10_count 144 = .ok (.ifCond .eq 10, 3) := by decide +kernel
theorem dX10_count_147 : decode cX10_count 147 = .ok (.aload_n 0, 1) := by decide +kernel
theorem dX10_count_148 : decode cX10_count 148 = .ok (.getfield 287, 3) := by decide +kernel
theorem dX10_count_151 : decode cX10_count 151 = .ok (.goto 4, 3) := by decide +kernel
theorem dX10_count_154 : decode cX10_count 154 = .ok (.iconst (-1), 1) := by decide +kernel
theorem dX10_count_155 : decode cX10_count 155 = .ok (.ireturn, 1) := by decide +kernel
theorem dX10_count_156 : decode cX10_count 156 = .ok (.aload_n 0, 1) := by decide +kernel
theorem dX10_count_157 : decode cX10_count 157 = .ok (.getfield 191, 3) := by decide +kernel
theorem dX10_count_160 : decode cX10_count 160 = .ok (.ifCond .eq 10, 3) := by decide +kernel
theorem dX10_count_163 : decode cX10_count 163 = .ok (.aload_n 0, 1) := by decide +kernel
theorem dX10_count_164 : decode cX10_count 164 = .ok (.getfield 290, 3) := by decide +kernel
theorem dX10_count_167 : decode cX10_count 167 = .ok (.goto 4, 3) := by decide +kernel
theorem dX10_count_170 : decode cX10_count 170 = .ok (.iconst (-1), 1) := by decide +kernel
theorem dX10_count_171 : decode cX10_count 171 = .ok (.ireturn, 1) := by decide +kernel
theorem dX10_count_172 : decode cX10_count 172 = .ok (.aload_n 0, 1) := by decide +kernel
theorem dX10_count_173 : decode cX10_count 173 = .ok (.getfield 191, 3) := by decide +kernel
theorem dX10_count_176 : decode cX10_count 176 = .ok (.ifCond .eq 10, 3) := by decide +kernel
theorem dX10_count_179 : decode cX10_count 179 = .ok (.aload_n 0, 1) := by decide +kernel
theorem dX10_count_180 : decode cX10_count 180 = .ok (.getfield 293, 3) := by decide +kernel
theorem dX10_count_183 : decode cX10_count 183 = .ok (.goto 4, 3) := by decide +kernel
theorem dX10_count_186 : decode cX10_count 186 = .ok (.iconst (-1), 1) := by decide +kernel
theorem dX10_count_187 : decode cX10_count 187 = .ok (.ireturn, 1) := by decide +kernel
theorem dX10_count_188 : decode cX10_count 188 = .ok (.aload_n 0, 1) := by decide +kernel
theorem dX10_count_189 : decode cX10_count 189 = .ok (.getfield 191, 3) := by decide +kernel
theorem dX10_count_192 : decode cX10_count 192 = .ok (.ifCond .eq 10, 3) := by decide +kernel
theorem dX10_count_195 : decode cX10_count 195 = .ok (.aload_n 0, 1) := by decide +kernel
theorem dX10_count_196 : decode cX10_count 196 = .ok (.getfield 235, 3) := by decide +kernel
theorem dX10_count_199 : decode cX10_count 199 = .ok (.goto 4, 3) := by decide +kernel
theorem dX10_count_202 : decode cX10_count 202 = .ok (.iconst 0, 1) := by decide +kernel
theorem dX10_count_203 : decode cX10_count 203 = .ok (.ireturn, 1) := by decide +kernel
theorem dX10_count_204 : decode cX10_count 204 = .ok (.iload_n 2, 1) := by decide +kernel
theorem dX10_count_205 : decode cX10_count 205 = .ok (.ireturn, 1) := by decide +kernel
theorem dX10_count_206 : decode cX10_count 206 = .ok (.iload_n 3, 1) := by decide +kernel
theorem dX10_count_207 : decode cX10_count 207 = .ok (.ireturn, 1) := by decide +kernel
theorem dX10_count_208 : decode cX10_count 208 = .ok (.aload_n 0, 1) := by decide +kernel
theorem dX10_count_209 : decode cX10_count 209 = .ok (.getfield 191, 3) := by decide +kernel
theorem dX10_count_212 : decode cX10_count 212 = .ok (.ifCond .eq 10, 3) := by decide +kernel
theorem dX10_count_215 : decode cX10_count 215 = .ok (.aload_n 0, 1) := by decide +kernel
theorem dX10_count_216 : decode cX10_count 216 = .ok (.getfield 278, 3) := by decide +kernel
theorem dX10_count_219 : decode cX10_count 219 = .ok (.goto 4, 3) := by decide +kernel
theorem dX10_count_222 : decode cX10_count 222 = .ok (.iconst 0, 1) := by decide +kernel
theorem dX10_count_223 : decode cX10_count 223 = .ok (.ireturn, 1) := by decide +kernel
theorem dX10_count_224 : decode cX10_count 224 = .ok (.aload_n 0, 1) := by decide +kernel
theorem dX10_count_225 : decode cX10_count 225 = .ok (.getfield 191, 3) := by decide +kernel
theorem dX10_count_228 : decode cX10_count 228 = .ok (.ifCond .eq 10, 3) := by decide +kernel
theorem dX10_count_231 : decode cX10_count 231 = .ok (.aload_n 0, 1) := by decide +kernel
theorem dX10_count_232 : decode cX10_count 232 = .ok (.getfield 281, 3) := by decide +kernel
theorem dX10_count_235 : decode cX10_count 235 = .ok (.goto 4, 3) := by decide +kernel
theorem dX10_count_238 : decode cX10_count 238 = .ok (.iconst 0, 1) := by decide +kernel
theorem dX10_count_239 : decode cX10_count 239 = .ok (.ireturn, 1) := by decide +kernel
theorem dX10_count_240 : decode cX10_count 240 = .ok (.aload_n 0, 1) := by decide +kernel
theorem dX10_count_241 : decode cX10_count 241 = .ok (.getfield 185, 3) := by decide +kernel
theorem dX10_count_244 : decode cX10_count 244 = .ok (.ireturn, 1) := by decide +kernel
theorem dX10_count_245 : decode cX10_count 245 = .ok (.aload_n 0, 1) := by decide +kernel
theorem dX10_count_246 : decode cX10_count 246 = .ok (.getfield 188, 3) := by decide +kernel
theorem dX10_count_249 : decode cX10_count 249 = .ok (.ireturn, 1) := by decide +kernel
theorem dX10_count_250 : decode cX10_count 250 = .ok (.aload_n 0, 1) := by decide +kernel
theorem dX10_count_251 : decode cX10_count 251 = .ok (.getfield 182, 3) := by decide +kernel
theorem dX10_count_254 : decode cX10_count 254 = .ok (.ireturn, 1) := by decide +kernel
theorem dX10_count_255 : decode cX10_count 255 = .ok (.aload_n 0, 1) := by decide +kernel
theorem dX10_count_256 : decode cX10_count 256 = .ok (.getfield 99, 3) := by decide +kernel
theorem dX10_count_259 : decode cX10_count 259 = .ok (.ireturn, 1) := by decide +kernel
theorem dX10_count_260 : decode cX10_count 260 = .ok (.aload_n 0, 1) := by decide +kernel
theorem dX10_count_261 : decode cX10_count 261 = .ok (.invokevirtual 157, 3) := by decide +kernel
theorem dX10_count_264 : decode cX10_count 264 = .ok (.ireturn, 1) := by decide +kernel
theorem dX10_clause_0 : decode cX10_clause 0 = .ok (.aload_n 0, 1) := by decide +kernel
theorem dX10_clause_1 : decode cX10_clause 1 = .ok (.iconst 0, 1) := by decide +kernel
theorem dX10_clause_2 : decode cX10_clause 2 = .ok (.putfield 96, 3) := by decide +kernel
theorem dX10_clause_5 : decode cX10_clause 5 = .ok (.iload_n 1, 1) := by decide +kernel
theorem dX10_clause_6 : decode cX10_clause 6 = .ok (.iconst 1, 1) := by decide +kernel
theorem dX10_clause_7 : decode cX10_clause 7 = .ok (.if_icmp .lt 15, 3) := by decide +kernel
theorem dX10_clause_10 : decode cX10_clause 10 = .ok (.iload_n 1, 1) := by decide +kernel
theorem dX10_clause_11 : decode cX10_clause 11 = .ok (.aload_n 0, 1) := by decide +kernel
theorem dX10_clause_12 : decode cX10_clause 12 = .ok (.getfield 207, 3) := by decide +kernel
theorem dX10_clause_15 : decode cX10_clause 15 = .ok (.if_icmp .gt 7, 3) := by decide +kernel
theorem dX10_clause_18 : decode cX10_clause 18 = .ok (.iload_n 2, 1) := by decide +kernel
theorem dX10_clause_19 : decode cX10_clause 19 = .ok (.ifCond .ge 8, 3) := by decide +kernel
theorem dX10_clause_22 : decode cX10_clause 22 = .ok (.aload_n 0, 1) := by decide +kernel
theorem dX10_clause_23 : decode cX10_clause 23 = .ok (.invokevirtual 157, 3) := by decide +kernel
theorem dX10_clause_26 : decode cX10_clause 26 = .ok (.ireturn, 1) := by decide +kernel
theorem dX10_clause_27 : decode cX10_clause 27 = .ok (.iload_n 2, 1) := by decide +kernel
theorem dX10_clause_28 : decode cX10_clause 28 = .ok (.ifCond .ne 25, 3) := by decide +kernel
theorem dX10_clause_31 : decode cX10_clause 31 = .ok (.aload_n 0, 1) := by decide +kernel
theorem dX10_clause_32 : decode cX10_clause 32 = .ok (.getfield 191, 3) := by decide +kernel
theorem dX10_clause_35 : decode cX10_clause 35 = .ok (.ifCond .eq 16, 3) := by decide +kernel
theorem dX10_clause_38 : decode cX10_clause 38 = .ok (.aload_n 0, 1) := by decide +kernel
theorem dX10_clause_39 : decode cX10_clause 39 = .ok (.getfield 63, 3) := by decide +kernel
theorem dX10_clause_42 : decode cX10_clause 42 = .ok (.iload_n 1, 1) := by decide +kernel
theorem dX10_clause_43 : decode cX10_clause 43 = .ok (.baload, 1) := by decide +kernel
theorem dX10_clause_44 : decode cX10_clause 44 = .ok (.ifCond .eq 7, 3) := by decide +kernel
theorem dX10_clause_47 : decode cX10_clause 47 = .ok (.iconst 1, 1) := by decide +kernel
theorem dX10_clause_48 : decode cX10_clause 48 = .ok (.goto 4, 3) := by decide +kernel
theorem dX10_clause_51 : decode cX10_clause 51 = .ok (.iconst 0, 1) := by decide +kernel
theorem dX10_clause_52 : decode cX10_clause 52 = .ok (.ireturn, 1) := by decide +kernel
theorem dX10_clause_53 : decode cX10_clause 53 = .ok (.iload_n 2, 1) := by decide +kernel
theorem dX10_clause_54 : decode cX10_clause 54 = .ok (.iconst 1, 1) := by decide +kernel
theorem dX10_clause_55 : decode cX10_clause 55 = .ok (.if_icmp .ne 9, 3) := by decide +kernel
theorem dX10_clause_58 : decode cX10_clause 58 = .ok (.aload_n 0, 1) := by decide +kernel
theorem dX10_clause_59 : decode cX10_clause 59 = .ok (.iload_n 1, 1) := by decide +kernel
theorem dX10_clause_60 : decode cX10_clause 60 = .ok (.invokevirtual 219, 3) := by decide +kernel
theorem dX10_clause_63 : decode cX10_clause 63 = .ok (.ireturn, 1) := by decide +kernel
theorem dX10_clause_64 : decode cX10_clause 64 = .ok (.iload_n 2, 1) := by decide +kernel
theorem dX10_clause_65 : decode cX10_clause 65 = .ok (.iconst 2, 1) := by decide +kernel
theorem dX10_clause_66 : decode cX10_clause 66 = .ok (.isub, 1) := by decide +kernel
theorem dX10_clause_67 : decode cX10_clause 67 = .ok (.aload_n 0, 1) := by decide +kernel
theorem dX10_clause_68 : decode cX10_clause 68 = .ok (.iload_n 1, 1) := by decide +kernel
theorem dX10_clause_69 : decode cX10_clause 69 = .ok (.invokevirtual 219, 3) := by decide +kernel
theorem dX10_clause_72 : decode cX10_clause 72 = .ok (.if_icmp .ge 14, 3) := by decide +kernel
theorem dX10_clause_75 : decode cX10_clause 75 = .ok (.aload_n 0, 1) := by decide +kernel
theorem dX10_clause_76 : decode cX10_clause 76 = .ok (.iload_n 1, 1) := by decide +kernel
theorem dX10_clause_77 : decode cX10_clause 77 = .ok (.iload_n 2, 1) := by decide +kernel
theorem dX10_clause_78 : decode cX10_clause 78 = .ok (.iconst 2, 1) := by decide +kernel
theorem dX10_clause_79 : decode cX10_clause 79 = .ok (.isub, 1) := by decide +kernel
theorem dX10_clause_80 : decode cX10_clause 80 = .ok (.invokevirtual 222, 3) := by decide +kernel
theorem dX10_clause_83 : decode cX10_clause 83 = .ok (.goto 4, 3) := by decide +kernel
theorem dX10_clause_86 : decode cX10_clause 86 = .ok (.iconst 0, 1) := by decide +kernel
theorem dX10_clause_87 : decode cX10_clause 87 = .ok (.ireturn, 1) := by decide +kernel
theorem dX10_step_0 : decode cX10_step 0 = .ok (.aload_n 0, 1) := by decide +kernel
theorem dX10_step_1 : decode cX10_step 1 = .ok (.iconst 0, 1) := by decide +kernel
theorem dX10_step_2 : decode cX10_step 2 = .ok (.putfield 96, 3) := by decide +kernel
theorem dX10_step_5 : decode cX10_step 5 = .ok (.iload_n 1, 1) := by decide +kernel
theorem dX10_step_6 : decode cX10_step 6 = .ok (.iconst 1, 1) := by decide +kernel
theorem dX10_step_7 : decode cX10_step 7 = .ok (.if_icmp .lt 15, 3) := by decide +kernel
theorem dX10_step_10 : decode cX10_step 10 = .ok (.iload_n 1, 1) := by decide +kernel
theorem dX10_step_11 : decode cX10_step 11 = .ok (.aload_n 0, 1) := by decide +kernel
theorem dX10_step_12 : decode cX10_step 12 = .ok (.getfield 188, 3) := by decide +kernel
theorem dX10_step_15 : decode cX10_step 15 = .ok (.if_icmp .gt 7, 3) := by decide +kernel
theorem dX10_step_18 : decode cX10_step 18 = .ok (.iload_n 2, 1) := by decide +kernel
theorem dX10_step_19 : decode cX10_step 19 = .ok (.ifCond .ge 8, 3) := by decide +kernel
theorem dX10_step_22 : decode cX10_step 22 = .ok (.aload_n 0, 1) := by decide +kernel
theorem dX10_step_23 : decode cX10_step 23 = .ok (.invokevirtual 157, 3) := by decide +kernel
theorem dX10_step_26 : decode cX10_step 26 = .ok (.ireturn, 1) := by decide +kernel
theorem dX10_step_27 : decode cX10_step 27 = .ok (.iload_n 2, 1) := by decide +kernel
theorem dX10_step_28 : decode cX10_step 28 = .ok (.ifCond .ne 18, 3) := by decide +kernel
theorem dX10_step_31 : decode cX10_step 31 = .ok (.aload_n 0, 1) := by decide +kernel
theorem dX10_step_32 : decode cX10_step 32 = .ok (.getfield 38, 3) := by decide +kernel
theorem dX10_step_35 : decode cX10_step 35 = .ok (.iload_n 1, 1) := by decide +kernel
theorem dX10_step_36 : decode cX10_step 36 = .ok (.baload, 1) := by decide +kernel
theorem dX10_step_37 : decode cX10_step 37 = .ok (.ifCond .eq 7, 3) := by decide +kernel
theorem dX10_step_40 : decode cX10_step 40 = .ok (.iconst 1, 1) := by decide +kernel
theorem dX10_step_41 : decode cX10_step 41 = .ok (.goto 4, 3) := by decide +kernel
theorem dX10_step_44 : decode cX10_step 44 = .ok (.iconst 0, 1) := by decide +kernel
theorem dX10_step_45 : decode cX10_step 45 = .ok (.ireturn, 1) := by decide +kernel
theorem dX10_step_46 : decode cX10_step 46 = .ok (.iload_n 2, 1) := by decide +kernel
theorem dX10_step_47 : decode cX10_step 47 = .ok (.iconst 1, 1) := by decide +kernel
theorem dX10_step_48 : decode cX10_step 48 = .ok (.if_icmp .ne 10, 3) := by decide +kernel
theorem dX10_step_51 : decode cX10_step 51 = .ok (.aload_n 0, 1) := by decide +kernel
theorem dX10_step_52 : decode cX10_step 52 = .ok (.getfield 57, 3) := by decide +kernel
theorem dX10_step_55 : decode cX10_step 55 = .ok (.iload_n 1, 1) := by decide +kernel
theorem dX10_step_56 : decode cX10_step 56 = .ok (.iaload, 1) := by decide +kernel
theorem dX10_step_57 : decode cX10_step 57 = .ok (.ireturn, 1) := by decide +kernel
theorem dX10_step_58 : decode cX10_step 58 = .ok (.iload_n 2, 1) := by decide +kernel
theorem dX10_step_59 : decode cX10_step 59 = .ok (.iconst 2, 1) := by decide +kernel
theorem dX10_step_60 : decode cX10_step 60 = .ok (.if_icmp .ne 10, 3) := by decide +kernel
theorem dX10_step_63 : decode cX10_step 63 = .ok (.aload_n 0, 1) := by decide +kernel
theorem dX10_step_64 : decode cX10_step 64 = .ok (.getfield 32, 3) := by decide +kernel
theorem dX10_step_67 : decode cX10_step 67 = .ok (.iload_n 1, 1) := by decide +kernel
theorem dX10_step_68 : decode cX10_step 68 = .ok (.iaload, 1) := by decide +kernel
theorem dX10_step_69 : decode cX10_step 69 = .ok (.ireturn, 1) := by decide +kernel
theorem dX10_step_70 : decode cX10_step 70 = .ok (.iload_n 2, 1) := by decide +kernel
theorem dX10_step_71 : decode cX10_step 71 = .ok (.iconst 3, 1) := by decide +kernel
theorem dX10_step_72 : decode cX10_step 72 = .ok (.isub, 1) := by decide +kernel
theorem dX10_step_73 : decode cX10_step 73 = .ok (.aload_n 0, 1) := by decide +kernel
theorem dX10_step_74 : decode cX10_step 74 = .ok (.getfield 32, 3) := by decide +kernel
theorem dX10_step_77 : decode cX10_step 77 = .ok (.iload_n 1, 1) := by decide +kernel
theorem dX10_step_78 : decode cX10_step 78 = .ok (.iaload, 1) := by decide +kernel
theorem dX10_step_79 : decode cX10_step 79 = .ok (.if_icmp .ge 21, 3) := by decide +kernel
theorem dX10_step_82 : decode cX10_step 82 = .ok (.aload_n 0, 1) := by decide +kernel
theorem dX10_step_83 : decode cX10_step 83 = .ok (.getfield 35, 3) := by decide +kernel
theorem dX10_step_86 : decode cX10_step 86 = .ok (.aload_n 0, 1) := by decide +kernel
theorem dX10_step_87 : decode cX10_step 87 = .ok (.getfield 29, 3) := by decide +kernel
theorem dX10_step_90 : decode cX10_step 90 = .ok (.iload_n 1, 1) := by decide +kernel
theorem dX10_step_91 : decode cX10_step 91 = .ok (.iaload, 1) := by decide +kernel
theorem dX10_step_92 : decode cX10_step 92 = .ok (.iload_n 2, 1) := by decide +kernel
theorem dX10_step_93 : decode cX10_step 93 = .ok (.iadd, 1) := by decide +kernel
theorem dX10_step_94 : decode cX10_step 94 = .ok (.iconst 3, 1) := by decide +kernel
theorem dX10_step_95 : decode cX10_step 95 = .ok (.isub, 1) := by decide +kernel
theorem dX10_step_96 : decode cX10_step 96 = .ok (.iaload, 1) := by decide +kernel
theorem dX10_step_97 : decode cX10_step 97 = .ok (.goto 4, 3) := by decide +kernel
theorem dX10_step_100 : decode cX10_step 100 = .ok (.iconst 0, 1) := by decide +kernel
theorem dX10_step_101 : decode cX10_step 101 = .ok (.ireturn, 1) := by decide +kernel
theorem dX10_hint_0 : decode cX10_hint 0 = .ok (.aload_n 0, 1) := by decide +kernel
theorem dX10_hint_1 : decode cX10_hint 1 = .ok (.iconst 0, 1) := by decide +kernel
theorem dX10_hint_2 : decode cX10_hint 2 = .ok (.putfield 96, 3) := by decide +kernel
theorem dX10_hint_5 : decode cX10_hint 5 = .ok (.iload_n 1, 1) := by decide +kernel
theorem dX10_hint_6 : decode cX10_hint 6 = .ok (.ifCond .lt 15, 3) := by decide +kernel
theorem dX10_hint_9 : decode cX10_hint 9 = .ok (.iload_n 1, 1) := by decide +kernel
theorem dX10_hint_10 : decode cX10_hint 10 = .ok (.aload_n 0, 1) := by decide +kernel
theorem dX10_hint_11 : decode cX10_hint 11 = .ok (.getfield 207, 3) := by decide +kernel
theorem dX10_hint_14 : decode cX10_hint 14 = .ok (.if_icmp .gt 7, 3) := by decide +kernel
theorem dX10_hint_17 : decode cX10_hint 17 = .ok (.iload_n 2, 1) := by decide +kernel
theorem dX10_hint_18 : decode cX10_hint 18 = .ok (.ifCond .ge 8, 3) := by decide +kernel
theorem dX10_hint_21 : decode cX10_hint 21 = .ok (.aload_n 0, 1) := by decide +kernel
theorem dX10_hint_22 : decode cX10_hint 22 = .ok (.invokevirtual 157, 3) := by decide +kernel
theorem dX10_hint_25 : decode cX10_hint 25 = .ok (.ireturn, 1) := by decide +kernel
theorem dX10_hint_26 : decode cX10_hint 26 = .ok (.aload_n 0, 1) := by decide +kernel
theorem dX10_hint_27 : decode cX10_hint 27 = .ok (.getfield 191, 3) := by decide +kernel
theorem dX10_hint_30 : decode cX10_hint 30 = .ok (.ifCond .eq 29, 3) := by decide +kernel
theorem dX10_hint_33 : decode cX10_hint 33 = .ok (.iload_n 2, 1) := by decide +kernel
theorem dX10_hint_34 : decode cX10_hint 34 = .ok (.aload_n 0, 1) := by decide +kernel
theorem dX10_hint_35 : decode cX10_hint 35 = .ok (.getfield 90, 3) := by decide +kernel
theorem dX10_hint_38 : decode cX10_hint 38 = .ok (.iload_n 1, 1) := by decide +kernel
theorem dX10_hint_39 : decode cX10_hint 39 = .ok (.iaload, 1) := by decide +kernel
theorem dX10_hint_40 : decode cX10_hint 40 = .ok (.if_icmp .ge 19, 3) := by decide +kernel
theorem dX10_hint_43 : decode cX10_hint 43 = .ok (.aload_n 0, 1) := by decide +kernel
theorem dX10_hint_44 : decode cX10_hint 44 = .ok (.getfield 84, 3) := by decide +kernel
theorem dX10_hint_47 : decode cX10_hint 47 = .ok (.aload_n 0, 1) := by decide +kernel
theorem dX10_hint_48 : decode cX10_hint 48 = .ok (.getfield 87, 3) := by decide +kernel
theorem dX10_hint_51 : decode cX10_hint 51 = .ok (.iload_n 1, 1) := by decide +kernel
theorem dX10_hint_52 : decode cX10_hint 52 = .ok (.iaload, 1) := by decide +kernel
theorem dX10_hint_53 : decode cX10_hint 53 = .ok (.iload_n 2, 1) := by decide +kernel
theorem dX10_hint_54 : decode cX10_hint 54 = .ok (.iadd, 1) := by decide +kernel
theorem dX10_hint_55 : decode cX10_hint 55 = .ok (.iaload, 1) := by decide +kernel
theorem dX10_hint_56 : decode cX10_hint 56 = .ok (.goto 4, 3) := by decide +kernel
theorem dX10_hint_59 : decode cX10_hint 59 = .ok (.iconst 0, 1) := by decide +kernel
theorem dX10_hint_60 : decode cX10_hint 60 = .ok (.ireturn, 1) := by decide +kernel
theorem dX10_put_0 : decode cX10_put 0 = .ok (.aload_n 0, 1) := by decide +kernel
theorem dX10_put_1 : decode cX10_put 1 = .ok (.getfield 312, 3) := by decide +kernel
theorem dX10_put_4 : decode cX10_put 4 = .ok (.sipush 6000, 3) := by decide +kernel
theorem dX10_put_7 : decode cX10_put 7 = .ok (.if_icmp .ge 13, 3) := by decide +kernel
theorem dX10_put_10 : decode cX10_put 10 = .ok (.aload_n 0, 1) := by decide +kernel
theorem dX10_put_11 : decode cX10_put 11 = .ok (.getfield 93, 3) := by decide +kernel
theorem dX10_put_14 : decode cX10_put 14 = .ok (.aload_n 0, 1) := by decide +kernel
theorem dX10_put_15 : decode cX10_put 15 = .ok (.getfield 312, 3) := by decide +kernel
theorem dX10_put_18 : decode cX10_put 18 = .ok (.iload_n 1, 1) := by decide +kernel
theorem dX10_put_19 : decode cX10_put 19 = .ok (.iastore, 1) := by decide +kernel
theorem dX10_put_20 : decode cX10_put 20 = .ok (.aload_n 0, 1) := by decide +kernel
theorem dX10_put_21 : decode cX10_put 21 = .ok (.dup, 1) := by decide +kernel
theorem dX10_put_22 : decode cX10_put 22 = .ok (.getfield 312, 3) := by decide +kernel
theorem dX10_put_25 : decode cX10_put 25 = .ok (.iconst 1, 1) := by decide +kernel
theorem dX10_put_26 : decode cX10_put 26 = .ok (.iadd, 1) := by decide +kernel
theorem dX10_put_27 : decode cX10_put 27 = .ok (.putfield 312, 3) := by decide +kernel
theorem dX10_put_30 : decode cX10_put 30 = .ok (.return_, 1) := by decide +kernel
theorem dX10_putNumber_0 : decode cX10_putNumber 0 = .ok (.iload_n 1, 1) := by decide +kernel
theorem dX10_putNumber_1 : decode cX10_putNumber 1 = .ok (.ifCond .ge 9, 3) := by decide +kernel
theorem dX10_putNumber_4 : decode cX10_putNumber 4 = .ok (.aload_n 0, 1) := by decide +kernel
theorem dX10_putNumber_5 : decode cX10_putNumber 5 = .ok (.bipush 45, 2) := by decide +kernel
theorem dX10_putNumber_7 : decode cX10_putNumber 7 = .ok (.invokevirtual 315, 3) := by decide +kernel
theorem dX10_putNumber_10 : decode cX10_putNumber 10 = .ok (.iload_n 1, 1) := by decide +kernel
theorem dX10_putNumber_11 : decode cX10_putNumber 11 = .ok (.ifCond .ge 8, 3) := by decide +kernel
theorem dX10_putNumber_14 : decode cX10_putNumber 14 = .ok (.iload_n 1, 1) := by decide +kernel
theorem dX10_putNumber_15 : decode cX10_putNumber 15 = .ok (.ineg, 1) := by decide +kernel
theorem dX10_putNumber_16 : decode cX10_putNumber 16 = .ok (.goto 4, 3) := by decide +kernel
theorem dX10_putNumber_19 : decode cX10_putNumber 19 = .ok (.iload_n 1, 1) := by decide +kernel
theorem dX10_putNumber_20 : decode cX10_putNumber 20 = .ok (.istore_n 2, 1) := by decide +kernel
theorem dX10_putNumber_21 : decode cX10_putNumber 21 = .ok (.iload_n 2, 1) := by decide +kernel
theorem dX10_putNumber_22 : decode cX10_putNumber 22 = .ok (.bipush 100, 2) := by decide +kernel
theorem dX10_putNumber_24 : decode cX10_putNumber 24 = .ok (.if_icmp .lt 14, 3) := by decide +kernel
theorem dX10_putNumber_27 : decode cX10_putNumber 27 = .ok (.aload_n 0, 1) := by decide +kernel
theorem dX10_putNumber_28 : decode cX10_putNumber 28 = .ok (.bipush 48, 2) := by decide +kernel
theorem dX10_putNumber_30 : decode cX10_putNumber 30 = .ok (.iload_n 2, 1) := by decide +kernel
theorem dX10_putNumber_31 : decode cX10_putNumber 31 = .ok (.bipush 100, 2) := by decide +kernel
theorem dX10_putNumber_33 : decode cX10_putNumber 33 = .ok (.idiv, 1) := by decide +kernel
theorem dX10_putNumber_34 : decode cX10_putNumber 34 = .ok (.iadd, 1) := by decide +kernel
theorem dX10_putNumber_35 : decode cX10_putNumber 35 = .ok (.invokevirtual 315, 3) := by decide +kernel
theorem dX10_putNumber_38 : decode cX10_putNumber 38 = .ok (.iload_n 2, 1) := by decide +kernel
theorem dX10_putNumber_39 : decode cX10_putNumber 39 = .ok (.bipush 10, 2) := by decide +kernel
theorem dX10_putNumber_41 : decode cX10_putNumber 41 = .ok (.if_icmp .lt 17, 3) := by decide +kernel
theorem dX10_putNumber_44 : decode cX10_putNumber 44 = .ok (.aload_n 0, 1) := by decide +kernel
theorem dX10_putNumber_45 : decode cX10_putNumber 45 = .ok (.bipush 48, 2) := by decide +kernel
theorem dX10_putNumber_47 : decode cX10_putNumber 47 = .ok (.iload_n 2, 1) := by decide +kernel
theorem dX10_putNumber_48 : decode cX10_putNumber 48 = .ok (.bipush 10, 2) := by decide +kernel
theorem dX10_putNumber_50 : decode cX10_putNumber 50 = .ok (.idiv, 1) := by decide +kernel
theorem dX10_putNumber_51 : decode cX10_putNumber 51 = .ok (.bipush 10, 2) := by decide +kernel
theorem dX10_putNumber_53 : decode cX10_putNumber 53 = .ok (.irem, 1) := by decide +kernel
theorem dX10_putNumber_54 : decode cX10_putNumber 54 = .ok (.iadd, 1) := by decide +kernel
theorem dX10_putNumber_55 : decode cX10_putNumber 55 = .ok (.invokevirtual 315, 3) := by decide +kernel
theorem dX10_putNumber_58 : decode cX10_putNumber 58 = .ok (.aload_n 0, 1) := by decide +kernel
theorem dX10_putNumber_59 : decode cX10_putNumber 59 = .ok (.bipush 48, 2) := by decide +kernel
theorem dX10_putNumber_61 : decode cX10_putNumber 61 = .ok (.iload_n 2, 1) := by decide +kernel
theorem dX10_putNumber_62 : decode cX10_putNumber 62 = .ok (.bipush 10, 2) := by decide +kernel
theorem dX10_putNumber_64 : decode cX10_putNumber 64 = .ok (.irem, 1) := by decide +kernel
theorem dX10_putNumber_65 : decode cX10_putNumber 65 = .ok (.iadd, 1) := by decide +kernel
theorem dX10_putNumber_66 : decode cX10_putNumber 66 = .ok (.invokevirtual 315, 3) := by decide +kernel
theorem dX10_putNumber_69 : decode cX10_putNumber 69 = .ok (.return_, 1) := by decide +kernel
theorem dX10_shorter_0 : decode cX10_shorter 0 = .ok (.aload_n 0, 1) := by decide +kernel
theorem dX10_shorter_1 : decode cX10_shorter 1 = .ok (.iconst 0, 1) := by decide +kernel
theorem dX10_shorter_2 : decode cX10_shorter 2 = .ok (.putfield 96, 3) := by decide +kernel
theorem dX10_shorter_5 : decode cX10_shorter 5 = .ok (.aload_n 0, 1) := by decide +kernel
theorem dX10_shorter_6 : decode cX10_shorter 6 = .ok (.iconst 0, 1) := by decide +kernel
theorem dX10_shorter_7 : decode cX10_shorter 7 = .ok (.putfield 312, 3) := by decide +kernel
theorem dX10_shorter_10 : decode cX10_shorter 10 = .ok (.aload_n 0, 1) := by decide +kernel
theorem dX10_shorter_11 : decode cX10_shorter 11 = .ok (.getfield 191, 3) := by decide +kernel
theorem dX10_shorter_14 : decode cX10_shorter 14 = .ok (.ifCond .ne 7, 3) := by decide +kernel
theorem dX10_shorter_17 : decode cX10_shorter 17 = .ok (.iconst 0, 1) := by decide +kernel
theorem dX10_shorter_18 : decode cX10_shorter 18 = .ok (.goto 22, 3) := by decide +kernel
theorem dX10_shorter_21 : decode cX10_shorter 21 = .ok (.aload_n 0, 1) := by decide +kernel
theorem dX10_shorter_22 : decode cX10_shorter 22 = .ok (.getfield 293, 3) := by decide +kernel
theorem dX10_shorter_25 : decode cX10_shorter 25 = .ok (.iconst (-1), 1) := by decide +kernel
theorem dX10_shorter_26 : decode cX10_shorter 26 = .ok (.if_icmp .ne 10, 3) := by decide +kernel
theorem dX10_shorter_29 : decode cX10_shorter 29 = .ok (.aload_n 0, 1) := by decide +kernel
theorem dX10_shorter_30 : decode cX10_shorter 30 = .ok (.getfield 188, 3) := by decide +kernel
theorem dX10_shorter_33 : decode cX10_shorter 33 = .ok (.goto 7, 3) := by decide +kernel
theorem dX10_shorter_36 : decode cX10_shorter 36 = .ok (.aload_n 0, 1) := by decide +kernel
theorem dX10_shorter_37 : decode cX10_shorter 37 = .ok (.getfield 293, 3) := by decide +kernel
theorem dX10_shorter_40 : decode cX10_shorter 40 = .ok (.istore_n 1, 1) := by decide +kernel
theorem dX10_shorter_41 : decode cX10_shorter 41 = .ok (.iconst 1, 1) := by decide +kernel
theorem dX10_shorter_42 : decode cX10_shorter 42 = .ok (.istore_n 2, 1) := by decide +kernel
theorem dX10_shorter_43 : decode cX10_shorter 43 = .ok (.iload_n 2, 1) := by decide +kernel
theorem dX10_shorter_44 : decode cX10_shorter 44 = .ok (.iload_n 1, 1) := by decide +kernel
theorem dX10_shorter_45 : decode cX10_shorter 45 = .ok (.if_icmp .gt 155, 3) := by decide +kernel
theorem dX10_shorter_48 : decode cX10_shorter 48 = .ok (.aload_n 0, 1) := by decide +kernel
theorem dX10_shorter_49 : decode cX10_shorter 49 = .ok (.getfield 38, 3) := by decide +kernel
theorem dX10_shorter_52 : decode cX10_shorter 52 = .ok (.iload_n 2, 1) := by decide +kernel
theorem dX10_shorter_53 : decode cX10_shorter 53 = .ok (.baload, 1) := by decide +kernel
theorem dX10_shorter_54 : decode cX10_shorter 54 = .ok (.ifCond .eq 47, 3) := by decide +kernel
theorem dX10_shorter_57 : decode cX10_shorter 57 = .ok (.aload_n 0, 1) := by decide +kernel
theorem dX10_shorter_58 : decode cX10_shorter 58 = .ok (.getfield 72, 3) := by decide +kernel
theorem dX10_shorter_61 : decode cX10_shorter 61 = .ok (.iload_n 2, 1) := by decide +kernel
theorem dX10_shorter_62 : decode cX10_shorter 62 = .ok (.iaload, 1) := by decide +kernel
theorem dX10_shorter_63 : decode cX10_shorter 63 = .ok (.ifCond .le 34, 3) := by decide +kernel
theorem dX10_shorter_66 : decode cX10_shorter 66 = .ok (.aload_n 0, 1) := by decide +kernel
theorem dX10_shorter_67 : decode cX10_shorter 67 = .ok (.getfield 72, 3) := by decide +kernel
theorem dX10_shorter_70 : decode cX10_shorter 70 = .ok (.iload_n 2, 1) := by decide +kernel
theorem dX10_shorter_71 : decode cX10_shorter 71 = .ok (.iaload, 1) := by decide +kernel
theorem dX10_shorter_72 : decode cX10_shorter 72 = .ok (.aload_n 0, 1) := by decide +kernel
theorem dX10_shorter_73 : decode cX10_shorter 73 = .ok (.getfield 185, 3) := by decide +kernel
theorem dX10_shorter_76 : decode cX10_shorter 76 = .ok (.if_icmp .le 17, 3) := by decide +kernel
theorem dX10_shorter_79 : decode cX10_shorter 79 = .ok (.aload_n 0, 1) := by decide +kernel
theorem dX10_shorter_80 : decode cX10_shorter 80 = .ok (.getfield 63, 3) := by decide +kernel
theorem dX10_shorter_83 : decode cX10_shorter 83 = .ok (.aload_n 0, 1) := by decide +kernel
theorem dX10_shorter_84 : decode cX10_shorter 84 = .ok (.getfield 72, 3) := by decide +kernel
theorem dX10_shorter_87 : decode cX10_shorter 87 = .ok (.iload_n 2, 1) := by decide +kernel
theorem dX10_shorter_88 : decode cX10_shorter 88 = .ok (.iaload, 1) := by decide +kernel
theorem dX10_shorter_89 : decode cX10_shorter 89 = .ok (.baload, 1) := by decide +kernel
theorem dX10_shorter_90 : decode cX10_shorter 90 = .ok (.ifCond .eq 7, 3) := by decide +kernel
theorem dX10_shorter_93 : decode cX10_shorter 93 = .ok (.iconst 1, 1) := by decide +kernel
theorem dX10_shorter_94 : decode cX10_shorter 94 = .ok (.goto 18, 3) := by decide +kernel
theorem dX10_shorter_97 : decode cX10_shorter 97 = .ok (.iconst 0, 1) := by decide +kernel
theorem dX10_shorter_98 : decode cX10_shorter 98 = .ok (.goto 14, 3) := by decide +kernel
theorem dX10_shorter_101 : decode cX10_shorter 101 = .ok (.aload_n 0, 1) := by decide +kernel
theorem dX10_shorter_102 : decode cX10_shorter 102 = .ok (.getfield 63, 3) := by decide +kernel
theorem dX10_shorter_105 : decode cX10_shorter 105 = .ok (.aload_n 0, 1) := by decide +kernel
theorem dX10_shorter_106 : decode cX10_shorter 106 = .ok (.getfield 57, 3) := by decide +kernel
theorem dX10_shorter_109 : decode cX10_shorter 109 = .ok (.iload_n 2, 1) := by decide +kernel
theorem dX10_shorter_110 : decode cX10_shorter 110 = .ok (.iaload, 1) := by decide +kernel
theorem dX10_shorter_111 : decode cX10_shorter 111 = .ok (.baload, 1) := by decide +kernel
theorem dX10_shorter_112 : decode cX10_shorter 112 = .ok (.istore_n 3, 1) := by decide +kernel
theorem dX10_shorter_113 : decode cX10_shorter 113 = .ok (.iload_n 3, 1) := by decide +kernel
theorem dX10_shorter_114 : decode cX10_shorter 114 = .ok (.ifCond .eq 80, 3) := by decide +kernel
theorem dX10_shorter_117 : decode cX10_shorter 117 = .ok (.aload_n 0, 1) := by decide +kernel
theorem dX10_shorter_118 : decode cX10_shorter 118 = .ok (.getfield 38, 3) := by decide +kernel
theorem dX10_shorter_121 : decode cX10_shorter 121 = .ok (.iload_n 2, 1) := by decide +kernel
theorem dX10_shorter_122 : decode cX10_shorter 122 = .ok (.baload, 1) := by decide +kernel
theorem dX10_shorter_123 : decode cX10_shorter 123 = .ok (.ifCond .eq 15, 3) := by decide +kernel
theorem dX10_shorter_126 : decode cX10_shorter 126 = .ok (.aload_n 0, 1) := by decide +kernel
theorem dX10_shorter_127 : decode cX10_shorter 127 = .ok (.bipush 100, 2) := by decide +kernel
theorem dX10_shorter_129 : decode cX10_shorter 129 = .ok (.invokevirtual 315, 3) := by decide +kernel
theorem dX10_shorter_132 : decode cX10_shorter 132 = .ok (.aload_n 0, 1) := by decide +kernel
theorem dX10_shorter_133 : decode cX10_shorter 133 = .ok (.bipush 32, 2) := by decide +kernel
theorem dX10_shorter_135 : decode cX10_shorter 135 = .ok (.invokevirtual 315, 3) := by decide +kernel
theorem dX10_shorter_138 : decode cX10_shorter 138 = .ok (.iconst 0, 1) := by decide +kernel
theorem dX10_shorter_139 : decode cX10_shorter 139 = .ok (.istore 4, 2) := by decide +kernel
theorem dX10_shorter_141 : decode cX10_shorter 141 = .ok (.iload 4, 2) := by decide +kernel
theorem dX10_shorter_143 : decode cX10_shorter 143 = .ok (.aload_n 0, 1) := by decide +kernel
theorem dX10_shorter_144 : decode cX10_shorter 144 = .ok (.getfield 32, 3) := by decide +kernel
theorem dX10_shorter_147 : decode cX10_shorter 147 = .ok (.iload_n 2, 1) := by decide +kernel
theorem dX10_shorter_148 : decode cX10_shorter 148 = .ok (.iaload, 1) := by decide +kernel
theorem dX10_shorter_149 : decode cX10_shorter 149 = .ok (.if_icmp .ge 33, 3) := by decide +kernel
theorem dX10_shorter_152 : decode cX10_shorter 152 = .ok (.aload_n 0, 1) := by decide +kernel
theorem dX10_shorter_153 : decode cX10_shorter 153 = .ok (.aload_n 0, 1) := by decide +kernel
theorem dX10_shorter_154 : decode cX10_shorter 154 = .ok (.getfield 35, 3) := by decide +kernel
theorem dX10_shorter_157 : decode cX10_shorter 157 = .ok (.aload_n 0, 1) := by decide +kernel
theorem dX10_shorter_158 : decode cX10_shorter 158 = .ok (.getfield 29, 3) := by decide +kernel
theorem dX10_shorter_161 : decode cX10_shorter 161 = .ok (.iload_n 2, 1) := by decide +kernel
theorem dX10_shorter_162 : decode cX10_shorter 162 = .ok (.iaload, 1) := by decide +kernel
theorem dX10_shorter_163 : decode cX10_shorter 163 = .ok (.iload 4, 2) := by decide +kernel
theorem dX10_shorter_165 : decode cX10_shorter 165 = .ok (.iadd, 1) := by decide +kernel
theorem dX10_shorter_166 : decode cX10_shorter 166 = .ok (.iaload, 1) := by decide +kernel
theorem dX10_shorter_167 : decode cX10_shorter 167 = .ok (.invokevirtual 318, 3) := by decide +kernel
theorem dX10_shorter_170 : decode cX10_shorter 170 = .ok (.aload_n 0, 1) := by decide +kernel
theorem dX10_shorter_171 : decode cX10_shorter 171 = .ok (.bipush 32, 2) := by decide +kernel
theorem dX10_shorter_173 : decode cX10_shorter 173 = .ok (.invokevirtual 315, 3) := by decide +kernel
theorem dX10_shorter_176 : decode cX10_shorter 176 = .ok (.iinc 4 1, 3) := by decide +kernel
theorem dX10_shorter_179 : decode cX10_shorter 179 = .ok (.goto (-38), 3) := by decide +kernel
theorem dX10_shorter_182 : decode cX10_shorter 182 = .ok (.aload_n 0, 1) := by decide +kernel
theorem dX10_shorter_183 : decode cX10_shorter 183 = .ok (.bipush 48, 2) := by decide +kernel
theorem dX10_shorter_185 : decode cX10_shorter 185 = .ok (.invokevirtual 315, 3) := by decide +kernel
theorem dX10_shorter_188 : decode cX10_shorter 188 = .ok (.aload_n 0, 1) := by decide +kernel
theorem dX10_shorter_189 : decode cX10_shorter 189 = .ok (.bipush 10, 2) := by decide +kernel
theorem dX10_shorter_191 : decode cX10_shorter 191 = .ok (.invokevirtual 315, 3) := by decide +kernel
theorem dX10_shorter_194 : decode cX10_shorter 194 = .ok (.iinc 2 1, 3) := by decide +kernel
theorem dX10_shorter_197 : decode cX10_shorter 197 = .ok (.goto (-154), 3) := by decide +kernel
theorem dX10_shorter_200 : decode cX10_shorter 200 = .ok (.aload_n 0, 1) := by decide +kernel
theorem dX10_shorter_201 : decode cX10_shorter 201 = .ok (.getfield 312, 3) := by decide +kernel
theorem dX10_shorter_204 : decode cX10_shorter 204 = .ok (.ireturn, 1) := by decide +kernel
theorem dX10_out_0 : decode cX10_out 0 = .ok (.aload_n 0, 1) := by decide +kernel
theorem dX10_out_1 : decode cX10_out 1 = .ok (.iconst 0, 1) := by decide +kernel
theorem dX10_out_2 : decode cX10_out 2 = .ok (.putfield 96, 3) := by decide +kernel
theorem dX10_out_5 : decode cX10_out 5 = .ok (.iload_n 1, 1) := by decide +kernel
theorem dX10_out_6 : decode cX10_out 6 = .ok (.ifCond .lt 18, 3) := by decide +kernel
theorem dX10_out_9 : decode cX10_out 9 = .ok (.iload_n 1, 1) := by decide +kernel
theorem dX10_out_10 : decode cX10_out 10 = .ok (.aload_n 0, 1) := by decide +kernel
theorem dX10_out_11 : decode cX10_out 11 = .ok (.getfield 312, 3) := by decide +kernel
theorem dX10_out_14 : decode cX10_out 14 = .ok (.if_icmp .ge 10, 3) := by decide +kernel
theorem dX10_out_17 : decode cX10_out 17 = .ok (.iload_n 1, 1) := by decide +kernel
theorem dX10_out_18 : decode cX10_out 18 = .ok (.sipush 6000, 3) := by decide +kernel
theorem dX10_out_21 : decode cX10_out 21 = .ok (.if_icmp .lt 8, 3) := by decide +kernel
theorem dX10_out_24 : decode cX10_out 24 = .ok (.aload_n 0, 1) := by decide +kernel
theorem dX10_out_25 : decode cX10_out 25 = .ok (.invokevirtual 157, 3) := by decide +kernel
theorem dX10_out_28 : decode cX10_out 28 = .ok (.ireturn, 1) := by decide +kernel
theorem dX10_out_29 : decode cX10_out 29 = .ok (.aload_n 0, 1) := by decide +kernel
theorem dX10_out_30 : decode cX10_out 30 = .ok (.getfield 93, 3) := by decide +kernel
theorem dX10_out_33 : decode cX10_out 33 = .ok (.iload_n 1, 1) := by decide +kernel
theorem dX10_out_34 : decode cX10_out 34 = .ok (.iaload, 1) := by decide +kernel
theorem dX10_out_35 : decode cX10_out 35 = .ok (.ireturn, 1) := by decide +kernel
theorem dX10_takeShorter_0 : decode cX10_takeShorter 0 = .ok (.aload_n 0, 1) := by decide +kernel
theorem dX10_takeShorter_1 : decode cX10_takeShorter 1 = .ok (.iconst 0, 1) := by decide +kernel
theorem dX10_takeShorter_2 : decode cX10_takeShorter 2 = .ok (.putfield 96, 3) := by decide +kernel
theorem dX10_takeShorter_5 : decode cX10_takeShorter 5 = .ok (.aload_n 0, 1) := by decide +kernel
theorem dX10_takeShorter_6 : decode cX10_takeShorter 6 = .ok (.getfield 312, 3) := by decide +kernel
theorem dX10_takeShorter_9 : decode cX10_takeShorter 9 = .ok (.sipush 6000, 3) := by decide +kernel
theorem dX10_takeShorter_12 : decode cX10_takeShorter 12 = .ok (.if_icmp .le 5, 3) := by decide +kernel
theorem dX10_takeShorter_15 : decode cX10_takeShorter 15 = .ok (.iconst (-1), 1) := by decide +kernel
theorem dX10_takeShorter_16 : decode cX10_takeShorter 16 = .ok (.ireturn, 1) := by decide +kernel
theorem dX10_takeShorter_17 : decode cX10_takeShorter 17 = .ok (.iconst 0, 1) := by decide +kernel
theorem dX10_takeShorter_18 : decode cX10_takeShorter 18 = .ok (.istore_n 1, 1) := by decide +kernel
theorem dX10_takeShorter_19 : decode cX10_takeShorter 19 = .ok (.iload_n 1, 1) := by decide +kernel
theorem dX10_takeShorter_20 : decode cX10_takeShorter 20 = .ok (.aload_n 0, 1) := by decide +kernel
theorem dX10_takeShorter_21 : decode cX10_takeShorter 21 = .ok (.getfield 312, 3) := by decide +kernel
theorem dX10_takeShorter_24 : decode cX10_takeShorter 24 = .ok (.if_icmp .ge 21, 3) := by decide +kernel
theorem dX10_takeShorter_27 : decode cX10_takeShorter 27 = .ok (.aload_n 0, 1) := by decide +kernel
theorem dX10_takeShorter_28 : decode cX10_takeShorter 28 = .ok (.getfield 13, 3) := by decide +kernel
theorem dX10_takeShorter_31 : decode cX10_takeShorter 31 = .ok (.iload_n 1, 1) := by decide +kernel
theorem dX10_takeShorter_32 : decode cX10_takeShorter 32 = .ok (.aload_n 0, 1) := by decide +kernel
theorem dX10_takeShorter_33 : decode cX10_takeShorter 33 = .ok (.getfield 93, 3) := by decide +kernel
theorem dX10_takeShorter_36 : decode cX10_takeShorter 36 = .ok (.iload_n 1, 1) := by decide +kernel
theorem dX10_takeShorter_37 : decode cX10_takeShorter 37 = .ok (.iaload, 1) := by decide +kernel
theorem dX10_takeShorter_38 : decode cX10_takeShorter 38 = .ok (.iastore, 1) := by decide +kernel
theorem dX10_takeShorter_39 : decode cX10_takeShorter 39 = .ok (.iinc 1 1, 3) := by decide +kernel
theorem dX10_takeShorter_42 : decode cX10_takeShorter 42 = .ok (.goto (-23), 3) := by decide +kernel
theorem dX10_takeShorter_45 : decode cX10_takeShorter 45 = .ok (.aload_n 0, 1) := by decide +kernel
theorem dX10_takeShorter_46 : decode cX10_takeShorter 46 = .ok (.aload_n 0, 1) := by decide +kernel
theorem dX10_takeShorter_47 : decode cX10_takeShorter 47 = .ok (.getfield 312, 3) := by decide +kernel
theorem dX10_takeShorter_50 : decode cX10_takeShorter 50 = .ok (.putfield 111, 3) := by decide +kernel
theorem dX10_takeShorter_53 : decode cX10_takeShorter 53 = .ok (.aload_n 0, 1) := by decide +kernel
theorem dX10_takeShorter_54 : decode cX10_takeShorter 54 = .ok (.sipush 150, 3) := by decide +kernel
theorem dX10_takeShorter_57 : decode cX10_takeShorter 57 = .ok (.invokevirtual 201, 3) := by decide +kernel
theorem dX10_takeShorter_60 : decode cX10_takeShorter 60 = .ok (.aload_n 0, 1) := by decide +kernel
theorem dX10_takeShorter_61 : decode cX10_takeShorter 61 = .ok (.invokevirtual 213, 3) := by decide +kernel
theorem dX10_takeShorter_64 : decode cX10_takeShorter 64 = .ok (.aload_n 0, 1) := by decide +kernel
theorem dX10_takeShorter_65 : decode cX10_takeShorter 65 = .ok (.invokevirtual 216, 3) := by decide +kernel
theorem dX10_takeShorter_68 : decode cX10_takeShorter 68 = .ok (.aload_n 0, 1) := by decide +kernel
theorem dX10_takeShorter_69 : decode cX10_takeShorter 69 = .ok (.getfield 188, 3) := by decide +kernel
theorem dX10_takeShorter_72 : decode cX10_takeShorter 72 = .ok (.ireturn, 1) := by decide +kernel

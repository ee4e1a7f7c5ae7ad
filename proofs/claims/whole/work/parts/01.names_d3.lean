theorem dX7_count_122 : decode cX7_count 122 = .ok (.aload_n 0, 1) := by decide +kernel
theorem dX7_count_123 : decode cX7_count 123 = .ok (.getfield 19, 3) := by decide +kernel
theorem dX7_count_126 : decode cX7_count 126 = .ok (.getfield 76, 3) := by decide +kernel
theorem dX7_count_129 : decode cX7_count 129 = .ok (.getfield 80, 3) := by decide +kernel
theorem dX7_count_132 : decode cX7_count 132 = .ok (.ireturn, 1) := by decide +kernel
theorem dX7_count_133 : decode cX7_count 133 = .ok (.aload_n 0, 1) := by decide +kernel
theorem dX7_count_134 : decode cX7_count 134 = .ok (.getfield 10, 3) := by decide +kernel
theorem dX7_count_137 : decode cX7_count 137 = .ok (.getfield 48, 3) := by decide +kernel
theorem dX7_count_140 : decode cX7_count 140 = .ok (.ireturn, 1) := by decide +kernel
theorem dX7_count_141 : decode cX7_count 141 = .ok (.aload_n 0, 1) := by decide +kernel
theorem dX7_count_142 : decode cX7_count 142 = .ok (.getfield 89, 3) := by decide +kernel
theorem dX7_count_145 : decode cX7_count 145 = .ok (.ireturn, 1) := by decide +kernel
theorem dX7_count_146 : decode cX7_count 146 = .ok (.aload_n 0, 1) := by decide +kernel
theorem dX7_count_147 : decode cX7_count 147 = .ok (.getfield 159, 3) := by decide +kernel
theorem dX7_count_150 : decode cX7_count 150 = .ok (.ireturn, 1) := by decide +kernel
theorem dX7_count_151 : decode cX7_count 151 = .ok (.bipush (-102), 2) := by decide +kernel
theorem dX7_count_153 : decode cX7_count 153 = .ok (.ireturn, 1) := by decide +kernel
theorem dX7_digest_0 : decode cX7_digest 0 = .ok (.ldc2_w 204, 3) := by decide +kernel
theorem dX7_digest_3 : decode cX7_digest 3 = .ok (.lstore_n 1, 1) := by decide +kernel
theorem dX7_digest_4 : decode cX7_digest 4 = .ok (.iconst 0, 1) := by decide +kernel
theorem dX7_digest_5 : decode cX7_digest 5 = .ok (.istore_n 3, 1) := by decide +kernel
theorem dX7_digest_6 : decode cX7_digest 6 = .ok (.iload_n 3, 1) := by decide +kernel
theorem dX7_digest_7 : decode cX7_digest 7 = .ok (.aload_n 0, 1) := by decide +kernel
theorem dX7_digest_8 : decode cX7_digest 8 = .ok (.getfield 19, 3) := by decide +kernel
theorem dX7_digest_11 : decode cX7_digest 11 = .ok (.getfield 28, 3) := by decide +kernel
theorem dX7_digest_14 : decode cX7_digest 14 = .ok (.getfield 92, 3) := by decide +kernel
theorem dX7_digest_17 : decode cX7_digest 17 = .ok (.if_icmp .ge 40, 3) := by decide +kernel
theorem dX7_digest_20 : decode cX7_digest 20 = .ok (.iconst 0, 1) := by decide +kernel
theorem dX7_digest_21 : decode cX7_digest 21 = .ok (.istore 4, 2) := by decide +kernel
theorem dX7_digest_23 : decode cX7_digest 23 = .ok (.iload 4, 2) := by decide +kernel
theorem dX7_digest_25 : decode cX7_digest 25 = .ok (.bipush 9, 2) := by decide +kernel
theorem dX7_digest_27 : decode cX7_digest 27 = .ok (.if_icmp .ge 24, 3) := by decide +kernel
theorem dX7_digest_30 : decode cX7_digest 30 = .ok (.ldc2_w 206, 3) := by decide +kernel
theorem dX7_digest_33 : decode cX7_digest 33 = .ok (.lload_n 1, 1) := by decide +kernel
theorem dX7_digest_34 : decode cX7_digest 34 = .ok (.lmul, 1) := by decide +kernel
theorem dX7_digest_35 : decode cX7_digest 35 = .ok (.aload_n 0, 1) := by decide +kernel
theorem dX7_digest_36 : decode cX7_digest 36 = .ok (.iload_n 3, 1) := by decide +kernel
theorem dX7_digest_37 : decode cX7_digest 37 = .ok (.iload 4, 2) := by decide +kernel
theorem dX7_digest_39 : decode cX7_digest 39 = .ok (.invokevirtual 107, 3) := by decide +kernel
theorem dX7_digest_42 : decode cX7_digest 42 = .ok (.i2l, 1) := by decide +kernel
theorem dX7_digest_43 : decode cX7_digest 43 = .ok (.ladd, 1) := by decide +kernel
theorem dX7_digest_44 : decode cX7_digest 44 = .ok (.lstore_n 1, 1) := by decide +kernel
theorem dX7_digest_45 : decode cX7_digest 45 = .ok (.iinc 4 1, 3) := by decide +kernel
theorem dX7_digest_48 : decode cX7_digest 48 = .ok (.goto (-25), 3) := by decide +kernel
theorem dX7_digest_51 : decode cX7_digest 51 = .ok (.iinc 3 1, 3) := by decide +kernel
theorem dX7_digest_54 : decode cX7_digest 54 = .ok (.goto (-48), 3) := by decide +kernel
theorem dX7_digest_57 : decode cX7_digest 57 = .ok (.aload_n 0, 1) := by decide +kernel
theorem dX7_digest_58 : decode cX7_digest 58 = .ok (.invokevirtual 93, 3) := by decide +kernel
theorem dX7_digest_61 : decode cX7_digest 61 = .ok (.ifCond .eq 47, 3) := by decide +kernel
theorem dX7_digest_64 : decode cX7_digest 64 = .ok (.iconst 0, 1) := by decide +kernel
theorem dX7_digest_65 : decode cX7_digest 65 = .ok (.istore_n 3, 1) := by decide +kernel
theorem dX7_digest_66 : decode cX7_digest 66 = .ok (.iload_n 3, 1) := by decide +kernel
theorem dX7_digest_67 : decode cX7_digest 67 = .ok (.bipush 12, 2) := by decide +kernel
theorem dX7_digest_69 : decode cX7_digest 69 = .ok (.if_icmp .ge 39, 3) := by decide +kernel
theorem dX7_digest_72 : decode cX7_digest 72 = .ok (.iconst 0, 1) := by decide +kernel
theorem dX7_digest_73 : decode cX7_digest 73 = .ok (.istore 4, 2) := by decide +kernel
theorem dX7_digest_75 : decode cX7_digest 75 = .ok (.iload 4, 2) := by decide +kernel
theorem dX7_digest_77 : decode cX7_digest 77 = .ok (.iconst 3, 1) := by decide +kernel
theorem dX7_digest_78 : decode cX7_digest 78 = .ok (.if_icmp .ge 24, 3) := by decide +kernel
theorem dX7_digest_81 : decode cX7_digest 81 = .ok (.ldc2_w 206, 3) := by decide +kernel
theorem dX7_digest_84 : decode cX7_digest 84 = .ok (.lload_n 1, 1) := by decide +kernel
theorem dX7_digest_85 : decode cX7_digest 85 = .ok (.lmul, 1) := by decide +kernel
theorem dX7_digest_86 : decode cX7_digest 86 = .ok (.aload_n 0, 1) := by decide +kernel
theorem dX7_digest_87 : decode cX7_digest 87 = .ok (.iload_n 3, 1) := by decide +kernel
theorem dX7_digest_88 : decode cX7_digest 88 = .ok (.iload 4, 2) := by decide +kernel
theorem dX7_digest_90 : decode cX7_digest 90 = .ok (.invokevirtual 126, 3) := by decide +kernel
theorem dX7_digest_93 : decode cX7_digest 93 = .ok (.i2l, 1) := by decide +kernel
theorem dX7_digest_94 : decode cX7_digest 94 = .ok (.ladd, 1) := by decide +kernel
theorem dX7_digest_95 : decode cX7_digest 95 = .ok (.lstore_n 1, 1) := by decide +kernel
theorem dX7_digest_96 : decode cX7_digest 96 = .ok (.iinc 4 1, 3) := by decide +kernel
theorem dX7_digest_99 : decode cX7_digest 99 = .ok (.goto (-24), 3) := by decide +kernel
theorem dX7_digest_102 : decode cX7_digest 102 = .ok (.iinc 3 1, 3) := by decide +kernel
theorem dX7_digest_105 : decode cX7_digest 105 = .ok (.goto (-39), 3) := by decide +kernel
theorem dX7_digest_108 : decode cX7_digest 108 = .ok (.iconst 0, 1) := by decide +kernel
theorem dX7_digest_109 : decode cX7_digest 109 = .ok (.istore_n 3, 1) := by decide +kernel
theorem dX7_digest_110 : decode cX7_digest 110 = .ok (.iload_n 3, 1) := by decide +kernel
theorem dX7_digest_111 : decode cX7_digest 111 = .ok (.aload_n 0, 1) := by decide +kernel
theorem dX7_digest_112 : decode cX7_digest 112 = .ok (.getfield 19, 3) := by decide +kernel
theorem dX7_digest_115 : decode cX7_digest 115 = .ok (.getfield 28, 3) := by decide +kernel
theorem dX7_digest_118 : decode cX7_digest 118 = .ok (.getfield 92, 3) := by decide +kernel
theorem dX7_digest_121 : decode cX7_digest 121 = .ok (.if_icmp .ge 22, 3) := by decide +kernel
theorem dX7_digest_124 : decode cX7_digest 124 = .ok (.ldc2_w 206, 3) := by decide +kernel
theorem dX7_digest_127 : decode cX7_digest 127 = .ok (.lload_n 1, 1) := by decide +kernel
theorem dX7_digest_128 : decode cX7_digest 128 = .ok (.lmul, 1) := by decide +kernel
theorem dX7_digest_129 : decode cX7_digest 129 = .ok (.aload_n 0, 1) := by decide +kernel
theorem dX7_digest_130 : decode cX7_digest 130 = .ok (.iload_n 3, 1) := by decide +kernel
theorem dX7_digest_131 : decode cX7_digest 131 = .ok (.invokevirtual 208, 3) := by decide +kernel
theorem dX7_digest_134 : decode cX7_digest 134 = .ok (.i2l, 1) := by decide +kernel
theorem dX7_digest_135 : decode cX7_digest 135 = .ok (.ladd, 1) := by decide +kernel
theorem dX7_digest_136 : decode cX7_digest 136 = .ok (.lstore_n 1, 1) := by decide +kernel
theorem dX7_digest_137 : decode cX7_digest 137 = .ok (.iinc 3 1, 3) := by decide +kernel
theorem dX7_digest_140 : decode cX7_digest 140 = .ok (.goto (-30), 3) := by decide +kernel
theorem dX7_digest_143 : decode cX7_digest 143 = .ok (.iconst 0, 1) := by decide +kernel
theorem dX7_digest_144 : decode cX7_digest 144 = .ok (.istore_n 3, 1) := by decide +kernel
theorem dX7_digest_145 : decode cX7_digest 145 = .ok (.iload_n 3, 1) := by decide +kernel
theorem dX7_digest_146 : decode cX7_digest 146 = .ok (.aload_n 0, 1) := by decide +kernel
theorem dX7_digest_147 : decode cX7_digest 147 = .ok (.getfield 10, 3) := by decide +kernel
theorem dX7_digest_150 : decode cX7_digest 150 = .ok (.getfield 48, 3) := by decide +kernel
theorem dX7_digest_153 : decode cX7_digest 153 = .ok (.if_icmp .ge 26, 3) := by decide +kernel
theorem dX7_digest_156 : decode cX7_digest 156 = .ok (.ldc2_w 206, 3) := by decide +kernel
theorem dX7_digest_159 : decode cX7_digest 159 = .ok (.lload_n 1, 1) := by decide +kernel
theorem dX7_digest_160 : decode cX7_digest 160 = .ok (.lmul, 1) := by decide +kernel
theorem dX7_digest_161 : decode cX7_digest 161 = .ok (.aload_n 0, 1) := by decide +kernel
theorem dX7_digest_162 : decode cX7_digest 162 = .ok (.getfield 10, 3) := by decide +kernel
theorem dX7_digest_165 : decode cX7_digest 165 = .ok (.getfield 211, 3) := by decide +kernel
theorem dX7_digest_168 : decode cX7_digest 168 = .ok (.iload_n 3, 1) := by decide +kernel
theorem dX7_digest_169 : decode cX7_digest 169 = .ok (.iaload, 1) := by decide +kernel
theorem dX7_digest_170 : decode cX7_digest 170 = .ok (.i2l, 1) := by decide +kernel
theorem dX7_digest_171 : decode cX7_digest 171 = .ok (.ladd, 1) := by decide +kernel
theorem dX7_digest_172 : decode cX7_digest 172 = .ok (.lstore_n 1, 1) := by decide +kernel
theorem dX7_digest_173 : decode cX7_digest 173 = .ok (.iinc 3 1, 3) := by decide +kernel
theorem dX7_digest_176 : decode cX7_digest 176 = .ok (.goto (-31), 3) := by decide +kernel
theorem dX7_digest_179 : decode cX7_digest 179 = .ok (.iconst 0, 1) := by decide +kernel
theorem dX7_digest_180 : decode cX7_digest 180 = .ok (.istore_n 3, 1) := by decide +kernel
theorem dX7_digest_181 : decode cX7_digest 181 = .ok (.iload_n 3, 1) := by decide +kernel
theorem dX7_digest_182 : decode cX7_digest 182 = .ok (.bipush 10, 2) := by decide +kernel
theorem dX7_digest_184 : decode cX7_digest 184 = .ok (.if_icmp .ge 22, 3) := by decide +kernel
theorem dX7_digest_187 : decode cX7_digest 187 = .ok (.ldc2_w 206, 3) := by decide +kernel
theorem dX7_digest_190 : decode cX7_digest 190 = .ok (.lload_n 1, 1) := by decide +kernel
theorem dX7_digest_191 : decode cX7_digest 191 = .ok (.lmul, 1) := by decide +kernel
theorem dX7_digest_192 : decode cX7_digest 192 = .ok (.aload_n 0, 1) := by decide +kernel
theorem dX7_digest_193 : decode cX7_digest 193 = .ok (.iload_n 3, 1) := by decide +kernel
theorem dX7_digest_194 : decode cX7_digest 194 = .ok (.invokevirtual 214, 3) := by decide +kernel
theorem dX7_digest_197 : decode cX7_digest 197 = .ok (.i2l, 1) := by decide +kernel
theorem dX7_digest_198 : decode cX7_digest 198 = .ok (.ladd, 1) := by decide +kernel
theorem dX7_digest_199 : decode cX7_digest 199 = .ok (.lstore_n 1, 1) := by decide +kernel
theorem dX7_digest_200 : decode cX7_digest 200 = .ok (.iinc 3 1, 3) := by decide +kernel
theorem dX7_digest_203 : decode cX7_digest 203 = .ok (.goto (-22), 3) := by decide +kernel
theorem dX7_digest_206 : decode cX7_digest 206 = .ok (.lload_n 1, 1) := by decide +kernel
theorem dX7_digest_207 : decode cX7_digest 207 = .ok (.lreturn, 1) := by decide +kernel
theorem dX7_hasHouse_0 : decode cX7_hasHouse 0 = .ok (.aload_n 0, 1) := by decide +kernel
theorem dX7_hasHouse_1 : decode cX7_hasHouse 1 = .ok (.getfield 19, 3) := by decide +kernel
theorem dX7_hasHouse_4 : decode cX7_hasHouse 4 = .ok (.getfield 28, 3) := by decide +kernel
theorem dX7_hasHouse_7 : decode cX7_hasHouse 7 = .ok (.getfield 92, 3) := by decide +kernel
theorem dX7_hasHouse_10 : decode cX7_hasHouse 10 = .ok (.ifCond .le 7, 3) := by decide +kernel
theorem dX7_hasHouse_13 : decode cX7_hasHouse 13 = .ok (.iconst 1, 1) := by decide +kernel
theorem dX7_hasHouse_14 : decode cX7_hasHouse 14 = .ok (.goto 4, 3) := by decide +kernel
theorem dX7_hasHouse_17 : decode cX7_hasHouse 17 = .ok (.iconst 0, 1) := by decide +kernel
theorem dX7_hasHouse_18 : decode cX7_hasHouse 18 = .ok (.ireturn, 1) := by decide +kernel
theorem dX7_isNight_0 : decode cX7_isNight 0 = .ok (.iload_n 0, 1) := by decide +kernel
theorem dX7_isNight_1 : decode cX7_isNight 1 = .ok (.ifCond .lt 13, 3) := by decide +kernel
theorem dX7_isNight_4 : decode cX7_isNight 4 = .ok (.iload_n 0, 1) := by decide +kernel
theorem dX7_isNight_5 : decode cX7_isNight 5 = .ok (.bipush 12, 2) := by decide +kernel
theorem dX7_isNight_7 : decode cX7_isNight 7 = .ok (.if_icmp .ge 7, 3) := by decide +kernel
theorem dX7_isNight_10 : decode cX7_isNight 10 = .ok (.iconst 1, 1) := by decide +kernel
theorem dX7_isNight_11 : decode cX7_isNight 11 = .ok (.goto 4, 3) := by decide +kernel
theorem dX7_isNight_14 : decode cX7_isNight 14 = .ok (.iconst 0, 1) := by decide +kernel
theorem dX7_isNight_15 : decode cX7_isNight 15 = .ok (.ireturn, 1) := by decide +kernel
theorem dX7_isSpan_0 : decode cX7_isSpan 0 = .ok (.iload_n 0, 1) := by decide +kernel
theorem dX7_isSpan_1 : decode cX7_isSpan 1 = .ok (.invokestatic 123, 3) := by decide +kernel
theorem dX7_isSpan_4 : decode cX7_isSpan 4 = .ok (.ifCond .eq 19, 3) := by decide +kernel
theorem dX7_isSpan_7 : decode cX7_isSpan 7 = .ok (.iload_n 1, 1) := by decide +kernel
theorem dX7_isSpan_8 : decode cX7_isSpan 8 = .ok (.invokestatic 123, 3) := by decide +kernel
theorem dX7_isSpan_11 : decode cX7_isSpan 11 = .ok (.ifCond .eq 12, 3) := by decide +kernel
theorem dX7_isSpan_14 : decode cX7_isSpan 14 = .ok (.iload_n 0, 1) := by decide +kernel
theorem dX7_isSpan_15 : decode cX7_isSpan 15 = .ok (.iload_n 1, 1) := by decide +kernel
theorem dX7_isSpan_16 : decode cX7_isSpan 16 = .ok (.if_icmp .gt 7, 3) := by decide +kernel
theorem dX7_isSpan_19 : decode cX7_isSpan 19 = .ok (.iconst 1, 1) := by decide +kernel
theorem dX7_isSpan_20 : decode cX7_isSpan 20 = .ok (.goto 4, 3) := by decide +kernel
theorem dX7_isSpan_23 : decode cX7_isSpan 23 = .ok (.iconst 0, 1) := by decide +kernel
theorem dX7_isSpan_24 : decode cX7_isSpan 24 = .ok (.ireturn, 1) := by decide +kernel
theorem dX7_isKind_0 : decode cX7_isKind 0 = .ok (.iload_n 0, 1) := by decide +kernel
theorem dX7_isKind_1 : decode cX7_isKind 1 = .ok (.ifCond .lt 12, 3) := by decide +kernel
theorem dX7_isKind_4 : decode cX7_isKind 4 = .ok (.iload_n 0, 1) := by decide +kernel
theorem dX7_isKind_5 : decode cX7_isKind 5 = .ok (.iconst 5, 1) := by decide +kernel
theorem dX7_isKind_6 : decode cX7_isKind 6 = .ok (.if_icmp .ge 7, 3) := by decide +kernel
theorem dX7_isKind_9 : decode cX7_isKind 9 = .ok (.iconst 1, 1) := by decide +kernel
theorem dX7_isKind_10 : decode cX7_isKind 10 = .ok (.goto 4, 3) := by decide +kernel
theorem dX7_isKind_13 : decode cX7_isKind 13 = .ok (.iconst 0, 1) := by decide +kernel
theorem dX7_isKind_14 : decode cX7_isKind 14 = .ok (.ireturn, 1) := by decide +kernel
theorem dX7_ofTitle_0 : decode cX7_ofTitle 0 = .ok (.aload_n 0, 1) := by decide +kernel
theorem dX7_ofTitle_1 : decode cX7_ofTitle 1 = .ok (.getfield 19, 3) := by decide +kernel
theorem dX7_ofTitle_4 : decode cX7_ofTitle 4 = .ok (.getfield 28, 3) := by decide +kernel
theorem dX7_ofTitle_7 : decode cX7_ofTitle 7 = .ok (.iload_n 1, 1) := by decide +kernel
theorem dX7_ofTitle_8 : decode cX7_ofTitle 8 = .ok (.invokevirtual 114, 3) := by decide +kernel
theorem dX7_ofTitle_11 : decode cX7_ofTitle 11 = .ok (.astore_n 3, 1) := by decide +kernel
theorem dX7_ofTitle_12 : decode cX7_ofTitle 12 = .ok (.iload_n 2, 1) := by decide +kernel
theorem dX7_ofTitle_13 : decode cX7_ofTitle 13 = .ok (.tableswitch 101 0 7 #[47, 52, 57, 62, 67, 72, 77, 89], 47) := by decide +kernel
theorem dX7_ofTitle_60 : decode cX7_ofTitle 60 = .ok (.aload_n 3, 1) := by decide +kernel
theorem dX7_ofTitle_61 : decode cX7_ofTitle 61 = .ok (.getfield 156, 3) := by decide +kernel
theorem dX7_ofTitle_64 : decode cX7_ofTitle 64 = .ok (.ireturn, 1) := by decide +kernel
theorem dX7_ofTitle_65 : decode cX7_ofTitle 65 = .ok (.aload_n 3, 1) := by decide +kernel
theorem dX7_ofTitle_66 : decode cX7_ofTitle 66 = .ok (.getfield 217, 3) := by decide +kernel
theorem dX7_ofTitle_69 : decode cX7_ofTitle 69 = .ok (.ireturn, 1) := by decide +kernel
theorem dX7_ofTitle_70 : decode cX7_ofTitle 70 = .ok (.aload_n 3, 1) := by decide +kernel
theorem dX7_ofTitle_71 : decode cX7_ofTitle 71 = .ok (.getfield 220, 3) := by decide +kernel
theorem dX7_ofTitle_74 : decode cX7_ofTitle 74 = .ok (.ireturn, 1) := by decide +kernel
theorem dX7_ofTitle_75 : decode cX7_ofTitle 75 = .ok (.aload_n 3, 1) := by decide +kernel
theorem dX7_ofTitle_76 : decode cX7_ofTitle 76 = .ok (.getfield 150, 3) := by decide +kernel
theorem dX7_ofTitle_79 : decode cX7_ofTitle 79 = .ok (.ireturn, 1) := by decide +kernel
theorem dX7_ofTitle_80 : decode cX7_ofTitle 80 = .ok (.aload_n 3, 1) := by decide +kernel
theorem dX7_ofTitle_81 : decode cX7_ofTitle 81 = .ok (.getfield 153, 3) := by decide +kernel
theorem dX7_ofTitle_84 : decode cX7_ofTitle 84 = .ok (.ireturn, 1) := by decide +kernel
theorem dX7_ofTitle_85 : decode cX7_ofTitle 85 = .ok (.aload_n 3, 1) := by decide +kernel
theorem dX7_ofTitle_86 : decode cX7_ofTitle 86 = .ok (.getfield 223, 3) := by decide +kernel
theorem dX7_ofTitle_89 : decode cX7_ofTitle 89 = .ok (.ireturn, 1) := by decide +kernel
theorem dX7_ofTitle_90 : decode cX7_ofTitle 90 = .ok (.aload_n 0, 1) := by decide +kernel
theorem dX7_ofTitle_91 : decode cX7_ofTitle 91 = .ok (.getfield 19, 3) := by decide +kernel
theorem dX7_ofTitle_94 : decode cX7_ofTitle 94 = .ok (.getfield 70, 3) := by decide +kernel
theorem dX7_ofTitle_97 : decode cX7_ofTitle 97 = .ok (.iload_n 1, 1) := by decide +kernel
theorem dX7_ofTitle_98 : decode cX7_ofTitle 98 = .ok (.invokevirtual 226, 3) := by decide +kernel
theorem dX7_ofTitle_101 : decode cX7_ofTitle 101 = .ok (.ireturn, 1) := by decide +kernel
theorem dX7_ofTitle_102 : decode cX7_ofTitle 102 = .ok (.aload_n 0, 1) := by decide +kernel
theorem dX7_ofTitle_103 : decode cX7_ofTitle 103 = .ok (.getfield 19, 3) := by decide +kernel
theorem dX7_ofTitle_106 : decode cX7_ofTitle 106 = .ok (.getfield 76, 3) := by decide +kernel
theorem dX7_ofTitle_109 : decode cX7_ofTitle 109 = .ok (.iload_n 1, 1) := by decide +kernel
theorem dX7_ofTitle_110 : decode cX7_ofTitle 110 = .ok (.invokevirtual 229, 3) := by decide +kernel
theorem dX7_ofTitle_113 : decode cX7_ofTitle 113 = .ok (.ireturn, 1) := by decide +kernel
theorem dX7_ofTitle_114 : decode cX7_ofTitle 114 = .ok (.aload_n 0, 1) := by decide +kernel
theorem dX7_ofTitle_115 : decode cX7_ofTitle 115 = .ok (.getfield 19, 3) := by decide +kernel
theorem dX7_ofTitle_118 : decode cX7_ofTitle 118 = .ok (.getfield 76, 3) := by decide +kernel
theorem dX7_ofTitle_121 : decode cX7_ofTitle 121 = .ok (.iload_n 1, 1) := by decide +kernel
theorem dX7_ofTitle_122 : decode cX7_ofTitle 122 = .ok (.invokevirtual 229, 3) := by decide +kernel
theorem dX7_ofTitle_125 : decode cX7_ofTitle 125 = .ok (.invokestatic 232, 3) := by decide +kernel
theorem dX7_ofTitle_128 : decode cX7_ofTitle 128 = .ok (.ireturn, 1) := by decide +kernel
theorem dX7_ofNight_0 : decode cX7_ofNight 0 = .ok (.iload_n 2, 1) := by decide +kernel
theorem dX7_ofNight_1 : decode cX7_ofNight 1 = .ok (.ifCond .ne 16, 3) := by decide +kernel
theorem dX7_ofNight_4 : decode cX7_ofNight 4 = .ok (.aload_n 0, 1) := by decide +kernel
theorem dX7_ofNight_5 : decode cX7_ofNight 5 = .ok (.getfield 19, 3) := by decide +kernel
theorem dX7_ofNight_8 : decode cX7_ofNight 8 = .ok (.getfield 70, 3) := by decide +kernel
theorem dX7_ofNight_11 : decode cX7_ofNight 11 = .ok (.getfield 129, 3) := by decide +kernel
theorem dX7_ofNight_14 : decode cX7_ofNight 14 = .ok (.iload_n 1, 1) := by decide +kernel
theorem dX7_ofNight_15 : decode cX7_ofNight 15 = .ok (.iaload, 1) := by decide +kernel
theorem dX7_ofNight_16 : decode cX7_ofNight 16 = .ok (.ireturn, 1) := by decide +kernel
theorem dX7_ofNight_17 : decode cX7_ofNight 17 = .ok (.iload_n 2, 1) := by decide +kernel
theorem dX7_ofNight_18 : decode cX7_ofNight 18 = .ok (.iconst 1, 1) := by decide +kernel
theorem dX7_ofNight_19 : decode cX7_ofNight 19 = .ok (.if_icmp .ne 18, 3) := by decide +kernel
theorem dX7_ofNight_22 : decode cX7_ofNight 22 = .ok (.aload_n 0, 1) := by decide +kernel
theorem dX7_ofNight_23 : decode cX7_ofNight 23 = .ok (.getfield 19, 3) := by decide +kernel
theorem dX7_ofNight_26 : decode cX7_ofNight 26 = .ok (.getfield 70, 3) := by decide +kernel
theorem dX7_ofNight_29 : decode cX7_ofNight 29 = .ok (.getfield 235, 3) := by decide +kernel
theorem dX7_ofNight_32 : decode cX7_ofNight 32 = .ok (.iload_n 1, 1) := by decide +kernel
theorem dX7_ofNight_33 : decode cX7_ofNight 33 = .ok (.iaload, 1) := by decide +kernel
theorem dX7_ofNight_34 : decode cX7_ofNight 34 = .ok (.goto 15, 3) := by decide +kernel
theorem dX7_ofNight_37 : decode cX7_ofNight 37 = .ok (.aload_n 0, 1) := by decide +kernel
theorem dX7_ofNight_38 : decode cX7_ofNight 38 = .ok (.getfield 19, 3) := by decide +kernel
theorem dX7_ofNight_41 : decode cX7_ofNight 41 = .ok (.getfield 70, 3) := by decide +kernel
theorem dX7_ofNight_44 : decode cX7_ofNight 44 = .ok (.getfield 238, 3) := by decide +kernel
theorem dX7_ofNight_47 : decode cX7_ofNight 47 = .ok (.iload_n 1, 1) := by decide +kernel
theorem dX7_ofNight_48 : decode cX7_ofNight 48 = .ok (.iaload, 1) := by decide +kernel
theorem dX7_ofNight_49 : decode cX7_ofNight 49 = .ok (.ireturn, 1) := by decide +kernel
theorem dX7_kindsLeft_0 : decode cX7_kindsLeft 0 = .ok (.iload_n 1, 1) := by decide +kernel
theorem dX7_kindsLeft_1 : decode cX7_kindsLeft 1 = .ok (.ifCond .eq 11, 3) := by decide +kernel
theorem dX7_kindsLeft_4 : decode cX7_kindsLeft 4 = .ok (.getstatic 241, 3) := by decide +kernel
theorem dX7_kindsLeft_7 : decode cX7_kindsLeft 7 = .ok (.iload_n 0, 1) := by decide +kernel
theorem dX7_kindsLeft_8 : decode cX7_kindsLeft 8 = .ok (.iaload, 1) := by decide +kernel
theorem dX7_kindsLeft_9 : decode cX7_kindsLeft 9 = .ok (.goto 13, 3) := by decide +kernel
theorem dX7_kindsLeft_12 : decode cX7_kindsLeft 12 = .ok (.bipush 31, 2) := by decide +kernel
theorem dX7_kindsLeft_14 : decode cX7_kindsLeft 14 = .ok (.getstatic 241, 3) := by decide +kernel
theorem dX7_kindsLeft_17 : decode cX7_kindsLeft 17 = .ok (.iload_n 0, 1) := by decide +kernel
theorem dX7_kindsLeft_18 : decode cX7_kindsLeft 18 = .ok (.iaload, 1) := by decide +kernel
theorem dX7_kindsLeft_19 : decode cX7_kindsLeft 19 = .ok (.iconst (-1), 1) := by decide +kernel
theorem dX7_kindsLeft_20 : decode cX7_kindsLeft 20 = .ok (.ixor, 1) := by decide +kernel
theorem dX7_kindsLeft_21 : decode cX7_kindsLeft 21 = .ok (.iand, 1) := by decide +kernel
theorem dX7_kindsLeft_22 : decode cX7_kindsLeft 22 = .ok (.ireturn, 1) := by decide +kernel
theorem dX7_ask_0 : decode cX7_ask 0 = .ok (.iload_n 0, 1) := by decide +kernel
theorem dX7_ask_1 : decode cX7_ask 1 = .ok (.ifCond .ne 5, 3) := by decide +kernel
theorem dX7_ask_4 : decode cX7_ask 4 = .ok (.iconst (-1), 1) := by decide +kernel
theorem dX7_ask_5 : decode cX7_ask 5 = .ok (.ireturn, 1) := by decide +kernel
theorem dX7_ask_6 : decode cX7_ask 6 = .ok (.iconst (-1), 1) := by decide +kernel
theorem dX7_ask_7 : decode cX7_ask 7 = .ok (.istore_n 1, 1) := by decide +kernel
theorem dX7_ask_8 : decode cX7_ask 8 = .ok (.bipush 6, 2) := by decide +kernel
theorem dX7_ask_10 : decode cX7_ask 10 = .ok (.istore_n 2, 1) := by decide +kernel
theorem dX7_ask_11 : decode cX7_ask 11 = .ok (.iconst 0, 1) := by decide +kernel
theorem dX7_ask_12 : decode cX7_ask 12 = .ok (.istore_n 3, 1) := by decide +kernel
theorem dX7_ask_13 : decode cX7_ask 13 = .ok (.iload_n 3, 1) := by decide +kernel
theorem dX7_ask_14 : decode cX7_ask 14 = .ok (.iconst 4, 1) := by decide +kernel
theorem dX7_ask_15 : decode cX7_ask 15 = .ok (.if_icmp .ge 53, 3) := by decide +kernel
theorem dX7_ask_18 : decode cX7_ask 18 = .ok (.iload_n 0, 1) := by decide +kernel
theorem dX7_ask_19 : decode cX7_ask 19 = .ok (.iload_n 3, 1) := by decide +kernel
theorem dX7_ask_20 : decode cX7_ask 20 = .ok (.iconst 1, 1) := by decide +kernel
theorem dX7_ask_21 : decode cX7_ask 21 = .ok (.invokestatic 184, 3) := by decide +kernel
theorem dX7_ask_24 : decode cX7_ask 24 = .ok (.iand, 1) := by decide +kernel
theorem dX7_ask_25 : decode cX7_ask 25 = .ok (.invokestatic 244, 3) := by decide +kernel
theorem dX7_ask_28 : decode cX7_ask 28 = .ok (.istore 4, 2) := by decide +kernel
theorem dX7_ask_30 : decode cX7_ask 30 = .ok (.iload_n 0, 1) := by decide +kernel
theorem dX7_ask_31 : decode cX7_ask 31 = .ok (.iload_n 3, 1) := by decide +kernel
theorem dX7_ask_32 : decode cX7_ask 32 = .ok (.iconst 0, 1) := by decide +kernel
theorem dX7_ask_33 : decode cX7_ask 33 = .ok (.invokestatic 184, 3) := by decide +kernel
theorem dX7_ask_36 : decode cX7_ask 36 = .ok (.iand, 1) := by decide +kernel
theorem dX7_ask_37 : decode cX7_ask 37 = .ok (.invokestatic 244, 3) := by decide +kernel
theorem dX7_ask_40 : decode cX7_ask 40 = .ok (.istore 5, 2) := by decide +kernel
theorem dX7_ask_42 : decode cX7_ask 42 = .ok (.iload 4, 2) := by decide +kernel
theorem dX7_ask_44 : decode cX7_ask 44 = .ok (.iload 5, 2) := by decide +kernel
theorem dX7_ask_46 : decode cX7_ask 46 = .ok (.invokestatic 249, 3) := by decide +kernel
theorem dX7_ask_49 : decode cX7_ask 49 = .ok (.istore 6, 2) := by decide +kernel
theorem dX7_ask_51 : decode cX7_ask 51 = .ok (.iload 6, 2) := by decide +kernel
theorem dX7_ask_53 : decode cX7_ask 53 = .ok (.iload_n 2, 1) := by decide +kernel
theorem dX7_ask_54 : decode cX7_ask 54 = .ok (.if_icmp .ge 8, 3) := by decide +kernel
theorem dX7_ask_57 : decode cX7_ask 57 = .ok (.iload 6, 2) := by decide +kernel
theorem dX7_ask_59 : decode cX7_ask 59 = .ok (.istore_n 2, 1) := by decide +kernel
theorem dX7_ask_60 : decode cX7_ask 60 = .ok (.iload_n 3, 1) := by decide +kernel
theorem dX7_ask_61 : decode cX7_ask 61 = .ok (.istore_n 1, 1) := by decide +kernel
theorem dX7_ask_62 : decode cX7_ask 62 = .ok (.iinc 3 1, 3) := by decide +kernel
theorem dX7_ask_65 : decode cX7_ask 65 = .ok (.goto (-52), 3) := by decide +kernel
theorem dX7_ask_68 : decode cX7_ask 68 = .ok (.iload_n 1, 1) := by decide +kernel
theorem dX7_ask_69 : decode cX7_ask 69 = .ok (.ireturn, 1) := by decide +kernel
theorem dX8_init_0 : decode cX8_init 0 = .ok (.aload_n 0, 1) := by decide +kernel
theorem dX8_init_1 : decode cX8_init 1 = .ok (.invokespecial 1, 3) := by decide +kernel
theorem dX8_init_4 : decode cX8_init 4 = .ok (.aload_n 0, 1) := by decide +kernel
theorem dX8_init_5 : decode cX8_init 5 = .ok (.iconst 5, 1) := by decide +kernel
theorem dX8_init_6 : decode cX8_init 6 = .ok (.newarray .int, 2) := by decide +kernel
theorem dX8_init_8 : decode cX8_init 8 = .ok (.putfield 7, 3) := by decide +kernel
theorem dX8_init_11 : decode cX8_init 11 = .ok (.aload_n 0, 1) := by decide +kernel
theorem dX8_init_12 : decode cX8_init 12 = .ok (.iconst 5, 1) := by decide +kernel
theorem dX8_init_13 : decode cX8_init 13 = .ok (.newarray .int, 2) := by decide +kernel
theorem dX8_init_15 : decode cX8_init 15 = .ok (.putfield 13, 3) := by decide +kernel
theorem dX8_init_18 : decode cX8_init 18 = .ok (.aload_n 0, 1) := by decide +kernel
theorem dX8_init_19 : decode cX8_init 19 = .ok (.iconst 5, 1) := by decide +kernel
theorem dX8_init_20 : decode cX8_init 20 = .ok (.newarray .int, 2) := by decide +kernel
theorem dX8_init_22 : decode cX8_init 22 = .ok (.putfield 16, 3) := by decide +kernel
theorem dX8_init_25 : decode cX8_init 25 = .ok (.aload_n 0, 1) := by decide +kernel
theorem dX8_init_26 : decode cX8_init 26 = .ok (.iconst 5, 1) := by decide +kernel
theorem dX8_init_27 : decode cX8_init 27 = .ok (.newarray .int, 2) := by decide +kernel
theorem dX8_init_29 : decode cX8_init 29 = .ok (.putfield 19, 3) := by decide +kernel
theorem dX8_init_32 : decode cX8_init 32 = .ok (.aload_n 0, 1) := by decide +kernel
theorem dX8_init_33 : decode cX8_init 33 = .ok (.iconst 5, 1) := by decide +kernel
theorem dX8_init_34 : decode cX8_init 34 = .ok (.newarray .int, 2) := by decide +kernel
theorem dX8_init_36 : decode cX8_init 36 = .ok (.putfield 22, 3) := by decide +kernel
theorem dX8_init_39 : decode cX8_init 39 = .ok (.aload_n 0, 1) := by decide +kernel
theorem dX8_init_40 : decode cX8_init 40 = .ok (.iconst 5, 1) := by decide +kernel
theorem dX8_init_41 : decode cX8_init 41 = .ok (.newarray .int, 2) := by decide +kernel
theorem dX8_init_43 : decode cX8_init 43 = .ok (.putfield 25, 3) := by decide +kernel
theorem dX8_init_46 : decode cX8_init 46 = .ok (.aload_n 0, 1) := by decide +kernel
theorem dX8_init_47 : decode cX8_init 47 = .ok (.bipush 12, 2) := by decide +kernel
theorem dX8_init_49 : decode cX8_init 49 = .ok (.newarray .int, 2) := by decide +kernel
theorem dX8_init_51 : decode cX8_init 51 = .ok (.putfield 28, 3) := by decide +kernel
theorem dX8_init_54 : decode cX8_init 54 = .ok (.aload_n 0, 1) := by decide +kernel
theorem dX8_init_55 : decode cX8_init 55 = .ok (.bipush 6, 2) := by decide +kernel
theorem dX8_init_57 : decode cX8_init 57 = .ok (.newarray .int, 2) := by decide +kernel
theorem dX8_init_59 : decode cX8_init 59 = .ok (.putfield 31, 3) := by decide +kernel
theorem dX8_init_62 : decode cX8_init 62 = .ok (.aload_n 0, 1) := by decide +kernel
theorem dX8_init_63 : decode cX8_init 63 = .ok (.bipush 6, 2) := by decide +kernel
theorem dX8_init_65 : decode cX8_init 65 = .ok (.newarray .int, 2) := by decide +kernel
theorem dX8_init_67 : decode cX8_init 67 = .ok (.putfield 34, 3) := by decide +kernel
theorem dX8_init_70 : decode cX8_init 70 = .ok (.aload_n 0, 1) := by decide +kernel
theorem dX8_init_71 : decode cX8_init 71 = .ok (.bipush 6, 2) := by decide +kernel
theorem dX8_init_73 : decode cX8_init 73 = .ok (.newarray .int, 2) := by decide +kernel
theorem dX8_init_75 : decode cX8_init 75 = .ok (.putfield 37, 3) := by decide +kernel
theorem dX8_init_78 : decode cX8_init 78 = .ok (.aload_n 0, 1) := by decide +kernel
theorem dX8_init_79 : decode cX8_init 79 = .ok (.bipush 40, 2) := by decide +kernel
theorem dX8_init_81 : decode cX8_init 81 = .ok (.newarray .byte, 2) := by decide +kernel
theorem dX8_init_83 : decode cX8_init 83 = .ok (.putfield 40, 3) := by decide +kernel
theorem dX8_init_86 : decode cX8_init 86 = .ok (.aload_n 0, 1) := by decide +kernel
theorem dX8_init_87 : decode cX8_init 87 = .ok (.bipush 30, 2) := by decide +kernel
theorem dX8_init_89 : decode cX8_init 89 = .ok (.newarray .int, 2) := by decide +kernel
theorem dX8_init_91 : decode cX8_init 91 = .ok (.putfield 44, 3) := by decide +kernel
theorem dX8_init_94 : decode cX8_init 94 = .ok (.aload_n 0, 1) := by decide +kernel
theorem dX8_init_95 : decode cX8_init 95 = .ok (.iconst 4, 1) := by decide +kernel
theorem dX8_init_96 : decode cX8_init 96 = .ok (.newarray .int, 2) := by decide +kernel
theorem dX8_init_98 : decode cX8_init 98 = .ok (.putfield 47, 3) := by decide +kernel
theorem dX8_init_101 : decode cX8_init 101 = .ok (.aload_n 0, 1) := by decide +kernel
theorem dX8_init_102 : decode cX8_init 102 = .ok (.bipush 12, 2) := by decide +kernel
theorem dX8_init_104 : decode cX8_init 104 = .ok (.newarray .int, 2) := by decide +kernel
theorem dX8_init_106 : decode cX8_init 106 = .ok (.putfield 50, 3) := by decide +kernel
theorem dX8_init_109 : decode cX8_init 109 = .ok (.aload_n 0, 1) := by decide +kernel
theorem dX8_init_110 : decode cX8_init 110 = .ok (.iconst 5, 1) := by decide +kernel
theorem dX8_init_111 : decode cX8_init 111 = .ok (.newarray .int, 2) := by decide +kernel
theorem dX8_init_113 : decode cX8_init 113 = .ok (.putfield 53, 3) := by decide +kernel
theorem dX8_init_116 : decode cX8_init 116 = .ok (.aload_n 0, 1) := by decide +kernel
theorem dX8_init_117 : decode cX8_init 117 = .ok (.iconst 5, 1) := by decide +kernel
theorem dX8_init_118 : decode cX8_init 118 = .ok (.newarray .int, 2) := by decide +kernel
theorem dX8_init_120 : decode cX8_init 120 = .ok (.putfield 56, 3) := by decide +kernel
theorem dX8_init_123 : decode cX8_init 123 = .ok (.aload_n 0, 1) := by decide +kernel
theorem dX8_init_124 : decode cX8_init 124 = .ok (.iconst 5, 1) := by decide +kernel
theorem dX8_init_125 : decode cX8_init 125 = .ok (.newarray .int, 2) := by decide +kernel
theorem dX8_init_127 : decode cX8_init 127 = .ok (.putfield 59, 3) := by decide +kernel
theorem dX8_init_130 : decode cX8_init 130 = .ok (.aload_n 0, 1) := by decide +kernel
theorem dX8_init_131 : decode cX8_init 131 = .ok (.iconst 5, 1) := by decide +kernel
theorem dX8_init_132 : decode cX8_init 132 = .ok (.newarray .int, 2) := by decide +kernel
theorem dX8_init_134 : decode cX8_init 134 = .ok (.putfield 62, 3) := by decide +kernel
theorem dX8_init_137 : decode cX8_init 137 = .ok (.aload_n 0, 1) := by decide +kernel
theorem dX8_init_138 : decode cX8_init 138 = .ok (.iconst 5, 1) := by decide +kernel
theorem dX8_init_139 : decode cX8_init 139 = .ok (.newarray .int, 2) := by decide +kernel
theorem dX8_init_141 : decode cX8_init 141 = .ok (.putfield 65, 3) := by decide +kernel
theorem dX8_init_144 : decode cX8_init 144 = .ok (.aload_n 0, 1) := by decide +kernel
theorem dX8_init_145 : decode cX8_init 145 = .ok (.iconst 5, 1) := by decide +kernel
theorem dX8_init_146 : decode cX8_init 146 = .ok (.newarray .int, 2) := by decide +kernel
theorem dX8_init_148 : decode cX8_init 148 = .ok (.putfield 68, 3) := by decide +kernel
theorem dX8_init_151 : decode cX8_init 151 = .ok (.aload_n 0, 1) := by decide +kernel
theorem dX8_init_152 : decode cX8_init 152 = .ok (.bipush 12, 2) := by decide +kernel
theorem dX8_init_154 : decode cX8_init 154 = .ok (.newarray .int, 2) := by decide +kernel
theorem dX8_init_156 : decode cX8_init 156 = .ok (.putfield 71, 3) := by decide +kernel
theorem dX8_init_159 : decode cX8_init 159 = .ok (.aload_n 0, 1) := by decide +kernel
theorem dX8_init_160 : decode cX8_init 160 = .ok (.bipush 6, 2) := by decide +kernel
theorem dX8_init_162 : decode cX8_init 162 = .ok (.newarray .int, 2) := by decide +kernel
theorem dX8_init_164 : decode cX8_init 164 = .ok (.putfield 74, 3) := by decide +kernel
theorem dX8_init_167 : decode cX8_init 167 = .ok (.aload_n 0, 1) := by decide +kernel
theorem dX8_init_168 : decode cX8_init 168 = .ok (.bipush 6, 2) := by decide +kernel
theorem dX8_init_170 : decode cX8_init 170 = .ok (.newarray .int, 2) := by decide +kernel
theorem dX8_init_172 : decode cX8_init 172 = .ok (.putfield 77, 3) := by decide +kernel
theorem dX8_init_175 : decode cX8_init 175 = .ok (.aload_n 0, 1) := by decide +kernel
theorem dX8_init_176 : decode cX8_init 176 = .ok (.bipush 6, 2) := by decide +kernel
theorem dX8_init_178 : decode cX8_init 178 = .ok (.newarray .int, 2) := by decide +kernel
theorem dX8_init_180 : decode cX8_init 180 = .ok (.putfield 80, 3) := by decide +kernel
theorem dX8_init_183 : decode cX8_init 183 = .ok (.aload_n 0, 1) := by decide +kernel
theorem dX8_init_184 : decode cX8_init 184 = .ok (.invokevirtual 83, 3) := by decide +kernel
theorem dX8_init_187 : decode cX8_init 187 = .ok (.return_, 1) := by decide +kernel
theorem dX8_within_0 : decode cX8_within 0 = .ok (.iload_n 0, 1) := by decide +kernel
theorem dX8_within_1 : decode cX8_within 1 = .ok (.iload_n 1, 1) := by decide +kernel
theorem dX8_within_2 : decode cX8_within 2 = .ok (.if_icmp .lt 12, 3) := by decide +kernel
theorem dX8_within_5 : decode cX8_within 5 = .ok (.iload_n 0, 1) := by decide +kernel
theorem dX8_within_6 : decode cX8_within 6 = .ok (.iload_n 2, 1) := by decide +kernel
theorem dX8_within_7 : decode cX8_within 7 = .ok (.if_icmp .gt 7, 3) := by decide +kernel
theorem dX8_within_10 : decode cX8_within 10 = .ok (.iconst 1, 1) := by decide +kernel
theorem dX8_within_11 : decode cX8_within 11 = .ok (.goto 4, 3) := by decide +kernel
theorem dX8_within_14 : decode cX8_within 14 = .ok (.iconst 0, 1) := by decide +kernel
theorem dX8_within_15 : decode cX8_within 15 = .ok (.ireturn, 1) := by decide +kernel
theorem dX8_isIn_0 : decode cX8_isIn 0 = .ok (.iload_n 0, 1) := by decide +kernel
theorem dX8_isIn_1 : decode cX8_isIn 1 = .ok (.iload_n 1, 1) := by decide +kernel
theorem dX8_isIn_2 : decode cX8_isIn 2 = .ok (.ishr, 1) := by decide +kernel
theorem dX8_isIn_3 : decode cX8_isIn 3 = .ok (.iconst 1, 1) := by decide +kernel
theorem dX8_isIn_4 : decode cX8_isIn 4 = .ok (.iand, 1) := by decide +kernel
theorem dX8_isIn_5 : decode cX8_isIn 5 = .ok (.iconst 1, 1) := by decide +kernel
theorem dX8_isIn_6 : decode cX8_isIn 6 = .ok (.if_icmp .ne 7, 3) := by decide +kernel
theorem dX8_isIn_9 : decode cX8_isIn 9 = .ok (.iconst 1, 1) := by decide +kernel
theorem dX8_isIn_10 : decode cX8_isIn 10 = .ok (.goto 4, 3) := by decide +kernel
theorem dX8_isIn_13 : decode cX8_isIn 13 = .ok (.iconst 0, 1) := by decide +kernel
theorem dX8_isIn_14 : decode cX8_isIn 14 = .ok (.ireturn, 1) := by decide +kernel
theorem dX8_size_0 : decode cX8_size 0 = .ok (.iconst 0, 1) := by decide +kernel
theorem dX8_size_1 : decode cX8_size 1 = .ok (.istore_n 1, 1) := by decide +kernel
theorem dX8_size_2 : decode cX8_size 2 = .ok (.iconst 0, 1) := by decide +kernel
theorem dX8_size_3 : decode cX8_size 3 = .ok (.istore_n 2, 1) := by decide +kernel
theorem dX8_size_4 : decode cX8_size 4 = .ok (.iload_n 2, 1) := by decide +kernel
theorem dX8_size_5 : decode cX8_size 5 = .ok (.bipush 16, 2) := by decide +kernel
theorem dX8_size_7 : decode cX8_size 7 = .ok (.if_icmp .ge 17, 3) := by decide +kernel
theorem dX8_size_10 : decode cX8_size 10 = .ok (.iload_n 1, 1) := by decide +kernel
theorem dX8_size_11 : decode cX8_size 11 = .ok (.iload_n 0, 1) := by decide +kernel
theorem dX8_size_12 : decode cX8_size 12 = .ok (.iload_n 2, 1) := by decide +kernel
theorem dX8_size_13 : decode cX8_size 13 = .ok (.ishr, 1) := by decide +kernel
theorem dX8_size_14 : decode cX8_size 14 = .ok (.iconst 1, 1) := by decide +kernel
theorem dX8_size_15 : decode cX8_size 15 = .ok (.iand, 1) := by decide +kernel
theorem dX8_size_16 : decode cX8_size 16 = .ok (.iadd, 1) := by decide +kernel
theorem dX8_size_17 : decode cX8_size 17 = .ok (.istore_n 1, 1) := by decide +kernel
theorem dX8_size_18 : decode cX8_size 18 = .ok (.iinc 2 1, 3) := by decide +kernel
theorem dX8_size_21 : decode cX8_size 21 = .ok (.goto (-17), 3) := by decide +kernel
theorem dX8_size_24 : decode cX8_size 24 = .ok (.iload_n 1, 1) := by decide +kernel
theorem dX8_size_25 : decode cX8_size 25 = .ok (.ireturn, 1) := by decide +kernel
theorem dX8_darken_0 : decode cX8_darken 0 = .ok (.iconst 0, 1) := by decide +kernel
theorem dX8_darken_1 : decode cX8_darken 1 = .ok (.istore_n 1, 1) := by decide +kernel
theorem dX8_darken_2 : decode cX8_darken 2 = .ok (.iload_n 1, 1) := by decide +kernel
theorem dX8_darken_3 : decode cX8_darken 3 = .ok (.bipush 12, 2) := by decide +kernel
theorem dX8_darken_5 : decode cX8_darken 5 = .ok (.if_icmp .ge 16, 3) := by decide +kernel
theorem dX8_darken_8 : decode cX8_darken 8 = .ok (.aload_n 0, 1) := by decide +kernel
theorem dX8_darken_9 : decode cX8_darken 9 = .ok (.getfield 28, 3) := by decide +kernel
theorem dX8_darken_12 : decode cX8_darken 12 = .ok (.iload_n 1, 1) := by decide +kernel
theorem dX8_darken_13 : decode cX8_darken 13 = .ok (.iconst (-1), 1) := by decide +kernel
theorem dX8_darken_14 : decode cX8_darken 14 = .ok (.iastore, 1) := by decide +kernel
theorem dX8_darken_15 : decode cX8_darken 15 = .ok (.iinc 1 1, 3) := by decide +kernel
theorem dX8_darken_18 : decode cX8_darken 18 = .ok (.goto (-16), 3) := by decide +kernel
theorem dX8_darken_21 : decode cX8_darken 21 = .ok (.return_, 1) := by decide +kernel
theorem dX8_letter_0 : decode cX8_letter 0 = .ok (.iload_n 1, 1) := by decide +kernel
theorem dX8_letter_1 : decode cX8_letter 1 = .ok (.bipush 32, 2) := by decide +kernel
theorem dX8_letter_3 : decode cX8_letter 3 = .ok (.bipush 126, 2) := by decide +kernel
theorem dX8_letter_5 : decode cX8_letter 5 = .ok (.invokestatic 86, 3) := by decide +kernel
theorem dX8_letter_8 : decode cX8_letter 8 = .ok (.ifCond .ne 6, 3) := by decide +kernel
theorem dX8_letter_11 : decode cX8_letter 11 = .ok (.bipush (-102), 2) := by decide +kernel
theorem dX8_letter_13 : decode cX8_letter 13 = .ok (.ireturn, 1) := by decide +kernel
theorem dX8_letter_14 : decode cX8_letter 14 = .ok (.aload_n 0, 1) := by decide +kernel
theorem dX8_letter_15 : decode cX8_letter 15 = .ok (.getfield 90, 3) := by decide +kernel
theorem dX8_letter_18 : decode cX8_letter 18 = .ok (.bipush 40, 2) := by decide +kernel
theorem dX8_letter_20 : decode cX8_letter 20 = .ok (.if_icmp .ne 6, 3) := by decide +kernel
theorem dX8_letter_23 : decode cX8_letter 23 = .ok (.bipush (-104), 2) := by decide +kernel
theorem dX8_letter_25 : decode cX8_letter 25 = .ok (.ireturn, 1) := by decide +kernel
theorem dX8_letter_26 : decode cX8_letter 26 = .ok (.aload_n 0, 1) := by decide +kernel
theorem dX8_letter_27 : decode cX8_letter 27 = .ok (.getfield 40, 3) := by decide +kernel
theorem dX8_letter_30 : decode cX8_letter 30 = .ok (.aload_n 0, 1) := by decide +kernel
theorem dX8_letter_31 : decode cX8_letter 31 = .ok (.getfield 90, 3) := by decide +kernel
theorem dX8_letter_34 : decode cX8_letter 34 = .ok (.iload_n 1, 1) := by decide +kernel
theorem dX8_letter_35 : decode cX8_letter 35 = .ok (.i2b, 1) := by decide +kernel
theorem dX8_letter_36 : decode cX8_letter 36 = .ok (.bastore, 1) := by decide +kernel
theorem dX8_letter_37 : decode cX8_letter 37 = .ok (.aload_n 0, 1) := by decide +kernel
theorem dX8_letter_38 : decode cX8_letter 38 = .ok (.dup, 1) := by decide +kernel
theorem dX8_letter_39 : decode cX8_letter 39 = .ok (.getfield 90, 3) := by decide +kernel
theorem dX8_letter_42 : decode cX8_letter 42 = .ok (.iconst 1, 1) := by decide +kernel
theorem dX8_letter_43 : decode cX8_letter 43 = .ok (.iadd, 1) := by decide +kernel
theorem dX8_letter_44 : decode cX8_letter 44 = .ok (.putfield 90, 3) := by decide +kernel
theorem dX8_letter_47 : decode cX8_letter 47 = .ok (.aload_n 0, 1) := by decide +kernel
theorem dX8_letter_48 : decode cX8_letter 48 = .ok (.getfield 90, 3) := by decide +kernel
theorem dX8_letter_51 : decode cX8_letter 51 = .ok (.ireturn, 1) := by decide +kernel
theorem dX8_blank_0 : decode cX8_blank 0 = .ok (.aload_n 0, 1) := by decide +kernel
theorem dX8_blank_1 : decode cX8_blank 1 = .ok (.getfield 90, 3) := by decide +kernel
theorem dX8_blank_4 : decode cX8_blank 4 = .ok (.istore_n 1, 1) := by decide +kernel
theorem dX8_blank_5 : decode cX8_blank 5 = .ok (.aload_n 0, 1) := by decide +kernel
theorem dX8_blank_6 : decode cX8_blank 6 = .ok (.iconst 0, 1) := by decide +kernel
theorem dX8_blank_7 : decode cX8_blank 7 = .ok (.putfield 90, 3) := by decide +kernel
theorem dX8_blank_10 : decode cX8_blank 10 = .ok (.iload_n 1, 1) := by decide +kernel
theorem dX8_blank_11 : decode cX8_blank 11 = .ok (.ireturn, 1) := by decide +kernel
theorem dX8_kindBy_0 : decode cX8_kindBy 0 = .ok (.iload_n 0, 1) := by decide +kernel
theorem dX8_kindBy_1 : decode cX8_kindBy 1 = .ok (.lookupswitch 61 #[(100, 59), (102, 55), (103, 53), (114, 57), (116, 51)], 51) := by decide +kernel
theorem dX8_kindBy_52 : decode cX8_kindBy 52 = .ok (.iconst 0, 1) := by decide +kernel
theorem dX8_kindBy_53 : decode cX8_kindBy 53 = .ok (.ireturn, 1) := by decide +kernel
theorem dX8_kindBy_54 : decode cX8_kindBy 54 = .ok (.iconst 1, 1) := by decide +kernel
theorem dX8_kindBy_55 : decode cX8_kindBy 55 = .ok (.ireturn, 1) := by decide +kernel
theorem dX8_kindBy_56 : decode cX8_kindBy 56 = .ok (.iconst 2, 1) := by decide +kernel
theorem dX8_kindBy_57 : decode cX8_kindBy 57 = .ok (.ireturn, 1) := by decide +kernel
theorem dX8_kindBy_58 : decode cX8_kindBy 58 = .ok (.iconst 3, 1) := by decide +kernel
theorem dX8_kindBy_59 : decode cX8_kindBy 59 = .ok (.ireturn, 1) := by decide +kernel
theorem dX8_kindBy_60 : decode cX8_kindBy 60 = .ok (.iconst 4, 1) := by decide +kernel
theorem dX8_kindBy_61 : decode cX8_kindBy 61 = .ok (.ireturn, 1) := by decide +kernel
theorem dX8_kindBy_62 : decode cX8_kindBy 62 = .ok (.iconst (-1), 1) := by decide +kernel
theorem dX8_kindBy_63 : decode cX8_kindBy 63 = .ok (.ireturn, 1) := by decide +kernel
theorem dX8_at_0 : decode cX8_at 0 = .ok (.iload_n 1, 1) := by decide +kernel
theorem dX8_at_1 : decode cX8_at 1 = .ok (.aload_n 0, 1) := by decide +kernel
theorem dX8_at_2 : decode cX8_at 2 = .ok (.getfield 90, 3) := by decide +kernel
theorem dX8_at_5 : decode cX8_at 5 = .ok (.if_icmp .ge 12, 3) := by decide +kernel
theorem dX8_at_8 : decode cX8_at 8 = .ok (.aload_n 0, 1) := by decide +kernel
theorem dX8_at_9 : decode cX8_at 9 = .ok (.getfield 40, 3) := by decide +kernel
theorem dX8_at_12 : decode cX8_at 12 = .ok (.iload_n 1, 1) := by decide +kernel
theorem dX8_at_13 : decode cX8_at 13 = .ok (.baload, 1) := by decide +kernel
theorem dX8_at_14 : decode cX8_at 14 = .ok (.goto 4, 3) := by decide +kernel
theorem dX8_at_17 : decode cX8_at 17 = .ok (.iconst 0, 1) := by decide +kernel
theorem dX8_at_18 : decode cX8_at 18 = .ok (.ireturn, 1) := by decide +kernel
theorem dX8_least_0 : decode cX8_least 0 = .ok (.iload_n 1, 1) := by decide +kernel
theorem dX8_least_1 : decode cX8_least 1 = .ok (.tableswitch 55 1 4 #[31, 31, 34, 37], 31) := by decide +kernel
theorem dX8_least_32 : decode cX8_least 32 = .ok (.bipush 48, 2) := by decide +kernel
theorem dX8_least_34 : decode cX8_least 34 = .ok (.ireturn, 1) := by decide +kernel
theorem dX8_least_35 : decode cX8_least 35 = .ok (.bipush 97, 2) := by decide +kernel
theorem dX8_least_37 : decode cX8_least 37 = .ok (.ireturn, 1) := by decide +kernel
theorem dX8_least_38 : decode cX8_least 38 = .ok (.bipush 97, 2) := by decide +kernel
theorem dX8_least_40 : decode cX8_least 40 = .ok (.aload_n 0, 1) := by decide +kernel
theorem dX8_least_41 : decode cX8_least 41 = .ok (.getfield 44, 3) := by decide +kernel
theorem dX8_least_44 : decode cX8_least 44 = .ok (.bipush 6, 2) := by decide +kernel
theorem dX8_least_46 : decode cX8_least 46 = .ok (.aload_n 0, 1) := by decide +kernel
theorem dX8_least_47 : decode cX8_least 47 = .ok (.getfield 94, 3) := by decide +kernel
theorem dX8_least_50 : decode cX8_least 50 = .ok (.imul, 1) := by decide +kernel
theorem dX8_least_51 : decode cX8_least 51 = .ok (.iconst 3, 1) := by decide +kernel
theorem dX8_least_52 : decode cX8_least 52 = .ok (.iadd, 1) := by decide +kernel
theorem dX8_least_53 : decode cX8_least 53 = .ok (.iaload, 1) := by decide +kernel
theorem dX8_least_54 : decode cX8_least 54 = .ok (.iadd, 1) := by decide +kernel
theorem dX8_least_55 : decode cX8_least 55 = .ok (.ireturn, 1) := by decide +kernel
theorem dX8_least_56 : decode cX8_least 56 = .ok (.bipush 49, 2) := by decide +kernel
theorem dX8_least_58 : decode cX8_least 58 = .ok (.ireturn, 1) := by decide +kernel
theorem dX8_most_0 : decode cX8_most 0 = .ok (.iload_n 0, 1) := by decide +kernel
theorem dX8_most_1 : decode cX8_most 1 = .ok (.iconst 3, 1) := by decide +kernel
theorem dX8_most_2 : decode cX8_most 2 = .ok (.if_icmp .ge 8, 3) := by decide +kernel
theorem dX8_most_5 : decode cX8_most 5 = .ok (.bipush 52, 2) := by decide +kernel
theorem dX8_most_7 : decode cX8_most 7 = .ok (.goto 15, 3) := by decide +kernel
theorem dX8_most_10 : decode cX8_most 10 = .ok (.iload_n 0, 1) := by decide +kernel
theorem dX8_most_11 : decode cX8_most 11 = .ok (.iconst 5, 1) := by decide +kernel
theorem dX8_most_12 : decode cX8_most 12 = .ok (.if_icmp .ge 8, 3) := by decide +kernel
theorem dX8_most_15 : decode cX8_most 15 = .ok (.bipush 108, 2) := by decide +kernel
theorem dX8_most_17 : decode cX8_most 17 = .ok (.goto 5, 3) := by decide +kernel
theorem dX8_most_20 : decode cX8_most 20 = .ok (.bipush 57, 2) := by decide +kernel
theorem dX8_most_22 : decode cX8_most 22 = .ok (.ireturn, 1) := by decide +kernel
theorem dX8_readTitle_0 : decode cX8_readTitle 0 = .ok (.aload_n 0, 1) := by decide +kernel
theorem dX8_readTitle_1 : decode cX8_readTitle 1 = .ok (.getfield 44, 3) := by decide +kernel
theorem dX8_readTitle_4 : decode cX8_readTitle 4 = .ok (.bipush 6, 2) := by decide +kernel
theorem dX8_readTitle_6 : decode cX8_readTitle 6 = .ok (.aload_n 0, 1) := by decide +kernel
theorem dX8_readTitle_7 : decode cX8_readTitle 7 = .ok (.getfield 94, 3) := by decide +kernel
theorem dX8_readTitle_10 : decode cX8_readTitle 10 = .ok (.imul, 1) := by decide +kernel
theorem dX8_readTitle_11 : decode cX8_readTitle 11 = .ok (.aload_n 0, 1) := by decide +kernel
theorem dX8_readTitle_12 : decode cX8_readTitle 12 = .ok (.iload_n 1, 1) := by decide +kernel
theorem dX8_readTitle_13 : decode cX8_readTitle 13 = .ok (.invokevirtual 97, 3) := by decide +kernel
theorem dX8_readTitle_16 : decode cX8_readTitle 16 = .ok (.invokestatic 101, 3) := by decide +kernel
theorem dX8_readTitle_19 : decode cX8_readTitle 19 = .ok (.iastore, 1) := by decide +kernel
theorem dX8_readTitle_20 : decode cX8_readTitle 20 = .ok (.aload_n 0, 1) := by decide +kernel
theorem dX8_readTitle_21 : decode cX8_readTitle 21 = .ok (.getfield 44, 3) := by decide +kernel
theorem dX8_readTitle_24 : decode cX8_readTitle 24 = .ok (.bipush 6, 2) := by decide +kernel
theorem dX8_readTitle_26 : decode cX8_readTitle 26 = .ok (.aload_n 0, 1) := by decide +kernel
theorem dX8_readTitle_27 : decode cX8_readTitle 27 = .ok (.getfield 94, 3) := by decide +kernel
theorem dX8_readTitle_30 : decode cX8_readTitle 30 = .ok (.imul, 1) := by decide +kernel
theorem dX8_readTitle_31 : decode cX8_readTitle 31 = .ok (.iaload, 1) := by decide +kernel
theorem dX8_readTitle_32 : decode cX8_readTitle 32 = .ok (.iconst (-1), 1) := by decide +kernel
theorem dX8_readTitle_33 : decode cX8_readTitle 33 = .ok (.if_icmp .ne 10, 3) := by decide +kernel
theorem dX8_readTitle_36 : decode cX8_readTitle 36 = .ok (.aload_n 0, 1) := by decide +kernel
theorem dX8_readTitle_37 : decode cX8_readTitle 37 = .ok (.iconst 1, 1) := by decide +kernel
theorem dX8_readTitle_38 : decode cX8_readTitle 38 = .ok (.putfield 104, 3) := by decide +kernel
theorem dX8_readTitle_41 : decode cX8_readTitle 41 = .ok (.iload_n 1, 1) := by decide +kernel
theorem dX8_readTitle_42 : decode cX8_readTitle 42 = .ok (.ireturn, 1) := by decide +kernel
theorem dX8_readTitle_43 : decode cX8_readTitle 43 = .ok (.iconst 1, 1) := by decide +kernel
theorem dX8_readTitle_44 : decode cX8_readTitle 44 = .ok (.istore_n 2, 1) := by decide +kernel
theorem dX8_readTitle_45 : decode cX8_readTitle 45 = .ok (.iload_n 2, 1) := by decide +kernel
theorem dX8_readTitle_46 : decode cX8_readTitle 46 = .ok (.bipush 6, 2) := by decide +kernel
theorem dX8_readTitle_48 : decode cX8_readTitle 48 = .ok (.if_icmp .ge 77, 3) := by decide +kernel
theorem dX8_readTitle_51 : decode cX8_readTitle 51 = .ok (.aload_n 0, 1) := by decide +kernel
theorem dX8_readTitle_52 : decode cX8_readTitle 52 = .ok (.iload_n 1, 1) := by decide +kernel
theorem dX8_readTitle_53 : decode cX8_readTitle 53 = .ok (.iload_n 2, 1) := by decide +kernel
theorem dX8_readTitle_54 : decode cX8_readTitle 54 = .ok (.iadd, 1) := by decide +kernel
theorem dX8_readTitle_55 : decode cX8_readTitle 55 = .ok (.invokevirtual 97, 3) := by decide +kernel
theorem dX8_readTitle_58 : decode cX8_readTitle 58 = .ok (.istore_n 3, 1) := by decide +kernel
theorem dX8_readTitle_59 : decode cX8_readTitle 59 = .ok (.iload_n 3, 1) := by decide +kernel
theorem dX8_readTitle_60 : decode cX8_readTitle 60 = .ok (.aload_n 0, 1) := by decide +kernel
theorem dX8_readTitle_61 : decode cX8_readTitle 61 = .ok (.iload_n 2, 1) := by decide +kernel
theorem dX8_readTitle_62 : decode cX8_readTitle 62 = .ok (.invokevirtual 108, 3) := by decide +kernel
theorem dX8_readTitle_65 : decode cX8_readTitle 65 = .ok (.iload_n 2, 1) := by decide +kernel
theorem dX8_readTitle_66 : decode cX8_readTitle 66 = .ok (.invokestatic 111, 3) := by decide +kernel
theorem dX8_readTitle_69 : decode cX8_readTitle 69 = .ok (.invokestatic 86, 3) := by decide +kernel
theorem dX8_readTitle_72 : decode cX8_readTitle 72 = .ok (.ifCond .ne 12, 3) := by decide +kernel
theorem dX8_readTitle_75 : decode cX8_readTitle 75 = .ok (.aload_n 0, 1) := by decide +kernel
theorem dX8_readTitle_76 : decode cX8_readTitle 76 = .ok (.iconst 1, 1) := by decide +kernel
theorem dX8_readTitle_77 : decode cX8_readTitle 77 = .ok (.putfield 104, 3) := by decide +kernel
theorem dX8_readTitle_80 : decode cX8_readTitle 80 = .ok (.iload_n 1, 1) := by decide +kernel
theorem dX8_readTitle_81 : decode cX8_readTitle 81 = .ok (.iload_n 2, 1) := by decide +kernel
theorem dX8_readTitle_82 : decode cX8_readTitle 82 = .ok (.iadd, 1) := by decide +kernel
theorem dX8_readTitle_83 : decode cX8_readTitle 83 = .ok (.ireturn, 1) := by decide +kernel
theorem dX8_readTitle_84 : decode cX8_readTitle 84 = .ok (.aload_n 0, 1) := by decide +kernel
theorem dX8_readTitle_85 : decode cX8_readTitle 85 = .ok (.getfield 44, 3) := by decide +kernel
theorem dX8_readTitle_88 : decode cX8_readTitle 88 = .ok (.bipush 6, 2) := by decide +kernel
theorem dX8_readTitle_90 : decode cX8_readTitle 90 = .ok (.aload_n 0, 1) := by decide +kernel
theorem dX8_readTitle_91 : decode cX8_readTitle 91 = .ok (.getfield 94, 3) := by decide +kernel
theorem dX8_readTitle_94 : decode cX8_readTitle 94 = .ok (.imul, 1) := by decide +kernel
theorem dX8_readTitle_95 : decode cX8_readTitle 95 = .ok (.iload_n 2, 1) := by decide +kernel
theorem dX8_readTitle_96 : decode cX8_readTitle 96 = .ok (.iadd, 1) := by decide +kernel
theorem dX8_readTitle_97 : decode cX8_readTitle 97 = .ok (.iload_n 2, 1) := by decide +kernel
theorem dX8_readTitle_98 : decode cX8_readTitle 98 = .ok (.iconst 3, 1) := by decide +kernel
theorem dX8_readTitle_99 : decode cX8_readTitle 99 = .ok (.if_icmp .eq 8, 3) := by decide +kernel
theorem dX8_readTitle_102 : decode cX8_readTitle 102 = .ok (.iload_n 2, 1) := by decide +kernel
theorem dX8_readTitle_103 : decode cX8_readTitle 103 = .ok (.iconst 4, 1) := by decide +kernel
theorem dX8_readTitle_104 : decode cX8_readTitle 104 = .ok (.if_icmp .ne 10, 3) := by decide +kernel
theorem dX8_readTitle_107 : decode cX8_readTitle 107 = .ok (.iload_n 3, 1) := by decide +kernel
theorem dX8_readTitle_108 : decode cX8_readTitle 108 = .ok (.bipush 97, 2) := by decide +kernel
theorem dX8_readTitle_110 : decode cX8_readTitle 110 = .ok (.isub, 1) := by decide +kernel
theorem dX8_readTitle_111 : decode cX8_readTitle 111 = .ok (.goto 7, 3) := by decide +kernel
theorem dX8_readTitle_114 : decode cX8_readTitle 114 = .ok (.iload_n 3, 1) := by decide +kernel
theorem dX8_readTitle_115 : decode cX8_readTitle 115 = .ok (.bipush 48, 2) := by decide +kernel
theorem dX8_readTitle_117 : decode cX8_readTitle 117 = .ok (.isub, 1) := by decide +kernel
theorem dX8_readTitle_118 : decode cX8_readTitle 118 = .ok (.iastore, 1) := by decide +kernel
theorem dX8_readTitle_119 : decode cX8_readTitle 119 = .ok (.iinc 2 1, 3) := by decide +kernel
theorem dX8_readTitle_122 : decode cX8_readTitle 122 = .ok (.goto (-77), 3) := by decide +kernel
theorem dX8_readTitle_125 : decode cX8_readTitle 125 = .ok (.aload_n 0, 1) := by decide +kernel
theorem dX8_readTitle_126 : decode cX8_readTitle 126 = .ok (.dup, 1) := by decide +kernel
theorem dX8_readTitle_127 : decode cX8_readTitle 127 = .ok (.getfield 94, 3) := by decide +kernel
theorem dX8_readTitle_130 : decode cX8_readTitle 130 = .ok (.iconst 1, 1) := by decide +kernel
theorem dX8_readTitle_131 : decode cX8_readTitle 131 = .ok (.iadd, 1) := by decide +kernel
theorem dX8_readTitle_132 : decode cX8_readTitle 132 = .ok (.putfield 94, 3) := by decide +kernel
theorem dX8_readTitle_135 : decode cX8_readTitle 135 = .ok (.iload_n 1, 1) := by decide +kernel
theorem dX8_readTitle_136 : decode cX8_readTitle 136 = .ok (.bipush 6, 2) := by decide +kernel
theorem dX8_readTitle_138 : decode cX8_readTitle 138 = .ok (.iadd, 1) := by decide +kernel
theorem dX8_readTitle_139 : decode cX8_readTitle 139 = .ok (.ireturn, 1) := by decide +kernel
theorem dX8_read_0 : decode cX8_read 0 = .ok (.aload_n 0, 1) := by decide +kernel
theorem dX8_read_1 : decode cX8_read 1 = .ok (.iconst 0, 1) := by decide +kernel
theorem dX8_read_2 : decode cX8_read 2 = .ok (.putfield 114, 3) := by decide +kernel
theorem dX8_read_5 : decode cX8_read 5 = .ok (.aload_n 0, 1) := by decide +kernel
theorem dX8_read_6 : decode cX8_read 6 = .ok (.iconst 0, 1) := by decide +kernel
theorem dX8_read_7 : decode cX8_read 7 = .ok (.putfield 104, 3) := by decide +kernel
theorem dX8_read_10 : decode cX8_read 10 = .ok (.aload_n 0, 1) := by decide +kernel
theorem dX8_read_11 : decode cX8_read 11 = .ok (.iconst 0, 1) := by decide +kernel
theorem dX8_read_12 : decode cX8_read 12 = .ok (.putfield 94, 3) := by decide +kernel
theorem dX8_read_15 : decode cX8_read 15 = .ok (.aload_n 0, 1) := by decide +kernel
theorem dX8_read_16 : decode cX8_read 16 = .ok (.iconst 0, 1) := by decide +kernel
theorem dX8_read_17 : decode cX8_read 17 = .ok (.invokevirtual 117, 3) := by decide +kernel
theorem dX8_read_20 : decode cX8_read 20 = .ok (.istore_n 1, 1) := by decide +kernel
theorem dX8_read_21 : decode cX8_read 21 = .ok (.aload_n 0, 1) := by decide +kernel
theorem dX8_read_22 : decode cX8_read 22 = .ok (.getfield 104, 3) := by decide +kernel
theorem dX8_read_25 : decode cX8_read 25 = .ok (.ifCond .ne 32, 3) := by decide +kernel
theorem dX8_read_28 : decode cX8_read 28 = .ok (.aload_n 0, 1) := by decide +kernel
theorem dX8_read_29 : decode cX8_read 29 = .ok (.getfield 94, 3) := by decide +kernel
theorem dX8_read_32 : decode cX8_read 32 = .ok (.iconst 5, 1) := by decide +kernel
theorem dX8_read_33 : decode cX8_read 33 = .ok (.if_icmp .ge 24, 3) := by decide +kernel
theorem dX8_read_36 : decode cX8_read 36 = .ok (.aload_n 0, 1) := by decide +kernel
theorem dX8_read_37 : decode cX8_read 37 = .ok (.iload_n 1, 1) := by decide +kernel
theorem dX8_read_38 : decode cX8_read 38 = .ok (.invokevirtual 97, 3) := by decide +kernel
theorem dX8_read_41 : decode cX8_read 41 = .ok (.bipush 44, 2) := by decide +kernel
theorem dX8_read_43 : decode cX8_read 43 = .ok (.if_icmp .ne 14, 3) := by decide +kernel
theorem dX8_read_46 : decode cX8_read 46 = .ok (.aload_n 0, 1) := by decide +kernel
theorem dX8_read_47 : decode cX8_read 47 = .ok (.iload_n 1, 1) := by decide +kernel
theorem dX8_read_48 : decode cX8_read 48 = .ok (.iconst 1, 1) := by decide +kernel
theorem dX8_read_49 : decode cX8_read 49 = .ok (.iadd, 1) := by decide +kernel
theorem dX8_read_50 : decode cX8_read 50 = .ok (.invokevirtual 117, 3) := by decide +kernel
theorem dX8_read_53 : decode cX8_read 53 = .ok (.istore_n 1, 1) := by decide +kernel
theorem dX8_read_54 : decode cX8_read 54 = .ok (.goto (-33), 3) := by decide +kernel
theorem dX8_read_57 : decode cX8_read 57 = .ok (.aload_n 0, 1) := by decide +kernel
theorem dX8_read_58 : decode cX8_read 58 = .ok (.aload_n 0, 1) := by decide +kernel
theorem dX8_read_59 : decode cX8_read 59 = .ok (.getfield 104, 3) := by decide +kernel
theorem dX8_read_62 : decode cX8_read 62 = .ok (.ifCond .ne 15, 3) := by decide +kernel
theorem dX8_read_65 : decode cX8_read 65 = .ok (.iload_n 1, 1) := by decide +kernel
theorem dX8_read_66 : decode cX8_read 66 = .ok (.aload_n 0, 1) := by decide +kernel
theorem dX8_read_67 : decode cX8_read 67 = .ok (.getfield 90, 3) := by decide +kernel
theorem dX8_read_70 : decode cX8_read 70 = .ok (.if_icmp .ne 7, 3) := by decide +kernel
theorem dX8_read_73 : decode cX8_read 73 = .ok (.iconst 1, 1) := by decide +kernel
theorem dX8_read_74 : decode cX8_read 74 = .ok (.goto 4, 3) := by decide +kernel
theorem dX8_read_77 : decode cX8_read 77 = .ok (.iconst 0, 1) := by decide +kernel
theorem dX8_read_78 : decode cX8_read 78 = .ok (.putfield 114, 3) := by decide +kernel
theorem dX8_read_81 : decode cX8_read 81 = .ok (.iload_n 1, 1) := by decide +kernel
theorem dX8_read_82 : decode cX8_read 82 = .ok (.ireturn, 1) := by decide +kernel
theorem dX8_fault_0 : decode cX8_fault 0 = .ok (.aload_n 0, 1) := by decide +kernel
theorem dX8_fault_1 : decode cX8_fault 1 = .ok (.invokevirtual 120, 3) := by decide +kernel
theorem dX8_fault_4 : decode cX8_fault 4 = .ok (.ireturn, 1) := by decide +kernel
theorem dX8_house_0 : decode cX8_house 0 = .ok (.aload_n 0, 1) := by decide +kernel
theorem dX8_house_1 : decode cX8_house 1 = .ok (.invokevirtual 120, 3) := by decide +kernel
theorem dX8_house_4 : decode cX8_house 4 = .ok (.pop, 1) := by decide +kernel
theorem dX8_house_5 : decode cX8_house 5 = .ok (.aload_n 0, 1) := by decide +kernel
theorem dX8_house_6 : decode cX8_house 6 = .ok (.getfield 114, 3) := by decide +kernel
theorem dX8_house_9 : decode cX8_house 9 = .ok (.ifCond .ne 6, 3) := by decide +kernel
theorem dX8_house_12 : decode cX8_house 12 = .ok (.bipush (-103), 2) := by decide +kernel
theorem dX8_house_14 : decode cX8_house 14 = .ok (.ireturn, 1) := by decide +kernel
theorem dX8_house_15 : decode cX8_house 15 = .ok (.aload_n 0, 1) := by decide +kernel
theorem dX8_house_16 : decode cX8_house 16 = .ok (.aload_n 0, 1) := by decide +kernel
theorem dX8_house_17 : decode cX8_house 17 = .ok (.getfield 94, 3) := by decide +kernel
theorem dX8_house_20 : decode cX8_house 20 = .ok (.putfield 124, 3) := by decide +kernel
theorem dX8_house_23 : decode cX8_house 23 = .ok (.iconst 0, 1) := by decide +kernel
theorem dX8_house_24 : decode cX8_house 24 = .ok (.istore_n 1, 1) := by decide +kernel
theorem dX8_house_25 : decode cX8_house 25 = .ok (.iload_n 1, 1) := by decide +kernel
theorem dX8_house_26 : decode cX8_house 26 = .ok (.aload_n 0, 1) := by decide +kernel
theorem dX8_house_27 : decode cX8_house 27 = .ok (.getfield 124, 3) := by decide +kernel
theorem dX8_house_30 : decode cX8_house 30 = .ok (.if_icmp .ge 109, 3) := by decide +kernel
theorem dX8_house_33 : decode cX8_house 33 = .ok (.aload_n 0, 1) := by decide +kernel
theorem dX8_house_34 : decode cX8_house 34 = .ok (.getfield 7, 3) := by decide +kernel
theorem dX8_house_37 : decode cX8_house 37 = .ok (.iload_n 1, 1) := by decide +kernel
theorem dX8_house_38 : decode cX8_house 38 = .ok (.aload_n 0, 1) := by decide +kernel
theorem dX8_house_39 : decode cX8_house 39 = .ok (.getfield 44, 3) := by decide +kernel
theorem dX8_house_42 : decode cX8_house 42 = .ok (.bipush 6, 2) := by decide +kernel
theorem dX8_house_44 : decode cX8_house 44 = .ok (.iload_n 1, 1) := by decide +kernel
theorem dX8_house_45 : decode cX8_house 45 = .ok (.imul, 1) := by decide +kernel
theorem dX8_house_46 : decode cX8_house 46 = .ok (.iaload, 1) := by decide +kernel
theorem dX8_house_47 : decode cX8_house 47 = .ok (.iastore, 1) := by decide +kernel
theorem dX8_house_48 : decode cX8_house 48 = .ok (.aload_n 0, 1) := by decide +kernel
theorem dX8_house_49 : decode cX8_house 49 = .ok (.getfield 13, 3) := by decide +kernel
theorem dX8_house_52 : decode cX8_house 52 = .ok (.iload_n 1, 1) := by decide +kernel
theorem dX8_house_53 : decode cX8_house 53 = .ok (.aload_n 0, 1) := by decide +kernel
theorem dX8_house_54 : decode cX8_house 54 = .ok (.getfield 44, 3) := by decide +kernel
theorem dX8_house_57 : decode cX8_house 57 = .ok (.bipush 6, 2) := by decide +kernel
theorem dX8_house_59 : decode cX8_house 59 = .ok (.iload_n 1, 1) := by decide +kernel
theorem dX8_house_60 : decode cX8_house 60 = .ok (.imul, 1) := by decide +kernel
theorem dX8_house_61 : decode cX8_house 61 = .ok (.iconst 1, 1) := by decide +kernel
theorem dX8_house_62 : decode cX8_house 62 = .ok (.iadd, 1) := by decide +kernel
theorem dX8_house_63 : decode cX8_house 63 = .ok (.iaload, 1) := by decide +kernel
theorem dX8_house_64 : decode cX8_house 64 = .ok (.iastore, 1) := by decide +kernel
theorem dX8_house_65 : decode cX8_house 65 = .ok (.aload_n 0, 1) := by decide +kernel
theorem dX8_house_66 : decode cX8_house 66 = .ok (.getfield 16, 3) := by decide +kernel
theorem dX8_house_69 : decode cX8_house 69 = .ok (.iload_n 1, 1) := by decide +kernel
theorem dX8_house_70 : decode cX8_house 70 = .ok (.aload_n 0, 1) := by decide +kernel
theorem dX8_house_71 : decode cX8_house 71 = .ok (.getfield 44, 3) := by decide +kernel
theorem dX8_house_74 : decode cX8_house 74 = .ok (.bipush 6, 2) := by decide +kernel
theorem dX8_house_76 : decode cX8_house 76 = .ok (.iload_n 1, 1) := by decide +kernel
theorem dX8_house_77 : decode cX8_house 77 = .ok (.imul, 1) := by decide +kernel
theorem dX8_house_78 : decode cX8_house 78 = .ok (.iconst 2, 1) := by decide +kernel
theorem dX8_house_79 : decode cX8_house 79 = .ok (.iadd, 1) := by decide +kernel
theorem dX8_house_80 : decode cX8_house 80 = .ok (.iaload, 1) := by decide +kernel
theorem dX8_house_81 : decode cX8_house 81 = .ok (.iastore, 1) := by decide +kernel
theorem dX8_house_82 : decode cX8_house 82 = .ok (.aload_n 0, 1) := by decide +kernel
theorem dX8_house_83 : decode cX8_house 83 = .ok (.getfield 19, 3) := by decide +kernel
theorem dX8_house_86 : decode cX8_house 86 = .ok (.iload_n 1, 1) := by decide +kernel
theorem dX8_house_87 : decode cX8_house 87 = .ok (.aload_n 0, 1) := by decide +kernel
theorem dX8_house_88 : decode cX8_house 88 = .ok (.getfield 44, 3) := by decide +kernel
theorem dX8_house_91 : decode cX8_house 91 = .ok (.bipush 6, 2) := by decide +kernel
theorem dX8_house_93 : decode cX8_house 93 = .ok (.iload_n 1, 1) := by decide +kernel
theorem dX8_house_94 : decode cX8_house 94 = .ok (.imul, 1) := by decide +kernel
theorem dX8_house_95 : decode cX8_house 95 = .ok (.iconst 3, 1) := by decide +kernel
theorem dX8_house_96 : decode cX8_house 96 = .ok (.iadd, 1) := by decide +kernel
theorem dX8_house_97 : decode cX8_house 97 = .ok (.iaload, 1) := by decide +kernel
theorem dX8_house_98 : decode cX8_house 98 = .ok (.iastore, 1) := by decide +kernel
theorem dX8_house_99 : decode cX8_house 99 = .ok (.aload_n 0, 1) := by decide +kernel
theorem dX8_house_100 : decode cX8_house 100 = .ok (.getfield 22, 3) := by decide +kernel
theorem dX8_house_103 : decode cX8_house 103 = .ok (.iload_n 1, 1) := by decide +kernel
theorem dX8_house_104 : decode cX8_house 104 = .ok (.aload_n 0, 1) := by decide +kernel
theorem dX8_house_105 : decode cX8_house 105 = .ok (.getfield 44, 3) := by decide +kernel
theorem dX8_house_108 : decode cX8_house 108 = .ok (.bipush 6, 2) := by decide +kernel
theorem dX8_house_110 : decode cX8_house 110 = .ok (.iload_n 1, 1) := by decide +kernel
theorem dX8_house_111 : decode cX8_house 111 = .ok (.imul, 1) := by decide +kernel
theorem dX8_house_112 : decode cX8_house 112 = .ok (.iconst 4, 1) := by decide +kernel
theorem dX8_house_113 : decode cX8_house 113 = .ok (.iadd, 1) := by decide +kernel
theorem dX8_house_114 : decode cX8_house 114 = .ok (.iaload, 1) := by decide +kernel
theorem dX8_house_115 : decode cX8_house 115 = .ok (.iastore, 1) := by decide +kernel
theorem dX8_house_116 : decode cX8_house 116 = .ok (.aload_n 0, 1) := by decide +kernel
theorem dX8_house_117 : decode cX8_house 117 = .ok (.getfield 25, 3) := by decide +kernel
theorem dX8_house_120 : decode cX8_house 120 = .ok (.iload_n 1, 1) := by decide +kernel
theorem dX8_house_121 : decode cX8_house 121 = .ok (.aload_n 0, 1) := by decide +kernel
theorem dX8_house_122 : decode cX8_house 122 = .ok (.getfield 44, 3) := by decide +kernel
theorem dX8_house_125 : decode cX8_house 125 = .ok (.bipush 6, 2) := by decide +kernel
theorem dX8_house_127 : decode cX8_house 127 = .ok (.iload_n 1, 1) := by decide +kernel
theorem dX8_house_128 : decode cX8_house 128 = .ok (.imul, 1) := by decide +kernel
theorem dX8_house_129 : decode cX8_house 129 = .ok (.iconst 5, 1) := by decide +kernel
theorem dX8_house_130 : decode cX8_house 130 = .ok (.iadd, 1) := by decide +kernel
theorem dX8_house_131 : decode cX8_house 131 = .ok (.iaload, 1) := by decide +kernel
theorem dX8_house_132 : decode cX8_house 132 = .ok (.iastore, 1) := by decide +kernel
theorem dX8_house_133 : decode cX8_house 133 = .ok (.iinc 1 1, 3) := by decide +kernel
theorem dX8_house_136 : decode cX8_house 136 = .ok (.goto (-111), 3) := by decide +kernel
theorem dX8_house_139 : decode cX8_house 139 = .ok (.aload_n 0, 1) := by decide +kernel
theorem dX8_house_140 : decode cX8_house 140 = .ok (.invokevirtual 83, 3) := by decide +kernel
theorem dX8_house_143 : decode cX8_house 143 = .ok (.aload_n 0, 1) := by decide +kernel
theorem dX8_house_144 : decode cX8_house 144 = .ok (.dup, 1) := by decide +kernel
theorem dX8_house_145 : decode cX8_house 145 = .ok (.getfield 127, 3) := by decide +kernel
theorem dX8_house_148 : decode cX8_house 148 = .ok (.iconst 1, 1) := by decide +kernel
theorem dX8_house_149 : decode cX8_house 149 = .ok (.iadd, 1) := by decide +kernel
theorem dX8_house_150 : decode cX8_house 150 = .ok (.putfield 127, 3) := by decide +kernel
theorem dX8_house_153 : decode cX8_house 153 = .ok (.aload_n 0, 1) := by decide +kernel
theorem dX8_house_154 : decode cX8_house 154 = .ok (.iconst 0, 1) := by decide +kernel
theorem dX8_house_155 : decode cX8_house 155 = .ok (.putfield 130, 3) := by decide +kernel
theorem dX8_house_158 : decode cX8_house 158 = .ok (.aload_n 0, 1) := by decide +kernel
theorem dX8_house_159 : decode cX8_house 159 = .ok (.iconst 0, 1) := by decide +kernel
theorem dX8_house_160 : decode cX8_house 160 = .ok (.putfield 90, 3) := by decide +kernel
theorem dX8_house_163 : decode cX8_house 163 = .ok (.aload_n 0, 1) := by decide +kernel
theorem dX8_house_164 : decode cX8_house 164 = .ok (.getfield 124, 3) := by decide +kernel
theorem dX8_house_167 : decode cX8_house 167 = .ok (.ireturn, 1) := by decide +kernel
theorem dX8_isTitle_0 : decode cX8_isTitle 0 = .ok (.iload_n 1, 1) := by decide +kernel
theorem dX8_isTitle_1 : decode cX8_isTitle 1 = .ok (.iconst 0, 1) := by decide +kernel
theorem dX8_isTitle_2 : decode cX8_isTitle 2 = .ok (.aload_n 0, 1) := by decide +kernel
theorem dX8_isTitle_3 : decode cX8_isTitle 3 = .ok (.getfield 124, 3) := by decide +kernel
theorem dX8_isTitle_6 : decode cX8_isTitle 6 = .ok (.iconst 1, 1) := by decide +kernel
theorem dX8_isTitle_7 : decode cX8_isTitle 7 = .ok (.isub, 1) := by decide +kernel
theorem dX8_isTitle_8 : decode cX8_isTitle 8 = .ok (.invokestatic 86, 3) := by decide +kernel
theorem dX8_isTitle_11 : decode cX8_isTitle 11 = .ok (.ireturn, 1) := by decide +kernel
theorem dX8_isNight_0 : decode cX8_isNight 0 = .ok (.iload_n 0, 1) := by decide +kernel
theorem dX8_isNight_1 : decode cX8_isNight 1 = .ok (.iconst 0, 1) := by decide +kernel
theorem dX8_isNight_2 : decode cX8_isNight 2 = .ok (.bipush 11, 2) := by decide +kernel
theorem dX8_isNight_4 : decode cX8_isNight 4 = .ok (.invokestatic 86, 3) := by decide +kernel
theorem dX8_isNight_7 : decode cX8_isNight 7 = .ok (.ireturn, 1) := by decide +kernel
theorem dX8_plan_0 : decode cX8_plan 0 = .ok (.aload_n 0, 1) := by decide +kernel
theorem dX8_plan_1 : decode cX8_plan 1 = .ok (.getfield 124, 3) := by decide +kernel
theorem dX8_plan_4 : decode cX8_plan 4 = .ok (.ifCond .le 16, 3) := by decide +kernel
theorem dX8_plan_7 : decode cX8_plan 7 = .ok (.aload_n 0, 1) := by decide +kernel
theorem dX8_plan_8 : decode cX8_plan 8 = .ok (.getfield 90, 3) := by decide +kernel
theorem dX8_plan_11 : decode cX8_plan 11 = .ok (.bipush 12, 2) := by decide +kernel
theorem dX8_plan_13 : decode cX8_plan 13 = .ok (.if_icmp .ne 7, 3) := by decide +kernel
theorem dX8_plan_16 : decode cX8_plan 16 = .ok (.iconst 1, 1) := by decide +kernel
theorem dX8_plan_17 : decode cX8_plan 17 = .ok (.goto 4, 3) := by decide +kernel
theorem dX8_plan_20 : decode cX8_plan 20 = .ok (.iconst 0, 1) := by decide +kernel
theorem dX8_plan_21 : decode cX8_plan 21 = .ok (.istore_n 1, 1) := by decide +kernel
theorem dX8_plan_22 : decode cX8_plan 22 = .ok (.iconst 0, 1) := by decide +kernel
theorem dX8_plan_23 : decode cX8_plan 23 = .ok (.istore_n 2, 1) := by decide +kernel
theorem dX8_plan_24 : decode cX8_plan 24 = .ok (.iload_n 2, 1) := by decide +kernel
theorem dX8_plan_25 : decode cX8_plan 25 = .ok (.bipush 12, 2) := by decide +kernel
theorem dX8_plan_27 : decode cX8_plan 27 = .ok (.if_icmp .ge 46, 3) := by decide +kernel
theorem dX8_plan_30 : decode cX8_plan 30 = .ok (.iload_n 1, 1) := by decide +kernel
theorem dX8_plan_31 : decode cX8_plan 31 = .ok (.ifCond .eq 42, 3) := by decide +kernel
theorem dX8_plan_34 : decode cX8_plan 34 = .ok (.aload_n 0, 1) := by decide +kernel
theorem dX8_plan_35 : decode cX8_plan 35 = .ok (.getfield 40, 3) := by decide +kernel
theorem dX8_plan_38 : decode cX8_plan 38 = .ok (.iload_n 2, 1) := by decide +kernel
theorem dX8_plan_39 : decode cX8_plan 39 = .ok (.baload, 1) := by decide +kernel
theorem dX8_plan_40 : decode cX8_plan 40 = .ok (.bipush 46, 2) := by decide +kernel
theorem dX8_plan_42 : decode cX8_plan 42 = .ok (.if_icmp .eq 19, 3) := by decide +kernel
theorem dX8_plan_45 : decode cX8_plan 45 = .ok (.aload_n 0, 1) := by decide +kernel
theorem dX8_plan_46 : decode cX8_plan 46 = .ok (.aload_n 0, 1) := by decide +kernel
theorem dX8_plan_47 : decode cX8_plan 47 = .ok (.getfield 40, 3) := by decide +kernel
theorem dX8_plan_50 : decode cX8_plan 50 = .ok (.iload_n 2, 1) := by decide +kernel
theorem dX8_plan_51 : decode cX8_plan 51 = .ok (.baload, 1) := by decide +kernel
theorem dX8_plan_52 : decode cX8_plan 52 = .ok (.bipush 48, 2) := by decide +kernel
theorem dX8_plan_54 : decode cX8_plan 54 = .ok (.isub, 1) := by decide +kernel
theorem dX8_plan_55 : decode cX8_plan 55 = .ok (.invokevirtual 133, 3) := by decide +kernel
theorem dX8_plan_58 : decode cX8_plan 58 = .ok (.ifCond .eq 7, 3) := by decide +kernel
theorem dX8_plan_61 : decode cX8_plan 61 = .ok (.iconst 1, 1) := by decide +kernel
theorem dX8_plan_62 : decode cX8_plan 62 = .ok (.goto 4, 3) := by decide +kernel
theorem dX8_plan_65 : decode cX8_plan 65 = .ok (.iconst 0, 1) := by decide +kernel
theorem dX8_plan_66 : decode cX8_plan 66 = .ok (.istore_n 1, 1) := by decide +kernel
theorem dX8_plan_67 : decode cX8_plan 67 = .ok (.iinc 2 1, 3) := by decide +kernel
theorem dX8_plan_70 : decode cX8_plan 70 = .ok (.goto (-46), 3) := by decide +kernel
theorem dX8_plan_73 : decode cX8_plan 73 = .ok (.iload_n 1, 1) := by decide +kernel
theorem dX8_plan_74 : decode cX8_plan 74 = .ok (.ifCond .ne 6, 3) := by decide +kernel
theorem dX8_plan_77 : decode cX8_plan 77 = .ok (.bipush (-103), 2) := by decide +kernel
theorem dX8_plan_79 : decode cX8_plan 79 = .ok (.ireturn, 1) := by decide +kernel
theorem dX8_plan_80 : decode cX8_plan 80 = .ok (.iconst 0, 1) := by decide +kernel
theorem dX8_plan_81 : decode cX8_plan 81 = .ok (.istore_n 2, 1) := by decide +kernel
theorem dX8_plan_82 : decode cX8_plan 82 = .ok (.iload_n 2, 1) := by decide +kernel
theorem dX8_plan_83 : decode cX8_plan 83 = .ok (.bipush 12, 2) := by decide +kernel
theorem dX8_plan_85 : decode cX8_plan 85 = .ok (.if_icmp .ge 39, 3) := by decide +kernel
theorem dX8_plan_88 : decode cX8_plan 88 = .ok (.aload_n 0, 1) := by decide +kernel
theorem dX8_plan_89 : decode cX8_plan 89 = .ok (.getfield 28, 3) := by decide +kernel
theorem dX8_plan_92 : decode cX8_plan 92 = .ok (.iload_n 2, 1) := by decide +kernel
theorem dX8_plan_93 : decode cX8_plan 93 = .ok (.aload_n 0, 1) := by decide +kernel
theorem dX8_plan_94 : decode cX8_plan 94 = .ok (.getfield 40, 3) := by decide +kernel
theorem dX8_plan_97 : decode cX8_plan 97 = .ok (.iload_n 2, 1) := by decide +kernel
theorem dX8_plan_98 : decode cX8_plan 98 = .ok (.baload, 1) := by decide +kernel
theorem dX8_plan_99 : decode cX8_plan 99 = .ok (.bipush 46, 2) := by decide +kernel
theorem dX8_plan_101 : decode cX8_plan 101 = .ok (.if_icmp .ne 7, 3) := by decide +kernel
theorem dX8_plan_104 : decode cX8_plan 104 = .ok (.iconst (-1), 1) := by decide +kernel
theorem dX8_plan_105 : decode cX8_plan 105 = .ok (.goto 12, 3) := by decide +kernel
theorem dX8_plan_108 : decode cX8_plan 108 = .ok (.aload_n 0, 1) := by decide +kernel
theorem dX8_plan_109 : decode cX8_plan 109 = .ok (.getfield 40, 3) := by decide +kernel
theorem dX8_plan_112 : decode cX8_plan 112 = .ok (.iload_n 2, 1) := by decide +kernel
theorem dX8_plan_113 : decode cX8_plan 113 = .ok (.baload, 1) := by decide +kernel
theorem dX8_plan_114 : decode cX8_plan 114 = .ok (.bipush 48, 2) := by decide +kernel
theorem dX8_plan_116 : decode cX8_plan 116 = .ok (.isub, 1) := by decide +kernel
theorem dX8_plan_117 : decode cX8_plan 117 = .ok (.iastore, 1) := by decide +kernel
theorem dX8_plan_118 : decode cX8_plan 118 = .ok (.iinc 2 1, 3) := by decide +kernel
theorem dX8_plan_121 : decode cX8_plan 121 = .ok (.goto (-39), 3) := by decide +kernel
theorem dX8_plan_124 : decode cX8_plan 124 = .ok (.aload_n 0, 1) := by decide +kernel
theorem dX8_plan_125 : decode cX8_plan 125 = .ok (.iconst 0, 1) := by decide +kernel
theorem dX8_plan_126 : decode cX8_plan 126 = .ok (.putfield 90, 3) := by decide +kernel
theorem dX8_plan_129 : decode cX8_plan 129 = .ok (.aload_n 0, 1) := by decide +kernel
theorem dX8_plan_130 : decode cX8_plan 130 = .ok (.invokevirtual 137, 3) := by decide +kernel
theorem dX8_plan_133 : decode cX8_plan 133 = .ok (.ireturn, 1) := by decide +kernel
theorem dX8_on_0 : decode cX8_on 0 = .ok (.iload_n 1, 1) := by decide +kernel
theorem dX8_on_1 : decode cX8_on 1 = .ok (.invokestatic 140, 3) := by decide +kernel
theorem dX8_on_4 : decode cX8_on 4 = .ok (.ifCond .eq 12, 3) := by decide +kernel
theorem dX8_on_7 : decode cX8_on 7 = .ok (.aload_n 0, 1) := by decide +kernel
theorem dX8_on_8 : decode cX8_on 8 = .ok (.getfield 28, 3) := by decide +kernel
theorem dX8_on_11 : decode cX8_on 11 = .ok (.iload_n 1, 1) := by decide +kernel
theorem dX8_on_12 : decode cX8_on 12 = .ok (.iaload, 1) := by decide +kernel
theorem dX8_on_13 : decode cX8_on 13 = .ok (.goto 4, 3) := by decide +kernel
theorem dX8_on_16 : decode cX8_on 16 = .ok (.iconst (-1), 1) := by decide +kernel
theorem dX8_on_17 : decode cX8_on 17 = .ok (.ireturn, 1) := by decide +kernel
theorem dX8_nightsOn_0 : decode cX8_nightsOn 0 = .ok (.iconst 0, 1) := by decide +kernel
theorem dX8_nightsOn_1 : decode cX8_nightsOn 1 = .ok (.istore_n 1, 1) := by decide +kernel
theorem dX8_nightsOn_2 : decode cX8_nightsOn 2 = .ok (.iconst 0, 1) := by decide +kernel
theorem dX8_nightsOn_3 : decode cX8_nightsOn 3 = .ok (.istore_n 2, 1) := by decide +kernel
theorem dX8_nightsOn_4 : decode cX8_nightsOn 4 = .ok (.iload_n 2, 1) := by decide +kernel
theorem dX8_nightsOn_5 : decode cX8_nightsOn 5 = .ok (.bipush 12, 2) := by decide +kernel
theorem dX8_nightsOn_7 : decode cX8_nightsOn 7 = .ok (.if_icmp .ge 27, 3) := by decide +kernel
theorem dX8_nightsOn_10 : decode cX8_nightsOn 10 = .ok (.iload_n 1, 1) := by decide +kernel
theorem dX8_nightsOn_11 : decode cX8_nightsOn 11 = .ok (.aload_n 0, 1) := by decide +kernel
theorem dX8_nightsOn_12 : decode cX8_nightsOn 12 = .ok (.getfield 28, 3) := by decide +kernel
theorem dX8_nightsOn_15 : decode cX8_nightsOn 15 = .ok (.iload_n 2, 1) := by decide +kernel
theorem dX8_nightsOn_16 : decode cX8_nightsOn 16 = .ok (.iaload, 1) := by decide +kernel
theorem dX8_nightsOn_17 : decode cX8_nightsOn 17 = .ok (.iconst (-1), 1) := by decide +kernel
theorem dX8_nightsOn_18 : decode cX8_nightsOn 18 = .ok (.if_icmp .ne 7, 3) := by decide +kernel
theorem dX8_nightsOn_21 : decode cX8_nightsOn 21 = .ok (.iconst 0, 1) := by decide +kernel
theorem dX8_nightsOn_22 : decode cX8_nightsOn 22 = .ok (.goto 4, 3) := by decide +kernel
theorem dX8_nightsOn_25 : decode cX8_nightsOn 25 = .ok (.iconst 1, 1) := by decide +kernel
theorem dX8_nightsOn_26 : decode cX8_nightsOn 26 = .ok (.iadd, 1) := by decide +kernel
theorem dX8_nightsOn_27 : decode cX8_nightsOn 27 = .ok (.istore_n 1, 1) := by decide +kernel
theorem dX8_nightsOn_28 : decode cX8_nightsOn 28 = .ok (.iinc 2 1, 3) := by decide +kernel
theorem dX8_nightsOn_31 : decode cX8_nightsOn 31 = .ok (.goto (-27), 3) := by decide +kernel
theorem dX8_nightsOn_34 : decode cX8_nightsOn 34 = .ok (.iload_n 1, 1) := by decide +kernel
theorem dX8_nightsOn_35 : decode cX8_nightsOn 35 = .ok (.ireturn, 1) := by decide +kernel
theorem dX8_nightsOf_0 : decode cX8_nightsOf 0 = .ok (.iconst 0, 1) := by decide +kernel
theorem dX8_nightsOf_1 : decode cX8_nightsOf 1 = .ok (.istore_n 3, 1) := by decide +kernel
theorem dX8_nightsOf_2 : decode cX8_nightsOf 2 = .ok (.iconst 0, 1) := by decide +kernel
theorem dX8_nightsOf_3 : decode cX8_nightsOf 3 = .ok (.istore 4, 2) := by decide +kernel
theorem dX8_nightsOf_5 : decode cX8_nightsOf 5 = .ok (.iload 4, 2) := by decide +kernel
theorem dX8_nightsOf_7 : decode cX8_nightsOf 7 = .ok (.iload_n 2, 1) := by decide +kernel
theorem dX8_nightsOf_8 : decode cX8_nightsOf 8 = .ok (.if_icmp .ge 28, 3) := by decide +kernel
theorem dX8_nightsOf_11 : decode cX8_nightsOf 11 = .ok (.iload_n 3, 1) := by decide +kernel
theorem dX8_nightsOf_12 : decode cX8_nightsOf 12 = .ok (.aload_n 0, 1) := by decide +kernel
theorem dX8_nightsOf_13 : decode cX8_nightsOf 13 = .ok (.getfield 28, 3) := by decide +kernel
theorem dX8_nightsOf_16 : decode cX8_nightsOf 16 = .ok (.iload 4, 2) := by decide +kernel
theorem dX8_nightsOf_18 : decode cX8_nightsOf 18 = .ok (.iaload, 1) := by decide +kernel
theorem dX8_nightsOf_19 : decode cX8_nightsOf 19 = .ok (.iload_n 1, 1) := by decide +kernel
theorem dX8_nightsOf_20 : decode cX8_nightsOf 20 = .ok (.if_icmp .ne 7, 3) := by decide +kernel
theorem dX8_nightsOf_23 : decode cX8_nightsOf 23 = .ok (.iconst 1, 1) := by decide +kernel
theorem dX8_nightsOf_24 : decode cX8_nightsOf 24 = .ok (.goto 4, 3) := by decide +kernel
theorem dX8_nightsOf_27 : decode cX8_nightsOf 27 = .ok (.iconst 0, 1) := by decide +kernel
theorem dX8_nightsOf_28 : decode cX8_nightsOf 28 = .ok (.iadd, 1) := by decide +kernel
theorem dX8_nightsOf_29 : decode cX8_nightsOf 29 = .ok (.istore_n 3, 1) := by decide +kernel
theorem dX8_nightsOf_30 : decode cX8_nightsOf 30 = .ok (.iinc 4 1, 3) := by decide +kernel
theorem dX8_nightsOf_33 : decode cX8_nightsOf 33 = .ok (.goto (-28), 3) := by decide +kernel
theorem dX8_nightsOf_36 : decode cX8_nightsOf 36 = .ok (.iload_n 3, 1) := by decide +kernel
theorem dX8_nightsOf_37 : decode cX8_nightsOf 37 = .ok (.ireturn, 1) := by decide +kernel
theorem dX8_hasCast_0 : decode cX8_hasCast 0 = .ok (.aload_n 0, 1) := by decide +kernel
theorem dX8_hasCast_1 : decode cX8_hasCast 1 = .ok (.iload_n 1, 1) := by decide +kernel
theorem dX8_hasCast_2 : decode cX8_hasCast 2 = .ok (.invokevirtual 143, 3) := by decide +kernel
theorem dX8_hasCast_5 : decode cX8_hasCast 5 = .ok (.iconst (-1), 1) := by decide +kernel
theorem dX8_hasCast_6 : decode cX8_hasCast 6 = .ok (.if_icmp .eq 21, 3) := by decide +kernel
theorem dX8_hasCast_9 : decode cX8_hasCast 9 = .ok (.aload_n 0, 1) := by decide +kernel
theorem dX8_hasCast_10 : decode cX8_hasCast 10 = .ok (.getfield 16, 3) := by decide +kernel
theorem dX8_hasCast_13 : decode cX8_hasCast 13 = .ok (.aload_n 0, 1) := by decide +kernel
theorem dX8_hasCast_14 : decode cX8_hasCast 14 = .ok (.iload_n 1, 1) := by decide +kernel
theorem dX8_hasCast_15 : decode cX8_hasCast 15 = .ok (.invokevirtual 143, 3) := by decide +kernel
theorem dX8_hasCast_18 : decode cX8_hasCast 18 = .ok (.iaload, 1) := by decide +kernel
theorem dX8_hasCast_19 : decode cX8_hasCast 19 = .ok (.iload_n 2, 1) := by decide +kernel
theorem dX8_hasCast_20 : decode cX8_hasCast 20 = .ok (.if_icmp .ne 7, 3) := by decide +kernel
theorem dX8_hasCast_23 : decode cX8_hasCast 23 = .ok (.iconst 1, 1) := by decide +kernel
theorem dX8_hasCast_24 : decode cX8_hasCast 24 = .ok (.goto 4, 3) := by decide +kernel
theorem dX8_hasCast_27 : decode cX8_hasCast 27 = .ok (.iconst 0, 1) := by decide +kernel
theorem dX8_hasCast_28 : decode cX8_hasCast 28 = .ok (.ireturn, 1) := by decide +kernel
theorem dX8_isCastBehind_0 : decode cX8_isCastBehind 0 = .ok (.iconst 0, 1) := by decide +kernel
theorem dX8_isCastBehind_1 : decode cX8_isCastBehind 1 = .ok (.istore_n 3, 1) := by decide +kernel
theorem dX8_isCastBehind_2 : decode cX8_isCastBehind 2 = .ok (.iload_n 1, 1) := by decide +kernel
theorem dX8_isCastBehind_3 : decode cX8_isCastBehind 3 = .ok (.iconst 1, 1) := by decide +kernel
theorem dX8_isCastBehind_4 : decode cX8_isCastBehind 4 = .ok (.iadd, 1) := by decide +kernel
theorem dX8_isCastBehind_5 : decode cX8_isCastBehind 5 = .ok (.istore 4, 2) := by decide +kernel
theorem dX8_isCastBehind_7 : decode cX8_isCastBehind 7 = .ok (.iload 4, 2) := by decide +kernel
theorem dX8_isCastBehind_9 : decode cX8_isCastBehind 9 = .ok (.bipush 12, 2) := by decide +kernel
theorem dX8_isCastBehind_11 : decode cX8_isCastBehind 11 = .ok (.if_icmp .ge 29, 3) := by decide +kernel
theorem dX8_isCastBehind_14 : decode cX8_isCastBehind 14 = .ok (.iload_n 3, 1) := by decide +kernel
theorem dX8_isCastBehind_15 : decode cX8_isCastBehind 15 = .ok (.ifCond .ne 13, 3) := by decide +kernel
theorem dX8_isCastBehind_18 : decode cX8_isCastBehind 18 = .ok (.aload_n 0, 1) := by decide +kernel
theorem dX8_isCastBehind_19 : decode cX8_isCastBehind 19 = .ok (.iload 4, 2) := by decide +kernel
theorem dX8_isCastBehind_21 : decode cX8_isCastBehind 21 = .ok (.iload_n 2, 1) := by decide +kernel
theorem dX8_isCastBehind_22 : decode cX8_isCastBehind 22 = .ok (.invokevirtual 146, 3) := by decide +kernel
theorem dX8_isCastBehind_25 : decode cX8_isCastBehind 25 = .ok (.ifCond .eq 7, 3) := by decide +kernel
theorem dX8_isCastBehind_28 : decode cX8_isCastBehind 28 = .ok (.iconst 1, 1) := by decide +kernel
theorem dX8_isCastBehind_29 : decode cX8_isCastBehind 29 = .ok (.goto 4, 3) := by decide +kernel
theorem dX8_isCastBehind_32 : decode cX8_isCastBehind 32 = .ok (.iconst 0, 1) := by decide +kernel
theorem dX8_isCastBehind_33 : decode cX8_isCastBehind 33 = .ok (.istore_n 3, 1) := by decide +kernel
theorem dX8_isCastBehind_34 : decode cX8_isCastBehind 34 = .ok (.iinc 4 1, 3) := by decide +kernel
theorem dX8_isCastBehind_37 : decode cX8_isCastBehind 37 = .ok (.goto (-30), 3) := by decide +kernel
theorem dX8_isCastBehind_40 : decode cX8_isCastBehind 40 = .ok (.iload_n 3, 1) := by decide +kernel
theorem dX8_isCastBehind_41 : decode cX8_isCastBehind 41 = .ok (.ireturn, 1) := by decide +kernel
theorem dX8_isGala_0 : decode cX8_isGala 0 = .ok (.aload_n 0, 1) := by decide +kernel
theorem dX8_isGala_1 : decode cX8_isGala 1 = .ok (.getfield 7, 3) := by decide +kernel
theorem dX8_isGala_4 : decode cX8_isGala 4 = .ok (.iload_n 1, 1) := by decide +kernel
theorem dX8_isGala_5 : decode cX8_isGala 5 = .ok (.iaload, 1) := by decide +kernel
theorem dX8_isGala_6 : decode cX8_isGala 6 = .ok (.iconst 1, 1) := by decide +kernel
theorem dX8_isGala_7 : decode cX8_isGala 7 = .ok (.if_icmp .eq 13, 3) := by decide +kernel
theorem dX8_isGala_10 : decode cX8_isGala 10 = .ok (.aload_n 0, 1) := by decide +kernel
theorem dX8_isGala_11 : decode cX8_isGala 11 = .ok (.getfield 7, 3) := by decide +kernel
theorem dX8_isGala_14 : decode cX8_isGala 14 = .ok (.iload_n 1, 1) := by decide +kernel
theorem dX8_isGala_15 : decode cX8_isGala 15 = .ok (.iaload, 1) := by decide +kernel
theorem dX8_isGala_16 : decode cX8_isGala 16 = .ok (.iconst 2, 1) := by decide +kernel
theorem dX8_isGala_17 : decode cX8_isGala 17 = .ok (.if_icmp .ne 7, 3) := by decide +kernel
theorem dX8_isGala_20 : decode cX8_isGala 20 = .ok (.iconst 1, 1) := by decide +kernel
theorem dX8_isGala_21 : decode cX8_isGala 21 = .ok (.goto 4, 3) := by decide +kernel
theorem dX8_isGala_24 : decode cX8_isGala 24 = .ok (.iconst 0, 1) := by decide +kernel
theorem dX8_isGala_25 : decode cX8_isGala 25 = .ok (.ireturn, 1) := by decide +kernel
theorem dX8_breaksAt_0 : decode cX8_breaksAt 0 = .ok (.aload_n 0, 1) := by decide +kernel
theorem dX8_breaksAt_1 : decode cX8_breaksAt 1 = .ok (.getfield 28, 3) := by decide +kernel
theorem dX8_breaksAt_4 : decode cX8_breaksAt 4 = .ok (.iload_n 1, 1) := by decide +kernel
theorem dX8_breaksAt_5 : decode cX8_breaksAt 5 = .ok (.iaload, 1) := by decide +kernel
theorem dX8_breaksAt_6 : decode cX8_breaksAt 6 = .ok (.istore_n 2, 1) := by decide +kernel
theorem dX8_breaksAt_7 : decode cX8_breaksAt 7 = .ok (.iload_n 2, 1) := by decide +kernel
theorem dX8_breaksAt_8 : decode cX8_breaksAt 8 = .ok (.iconst (-1), 1) := by decide +kernel
theorem dX8_breaksAt_9 : decode cX8_breaksAt 9 = .ok (.if_icmp .ne 5, 3) := by decide +kernel
theorem dX8_breaksAt_12 : decode cX8_breaksAt 12 = .ok (.iconst 0, 1) := by decide +kernel
theorem dX8_breaksAt_13 : decode cX8_breaksAt 13 = .ok (.ireturn, 1) := by decide +kernel
theorem dX8_breaksAt_14 : decode cX8_breaksAt 14 = .ok (.iload_n 1, 1) := by decide +kernel
theorem dX8_breaksAt_15 : decode cX8_breaksAt 15 = .ok (.aload_n 0, 1) := by decide +kernel
theorem dX8_breaksAt_16 : decode cX8_breaksAt 16 = .ok (.getfield 19, 3) := by decide +kernel
theorem dX8_breaksAt_19 : decode cX8_breaksAt 19 = .ok (.iload_n 2, 1) := by decide +kernel

theorem dX8_breaksAt_20 : decode cX8_breaksAt 20 = .ok (.iaload, 1) := by decide +kernel
theorem dX8_breaksAt_21 : decode cX8_breaksAt 21 = .ok (.aload_n 0, 1) := by decide +kernel
theorem dX8_breaksAt_22 : decode cX8_breaksAt 22 = .ok (.getfield 22, 3) := by decide +kernel
theorem dX8_breaksAt_25 : decode cX8_breaksAt 25 = .ok (.iload_n 2, 1) := by decide +kernel
theorem dX8_breaksAt_26 : decode cX8_breaksAt 26 = .ok (.iaload, 1) := by decide +kernel
theorem dX8_breaksAt_27 : decode cX8_breaksAt 27 = .ok (.invokestatic 86, 3) := by decide +kernel
theorem dX8_breaksAt_30 : decode cX8_breaksAt 30 = .ok (.ifCond .ne 5, 3) := by decide +kernel
theorem dX8_breaksAt_33 : decode cX8_breaksAt 33 = .ok (.iconst 1, 1) := by decide +kernel
theorem dX8_breaksAt_34 : decode cX8_breaksAt 34 = .ok (.ireturn, 1) := by decide +kernel
theorem dX8_breaksAt_35 : decode cX8_breaksAt 35 = .ok (.aload_n 0, 1) := by decide +kernel
theorem dX8_breaksAt_36 : decode cX8_breaksAt 36 = .ok (.iload_n 1, 1) := by decide +kernel
theorem dX8_breaksAt_37 : decode cX8_breaksAt 37 = .ok (.iconst 1, 1) := by decide +kernel
theorem dX8_breaksAt_38 : decode cX8_breaksAt 38 = .ok (.isub, 1) := by decide +kernel
theorem dX8_breaksAt_39 : decode cX8_breaksAt 39 = .ok (.invokevirtual 143, 3) := by decide +kernel
theorem dX8_breaksAt_42 : decode cX8_breaksAt 42 = .ok (.iconst (-1), 1) := by decide +kernel
theorem dX8_breaksAt_43 : decode cX8_breaksAt 43 = .ok (.if_icmp .eq 26, 3) := by decide +kernel
theorem dX8_breaksAt_46 : decode cX8_breaksAt 46 = .ok (.aload_n 0, 1) := by decide +kernel
theorem dX8_breaksAt_47 : decode cX8_breaksAt 47 = .ok (.getfield 13, 3) := by decide +kernel
theorem dX8_breaksAt_50 : decode cX8_breaksAt 50 = .ok (.aload_n 0, 1) := by decide +kernel
theorem dX8_breaksAt_51 : decode cX8_breaksAt 51 = .ok (.iload_n 1, 1) := by decide +kernel
theorem dX8_breaksAt_52 : decode cX8_breaksAt 52 = .ok (.iconst 1, 1) := by decide +kernel
theorem dX8_breaksAt_53 : decode cX8_breaksAt 53 = .ok (.isub, 1) := by decide +kernel
theorem dX8_breaksAt_54 : decode cX8_breaksAt 54 = .ok (.invokevirtual 143, 3) := by decide +kernel
theorem dX8_breaksAt_57 : decode cX8_breaksAt 57 = .ok (.iaload, 1) := by decide +kernel
theorem dX8_breaksAt_58 : decode cX8_breaksAt 58 = .ok (.aload_n 0, 1) := by decide +kernel
theorem dX8_breaksAt_59 : decode cX8_breaksAt 59 = .ok (.getfield 13, 3) := by decide +kernel
theorem dX8_breaksAt_62 : decode cX8_breaksAt 62 = .ok (.iload_n 2, 1) := by decide +kernel
theorem dX8_breaksAt_63 : decode cX8_breaksAt 63 = .ok (.iaload, 1) := by decide +kernel
theorem dX8_breaksAt_64 : decode cX8_breaksAt 64 = .ok (.if_icmp .eq 5, 3) := by decide +kernel
theorem dX8_breaksAt_67 : decode cX8_breaksAt 67 = .ok (.iconst 2, 1) := by decide +kernel
theorem dX8_breaksAt_68 : decode cX8_breaksAt 68 = .ok (.ireturn, 1) := by decide +kernel
theorem dX8_breaksAt_69 : decode cX8_breaksAt 69 = .ok (.aload_n 0, 1) := by decide +kernel
theorem dX8_breaksAt_70 : decode cX8_breaksAt 70 = .ok (.iload_n 1, 1) := by decide +kernel
theorem dX8_breaksAt_71 : decode cX8_breaksAt 71 = .ok (.iconst 1, 1) := by decide +kernel
theorem dX8_breaksAt_72 : decode cX8_breaksAt 72 = .ok (.isub, 1) := by decide +kernel
theorem dX8_breaksAt_73 : decode cX8_breaksAt 73 = .ok (.aload_n 0, 1) := by decide +kernel
theorem dX8_breaksAt_74 : decode cX8_breaksAt 74 = .ok (.getfield 16, 3) := by decide +kernel
theorem dX8_breaksAt_77 : decode cX8_breaksAt 77 = .ok (.iload_n 2, 1) := by decide +kernel
theorem dX8_breaksAt_78 : decode cX8_breaksAt 78 = .ok (.iaload, 1) := by decide +kernel
theorem dX8_breaksAt_79 : decode cX8_breaksAt 79 = .ok (.invokevirtual 146, 3) := by decide +kernel
theorem dX8_breaksAt_82 : decode cX8_breaksAt 82 = .ok (.ifCond .eq 21, 3) := by decide +kernel
theorem dX8_breaksAt_85 : decode cX8_breaksAt 85 = .ok (.aload_n 0, 1) := by decide +kernel
theorem dX8_breaksAt_86 : decode cX8_breaksAt 86 = .ok (.iload_n 1, 1) := by decide +kernel
theorem dX8_breaksAt_87 : decode cX8_breaksAt 87 = .ok (.iconst 2, 1) := by decide +kernel
theorem dX8_breaksAt_88 : decode cX8_breaksAt 88 = .ok (.isub, 1) := by decide +kernel
theorem dX8_breaksAt_89 : decode cX8_breaksAt 89 = .ok (.aload_n 0, 1) := by decide +kernel
theorem dX8_breaksAt_90 : decode cX8_breaksAt 90 = .ok (.getfield 16, 3) := by decide +kernel
theorem dX8_breaksAt_93 : decode cX8_breaksAt 93 = .ok (.iload_n 2, 1) := by decide +kernel
theorem dX8_breaksAt_94 : decode cX8_breaksAt 94 = .ok (.iaload, 1) := by decide +kernel
theorem dX8_breaksAt_95 : decode cX8_breaksAt 95 = .ok (.invokevirtual 146, 3) := by decide +kernel
theorem dX8_breaksAt_98 : decode cX8_breaksAt 98 = .ok (.ifCond .eq 5, 3) := by decide +kernel
theorem dX8_breaksAt_101 : decode cX8_breaksAt 101 = .ok (.iconst 3, 1) := by decide +kernel
theorem dX8_breaksAt_102 : decode cX8_breaksAt 102 = .ok (.ireturn, 1) := by decide +kernel
theorem dX8_breaksAt_103 : decode cX8_breaksAt 103 = .ok (.aload_n 0, 1) := by decide +kernel
theorem dX8_breaksAt_104 : decode cX8_breaksAt 104 = .ok (.iload_n 2, 1) := by decide +kernel
theorem dX8_breaksAt_105 : decode cX8_breaksAt 105 = .ok (.invokevirtual 150, 3) := by decide +kernel
theorem dX8_breaksAt_108 : decode cX8_breaksAt 108 = .ok (.ifCond .eq 14, 3) := by decide +kernel
theorem dX8_breaksAt_111 : decode cX8_breaksAt 111 = .ok (.aload_n 0, 1) := by decide +kernel
theorem dX8_breaksAt_112 : decode cX8_breaksAt 112 = .ok (.iload_n 2, 1) := by decide +kernel
theorem dX8_breaksAt_113 : decode cX8_breaksAt 113 = .ok (.iload_n 1, 1) := by decide +kernel
theorem dX8_breaksAt_114 : decode cX8_breaksAt 114 = .ok (.invokevirtual 153, 3) := by decide +kernel
theorem dX8_breaksAt_117 : decode cX8_breaksAt 117 = .ok (.ifCond .le 5, 3) := by decide +kernel
theorem dX8_breaksAt_120 : decode cX8_breaksAt 120 = .ok (.iconst 4, 1) := by decide +kernel
theorem dX8_breaksAt_121 : decode cX8_breaksAt 121 = .ok (.ireturn, 1) := by decide +kernel
theorem dX8_breaksAt_122 : decode cX8_breaksAt 122 = .ok (.aload_n 0, 1) := by decide +kernel
theorem dX8_breaksAt_123 : decode cX8_breaksAt 123 = .ok (.getfield 7, 3) := by decide +kernel
theorem dX8_breaksAt_126 : decode cX8_breaksAt 126 = .ok (.iload_n 2, 1) := by decide +kernel
theorem dX8_breaksAt_127 : decode cX8_breaksAt 127 = .ok (.iaload, 1) := by decide +kernel
theorem dX8_breaksAt_128 : decode cX8_breaksAt 128 = .ok (.iconst 2, 1) := by decide +kernel
theorem dX8_breaksAt_129 : decode cX8_breaksAt 129 = .ok (.if_icmp .ne 19, 3) := by decide +kernel
theorem dX8_breaksAt_132 : decode cX8_breaksAt 132 = .ok (.aload_n 0, 1) := by decide +kernel
theorem dX8_breaksAt_133 : decode cX8_breaksAt 133 = .ok (.iload_n 1, 1) := by decide +kernel
theorem dX8_breaksAt_134 : decode cX8_breaksAt 134 = .ok (.aload_n 0, 1) := by decide +kernel
theorem dX8_breaksAt_135 : decode cX8_breaksAt 135 = .ok (.getfield 16, 3) := by decide +kernel
theorem dX8_breaksAt_138 : decode cX8_breaksAt 138 = .ok (.iload_n 2, 1) := by decide +kernel
theorem dX8_breaksAt_139 : decode cX8_breaksAt 139 = .ok (.iaload, 1) := by decide +kernel
theorem dX8_breaksAt_140 : decode cX8_breaksAt 140 = .ok (.invokevirtual 157, 3) := by decide +kernel
theorem dX8_breaksAt_143 : decode cX8_breaksAt 143 = .ok (.ifCond .eq 5, 3) := by decide +kernel
theorem dX8_breaksAt_146 : decode cX8_breaksAt 146 = .ok (.iconst 5, 1) := by decide +kernel
theorem dX8_breaksAt_147 : decode cX8_breaksAt 147 = .ok (.ireturn, 1) := by decide +kernel
theorem dX8_breaksAt_148 : decode cX8_breaksAt 148 = .ok (.aload_n 0, 1) := by decide +kernel
theorem dX8_breaksAt_149 : decode cX8_breaksAt 149 = .ok (.getfield 7, 3) := by decide +kernel
theorem dX8_breaksAt_152 : decode cX8_breaksAt 152 = .ok (.iload_n 2, 1) := by decide +kernel
theorem dX8_breaksAt_153 : decode cX8_breaksAt 153 = .ok (.iaload, 1) := by decide +kernel
theorem dX8_breaksAt_154 : decode cX8_breaksAt 154 = .ok (.iconst 3, 1) := by decide +kernel
theorem dX8_breaksAt_155 : decode cX8_breaksAt 155 = .ok (.if_icmp .ne 30, 3) := by decide +kernel
theorem dX8_breaksAt_158 : decode cX8_breaksAt 158 = .ok (.aload_n 0, 1) := by decide +kernel
theorem dX8_breaksAt_159 : decode cX8_breaksAt 159 = .ok (.iload_n 1, 1) := by decide +kernel
theorem dX8_breaksAt_160 : decode cX8_breaksAt 160 = .ok (.iconst 1, 1) := by decide +kernel
theorem dX8_breaksAt_161 : decode cX8_breaksAt 161 = .ok (.isub, 1) := by decide +kernel
theorem dX8_breaksAt_162 : decode cX8_breaksAt 162 = .ok (.invokevirtual 143, 3) := by decide +kernel
theorem dX8_breaksAt_165 : decode cX8_breaksAt 165 = .ok (.iload_n 2, 1) := by decide +kernel
theorem dX8_breaksAt_166 : decode cX8_breaksAt 166 = .ok (.if_icmp .eq 19, 3) := by decide +kernel
theorem dX8_breaksAt_169 : decode cX8_breaksAt 169 = .ok (.aload_n 0, 1) := by decide +kernel
theorem dX8_breaksAt_170 : decode cX8_breaksAt 170 = .ok (.iload_n 1, 1) := by decide +kernel
theorem dX8_breaksAt_171 : decode cX8_breaksAt 171 = .ok (.iconst 1, 1) := by decide +kernel
theorem dX8_breaksAt_172 : decode cX8_breaksAt 172 = .ok (.iadd, 1) := by decide +kernel
theorem dX8_breaksAt_173 : decode cX8_breaksAt 173 = .ok (.invokevirtual 143, 3) := by decide +kernel
theorem dX8_breaksAt_176 : decode cX8_breaksAt 176 = .ok (.iload_n 2, 1) := by decide +kernel
theorem dX8_breaksAt_177 : decode cX8_breaksAt 177 = .ok (.if_icmp .eq 8, 3) := by decide +kernel
theorem dX8_breaksAt_180 : decode cX8_breaksAt 180 = .ok (.bipush 6, 2) := by decide +kernel
theorem dX8_breaksAt_182 : decode cX8_breaksAt 182 = .ok (.goto 4, 3) := by decide +kernel
theorem dX8_breaksAt_185 : decode cX8_breaksAt 185 = .ok (.iconst 0, 1) := by decide +kernel
theorem dX8_breaksAt_186 : decode cX8_breaksAt 186 = .ok (.ireturn, 1) := by decide +kernel
theorem dX8_draws_0 : decode cX8_draws 0 = .ok (.aload_n 0, 1) := by decide +kernel
theorem dX8_draws_1 : decode cX8_draws 1 = .ok (.iload_n 1, 1) := by decide +kernel
theorem dX8_draws_2 : decode cX8_draws 2 = .ok (.invokevirtual 143, 3) := by decide +kernel
theorem dX8_draws_5 : decode cX8_draws 5 = .ok (.iconst (-1), 1) := by decide +kernel
theorem dX8_draws_6 : decode cX8_draws 6 = .ok (.if_icmp .eq 30, 3) := by decide +kernel
theorem dX8_draws_9 : decode cX8_draws 9 = .ok (.aload_n 0, 1) := by decide +kernel
theorem dX8_draws_10 : decode cX8_draws 10 = .ok (.iload_n 1, 1) := by decide +kernel
theorem dX8_draws_11 : decode cX8_draws 11 = .ok (.invokevirtual 143, 3) := by decide +kernel
theorem dX8_draws_14 : decode cX8_draws 14 = .ok (.iload_n 2, 1) := by decide +kernel
theorem dX8_draws_15 : decode cX8_draws 15 = .ok (.if_icmp .eq 21, 3) := by decide +kernel
theorem dX8_draws_18 : decode cX8_draws 18 = .ok (.aload_n 0, 1) := by decide +kernel
theorem dX8_draws_19 : decode cX8_draws 19 = .ok (.getfield 7, 3) := by decide +kernel
theorem dX8_draws_22 : decode cX8_draws 22 = .ok (.aload_n 0, 1) := by decide +kernel
theorem dX8_draws_23 : decode cX8_draws 23 = .ok (.iload_n 1, 1) := by decide +kernel
theorem dX8_draws_24 : decode cX8_draws 24 = .ok (.invokevirtual 143, 3) := by decide +kernel
theorem dX8_draws_27 : decode cX8_draws 27 = .ok (.iaload, 1) := by decide +kernel
theorem dX8_draws_28 : decode cX8_draws 28 = .ok (.iconst 4, 1) := by decide +kernel
theorem dX8_draws_29 : decode cX8_draws 29 = .ok (.if_icmp .ne 7, 3) := by decide +kernel
theorem dX8_draws_32 : decode cX8_draws 32 = .ok (.iconst 1, 1) := by decide +kernel
theorem dX8_draws_33 : decode cX8_draws 33 = .ok (.goto 4, 3) := by decide +kernel
theorem dX8_draws_36 : decode cX8_draws 36 = .ok (.iconst 0, 1) := by decide +kernel
theorem dX8_draws_37 : decode cX8_draws 37 = .ok (.ireturn, 1) := by decide +kernel
theorem dX8_seatsAt_0 : decode cX8_seatsAt 0 = .ok (.aload_n 0, 1) := by decide +kernel
theorem dX8_seatsAt_1 : decode cX8_seatsAt 1 = .ok (.getfield 28, 3) := by decide +kernel
theorem dX8_seatsAt_4 : decode cX8_seatsAt 4 = .ok (.iload_n 1, 1) := by decide +kernel
theorem dX8_seatsAt_5 : decode cX8_seatsAt 5 = .ok (.iaload, 1) := by decide +kernel
theorem dX8_seatsAt_6 : decode cX8_seatsAt 6 = .ok (.istore_n 2, 1) := by decide +kernel
theorem dX8_seatsAt_7 : decode cX8_seatsAt 7 = .ok (.iload_n 2, 1) := by decide +kernel
theorem dX8_seatsAt_8 : decode cX8_seatsAt 8 = .ok (.iconst (-1), 1) := by decide +kernel
theorem dX8_seatsAt_9 : decode cX8_seatsAt 9 = .ok (.if_icmp .ne 5, 3) := by decide +kernel
theorem dX8_seatsAt_12 : decode cX8_seatsAt 12 = .ok (.iconst 0, 1) := by decide +kernel
theorem dX8_seatsAt_13 : decode cX8_seatsAt 13 = .ok (.ireturn, 1) := by decide +kernel
theorem dX8_seatsAt_14 : decode cX8_seatsAt 14 = .ok (.bipush 100, 2) := by decide +kernel
theorem dX8_seatsAt_16 : decode cX8_seatsAt 16 = .ok (.aload_n 0, 1) := by decide +kernel
theorem dX8_seatsAt_17 : decode cX8_seatsAt 17 = .ok (.getfield 25, 3) := by decide +kernel
theorem dX8_seatsAt_20 : decode cX8_seatsAt 20 = .ok (.iload_n 2, 1) := by decide +kernel
theorem dX8_seatsAt_21 : decode cX8_seatsAt 21 = .ok (.iaload, 1) := by decide +kernel
theorem dX8_seatsAt_22 : decode cX8_seatsAt 22 = .ok (.imul, 1) := by decide +kernel
theorem dX8_seatsAt_23 : decode cX8_seatsAt 23 = .ok (.istore_n 3, 1) := by decide +kernel
theorem dX8_seatsAt_24 : decode cX8_seatsAt 24 = .ok (.aload_n 0, 1) := by decide +kernel
theorem dX8_seatsAt_25 : decode cX8_seatsAt 25 = .ok (.iload_n 2, 1) := by decide +kernel
theorem dX8_seatsAt_26 : decode cX8_seatsAt 26 = .ok (.iload_n 1, 1) := by decide +kernel
theorem dX8_seatsAt_27 : decode cX8_seatsAt 27 = .ok (.invokevirtual 153, 3) := by decide +kernel
theorem dX8_seatsAt_30 : decode cX8_seatsAt 30 = .ok (.istore 4, 2) := by decide +kernel
theorem dX8_seatsAt_32 : decode cX8_seatsAt 32 = .ok (.iconst 0, 1) := by decide +kernel
theorem dX8_seatsAt_33 : decode cX8_seatsAt 33 = .ok (.istore 5, 2) := by decide +kernel
theorem dX8_seatsAt_35 : decode cX8_seatsAt 35 = .ok (.iload 5, 2) := by decide +kernel
theorem dX8_seatsAt_37 : decode cX8_seatsAt 37 = .ok (.iload 4, 2) := by decide +kernel
theorem dX8_seatsAt_39 : decode cX8_seatsAt 39 = .ok (.if_icmp .ge 23, 3) := by decide +kernel
theorem dX8_seatsAt_42 : decode cX8_seatsAt 42 = .ok (.iload 5, 2) := by decide +kernel
theorem dX8_seatsAt_44 : decode cX8_seatsAt 44 = .ok (.iconst 3, 1) := by decide +kernel
theorem dX8_seatsAt_45 : decode cX8_seatsAt 45 = .ok (.if_icmp .ge 17, 3) := by decide +kernel
theorem dX8_seatsAt_48 : decode cX8_seatsAt 48 = .ok (.iload_n 3, 1) := by decide +kernel
theorem dX8_seatsAt_49 : decode cX8_seatsAt 49 = .ok (.bipush 70, 2) := by decide +kernel
theorem dX8_seatsAt_51 : decode cX8_seatsAt 51 = .ok (.imul, 1) := by decide +kernel
theorem dX8_seatsAt_52 : decode cX8_seatsAt 52 = .ok (.bipush 100, 2) := by decide +kernel
theorem dX8_seatsAt_54 : decode cX8_seatsAt 54 = .ok (.idiv, 1) := by decide +kernel
theorem dX8_seatsAt_55 : decode cX8_seatsAt 55 = .ok (.istore_n 3, 1) := by decide +kernel
theorem dX8_seatsAt_56 : decode cX8_seatsAt 56 = .ok (.iinc 5 1, 3) := by decide +kernel
theorem dX8_seatsAt_59 : decode cX8_seatsAt 59 = .ok (.goto (-24), 3) := by decide +kernel
theorem dX8_seatsAt_62 : decode cX8_seatsAt 62 = .ok (.aload_n 0, 1) := by decide +kernel
theorem dX8_seatsAt_63 : decode cX8_seatsAt 63 = .ok (.iload_n 2, 1) := by decide +kernel
theorem dX8_seatsAt_64 : decode cX8_seatsAt 64 = .ok (.invokevirtual 150, 3) := by decide +kernel
theorem dX8_seatsAt_67 : decode cX8_seatsAt 67 = .ok (.ifCond .eq 11, 3) := by decide +kernel
theorem dX8_seatsAt_70 : decode cX8_seatsAt 70 = .ok (.iconst 3, 1) := by decide +kernel
theorem dX8_seatsAt_71 : decode cX8_seatsAt 71 = .ok (.iload_n 3, 1) := by decide +kernel
theorem dX8_seatsAt_72 : decode cX8_seatsAt 72 = .ok (.imul, 1) := by decide +kernel
theorem dX8_seatsAt_73 : decode cX8_seatsAt 73 = .ok (.iconst 2, 1) := by decide +kernel
theorem dX8_seatsAt_74 : decode cX8_seatsAt 74 = .ok (.idiv, 1) := by decide +kernel
theorem dX8_seatsAt_75 : decode cX8_seatsAt 75 = .ok (.goto 4, 3) := by decide +kernel
theorem dX8_seatsAt_78 : decode cX8_seatsAt 78 = .ok (.iload_n 3, 1) := by decide +kernel
theorem dX8_seatsAt_79 : decode cX8_seatsAt 79 = .ok (.istore_n 3, 1) := by decide +kernel
theorem dX8_seatsAt_80 : decode cX8_seatsAt 80 = .ok (.aload_n 0, 1) := by decide +kernel
theorem dX8_seatsAt_81 : decode cX8_seatsAt 81 = .ok (.iload_n 1, 1) := by decide +kernel
theorem dX8_seatsAt_82 : decode cX8_seatsAt 82 = .ok (.iconst 1, 1) := by decide +kernel
theorem dX8_seatsAt_83 : decode cX8_seatsAt 83 = .ok (.isub, 1) := by decide +kernel
theorem dX8_seatsAt_84 : decode cX8_seatsAt 84 = .ok (.iload_n 2, 1) := by decide +kernel
theorem dX8_seatsAt_85 : decode cX8_seatsAt 85 = .ok (.invokevirtual 160, 3) := by decide +kernel
theorem dX8_seatsAt_88 : decode cX8_seatsAt 88 = .ok (.ifCond .ne 14, 3) := by decide +kernel
theorem dX8_seatsAt_91 : decode cX8_seatsAt 91 = .ok (.aload_n 0, 1) := by decide +kernel
theorem dX8_seatsAt_92 : decode cX8_seatsAt 92 = .ok (.iload_n 1, 1) := by decide +kernel
theorem dX8_seatsAt_93 : decode cX8_seatsAt 93 = .ok (.iconst 1, 1) := by decide +kernel
theorem dX8_seatsAt_94 : decode cX8_seatsAt 94 = .ok (.iadd, 1) := by decide +kernel
theorem dX8_seatsAt_95 : decode cX8_seatsAt 95 = .ok (.iload_n 2, 1) := by decide +kernel
theorem dX8_seatsAt_96 : decode cX8_seatsAt 96 = .ok (.invokevirtual 160, 3) := by decide +kernel
theorem dX8_seatsAt_99 : decode cX8_seatsAt 99 = .ok (.ifCond .eq 10, 3) := by decide +kernel
theorem dX8_seatsAt_102 : decode cX8_seatsAt 102 = .ok (.iload_n 3, 1) := by decide +kernel
theorem dX8_seatsAt_103 : decode cX8_seatsAt 103 = .ok (.bipush 50, 2) := by decide +kernel
theorem dX8_seatsAt_105 : decode cX8_seatsAt 105 = .ok (.iadd, 1) := by decide +kernel
theorem dX8_seatsAt_106 : decode cX8_seatsAt 106 = .ok (.goto 4, 3) := by decide +kernel
theorem dX8_seatsAt_109 : decode cX8_seatsAt 109 = .ok (.iload_n 3, 1) := by decide +kernel
theorem dX8_seatsAt_110 : decode cX8_seatsAt 110 = .ok (.ireturn, 1) := by decide +kernel
theorem dX8_breaks_0 : decode cX8_breaks 0 = .ok (.iconst 0, 1) := by decide +kernel
theorem dX8_breaks_1 : decode cX8_breaks 1 = .ok (.istore_n 1, 1) := by decide +kernel
theorem dX8_breaks_2 : decode cX8_breaks 2 = .ok (.iconst 0, 1) := by decide +kernel
theorem dX8_breaks_3 : decode cX8_breaks 3 = .ok (.istore_n 2, 1) := by decide +kernel
theorem dX8_breaks_4 : decode cX8_breaks 4 = .ok (.iload_n 2, 1) := by decide +kernel
theorem dX8_breaks_5 : decode cX8_breaks 5 = .ok (.bipush 12, 2) := by decide +kernel
theorem dX8_breaks_7 : decode cX8_breaks 7 = .ok (.if_icmp .ge 25, 3) := by decide +kernel
theorem dX8_breaks_10 : decode cX8_breaks 10 = .ok (.iload_n 1, 1) := by decide +kernel
theorem dX8_breaks_11 : decode cX8_breaks 11 = .ok (.aload_n 0, 1) := by decide +kernel
theorem dX8_breaks_12 : decode cX8_breaks 12 = .ok (.iload_n 2, 1) := by decide +kernel
theorem dX8_breaks_13 : decode cX8_breaks 13 = .ok (.invokevirtual 163, 3) := by decide +kernel
theorem dX8_breaks_16 : decode cX8_breaks 16 = .ok (.ifCond .le 7, 3) := by decide +kernel
theorem dX8_breaks_19 : decode cX8_breaks 19 = .ok (.iconst 1, 1) := by decide +kernel
theorem dX8_breaks_20 : decode cX8_breaks 20 = .ok (.goto 4, 3) := by decide +kernel
theorem dX8_breaks_23 : decode cX8_breaks 23 = .ok (.iconst 0, 1) := by decide +kernel
theorem dX8_breaks_24 : decode cX8_breaks 24 = .ok (.iadd, 1) := by decide +kernel
theorem dX8_breaks_25 : decode cX8_breaks 25 = .ok (.istore_n 1, 1) := by decide +kernel
theorem dX8_breaks_26 : decode cX8_breaks 26 = .ok (.iinc 2 1, 3) := by decide +kernel
theorem dX8_breaks_29 : decode cX8_breaks 29 = .ok (.goto (-25), 3) := by decide +kernel
theorem dX8_breaks_32 : decode cX8_breaks 32 = .ok (.iload_n 1, 1) := by decide +kernel
theorem dX8_breaks_33 : decode cX8_breaks 33 = .ok (.ireturn, 1) := by decide +kernel
theorem dX8_lost_0 : decode cX8_lost 0 = .ok (.bipush 12, 2) := by decide +kernel
theorem dX8_lost_2 : decode cX8_lost 2 = .ok (.aload_n 0, 1) := by decide +kernel
theorem dX8_lost_3 : decode cX8_lost 3 = .ok (.invokevirtual 137, 3) := by decide +kernel
theorem dX8_lost_6 : decode cX8_lost 6 = .ok (.isub, 1) := by decide +kernel
theorem dX8_lost_7 : decode cX8_lost 7 = .ok (.aload_n 0, 1) := by decide +kernel
theorem dX8_lost_8 : decode cX8_lost 8 = .ok (.invokevirtual 166, 3) := by decide +kernel
theorem dX8_lost_11 : decode cX8_lost 11 = .ok (.iadd, 1) := by decide +kernel
theorem dX8_lost_12 : decode cX8_lost 12 = .ok (.ireturn, 1) := by decide +kernel
theorem dX8_earned_0 : decode cX8_earned 0 = .ok (.iconst 0, 1) := by decide +kernel
theorem dX8_earned_1 : decode cX8_earned 1 = .ok (.istore_n 1, 1) := by decide +kernel
theorem dX8_earned_2 : decode cX8_earned 2 = .ok (.iconst 0, 1) := by decide +kernel
theorem dX8_earned_3 : decode cX8_earned 3 = .ok (.istore_n 2, 1) := by decide +kernel
theorem dX8_earned_4 : decode cX8_earned 4 = .ok (.iload_n 2, 1) := by decide +kernel
theorem dX8_earned_5 : decode cX8_earned 5 = .ok (.bipush 12, 2) := by decide +kernel
theorem dX8_earned_7 : decode cX8_earned 7 = .ok (.if_icmp .ge 29, 3) := by decide +kernel
theorem dX8_earned_10 : decode cX8_earned 10 = .ok (.iload_n 1, 1) := by decide +kernel
theorem dX8_earned_11 : decode cX8_earned 11 = .ok (.aload_n 0, 1) := by decide +kernel
theorem dX8_earned_12 : decode cX8_earned 12 = .ok (.iload_n 2, 1) := by decide +kernel
theorem dX8_earned_13 : decode cX8_earned 13 = .ok (.invokevirtual 163, 3) := by decide +kernel
theorem dX8_earned_16 : decode cX8_earned 16 = .ok (.ifCond .ne 11, 3) := by decide +kernel
theorem dX8_earned_19 : decode cX8_earned 19 = .ok (.aload_n 0, 1) := by decide +kernel
theorem dX8_earned_20 : decode cX8_earned 20 = .ok (.iload_n 2, 1) := by decide +kernel
theorem dX8_earned_21 : decode cX8_earned 21 = .ok (.invokevirtual 169, 3) := by decide +kernel
theorem dX8_earned_24 : decode cX8_earned 24 = .ok (.goto 4, 3) := by decide +kernel
theorem dX8_earned_27 : decode cX8_earned 27 = .ok (.iconst 0, 1) := by decide +kernel
theorem dX8_earned_28 : decode cX8_earned 28 = .ok (.iadd, 1) := by decide +kernel
theorem dX8_earned_29 : decode cX8_earned 29 = .ok (.istore_n 1, 1) := by decide +kernel
theorem dX8_earned_30 : decode cX8_earned 30 = .ok (.iinc 2 1, 3) := by decide +kernel
theorem dX8_earned_33 : decode cX8_earned 33 = .ok (.goto (-29), 3) := by decide +kernel
theorem dX8_earned_36 : decode cX8_earned 36 = .ok (.iload_n 1, 1) := by decide +kernel
theorem dX8_earned_37 : decode cX8_earned 37 = .ok (.ireturn, 1) := by decide +kernel
theorem dX8_titleNow_0 : decode cX8_titleNow 0 = .ok (.iload_n 2, 1) := by decide +kernel
theorem dX8_titleNow_1 : decode cX8_titleNow 1 = .ok (.tableswitch 103 0 7 #[47, 54, 61, 68, 75, 82, 89, 97], 47) := by decide +kernel
theorem dX8_titleNow_48 : decode cX8_titleNow 48 = .ok (.aload_n 0, 1) := by decide +kernel
theorem dX8_titleNow_49 : decode cX8_titleNow 49 = .ok (.getfield 7, 3) := by decide +kernel
theorem dX8_titleNow_52 : decode cX8_titleNow 52 = .ok (.iload_n 1, 1) := by decide +kernel
theorem dX8_titleNow_53 : decode cX8_titleNow 53 = .ok (.iaload, 1) := by decide +kernel
theorem dX8_titleNow_54 : decode cX8_titleNow 54 = .ok (.ireturn, 1) := by decide +kernel
theorem dX8_titleNow_55 : decode cX8_titleNow 55 = .ok (.aload_n 0, 1) := by decide +kernel
theorem dX8_titleNow_56 : decode cX8_titleNow 56 = .ok (.getfield 13, 3) := by decide +kernel
theorem dX8_titleNow_59 : decode cX8_titleNow 59 = .ok (.iload_n 1, 1) := by decide +kernel
theorem dX8_titleNow_60 : decode cX8_titleNow 60 = .ok (.iaload, 1) := by decide +kernel
theorem dX8_titleNow_61 : decode cX8_titleNow 61 = .ok (.ireturn, 1) := by decide +kernel
theorem dX8_titleNow_62 : decode cX8_titleNow 62 = .ok (.aload_n 0, 1) := by decide +kernel
theorem dX8_titleNow_63 : decode cX8_titleNow 63 = .ok (.getfield 16, 3) := by decide +kernel
theorem dX8_titleNow_66 : decode cX8_titleNow 66 = .ok (.iload_n 1, 1) := by decide +kernel
theorem dX8_titleNow_67 : decode cX8_titleNow 67 = .ok (.iaload, 1) := by decide +kernel
theorem dX8_titleNow_68 : decode cX8_titleNow 68 = .ok (.ireturn, 1) := by decide +kernel
theorem dX8_titleNow_69 : decode cX8_titleNow 69 = .ok (.aload_n 0, 1) := by decide +kernel
theorem dX8_titleNow_70 : decode cX8_titleNow 70 = .ok (.getfield 19, 3) := by decide +kernel
theorem dX8_titleNow_73 : decode cX8_titleNow 73 = .ok (.iload_n 1, 1) := by decide +kernel
theorem dX8_titleNow_74 : decode cX8_titleNow 74 = .ok (.iaload, 1) := by decide +kernel
theorem dX8_titleNow_75 : decode cX8_titleNow 75 = .ok (.ireturn, 1) := by decide +kernel
theorem dX8_titleNow_76 : decode cX8_titleNow 76 = .ok (.aload_n 0, 1) := by decide +kernel
theorem dX8_titleNow_77 : decode cX8_titleNow 77 = .ok (.getfield 22, 3) := by decide +kernel
theorem dX8_titleNow_80 : decode cX8_titleNow 80 = .ok (.iload_n 1, 1) := by decide +kernel
theorem dX8_titleNow_81 : decode cX8_titleNow 81 = .ok (.iaload, 1) := by decide +kernel
theorem dX8_titleNow_82 : decode cX8_titleNow 82 = .ok (.ireturn, 1) := by decide +kernel
theorem dX8_titleNow_83 : decode cX8_titleNow 83 = .ok (.aload_n 0, 1) := by decide +kernel
theorem dX8_titleNow_84 : decode cX8_titleNow 84 = .ok (.getfield 25, 3) := by decide +kernel
theorem dX8_titleNow_87 : decode cX8_titleNow 87 = .ok (.iload_n 1, 1) := by decide +kernel
theorem dX8_titleNow_88 : decode cX8_titleNow 88 = .ok (.iaload, 1) := by decide +kernel
theorem dX8_titleNow_89 : decode cX8_titleNow 89 = .ok (.ireturn, 1) := by decide +kernel
theorem dX8_titleNow_90 : decode cX8_titleNow 90 = .ok (.aload_n 0, 1) := by decide +kernel
theorem dX8_titleNow_91 : decode cX8_titleNow 91 = .ok (.iload_n 1, 1) := by decide +kernel
theorem dX8_titleNow_92 : decode cX8_titleNow 92 = .ok (.bipush 12, 2) := by decide +kernel
theorem dX8_titleNow_94 : decode cX8_titleNow 94 = .ok (.invokevirtual 153, 3) := by decide +kernel
theorem dX8_titleNow_97 : decode cX8_titleNow 97 = .ok (.ireturn, 1) := by decide +kernel
theorem dX8_titleNow_98 : decode cX8_titleNow 98 = .ok (.aload_n 0, 1) := by decide +kernel
theorem dX8_titleNow_99 : decode cX8_titleNow 99 = .ok (.iload_n 1, 1) := by decide +kernel
theorem dX8_titleNow_100 : decode cX8_titleNow 100 = .ok (.invokevirtual 172, 3) := by decide +kernel
theorem dX8_titleNow_103 : decode cX8_titleNow 103 = .ok (.ireturn, 1) := by decide +kernel
theorem dX8_titleNow_104 : decode cX8_titleNow 104 = .ok (.aload_n 0, 1) := by decide +kernel
theorem dX8_titleNow_105 : decode cX8_titleNow 105 = .ok (.iload_n 1, 1) := by decide +kernel
theorem dX8_titleNow_106 : decode cX8_titleNow 106 = .ok (.invokevirtual 175, 3) := by decide +kernel
theorem dX8_titleNow_109 : decode cX8_titleNow 109 = .ok (.ireturn, 1) := by decide +kernel
theorem dX8_title_0 : decode cX8_title 0 = .ok (.aload_n 0, 1) := by decide +kernel
theorem dX8_title_1 : decode cX8_title 1 = .ok (.iload_n 1, 1) := by decide +kernel
theorem dX8_title_2 : decode cX8_title 2 = .ok (.invokevirtual 133, 3) := by decide +kernel
theorem dX8_title_5 : decode cX8_title 5 = .ok (.ifCond .ne 8, 3) := by decide +kernel
theorem dX8_title_8 : decode cX8_title 8 = .ok (.bipush (-101), 2) := by decide +kernel
theorem dX8_title_10 : decode cX8_title 10 = .ok (.goto 24, 3) := by decide +kernel
theorem dX8_title_13 : decode cX8_title 13 = .ok (.iload_n 2, 1) := by decide +kernel
theorem dX8_title_14 : decode cX8_title 14 = .ok (.iconst 0, 1) := by decide +kernel
theorem dX8_title_15 : decode cX8_title 15 = .ok (.bipush 8, 2) := by decide +kernel
theorem dX8_title_17 : decode cX8_title 17 = .ok (.invokestatic 86, 3) := by decide +kernel
theorem dX8_title_20 : decode cX8_title 20 = .ok (.ifCond .eq 12, 3) := by decide +kernel
theorem dX8_title_23 : decode cX8_title 23 = .ok (.aload_n 0, 1) := by decide +kernel
theorem dX8_title_24 : decode cX8_title 24 = .ok (.iload_n 1, 1) := by decide +kernel
theorem dX8_title_25 : decode cX8_title 25 = .ok (.iload_n 2, 1) := by decide +kernel
theorem dX8_title_26 : decode cX8_title 26 = .ok (.invokevirtual 178, 3) := by decide +kernel
theorem dX8_title_29 : decode cX8_title 29 = .ok (.goto 5, 3) := by decide +kernel
theorem dX8_title_32 : decode cX8_title 32 = .ok (.bipush (-102), 2) := by decide +kernel
theorem dX8_title_34 : decode cX8_title 34 = .ok (.ireturn, 1) := by decide +kernel
theorem dX8_as_0 : decode cX8_as 0 = .ok (.aload_n 0, 1) := by decide +kernel
theorem dX8_as_1 : decode cX8_as 1 = .ok (.iload_n 1, 1) := by decide +kernel
theorem dX8_as_2 : decode cX8_as 2 = .ok (.invokevirtual 133, 3) := by decide +kernel
theorem dX8_as_5 : decode cX8_as 5 = .ok (.ifCond .ne 6, 3) := by decide +kernel
theorem dX8_as_8 : decode cX8_as 8 = .ok (.bipush (-101), 2) := by decide +kernel
theorem dX8_as_10 : decode cX8_as 10 = .ok (.ireturn, 1) := by decide +kernel
theorem dX8_as_11 : decode cX8_as 11 = .ok (.iload_n 2, 1) := by decide +kernel
theorem dX8_as_12 : decode cX8_as 12 = .ok (.iconst 0, 1) := by decide +kernel
theorem dX8_as_13 : decode cX8_as 13 = .ok (.iconst 4, 1) := by decide +kernel
theorem dX8_as_14 : decode cX8_as 14 = .ok (.invokestatic 86, 3) := by decide +kernel
theorem dX8_as_17 : decode cX8_as 17 = .ok (.ifCond .ne 6, 3) := by decide +kernel
theorem dX8_as_20 : decode cX8_as 20 = .ok (.bipush (-102), 2) := by decide +kernel
theorem dX8_as_22 : decode cX8_as 22 = .ok (.ireturn, 1) := by decide +kernel
theorem dX8_as_23 : decode cX8_as 23 = .ok (.aload_n 0, 1) := by decide +kernel
theorem dX8_as_24 : decode cX8_as 24 = .ok (.getfield 7, 3) := by decide +kernel
theorem dX8_as_27 : decode cX8_as 27 = .ok (.iload_n 1, 1) := by decide +kernel
theorem dX8_as_28 : decode cX8_as 28 = .ok (.iaload, 1) := by decide +kernel
theorem dX8_as_29 : decode cX8_as 29 = .ok (.istore_n 3, 1) := by decide +kernel
theorem dX8_as_30 : decode cX8_as 30 = .ok (.iload_n 2, 1) := by decide +kernel
theorem dX8_as_31 : decode cX8_as 31 = .ok (.ifCond .eq 18, 3) := by decide +kernel
theorem dX8_as_34 : decode cX8_as 34 = .ok (.iload_n 3, 1) := by decide +kernel
theorem dX8_as_35 : decode cX8_as 35 = .ok (.iload_n 2, 1) := by decide +kernel
theorem dX8_as_36 : decode cX8_as 36 = .ok (.if_icmp .eq 13, 3) := by decide +kernel
theorem dX8_as_39 : decode cX8_as 39 = .ok (.iload_n 2, 1) := by decide +kernel
theorem dX8_as_40 : decode cX8_as 40 = .ok (.iconst 1, 1) := by decide +kernel
theorem dX8_as_41 : decode cX8_as 41 = .ok (.if_icmp .ne 12, 3) := by decide +kernel
theorem dX8_as_44 : decode cX8_as 44 = .ok (.iload_n 3, 1) := by decide +kernel
theorem dX8_as_45 : decode cX8_as 45 = .ok (.iconst 2, 1) := by decide +kernel
theorem dX8_as_46 : decode cX8_as 46 = .ok (.if_icmp .ne 7, 3) := by decide +kernel
theorem dX8_as_49 : decode cX8_as 49 = .ok (.iload_n 1, 1) := by decide +kernel
theorem dX8_as_50 : decode cX8_as 50 = .ok (.goto 4, 3) := by decide +kernel
theorem dX8_as_53 : decode cX8_as 53 = .ok (.iconst (-1), 1) := by decide +kernel
theorem dX8_as_54 : decode cX8_as 54 = .ok (.ireturn, 1) := by decide +kernel
theorem dX8_nightNow_0 : decode cX8_nightNow 0 = .ok (.iload_n 2, 1) := by decide +kernel
theorem dX8_nightNow_1 : decode cX8_nightNow 1 = .ok (.ifCond .ne 12, 3) := by decide +kernel
theorem dX8_nightNow_4 : decode cX8_nightNow 4 = .ok (.aload_n 0, 1) := by decide +kernel
theorem dX8_nightNow_5 : decode cX8_nightNow 5 = .ok (.getfield 28, 3) := by decide +kernel
theorem dX8_nightNow_8 : decode cX8_nightNow 8 = .ok (.iload_n 1, 1) := by decide +kernel
theorem dX8_nightNow_9 : decode cX8_nightNow 9 = .ok (.iaload, 1) := by decide +kernel
theorem dX8_nightNow_10 : decode cX8_nightNow 10 = .ok (.goto 21, 3) := by decide +kernel
theorem dX8_nightNow_13 : decode cX8_nightNow 13 = .ok (.iload_n 2, 1) := by decide +kernel
theorem dX8_nightNow_14 : decode cX8_nightNow 14 = .ok (.iconst 1, 1) := by decide +kernel
theorem dX8_nightNow_15 : decode cX8_nightNow 15 = .ok (.if_icmp .ne 11, 3) := by decide +kernel
theorem dX8_nightNow_18 : decode cX8_nightNow 18 = .ok (.aload_n 0, 1) := by decide +kernel
theorem dX8_nightNow_19 : decode cX8_nightNow 19 = .ok (.iload_n 1, 1) := by decide +kernel
theorem dX8_nightNow_20 : decode cX8_nightNow 20 = .ok (.invokevirtual 163, 3) := by decide +kernel
theorem dX8_nightNow_23 : decode cX8_nightNow 23 = .ok (.goto 8, 3) := by decide +kernel
theorem dX8_nightNow_26 : decode cX8_nightNow 26 = .ok (.aload_n 0, 1) := by decide +kernel
theorem dX8_nightNow_27 : decode cX8_nightNow 27 = .ok (.iload_n 1, 1) := by decide +kernel
theorem dX8_nightNow_28 : decode cX8_nightNow 28 = .ok (.invokevirtual 169, 3) := by decide +kernel
theorem dX8_nightNow_31 : decode cX8_nightNow 31 = .ok (.ireturn, 1) := by decide +kernel
theorem dX8_night_0 : decode cX8_night 0 = .ok (.iload_n 1, 1) := by decide +kernel
theorem dX8_night_1 : decode cX8_night 1 = .ok (.invokestatic 140, 3) := by decide +kernel
theorem dX8_night_4 : decode cX8_night 4 = .ok (.ifCond .eq 10, 3) := by decide +kernel
theorem dX8_night_7 : decode cX8_night 7 = .ok (.aload_n 0, 1) := by decide +kernel
theorem dX8_night_8 : decode cX8_night 8 = .ok (.getfield 124, 3) := by decide +kernel
theorem dX8_night_11 : decode cX8_night 11 = .ok (.ifCond .ne 6, 3) := by decide +kernel
theorem dX8_night_14 : decode cX8_night 14 = .ok (.bipush (-101), 2) := by decide +kernel
theorem dX8_night_16 : decode cX8_night 16 = .ok (.ireturn, 1) := by decide +kernel
theorem dX8_night_17 : decode cX8_night 17 = .ok (.iload_n 2, 1) := by decide +kernel
theorem dX8_night_18 : decode cX8_night 18 = .ok (.iconst 0, 1) := by decide +kernel
theorem dX8_night_19 : decode cX8_night 19 = .ok (.iconst 2, 1) := by decide +kernel
theorem dX8_night_20 : decode cX8_night 20 = .ok (.invokestatic 86, 3) := by decide +kernel
theorem dX8_night_23 : decode cX8_night 23 = .ok (.ifCond .eq 12, 3) := by decide +kernel
theorem dX8_night_26 : decode cX8_night 26 = .ok (.aload_n 0, 1) := by decide +kernel
theorem dX8_night_27 : decode cX8_night 27 = .ok (.iload_n 1, 1) := by decide +kernel
theorem dX8_night_28 : decode cX8_night 28 = .ok (.iload_n 2, 1) := by decide +kernel
theorem dX8_night_29 : decode cX8_night 29 = .ok (.invokevirtual 181, 3) := by decide +kernel
theorem dX8_night_32 : decode cX8_night 32 = .ok (.goto 5, 3) := by decide +kernel
theorem dX8_night_35 : decode cX8_night 35 = .ok (.bipush (-102), 2) := by decide +kernel
theorem dX8_night_37 : decode cX8_night 37 = .ok (.ireturn, 1) := by decide +kernel
theorem dX8_play_0 : decode cX8_play 0 = .ok (.iload_n 1, 1) := by decide +kernel
theorem dX8_play_1 : decode cX8_play 1 = .ok (.invokestatic 140, 3) := by decide +kernel
theorem dX8_play_4 : decode cX8_play 4 = .ok (.ifCond .eq 23, 3) := by decide +kernel
theorem dX8_play_7 : decode cX8_play 7 = .ok (.aload_n 0, 1) := by decide +kernel
theorem dX8_play_8 : decode cX8_play 8 = .ok (.getfield 124, 3) := by decide +kernel
theorem dX8_play_11 : decode cX8_play 11 = .ok (.ifCond .eq 16, 3) := by decide +kernel
theorem dX8_play_14 : decode cX8_play 14 = .ok (.iload_n 2, 1) := by decide +kernel
theorem dX8_play_15 : decode cX8_play 15 = .ok (.iconst (-1), 1) := by decide +kernel
theorem dX8_play_16 : decode cX8_play 16 = .ok (.if_icmp .eq 14, 3) := by decide +kernel
theorem dX8_play_19 : decode cX8_play 19 = .ok (.aload_n 0, 1) := by decide +kernel
theorem dX8_play_20 : decode cX8_play 20 = .ok (.iload_n 2, 1) := by decide +kernel
theorem dX8_play_21 : decode cX8_play 21 = .ok (.invokevirtual 133, 3) := by decide +kernel
theorem dX8_play_24 : decode cX8_play 24 = .ok (.ifCond .ne 6, 3) := by decide +kernel
theorem dX8_play_27 : decode cX8_play 27 = .ok (.bipush (-101), 2) := by decide +kernel
theorem dX8_play_29 : decode cX8_play 29 = .ok (.ireturn, 1) := by decide +kernel
theorem dX8_play_30 : decode cX8_play 30 = .ok (.aload_n 0, 1) := by decide +kernel
theorem dX8_play_31 : decode cX8_play 31 = .ok (.getfield 28, 3) := by decide +kernel
theorem dX8_play_34 : decode cX8_play 34 = .ok (.iload_n 1, 1) := by decide +kernel
theorem dX8_play_35 : decode cX8_play 35 = .ok (.iload_n 2, 1) := by decide +kernel
theorem dX8_play_36 : decode cX8_play 36 = .ok (.iastore, 1) := by decide +kernel
theorem dX8_play_37 : decode cX8_play 37 = .ok (.aload_n 0, 1) := by decide +kernel
theorem dX8_play_38 : decode cX8_play 38 = .ok (.invokevirtual 166, 3) := by decide +kernel
theorem dX8_play_41 : decode cX8_play 41 = .ok (.ireturn, 1) := by decide +kernel
theorem dX8_delay_0 : decode cX8_delay 0 = .ok (.iload_n 1, 1) := by decide +kernel
theorem dX8_delay_1 : decode cX8_delay 1 = .ok (.iconst 1, 1) := by decide +kernel
theorem dX8_delay_2 : decode cX8_delay 2 = .ok (.bipush 11, 2) := by decide +kernel
theorem dX8_delay_4 : decode cX8_delay 4 = .ok (.invokestatic 86, 3) := by decide +kernel
theorem dX8_delay_7 : decode cX8_delay 7 = .ok (.ifCond .ne 6, 3) := by decide +kernel
theorem dX8_delay_10 : decode cX8_delay 10 = .ok (.bipush (-102), 2) := by decide +kernel
theorem dX8_delay_12 : decode cX8_delay 12 = .ok (.ireturn, 1) := by decide +kernel
theorem dX8_delay_13 : decode cX8_delay 13 = .ok (.aload_n 0, 1) := by decide +kernel
theorem dX8_delay_14 : decode cX8_delay 14 = .ok (.getfield 124, 3) := by decide +kernel
theorem dX8_delay_17 : decode cX8_delay 17 = .ok (.ifCond .ne 6, 3) := by decide +kernel
theorem dX8_delay_20 : decode cX8_delay 20 = .ok (.bipush (-103), 2) := by decide +kernel
theorem dX8_delay_22 : decode cX8_delay 22 = .ok (.ireturn, 1) := by decide +kernel
theorem dX8_delay_23 : decode cX8_delay 23 = .ok (.bipush 11, 2) := by decide +kernel
theorem dX8_delay_25 : decode cX8_delay 25 = .ok (.istore_n 2, 1) := by decide +kernel
theorem dX8_delay_26 : decode cX8_delay 26 = .ok (.iload_n 2, 1) := by decide +kernel
theorem dX8_delay_27 : decode cX8_delay 27 = .ok (.ifCond .lt 22, 3) := by decide +kernel
theorem dX8_delay_30 : decode cX8_delay 30 = .ok (.aload_n 0, 1) := by decide +kernel
theorem dX8_delay_31 : decode cX8_delay 31 = .ok (.getfield 28, 3) := by decide +kernel
theorem dX8_delay_34 : decode cX8_delay 34 = .ok (.iload_n 2, 1) := by decide +kernel
theorem dX8_delay_35 : decode cX8_delay 35 = .ok (.aload_n 0, 1) := by decide +kernel
theorem dX8_delay_36 : decode cX8_delay 36 = .ok (.iload_n 2, 1) := by decide +kernel
theorem dX8_delay_37 : decode cX8_delay 37 = .ok (.iload_n 1, 1) := by decide +kernel
theorem dX8_delay_38 : decode cX8_delay 38 = .ok (.isub, 1) := by decide +kernel
theorem dX8_delay_39 : decode cX8_delay 39 = .ok (.invokevirtual 143, 3) := by decide +kernel
theorem dX8_delay_42 : decode cX8_delay 42 = .ok (.iastore, 1) := by decide +kernel
theorem dX8_delay_43 : decode cX8_delay 43 = .ok (.iinc 2 (-1), 3) := by decide +kernel
theorem dX8_delay_46 : decode cX8_delay 46 = .ok (.goto (-20), 3) := by decide +kernel
theorem dX8_delay_49 : decode cX8_delay 49 = .ok (.aload_n 0, 1) := by decide +kernel
theorem dX8_delay_50 : decode cX8_delay 50 = .ok (.invokevirtual 137, 3) := by decide +kernel
theorem dX8_delay_53 : decode cX8_delay 53 = .ok (.ireturn, 1) := by decide +kernel
theorem dX8_add_0 : decode cX8_add 0 = .ok (.iload_n 1, 1) := by decide +kernel
theorem dX8_add_1 : decode cX8_add 1 = .ok (.iconst 0, 1) := by decide +kernel
theorem dX8_add_2 : decode cX8_add 2 = .ok (.iconst 4, 1) := by decide +kernel
theorem dX8_add_3 : decode cX8_add 3 = .ok (.invokestatic 86, 3) := by decide +kernel
theorem dX8_add_6 : decode cX8_add 6 = .ok (.ifCond .eq 21, 3) := by decide +kernel
theorem dX8_add_9 : decode cX8_add 9 = .ok (.iload_n 2, 1) := by decide +kernel
theorem dX8_add_10 : decode cX8_add 10 = .ok (.iconst 0, 1) := by decide +kernel
theorem dX8_add_11 : decode cX8_add 11 = .ok (.iconst 4, 1) := by decide +kernel
theorem dX8_add_12 : decode cX8_add 12 = .ok (.invokestatic 86, 3) := by decide +kernel
theorem dX8_add_15 : decode cX8_add 15 = .ok (.ifCond .eq 12, 3) := by decide +kernel
theorem dX8_add_18 : decode cX8_add 18 = .ok (.iload_n 3, 1) := by decide +kernel
theorem dX8_add_19 : decode cX8_add 19 = .ok (.iconst 0, 1) := by decide +kernel
theorem dX8_add_20 : decode cX8_add 20 = .ok (.iconst 4, 1) := by decide +kernel
theorem dX8_add_21 : decode cX8_add 21 = .ok (.invokestatic 86, 3) := by decide +kernel
theorem dX8_add_24 : decode cX8_add 24 = .ok (.ifCond .ne 6, 3) := by decide +kernel
theorem dX8_add_27 : decode cX8_add 27 = .ok (.bipush (-102), 2) := by decide +kernel
theorem dX8_add_29 : decode cX8_add 29 = .ok (.ireturn, 1) := by decide +kernel
theorem dX8_add_30 : decode cX8_add 30 = .ok (.aload_n 0, 1) := by decide +kernel
theorem dX8_add_31 : decode cX8_add 31 = .ok (.getfield 124, 3) := by decide +kernel
theorem dX8_add_34 : decode cX8_add 34 = .ok (.ifCond .ne 6, 3) := by decide +kernel
theorem dX8_add_37 : decode cX8_add 37 = .ok (.bipush (-103), 2) := by decide +kernel
theorem dX8_add_39 : decode cX8_add 39 = .ok (.ireturn, 1) := by decide +kernel
theorem dX8_add_40 : decode cX8_add 40 = .ok (.aload_n 0, 1) := by decide +kernel
theorem dX8_add_41 : decode cX8_add 41 = .ok (.getfield 124, 3) := by decide +kernel
theorem dX8_add_44 : decode cX8_add 44 = .ok (.iconst 5, 1) := by decide +kernel
theorem dX8_add_45 : decode cX8_add 45 = .ok (.if_icmp .ne 6, 3) := by decide +kernel
theorem dX8_add_48 : decode cX8_add 48 = .ok (.bipush (-104), 2) := by decide +kernel
theorem dX8_add_50 : decode cX8_add 50 = .ok (.ireturn, 1) := by decide +kernel
theorem dX8_add_51 : decode cX8_add 51 = .ok (.aload_n 0, 1) := by decide +kernel
theorem dX8_add_52 : decode cX8_add 52 = .ok (.getfield 7, 3) := by decide +kernel
theorem dX8_add_55 : decode cX8_add 55 = .ok (.aload_n 0, 1) := by decide +kernel
theorem dX8_add_56 : decode cX8_add 56 = .ok (.getfield 124, 3) := by decide +kernel
theorem dX8_add_59 : decode cX8_add 59 = .ok (.iload_n 1, 1) := by decide +kernel
theorem dX8_add_60 : decode cX8_add 60 = .ok (.iastore, 1) := by decide +kernel
theorem dX8_add_61 : decode cX8_add 61 = .ok (.aload_n 0, 1) := by decide +kernel
theorem dX8_add_62 : decode cX8_add 62 = .ok (.getfield 13, 3) := by decide +kernel
theorem dX8_add_65 : decode cX8_add 65 = .ok (.aload_n 0, 1) := by decide +kernel
theorem dX8_add_66 : decode cX8_add 66 = .ok (.getfield 124, 3) := by decide +kernel
theorem dX8_add_69 : decode cX8_add 69 = .ok (.iload_n 2, 1) := by decide +kernel
theorem dX8_add_70 : decode cX8_add 70 = .ok (.iastore, 1) := by decide +kernel
theorem dX8_add_71 : decode cX8_add 71 = .ok (.aload_n 0, 1) := by decide +kernel
theorem dX8_add_72 : decode cX8_add 72 = .ok (.getfield 16, 3) := by decide +kernel
theorem dX8_add_75 : decode cX8_add 75 = .ok (.aload_n 0, 1) := by decide +kernel
theorem dX8_add_76 : decode cX8_add 76 = .ok (.getfield 124, 3) := by decide +kernel
theorem dX8_add_79 : decode cX8_add 79 = .ok (.iload_n 3, 1) := by decide +kernel
theorem dX8_add_80 : decode cX8_add 80 = .ok (.iastore, 1) := by decide +kernel
theorem dX8_add_81 : decode cX8_add 81 = .ok (.aload_n 0, 1) := by decide +kernel
theorem dX8_add_82 : decode cX8_add 82 = .ok (.getfield 19, 3) := by decide +kernel
theorem dX8_add_85 : decode cX8_add 85 = .ok (.aload_n 0, 1) := by decide +kernel
theorem dX8_add_86 : decode cX8_add 86 = .ok (.getfield 124, 3) := by decide +kernel
theorem dX8_add_89 : decode cX8_add 89 = .ok (.iconst 0, 1) := by decide +kernel
theorem dX8_add_90 : decode cX8_add 90 = .ok (.iastore, 1) := by decide +kernel
theorem dX8_add_91 : decode cX8_add 91 = .ok (.aload_n 0, 1) := by decide +kernel
theorem dX8_add_92 : decode cX8_add 92 = .ok (.getfield 22, 3) := by decide +kernel
theorem dX8_add_95 : decode cX8_add 95 = .ok (.aload_n 0, 1) := by decide +kernel
theorem dX8_add_96 : decode cX8_add 96 = .ok (.getfield 124, 3) := by decide +kernel
theorem dX8_add_99 : decode cX8_add 99 = .ok (.bipush 11, 2) := by decide +kernel
theorem dX8_add_101 : decode cX8_add 101 = .ok (.iastore, 1) := by decide +kernel
theorem dX8_add_102 : decode cX8_add 102 = .ok (.aload_n 0, 1) := by decide +kernel
theorem dX8_add_103 : decode cX8_add 103 = .ok (.getfield 25, 3) := by decide +kernel
theorem dX8_add_106 : decode cX8_add 106 = .ok (.aload_n 0, 1) := by decide +kernel
theorem dX8_add_107 : decode cX8_add 107 = .ok (.getfield 124, 3) := by decide +kernel
theorem dX8_add_110 : decode cX8_add 110 = .ok (.iconst 5, 1) := by decide +kernel
theorem dX8_add_111 : decode cX8_add 111 = .ok (.iastore, 1) := by decide +kernel
theorem dX8_add_112 : decode cX8_add 112 = .ok (.aload_n 0, 1) := by decide +kernel
theorem dX8_add_113 : decode cX8_add 113 = .ok (.dup, 1) := by decide +kernel
theorem dX8_add_114 : decode cX8_add 114 = .ok (.getfield 124, 3) := by decide +kernel
theorem dX8_add_117 : decode cX8_add 117 = .ok (.iconst 1, 1) := by decide +kernel
theorem dX8_add_118 : decode cX8_add 118 = .ok (.iadd, 1) := by decide +kernel
theorem dX8_add_119 : decode cX8_add 119 = .ok (.putfield 124, 3) := by decide +kernel
theorem dX8_add_122 : decode cX8_add 122 = .ok (.aload_n 0, 1) := by decide +kernel
theorem dX8_add_123 : decode cX8_add 123 = .ok (.getfield 124, 3) := by decide +kernel
theorem dX8_add_126 : decode cX8_add 126 = .ok (.iconst 1, 1) := by decide +kernel
theorem dX8_add_127 : decode cX8_add 127 = .ok (.isub, 1) := by decide +kernel
theorem dX8_add_128 : decode cX8_add 128 = .ok (.ireturn, 1) := by decide +kernel
theorem dX8_rights_0 : decode cX8_rights 0 = .ok (.aload_n 0, 1) := by decide +kernel
theorem dX8_rights_1 : decode cX8_rights 1 = .ok (.iload_n 1, 1) := by decide +kernel
theorem dX8_rights_2 : decode cX8_rights 2 = .ok (.invokevirtual 133, 3) := by decide +kernel
theorem dX8_rights_5 : decode cX8_rights 5 = .ok (.ifCond .ne 6, 3) := by decide +kernel
theorem dX8_rights_8 : decode cX8_rights 8 = .ok (.bipush (-101), 2) := by decide +kernel
theorem dX8_rights_10 : decode cX8_rights 10 = .ok (.ireturn, 1) := by decide +kernel
theorem dX8_rights_11 : decode cX8_rights 11 = .ok (.iload_n 2, 1) := by decide +kernel
theorem dX8_rights_12 : decode cX8_rights 12 = .ok (.invokestatic 140, 3) := by decide +kernel
theorem dX8_rights_15 : decode cX8_rights 15 = .ok (.ifCond .eq 13, 3) := by decide +kernel
theorem dX8_rights_18 : decode cX8_rights 18 = .ok (.iload_n 3, 1) := by decide +kernel
theorem dX8_rights_19 : decode cX8_rights 19 = .ok (.iload_n 2, 1) := by decide +kernel
theorem dX8_rights_20 : decode cX8_rights 20 = .ok (.bipush 11, 2) := by decide +kernel
theorem dX8_rights_22 : decode cX8_rights 22 = .ok (.invokestatic 86, 3) := by decide +kernel
theorem dX8_rights_25 : decode cX8_rights 25 = .ok (.ifCond .ne 6, 3) := by decide +kernel
theorem dX8_rights_28 : decode cX8_rights 28 = .ok (.bipush (-102), 2) := by decide +kernel
theorem dX8_rights_30 : decode cX8_rights 30 = .ok (.ireturn, 1) := by decide +kernel
theorem dX8_rights_31 : decode cX8_rights 31 = .ok (.aload_n 0, 1) := by decide +kernel
theorem dX8_rights_32 : decode cX8_rights 32 = .ok (.getfield 19, 3) := by decide +kernel
theorem dX8_rights_35 : decode cX8_rights 35 = .ok (.iload_n 1, 1) := by decide +kernel
theorem dX8_rights_36 : decode cX8_rights 36 = .ok (.iload_n 2, 1) := by decide +kernel
theorem dX8_rights_37 : decode cX8_rights 37 = .ok (.iastore, 1) := by decide +kernel
theorem dX8_rights_38 : decode cX8_rights 38 = .ok (.aload_n 0, 1) := by decide +kernel
theorem dX8_rights_39 : decode cX8_rights 39 = .ok (.getfield 22, 3) := by decide +kernel
theorem dX8_rights_42 : decode cX8_rights 42 = .ok (.iload_n 1, 1) := by decide +kernel
theorem dX8_rights_43 : decode cX8_rights 43 = .ok (.iload_n 3, 1) := by decide +kernel
theorem dX8_rights_44 : decode cX8_rights 44 = .ok (.iastore, 1) := by decide +kernel
theorem dX8_rights_45 : decode cX8_rights 45 = .ok (.aload_n 0, 1) := by decide +kernel
theorem dX8_rights_46 : decode cX8_rights 46 = .ok (.invokevirtual 166, 3) := by decide +kernel
theorem dX8_rights_49 : decode cX8_rights 49 = .ok (.ireturn, 1) := by decide +kernel
theorem dX8_be_0 : decode cX8_be 0 = .ok (.aload_n 0, 1) := by decide +kernel
theorem dX8_be_1 : decode cX8_be 1 = .ok (.iload_n 1, 1) := by decide +kernel
theorem dX8_be_2 : decode cX8_be 2 = .ok (.invokevirtual 133, 3) := by decide +kernel
theorem dX8_be_5 : decode cX8_be 5 = .ok (.ifCond .ne 6, 3) := by decide +kernel
theorem dX8_be_8 : decode cX8_be 8 = .ok (.bipush (-101), 2) := by decide +kernel
theorem dX8_be_10 : decode cX8_be 10 = .ok (.ireturn, 1) := by decide +kernel
theorem dX8_be_11 : decode cX8_be 11 = .ok (.iload_n 2, 1) := by decide +kernel
theorem dX8_be_12 : decode cX8_be 12 = .ok (.iconst 0, 1) := by decide +kernel
theorem dX8_be_13 : decode cX8_be 13 = .ok (.iconst 4, 1) := by decide +kernel
theorem dX8_be_14 : decode cX8_be 14 = .ok (.invokestatic 86, 3) := by decide +kernel
theorem dX8_be_17 : decode cX8_be 17 = .ok (.ifCond .ne 6, 3) := by decide +kernel
theorem dX8_be_20 : decode cX8_be 20 = .ok (.bipush (-102), 2) := by decide +kernel
theorem dX8_be_22 : decode cX8_be 22 = .ok (.ireturn, 1) := by decide +kernel
theorem dX8_be_23 : decode cX8_be 23 = .ok (.aload_n 0, 1) := by decide +kernel
theorem dX8_be_24 : decode cX8_be 24 = .ok (.getfield 7, 3) := by decide +kernel
theorem dX8_be_27 : decode cX8_be 27 = .ok (.iload_n 1, 1) := by decide +kernel
theorem dX8_be_28 : decode cX8_be 28 = .ok (.iaload, 1) := by decide +kernel
theorem dX8_be_29 : decode cX8_be 29 = .ok (.istore_n 3, 1) := by decide +kernel
theorem dX8_be_30 : decode cX8_be 30 = .ok (.aload_n 0, 1) := by decide +kernel
theorem dX8_be_31 : decode cX8_be 31 = .ok (.getfield 7, 3) := by decide +kernel
theorem dX8_be_34 : decode cX8_be 34 = .ok (.iload_n 1, 1) := by decide +kernel
theorem dX8_be_35 : decode cX8_be 35 = .ok (.iload_n 2, 1) := by decide +kernel
theorem dX8_be_36 : decode cX8_be 36 = .ok (.iastore, 1) := by decide +kernel
theorem dX8_be_37 : decode cX8_be 37 = .ok (.iload_n 3, 1) := by decide +kernel
theorem dX8_be_38 : decode cX8_be 38 = .ok (.ireturn, 1) := by decide +kernel
theorem dX8_darkOnes_0 : decode cX8_darkOnes 0 = .ok (.iconst 0, 1) := by decide +kernel
theorem dX8_darkOnes_1 : decode cX8_darkOnes 1 = .ok (.istore_n 3, 1) := by decide +kernel
theorem dX8_darkOnes_2 : decode cX8_darkOnes 2 = .ok (.iload_n 1, 1) := by decide +kernel
theorem dX8_darkOnes_3 : decode cX8_darkOnes 3 = .ok (.istore 4, 2) := by decide +kernel
theorem dX8_darkOnes_5 : decode cX8_darkOnes 5 = .ok (.iload 4, 2) := by decide +kernel
theorem dX8_darkOnes_7 : decode cX8_darkOnes 7 = .ok (.iload_n 2, 1) := by decide +kernel
theorem dX8_darkOnes_8 : decode cX8_darkOnes 8 = .ok (.if_icmp .gt 28, 3) := by decide +kernel
theorem dX8_darkOnes_11 : decode cX8_darkOnes 11 = .ok (.iload_n 3, 1) := by decide +kernel
theorem dX8_darkOnes_12 : decode cX8_darkOnes 12 = .ok (.aload_n 0, 1) := by decide +kernel
theorem dX8_darkOnes_13 : decode cX8_darkOnes 13 = .ok (.getfield 28, 3) := by decide +kernel
theorem dX8_darkOnes_16 : decode cX8_darkOnes 16 = .ok (.iload 4, 2) := by decide +kernel
theorem dX8_darkOnes_18 : decode cX8_darkOnes 18 = .ok (.iaload, 1) := by decide +kernel
theorem dX8_darkOnes_19 : decode cX8_darkOnes 19 = .ok (.iconst (-1), 1) := by decide +kernel
theorem dX8_darkOnes_20 : decode cX8_darkOnes 20 = .ok (.if_icmp .ne 7, 3) := by decide +kernel
theorem dX8_darkOnes_23 : decode cX8_darkOnes 23 = .ok (.iconst 1, 1) := by decide +kernel
theorem dX8_darkOnes_24 : decode cX8_darkOnes 24 = .ok (.goto 4, 3) := by decide +kernel
theorem dX8_darkOnes_27 : decode cX8_darkOnes 27 = .ok (.iconst 0, 1) := by decide +kernel
theorem dX8_darkOnes_28 : decode cX8_darkOnes 28 = .ok (.iadd, 1) := by decide +kernel
theorem dX8_darkOnes_29 : decode cX8_darkOnes 29 = .ok (.istore_n 3, 1) := by decide +kernel
theorem dX8_darkOnes_30 : decode cX8_darkOnes 30 = .ok (.iinc 4 1, 3) := by decide +kernel
theorem dX8_darkOnes_33 : decode cX8_darkOnes 33 = .ok (.goto (-28), 3) := by decide +kernel
theorem dX8_darkOnes_36 : decode cX8_darkOnes 36 = .ok (.iload_n 3, 1) := by decide +kernel
theorem dX8_darkOnes_37 : decode cX8_darkOnes 37 = .ok (.ireturn, 1) := by decide +kernel
theorem dX8_layDarks_0 : decode cX8_layDarks 0 = .ok (.aload_n 0, 1) := by decide +kernel
theorem dX8_layDarks_1 : decode cX8_layDarks 1 = .ok (.iconst 0, 1) := by decide +kernel
theorem dX8_layDarks_2 : decode cX8_layDarks 2 = .ok (.putfield 184, 3) := by decide +kernel
theorem dX8_layDarks_5 : decode cX8_layDarks 5 = .ok (.iload_n 1, 1) := by decide +kernel
theorem dX8_layDarks_6 : decode cX8_layDarks 6 = .ok (.istore_n 3, 1) := by decide +kernel
theorem dX8_layDarks_7 : decode cX8_layDarks 7 = .ok (.iload_n 3, 1) := by decide +kernel
theorem dX8_layDarks_8 : decode cX8_layDarks 8 = .ok (.iload_n 2, 1) := by decide +kernel
theorem dX8_layDarks_9 : decode cX8_layDarks 9 = .ok (.if_icmp .gt 39, 3) := by decide +kernel
theorem dX8_layDarks_12 : decode cX8_layDarks 12 = .ok (.aload_n 0, 1) := by decide +kernel
theorem dX8_layDarks_13 : decode cX8_layDarks 13 = .ok (.getfield 28, 3) := by decide +kernel
theorem dX8_layDarks_16 : decode cX8_layDarks 16 = .ok (.iload_n 3, 1) := by decide +kernel
theorem dX8_layDarks_17 : decode cX8_layDarks 17 = .ok (.iaload, 1) := by decide +kernel
theorem dX8_layDarks_18 : decode cX8_layDarks 18 = .ok (.iconst (-1), 1) := by decide +kernel
theorem dX8_layDarks_19 : decode cX8_layDarks 19 = .ok (.if_icmp .ne 23, 3) := by decide +kernel
theorem dX8_layDarks_22 : decode cX8_layDarks 22 = .ok (.aload_n 0, 1) := by decide +kernel
theorem dX8_layDarks_23 : decode cX8_layDarks 23 = .ok (.getfield 47, 3) := by decide +kernel
theorem dX8_layDarks_26 : decode cX8_layDarks 26 = .ok (.aload_n 0, 1) := by decide +kernel
theorem dX8_layDarks_27 : decode cX8_layDarks 27 = .ok (.getfield 184, 3) := by decide +kernel
theorem dX8_layDarks_30 : decode cX8_layDarks 30 = .ok (.iload_n 3, 1) := by decide +kernel
theorem dX8_layDarks_31 : decode cX8_layDarks 31 = .ok (.iastore, 1) := by decide +kernel
theorem dX8_layDarks_32 : decode cX8_layDarks 32 = .ok (.aload_n 0, 1) := by decide +kernel
theorem dX8_layDarks_33 : decode cX8_layDarks 33 = .ok (.dup, 1) := by decide +kernel
theorem dX8_layDarks_34 : decode cX8_layDarks 34 = .ok (.getfield 184, 3) := by decide +kernel
theorem dX8_layDarks_37 : decode cX8_layDarks 37 = .ok (.iconst 1, 1) := by decide +kernel
theorem dX8_layDarks_38 : decode cX8_layDarks 38 = .ok (.iadd, 1) := by decide +kernel
theorem dX8_layDarks_39 : decode cX8_layDarks 39 = .ok (.putfield 184, 3) := by decide +kernel
theorem dX8_layDarks_42 : decode cX8_layDarks 42 = .ok (.iinc 3 1, 3) := by decide +kernel
theorem dX8_layDarks_45 : decode cX8_layDarks 45 = .ok (.goto (-38), 3) := by decide +kernel
theorem dX8_layDarks_48 : decode cX8_layDarks 48 = .ok (.return_, 1) := by decide +kernel
theorem dX8_fillBy_0 : decode cX8_fillBy 0 = .ok (.iload_n 1, 1) := by decide +kernel
theorem dX8_fillBy_1 : decode cX8_fillBy 1 = .ok (.istore_n 2, 1) := by decide +kernel
theorem dX8_fillBy_2 : decode cX8_fillBy 2 = .ok (.aload_n 0, 1) := by decide +kernel
theorem dX8_fillBy_3 : decode cX8_fillBy 3 = .ok (.getfield 184, 3) := by decide +kernel
theorem dX8_fillBy_6 : decode cX8_fillBy 6 = .ok (.iconst 1, 1) := by decide +kernel
theorem dX8_fillBy_7 : decode cX8_fillBy 7 = .ok (.isub, 1) := by decide +kernel
theorem dX8_fillBy_8 : decode cX8_fillBy 8 = .ok (.istore_n 3, 1) := by decide +kernel
theorem dX8_fillBy_9 : decode cX8_fillBy 9 = .ok (.iload_n 3, 1) := by decide +kernel
theorem dX8_fillBy_10 : decode cX8_fillBy 10 = .ok (.ifCond .lt 39, 3) := by decide +kernel
theorem dX8_fillBy_13 : decode cX8_fillBy 13 = .ok (.aload_n 0, 1) := by decide +kernel
theorem dX8_fillBy_14 : decode cX8_fillBy 14 = .ok (.getfield 28, 3) := by decide +kernel
theorem dX8_fillBy_17 : decode cX8_fillBy 17 = .ok (.aload_n 0, 1) := by decide +kernel
theorem dX8_fillBy_18 : decode cX8_fillBy 18 = .ok (.getfield 47, 3) := by decide +kernel
theorem dX8_fillBy_21 : decode cX8_fillBy 21 = .ok (.iload_n 3, 1) := by decide +kernel
theorem dX8_fillBy_22 : decode cX8_fillBy 22 = .ok (.iaload, 1) := by decide +kernel
theorem dX8_fillBy_23 : decode cX8_fillBy 23 = .ok (.iload_n 2, 1) := by decide +kernel
theorem dX8_fillBy_24 : decode cX8_fillBy 24 = .ok (.aload_n 0, 1) := by decide +kernel
theorem dX8_fillBy_25 : decode cX8_fillBy 25 = .ok (.getfield 124, 3) := by decide +kernel
theorem dX8_fillBy_28 : decode cX8_fillBy 28 = .ok (.iconst 1, 1) := by decide +kernel
theorem dX8_fillBy_29 : decode cX8_fillBy 29 = .ok (.iadd, 1) := by decide +kernel
theorem dX8_fillBy_30 : decode cX8_fillBy 30 = .ok (.irem, 1) := by decide +kernel
theorem dX8_fillBy_31 : decode cX8_fillBy 31 = .ok (.iconst 1, 1) := by decide +kernel
theorem dX8_fillBy_32 : decode cX8_fillBy 32 = .ok (.isub, 1) := by decide +kernel
theorem dX8_fillBy_33 : decode cX8_fillBy 33 = .ok (.iastore, 1) := by decide +kernel
theorem dX8_fillBy_34 : decode cX8_fillBy 34 = .ok (.iload_n 2, 1) := by decide +kernel
theorem dX8_fillBy_35 : decode cX8_fillBy 35 = .ok (.aload_n 0, 1) := by decide +kernel
theorem dX8_fillBy_36 : decode cX8_fillBy 36 = .ok (.getfield 124, 3) := by decide +kernel
theorem dX8_fillBy_39 : decode cX8_fillBy 39 = .ok (.iconst 1, 1) := by decide +kernel
theorem dX8_fillBy_40 : decode cX8_fillBy 40 = .ok (.iadd, 1) := by decide +kernel
theorem dX8_fillBy_41 : decode cX8_fillBy 41 = .ok (.idiv, 1) := by decide +kernel
theorem dX8_fillBy_42 : decode cX8_fillBy 42 = .ok (.istore_n 2, 1) := by decide +kernel
theorem dX8_fillBy_43 : decode cX8_fillBy 43 = .ok (.iinc 3 (-1), 3) := by decide +kernel
theorem dX8_fillBy_46 : decode cX8_fillBy 46 = .ok (.goto (-37), 3) := by decide +kernel
theorem dX8_fillBy_49 : decode cX8_fillBy 49 = .ok (.return_, 1) := by decide +kernel
theorem dX8_findBest_0 : decode cX8_findBest 0 = .ok (.iconst 1, 1) := by decide +kernel
theorem dX8_findBest_1 : decode cX8_findBest 1 = .ok (.istore_n 1, 1) := by decide +kernel
theorem dX8_findBest_2 : decode cX8_findBest 2 = .ok (.iconst 0, 1) := by decide +kernel
theorem dX8_findBest_3 : decode cX8_findBest 3 = .ok (.istore_n 2, 1) := by decide +kernel
theorem dX8_findBest_4 : decode cX8_findBest 4 = .ok (.iload_n 2, 1) := by decide +kernel
theorem dX8_findBest_5 : decode cX8_findBest 5 = .ok (.aload_n 0, 1) := by decide +kernel
theorem dX8_findBest_6 : decode cX8_findBest 6 = .ok (.getfield 184, 3) := by decide +kernel
theorem dX8_findBest_9 : decode cX8_findBest 9 = .ok (.if_icmp .ge 18, 3) := by decide +kernel
theorem dX8_findBest_12 : decode cX8_findBest 12 = .ok (.iload_n 1, 1) := by decide +kernel
theorem dX8_findBest_13 : decode cX8_findBest 13 = .ok (.aload_n 0, 1) := by decide +kernel
theorem dX8_findBest_14 : decode cX8_findBest 14 = .ok (.getfield 124, 3) := by decide +kernel
theorem dX8_findBest_17 : decode cX8_findBest 17 = .ok (.iconst 1, 1) := by decide +kernel
theorem dX8_findBest_18 : decode cX8_findBest 18 = .ok (.iadd, 1) := by decide +kernel
theorem dX8_findBest_19 : decode cX8_findBest 19 = .ok (.imul, 1) := by decide +kernel
theorem dX8_findBest_20 : decode cX8_findBest 20 = .ok (.istore_n 1, 1) := by decide +kernel
theorem dX8_findBest_21 : decode cX8_findBest 21 = .ok (.iinc 2 1, 3) := by decide +kernel
theorem dX8_findBest_24 : decode cX8_findBest 24 = .ok (.goto (-20), 3) := by decide +kernel
theorem dX8_findBest_27 : decode cX8_findBest 27 = .ok (.aload_n 0, 1) := by decide +kernel
theorem dX8_findBest_28 : decode cX8_findBest 28 = .ok (.ldc 187, 2) := by decide +kernel
theorem dX8_findBest_30 : decode cX8_findBest 30 = .ok (.putfield 188, 3) := by decide +kernel
theorem dX8_findBest_33 : decode cX8_findBest 33 = .ok (.iconst 0, 1) := by decide +kernel
theorem dX8_findBest_34 : decode cX8_findBest 34 = .ok (.istore_n 2, 1) := by decide +kernel
theorem dX8_findBest_35 : decode cX8_findBest 35 = .ok (.iload_n 2, 1) := by decide +kernel
theorem dX8_findBest_36 : decode cX8_findBest 36 = .ok (.iload_n 1, 1) := by decide +kernel
theorem dX8_findBest_37 : decode cX8_findBest 37 = .ok (.if_icmp .ge 66, 3) := by decide +kernel
theorem dX8_findBest_40 : decode cX8_findBest 40 = .ok (.aload_n 0, 1) := by decide +kernel
theorem dX8_findBest_41 : decode cX8_findBest 41 = .ok (.iload_n 2, 1) := by decide +kernel
theorem dX8_findBest_42 : decode cX8_findBest 42 = .ok (.invokevirtual 191, 3) := by decide +kernel
theorem dX8_findBest_45 : decode cX8_findBest 45 = .ok (.aload_n 0, 1) := by decide +kernel
theorem dX8_findBest_46 : decode cX8_findBest 46 = .ok (.invokevirtual 195, 3) := by decide +kernel
theorem dX8_findBest_49 : decode cX8_findBest 49 = .ok (.istore_n 3, 1) := by decide +kernel
theorem dX8_findBest_50 : decode cX8_findBest 50 = .ok (.aload_n 0, 1) := by decide +kernel
theorem dX8_findBest_51 : decode cX8_findBest 51 = .ok (.invokevirtual 198, 3) := by decide +kernel
theorem dX8_findBest_54 : decode cX8_findBest 54 = .ok (.istore 4, 2) := by decide +kernel
theorem dX8_findBest_56 : decode cX8_findBest 56 = .ok (.iload_n 3, 1) := by decide +kernel
theorem dX8_findBest_57 : decode cX8_findBest 57 = .ok (.aload_n 0, 1) := by decide +kernel
theorem dX8_findBest_58 : decode cX8_findBest 58 = .ok (.getfield 188, 3) := by decide +kernel
theorem dX8_findBest_61 : decode cX8_findBest 61 = .ok (.if_icmp .lt 20, 3) := by decide +kernel
theorem dX8_findBest_64 : decode cX8_findBest 64 = .ok (.iload_n 3, 1) := by decide +kernel
theorem dX8_findBest_65 : decode cX8_findBest 65 = .ok (.aload_n 0, 1) := by decide +kernel
theorem dX8_findBest_66 : decode cX8_findBest 66 = .ok (.getfield 188, 3) := by decide +kernel
theorem dX8_findBest_69 : decode cX8_findBest 69 = .ok (.if_icmp .ne 28, 3) := by decide +kernel
theorem dX8_findBest_72 : decode cX8_findBest 72 = .ok (.iload 4, 2) := by decide +kernel
theorem dX8_findBest_74 : decode cX8_findBest 74 = .ok (.aload_n 0, 1) := by decide +kernel
theorem dX8_findBest_75 : decode cX8_findBest 75 = .ok (.getfield 201, 3) := by decide +kernel
theorem dX8_findBest_78 : decode cX8_findBest 78 = .ok (.if_icmp .le 19, 3) := by decide +kernel
theorem dX8_findBest_81 : decode cX8_findBest 81 = .ok (.aload_n 0, 1) := by decide +kernel
theorem dX8_findBest_82 : decode cX8_findBest 82 = .ok (.iload_n 2, 1) := by decide +kernel
theorem dX8_findBest_83 : decode cX8_findBest 83 = .ok (.putfield 204, 3) := by decide +kernel
theorem dX8_findBest_86 : decode cX8_findBest 86 = .ok (.aload_n 0, 1) := by decide +kernel
theorem dX8_findBest_87 : decode cX8_findBest 87 = .ok (.iload_n 3, 1) := by decide +kernel
theorem dX8_findBest_88 : decode cX8_findBest 88 = .ok (.putfield 188, 3) := by decide +kernel
theorem dX8_findBest_91 : decode cX8_findBest 91 = .ok (.aload_n 0, 1) := by decide +kernel
theorem dX8_findBest_92 : decode cX8_findBest 92 = .ok (.iload 4, 2) := by decide +kernel
theorem dX8_findBest_94 : decode cX8_findBest 94 = .ok (.putfield 201, 3) := by decide +kernel
theorem dX8_findBest_97 : decode cX8_findBest 97 = .ok (.iinc 2 1, 3) := by decide +kernel
theorem dX8_findBest_100 : decode cX8_findBest 100 = .ok (.goto (-65), 3) := by decide +kernel
theorem dX8_findBest_103 : decode cX8_findBest 103 = .ok (.return_, 1) := by decide +kernel
theorem dX8_bestNow_0 : decode cX8_bestNow 0 = .ok (.aload_n 0, 1) := by decide +kernel
theorem dX8_bestNow_1 : decode cX8_bestNow 1 = .ok (.dup, 1) := by decide +kernel
theorem dX8_bestNow_2 : decode cX8_bestNow 2 = .ok (.getfield 207, 3) := by decide +kernel
theorem dX8_bestNow_5 : decode cX8_bestNow 5 = .ok (.iconst 1, 1) := by decide +kernel
theorem dX8_bestNow_6 : decode cX8_bestNow 6 = .ok (.iadd, 1) := by decide +kernel
theorem dX8_bestNow_7 : decode cX8_bestNow 7 = .ok (.putfield 207, 3) := by decide +kernel
theorem dX8_bestNow_10 : decode cX8_bestNow 10 = .ok (.aload_n 0, 1) := by decide +kernel
theorem dX8_bestNow_11 : decode cX8_bestNow 11 = .ok (.iload_n 1, 1) := by decide +kernel
theorem dX8_bestNow_12 : decode cX8_bestNow 12 = .ok (.iload_n 2, 1) := by decide +kernel
theorem dX8_bestNow_13 : decode cX8_bestNow 13 = .ok (.invokevirtual 210, 3) := by decide +kernel
theorem dX8_bestNow_16 : decode cX8_bestNow 16 = .ok (.aload_n 0, 1) := by decide +kernel
theorem dX8_bestNow_17 : decode cX8_bestNow 17 = .ok (.invokevirtual 214, 3) := by decide +kernel
theorem dX8_bestNow_20 : decode cX8_bestNow 20 = .ok (.aload_n 0, 1) := by decide +kernel
theorem dX8_bestNow_21 : decode cX8_bestNow 21 = .ok (.iload_n 3, 1) := by decide +kernel
theorem dX8_bestNow_22 : decode cX8_bestNow 22 = .ok (.iconst 2, 1) := by decide +kernel
theorem dX8_bestNow_23 : decode cX8_bestNow 23 = .ok (.if_icmp .ne 10, 3) := by decide +kernel
theorem dX8_bestNow_26 : decode cX8_bestNow 26 = .ok (.aload_n 0, 1) := by decide +kernel
theorem dX8_bestNow_27 : decode cX8_bestNow 27 = .ok (.getfield 204, 3) := by decide +kernel
theorem dX8_bestNow_30 : decode cX8_bestNow 30 = .ok (.goto 4, 3) := by decide +kernel
theorem dX8_bestNow_33 : decode cX8_bestNow 33 = .ok (.iconst 0, 1) := by decide +kernel
theorem dX8_bestNow_34 : decode cX8_bestNow 34 = .ok (.invokevirtual 191, 3) := by decide +kernel
theorem dX8_bestNow_37 : decode cX8_bestNow 37 = .ok (.iload_n 3, 1) := by decide +kernel
theorem dX8_bestNow_38 : decode cX8_bestNow 38 = .ok (.ifCond .ne 10, 3) := by decide +kernel
theorem dX8_bestNow_41 : decode cX8_bestNow 41 = .ok (.aload_n 0, 1) := by decide +kernel
theorem dX8_bestNow_42 : decode cX8_bestNow 42 = .ok (.getfield 188, 3) := by decide +kernel
theorem dX8_bestNow_45 : decode cX8_bestNow 45 = .ok (.goto 19, 3) := by decide +kernel
theorem dX8_bestNow_48 : decode cX8_bestNow 48 = .ok (.iload_n 3, 1) := by decide +kernel
theorem dX8_bestNow_49 : decode cX8_bestNow 49 = .ok (.iconst 1, 1) := by decide +kernel
theorem dX8_bestNow_50 : decode cX8_bestNow 50 = .ok (.if_icmp .ne 10, 3) := by decide +kernel
theorem dX8_bestNow_53 : decode cX8_bestNow 53 = .ok (.aload_n 0, 1) := by decide +kernel
theorem dX8_bestNow_54 : decode cX8_bestNow 54 = .ok (.getfield 201, 3) := by decide +kernel
theorem dX8_bestNow_57 : decode cX8_bestNow 57 = .ok (.goto 7, 3) := by decide +kernel
theorem dX8_bestNow_60 : decode cX8_bestNow 60 = .ok (.aload_n 0, 1) := by decide +kernel
theorem dX8_bestNow_61 : decode cX8_bestNow 61 = .ok (.invokevirtual 137, 3) := by decide +kernel
theorem dX8_bestNow_64 : decode cX8_bestNow 64 = .ok (.ireturn, 1) := by decide +kernel
theorem dX8_best_0 : decode cX8_best 0 = .ok (.iload_n 1, 1) := by decide +kernel
theorem dX8_best_1 : decode cX8_best 1 = .ok (.invokestatic 140, 3) := by decide +kernel
theorem dX8_best_4 : decode cX8_best 4 = .ok (.ifCond .eq 20, 3) := by decide +kernel
theorem dX8_best_7 : decode cX8_best 7 = .ok (.iload_n 2, 1) := by decide +kernel
theorem dX8_best_8 : decode cX8_best 8 = .ok (.iload_n 1, 1) := by decide +kernel
theorem dX8_best_9 : decode cX8_best 9 = .ok (.bipush 11, 2) := by decide +kernel
theorem dX8_best_11 : decode cX8_best 11 = .ok (.invokestatic 86, 3) := by decide +kernel
theorem dX8_best_14 : decode cX8_best 14 = .ok (.ifCond .eq 10, 3) := by decide +kernel
theorem dX8_best_17 : decode cX8_best 17 = .ok (.aload_n 0, 1) := by decide +kernel
theorem dX8_best_18 : decode cX8_best 18 = .ok (.getfield 124, 3) := by decide +kernel
theorem dX8_best_21 : decode cX8_best 21 = .ok (.ifCond .ne 6, 3) := by decide +kernel
theorem dX8_best_24 : decode cX8_best 24 = .ok (.bipush (-101), 2) := by decide +kernel
theorem dX8_best_26 : decode cX8_best 26 = .ok (.ireturn, 1) := by decide +kernel
theorem dX8_best_27 : decode cX8_best 27 = .ok (.iload_n 3, 1) := by decide +kernel
theorem dX8_best_28 : decode cX8_best 28 = .ok (.iconst 0, 1) := by decide +kernel
theorem dX8_best_29 : decode cX8_best 29 = .ok (.iconst 2, 1) := by decide +kernel
theorem dX8_best_30 : decode cX8_best 30 = .ok (.invokestatic 86, 3) := by decide +kernel
theorem dX8_best_33 : decode cX8_best 33 = .ok (.ifCond .ne 6, 3) := by decide +kernel
theorem dX8_best_36 : decode cX8_best 36 = .ok (.bipush (-102), 2) := by decide +kernel
theorem dX8_best_38 : decode cX8_best 38 = .ok (.ireturn, 1) := by decide +kernel
theorem dX8_best_39 : decode cX8_best 39 = .ok (.aload_n 0, 1) := by decide +kernel
theorem dX8_best_40 : decode cX8_best 40 = .ok (.iload_n 1, 1) := by decide +kernel
theorem dX8_best_41 : decode cX8_best 41 = .ok (.iload_n 2, 1) := by decide +kernel
theorem dX8_best_42 : decode cX8_best 42 = .ok (.invokevirtual 217, 3) := by decide +kernel
theorem dX8_best_45 : decode cX8_best 45 = .ok (.iconst 4, 1) := by decide +kernel
theorem dX8_best_46 : decode cX8_best 46 = .ok (.if_icmp .gt 12, 3) := by decide +kernel
theorem dX8_best_49 : decode cX8_best 49 = .ok (.aload_n 0, 1) := by decide +kernel
theorem dX8_best_50 : decode cX8_best 50 = .ok (.getfield 207, 3) := by decide +kernel
theorem dX8_best_53 : decode cX8_best 53 = .ok (.bipush 8, 2) := by decide +kernel
theorem dX8_best_55 : decode cX8_best 55 = .ok (.if_icmp .ne 8, 3) := by decide +kernel
theorem dX8_best_58 : decode cX8_best 58 = .ok (.bipush (-103), 2) := by decide +kernel
theorem dX8_best_60 : decode cX8_best 60 = .ok (.goto 10, 3) := by decide +kernel
theorem dX8_best_63 : decode cX8_best 63 = .ok (.aload_n 0, 1) := by decide +kernel
theorem dX8_best_64 : decode cX8_best 64 = .ok (.iload_n 1, 1) := by decide +kernel
theorem dX8_best_65 : decode cX8_best 65 = .ok (.iload_n 2, 1) := by decide +kernel
theorem dX8_best_66 : decode cX8_best 66 = .ok (.iload_n 3, 1) := by decide +kernel
theorem dX8_best_67 : decode cX8_best 67 = .ok (.invokevirtual 220, 3) := by decide +kernel
theorem dX8_best_70 : decode cX8_best 70 = .ok (.ireturn, 1) := by decide +kernel
theorem dX8_seatsOf_0 : decode cX8_seatsOf 0 = .ok (.iconst 0, 1) := by decide +kernel
theorem dX8_seatsOf_1 : decode cX8_seatsOf 1 = .ok (.istore_n 2, 1) := by decide +kernel
theorem dX8_seatsOf_2 : decode cX8_seatsOf 2 = .ok (.iconst 0, 1) := by decide +kernel
theorem dX8_seatsOf_3 : decode cX8_seatsOf 3 = .ok (.istore_n 3, 1) := by decide +kernel
theorem dX8_seatsOf_4 : decode cX8_seatsOf 4 = .ok (.iload_n 3, 1) := by decide +kernel
theorem dX8_seatsOf_5 : decode cX8_seatsOf 5 = .ok (.bipush 12, 2) := by decide +kernel
theorem dX8_seatsOf_7 : decode cX8_seatsOf 7 = .ok (.if_icmp .ge 39, 3) := by decide +kernel
theorem dX8_seatsOf_10 : decode cX8_seatsOf 10 = .ok (.iload_n 2, 1) := by decide +kernel
theorem dX8_seatsOf_11 : decode cX8_seatsOf 11 = .ok (.aload_n 0, 1) := by decide +kernel
theorem dX8_seatsOf_12 : decode cX8_seatsOf 12 = .ok (.getfield 28, 3) := by decide +kernel
theorem dX8_seatsOf_15 : decode cX8_seatsOf 15 = .ok (.iload_n 3, 1) := by decide +kernel
theorem dX8_seatsOf_16 : decode cX8_seatsOf 16 = .ok (.iaload, 1) := by decide +kernel
theorem dX8_seatsOf_17 : decode cX8_seatsOf 17 = .ok (.iload_n 1, 1) := by decide +kernel
theorem dX8_seatsOf_18 : decode cX8_seatsOf 18 = .ok (.if_icmp .ne 19, 3) := by decide +kernel
theorem dX8_seatsOf_21 : decode cX8_seatsOf 21 = .ok (.aload_n 0, 1) := by decide +kernel
theorem dX8_seatsOf_22 : decode cX8_seatsOf 22 = .ok (.iload_n 3, 1) := by decide +kernel
theorem dX8_seatsOf_23 : decode cX8_seatsOf 23 = .ok (.invokevirtual 163, 3) := by decide +kernel
theorem dX8_seatsOf_26 : decode cX8_seatsOf 26 = .ok (.ifCond .ne 11, 3) := by decide +kernel
theorem dX8_seatsOf_29 : decode cX8_seatsOf 29 = .ok (.aload_n 0, 1) := by decide +kernel
theorem dX8_seatsOf_30 : decode cX8_seatsOf 30 = .ok (.iload_n 3, 1) := by decide +kernel
theorem dX8_seatsOf_31 : decode cX8_seatsOf 31 = .ok (.invokevirtual 169, 3) := by decide +kernel
theorem dX8_seatsOf_34 : decode cX8_seatsOf 34 = .ok (.goto 4, 3) := by decide +kernel
theorem dX8_seatsOf_37 : decode cX8_seatsOf 37 = .ok (.iconst 0, 1) := by decide +kernel
theorem dX8_seatsOf_38 : decode cX8_seatsOf 38 = .ok (.iadd, 1) := by decide +kernel
theorem dX8_seatsOf_39 : decode cX8_seatsOf 39 = .ok (.istore_n 2, 1) := by decide +kernel
theorem dX8_seatsOf_40 : decode cX8_seatsOf 40 = .ok (.iinc 3 1, 3) := by decide +kernel
theorem dX8_seatsOf_43 : decode cX8_seatsOf 43 = .ok (.goto (-39), 3) := by decide +kernel
theorem dX8_seatsOf_46 : decode cX8_seatsOf 46 = .ok (.iload_n 2, 1) := by decide +kernel
theorem dX8_seatsOf_47 : decode cX8_seatsOf 47 = .ok (.ireturn, 1) := by decide +kernel
theorem dX8_isAhead_0 : decode cX8_isAhead 0 = .ok (.aload_n 0, 1) := by decide +kernel
theorem dX8_isAhead_1 : decode cX8_isAhead 1 = .ok (.iload_n 1, 1) := by decide +kernel
theorem dX8_isAhead_2 : decode cX8_isAhead 2 = .ok (.bipush 12, 2) := by decide +kernel
theorem dX8_isAhead_4 : decode cX8_isAhead 4 = .ok (.invokevirtual 153, 3) := by decide +kernel
theorem dX8_isAhead_7 : decode cX8_isAhead 7 = .ok (.aload_n 0, 1) := by decide +kernel
theorem dX8_isAhead_8 : decode cX8_isAhead 8 = .ok (.iload_n 2, 1) := by decide +kernel
theorem dX8_isAhead_9 : decode cX8_isAhead 9 = .ok (.bipush 12, 2) := by decide +kernel
theorem dX8_isAhead_11 : decode cX8_isAhead 11 = .ok (.invokevirtual 153, 3) := by decide +kernel
theorem dX8_isAhead_14 : decode cX8_isAhead 14 = .ok (.isub, 1) := by decide +kernel
theorem dX8_isAhead_15 : decode cX8_isAhead 15 = .ok (.istore_n 3, 1) := by decide +kernel
theorem dX8_isAhead_16 : decode cX8_isAhead 16 = .ok (.aload_n 0, 1) := by decide +kernel
theorem dX8_isAhead_17 : decode cX8_isAhead 17 = .ok (.iload_n 1, 1) := by decide +kernel
theorem dX8_isAhead_18 : decode cX8_isAhead 18 = .ok (.invokevirtual 224, 3) := by decide +kernel
theorem dX8_isAhead_21 : decode cX8_isAhead 21 = .ok (.aload_n 0, 1) := by decide +kernel
theorem dX8_isAhead_22 : decode cX8_isAhead 22 = .ok (.iload_n 2, 1) := by decide +kernel
theorem dX8_isAhead_23 : decode cX8_isAhead 23 = .ok (.invokevirtual 224, 3) := by decide +kernel
theorem dX8_isAhead_26 : decode cX8_isAhead 26 = .ok (.isub, 1) := by decide +kernel
theorem dX8_isAhead_27 : decode cX8_isAhead 27 = .ok (.istore 4, 2) := by decide +kernel
theorem dX8_isAhead_29 : decode cX8_isAhead 29 = .ok (.iload_n 3, 1) := by decide +kernel
theorem dX8_isAhead_30 : decode cX8_isAhead 30 = .ok (.ifCond .eq 15, 3) := by decide +kernel
theorem dX8_isAhead_33 : decode cX8_isAhead 33 = .ok (.iload_n 3, 1) := by decide +kernel
theorem dX8_isAhead_34 : decode cX8_isAhead 34 = .ok (.ifCond .le 7, 3) := by decide +kernel
theorem dX8_isAhead_37 : decode cX8_isAhead 37 = .ok (.iconst 1, 1) := by decide +kernel
theorem dX8_isAhead_38 : decode cX8_isAhead 38 = .ok (.goto 35, 3) := by decide +kernel
theorem dX8_isAhead_41 : decode cX8_isAhead 41 = .ok (.iconst 0, 1) := by decide +kernel
theorem dX8_isAhead_42 : decode cX8_isAhead 42 = .ok (.goto 31, 3) := by decide +kernel
theorem dX8_isAhead_45 : decode cX8_isAhead 45 = .ok (.iload 4, 2) := by decide +kernel
theorem dX8_isAhead_47 : decode cX8_isAhead 47 = .ok (.ifCond .eq 16, 3) := by decide +kernel
theorem dX8_isAhead_50 : decode cX8_isAhead 50 = .ok (.iload 4, 2) := by decide +kernel
theorem dX8_isAhead_52 : decode cX8_isAhead 52 = .ok (.ifCond .le 7, 3) := by decide +kernel
theorem dX8_isAhead_55 : decode cX8_isAhead 55 = .ok (.iconst 1, 1) := by decide +kernel
theorem dX8_isAhead_56 : decode cX8_isAhead 56 = .ok (.goto 17, 3) := by decide +kernel
theorem dX8_isAhead_59 : decode cX8_isAhead 59 = .ok (.iconst 0, 1) := by decide +kernel
theorem dX8_isAhead_60 : decode cX8_isAhead 60 = .ok (.goto 13, 3) := by decide +kernel
theorem dX8_isAhead_63 : decode cX8_isAhead 63 = .ok (.iload_n 1, 1) := by decide +kernel
theorem dX8_isAhead_64 : decode cX8_isAhead 64 = .ok (.iload_n 2, 1) := by decide +kernel
theorem dX8_isAhead_65 : decode cX8_isAhead 65 = .ok (.if_icmp .ge 7, 3) := by decide +kernel
theorem dX8_isAhead_68 : decode cX8_isAhead 68 = .ok (.iconst 1, 1) := by decide +kernel
theorem dX8_isAhead_69 : decode cX8_isAhead 69 = .ok (.goto 4, 3) := by decide +kernel
theorem dX8_isAhead_72 : decode cX8_isAhead 72 = .ok (.iconst 0, 1) := by decide +kernel
theorem dX8_isAhead_73 : decode cX8_isAhead 73 = .ok (.ireturn, 1) := by decide +kernel
theorem dX8_rankNow_0 : decode cX8_rankNow 0 = .ok (.iconst 0, 1) := by decide +kernel
theorem dX8_rankNow_1 : decode cX8_rankNow 1 = .ok (.istore_n 2, 1) := by decide +kernel
theorem dX8_rankNow_2 : decode cX8_rankNow 2 = .ok (.iload_n 2, 1) := by decide +kernel
theorem dX8_rankNow_3 : decode cX8_rankNow 3 = .ok (.aload_n 0, 1) := by decide +kernel
theorem dX8_rankNow_4 : decode cX8_rankNow 4 = .ok (.getfield 124, 3) := by decide +kernel
theorem dX8_rankNow_7 : decode cX8_rankNow 7 = .ok (.if_icmp .ge 60, 3) := by decide +kernel
theorem dX8_rankNow_10 : decode cX8_rankNow 10 = .ok (.iconst 0, 1) := by decide +kernel
theorem dX8_rankNow_11 : decode cX8_rankNow 11 = .ok (.istore_n 3, 1) := by decide +kernel
theorem dX8_rankNow_12 : decode cX8_rankNow 12 = .ok (.iconst 0, 1) := by decide +kernel
theorem dX8_rankNow_13 : decode cX8_rankNow 13 = .ok (.istore 4, 2) := by decide +kernel
theorem dX8_rankNow_15 : decode cX8_rankNow 15 = .ok (.iload 4, 2) := by decide +kernel
theorem dX8_rankNow_17 : decode cX8_rankNow 17 = .ok (.aload_n 0, 1) := by decide +kernel
theorem dX8_rankNow_18 : decode cX8_rankNow 18 = .ok (.getfield 124, 3) := by decide +kernel
theorem dX8_rankNow_21 : decode cX8_rankNow 21 = .ok (.if_icmp .ge 33, 3) := by decide +kernel
theorem dX8_rankNow_24 : decode cX8_rankNow 24 = .ok (.iload_n 3, 1) := by decide +kernel
theorem dX8_rankNow_25 : decode cX8_rankNow 25 = .ok (.iload 4, 2) := by decide +kernel
theorem dX8_rankNow_27 : decode cX8_rankNow 27 = .ok (.iload_n 2, 1) := by decide +kernel
theorem dX8_rankNow_28 : decode cX8_rankNow 28 = .ok (.if_icmp .eq 17, 3) := by decide +kernel
theorem dX8_rankNow_31 : decode cX8_rankNow 31 = .ok (.aload_n 0, 1) := by decide +kernel
theorem dX8_rankNow_32 : decode cX8_rankNow 32 = .ok (.iload 4, 2) := by decide +kernel
theorem dX8_rankNow_34 : decode cX8_rankNow 34 = .ok (.iload_n 2, 1) := by decide +kernel
theorem dX8_rankNow_35 : decode cX8_rankNow 35 = .ok (.invokevirtual 227, 3) := by decide +kernel
theorem dX8_rankNow_38 : decode cX8_rankNow 38 = .ok (.ifCond .eq 7, 3) := by decide +kernel
theorem dX8_rankNow_41 : decode cX8_rankNow 41 = .ok (.iconst 1, 1) := by decide +kernel
theorem dX8_rankNow_42 : decode cX8_rankNow 42 = .ok (.goto 4, 3) := by decide +kernel
theorem dX8_rankNow_45 : decode cX8_rankNow 45 = .ok (.iconst 0, 1) := by decide +kernel
theorem dX8_rankNow_46 : decode cX8_rankNow 46 = .ok (.iadd, 1) := by decide +kernel
theorem dX8_rankNow_47 : decode cX8_rankNow 47 = .ok (.istore_n 3, 1) := by decide +kernel
theorem dX8_rankNow_48 : decode cX8_rankNow 48 = .ok (.iinc 4 1, 3) := by decide +kernel
theorem dX8_rankNow_51 : decode cX8_rankNow 51 = .ok (.goto (-36), 3) := by decide +kernel
theorem dX8_rankNow_54 : decode cX8_rankNow 54 = .ok (.iload_n 3, 1) := by decide +kernel
theorem dX8_rankNow_55 : decode cX8_rankNow 55 = .ok (.iload_n 1, 1) := by decide +kernel
theorem dX8_rankNow_56 : decode cX8_rankNow 56 = .ok (.if_icmp .ne 5, 3) := by decide +kernel
theorem dX8_rankNow_59 : decode cX8_rankNow 59 = .ok (.iload_n 2, 1) := by decide +kernel
theorem dX8_rankNow_60 : decode cX8_rankNow 60 = .ok (.ireturn, 1) := by decide +kernel
theorem dX8_rankNow_61 : decode cX8_rankNow 61 = .ok (.iinc 2 1, 3) := by decide +kernel
theorem dX8_rankNow_64 : decode cX8_rankNow 64 = .ok (.goto (-62), 3) := by decide +kernel
theorem dX8_rankNow_67 : decode cX8_rankNow 67 = .ok (.bipush (-101), 2) := by decide +kernel
theorem dX8_rankNow_69 : decode cX8_rankNow 69 = .ok (.ireturn, 1) := by decide +kernel
theorem dX8_rank_0 : decode cX8_rank 0 = .ok (.aload_n 0, 1) := by decide +kernel
theorem dX8_rank_1 : decode cX8_rank 1 = .ok (.iload_n 1, 1) := by decide +kernel
theorem dX8_rank_2 : decode cX8_rank 2 = .ok (.invokevirtual 230, 3) := by decide +kernel
theorem dX8_rank_5 : decode cX8_rank 5 = .ok (.ireturn, 1) := by decide +kernel
theorem dX8_could_0 : decode cX8_could 0 = .ok (.iload_n 1, 1) := by decide +kernel
theorem dX8_could_1 : decode cX8_could 1 = .ok (.tableswitch 70 0 2 #[27, 43, 54], 27) := by decide +kernel
theorem dX8_could_28 : decode cX8_could 28 = .ok (.iload_n 0, 1) := by decide +kernel
theorem dX8_could_29 : decode cX8_could 29 = .ok (.iconst 1, 1) := by decide +kernel
theorem dX8_could_30 : decode cX8_could 30 = .ok (.if_icmp .eq 12, 3) := by decide +kernel
theorem dX8_could_33 : decode cX8_could 33 = .ok (.iload_n 0, 1) := by decide +kernel
theorem dX8_could_34 : decode cX8_could 34 = .ok (.iconst 2, 1) := by decide +kernel
theorem dX8_could_35 : decode cX8_could 35 = .ok (.if_icmp .eq 7, 3) := by decide +kernel
theorem dX8_could_38 : decode cX8_could 38 = .ok (.iconst 1, 1) := by decide +kernel
theorem dX8_could_39 : decode cX8_could 39 = .ok (.goto 4, 3) := by decide +kernel
theorem dX8_could_42 : decode cX8_could 42 = .ok (.iconst 0, 1) := by decide +kernel
theorem dX8_could_43 : decode cX8_could 43 = .ok (.ireturn, 1) := by decide +kernel
theorem dX8_could_44 : decode cX8_could 44 = .ok (.iload_n 0, 1) := by decide +kernel
theorem dX8_could_45 : decode cX8_could 45 = .ok (.iconst 3, 1) := by decide +kernel
theorem dX8_could_46 : decode cX8_could 46 = .ok (.if_icmp .eq 7, 3) := by decide +kernel
theorem dX8_could_49 : decode cX8_could 49 = .ok (.iconst 1, 1) := by decide +kernel
theorem dX8_could_50 : decode cX8_could 50 = .ok (.goto 4, 3) := by decide +kernel
theorem dX8_could_53 : decode cX8_could 53 = .ok (.iconst 0, 1) := by decide +kernel
theorem dX8_could_54 : decode cX8_could 54 = .ok (.ireturn, 1) := by decide +kernel
theorem dX8_could_55 : decode cX8_could 55 = .ok (.iload_n 0, 1) := by decide +kernel
theorem dX8_could_56 : decode cX8_could 56 = .ok (.iconst 1, 1) := by decide +kernel
theorem dX8_could_57 : decode cX8_could 57 = .ok (.if_icmp .eq 8, 3) := by decide +kernel
theorem dX8_could_60 : decode cX8_could 60 = .ok (.iload_n 0, 1) := by decide +kernel
theorem dX8_could_61 : decode cX8_could 61 = .ok (.iconst 2, 1) := by decide +kernel
theorem dX8_could_62 : decode cX8_could 62 = .ok (.if_icmp .ne 7, 3) := by decide +kernel
theorem dX8_could_65 : decode cX8_could 65 = .ok (.iconst 1, 1) := by decide +kernel
theorem dX8_could_66 : decode cX8_could 66 = .ok (.goto 4, 3) := by decide +kernel
theorem dX8_could_69 : decode cX8_could 69 = .ok (.iconst 0, 1) := by decide +kernel
theorem dX8_could_70 : decode cX8_could 70 = .ok (.ireturn, 1) := by decide +kernel
theorem dX8_could_71 : decode cX8_could 71 = .ok (.iload_n 0, 1) := by decide +kernel
theorem dX8_could_72 : decode cX8_could 72 = .ok (.iconst 4, 1) := by decide +kernel
theorem dX8_could_73 : decode cX8_could 73 = .ok (.if_icmp .ne 7, 3) := by decide +kernel
theorem dX8_could_76 : decode cX8_could 76 = .ok (.iconst 1, 1) := by decide +kernel
theorem dX8_could_77 : decode cX8_could 77 = .ok (.goto 4, 3) := by decide +kernel
theorem dX8_could_80 : decode cX8_could 80 = .ok (.iconst 0, 1) := by decide +kernel
theorem dX8_could_81 : decode cX8_could 81 = .ok (.ireturn, 1) := by decide +kernel
theorem dX8_see_0 : decode cX8_see 0 = .ok (.aload_n 0, 1) := by decide +kernel
theorem dX8_see_1 : decode cX8_see 1 = .ok (.iload_n 1, 1) := by decide +kernel
theorem dX8_see_2 : decode cX8_see 2 = .ok (.invokevirtual 133, 3) := by decide +kernel
theorem dX8_see_5 : decode cX8_see 5 = .ok (.ifCond .ne 6, 3) := by decide +kernel
theorem dX8_see_8 : decode cX8_see 8 = .ok (.bipush (-101), 2) := by decide +kernel
theorem dX8_see_10 : decode cX8_see 10 = .ok (.ireturn, 1) := by decide +kernel
theorem dX8_see_11 : decode cX8_see 11 = .ok (.iload_n 2, 1) := by decide +kernel
theorem dX8_see_12 : decode cX8_see 12 = .ok (.iconst 0, 1) := by decide +kernel
theorem dX8_see_13 : decode cX8_see 13 = .ok (.iconst 3, 1) := by decide +kernel
theorem dX8_see_14 : decode cX8_see 14 = .ok (.invokestatic 86, 3) := by decide +kernel
theorem dX8_see_17 : decode cX8_see 17 = .ok (.ifCond .ne 6, 3) := by decide +kernel
theorem dX8_see_20 : decode cX8_see 20 = .ok (.bipush (-102), 2) := by decide +kernel
theorem dX8_see_22 : decode cX8_see 22 = .ok (.ireturn, 1) := by decide +kernel
theorem dX8_see_23 : decode cX8_see 23 = .ok (.aload_n 0, 1) := by decide +kernel
theorem dX8_see_24 : decode cX8_see 24 = .ok (.getfield 130, 3) := by decide +kernel
theorem dX8_see_27 : decode cX8_see 27 = .ok (.bipush 6, 2) := by decide +kernel
theorem dX8_see_29 : decode cX8_see 29 = .ok (.if_icmp .ne 6, 3) := by decide +kernel
theorem dX8_see_32 : decode cX8_see 32 = .ok (.bipush (-104), 2) := by decide +kernel
theorem dX8_see_34 : decode cX8_see 34 = .ok (.ireturn, 1) := by decide +kernel
theorem dX8_see_35 : decode cX8_see 35 = .ok (.aload_n 0, 1) := by decide +kernel
theorem dX8_see_36 : decode cX8_see 36 = .ok (.getfield 31, 3) := by decide +kernel
theorem dX8_see_39 : decode cX8_see 39 = .ok (.aload_n 0, 1) := by decide +kernel
theorem dX8_see_40 : decode cX8_see 40 = .ok (.getfield 130, 3) := by decide +kernel
theorem dX8_see_43 : decode cX8_see 43 = .ok (.iload_n 1, 1) := by decide +kernel
theorem dX8_see_44 : decode cX8_see 44 = .ok (.iastore, 1) := by decide +kernel
theorem dX8_see_45 : decode cX8_see 45 = .ok (.aload_n 0, 1) := by decide +kernel
theorem dX8_see_46 : decode cX8_see 46 = .ok (.getfield 34, 3) := by decide +kernel
theorem dX8_see_49 : decode cX8_see 49 = .ok (.aload_n 0, 1) := by decide +kernel
theorem dX8_see_50 : decode cX8_see 50 = .ok (.getfield 130, 3) := by decide +kernel
theorem dX8_see_53 : decode cX8_see 53 = .ok (.iload_n 2, 1) := by decide +kernel
theorem dX8_see_54 : decode cX8_see 54 = .ok (.iastore, 1) := by decide +kernel
theorem dX8_see_55 : decode cX8_see 55 = .ok (.aload_n 0, 1) := by decide +kernel
theorem dX8_see_56 : decode cX8_see 56 = .ok (.getfield 37, 3) := by decide +kernel
theorem dX8_see_59 : decode cX8_see 59 = .ok (.aload_n 0, 1) := by decide +kernel
theorem dX8_see_60 : decode cX8_see 60 = .ok (.getfield 130, 3) := by decide +kernel
theorem dX8_see_63 : decode cX8_see 63 = .ok (.iload_n 3, 1) := by decide +kernel
theorem dX8_see_64 : decode cX8_see 64 = .ok (.ifCond .eq 7, 3) := by decide +kernel
theorem dX8_see_67 : decode cX8_see 67 = .ok (.iconst 1, 1) := by decide +kernel
theorem dX8_see_68 : decode cX8_see 68 = .ok (.goto 4, 3) := by decide +kernel
theorem dX8_see_71 : decode cX8_see 71 = .ok (.iconst 0, 1) := by decide +kernel
theorem dX8_see_72 : decode cX8_see 72 = .ok (.iastore, 1) := by decide +kernel
theorem dX8_see_73 : decode cX8_see 73 = .ok (.aload_n 0, 1) := by decide +kernel
theorem dX8_see_74 : decode cX8_see 74 = .ok (.dup, 1) := by decide +kernel
theorem dX8_see_75 : decode cX8_see 75 = .ok (.getfield 130, 3) := by decide +kernel
theorem dX8_see_78 : decode cX8_see 78 = .ok (.iconst 1, 1) := by decide +kernel
theorem dX8_see_79 : decode cX8_see 79 = .ok (.iadd, 1) := by decide +kernel
theorem dX8_see_80 : decode cX8_see 80 = .ok (.putfield 130, 3) := by decide +kernel
theorem dX8_see_83 : decode cX8_see 83 = .ok (.aload_n 0, 1) := by decide +kernel
theorem dX8_see_84 : decode cX8_see 84 = .ok (.getfield 130, 3) := by decide +kernel
theorem dX8_see_87 : decode cX8_see 87 = .ok (.ireturn, 1) := by decide +kernel
theorem dX8_forget_0 : decode cX8_forget 0 = .ok (.aload_n 0, 1) := by decide +kernel
theorem dX8_forget_1 : decode cX8_forget 1 = .ok (.getfield 130, 3) := by decide +kernel
theorem dX8_forget_4 : decode cX8_forget 4 = .ok (.istore_n 1, 1) := by decide +kernel
theorem dX8_forget_5 : decode cX8_forget 5 = .ok (.aload_n 0, 1) := by decide +kernel
theorem dX8_forget_6 : decode cX8_forget 6 = .ok (.iconst 0, 1) := by decide +kernel
theorem dX8_forget_7 : decode cX8_forget 7 = .ok (.putfield 130, 3) := by decide +kernel
theorem dX8_forget_10 : decode cX8_forget 10 = .ok (.iload_n 1, 1) := by decide +kernel
theorem dX8_forget_11 : decode cX8_forget 11 = .ok (.ireturn, 1) := by decide +kernel
theorem dX8_sortsOf_0 : decode cX8_sortsOf 0 = .ok (.iconst 0, 1) := by decide +kernel
theorem dX8_sortsOf_1 : decode cX8_sortsOf 1 = .ok (.istore_n 2, 1) := by decide +kernel
theorem dX8_sortsOf_2 : decode cX8_sortsOf 2 = .ok (.iconst 0, 1) := by decide +kernel
theorem dX8_sortsOf_3 : decode cX8_sortsOf 3 = .ok (.istore_n 3, 1) := by decide +kernel
theorem dX8_sortsOf_4 : decode cX8_sortsOf 4 = .ok (.iload_n 3, 1) := by decide +kernel
theorem dX8_sortsOf_5 : decode cX8_sortsOf 5 = .ok (.iconst 4, 1) := by decide +kernel
theorem dX8_sortsOf_6 : decode cX8_sortsOf 6 = .ok (.if_icmp .gt 98, 3) := by decide +kernel
theorem dX8_sortsOf_9 : decode cX8_sortsOf 9 = .ok (.iconst 1, 1) := by decide +kernel
theorem dX8_sortsOf_10 : decode cX8_sortsOf 10 = .ok (.istore 4, 2) := by decide +kernel
theorem dX8_sortsOf_12 : decode cX8_sortsOf 12 = .ok (.iconst 0, 1) := by decide +kernel
theorem dX8_sortsOf_13 : decode cX8_sortsOf 13 = .ok (.istore 5, 2) := by decide +kernel
theorem dX8_sortsOf_15 : decode cX8_sortsOf 15 = .ok (.iload 5, 2) := by decide +kernel

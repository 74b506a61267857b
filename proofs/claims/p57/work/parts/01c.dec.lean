theorem dX12_about_0 : decode cX12_about 0 = .ok (.iload_n 1, 1) := by decide +kernel
theorem dX12_about_1 : decode cX12_about 1 = .ok (.tableswitch 187 0 15 #[79, 84, 89, 99, 109, 119, 124, 129, 139, 147, 152, 157, 162, 167, 172, 182], 79) := by decide +kernel
theorem dX12_about_80 : decode cX12_about 80 = .ok (.aload_n 0, 1) := by decide +kernel
theorem dX12_about_81 : decode cX12_about 81 = .ok (.invokevirtual 404, 3) := by decide +kernel
theorem dX12_about_84 : decode cX12_about 84 = .ok (.ireturn, 1) := by decide +kernel
theorem dX12_about_85 : decode cX12_about 85 = .ok (.aload_n 0, 1) := by decide +kernel
theorem dX12_about_86 : decode cX12_about 86 = .ok (.invokevirtual 411, 3) := by decide +kernel
theorem dX12_about_89 : decode cX12_about 89 = .ok (.ireturn, 1) := by decide +kernel
theorem dX12_about_90 : decode cX12_about 90 = .ok (.aload_n 0, 1) := by decide +kernel
theorem dX12_about_91 : decode cX12_about 91 = .ok (.getfield 36, 3) := by decide +kernel
theorem dX12_about_94 : decode cX12_about 94 = .ok (.aload_n 0, 1) := by decide +kernel
theorem dX12_about_95 : decode cX12_about 95 = .ok (.getfield 274, 3) := by decide +kernel
theorem dX12_about_98 : decode cX12_about 98 = .ok (.iaload, 1) := by decide +kernel
theorem dX12_about_99 : decode cX12_about 99 = .ok (.ireturn, 1) := by decide +kernel
theorem dX12_about_100 : decode cX12_about 100 = .ok (.aload_n 0, 1) := by decide +kernel
theorem dX12_about_101 : decode cX12_about 101 = .ok (.getfield 39, 3) := by decide +kernel
theorem dX12_about_104 : decode cX12_about 104 = .ok (.aload_n 0, 1) := by decide +kernel
theorem dX12_about_105 : decode cX12_about 105 = .ok (.getfield 274, 3) := by decide +kernel
theorem dX12_about_108 : decode cX12_about 108 = .ok (.iaload, 1) := by decide +kernel
theorem dX12_about_109 : decode cX12_about 109 = .ok (.ireturn, 1) := by decide +kernel
theorem dX12_about_110 : decode cX12_about 110 = .ok (.aload_n 0, 1) := by decide +kernel
theorem dX12_about_111 : decode cX12_about 111 = .ok (.getfield 42, 3) := by decide +kernel
theorem dX12_about_114 : decode cX12_about 114 = .ok (.aload_n 0, 1) := by decide +kernel
theorem dX12_about_115 : decode cX12_about 115 = .ok (.getfield 274, 3) := by decide +kernel
theorem dX12_about_118 : decode cX12_about 118 = .ok (.iaload, 1) := by decide +kernel
theorem dX12_about_119 : decode cX12_about 119 = .ok (.ireturn, 1) := by decide +kernel
theorem dX12_about_120 : decode cX12_about 120 = .ok (.aload_n 0, 1) := by decide +kernel
theorem dX12_about_121 : decode cX12_about 121 = .ok (.invokevirtual 414, 3) := by decide +kernel
theorem dX12_about_124 : decode cX12_about 124 = .ok (.ireturn, 1) := by decide +kernel
theorem dX12_about_125 : decode cX12_about 125 = .ok (.aload_n 0, 1) := by decide +kernel
theorem dX12_about_126 : decode cX12_about 126 = .ok (.invokevirtual 429, 3) := by decide +kernel
theorem dX12_about_129 : decode cX12_about 129 = .ok (.ireturn, 1) := by decide +kernel
theorem dX12_about_130 : decode cX12_about 130 = .ok (.aload_n 0, 1) := by decide +kernel
theorem dX12_about_131 : decode cX12_about 131 = .ok (.getfield 27, 3) := by decide +kernel
theorem dX12_about_134 : decode cX12_about 134 = .ok (.aload_n 0, 1) := by decide +kernel
theorem dX12_about_135 : decode cX12_about 135 = .ok (.getfield 274, 3) := by decide +kernel
theorem dX12_about_138 : decode cX12_about 138 = .ok (.iaload, 1) := by decide +kernel
theorem dX12_about_139 : decode cX12_about 139 = .ok (.ireturn, 1) := by decide +kernel
theorem dX12_about_140 : decode cX12_about 140 = .ok (.aload_n 0, 1) := by decide +kernel
theorem dX12_about_141 : decode cX12_about 141 = .ok (.getfield 118, 3) := by decide +kernel
theorem dX12_about_144 : decode cX12_about 144 = .ok (.bipush 90, 2) := by decide +kernel
theorem dX12_about_146 : decode cX12_about 146 = .ok (.iaload, 1) := by decide +kernel
theorem dX12_about_147 : decode cX12_about 147 = .ok (.ireturn, 1) := by decide +kernel
theorem dX12_about_148 : decode cX12_about 148 = .ok (.aload_n 0, 1) := by decide +kernel
theorem dX12_about_149 : decode cX12_about 149 = .ok (.getfield 417, 3) := by decide +kernel
theorem dX12_about_152 : decode cX12_about 152 = .ok (.ireturn, 1) := by decide +kernel
theorem dX12_about_153 : decode cX12_about 153 = .ok (.aload_n 0, 1) := by decide +kernel
theorem dX12_about_154 : decode cX12_about 154 = .ok (.getfield 420, 3) := by decide +kernel
theorem dX12_about_157 : decode cX12_about 157 = .ok (.ireturn, 1) := by decide +kernel
theorem dX12_about_158 : decode cX12_about 158 = .ok (.aload_n 0, 1) := by decide +kernel
theorem dX12_about_159 : decode cX12_about 159 = .ok (.getfield 423, 3) := by decide +kernel
theorem dX12_about_162 : decode cX12_about 162 = .ok (.ireturn, 1) := by decide +kernel
theorem dX12_about_163 : decode cX12_about 163 = .ok (.aload_n 0, 1) := by decide +kernel
theorem dX12_about_164 : decode cX12_about 164 = .ok (.getfield 609, 3) := by decide +kernel
theorem dX12_about_167 : decode cX12_about 167 = .ok (.ireturn, 1) := by decide +kernel
theorem dX12_about_168 : decode cX12_about 168 = .ok (.aload_n 0, 1) := by decide +kernel
theorem dX12_about_169 : decode cX12_about 169 = .ok (.getfield 271, 3) := by decide +kernel
theorem dX12_about_172 : decode cX12_about 172 = .ok (.ireturn, 1) := by decide +kernel
theorem dX12_about_173 : decode cX12_about 173 = .ok (.aload_n 0, 1) := by decide +kernel
theorem dX12_about_174 : decode cX12_about 174 = .ok (.getfield 45, 3) := by decide +kernel
theorem dX12_about_177 : decode cX12_about 177 = .ok (.aload_n 0, 1) := by decide +kernel
theorem dX12_about_178 : decode cX12_about 178 = .ok (.getfield 274, 3) := by decide +kernel
theorem dX12_about_181 : decode cX12_about 181 = .ok (.iaload, 1) := by decide +kernel
theorem dX12_about_182 : decode cX12_about 182 = .ok (.ireturn, 1) := by decide +kernel
theorem dX12_about_183 : decode cX12_about 183 = .ok (.aload_n 0, 1) := by decide +kernel
theorem dX12_about_184 : decode cX12_about 184 = .ok (.getfield 426, 3) := by decide +kernel
theorem dX12_about_187 : decode cX12_about 187 = .ok (.ireturn, 1) := by decide +kernel
theorem dX12_about_188 : decode cX12_about 188 = .ok (.iconst (-1), 1) := by decide +kernel
theorem dX12_about_189 : decode cX12_about 189 = .ok (.ireturn, 1) := by decide +kernel
theorem dX12_absolute_0 : decode cX12_absolute 0 = .ok (.iload_n 0, 1) := by decide +kernel
theorem dX12_absolute_1 : decode cX12_absolute 1 = .ok (.ifCond .ge 8, 3) := by decide +kernel
theorem dX12_absolute_4 : decode cX12_absolute 4 = .ok (.iload_n 0, 1) := by decide +kernel
theorem dX12_absolute_5 : decode cX12_absolute 5 = .ok (.ineg, 1) := by decide +kernel
theorem dX12_absolute_6 : decode cX12_absolute 6 = .ok (.goto 4, 3) := by decide +kernel
theorem dX12_absolute_9 : decode cX12_absolute 9 = .ok (.iload_n 0, 1) := by decide +kernel
theorem dX12_absolute_10 : decode cX12_absolute 10 = .ok (.ireturn, 1) := by decide +kernel
theorem dX12_areBetter_0 : decode cX12_areBetter 0 = .ok (.aload_n 0, 1) := by decide +kernel
theorem dX12_areBetter_1 : decode cX12_areBetter 1 = .ok (.iload_n 1, 1) := by decide +kernel
theorem dX12_areBetter_2 : decode cX12_areBetter 2 = .ok (.invokevirtual 498, 3) := by decide +kernel
theorem dX12_areBetter_5 : decode cX12_areBetter 5 = .ok (.iconst 1, 1) := by decide +kernel
theorem dX12_areBetter_6 : decode cX12_areBetter 6 = .ok (.iload_n 3, 1) := by decide +kernel
theorem dX12_areBetter_7 : decode cX12_areBetter 7 = .ok (.ishl, 1) := by decide +kernel
theorem dX12_areBetter_8 : decode cX12_areBetter 8 = .ok (.iconst (-1), 1) := by decide +kernel
theorem dX12_areBetter_9 : decode cX12_areBetter 9 = .ok (.ixor, 1) := by decide +kernel
theorem dX12_areBetter_10 : decode cX12_areBetter 10 = .ok (.iand, 1) := by decide +kernel
theorem dX12_areBetter_11 : decode cX12_areBetter 11 = .ok (.iconst 1, 1) := by decide +kernel
theorem dX12_areBetter_12 : decode cX12_areBetter 12 = .ok (.iload 4, 2) := by decide +kernel
theorem dX12_areBetter_14 : decode cX12_areBetter 14 = .ok (.ishl, 1) := by decide +kernel
theorem dX12_areBetter_15 : decode cX12_areBetter 15 = .ok (.ior, 1) := by decide +kernel
theorem dX12_areBetter_16 : decode cX12_areBetter 16 = .ok (.istore 5, 2) := by decide +kernel
theorem dX12_areBetter_18 : decode cX12_areBetter 18 = .ok (.aload_n 0, 1) := by decide +kernel
theorem dX12_areBetter_19 : decode cX12_areBetter 19 = .ok (.iload_n 2, 1) := by decide +kernel
theorem dX12_areBetter_20 : decode cX12_areBetter 20 = .ok (.invokevirtual 498, 3) := by decide +kernel
theorem dX12_areBetter_23 : decode cX12_areBetter 23 = .ok (.iconst 1, 1) := by decide +kernel
theorem dX12_areBetter_24 : decode cX12_areBetter 24 = .ok (.iload 4, 2) := by decide +kernel
theorem dX12_areBetter_26 : decode cX12_areBetter 26 = .ok (.ishl, 1) := by decide +kernel
theorem dX12_areBetter_27 : decode cX12_areBetter 27 = .ok (.iconst (-1), 1) := by decide +kernel
theorem dX12_areBetter_28 : decode cX12_areBetter 28 = .ok (.ixor, 1) := by decide +kernel
theorem dX12_areBetter_29 : decode cX12_areBetter 29 = .ok (.iand, 1) := by decide +kernel
theorem dX12_areBetter_30 : decode cX12_areBetter 30 = .ok (.iconst 1, 1) := by decide +kernel
theorem dX12_areBetter_31 : decode cX12_areBetter 31 = .ok (.iload_n 3, 1) := by decide +kernel
theorem dX12_areBetter_32 : decode cX12_areBetter 32 = .ok (.ishl, 1) := by decide +kernel
theorem dX12_areBetter_33 : decode cX12_areBetter 33 = .ok (.ior, 1) := by decide +kernel
theorem dX12_areBetter_34 : decode cX12_areBetter 34 = .ok (.istore 6, 2) := by decide +kernel
theorem dX12_areBetter_36 : decode cX12_areBetter 36 = .ok (.aload_n 0, 1) := by decide +kernel
theorem dX12_areBetter_37 : decode cX12_areBetter 37 = .ok (.aload_n 0, 1) := by decide +kernel
theorem dX12_areBetter_38 : decode cX12_areBetter 38 = .ok (.getfield 118, 3) := by decide +kernel
theorem dX12_areBetter_41 : decode cX12_areBetter 41 = .ok (.bipush 86, 2) := by decide +kernel
theorem dX12_areBetter_43 : decode cX12_areBetter 43 = .ok (.iload_n 1, 1) := by decide +kernel
theorem dX12_areBetter_44 : decode cX12_areBetter 44 = .ok (.iadd, 1) := by decide +kernel
theorem dX12_areBetter_45 : decode cX12_areBetter 45 = .ok (.iaload, 1) := by decide +kernel
theorem dX12_areBetter_46 : decode cX12_areBetter 46 = .ok (.iload 5, 2) := by decide +kernel
theorem dX12_areBetter_48 : decode cX12_areBetter 48 = .ok (.invokevirtual 574, 3) := by decide +kernel
theorem dX12_areBetter_51 : decode cX12_areBetter 51 = .ok (.invokestatic 471, 3) := by decide +kernel
theorem dX12_areBetter_54 : decode cX12_areBetter 54 = .ok (.aload_n 0, 1) := by decide +kernel
theorem dX12_areBetter_55 : decode cX12_areBetter 55 = .ok (.iload_n 1, 1) := by decide +kernel
theorem dX12_areBetter_56 : decode cX12_areBetter 56 = .ok (.invokevirtual 501, 3) := by decide +kernel
theorem dX12_areBetter_59 : decode cX12_areBetter 59 = .ok (.invokestatic 471, 3) := by decide +kernel
theorem dX12_areBetter_62 : decode cX12_areBetter 62 = .ok (.if_icmp .le 36, 3) := by decide +kernel
theorem dX12_areBetter_65 : decode cX12_areBetter 65 = .ok (.aload_n 0, 1) := by decide +kernel
theorem dX12_areBetter_66 : decode cX12_areBetter 66 = .ok (.aload_n 0, 1) := by decide +kernel
theorem dX12_areBetter_67 : decode cX12_areBetter 67 = .ok (.getfield 118, 3) := by decide +kernel
theorem dX12_areBetter_70 : decode cX12_areBetter 70 = .ok (.bipush 86, 2) := by decide +kernel
theorem dX12_areBetter_72 : decode cX12_areBetter 72 = .ok (.iload_n 2, 1) := by decide +kernel
theorem dX12_areBetter_73 : decode cX12_areBetter 73 = .ok (.iadd, 1) := by decide +kernel
theorem dX12_areBetter_74 : decode cX12_areBetter 74 = .ok (.iaload, 1) := by decide +kernel
theorem dX12_areBetter_75 : decode cX12_areBetter 75 = .ok (.iload 6, 2) := by decide +kernel
theorem dX12_areBetter_77 : decode cX12_areBetter 77 = .ok (.invokevirtual 574, 3) := by decide +kernel
theorem dX12_areBetter_80 : decode cX12_areBetter 80 = .ok (.invokestatic 471, 3) := by decide +kernel
theorem dX12_areBetter_83 : decode cX12_areBetter 83 = .ok (.aload_n 0, 1) := by decide +kernel
theorem dX12_areBetter_84 : decode cX12_areBetter 84 = .ok (.iload_n 2, 1) := by decide +kernel
theorem dX12_areBetter_85 : decode cX12_areBetter 85 = .ok (.invokevirtual 501, 3) := by decide +kernel
theorem dX12_areBetter_88 : decode cX12_areBetter 88 = .ok (.invokestatic 471, 3) := by decide +kernel
theorem dX12_areBetter_91 : decode cX12_areBetter 91 = .ok (.if_icmp .le 7, 3) := by decide +kernel
theorem dX12_areBetter_94 : decode cX12_areBetter 94 = .ok (.iconst 1, 1) := by decide +kernel
theorem dX12_areBetter_95 : decode cX12_areBetter 95 = .ok (.goto 4, 3) := by decide +kernel
theorem dX12_areBetter_98 : decode cX12_areBetter 98 = .ok (.iconst 0, 1) := by decide +kernel
theorem dX12_areBetter_99 : decode cX12_areBetter 99 = .ok (.ireturn, 1) := by decide +kernel
theorem dX12_areLocks_0 : decode cX12_areLocks 0 = .ok (.iload_n 1, 1) := by decide +kernel
theorem dX12_areLocks_1 : decode cX12_areLocks 1 = .ok (.iconst 1, 1) := by decide +kernel
theorem dX12_areLocks_2 : decode cX12_areLocks 2 = .ok (.aload_n 0, 1) := by decide +kernel
theorem dX12_areLocks_3 : decode cX12_areLocks 3 = .ok (.invokevirtual 411, 3) := by decide +kernel
theorem dX12_areLocks_6 : decode cX12_areLocks 6 = .ok (.ishl, 1) := by decide +kernel
theorem dX12_areLocks_7 : decode cX12_areLocks 7 = .ok (.iconst 1, 1) := by decide +kernel
theorem dX12_areLocks_8 : decode cX12_areLocks 8 = .ok (.isub, 1) := by decide +kernel
theorem dX12_areLocks_9 : decode cX12_areLocks 9 = .ok (.iconst (-1), 1) := by decide +kernel
theorem dX12_areLocks_10 : decode cX12_areLocks 10 = .ok (.ixor, 1) := by decide +kernel
theorem dX12_areLocks_11 : decode cX12_areLocks 11 = .ok (.iand, 1) := by decide +kernel
theorem dX12_areLocks_12 : decode cX12_areLocks 12 = .ok (.ifCond .ne 7, 3) := by decide +kernel
theorem dX12_areLocks_15 : decode cX12_areLocks 15 = .ok (.iconst 1, 1) := by decide +kernel
theorem dX12_areLocks_16 : decode cX12_areLocks 16 = .ok (.goto 4, 3) := by decide +kernel
theorem dX12_areLocks_19 : decode cX12_areLocks 19 = .ok (.iconst 0, 1) := by decide +kernel
theorem dX12_areLocks_20 : decode cX12_areLocks 20 = .ok (.ireturn, 1) := by decide +kernel
theorem dX12_ask_0 : decode cX12_ask 0 = .ok (.iload_n 1, 1) := by decide +kernel
theorem dX12_ask_1 : decode cX12_ask 1 = .ok (.iconst 0, 1) := by decide +kernel
theorem dX12_ask_2 : decode cX12_ask 2 = .ok (.iconst 1, 1) := by decide +kernel
theorem dX12_ask_3 : decode cX12_ask 3 = .ok (.invokestatic 407, 3) := by decide +kernel
theorem dX12_ask_6 : decode cX12_ask 6 = .ok (.ifCond .eq 18, 3) := by decide +kernel
theorem dX12_ask_9 : decode cX12_ask 9 = .ok (.aload_n 0, 1) := by decide +kernel
theorem dX12_ask_10 : decode cX12_ask 10 = .ok (.invokevirtual 411, 3) := by decide +kernel
theorem dX12_ask_13 : decode cX12_ask 13 = .ok (.ifCond .eq 11, 3) := by decide +kernel
theorem dX12_ask_16 : decode cX12_ask 16 = .ok (.aload_n 0, 1) := by decide +kernel
theorem dX12_ask_17 : decode cX12_ask 17 = .ok (.iload_n 2, 1) := by decide +kernel
theorem dX12_ask_18 : decode cX12_ask 18 = .ok (.invokevirtual 618, 3) := by decide +kernel
theorem dX12_ask_21 : decode cX12_ask 21 = .ok (.ifCond .ne 5, 3) := by decide +kernel
theorem dX12_ask_24 : decode cX12_ask 24 = .ok (.iconst (-1), 1) := by decide +kernel
theorem dX12_ask_25 : decode cX12_ask 25 = .ok (.ireturn, 1) := by decide +kernel
theorem dX12_ask_26 : decode cX12_ask 26 = .ok (.iconst (-1), 1) := by decide +kernel
theorem dX12_ask_27 : decode cX12_ask 27 = .ok (.istore_n 3, 1) := by decide +kernel
theorem dX12_ask_28 : decode cX12_ask 28 = .ok (.ldc_w 528, 3) := by decide +kernel
theorem dX12_ask_31 : decode cX12_ask 31 = .ok (.istore 4, 2) := by decide +kernel
theorem dX12_ask_33 : decode cX12_ask 33 = .ok (.iconst 0, 1) := by decide +kernel
theorem dX12_ask_34 : decode cX12_ask 34 = .ok (.istore 5, 2) := by decide +kernel
theorem dX12_ask_36 : decode cX12_ask 36 = .ok (.iload 5, 2) := by decide +kernel
theorem dX12_ask_38 : decode cX12_ask 38 = .ok (.aload_n 0, 1) := by decide +kernel
theorem dX12_ask_39 : decode cX12_ask 39 = .ok (.invokevirtual 411, 3) := by decide +kernel
theorem dX12_ask_42 : decode cX12_ask 42 = .ok (.if_icmp .ge 35, 3) := by decide +kernel
theorem dX12_ask_45 : decode cX12_ask 45 = .ok (.aload_n 0, 1) := by decide +kernel
theorem dX12_ask_46 : decode cX12_ask 46 = .ok (.iload 5, 2) := by decide +kernel
theorem dX12_ask_48 : decode cX12_ask 48 = .ok (.iload_n 2, 1) := by decide +kernel
theorem dX12_ask_49 : decode cX12_ask 49 = .ok (.invokevirtual 621, 3) := by decide +kernel
theorem dX12_ask_52 : decode cX12_ask 52 = .ok (.istore 6, 2) := by decide +kernel
theorem dX12_ask_54 : decode cX12_ask 54 = .ok (.iload 6, 2) := by decide +kernel
theorem dX12_ask_56 : decode cX12_ask 56 = .ok (.iload 4, 2) := by decide +kernel
theorem dX12_ask_58 : decode cX12_ask 58 = .ok (.if_icmp .lt 6, 3) := by decide +kernel
theorem dX12_ask_61 : decode cX12_ask 61 = .ok (.goto 10, 3) := by decide +kernel
theorem dX12_ask_64 : decode cX12_ask 64 = .ok (.iload 5, 2) := by decide +kernel
theorem dX12_ask_66 : decode cX12_ask 66 = .ok (.istore_n 3, 1) := by decide +kernel
theorem dX12_ask_67 : decode cX12_ask 67 = .ok (.iload 6, 2) := by decide +kernel
theorem dX12_ask_69 : decode cX12_ask 69 = .ok (.istore 4, 2) := by decide +kernel
theorem dX12_ask_71 : decode cX12_ask 71 = .ok (.iinc 5 1, 3) := by decide +kernel
theorem dX12_ask_74 : decode cX12_ask 74 = .ok (.goto (-38), 3) := by decide +kernel
theorem dX12_ask_77 : decode cX12_ask 77 = .ok (.iload_n 1, 1) := by decide +kernel
theorem dX12_ask_78 : decode cX12_ask 78 = .ok (.ifCond .ne 7, 3) := by decide +kernel
theorem dX12_ask_81 : decode cX12_ask 81 = .ok (.iload_n 3, 1) := by decide +kernel
theorem dX12_ask_82 : decode cX12_ask 82 = .ok (.goto 5, 3) := by decide +kernel
theorem dX12_ask_85 : decode cX12_ask 85 = .ok (.iload 4, 2) := by decide +kernel
theorem dX12_ask_87 : decode cX12_ask 87 = .ok (.ireturn, 1) := by decide +kernel
theorem dX12_asked_0 : decode cX12_asked 0 = .ok (.iload_n 1, 1) := by decide +kernel
theorem dX12_asked_1 : decode cX12_asked 1 = .ok (.lookupswitch 63 #[(98, 48), (99, 43), (104, 58), (117, 53)], 43) := by decide +kernel
theorem dX12_asked_44 : decode cX12_asked 44 = .ok (.aload_n 0, 1) := by decide +kernel
theorem dX12_asked_45 : decode cX12_asked 45 = .ok (.getfield 386, 3) := by decide +kernel
theorem dX12_asked_48 : decode cX12_asked 48 = .ok (.ireturn, 1) := by decide +kernel
theorem dX12_asked_49 : decode cX12_asked 49 = .ok (.aload_n 0, 1) := by decide +kernel
theorem dX12_asked_50 : decode cX12_asked 50 = .ok (.getfield 389, 3) := by decide +kernel
theorem dX12_asked_53 : decode cX12_asked 53 = .ok (.ireturn, 1) := by decide +kernel
theorem dX12_asked_54 : decode cX12_asked 54 = .ok (.aload_n 0, 1) := by decide +kernel
theorem dX12_asked_55 : decode cX12_asked 55 = .ok (.getfield 392, 3) := by decide +kernel
theorem dX12_asked_58 : decode cX12_asked 58 = .ok (.ireturn, 1) := by decide +kernel
theorem dX12_asked_59 : decode cX12_asked 59 = .ok (.aload_n 0, 1) := by decide +kernel
theorem dX12_asked_60 : decode cX12_asked 60 = .ok (.getfield 395, 3) := by decide +kernel
theorem dX12_asked_63 : decode cX12_asked 63 = .ok (.ireturn, 1) := by decide +kernel
theorem dX12_asked_64 : decode cX12_asked 64 = .ok (.iload_n 2, 1) := by decide +kernel
theorem dX12_asked_65 : decode cX12_asked 65 = .ok (.ireturn, 1) := by decide +kernel
theorem dX12_back_0 : decode cX12_back 0 = .ok (.iload_n 1, 1) := by decide +kernel
theorem dX12_back_1 : decode cX12_back 1 = .ok (.iconst 0, 1) := by decide +kernel
theorem dX12_back_2 : decode cX12_back 2 = .ok (.iconst 2, 1) := by decide +kernel
theorem dX12_back_3 : decode cX12_back 3 = .ok (.invokestatic 407, 3) := by decide +kernel
theorem dX12_back_6 : decode cX12_back 6 = .ok (.ifCond .eq 12, 3) := by decide +kernel
theorem dX12_back_9 : decode cX12_back 9 = .ok (.aload_n 0, 1) := by decide +kernel
theorem dX12_back_10 : decode cX12_back 10 = .ok (.getfield 151, 3) := by decide +kernel
theorem dX12_back_13 : decode cX12_back 13 = .ok (.iload_n 1, 1) := by decide +kernel
theorem dX12_back_14 : decode cX12_back 14 = .ok (.baload, 1) := by decide +kernel
theorem dX12_back_15 : decode cX12_back 15 = .ok (.ifCond .ne 5, 3) := by decide +kernel
theorem dX12_back_18 : decode cX12_back 18 = .ok (.iconst (-1), 1) := by decide +kernel
theorem dX12_back_19 : decode cX12_back 19 = .ok (.ireturn, 1) := by decide +kernel
theorem dX12_back_20 : decode cX12_back 20 = .ok (.iconst 0, 1) := by decide +kernel
theorem dX12_back_21 : decode cX12_back 21 = .ok (.istore_n 2, 1) := by decide +kernel
theorem dX12_back_22 : decode cX12_back 22 = .ok (.iload_n 2, 1) := by decide +kernel
theorem dX12_back_23 : decode cX12_back 23 = .ok (.bipush 91, 2) := by decide +kernel
theorem dX12_back_25 : decode cX12_back 25 = .ok (.if_icmp .ge 26, 3) := by decide +kernel
theorem dX12_back_28 : decode cX12_back 28 = .ok (.aload_n 0, 1) := by decide +kernel
theorem dX12_back_29 : decode cX12_back 29 = .ok (.getfield 118, 3) := by decide +kernel
theorem dX12_back_32 : decode cX12_back 32 = .ok (.iload_n 2, 1) := by decide +kernel
theorem dX12_back_33 : decode cX12_back 33 = .ok (.aload_n 0, 1) := by decide +kernel
theorem dX12_back_34 : decode cX12_back 34 = .ok (.getfield 148, 3) := by decide +kernel
theorem dX12_back_37 : decode cX12_back 37 = .ok (.bipush 91, 2) := by decide +kernel
theorem dX12_back_39 : decode cX12_back 39 = .ok (.iload_n 1, 1) := by decide +kernel
theorem dX12_back_40 : decode cX12_back 40 = .ok (.imul, 1) := by decide +kernel
theorem dX12_back_41 : decode cX12_back 41 = .ok (.iload_n 2, 1) := by decide +kernel
theorem dX12_back_42 : decode cX12_back 42 = .ok (.iadd, 1) := by decide +kernel
theorem dX12_back_43 : decode cX12_back 43 = .ok (.iaload, 1) := by decide +kernel
theorem dX12_back_44 : decode cX12_back 44 = .ok (.iastore, 1) := by decide +kernel
theorem dX12_back_45 : decode cX12_back 45 = .ok (.iinc 2 1, 3) := by decide +kernel
theorem dX12_back_48 : decode cX12_back 48 = .ok (.goto (-26), 3) := by decide +kernel
theorem dX12_back_51 : decode cX12_back 51 = .ok (.aload_n 0, 1) := by decide +kernel
theorem dX12_back_52 : decode cX12_back 52 = .ok (.iconst 0, 1) := by decide +kernel
theorem dX12_back_53 : decode cX12_back 53 = .ok (.putfield 417, 3) := by decide +kernel
theorem dX12_back_56 : decode cX12_back 56 = .ok (.aload_n 0, 1) := by decide +kernel
theorem dX12_back_57 : decode cX12_back 57 = .ok (.iconst 0, 1) := by decide +kernel
theorem dX12_back_58 : decode cX12_back 58 = .ok (.putfield 420, 3) := by decide +kernel
theorem dX12_back_61 : decode cX12_back 61 = .ok (.aload_n 0, 1) := by decide +kernel
theorem dX12_back_62 : decode cX12_back 62 = .ok (.bipush (-2), 2) := by decide +kernel
theorem dX12_back_64 : decode cX12_back 64 = .ok (.invokevirtual 538, 3) := by decide +kernel
theorem dX12_back_67 : decode cX12_back 67 = .ok (.invokestatic 471, 3) := by decide +kernel
theorem dX12_back_70 : decode cX12_back 70 = .ok (.ireturn, 1) := by decide +kernel
theorem dX12_barred_0 : decode cX12_barred 0 = .ok (.iconst 1, 1) := by decide +kernel
theorem dX12_barred_1 : decode cX12_barred 1 = .ok (.aload_n 0, 1) := by decide +kernel
theorem dX12_barred_2 : decode cX12_barred 2 = .ok (.getfield 36, 3) := by decide +kernel
theorem dX12_barred_5 : decode cX12_barred 5 = .ok (.aload_n 0, 1) := by decide +kernel
theorem dX12_barred_6 : decode cX12_barred 6 = .ok (.getfield 274, 3) := by decide +kernel
theorem dX12_barred_9 : decode cX12_barred 9 = .ok (.iaload, 1) := by decide +kernel
theorem dX12_barred_10 : decode cX12_barred 10 = .ok (.ishl, 1) := by decide +kernel
theorem dX12_barred_11 : decode cX12_barred 11 = .ok (.iconst 1, 1) := by decide +kernel
theorem dX12_barred_12 : decode cX12_barred 12 = .ok (.isub, 1) := by decide +kernel
theorem dX12_barred_13 : decode cX12_barred 13 = .ok (.istore_n 1, 1) := by decide +kernel
theorem dX12_barred_14 : decode cX12_barred 14 = .ok (.iconst 0, 1) := by decide +kernel
theorem dX12_barred_15 : decode cX12_barred 15 = .ok (.istore_n 2, 1) := by decide +kernel
theorem dX12_barred_16 : decode cX12_barred 16 = .ok (.iload_n 2, 1) := by decide +kernel
theorem dX12_barred_17 : decode cX12_barred 17 = .ok (.aload_n 0, 1) := by decide +kernel
theorem dX12_barred_18 : decode cX12_barred 18 = .ok (.getfield 42, 3) := by decide +kernel
theorem dX12_barred_21 : decode cX12_barred 21 = .ok (.aload_n 0, 1) := by decide +kernel
theorem dX12_barred_22 : decode cX12_barred 22 = .ok (.getfield 274, 3) := by decide +kernel
theorem dX12_barred_25 : decode cX12_barred 25 = .ok (.iaload, 1) := by decide +kernel
theorem dX12_barred_26 : decode cX12_barred 26 = .ok (.if_icmp .ge 19, 3) := by decide +kernel
theorem dX12_barred_29 : decode cX12_barred 29 = .ok (.iload_n 1, 1) := by decide +kernel
theorem dX12_barred_30 : decode cX12_barred 30 = .ok (.aload_n 0, 1) := by decide +kernel
theorem dX12_barred_31 : decode cX12_barred 31 = .ok (.iload_n 2, 1) := by decide +kernel
theorem dX12_barred_32 : decode cX12_barred 32 = .ok (.invokevirtual 501, 3) := by decide +kernel
theorem dX12_barred_35 : decode cX12_barred 35 = .ok (.iconst (-1), 1) := by decide +kernel
theorem dX12_barred_36 : decode cX12_barred 36 = .ok (.ixor, 1) := by decide +kernel
theorem dX12_barred_37 : decode cX12_barred 37 = .ok (.iand, 1) := by decide +kernel
theorem dX12_barred_38 : decode cX12_barred 38 = .ok (.istore_n 1, 1) := by decide +kernel
theorem dX12_barred_39 : decode cX12_barred 39 = .ok (.iinc 2 1, 3) := by decide +kernel
theorem dX12_barred_42 : decode cX12_barred 42 = .ok (.goto (-26), 3) := by decide +kernel
theorem dX12_barred_45 : decode cX12_barred 45 = .ok (.iload_n 1, 1) := by decide +kernel
theorem dX12_barred_46 : decode cX12_barred 46 = .ok (.ireturn, 1) := by decide +kernel
theorem dX12_behindUnit_0 : decode cX12_behindUnit 0 = .ok (.aload_n 0, 1) := by decide +kernel
theorem dX12_behindUnit_1 : decode cX12_behindUnit 1 = .ok (.invokevirtual 380, 3) := by decide +kernel
theorem dX12_behindUnit_4 : decode cX12_behindUnit 4 = .ok (.istore_n 1, 1) := by decide +kernel
theorem dX12_behindUnit_5 : decode cX12_behindUnit 5 = .ok (.iload_n 1, 1) := by decide +kernel
theorem dX12_behindUnit_6 : decode cX12_behindUnit 6 = .ok (.iconst 4, 1) := by decide +kernel
theorem dX12_behindUnit_7 : decode cX12_behindUnit 7 = .ok (.if_icmp .ne 16, 3) := by decide +kernel
theorem dX12_behindUnit_10 : decode cX12_behindUnit 10 = .ok (.aload_n 0, 1) := by decide +kernel
theorem dX12_behindUnit_11 : decode cX12_behindUnit 11 = .ok (.invokevirtual 383, 3) := by decide +kernel
theorem dX12_behindUnit_14 : decode cX12_behindUnit 14 = .ok (.ifCond .eq 9, 3) := by decide +kernel
theorem dX12_behindUnit_17 : decode cX12_behindUnit 17 = .ok (.aload_n 0, 1) := by decide +kernel
theorem dX12_behindUnit_18 : decode cX12_behindUnit 18 = .ok (.invokevirtual 258, 3) := by decide +kernel
theorem dX12_behindUnit_21 : decode cX12_behindUnit 21 = .ok (.iconst 1, 1) := by decide +kernel
theorem dX12_behindUnit_22 : decode cX12_behindUnit 22 = .ok (.ireturn, 1) := by decide +kernel
theorem dX12_behindUnit_23 : decode cX12_behindUnit 23 = .ok (.aload_n 0, 1) := by decide +kernel
theorem dX12_behindUnit_24 : decode cX12_behindUnit 24 = .ok (.getfield 109, 3) := by decide +kernel
theorem dX12_behindUnit_27 : decode cX12_behindUnit 27 = .ok (.aload_n 0, 1) := by decide +kernel
theorem dX12_behindUnit_28 : decode cX12_behindUnit 28 = .ok (.getfield 359, 3) := by decide +kernel
theorem dX12_behindUnit_31 : decode cX12_behindUnit 31 = .ok (.iconst 1, 1) := by decide +kernel
theorem dX12_behindUnit_32 : decode cX12_behindUnit 32 = .ok (.isub, 1) := by decide +kernel
theorem dX12_behindUnit_33 : decode cX12_behindUnit 33 = .ok (.iaload, 1) := by decide +kernel
theorem dX12_behindUnit_34 : decode cX12_behindUnit 34 = .ok (.bipush 6, 2) := by decide +kernel
theorem dX12_behindUnit_36 : decode cX12_behindUnit 36 = .ok (.if_icmp .gt 68, 3) := by decide +kernel
theorem dX12_behindUnit_39 : decode cX12_behindUnit 39 = .ok (.aload_n 0, 1) := by decide +kernel
theorem dX12_behindUnit_40 : decode cX12_behindUnit 40 = .ok (.getfield 109, 3) := by decide +kernel
theorem dX12_behindUnit_43 : decode cX12_behindUnit 43 = .ok (.aload_n 0, 1) := by decide +kernel
theorem dX12_behindUnit_44 : decode cX12_behindUnit 44 = .ok (.getfield 359, 3) := by decide +kernel
theorem dX12_behindUnit_47 : decode cX12_behindUnit 47 = .ok (.iconst 1, 1) := by decide +kernel
theorem dX12_behindUnit_48 : decode cX12_behindUnit 48 = .ok (.isub, 1) := by decide +kernel
theorem dX12_behindUnit_49 : decode cX12_behindUnit 49 = .ok (.iaload, 1) := by decide +kernel
theorem dX12_behindUnit_50 : decode cX12_behindUnit 50 = .ok (.iload_n 1, 1) := by decide +kernel
theorem dX12_behindUnit_51 : decode cX12_behindUnit 51 = .ok (.if_icmp .lt 53, 3) := by decide +kernel
theorem dX12_behindUnit_54 : decode cX12_behindUnit 54 = .ok (.aload_n 0, 1) := by decide +kernel
theorem dX12_behindUnit_55 : decode cX12_behindUnit 55 = .ok (.dup, 1) := by decide +kernel
theorem dX12_behindUnit_56 : decode cX12_behindUnit 56 = .ok (.getfield 359, 3) := by decide +kernel
theorem dX12_behindUnit_59 : decode cX12_behindUnit 59 = .ok (.iconst 1, 1) := by decide +kernel
theorem dX12_behindUnit_60 : decode cX12_behindUnit 60 = .ok (.isub, 1) := by decide +kernel
theorem dX12_behindUnit_61 : decode cX12_behindUnit 61 = .ok (.putfield 359, 3) := by decide +kernel
theorem dX12_behindUnit_64 : decode cX12_behindUnit 64 = .ok (.aload_n 0, 1) := by decide +kernel
theorem dX12_behindUnit_65 : decode cX12_behindUnit 65 = .ok (.getfield 109, 3) := by decide +kernel
theorem dX12_behindUnit_68 : decode cX12_behindUnit 68 = .ok (.aload_n 0, 1) := by decide +kernel
theorem dX12_behindUnit_69 : decode cX12_behindUnit 69 = .ok (.getfield 359, 3) := by decide +kernel
theorem dX12_behindUnit_72 : decode cX12_behindUnit 72 = .ok (.iaload, 1) := by decide +kernel
theorem dX12_behindUnit_73 : decode cX12_behindUnit 73 = .ok (.iconst 3, 1) := by decide +kernel
theorem dX12_behindUnit_74 : decode cX12_behindUnit 74 = .ok (.if_icmp .ne 13, 3) := by decide +kernel
theorem dX12_behindUnit_77 : decode cX12_behindUnit 77 = .ok (.aload_n 0, 1) := by decide +kernel
theorem dX12_behindUnit_78 : decode cX12_behindUnit 78 = .ok (.dup, 1) := by decide +kernel
theorem dX12_behindUnit_79 : decode cX12_behindUnit 79 = .ok (.getfield 362, 3) := by decide +kernel
theorem dX12_behindUnit_82 : decode cX12_behindUnit 82 = .ok (.iconst 1, 1) := by decide +kernel
theorem dX12_behindUnit_83 : decode cX12_behindUnit 83 = .ok (.isub, 1) := by decide +kernel
theorem dX12_behindUnit_84 : decode cX12_behindUnit 84 = .ok (.putfield 362, 3) := by decide +kernel
theorem dX12_behindUnit_87 : decode cX12_behindUnit 87 = .ok (.aload_n 0, 1) := by decide +kernel
theorem dX12_behindUnit_88 : decode cX12_behindUnit 88 = .ok (.aload_n 0, 1) := by decide +kernel
theorem dX12_behindUnit_89 : decode cX12_behindUnit 89 = .ok (.getfield 112, 3) := by decide +kernel
theorem dX12_behindUnit_92 : decode cX12_behindUnit 92 = .ok (.aload_n 0, 1) := by decide +kernel
theorem dX12_behindUnit_93 : decode cX12_behindUnit 93 = .ok (.getfield 359, 3) := by decide +kernel
theorem dX12_behindUnit_96 : decode cX12_behindUnit 96 = .ok (.iaload, 1) := by decide +kernel
theorem dX12_behindUnit_97 : decode cX12_behindUnit 97 = .ok (.iconst 0, 1) := by decide +kernel
theorem dX12_behindUnit_98 : decode cX12_behindUnit 98 = .ok (.invokevirtual 377, 3) := by decide +kernel
theorem dX12_behindUnit_101 : decode cX12_behindUnit 101 = .ok (.goto (-78), 3) := by decide +kernel
theorem dX12_behindUnit_104 : decode cX12_behindUnit 104 = .ok (.iload_n 1, 1) := by decide +kernel
theorem dX12_behindUnit_105 : decode cX12_behindUnit 105 = .ok (.ifCond .le 42, 3) := by decide +kernel
theorem dX12_behindUnit_108 : decode cX12_behindUnit 108 = .ok (.aload_n 0, 1) := by decide +kernel
theorem dX12_behindUnit_109 : decode cX12_behindUnit 109 = .ok (.iload_n 1, 1) := by decide +kernel
theorem dX12_behindUnit_110 : decode cX12_behindUnit 110 = .ok (.iload_n 1, 1) := by decide +kernel
theorem dX12_behindUnit_111 : decode cX12_behindUnit 111 = .ok (.iconst 2, 1) := by decide +kernel
theorem dX12_behindUnit_112 : decode cX12_behindUnit 112 = .ok (.if_icmp .ne 8, 3) := by decide +kernel
theorem dX12_behindUnit_115 : decode cX12_behindUnit 115 = .ok (.bipush 38, 2) := by decide +kernel
theorem dX12_behindUnit_117 : decode cX12_behindUnit 117 = .ok (.goto 21, 3) := by decide +kernel
theorem dX12_behindUnit_120 : decode cX12_behindUnit 120 = .ok (.iload_n 1, 1) := by decide +kernel
theorem dX12_behindUnit_121 : decode cX12_behindUnit 121 = .ok (.iconst 1, 1) := by decide +kernel
theorem dX12_behindUnit_122 : decode cX12_behindUnit 122 = .ok (.if_icmp .ne 8, 3) := by decide +kernel
theorem dX12_behindUnit_125 : decode cX12_behindUnit 125 = .ok (.bipush 124, 2) := by decide +kernel
theorem dX12_behindUnit_127 : decode cX12_behindUnit 127 = .ok (.goto 11, 3) := by decide +kernel
theorem dX12_behindUnit_130 : decode cX12_behindUnit 130 = .ok (.aload_n 0, 1) := by decide +kernel
theorem dX12_behindUnit_131 : decode cX12_behindUnit 131 = .ok (.aload_n 0, 1) := by decide +kernel
theorem dX12_behindUnit_132 : decode cX12_behindUnit 132 = .ok (.getfield 216, 3) := by decide +kernel
theorem dX12_behindUnit_135 : decode cX12_behindUnit 135 = .ok (.invokevirtual 219, 3) := by decide +kernel
theorem dX12_behindUnit_138 : decode cX12_behindUnit 138 = .ok (.invokevirtual 365, 3) := by decide +kernel
theorem dX12_behindUnit_141 : decode cX12_behindUnit 141 = .ok (.aload_n 0, 1) := by decide +kernel
theorem dX12_behindUnit_142 : decode cX12_behindUnit 142 = .ok (.invokevirtual 255, 3) := by decide +kernel
theorem dX12_behindUnit_145 : decode cX12_behindUnit 145 = .ok (.iconst 1, 1) := by decide +kernel
theorem dX12_behindUnit_146 : decode cX12_behindUnit 146 = .ok (.ireturn, 1) := by decide +kernel
theorem dX12_behindUnit_147 : decode cX12_behindUnit 147 = .ok (.aload_n 0, 1) := by decide +kernel
theorem dX12_behindUnit_148 : decode cX12_behindUnit 148 = .ok (.dup, 1) := by decide +kernel
theorem dX12_behindUnit_149 : decode cX12_behindUnit 149 = .ok (.getfield 359, 3) := by decide +kernel
theorem dX12_behindUnit_152 : decode cX12_behindUnit 152 = .ok (.iconst 1, 1) := by decide +kernel
theorem dX12_behindUnit_153 : decode cX12_behindUnit 153 = .ok (.isub, 1) := by decide +kernel
theorem dX12_behindUnit_154 : decode cX12_behindUnit 154 = .ok (.putfield 359, 3) := by decide +kernel
theorem dX12_behindUnit_157 : decode cX12_behindUnit 157 = .ok (.aload_n 0, 1) := by decide +kernel
theorem dX12_behindUnit_158 : decode cX12_behindUnit 158 = .ok (.getfield 109, 3) := by decide +kernel
theorem dX12_behindUnit_161 : decode cX12_behindUnit 161 = .ok (.aload_n 0, 1) := by decide +kernel
theorem dX12_behindUnit_162 : decode cX12_behindUnit 162 = .ok (.getfield 359, 3) := by decide +kernel
theorem dX12_behindUnit_165 : decode cX12_behindUnit 165 = .ok (.iaload, 1) := by decide +kernel
theorem dX12_behindUnit_166 : decode cX12_behindUnit 166 = .ok (.bipush 7, 2) := by decide +kernel
theorem dX12_behindUnit_168 : decode cX12_behindUnit 168 = .ok (.if_icmp .ne 23, 3) := by decide +kernel
theorem dX12_behindUnit_171 : decode cX12_behindUnit 171 = .ok (.aload_n 0, 1) := by decide +kernel
theorem dX12_behindUnit_172 : decode cX12_behindUnit 172 = .ok (.dup, 1) := by decide +kernel
theorem dX12_behindUnit_173 : decode cX12_behindUnit 173 = .ok (.getfield 362, 3) := by decide +kernel
theorem dX12_behindUnit_176 : decode cX12_behindUnit 176 = .ok (.iconst 1, 1) := by decide +kernel
theorem dX12_behindUnit_177 : decode cX12_behindUnit 177 = .ok (.isub, 1) := by decide +kernel
theorem dX12_behindUnit_178 : decode cX12_behindUnit 178 = .ok (.putfield 362, 3) := by decide +kernel
theorem dX12_behindUnit_181 : decode cX12_behindUnit 181 = .ok (.aload_n 0, 1) := by decide +kernel
theorem dX12_behindUnit_182 : decode cX12_behindUnit 182 = .ok (.aload_n 0, 1) := by decide +kernel
theorem dX12_behindUnit_183 : decode cX12_behindUnit 183 = .ok (.bipush 41, 2) := by decide +kernel
theorem dX12_behindUnit_185 : decode cX12_behindUnit 185 = .ok (.invokevirtual 318, 3) := by decide +kernel
theorem dX12_behindUnit_188 : decode cX12_behindUnit 188 = .ok (.invokevirtual 321, 3) := by decide +kernel
theorem dX12_behindUnit_191 : decode cX12_behindUnit 191 = .ok (.iconst 0, 1) := by decide +kernel
theorem dX12_behindUnit_192 : decode cX12_behindUnit 192 = .ok (.ireturn, 1) := by decide +kernel
theorem dX12_best_0 : decode cX12_best 0 = .ok (.iconst (-1), 1) := by decide +kernel
theorem dX12_best_1 : decode cX12_best 1 = .ok (.istore_n 1, 1) := by decide +kernel
theorem dX12_best_2 : decode cX12_best 2 = .ok (.iconst 0, 1) := by decide +kernel
theorem dX12_best_3 : decode cX12_best 3 = .ok (.istore_n 2, 1) := by decide +kernel
theorem dX12_best_4 : decode cX12_best 4 = .ok (.iload_n 2, 1) := by decide +kernel
theorem dX12_best_5 : decode cX12_best 5 = .ok (.aload_n 0, 1) := by decide +kernel
theorem dX12_best_6 : decode cX12_best 6 = .ok (.invokevirtual 404, 3) := by decide +kernel
theorem dX12_best_9 : decode cX12_best 9 = .ok (.if_icmp .ge 42, 3) := by decide +kernel
theorem dX12_best_12 : decode cX12_best 12 = .ok (.iload_n 1, 1) := by decide +kernel
theorem dX12_best_13 : decode cX12_best 13 = .ok (.ifCond .lt 30, 3) := by decide +kernel
theorem dX12_best_16 : decode cX12_best 16 = .ok (.aload_n 0, 1) := by decide +kernel
theorem dX12_best_17 : decode cX12_best 17 = .ok (.aload_n 0, 1) := by decide +kernel
theorem dX12_best_18 : decode cX12_best 18 = .ok (.iload_n 2, 1) := by decide +kernel
theorem dX12_best_19 : decode cX12_best 19 = .ok (.invokevirtual 450, 3) := by decide +kernel
theorem dX12_best_22 : decode cX12_best 22 = .ok (.invokevirtual 459, 3) := by decide +kernel
theorem dX12_best_25 : decode cX12_best 25 = .ok (.invokestatic 471, 3) := by decide +kernel
theorem dX12_best_28 : decode cX12_best 28 = .ok (.aload_n 0, 1) := by decide +kernel
theorem dX12_best_29 : decode cX12_best 29 = .ok (.aload_n 0, 1) := by decide +kernel
theorem dX12_best_30 : decode cX12_best 30 = .ok (.iload_n 1, 1) := by decide +kernel
theorem dX12_best_31 : decode cX12_best 31 = .ok (.invokevirtual 450, 3) := by decide +kernel
theorem dX12_best_34 : decode cX12_best 34 = .ok (.invokevirtual 459, 3) := by decide +kernel
theorem dX12_best_37 : decode cX12_best 37 = .ok (.invokestatic 471, 3) := by decide +kernel
theorem dX12_best_40 : decode cX12_best 40 = .ok (.if_icmp .le 5, 3) := by decide +kernel
theorem dX12_best_43 : decode cX12_best 43 = .ok (.iload_n 2, 1) := by decide +kernel
theorem dX12_best_44 : decode cX12_best 44 = .ok (.istore_n 1, 1) := by decide +kernel
theorem dX12_best_45 : decode cX12_best 45 = .ok (.iinc 2 1, 3) := by decide +kernel
theorem dX12_best_48 : decode cX12_best 48 = .ok (.goto (-44), 3) := by decide +kernel
theorem dX12_best_51 : decode cX12_best 51 = .ok (.iload_n 1, 1) := by decide +kernel
theorem dX12_best_52 : decode cX12_best 52 = .ok (.ireturn, 1) := by decide +kernel
theorem dX12_bit_0 : decode cX12_bit 0 = .ok (.iload_n 0, 1) := by decide +kernel
theorem dX12_bit_1 : decode cX12_bit 1 = .ok (.iload_n 1, 1) := by decide +kernel
theorem dX12_bit_2 : decode cX12_bit 2 = .ok (.ishr, 1) := by decide +kernel
theorem dX12_bit_3 : decode cX12_bit 3 = .ok (.iconst 1, 1) := by decide +kernel
theorem dX12_bit_4 : decode cX12_bit 4 = .ok (.iand, 1) := by decide +kernel
theorem dX12_bit_5 : decode cX12_bit 5 = .ok (.iconst 1, 1) := by decide +kernel
theorem dX12_bit_6 : decode cX12_bit 6 = .ok (.if_icmp .ne 7, 3) := by decide +kernel
theorem dX12_bit_9 : decode cX12_bit 9 = .ok (.iconst 1, 1) := by decide +kernel
theorem dX12_bit_10 : decode cX12_bit 10 = .ok (.goto 4, 3) := by decide +kernel
theorem dX12_bit_13 : decode cX12_bit 13 = .ok (.iconst 0, 1) := by decide +kernel
theorem dX12_bit_14 : decode cX12_bit 14 = .ok (.ireturn, 1) := by decide +kernel
theorem dX12_bitsOf_0 : decode cX12_bitsOf 0 = .ok (.iconst 0, 1) := by decide +kernel
theorem dX12_bitsOf_1 : decode cX12_bitsOf 1 = .ok (.istore_n 1, 1) := by decide +kernel
theorem dX12_bitsOf_2 : decode cX12_bitsOf 2 = .ok (.iload_n 0, 1) := by decide +kernel
theorem dX12_bitsOf_3 : decode cX12_bitsOf 3 = .ok (.istore_n 2, 1) := by decide +kernel
theorem dX12_bitsOf_4 : decode cX12_bitsOf 4 = .ok (.iload_n 2, 1) := by decide +kernel
theorem dX12_bitsOf_5 : decode cX12_bitsOf 5 = .ok (.ifCond .eq 15, 3) := by decide +kernel
theorem dX12_bitsOf_8 : decode cX12_bitsOf 8 = .ok (.iinc 1 1, 3) := by decide +kernel
theorem dX12_bitsOf_11 : decode cX12_bitsOf 11 = .ok (.iload_n 2, 1) := by decide +kernel
theorem dX12_bitsOf_12 : decode cX12_bitsOf 12 = .ok (.iload_n 2, 1) := by decide +kernel
theorem dX12_bitsOf_13 : decode cX12_bitsOf 13 = .ok (.iconst 1, 1) := by decide +kernel
theorem dX12_bitsOf_14 : decode cX12_bitsOf 14 = .ok (.isub, 1) := by decide +kernel
theorem dX12_bitsOf_15 : decode cX12_bitsOf 15 = .ok (.iand, 1) := by decide +kernel
theorem dX12_bitsOf_16 : decode cX12_bitsOf 16 = .ok (.istore_n 2, 1) := by decide +kernel
theorem dX12_bitsOf_17 : decode cX12_bitsOf 17 = .ok (.goto (-13), 3) := by decide +kernel
theorem dX12_bitsOf_20 : decode cX12_bitsOf 20 = .ok (.iload_n 1, 1) := by decide +kernel
theorem dX12_bitsOf_21 : decode cX12_bitsOf 21 = .ok (.ireturn, 1) := by decide +kernel
theorem dX12_bitting_0 : decode cX12_bitting 0 = .ok (.iload_n 1, 1) := by decide +kernel
theorem dX12_bitting_1 : decode cX12_bitting 1 = .ok (.istore_n 2, 1) := by decide +kernel
theorem dX12_bitting_2 : decode cX12_bitting 2 = .ok (.iconst 0, 1) := by decide +kernel
theorem dX12_bitting_3 : decode cX12_bitting 3 = .ok (.istore_n 3, 1) := by decide +kernel
theorem dX12_bitting_4 : decode cX12_bitting 4 = .ok (.iload_n 3, 1) := by decide +kernel
theorem dX12_bitting_5 : decode cX12_bitting 5 = .ok (.aload_n 0, 1) := by decide +kernel
theorem dX12_bitting_6 : decode cX12_bitting 6 = .ok (.invokevirtual 438, 3) := by decide +kernel
theorem dX12_bitting_9 : decode cX12_bitting 9 = .ok (.if_icmp .ge 33, 3) := by decide +kernel
theorem dX12_bitting_12 : decode cX12_bitting 12 = .ok (.iload_n 1, 1) := by decide +kernel
theorem dX12_bitting_13 : decode cX12_bitting 13 = .ok (.ifCond .lt 29, 3) := by decide +kernel
theorem dX12_bitting_16 : decode cX12_bitting 16 = .ok (.aload_n 0, 1) := by decide +kernel
theorem dX12_bitting_17 : decode cX12_bitting 17 = .ok (.iload_n 3, 1) := by decide +kernel
theorem dX12_bitting_18 : decode cX12_bitting 18 = .ok (.invokevirtual 456, 3) := by decide +kernel
theorem dX12_bitting_21 : decode cX12_bitting 21 = .ok (.ifCond .ne 6, 3) := by decide +kernel
theorem dX12_bitting_24 : decode cX12_bitting 24 = .ok (.goto 12, 3) := by decide +kernel
theorem dX12_bitting_27 : decode cX12_bitting 27 = .ok (.iload_n 2, 1) := by decide +kernel
theorem dX12_bitting_28 : decode cX12_bitting 28 = .ok (.ifCond .ne 5, 3) := by decide +kernel
theorem dX12_bitting_31 : decode cX12_bitting 31 = .ok (.iload_n 3, 1) := by decide +kernel
theorem dX12_bitting_32 : decode cX12_bitting 32 = .ok (.ireturn, 1) := by decide +kernel
theorem dX12_bitting_33 : decode cX12_bitting 33 = .ok (.iinc 2 (-1), 3) := by decide +kernel
theorem dX12_bitting_36 : decode cX12_bitting 36 = .ok (.iinc 3 1, 3) := by decide +kernel
theorem dX12_bitting_39 : decode cX12_bitting 39 = .ok (.goto (-35), 3) := by decide +kernel
theorem dX12_bitting_42 : decode cX12_bitting 42 = .ok (.iconst (-1), 1) := by decide +kernel
theorem dX12_bitting_43 : decode cX12_bitting 43 = .ok (.ireturn, 1) := by decide +kernel
theorem dX12_bittings_0 : decode cX12_bittings 0 = .ok (.aload_n 0, 1) := by decide +kernel
theorem dX12_bittings_1 : decode cX12_bittings 1 = .ok (.invokevirtual 429, 3) := by decide +kernel
theorem dX12_bittings_4 : decode cX12_bittings 4 = .ok (.aload_n 0, 1) := by decide +kernel
theorem dX12_bittings_5 : decode cX12_bittings 5 = .ok (.invokevirtual 414, 3) := by decide +kernel
theorem dX12_bittings_8 : decode cX12_bittings 8 = .ok (.invokestatic 432, 3) := by decide +kernel
theorem dX12_bittings_11 : decode cX12_bittings 11 = .ok (.ireturn, 1) := by decide +kernel
theorem dX12_blanks_0 : decode cX12_blanks 0 = .ok (.iconst 0, 1) := by decide +kernel
theorem dX12_blanks_1 : decode cX12_blanks 1 = .ok (.istore_n 1, 1) := by decide +kernel
theorem dX12_blanks_2 : decode cX12_blanks 2 = .ok (.iconst 0, 1) := by decide +kernel
theorem dX12_blanks_3 : decode cX12_blanks 3 = .ok (.istore_n 2, 1) := by decide +kernel
theorem dX12_blanks_4 : decode cX12_blanks 4 = .ok (.iload_n 2, 1) := by decide +kernel
theorem dX12_blanks_5 : decode cX12_blanks 5 = .ok (.aload_n 0, 1) := by decide +kernel
theorem dX12_blanks_6 : decode cX12_blanks 6 = .ok (.invokevirtual 438, 3) := by decide +kernel
theorem dX12_blanks_9 : decode cX12_blanks 9 = .ok (.if_icmp .ge 28, 3) := by decide +kernel
theorem dX12_blanks_12 : decode cX12_blanks 12 = .ok (.aload_n 0, 1) := by decide +kernel
theorem dX12_blanks_13 : decode cX12_blanks 13 = .ok (.iload_n 2, 1) := by decide +kernel
theorem dX12_blanks_14 : decode cX12_blanks 14 = .ok (.invokevirtual 456, 3) := by decide +kernel
theorem dX12_blanks_17 : decode cX12_blanks 17 = .ok (.ifCond .eq 14, 3) := by decide +kernel
theorem dX12_blanks_20 : decode cX12_blanks 20 = .ok (.aload_n 0, 1) := by decide +kernel
theorem dX12_blanks_21 : decode cX12_blanks 21 = .ok (.iload_n 2, 1) := by decide +kernel
theorem dX12_blanks_22 : decode cX12_blanks 22 = .ok (.invokevirtual 459, 3) := by decide +kernel
theorem dX12_blanks_25 : decode cX12_blanks 25 = .ok (.ifCond .ne 6, 3) := by decide +kernel
theorem dX12_blanks_28 : decode cX12_blanks 28 = .ok (.iinc 1 1, 3) := by decide +kernel
theorem dX12_blanks_31 : decode cX12_blanks 31 = .ok (.iinc 2 1, 3) := by decide +kernel
theorem dX12_blanks_34 : decode cX12_blanks 34 = .ok (.goto (-30), 3) := by decide +kernel
theorem dX12_blanks_37 : decode cX12_blanks 37 = .ok (.iload_n 1, 1) := by decide +kernel
theorem dX12_blanks_38 : decode cX12_blanks 38 = .ok (.ireturn, 1) := by decide +kernel
theorem dX12_bolts_0 : decode cX12_bolts 0 = .ok (.aload_n 0, 1) := by decide +kernel
theorem dX12_bolts_1 : decode cX12_bolts 1 = .ok (.getfield 33, 3) := by decide +kernel
theorem dX12_bolts_4 : decode cX12_bolts 4 = .ok (.aload_n 0, 1) := by decide +kernel
theorem dX12_bolts_5 : decode cX12_bolts 5 = .ok (.getfield 274, 3) := by decide +kernel
theorem dX12_bolts_8 : decode cX12_bolts 8 = .ok (.iaload, 1) := by decide +kernel
theorem dX12_bolts_9 : decode cX12_bolts 9 = .ok (.ireturn, 1) := by decide +kernel
theorem dX12_book_0 : decode cX12_book 0 = .ok (.iload_n 1, 1) := by decide +kernel
theorem dX12_book_1 : decode cX12_book 1 = .ok (.iconst 0, 1) := by decide +kernel
theorem dX12_book_2 : decode cX12_book 2 = .ok (.bipush 59, 2) := by decide +kernel
theorem dX12_book_4 : decode cX12_book 4 = .ok (.invokestatic 407, 3) := by decide +kernel
theorem dX12_book_7 : decode cX12_book 7 = .ok (.ifCond .ne 5, 3) := by decide +kernel
theorem dX12_book_10 : decode cX12_book 10 = .ok (.iconst (-1), 1) := by decide +kernel
theorem dX12_book_11 : decode cX12_book 11 = .ok (.ireturn, 1) := by decide +kernel
theorem dX12_book_12 : decode cX12_book 12 = .ok (.iconst 0, 1) := by decide +kernel
theorem dX12_book_13 : decode cX12_book 13 = .ok (.istore_n 2, 1) := by decide +kernel
theorem dX12_book_14 : decode cX12_book 14 = .ok (.iconst 0, 1) := by decide +kernel
theorem dX12_book_15 : decode cX12_book 15 = .ok (.istore_n 3, 1) := by decide +kernel
theorem dX12_book_16 : decode cX12_book 16 = .ok (.iload_n 3, 1) := by decide +kernel
theorem dX12_book_17 : decode cX12_book 17 = .ok (.aload_n 0, 1) := by decide +kernel
theorem dX12_book_18 : decode cX12_book 18 = .ok (.invokevirtual 438, 3) := by decide +kernel
theorem dX12_book_21 : decode cX12_book 21 = .ok (.if_icmp .ge 73, 3) := by decide +kernel
theorem dX12_book_24 : decode cX12_book 24 = .ok (.iload_n 2, 1) := by decide +kernel
theorem dX12_book_25 : decode cX12_book 25 = .ok (.iload_n 1, 1) := by decide +kernel
theorem dX12_book_26 : decode cX12_book 26 = .ok (.if_icmp .gt 68, 3) := by decide +kernel
theorem dX12_book_29 : decode cX12_book 29 = .ok (.aload_n 0, 1) := by decide +kernel
theorem dX12_book_30 : decode cX12_book 30 = .ok (.iload_n 3, 1) := by decide +kernel
theorem dX12_book_31 : decode cX12_book 31 = .ok (.invokevirtual 456, 3) := by decide +kernel
theorem dX12_book_34 : decode cX12_book 34 = .ok (.istore 4, 2) := by decide +kernel
theorem dX12_book_36 : decode cX12_book 36 = .ok (.iconst 0, 1) := by decide +kernel
theorem dX12_book_37 : decode cX12_book 37 = .ok (.istore 5, 2) := by decide +kernel
theorem dX12_book_39 : decode cX12_book 39 = .ok (.iload 5, 2) := by decide +kernel
theorem dX12_book_41 : decode cX12_book 41 = .ok (.iload_n 2, 1) := by decide +kernel
theorem dX12_book_42 : decode cX12_book 42 = .ok (.if_icmp .ge 28, 3) := by decide +kernel
theorem dX12_book_45 : decode cX12_book 45 = .ok (.iload 4, 2) := by decide +kernel
theorem dX12_book_47 : decode cX12_book 47 = .ok (.ifCond .eq 23, 3) := by decide +kernel
theorem dX12_book_50 : decode cX12_book 50 = .ok (.aload_n 0, 1) := by decide +kernel
theorem dX12_book_51 : decode cX12_book 51 = .ok (.iload_n 3, 1) := by decide +kernel
theorem dX12_book_52 : decode cX12_book 52 = .ok (.aload_n 0, 1) := by decide +kernel
theorem dX12_book_53 : decode cX12_book 53 = .ok (.getfield 124, 3) := by decide +kernel
theorem dX12_book_56 : decode cX12_book 56 = .ok (.iload 5, 2) := by decide +kernel
theorem dX12_book_58 : decode cX12_book 58 = .ok (.iaload, 1) := by decide +kernel
theorem dX12_book_59 : decode cX12_book 59 = .ok (.invokevirtual 535, 3) := by decide +kernel
theorem dX12_book_62 : decode cX12_book 62 = .ok (.istore 4, 2) := by decide +kernel
theorem dX12_book_64 : decode cX12_book 64 = .ok (.iinc 5 1, 3) := by decide +kernel
theorem dX12_book_67 : decode cX12_book 67 = .ok (.goto (-28), 3) := by decide +kernel
theorem dX12_book_70 : decode cX12_book 70 = .ok (.iload 4, 2) := by decide +kernel
theorem dX12_book_72 : decode cX12_book 72 = .ok (.ifCond .ne 6, 3) := by decide +kernel
theorem dX12_book_75 : decode cX12_book 75 = .ok (.goto 13, 3) := by decide +kernel
theorem dX12_book_78 : decode cX12_book 78 = .ok (.aload_n 0, 1) := by decide +kernel
theorem dX12_book_79 : decode cX12_book 79 = .ok (.getfield 124, 3) := by decide +kernel
theorem dX12_book_82 : decode cX12_book 82 = .ok (.iload_n 2, 1) := by decide +kernel
theorem dX12_book_83 : decode cX12_book 83 = .ok (.iload_n 3, 1) := by decide +kernel
theorem dX12_book_84 : decode cX12_book 84 = .ok (.iastore, 1) := by decide +kernel
theorem dX12_book_85 : decode cX12_book 85 = .ok (.iinc 2 1, 3) := by decide +kernel
theorem dX12_book_88 : decode cX12_book 88 = .ok (.iinc 3 1, 3) := by decide +kernel
theorem dX12_book_91 : decode cX12_book 91 = .ok (.goto (-75), 3) := by decide +kernel
theorem dX12_book_94 : decode cX12_book 94 = .ok (.iload_n 2, 1) := by decide +kernel
theorem dX12_book_95 : decode cX12_book 95 = .ok (.iload_n 1, 1) := by decide +kernel
theorem dX12_book_96 : decode cX12_book 96 = .ok (.if_icmp .le 12, 3) := by decide +kernel
theorem dX12_book_99 : decode cX12_book 99 = .ok (.aload_n 0, 1) := by decide +kernel
theorem dX12_book_100 : decode cX12_book 100 = .ok (.getfield 124, 3) := by decide +kernel
theorem dX12_book_103 : decode cX12_book 103 = .ok (.iload_n 1, 1) := by decide +kernel
theorem dX12_book_104 : decode cX12_book 104 = .ok (.iaload, 1) := by decide +kernel
theorem dX12_book_105 : decode cX12_book 105 = .ok (.goto 4, 3) := by decide +kernel
theorem dX12_book_108 : decode cX12_book 108 = .ok (.iconst (-1), 1) := by decide +kernel
theorem dX12_book_109 : decode cX12_book 109 = .ok (.ireturn, 1) := by decide +kernel
theorem dX12_bringBack_0 : decode cX12_bringBack 0 = .ok (.iconst 0, 1) := by decide +kernel
theorem dX12_bringBack_1 : decode cX12_bringBack 1 = .ok (.istore_n 1, 1) := by decide +kernel
theorem dX12_bringBack_2 : decode cX12_bringBack 2 = .ok (.iload_n 1, 1) := by decide +kernel
theorem dX12_bringBack_3 : decode cX12_bringBack 3 = .ok (.bipush 91, 2) := by decide +kernel
theorem dX12_bringBack_5 : decode cX12_bringBack 5 = .ok (.if_icmp .ge 21, 3) := by decide +kernel
theorem dX12_bringBack_8 : decode cX12_bringBack 8 = .ok (.aload_n 0, 1) := by decide +kernel
theorem dX12_bringBack_9 : decode cX12_bringBack 9 = .ok (.getfield 118, 3) := by decide +kernel
theorem dX12_bringBack_12 : decode cX12_bringBack 12 = .ok (.iload_n 1, 1) := by decide +kernel
theorem dX12_bringBack_13 : decode cX12_bringBack 13 = .ok (.aload_n 0, 1) := by decide +kernel
theorem dX12_bringBack_14 : decode cX12_bringBack 14 = .ok (.getfield 121, 3) := by decide +kernel
theorem dX12_bringBack_17 : decode cX12_bringBack 17 = .ok (.iload_n 1, 1) := by decide +kernel
theorem dX12_bringBack_18 : decode cX12_bringBack 18 = .ok (.iaload, 1) := by decide +kernel
theorem dX12_bringBack_19 : decode cX12_bringBack 19 = .ok (.iastore, 1) := by decide +kernel
theorem dX12_bringBack_20 : decode cX12_bringBack 20 = .ok (.iinc 1 1, 3) := by decide +kernel
theorem dX12_bringBack_23 : decode cX12_bringBack 23 = .ok (.goto (-21), 3) := by decide +kernel
theorem dX12_bringBack_26 : decode cX12_bringBack 26 = .ok (.return_, 1) := by decide +kernel
theorem dX12_broken_0 : decode cX12_broken 0 = .ok (.iload_n 1, 1) := by decide +kernel
theorem dX12_broken_1 : decode cX12_broken 1 = .ok (.iconst 0, 1) := by decide +kernel
theorem dX12_broken_2 : decode cX12_broken 2 = .ok (.iconst 2, 1) := by decide +kernel
theorem dX12_broken_3 : decode cX12_broken 3 = .ok (.invokestatic 407, 3) := by decide +kernel
theorem dX12_broken_6 : decode cX12_broken 6 = .ok (.ifCond .ne 5, 3) := by decide +kernel
theorem dX12_broken_9 : decode cX12_broken 9 = .ok (.iconst (-1), 1) := by decide +kernel
theorem dX12_broken_10 : decode cX12_broken 10 = .ok (.ireturn, 1) := by decide +kernel
theorem dX12_broken_11 : decode cX12_broken 11 = .ok (.iconst 0, 1) := by decide +kernel
theorem dX12_broken_12 : decode cX12_broken 12 = .ok (.istore_n 2, 1) := by decide +kernel
theorem dX12_broken_13 : decode cX12_broken 13 = .ok (.iconst (-1), 1) := by decide +kernel
theorem dX12_broken_14 : decode cX12_broken 14 = .ok (.istore_n 3, 1) := by decide +kernel
theorem dX12_broken_15 : decode cX12_broken 15 = .ok (.iconst (-1), 1) := by decide +kernel
theorem dX12_broken_16 : decode cX12_broken 16 = .ok (.istore 4, 2) := by decide +kernel
theorem dX12_broken_18 : decode cX12_broken 18 = .ok (.iconst 0, 1) := by decide +kernel
theorem dX12_broken_19 : decode cX12_broken 19 = .ok (.istore 5, 2) := by decide +kernel
theorem dX12_broken_21 : decode cX12_broken 21 = .ok (.iload 5, 2) := by decide +kernel
theorem dX12_broken_23 : decode cX12_broken 23 = .ok (.aload_n 0, 1) := by decide +kernel
theorem dX12_broken_24 : decode cX12_broken 24 = .ok (.invokevirtual 404, 3) := by decide +kernel
theorem dX12_broken_27 : decode cX12_broken 27 = .ok (.if_icmp .ge 55, 3) := by decide +kernel
theorem dX12_broken_30 : decode cX12_broken 30 = .ok (.iconst 0, 1) := by decide +kernel
theorem dX12_broken_31 : decode cX12_broken 31 = .ok (.istore 6, 2) := by decide +kernel
theorem dX12_broken_33 : decode cX12_broken 33 = .ok (.iload 6, 2) := by decide +kernel
theorem dX12_broken_35 : decode cX12_broken 35 = .ok (.aload_n 0, 1) := by decide +kernel
theorem dX12_broken_36 : decode cX12_broken 36 = .ok (.invokevirtual 411, 3) := by decide +kernel
theorem dX12_broken_39 : decode cX12_broken 39 = .ok (.if_icmp .ge 37, 3) := by decide +kernel
theorem dX12_broken_42 : decode cX12_broken 42 = .ok (.aload_n 0, 1) := by decide +kernel
theorem dX12_broken_43 : decode cX12_broken 43 = .ok (.iload 5, 2) := by decide +kernel
theorem dX12_broken_45 : decode cX12_broken 45 = .ok (.iload 6, 2) := by decide +kernel
theorem dX12_broken_47 : decode cX12_broken 47 = .ok (.invokevirtual 547, 3) := by decide +kernel
theorem dX12_broken_50 : decode cX12_broken 50 = .ok (.ifCond .ne 6, 3) := by decide +kernel
theorem dX12_broken_53 : decode cX12_broken 53 = .ok (.goto 17, 3) := by decide +kernel
theorem dX12_broken_56 : decode cX12_broken 56 = .ok (.iload_n 2, 1) := by decide +kernel
theorem dX12_broken_57 : decode cX12_broken 57 = .ok (.ifCond .ne 10, 3) := by decide +kernel
theorem dX12_broken_60 : decode cX12_broken 60 = .ok (.iload 5, 2) := by decide +kernel
theorem dX12_broken_62 : decode cX12_broken 62 = .ok (.istore_n 3, 1) := by decide +kernel
theorem dX12_broken_63 : decode cX12_broken 63 = .ok (.iload 6, 2) := by decide +kernel
theorem dX12_broken_65 : decode cX12_broken 65 = .ok (.istore 4, 2) := by decide +kernel
theorem dX12_broken_67 : decode cX12_broken 67 = .ok (.iinc 2 1, 3) := by decide +kernel
theorem dX12_broken_70 : decode cX12_broken 70 = .ok (.iinc 6 1, 3) := by decide +kernel
theorem dX12_broken_73 : decode cX12_broken 73 = .ok (.goto (-40), 3) := by decide +kernel
theorem dX12_broken_76 : decode cX12_broken 76 = .ok (.iinc 5 1, 3) := by decide +kernel
theorem dX12_broken_79 : decode cX12_broken 79 = .ok (.goto (-58), 3) := by decide +kernel
theorem dX12_broken_82 : decode cX12_broken 82 = .ok (.iload_n 1, 1) := by decide +kernel
theorem dX12_broken_83 : decode cX12_broken 83 = .ok (.ifCond .ne 7, 3) := by decide +kernel
theorem dX12_broken_86 : decode cX12_broken 86 = .ok (.iload_n 2, 1) := by decide +kernel
theorem dX12_broken_87 : decode cX12_broken 87 = .ok (.goto 14, 3) := by decide +kernel
theorem dX12_broken_90 : decode cX12_broken 90 = .ok (.iload_n 1, 1) := by decide +kernel
theorem dX12_broken_91 : decode cX12_broken 91 = .ok (.iconst 1, 1) := by decide +kernel
theorem dX12_broken_92 : decode cX12_broken 92 = .ok (.if_icmp .ne 7, 3) := by decide +kernel
theorem dX12_broken_95 : decode cX12_broken 95 = .ok (.iload_n 3, 1) := by decide +kernel
theorem dX12_broken_96 : decode cX12_broken 96 = .ok (.goto 5, 3) := by decide +kernel
theorem dX12_broken_99 : decode cX12_broken 99 = .ok (.iload 4, 2) := by decide +kernel
theorem dX12_broken_101 : decode cX12_broken 101 = .ok (.ireturn, 1) := by decide +kernel
theorem dX12_bunch_0 : decode cX12_bunch 0 = .ok (.aload_n 0, 1) := by decide +kernel
theorem dX12_bunch_1 : decode cX12_bunch 1 = .ok (.iload_n 1, 1) := by decide +kernel
theorem dX12_bunch_2 : decode cX12_bunch 2 = .ok (.invokevirtual 577, 3) := by decide +kernel
theorem dX12_bunch_5 : decode cX12_bunch 5 = .ok (.ifCond .eq 20, 3) := by decide +kernel
theorem dX12_bunch_8 : decode cX12_bunch 8 = .ok (.aload_n 0, 1) := by decide +kernel
theorem dX12_bunch_9 : decode cX12_bunch 9 = .ok (.iload_n 2, 1) := by decide +kernel
theorem dX12_bunch_10 : decode cX12_bunch 10 = .ok (.invokevirtual 577, 3) := by decide +kernel
theorem dX12_bunch_13 : decode cX12_bunch 13 = .ok (.ifCond .eq 12, 3) := by decide +kernel
theorem dX12_bunch_16 : decode cX12_bunch 16 = .ok (.iload_n 3, 1) := by decide +kernel
theorem dX12_bunch_17 : decode cX12_bunch 17 = .ok (.iconst 0, 1) := by decide +kernel
theorem dX12_bunch_18 : decode cX12_bunch 18 = .ok (.iconst 1, 1) := by decide +kernel
theorem dX12_bunch_19 : decode cX12_bunch 19 = .ok (.invokestatic 407, 3) := by decide +kernel
theorem dX12_bunch_22 : decode cX12_bunch 22 = .ok (.ifCond .ne 5, 3) := by decide +kernel
theorem dX12_bunch_25 : decode cX12_bunch 25 = .ok (.iconst (-1), 1) := by decide +kernel
theorem dX12_bunch_26 : decode cX12_bunch 26 = .ok (.ireturn, 1) := by decide +kernel
theorem dX12_bunch_27 : decode cX12_bunch 27 = .ok (.iconst (-1), 1) := by decide +kernel
theorem dX12_bunch_28 : decode cX12_bunch 28 = .ok (.istore 4, 2) := by decide +kernel
theorem dX12_bunch_30 : decode cX12_bunch 30 = .ok (.iconst 1, 1) := by decide +kernel
theorem dX12_bunch_31 : decode cX12_bunch 31 = .ok (.aload_n 0, 1) := by decide +kernel
theorem dX12_bunch_32 : decode cX12_bunch 32 = .ok (.invokevirtual 404, 3) := by decide +kernel
theorem dX12_bunch_35 : decode cX12_bunch 35 = .ok (.ishl, 1) := by decide +kernel
theorem dX12_bunch_36 : decode cX12_bunch 36 = .ok (.iconst 1, 1) := by decide +kernel
theorem dX12_bunch_37 : decode cX12_bunch 37 = .ok (.isub, 1) := by decide +kernel
theorem dX12_bunch_38 : decode cX12_bunch 38 = .ok (.aload_n 0, 1) := by decide +kernel
theorem dX12_bunch_39 : decode cX12_bunch 39 = .ok (.bipush (-2), 2) := by decide +kernel
theorem dX12_bunch_41 : decode cX12_bunch 41 = .ok (.invokevirtual 538, 3) := by decide +kernel
theorem dX12_bunch_44 : decode cX12_bunch 44 = .ok (.iconst (-1), 1) := by decide +kernel
theorem dX12_bunch_45 : decode cX12_bunch 45 = .ok (.ixor, 1) := by decide +kernel
theorem dX12_bunch_46 : decode cX12_bunch 46 = .ok (.iand, 1) := by decide +kernel
theorem dX12_bunch_47 : decode cX12_bunch 47 = .ok (.istore 5, 2) := by decide +kernel
theorem dX12_bunch_49 : decode cX12_bunch 49 = .ok (.iconst 0, 1) := by decide +kernel
theorem dX12_bunch_50 : decode cX12_bunch 50 = .ok (.istore 6, 2) := by decide +kernel
theorem dX12_bunch_52 : decode cX12_bunch 52 = .ok (.iload 6, 2) := by decide +kernel
theorem dX12_bunch_54 : decode cX12_bunch 54 = .ok (.iload 5, 2) := by decide +kernel
theorem dX12_bunch_56 : decode cX12_bunch 56 = .ok (.if_icmp .gt 58, 3) := by decide +kernel
theorem dX12_bunch_59 : decode cX12_bunch 59 = .ok (.iload 6, 2) := by decide +kernel
theorem dX12_bunch_61 : decode cX12_bunch 61 = .ok (.iload 5, 2) := by decide +kernel
theorem dX12_bunch_63 : decode cX12_bunch 63 = .ok (.iconst (-1), 1) := by decide +kernel
theorem dX12_bunch_64 : decode cX12_bunch 64 = .ok (.ixor, 1) := by decide +kernel
theorem dX12_bunch_65 : decode cX12_bunch 65 = .ok (.iand, 1) := by decide +kernel
theorem dX12_bunch_66 : decode cX12_bunch 66 = .ok (.ifCond .ne 42, 3) := by decide +kernel
theorem dX12_bunch_69 : decode cX12_bunch 69 = .ok (.iload 4, 2) := by decide +kernel
theorem dX12_bunch_71 : decode cX12_bunch 71 = .ok (.ifCond .lt 19, 3) := by decide +kernel
theorem dX12_bunch_74 : decode cX12_bunch 74 = .ok (.iload 6, 2) := by decide +kernel
theorem dX12_bunch_76 : decode cX12_bunch 76 = .ok (.invokestatic 471, 3) := by decide +kernel
theorem dX12_bunch_79 : decode cX12_bunch 79 = .ok (.iload 4, 2) := by decide +kernel
theorem dX12_bunch_81 : decode cX12_bunch 81 = .ok (.invokestatic 471, 3) := by decide +kernel
theorem dX12_bunch_84 : decode cX12_bunch 84 = .ok (.if_icmp .lt 6, 3) := by decide +kernel
theorem dX12_bunch_87 : decode cX12_bunch 87 = .ok (.goto 21, 3) := by decide +kernel
theorem dX12_bunch_90 : decode cX12_bunch 90 = .ok (.aload_n 0, 1) := by decide +kernel
theorem dX12_bunch_91 : decode cX12_bunch 91 = .ok (.iload_n 1, 1) := by decide +kernel
theorem dX12_bunch_92 : decode cX12_bunch 92 = .ok (.iload 6, 2) := by decide +kernel
theorem dX12_bunch_94 : decode cX12_bunch 94 = .ok (.invokevirtual 574, 3) := by decide +kernel
theorem dX12_bunch_97 : decode cX12_bunch 97 = .ok (.iload_n 2, 1) := by decide +kernel
theorem dX12_bunch_98 : decode cX12_bunch 98 = .ok (.invokestatic 261, 3) := by decide +kernel
theorem dX12_bunch_101 : decode cX12_bunch 101 = .ok (.ifCond .eq 7, 3) := by decide +kernel
theorem dX12_bunch_104 : decode cX12_bunch 104 = .ok (.iload 6, 2) := by decide +kernel
theorem dX12_bunch_106 : decode cX12_bunch 106 = .ok (.istore 4, 2) := by decide +kernel
theorem dX12_bunch_108 : decode cX12_bunch 108 = .ok (.iinc 6 1, 3) := by decide +kernel
theorem dX12_bunch_111 : decode cX12_bunch 111 = .ok (.goto (-59), 3) := by decide +kernel
theorem dX12_bunch_114 : decode cX12_bunch 114 = .ok (.iload 4, 2) := by decide +kernel
theorem dX12_bunch_116 : decode cX12_bunch 116 = .ok (.ifCond .ge 7, 3) := by decide +kernel
theorem dX12_bunch_119 : decode cX12_bunch 119 = .ok (.iconst (-1), 1) := by decide +kernel
theorem dX12_bunch_120 : decode cX12_bunch 120 = .ok (.goto 17, 3) := by decide +kernel
theorem dX12_bunch_123 : decode cX12_bunch 123 = .ok (.iload_n 3, 1) := by decide +kernel
theorem dX12_bunch_124 : decode cX12_bunch 124 = .ok (.ifCond .ne 11, 3) := by decide +kernel
theorem dX12_bunch_127 : decode cX12_bunch 127 = .ok (.iload 4, 2) := by decide +kernel
theorem dX12_bunch_129 : decode cX12_bunch 129 = .ok (.invokestatic 471, 3) := by decide +kernel
theorem dX12_bunch_132 : decode cX12_bunch 132 = .ok (.goto 5, 3) := by decide +kernel
theorem dX12_bunch_135 : decode cX12_bunch 135 = .ok (.iload 4, 2) := by decide +kernel
theorem dX12_bunch_137 : decode cX12_bunch 137 = .ok (.ireturn, 1) := by decide +kernel
theorem dX12_clearBank_0 : decode cX12_clearBank 0 = .ok (.aload_n 0, 1) := by decide +kernel
theorem dX12_clearBank_1 : decode cX12_clearBank 1 = .ok (.getfield 20, 3) := by decide +kernel
theorem dX12_clearBank_4 : decode cX12_clearBank 4 = .ok (.aload_n 0, 1) := by decide +kernel
theorem dX12_clearBank_5 : decode cX12_clearBank 5 = .ok (.getfield 265, 3) := by decide +kernel
theorem dX12_clearBank_8 : decode cX12_clearBank 8 = .ok (.iconst 5, 1) := by decide +kernel
theorem dX12_clearBank_9 : decode cX12_clearBank 9 = .ok (.iastore, 1) := by decide +kernel
theorem dX12_clearBank_10 : decode cX12_clearBank 10 = .ok (.aload_n 0, 1) := by decide +kernel
theorem dX12_clearBank_11 : decode cX12_clearBank 11 = .ok (.getfield 24, 3) := by decide +kernel
theorem dX12_clearBank_14 : decode cX12_clearBank 14 = .ok (.aload_n 0, 1) := by decide +kernel
theorem dX12_clearBank_15 : decode cX12_clearBank 15 = .ok (.getfield 265, 3) := by decide +kernel
theorem dX12_clearBank_18 : decode cX12_clearBank 18 = .ok (.bipush 6, 2) := by decide +kernel
theorem dX12_clearBank_20 : decode cX12_clearBank 20 = .ok (.iastore, 1) := by decide +kernel
theorem dX12_clearBank_21 : decode cX12_clearBank 21 = .ok (.aload_n 0, 1) := by decide +kernel
theorem dX12_clearBank_22 : decode cX12_clearBank 22 = .ok (.getfield 27, 3) := by decide +kernel
theorem dX12_clearBank_25 : decode cX12_clearBank 25 = .ok (.aload_n 0, 1) := by decide +kernel
theorem dX12_clearBank_26 : decode cX12_clearBank 26 = .ok (.getfield 265, 3) := by decide +kernel
theorem dX12_clearBank_29 : decode cX12_clearBank 29 = .ok (.iconst 5, 1) := by decide +kernel
theorem dX12_clearBank_30 : decode cX12_clearBank 30 = .ok (.iastore, 1) := by decide +kernel
theorem dX12_clearBank_31 : decode cX12_clearBank 31 = .ok (.aload_n 0, 1) := by decide +kernel
theorem dX12_clearBank_32 : decode cX12_clearBank 32 = .ok (.getfield 30, 3) := by decide +kernel
theorem dX12_clearBank_35 : decode cX12_clearBank 35 = .ok (.aload_n 0, 1) := by decide +kernel
theorem dX12_clearBank_36 : decode cX12_clearBank 36 = .ok (.getfield 265, 3) := by decide +kernel
theorem dX12_clearBank_39 : decode cX12_clearBank 39 = .ok (.iconst 0, 1) := by decide +kernel
theorem dX12_clearBank_40 : decode cX12_clearBank 40 = .ok (.iastore, 1) := by decide +kernel
theorem dX12_clearBank_41 : decode cX12_clearBank 41 = .ok (.aload_n 0, 1) := by decide +kernel
theorem dX12_clearBank_42 : decode cX12_clearBank 42 = .ok (.getfield 33, 3) := by decide +kernel
theorem dX12_clearBank_45 : decode cX12_clearBank 45 = .ok (.aload_n 0, 1) := by decide +kernel
theorem dX12_clearBank_46 : decode cX12_clearBank 46 = .ok (.getfield 265, 3) := by decide +kernel
theorem dX12_clearBank_49 : decode cX12_clearBank 49 = .ok (.iconst 0, 1) := by decide +kernel
theorem dX12_clearBank_50 : decode cX12_clearBank 50 = .ok (.iastore, 1) := by decide +kernel
theorem dX12_clearBank_51 : decode cX12_clearBank 51 = .ok (.aload_n 0, 1) := by decide +kernel
theorem dX12_clearBank_52 : decode cX12_clearBank 52 = .ok (.getfield 36, 3) := by decide +kernel
theorem dX12_clearBank_55 : decode cX12_clearBank 55 = .ok (.aload_n 0, 1) := by decide +kernel
theorem dX12_clearBank_56 : decode cX12_clearBank 56 = .ok (.getfield 265, 3) := by decide +kernel
theorem dX12_clearBank_59 : decode cX12_clearBank 59 = .ok (.iconst 0, 1) := by decide +kernel
theorem dX12_clearBank_60 : decode cX12_clearBank 60 = .ok (.iastore, 1) := by decide +kernel
theorem dX12_clearBank_61 : decode cX12_clearBank 61 = .ok (.aload_n 0, 1) := by decide +kernel
theorem dX12_clearBank_62 : decode cX12_clearBank 62 = .ok (.getfield 39, 3) := by decide +kernel
theorem dX12_clearBank_65 : decode cX12_clearBank 65 = .ok (.aload_n 0, 1) := by decide +kernel
theorem dX12_clearBank_66 : decode cX12_clearBank 66 = .ok (.getfield 265, 3) := by decide +kernel
theorem dX12_clearBank_69 : decode cX12_clearBank 69 = .ok (.iconst 0, 1) := by decide +kernel
theorem dX12_clearBank_70 : decode cX12_clearBank 70 = .ok (.iastore, 1) := by decide +kernel
theorem dX12_clearBank_71 : decode cX12_clearBank 71 = .ok (.aload_n 0, 1) := by decide +kernel
theorem dX12_clearBank_72 : decode cX12_clearBank 72 = .ok (.getfield 42, 3) := by decide +kernel
theorem dX12_clearBank_75 : decode cX12_clearBank 75 = .ok (.aload_n 0, 1) := by decide +kernel
theorem dX12_clearBank_76 : decode cX12_clearBank 76 = .ok (.getfield 265, 3) := by decide +kernel
theorem dX12_clearBank_79 : decode cX12_clearBank 79 = .ok (.iconst 0, 1) := by decide +kernel
theorem dX12_clearBank_80 : decode cX12_clearBank 80 = .ok (.iastore, 1) := by decide +kernel
theorem dX12_clearBank_81 : decode cX12_clearBank 81 = .ok (.aload_n 0, 1) := by decide +kernel
theorem dX12_clearBank_82 : decode cX12_clearBank 82 = .ok (.getfield 45, 3) := by decide +kernel
theorem dX12_clearBank_85 : decode cX12_clearBank 85 = .ok (.aload_n 0, 1) := by decide +kernel
theorem dX12_clearBank_86 : decode cX12_clearBank 86 = .ok (.getfield 265, 3) := by decide +kernel
theorem dX12_clearBank_89 : decode cX12_clearBank 89 = .ok (.iconst 0, 1) := by decide +kernel
theorem dX12_clearBank_90 : decode cX12_clearBank 90 = .ok (.iastore, 1) := by decide +kernel
theorem dX12_clearBank_91 : decode cX12_clearBank 91 = .ok (.aload_n 0, 1) := by decide +kernel
theorem dX12_clearBank_92 : decode cX12_clearBank 92 = .ok (.getfield 48, 3) := by decide +kernel
theorem dX12_clearBank_95 : decode cX12_clearBank 95 = .ok (.aload_n 0, 1) := by decide +kernel
theorem dX12_clearBank_96 : decode cX12_clearBank 96 = .ok (.getfield 265, 3) := by decide +kernel
theorem dX12_clearBank_99 : decode cX12_clearBank 99 = .ok (.iconst 0, 1) := by decide +kernel
theorem dX12_clearBank_100 : decode cX12_clearBank 100 = .ok (.iastore, 1) := by decide +kernel
theorem dX12_clearBank_101 : decode cX12_clearBank 101 = .ok (.aload_n 0, 1) := by decide +kernel
theorem dX12_clearBank_102 : decode cX12_clearBank 102 = .ok (.getfield 51, 3) := by decide +kernel
theorem dX12_clearBank_105 : decode cX12_clearBank 105 = .ok (.aload_n 0, 1) := by decide +kernel
theorem dX12_clearBank_106 : decode cX12_clearBank 106 = .ok (.getfield 265, 3) := by decide +kernel
theorem dX12_clearBank_109 : decode cX12_clearBank 109 = .ok (.iconst 0, 1) := by decide +kernel
theorem dX12_clearBank_110 : decode cX12_clearBank 110 = .ok (.iastore, 1) := by decide +kernel
theorem dX12_clearBank_111 : decode cX12_clearBank 111 = .ok (.iconst 0, 1) := by decide +kernel
theorem dX12_clearBank_112 : decode cX12_clearBank 112 = .ok (.istore_n 1, 1) := by decide +kernel
theorem dX12_clearBank_113 : decode cX12_clearBank 113 = .ok (.iload_n 1, 1) := by decide +kernel
theorem dX12_clearBank_114 : decode cX12_clearBank 114 = .ok (.bipush 6, 2) := by decide +kernel
theorem dX12_clearBank_116 : decode cX12_clearBank 116 = .ok (.if_icmp .ge 39, 3) := by decide +kernel
theorem dX12_clearBank_119 : decode cX12_clearBank 119 = .ok (.aload_n 0, 1) := by decide +kernel
theorem dX12_clearBank_120 : decode cX12_clearBank 120 = .ok (.getfield 75, 3) := by decide +kernel
theorem dX12_clearBank_123 : decode cX12_clearBank 123 = .ok (.bipush 6, 2) := by decide +kernel
theorem dX12_clearBank_125 : decode cX12_clearBank 125 = .ok (.aload_n 0, 1) := by decide +kernel
theorem dX12_clearBank_126 : decode cX12_clearBank 126 = .ok (.getfield 265, 3) := by decide +kernel
theorem dX12_clearBank_129 : decode cX12_clearBank 129 = .ok (.imul, 1) := by decide +kernel
theorem dX12_clearBank_130 : decode cX12_clearBank 130 = .ok (.iload_n 1, 1) := by decide +kernel
theorem dX12_clearBank_131 : decode cX12_clearBank 131 = .ok (.iadd, 1) := by decide +kernel
theorem dX12_clearBank_132 : decode cX12_clearBank 132 = .ok (.iconst 0, 1) := by decide +kernel
theorem dX12_clearBank_133 : decode cX12_clearBank 133 = .ok (.iastore, 1) := by decide +kernel
theorem dX12_clearBank_134 : decode cX12_clearBank 134 = .ok (.aload_n 0, 1) := by decide +kernel
theorem dX12_clearBank_135 : decode cX12_clearBank 135 = .ok (.getfield 78, 3) := by decide +kernel
theorem dX12_clearBank_138 : decode cX12_clearBank 138 = .ok (.bipush 6, 2) := by decide +kernel
theorem dX12_clearBank_140 : decode cX12_clearBank 140 = .ok (.aload_n 0, 1) := by decide +kernel
theorem dX12_clearBank_141 : decode cX12_clearBank 141 = .ok (.getfield 265, 3) := by decide +kernel
theorem dX12_clearBank_144 : decode cX12_clearBank 144 = .ok (.imul, 1) := by decide +kernel
theorem dX12_clearBank_145 : decode cX12_clearBank 145 = .ok (.iload_n 1, 1) := by decide +kernel
theorem dX12_clearBank_146 : decode cX12_clearBank 146 = .ok (.iadd, 1) := by decide +kernel
theorem dX12_clearBank_147 : decode cX12_clearBank 147 = .ok (.iconst 0, 1) := by decide +kernel
theorem dX12_clearBank_148 : decode cX12_clearBank 148 = .ok (.iastore, 1) := by decide +kernel
theorem dX12_clearBank_149 : decode cX12_clearBank 149 = .ok (.iinc 1 1, 3) := by decide +kernel
theorem dX12_clearBank_152 : decode cX12_clearBank 152 = .ok (.goto (-39), 3) := by decide +kernel
theorem dX12_clearBank_155 : decode cX12_clearBank 155 = .ok (.aload_n 0, 1) := by decide +kernel
theorem dX12_clearBank_156 : decode cX12_clearBank 156 = .ok (.sipush 560, 3) := by decide +kernel
theorem dX12_clearBank_159 : decode cX12_clearBank 159 = .ok (.aload_n 0, 1) := by decide +kernel
theorem dX12_clearBank_160 : decode cX12_clearBank 160 = .ok (.getfield 265, 3) := by decide +kernel
theorem dX12_clearBank_163 : decode cX12_clearBank 163 = .ok (.imul, 1) := by decide +kernel
theorem dX12_clearBank_164 : decode cX12_clearBank 164 = .ok (.putfield 268, 3) := by decide +kernel
theorem dX12_clearBank_167 : decode cX12_clearBank 167 = .ok (.return_, 1) := by decide +kernel
theorem dX12_comers_0 : decode cX12_comers 0 = .ok (.aload_n 0, 1) := by decide +kernel
theorem dX12_comers_1 : decode cX12_comers 1 = .ok (.iload_n 1, 1) := by decide +kernel
theorem dX12_comers_2 : decode cX12_comers 2 = .ok (.invokevirtual 577, 3) := by decide +kernel
theorem dX12_comers_5 : decode cX12_comers 5 = .ok (.ifCond .ne 5, 3) := by decide +kernel
theorem dX12_comers_8 : decode cX12_comers 8 = .ok (.iconst (-1), 1) := by decide +kernel
theorem dX12_comers_9 : decode cX12_comers 9 = .ok (.ireturn, 1) := by decide +kernel
theorem dX12_comers_10 : decode cX12_comers 10 = .ok (.iconst 0, 1) := by decide +kernel
theorem dX12_comers_11 : decode cX12_comers 11 = .ok (.istore_n 2, 1) := by decide +kernel
theorem dX12_comers_12 : decode cX12_comers 12 = .ok (.iconst 0, 1) := by decide +kernel
theorem dX12_comers_13 : decode cX12_comers 13 = .ok (.istore_n 3, 1) := by decide +kernel
theorem dX12_comers_14 : decode cX12_comers 14 = .ok (.iload_n 3, 1) := by decide +kernel
theorem dX12_comers_15 : decode cX12_comers 15 = .ok (.aload_n 0, 1) := by decide +kernel
theorem dX12_comers_16 : decode cX12_comers 16 = .ok (.getfield 42, 3) := by decide +kernel
theorem dX12_comers_19 : decode cX12_comers 19 = .ok (.aload_n 0, 1) := by decide +kernel
theorem dX12_comers_20 : decode cX12_comers 20 = .ok (.getfield 274, 3) := by decide +kernel
theorem dX12_comers_23 : decode cX12_comers 23 = .ok (.iaload, 1) := by decide +kernel
theorem dX12_comers_24 : decode cX12_comers 24 = .ok (.if_icmp .ge 27, 3) := by decide +kernel
theorem dX12_comers_27 : decode cX12_comers 27 = .ok (.aload_n 0, 1) := by decide +kernel
theorem dX12_comers_28 : decode cX12_comers 28 = .ok (.iload_n 3, 1) := by decide +kernel
theorem dX12_comers_29 : decode cX12_comers 29 = .ok (.invokevirtual 501, 3) := by decide +kernel
theorem dX12_comers_32 : decode cX12_comers 32 = .ok (.iload_n 1, 1) := by decide +kernel
theorem dX12_comers_33 : decode cX12_comers 33 = .ok (.invokestatic 261, 3) := by decide +kernel
theorem dX12_comers_36 : decode cX12_comers 36 = .ok (.ifCond .eq 9, 3) := by decide +kernel
theorem dX12_comers_39 : decode cX12_comers 39 = .ok (.iload_n 2, 1) := by decide +kernel
theorem dX12_comers_40 : decode cX12_comers 40 = .ok (.iconst 1, 1) := by decide +kernel
theorem dX12_comers_41 : decode cX12_comers 41 = .ok (.iload_n 3, 1) := by decide +kernel
theorem dX12_comers_42 : decode cX12_comers 42 = .ok (.ishl, 1) := by decide +kernel
theorem dX12_comers_43 : decode cX12_comers 43 = .ok (.ior, 1) := by decide +kernel
theorem dX12_comers_44 : decode cX12_comers 44 = .ok (.istore_n 2, 1) := by decide +kernel
theorem dX12_comers_45 : decode cX12_comers 45 = .ok (.iinc 3 1, 3) := by decide +kernel
theorem dX12_comers_48 : decode cX12_comers 48 = .ok (.goto (-34), 3) := by decide +kernel
theorem dX12_comers_51 : decode cX12_comers 51 = .ok (.iload_n 2, 1) := by decide +kernel
theorem dX12_comers_52 : decode cX12_comers 52 = .ok (.ireturn, 1) := by decide +kernel
theorem dX12_comes_0 : decode cX12_comes 0 = .ok (.iconst 0, 1) := by decide +kernel
theorem dX12_comes_1 : decode cX12_comes 1 = .ok (.istore_n 1, 1) := by decide +kernel
theorem dX12_comes_2 : decode cX12_comes 2 = .ok (.aload_n 0, 1) := by decide +kernel
theorem dX12_comes_3 : decode cX12_comes 3 = .ok (.getfield 81, 3) := by decide +kernel
theorem dX12_comes_6 : decode cX12_comes 6 = .ok (.aload_n 0, 1) := by decide +kernel
theorem dX12_comes_7 : decode cX12_comes 7 = .ok (.getfield 274, 3) := by decide +kernel
theorem dX12_comes_10 : decode cX12_comes 10 = .ok (.iaload, 1) := by decide +kernel
theorem dX12_comes_11 : decode cX12_comes 11 = .ok (.istore_n 2, 1) := by decide +kernel
theorem dX12_comes_12 : decode cX12_comes 12 = .ok (.iload_n 2, 1) := by decide +kernel
theorem dX12_comes_13 : decode cX12_comes 13 = .ok (.aload_n 0, 1) := by decide +kernel
theorem dX12_comes_14 : decode cX12_comes 14 = .ok (.getfield 84, 3) := by decide +kernel
theorem dX12_comes_17 : decode cX12_comes 17 = .ok (.aload_n 0, 1) := by decide +kernel
theorem dX12_comes_18 : decode cX12_comes 18 = .ok (.getfield 274, 3) := by decide +kernel
theorem dX12_comes_21 : decode cX12_comes 21 = .ok (.iaload, 1) := by decide +kernel
theorem dX12_comes_22 : decode cX12_comes 22 = .ok (.if_icmp .ge 108, 3) := by decide +kernel
theorem dX12_comes_25 : decode cX12_comes 25 = .ok (.aload_n 0, 1) := by decide +kernel
theorem dX12_comes_26 : decode cX12_comes 26 = .ok (.getfield 103, 3) := by decide +kernel
theorem dX12_comes_29 : decode cX12_comes 29 = .ok (.iload_n 2, 1) := by decide +kernel
theorem dX12_comes_30 : decode cX12_comes 30 = .ok (.iaload, 1) := by decide +kernel
theorem dX12_comes_31 : decode cX12_comes 31 = .ok (.istore_n 3, 1) := by decide +kernel
theorem dX12_comes_32 : decode cX12_comes 32 = .ok (.iload_n 3, 1) := by decide +kernel
theorem dX12_comes_33 : decode cX12_comes 33 = .ok (.bipush 126, 2) := by decide +kernel
theorem dX12_comes_35 : decode cX12_comes 35 = .ok (.if_icmp .ne 30, 3) := by decide +kernel
theorem dX12_comes_38 : decode cX12_comes 38 = .ok (.aload_n 0, 1) := by decide +kernel
theorem dX12_comes_39 : decode cX12_comes 39 = .ok (.getfield 115, 3) := by decide +kernel
theorem dX12_comes_42 : decode cX12_comes 42 = .ok (.iload_n 1, 1) := by decide +kernel
theorem dX12_comes_43 : decode cX12_comes 43 = .ok (.iconst 1, 1) := by decide +kernel
theorem dX12_comes_44 : decode cX12_comes 44 = .ok (.isub, 1) := by decide +kernel
theorem dX12_comes_45 : decode cX12_comes 45 = .ok (.aload_n 0, 1) := by decide +kernel
theorem dX12_comes_46 : decode cX12_comes 46 = .ok (.getfield 115, 3) := by decide +kernel
theorem dX12_comes_49 : decode cX12_comes 49 = .ok (.iload_n 1, 1) := by decide +kernel
theorem dX12_comes_50 : decode cX12_comes 50 = .ok (.iconst 1, 1) := by decide +kernel
theorem dX12_comes_51 : decode cX12_comes 51 = .ok (.isub, 1) := by decide +kernel
theorem dX12_comes_52 : decode cX12_comes 52 = .ok (.iaload, 1) := by decide +kernel
theorem dX12_comes_53 : decode cX12_comes 53 = .ok (.ifCond .ne 7, 3) := by decide +kernel
theorem dX12_comes_56 : decode cX12_comes 56 = .ok (.iconst 1, 1) := by decide +kernel
theorem dX12_comes_57 : decode cX12_comes 57 = .ok (.goto 4, 3) := by decide +kernel
theorem dX12_comes_60 : decode cX12_comes 60 = .ok (.iconst 0, 1) := by decide +kernel
theorem dX12_comes_61 : decode cX12_comes 61 = .ok (.iastore, 1) := by decide +kernel
theorem dX12_comes_62 : decode cX12_comes 62 = .ok (.goto 62, 3) := by decide +kernel
theorem dX12_comes_65 : decode cX12_comes 65 = .ok (.iload_n 3, 1) := by decide +kernel
theorem dX12_comes_66 : decode cX12_comes 66 = .ok (.invokestatic 226, 3) := by decide +kernel
theorem dX12_comes_69 : decode cX12_comes 69 = .ok (.ifCond .eq 26, 3) := by decide +kernel
theorem dX12_comes_72 : decode cX12_comes 72 = .ok (.aload_n 0, 1) := by decide +kernel
theorem dX12_comes_73 : decode cX12_comes 73 = .ok (.getfield 115, 3) := by decide +kernel
theorem dX12_comes_76 : decode cX12_comes 76 = .ok (.iload_n 1, 1) := by decide +kernel
theorem dX12_comes_77 : decode cX12_comes 77 = .ok (.aload_n 0, 1) := by decide +kernel
theorem dX12_comes_78 : decode cX12_comes 78 = .ok (.iload_n 3, 1) := by decide +kernel
theorem dX12_comes_79 : decode cX12_comes 79 = .ok (.aload_n 0, 1) := by decide +kernel
theorem dX12_comes_80 : decode cX12_comes 80 = .ok (.getfield 106, 3) := by decide +kernel
theorem dX12_comes_83 : decode cX12_comes 83 = .ok (.iload_n 2, 1) := by decide +kernel
theorem dX12_comes_84 : decode cX12_comes 84 = .ok (.iaload, 1) := by decide +kernel
theorem dX12_comes_85 : decode cX12_comes 85 = .ok (.invokevirtual 398, 3) := by decide +kernel
theorem dX12_comes_88 : decode cX12_comes 88 = .ok (.iastore, 1) := by decide +kernel
theorem dX12_comes_89 : decode cX12_comes 89 = .ok (.iinc 1 1, 3) := by decide +kernel
theorem dX12_comes_92 : decode cX12_comes 92 = .ok (.goto 32, 3) := by decide +kernel
theorem dX12_comes_95 : decode cX12_comes 95 = .ok (.iinc 1 (-1), 3) := by decide +kernel
theorem dX12_comes_98 : decode cX12_comes 98 = .ok (.aload_n 0, 1) := by decide +kernel
theorem dX12_comes_99 : decode cX12_comes 99 = .ok (.getfield 115, 3) := by decide +kernel
theorem dX12_comes_102 : decode cX12_comes 102 = .ok (.iload_n 1, 1) := by decide +kernel
theorem dX12_comes_103 : decode cX12_comes 103 = .ok (.iconst 1, 1) := by decide +kernel
theorem dX12_comes_104 : decode cX12_comes 104 = .ok (.isub, 1) := by decide +kernel
theorem dX12_comes_105 : decode cX12_comes 105 = .ok (.iload_n 3, 1) := by decide +kernel
theorem dX12_comes_106 : decode cX12_comes 106 = .ok (.aload_n 0, 1) := by decide +kernel
theorem dX12_comes_107 : decode cX12_comes 107 = .ok (.getfield 115, 3) := by decide +kernel
theorem dX12_comes_110 : decode cX12_comes 110 = .ok (.iload_n 1, 1) := by decide +kernel
theorem dX12_comes_111 : decode cX12_comes 111 = .ok (.iconst 1, 1) := by decide +kernel
theorem dX12_comes_112 : decode cX12_comes 112 = .ok (.isub, 1) := by decide +kernel
theorem dX12_comes_113 : decode cX12_comes 113 = .ok (.iaload, 1) := by decide +kernel
theorem dX12_comes_114 : decode cX12_comes 114 = .ok (.aload_n 0, 1) := by decide +kernel
theorem dX12_comes_115 : decode cX12_comes 115 = .ok (.getfield 115, 3) := by decide +kernel
theorem dX12_comes_118 : decode cX12_comes 118 = .ok (.iload_n 1, 1) := by decide +kernel
theorem dX12_comes_119 : decode cX12_comes 119 = .ok (.iaload, 1) := by decide +kernel
theorem dX12_comes_120 : decode cX12_comes 120 = .ok (.invokestatic 401, 3) := by decide +kernel
theorem dX12_comes_123 : decode cX12_comes 123 = .ok (.iastore, 1) := by decide +kernel
theorem dX12_comes_124 : decode cX12_comes 124 = .ok (.iinc 2 1, 3) := by decide +kernel
theorem dX12_comes_127 : decode cX12_comes 127 = .ok (.goto (-115), 3) := by decide +kernel
theorem dX12_comes_130 : decode cX12_comes 130 = .ok (.aload_n 0, 1) := by decide +kernel
theorem dX12_comes_131 : decode cX12_comes 131 = .ok (.getfield 115, 3) := by decide +kernel
theorem dX12_comes_134 : decode cX12_comes 134 = .ok (.iconst 0, 1) := by decide +kernel
theorem dX12_comes_135 : decode cX12_comes 135 = .ok (.iaload, 1) := by decide +kernel
theorem dX12_comes_136 : decode cX12_comes 136 = .ok (.ireturn, 1) := by decide +kernel
theorem dX12_common_0 : decode cX12_common 0 = .ok (.aload_n 0, 1) := by decide +kernel
theorem dX12_common_1 : decode cX12_common 1 = .ok (.iload_n 1, 1) := by decide +kernel
theorem dX12_common_2 : decode cX12_common 2 = .ok (.invokevirtual 516, 3) := by decide +kernel
theorem dX12_common_5 : decode cX12_common 5 = .ok (.ifCond .eq 12, 3) := by decide +kernel
theorem dX12_common_8 : decode cX12_common 8 = .ok (.iload_n 2, 1) := by decide +kernel
theorem dX12_common_9 : decode cX12_common 9 = .ok (.iconst 0, 1) := by decide +kernel
theorem dX12_common_10 : decode cX12_common 10 = .ok (.iconst 1, 1) := by decide +kernel
theorem dX12_common_11 : decode cX12_common 11 = .ok (.invokestatic 407, 3) := by decide +kernel
theorem dX12_common_14 : decode cX12_common 14 = .ok (.ifCond .ne 5, 3) := by decide +kernel
theorem dX12_common_17 : decode cX12_common 17 = .ok (.iconst (-1), 1) := by decide +kernel
theorem dX12_common_18 : decode cX12_common 18 = .ok (.ireturn, 1) := by decide +kernel
theorem dX12_common_19 : decode cX12_common 19 = .ok (.iload_n 2, 1) := by decide +kernel
theorem dX12_common_20 : decode cX12_common 20 = .ok (.ifCond .ne 11, 3) := by decide +kernel
theorem dX12_common_23 : decode cX12_common 23 = .ok (.aload_n 0, 1) := by decide +kernel
theorem dX12_common_24 : decode cX12_common 24 = .ok (.iload_n 1, 1) := by decide +kernel
theorem dX12_common_25 : decode cX12_common 25 = .ok (.invokevirtual 519, 3) := by decide +kernel
theorem dX12_common_28 : decode cX12_common 28 = .ok (.goto 9, 3) := by decide +kernel
theorem dX12_common_31 : decode cX12_common 31 = .ok (.aload_n 0, 1) := by decide +kernel
theorem dX12_common_32 : decode cX12_common 32 = .ok (.iload_n 1, 1) := by decide +kernel
theorem dX12_common_33 : decode cX12_common 33 = .ok (.iconst 0, 1) := by decide +kernel
theorem dX12_common_34 : decode cX12_common 34 = .ok (.invokevirtual 522, 3) := by decide +kernel
theorem dX12_common_37 : decode cX12_common 37 = .ok (.ireturn, 1) := by decide +kernel
theorem dX12_cut_0 : decode cX12_cut 0 = .ok (.aload_n 0, 1) := by decide +kernel
theorem dX12_cut_1 : decode cX12_cut 1 = .ok (.iload_n 1, 1) := by decide +kernel
theorem dX12_cut_2 : decode cX12_cut 2 = .ok (.invokevirtual 462, 3) := by decide +kernel
theorem dX12_cut_5 : decode cX12_cut 5 = .ok (.ifCond .eq 20, 3) := by decide +kernel
theorem dX12_cut_8 : decode cX12_cut 8 = .ok (.aload_n 0, 1) := by decide +kernel
theorem dX12_cut_9 : decode cX12_cut 9 = .ok (.iload_n 2, 1) := by decide +kernel
theorem dX12_cut_10 : decode cX12_cut 10 = .ok (.invokevirtual 468, 3) := by decide +kernel
theorem dX12_cut_13 : decode cX12_cut 13 = .ok (.ifCond .eq 12, 3) := by decide +kernel
theorem dX12_cut_16 : decode cX12_cut 16 = .ok (.aload_n 0, 1) := by decide +kernel
theorem dX12_cut_17 : decode cX12_cut 17 = .ok (.iload_n 1, 1) := by decide +kernel
theorem dX12_cut_18 : decode cX12_cut 18 = .ok (.iload_n 2, 1) := by decide +kernel
theorem dX12_cut_19 : decode cX12_cut 19 = .ok (.invokevirtual 444, 3) := by decide +kernel
theorem dX12_cut_22 : decode cX12_cut 22 = .ok (.goto 4, 3) := by decide +kernel
theorem dX12_cut_25 : decode cX12_cut 25 = .ok (.iconst (-1), 1) := by decide +kernel
theorem dX12_cut_26 : decode cX12_cut 26 = .ok (.ireturn, 1) := by decide +kernel
theorem dX12_cutAnew_0 : decode cX12_cutAnew 0 = .ok (.iconst 0, 1) := by decide +kernel
theorem dX12_cutAnew_1 : decode cX12_cutAnew 1 = .ok (.istore_n 3, 1) := by decide +kernel
theorem dX12_cutAnew_2 : decode cX12_cutAnew 2 = .ok (.iload_n 3, 1) := by decide +kernel
theorem dX12_cutAnew_3 : decode cX12_cutAnew 3 = .ok (.aload_n 0, 1) := by decide +kernel
theorem dX12_cutAnew_4 : decode cX12_cutAnew 4 = .ok (.invokevirtual 414, 3) := by decide +kernel
theorem dX12_cutAnew_7 : decode cX12_cutAnew 7 = .ok (.if_icmp .ge 27, 3) := by decide +kernel
theorem dX12_cutAnew_10 : decode cX12_cutAnew 10 = .ok (.aload_n 0, 1) := by decide +kernel
theorem dX12_cutAnew_11 : decode cX12_cutAnew 11 = .ok (.getfield 118, 3) := by decide +kernel
theorem dX12_cutAnew_14 : decode cX12_cutAnew 14 = .ok (.iconst 0, 1) := by decide +kernel
theorem dX12_cutAnew_15 : decode cX12_cutAnew 15 = .ok (.iconst 5, 1) := by decide +kernel
theorem dX12_cutAnew_16 : decode cX12_cutAnew 16 = .ok (.iload_n 1, 1) := by decide +kernel
theorem dX12_cutAnew_17 : decode cX12_cutAnew 17 = .ok (.imul, 1) := by decide +kernel
theorem dX12_cutAnew_18 : decode cX12_cutAnew 18 = .ok (.iadd, 1) := by decide +kernel
theorem dX12_cutAnew_19 : decode cX12_cutAnew 19 = .ok (.iload_n 3, 1) := by decide +kernel
theorem dX12_cutAnew_20 : decode cX12_cutAnew 20 = .ok (.iadd, 1) := by decide +kernel
theorem dX12_cutAnew_21 : decode cX12_cutAnew 21 = .ok (.aload_n 0, 1) := by decide +kernel
theorem dX12_cutAnew_22 : decode cX12_cutAnew 22 = .ok (.iload_n 2, 1) := by decide +kernel
theorem dX12_cutAnew_23 : decode cX12_cutAnew 23 = .ok (.iload_n 3, 1) := by decide +kernel
theorem dX12_cutAnew_24 : decode cX12_cutAnew 24 = .ok (.invokevirtual 525, 3) := by decide +kernel
theorem dX12_cutAnew_27 : decode cX12_cutAnew 27 = .ok (.iastore, 1) := by decide +kernel
theorem dX12_cutAnew_28 : decode cX12_cutAnew 28 = .ok (.iinc 3 1, 3) := by decide +kernel
theorem dX12_cutAnew_31 : decode cX12_cutAnew 31 = .ok (.goto (-29), 3) := by decide +kernel
theorem dX12_cutAnew_34 : decode cX12_cutAnew 34 = .ok (.return_, 1) := by decide +kernel
theorem dX12_cutFor_0 : decode cX12_cutFor 0 = .ok (.aload_n 0, 1) := by decide +kernel
theorem dX12_cutFor_1 : decode cX12_cutFor 1 = .ok (.iload_n 1, 1) := by decide +kernel
theorem dX12_cutFor_2 : decode cX12_cutFor 2 = .ok (.invokevirtual 516, 3) := by decide +kernel
theorem dX12_cutFor_5 : decode cX12_cutFor 5 = .ok (.ifCond .eq 11, 3) := by decide +kernel
theorem dX12_cutFor_8 : decode cX12_cutFor 8 = .ok (.aload_n 0, 1) := by decide +kernel
theorem dX12_cutFor_9 : decode cX12_cutFor 9 = .ok (.iload_n 2, 1) := by decide +kernel
theorem dX12_cutFor_10 : decode cX12_cutFor 10 = .ok (.invokevirtual 516, 3) := by decide +kernel
theorem dX12_cutFor_13 : decode cX12_cutFor 13 = .ok (.ifCond .ne 5, 3) := by decide +kernel
theorem dX12_cutFor_16 : decode cX12_cutFor 16 = .ok (.iconst (-1), 1) := by decide +kernel
theorem dX12_cutFor_17 : decode cX12_cutFor 17 = .ok (.ireturn, 1) := by decide +kernel
theorem dX12_cutFor_18 : decode cX12_cutFor 18 = .ok (.iconst 0, 1) := by decide +kernel
theorem dX12_cutFor_19 : decode cX12_cutFor 19 = .ok (.istore_n 3, 1) := by decide +kernel
theorem dX12_cutFor_20 : decode cX12_cutFor 20 = .ok (.iload_n 3, 1) := by decide +kernel
theorem dX12_cutFor_21 : decode cX12_cutFor 21 = .ok (.aload_n 0, 1) := by decide +kernel
theorem dX12_cutFor_22 : decode cX12_cutFor 22 = .ok (.invokevirtual 438, 3) := by decide +kernel
theorem dX12_cutFor_25 : decode cX12_cutFor 25 = .ok (.if_icmp .ge 53, 3) := by decide +kernel
theorem dX12_cutFor_28 : decode cX12_cutFor 28 = .ok (.aload_n 0, 1) := by decide +kernel
theorem dX12_cutFor_29 : decode cX12_cutFor 29 = .ok (.iload_n 3, 1) := by decide +kernel
theorem dX12_cutFor_30 : decode cX12_cutFor 30 = .ok (.invokevirtual 456, 3) := by decide +kernel
theorem dX12_cutFor_33 : decode cX12_cutFor 33 = .ok (.ifCond .eq 11, 3) := by decide +kernel
theorem dX12_cutFor_36 : decode cX12_cutFor 36 = .ok (.aload_n 0, 1) := by decide +kernel
theorem dX12_cutFor_37 : decode cX12_cutFor 37 = .ok (.iload_n 3, 1) := by decide +kernel
theorem dX12_cutFor_38 : decode cX12_cutFor 38 = .ok (.invokevirtual 459, 3) := by decide +kernel
theorem dX12_cutFor_41 : decode cX12_cutFor 41 = .ok (.goto 4, 3) := by decide +kernel
theorem dX12_cutFor_44 : decode cX12_cutFor 44 = .ok (.iconst 0, 1) := by decide +kernel
theorem dX12_cutFor_45 : decode cX12_cutFor 45 = .ok (.istore 4, 2) := by decide +kernel
theorem dX12_cutFor_47 : decode cX12_cutFor 47 = .ok (.aload_n 0, 1) := by decide +kernel
theorem dX12_cutFor_48 : decode cX12_cutFor 48 = .ok (.iload_n 3, 1) := by decide +kernel
theorem dX12_cutFor_49 : decode cX12_cutFor 49 = .ok (.invokevirtual 456, 3) := by decide +kernel
theorem dX12_cutFor_52 : decode cX12_cutFor 52 = .ok (.ifCond .eq 20, 3) := by decide +kernel
theorem dX12_cutFor_55 : decode cX12_cutFor 55 = .ok (.iload 4, 2) := by decide +kernel
theorem dX12_cutFor_57 : decode cX12_cutFor 57 = .ok (.iload_n 1, 1) := by decide +kernel
theorem dX12_cutFor_58 : decode cX12_cutFor 58 = .ok (.iand, 1) := by decide +kernel
theorem dX12_cutFor_59 : decode cX12_cutFor 59 = .ok (.iload_n 1, 1) := by decide +kernel
theorem dX12_cutFor_60 : decode cX12_cutFor 60 = .ok (.if_icmp .ne 12, 3) := by decide +kernel
theorem dX12_cutFor_63 : decode cX12_cutFor 63 = .ok (.iload 4, 2) := by decide +kernel
theorem dX12_cutFor_65 : decode cX12_cutFor 65 = .ok (.iload_n 2, 1) := by decide +kernel
theorem dX12_cutFor_66 : decode cX12_cutFor 66 = .ok (.iand, 1) := by decide +kernel
theorem dX12_cutFor_67 : decode cX12_cutFor 67 = .ok (.ifCond .ne 5, 3) := by decide +kernel
theorem dX12_cutFor_70 : decode cX12_cutFor 70 = .ok (.iload_n 3, 1) := by decide +kernel
theorem dX12_cutFor_71 : decode cX12_cutFor 71 = .ok (.ireturn, 1) := by decide +kernel
theorem dX12_cutFor_72 : decode cX12_cutFor 72 = .ok (.iinc 3 1, 3) := by decide +kernel
theorem dX12_cutFor_75 : decode cX12_cutFor 75 = .ok (.goto (-55), 3) := by decide +kernel
theorem dX12_cutFor_78 : decode cX12_cutFor 78 = .ok (.iconst (-1), 1) := by decide +kernel
theorem dX12_cutFor_79 : decode cX12_cutFor 79 = .ok (.ireturn, 1) := by decide +kernel
theorem dX12_cutIn_0 : decode cX12_cutIn 0 = .ok (.iload_n 1, 1) := by decide +kernel
theorem dX12_cutIn_1 : decode cX12_cutIn 1 = .ok (.aload_n 0, 1) := by decide +kernel
theorem dX12_cutIn_2 : decode cX12_cutIn 2 = .ok (.invokevirtual 429, 3) := by decide +kernel
theorem dX12_cutIn_5 : decode cX12_cutIn 5 = .ok (.aload_n 0, 1) := by decide +kernel
theorem dX12_cutIn_6 : decode cX12_cutIn 6 = .ok (.invokevirtual 414, 3) := by decide +kernel
theorem dX12_cutIn_9 : decode cX12_cutIn 9 = .ok (.iconst 1, 1) := by decide +kernel
theorem dX12_cutIn_10 : decode cX12_cutIn 10 = .ok (.isub, 1) := by decide +kernel
theorem dX12_cutIn_11 : decode cX12_cutIn 11 = .ok (.iload_n 2, 1) := by decide +kernel
theorem dX12_cutIn_12 : decode cX12_cutIn 12 = .ok (.isub, 1) := by decide +kernel
theorem dX12_cutIn_13 : decode cX12_cutIn 13 = .ok (.invokestatic 432, 3) := by decide +kernel
theorem dX12_cutIn_16 : decode cX12_cutIn 16 = .ok (.idiv, 1) := by decide +kernel
theorem dX12_cutIn_17 : decode cX12_cutIn 17 = .ok (.aload_n 0, 1) := by decide +kernel
theorem dX12_cutIn_18 : decode cX12_cutIn 18 = .ok (.invokevirtual 429, 3) := by decide +kernel
theorem dX12_cutIn_21 : decode cX12_cutIn 21 = .ok (.irem, 1) := by decide +kernel
theorem dX12_cutIn_22 : decode cX12_cutIn 22 = .ok (.ireturn, 1) := by decide +kernel
theorem dX12_cutOf_0 : decode cX12_cutOf 0 = .ok (.aload_n 0, 1) := by decide +kernel
theorem dX12_cutOf_1 : decode cX12_cutOf 1 = .ok (.getfield 118, 3) := by decide +kernel
theorem dX12_cutOf_4 : decode cX12_cutOf 4 = .ok (.iconst 0, 1) := by decide +kernel
theorem dX12_cutOf_5 : decode cX12_cutOf 5 = .ok (.iconst 5, 1) := by decide +kernel
theorem dX12_cutOf_6 : decode cX12_cutOf 6 = .ok (.iload_n 1, 1) := by decide +kernel
theorem dX12_cutOf_7 : decode cX12_cutOf 7 = .ok (.imul, 1) := by decide +kernel
theorem dX12_cutOf_8 : decode cX12_cutOf 8 = .ok (.iadd, 1) := by decide +kernel
theorem dX12_cutOf_9 : decode cX12_cutOf 9 = .ok (.iload_n 2, 1) := by decide +kernel
theorem dX12_cutOf_10 : decode cX12_cutOf 10 = .ok (.iadd, 1) := by decide +kernel
theorem dX12_cutOf_11 : decode cX12_cutOf 11 = .ok (.iaload, 1) := by decide +kernel
theorem dX12_cutOf_12 : decode cX12_cutOf 12 = .ok (.ireturn, 1) := by decide +kernel
theorem dX12_deep_0 : decode cX12_deep 0 = .ok (.aload_n 0, 1) := by decide +kernel
theorem dX12_deep_1 : decode cX12_deep 1 = .ok (.getfield 24, 3) := by decide +kernel
theorem dX12_deep_4 : decode cX12_deep 4 = .ok (.aload_n 0, 1) := by decide +kernel
theorem dX12_deep_5 : decode cX12_deep 5 = .ok (.getfield 274, 3) := by decide +kernel
theorem dX12_deep_8 : decode cX12_deep 8 = .ok (.iaload, 1) := by decide +kernel
theorem dX12_deep_9 : decode cX12_deep 9 = .ok (.ireturn, 1) := by decide +kernel
theorem dX12_deepen_0 : decode cX12_deepen 0 = .ok (.aload_n 0, 1) := by decide +kernel
theorem dX12_deepen_1 : decode cX12_deepen 1 = .ok (.iload_n 1, 1) := by decide +kernel
theorem dX12_deepen_2 : decode cX12_deepen 2 = .ok (.iload_n 2, 1) := by decide +kernel
theorem dX12_deepen_3 : decode cX12_deepen 3 = .ok (.invokevirtual 444, 3) := by decide +kernel
theorem dX12_deepen_6 : decode cX12_deepen 6 = .ok (.aload_n 0, 1) := by decide +kernel
theorem dX12_deepen_7 : decode cX12_deepen 7 = .ok (.invokevirtual 429, 3) := by decide +kernel
theorem dX12_deepen_10 : decode cX12_deepen 10 = .ok (.iconst 1, 1) := by decide +kernel
theorem dX12_deepen_11 : decode cX12_deepen 11 = .ok (.isub, 1) := by decide +kernel
theorem dX12_deepen_12 : decode cX12_deepen 12 = .ok (.if_icmp .ne 5, 3) := by decide +kernel
theorem dX12_deepen_15 : decode cX12_deepen 15 = .ok (.iconst 0, 1) := by decide +kernel
theorem dX12_deepen_16 : decode cX12_deepen 16 = .ok (.ireturn, 1) := by decide +kernel
theorem dX12_deepen_17 : decode cX12_deepen 17 = .ok (.aload_n 0, 1) := by decide +kernel
theorem dX12_deepen_18 : decode cX12_deepen 18 = .ok (.getfield 118, 3) := by decide +kernel
theorem dX12_deepen_21 : decode cX12_deepen 21 = .ok (.iconst 0, 1) := by decide +kernel
theorem dX12_deepen_22 : decode cX12_deepen 22 = .ok (.iconst 5, 1) := by decide +kernel
theorem dX12_deepen_23 : decode cX12_deepen 23 = .ok (.iload_n 1, 1) := by decide +kernel
theorem dX12_deepen_24 : decode cX12_deepen 24 = .ok (.imul, 1) := by decide +kernel
theorem dX12_deepen_25 : decode cX12_deepen 25 = .ok (.iadd, 1) := by decide +kernel
theorem dX12_deepen_26 : decode cX12_deepen 26 = .ok (.iload_n 2, 1) := by decide +kernel
theorem dX12_deepen_27 : decode cX12_deepen 27 = .ok (.iadd, 1) := by decide +kernel
theorem dX12_deepen_28 : decode cX12_deepen 28 = .ok (.dup2, 1) := by decide +kernel
theorem dX12_deepen_29 : decode cX12_deepen 29 = .ok (.iaload, 1) := by decide +kernel
theorem dX12_deepen_30 : decode cX12_deepen 30 = .ok (.iconst 1, 1) := by decide +kernel
theorem dX12_deepen_31 : decode cX12_deepen 31 = .ok (.iadd, 1) := by decide +kernel
theorem dX12_deepen_32 : decode cX12_deepen 32 = .ok (.iastore, 1) := by decide +kernel
theorem dX12_deepen_33 : decode cX12_deepen 33 = .ok (.aload_n 0, 1) := by decide +kernel
theorem dX12_deepen_34 : decode cX12_deepen 34 = .ok (.aload_n 0, 1) := by decide +kernel
theorem dX12_deepen_35 : decode cX12_deepen 35 = .ok (.iload_n 1, 1) := by decide +kernel
theorem dX12_deepen_36 : decode cX12_deepen 36 = .ok (.invokevirtual 450, 3) := by decide +kernel
theorem dX12_deepen_39 : decode cX12_deepen 39 = .ok (.invokevirtual 456, 3) := by decide +kernel
theorem dX12_deepen_42 : decode cX12_deepen 42 = .ok (.ifCond .eq 5, 3) := by decide +kernel
theorem dX12_deepen_45 : decode cX12_deepen 45 = .ok (.iconst 1, 1) := by decide +kernel
theorem dX12_deepen_46 : decode cX12_deepen 46 = .ok (.ireturn, 1) := by decide +kernel
theorem dX12_deepen_47 : decode cX12_deepen 47 = .ok (.aload_n 0, 1) := by decide +kernel
theorem dX12_deepen_48 : decode cX12_deepen 48 = .ok (.getfield 118, 3) := by decide +kernel
theorem dX12_deepen_51 : decode cX12_deepen 51 = .ok (.iconst 0, 1) := by decide +kernel
theorem dX12_deepen_52 : decode cX12_deepen 52 = .ok (.iconst 5, 1) := by decide +kernel
theorem dX12_deepen_53 : decode cX12_deepen 53 = .ok (.iload_n 1, 1) := by decide +kernel
theorem dX12_deepen_54 : decode cX12_deepen 54 = .ok (.imul, 1) := by decide +kernel
theorem dX12_deepen_55 : decode cX12_deepen 55 = .ok (.iadd, 1) := by decide +kernel
theorem dX12_deepen_56 : decode cX12_deepen 56 = .ok (.iload_n 2, 1) := by decide +kernel
theorem dX12_deepen_57 : decode cX12_deepen 57 = .ok (.iadd, 1) := by decide +kernel
theorem dX12_deepen_58 : decode cX12_deepen 58 = .ok (.dup2, 1) := by decide +kernel
theorem dX12_deepen_59 : decode cX12_deepen 59 = .ok (.iaload, 1) := by decide +kernel
theorem dX12_deepen_60 : decode cX12_deepen 60 = .ok (.iconst 1, 1) := by decide +kernel
theorem dX12_deepen_61 : decode cX12_deepen 61 = .ok (.isub, 1) := by decide +kernel
theorem dX12_deepen_62 : decode cX12_deepen 62 = .ok (.iastore, 1) := by decide +kernel
theorem dX12_deepen_63 : decode cX12_deepen 63 = .ok (.iconst 0, 1) := by decide +kernel
theorem dX12_deepen_64 : decode cX12_deepen 64 = .ok (.ireturn, 1) := by decide +kernel
theorem dX12_divisor_0 : decode cX12_divisor 0 = .ok (.iload_n 0, 1) := by decide +kernel
theorem dX12_divisor_1 : decode cX12_divisor 1 = .ok (.istore_n 2, 1) := by decide +kernel
theorem dX12_divisor_2 : decode cX12_divisor 2 = .ok (.iload_n 1, 1) := by decide +kernel
theorem dX12_divisor_3 : decode cX12_divisor 3 = .ok (.istore_n 3, 1) := by decide +kernel
theorem dX12_divisor_4 : decode cX12_divisor 4 = .ok (.iload_n 3, 1) := by decide +kernel
theorem dX12_divisor_5 : decode cX12_divisor 5 = .ok (.ifCond .le 16, 3) := by decide +kernel
theorem dX12_divisor_8 : decode cX12_divisor 8 = .ok (.iload_n 2, 1) := by decide +kernel
theorem dX12_divisor_9 : decode cX12_divisor 9 = .ok (.iload_n 3, 1) := by decide +kernel
theorem dX12_divisor_10 : decode cX12_divisor 10 = .ok (.irem, 1) := by decide +kernel
theorem dX12_divisor_11 : decode cX12_divisor 11 = .ok (.istore 4, 2) := by decide +kernel
theorem dX12_divisor_13 : decode cX12_divisor 13 = .ok (.iload_n 3, 1) := by decide +kernel
theorem dX12_divisor_14 : decode cX12_divisor 14 = .ok (.istore_n 2, 1) := by decide +kernel
theorem dX12_divisor_15 : decode cX12_divisor 15 = .ok (.iload 4, 2) := by decide +kernel
theorem dX12_divisor_17 : decode cX12_divisor 17 = .ok (.istore_n 3, 1) := by decide +kernel
theorem dX12_divisor_18 : decode cX12_divisor 18 = .ok (.goto (-14), 3) := by decide +kernel
theorem dX12_divisor_21 : decode cX12_divisor 21 = .ok (.iload_n 2, 1) := by decide +kernel
theorem dX12_divisor_22 : decode cX12_divisor 22 = .ok (.ireturn, 1) := by decide +kernel
theorem dX12_doesFit_0 : decode cX12_doesFit 0 = .ok (.aload_n 0, 1) := by decide +kernel
theorem dX12_doesFit_1 : decode cX12_doesFit 1 = .ok (.iload_n 1, 1) := by decide +kernel
theorem dX12_doesFit_2 : decode cX12_doesFit 2 = .ok (.invokevirtual 456, 3) := by decide +kernel
theorem dX12_doesFit_5 : decode cX12_doesFit 5 = .ok (.ifCond .ne 5, 3) := by decide +kernel
theorem dX12_doesFit_8 : decode cX12_doesFit 8 = .ok (.iconst 0, 1) := by decide +kernel
theorem dX12_doesFit_9 : decode cX12_doesFit 9 = .ok (.ireturn, 1) := by decide +kernel
theorem dX12_doesFit_10 : decode cX12_doesFit 10 = .ok (.iconst 0, 1) := by decide +kernel
theorem dX12_doesFit_11 : decode cX12_doesFit 11 = .ok (.istore_n 3, 1) := by decide +kernel
theorem dX12_doesFit_12 : decode cX12_doesFit 12 = .ok (.iload_n 3, 1) := by decide +kernel
theorem dX12_doesFit_13 : decode cX12_doesFit 13 = .ok (.aload_n 0, 1) := by decide +kernel
theorem dX12_doesFit_14 : decode cX12_doesFit 14 = .ok (.getfield 423, 3) := by decide +kernel
theorem dX12_doesFit_17 : decode cX12_doesFit 17 = .ok (.if_icmp .ge 63, 3) := by decide +kernel
theorem dX12_doesFit_20 : decode cX12_doesFit 20 = .ok (.aload_n 0, 1) := by decide +kernel
theorem dX12_doesFit_21 : decode cX12_doesFit 21 = .ok (.getfield 142, 3) := by decide +kernel
theorem dX12_doesFit_24 : decode cX12_doesFit 24 = .ok (.iload_n 3, 1) := by decide +kernel
theorem dX12_doesFit_25 : decode cX12_doesFit 25 = .ok (.iaload, 1) := by decide +kernel
theorem dX12_doesFit_26 : decode cX12_doesFit 26 = .ok (.iload_n 2, 1) := by decide +kernel
theorem dX12_doesFit_27 : decode cX12_doesFit 27 = .ok (.if_icmp .gt 47, 3) := by decide +kernel
theorem dX12_doesFit_30 : decode cX12_doesFit 30 = .ok (.aload_n 0, 1) := by decide +kernel
theorem dX12_doesFit_31 : decode cX12_doesFit 31 = .ok (.getfield 145, 3) := by decide +kernel
theorem dX12_doesFit_34 : decode cX12_doesFit 34 = .ok (.iload_n 3, 1) := by decide +kernel
theorem dX12_doesFit_35 : decode cX12_doesFit 35 = .ok (.iaload, 1) := by decide +kernel
theorem dX12_doesFit_36 : decode cX12_doesFit 36 = .ok (.ifCond .lt 16, 3) := by decide +kernel
theorem dX12_doesFit_39 : decode cX12_doesFit 39 = .ok (.aload_n 0, 1) := by decide +kernel
theorem dX12_doesFit_40 : decode cX12_doesFit 40 = .ok (.getfield 145, 3) := by decide +kernel
theorem dX12_doesFit_43 : decode cX12_doesFit 43 = .ok (.iload_n 3, 1) := by decide +kernel
theorem dX12_doesFit_44 : decode cX12_doesFit 44 = .ok (.iaload, 1) := by decide +kernel
theorem dX12_doesFit_45 : decode cX12_doesFit 45 = .ok (.iload_n 2, 1) := by decide +kernel
theorem dX12_doesFit_46 : decode cX12_doesFit 46 = .ok (.if_icmp .gt 6, 3) := by decide +kernel
theorem dX12_doesFit_49 : decode cX12_doesFit 49 = .ok (.goto 25, 3) := by decide +kernel
theorem dX12_doesFit_52 : decode cX12_doesFit 52 = .ok (.aload_n 0, 1) := by decide +kernel
theorem dX12_doesFit_53 : decode cX12_doesFit 53 = .ok (.iload_n 1, 1) := by decide +kernel
theorem dX12_doesFit_54 : decode cX12_doesFit 54 = .ok (.aload_n 0, 1) := by decide +kernel
theorem dX12_doesFit_55 : decode cX12_doesFit 55 = .ok (.getfield 136, 3) := by decide +kernel
theorem dX12_doesFit_58 : decode cX12_doesFit 58 = .ok (.iload_n 3, 1) := by decide +kernel
theorem dX12_doesFit_59 : decode cX12_doesFit 59 = .ok (.iaload, 1) := by decide +kernel
theorem dX12_doesFit_60 : decode cX12_doesFit 60 = .ok (.invokevirtual 612, 3) := by decide +kernel
theorem dX12_doesFit_63 : decode cX12_doesFit 63 = .ok (.aload_n 0, 1) := by decide +kernel
theorem dX12_doesFit_64 : decode cX12_doesFit 64 = .ok (.getfield 139, 3) := by decide +kernel
theorem dX12_doesFit_67 : decode cX12_doesFit 67 = .ok (.iload_n 3, 1) := by decide +kernel
theorem dX12_doesFit_68 : decode cX12_doesFit 68 = .ok (.iaload, 1) := by decide +kernel
theorem dX12_doesFit_69 : decode cX12_doesFit 69 = .ok (.if_icmp .eq 5, 3) := by decide +kernel
theorem dX12_doesFit_72 : decode cX12_doesFit 72 = .ok (.iconst 0, 1) := by decide +kernel
theorem dX12_doesFit_73 : decode cX12_doesFit 73 = .ok (.ireturn, 1) := by decide +kernel
theorem dX12_doesFit_74 : decode cX12_doesFit 74 = .ok (.iinc 3 1, 3) := by decide +kernel
theorem dX12_doesFit_77 : decode cX12_doesFit 77 = .ok (.goto (-65), 3) := by decide +kernel
theorem dX12_doesFit_80 : decode cX12_doesFit 80 = .ok (.iconst 1, 1) := by decide +kernel
theorem dX12_doesFit_81 : decode cX12_doesFit 81 = .ok (.ireturn, 1) := by decide +kernel
theorem dX12_doesOpen_0 : decode cX12_doesOpen 0 = .ok (.iload_n 1, 1) := by decide +kernel
theorem dX12_doesOpen_1 : decode cX12_doesOpen 1 = .ok (.istore_n 3, 1) := by decide +kernel
theorem dX12_doesOpen_2 : decode cX12_doesOpen 2 = .ok (.aload_n 0, 1) := by decide +kernel
theorem dX12_doesOpen_3 : decode cX12_doesOpen 3 = .ok (.invokevirtual 414, 3) := by decide +kernel
theorem dX12_doesOpen_6 : decode cX12_doesOpen 6 = .ok (.iconst 1, 1) := by decide +kernel
theorem dX12_doesOpen_7 : decode cX12_doesOpen 7 = .ok (.isub, 1) := by decide +kernel
theorem dX12_doesOpen_8 : decode cX12_doesOpen 8 = .ok (.istore 4, 2) := by decide +kernel
theorem dX12_doesOpen_10 : decode cX12_doesOpen 10 = .ok (.iload 4, 2) := by decide +kernel
theorem dX12_doesOpen_12 : decode cX12_doesOpen 12 = .ok (.ifCond .lt 37, 3) := by decide +kernel
theorem dX12_doesOpen_15 : decode cX12_doesOpen 15 = .ok (.aload_n 0, 1) := by decide +kernel
theorem dX12_doesOpen_16 : decode cX12_doesOpen 16 = .ok (.iload_n 2, 1) := by decide +kernel
theorem dX12_doesOpen_17 : decode cX12_doesOpen 17 = .ok (.iload 4, 2) := by decide +kernel
theorem dX12_doesOpen_19 : decode cX12_doesOpen 19 = .ok (.invokevirtual 447, 3) := by decide +kernel
theorem dX12_doesOpen_22 : decode cX12_doesOpen 22 = .ok (.iload_n 3, 1) := by decide +kernel
theorem dX12_doesOpen_23 : decode cX12_doesOpen 23 = .ok (.aload_n 0, 1) := by decide +kernel
theorem dX12_doesOpen_24 : decode cX12_doesOpen 24 = .ok (.invokevirtual 429, 3) := by decide +kernel
theorem dX12_doesOpen_27 : decode cX12_doesOpen 27 = .ok (.irem, 1) := by decide +kernel
theorem dX12_doesOpen_28 : decode cX12_doesOpen 28 = .ok (.invokestatic 261, 3) := by decide +kernel
theorem dX12_doesOpen_31 : decode cX12_doesOpen 31 = .ok (.ifCond .ne 5, 3) := by decide +kernel
theorem dX12_doesOpen_34 : decode cX12_doesOpen 34 = .ok (.iconst 0, 1) := by decide +kernel
theorem dX12_doesOpen_35 : decode cX12_doesOpen 35 = .ok (.ireturn, 1) := by decide +kernel
theorem dX12_doesOpen_36 : decode cX12_doesOpen 36 = .ok (.iload_n 3, 1) := by decide +kernel
theorem dX12_doesOpen_37 : decode cX12_doesOpen 37 = .ok (.aload_n 0, 1) := by decide +kernel
theorem dX12_doesOpen_38 : decode cX12_doesOpen 38 = .ok (.invokevirtual 429, 3) := by decide +kernel
theorem dX12_doesOpen_41 : decode cX12_doesOpen 41 = .ok (.idiv, 1) := by decide +kernel
theorem dX12_doesOpen_42 : decode cX12_doesOpen 42 = .ok (.istore_n 3, 1) := by decide +kernel
theorem dX12_doesOpen_43 : decode cX12_doesOpen 43 = .ok (.iinc 4 (-1), 3) := by decide +kernel
theorem dX12_doesOpen_46 : decode cX12_doesOpen 46 = .ok (.goto (-36), 3) := by decide +kernel
theorem dX12_doesOpen_49 : decode cX12_doesOpen 49 = .ok (.iconst 1, 1) := by decide +kernel
theorem dX12_doesOpen_50 : decode cX12_doesOpen 50 = .ok (.ireturn, 1) := by decide +kernel
theorem dX12_door_0 : decode cX12_door 0 = .ok (.aload_n 0, 1) := by decide +kernel
theorem dX12_door_1 : decode cX12_door 1 = .ok (.iload_n 1, 1) := by decide +kernel
theorem dX12_door_2 : decode cX12_door 2 = .ok (.invokevirtual 492, 3) := by decide +kernel
theorem dX12_door_5 : decode cX12_door 5 = .ok (.ifCond .ne 5, 3) := by decide +kernel
theorem dX12_door_8 : decode cX12_door 8 = .ok (.iconst (-1), 1) := by decide +kernel
theorem dX12_door_9 : decode cX12_door 9 = .ok (.ireturn, 1) := by decide +kernel
theorem dX12_door_10 : decode cX12_door 10 = .ok (.bipush 8, 2) := by decide +kernel
theorem dX12_door_12 : decode cX12_door 12 = .ok (.aload_n 0, 1) := by decide +kernel
theorem dX12_door_13 : decode cX12_door 13 = .ok (.getfield 274, 3) := by decide +kernel
theorem dX12_door_16 : decode cX12_door 16 = .ok (.imul, 1) := by decide +kernel
theorem dX12_door_17 : decode cX12_door 17 = .ok (.iload_n 1, 1) := by decide +kernel
theorem dX12_door_18 : decode cX12_door 18 = .ok (.iadd, 1) := by decide +kernel
theorem dX12_door_19 : decode cX12_door 19 = .ok (.istore_n 3, 1) := by decide +kernel
theorem dX12_door_20 : decode cX12_door 20 = .ok (.iload_n 2, 1) := by decide +kernel
theorem dX12_door_21 : decode cX12_door 21 = .ok (.ifCond .ne 12, 3) := by decide +kernel
theorem dX12_door_24 : decode cX12_door 24 = .ok (.aload_n 0, 1) := by decide +kernel
theorem dX12_door_25 : decode cX12_door 25 = .ok (.getfield 60, 3) := by decide +kernel
theorem dX12_door_28 : decode cX12_door 28 = .ok (.iload_n 3, 1) := by decide +kernel
theorem dX12_door_29 : decode cX12_door 29 = .ok (.iaload, 1) := by decide +kernel
theorem dX12_door_30 : decode cX12_door 30 = .ok (.goto 32, 3) := by decide +kernel
theorem dX12_door_33 : decode cX12_door 33 = .ok (.iload_n 2, 1) := by decide +kernel
theorem dX12_door_34 : decode cX12_door 34 = .ok (.iconst 1, 1) := by decide +kernel
theorem dX12_door_35 : decode cX12_door 35 = .ok (.if_icmp .ne 12, 3) := by decide +kernel
theorem dX12_door_38 : decode cX12_door 38 = .ok (.aload_n 0, 1) := by decide +kernel
theorem dX12_door_39 : decode cX12_door 39 = .ok (.getfield 63, 3) := by decide +kernel
theorem dX12_door_42 : decode cX12_door 42 = .ok (.iload_n 3, 1) := by decide +kernel
theorem dX12_door_43 : decode cX12_door 43 = .ok (.iaload, 1) := by decide +kernel
theorem dX12_door_44 : decode cX12_door 44 = .ok (.goto 18, 3) := by decide +kernel
theorem dX12_door_47 : decode cX12_door 47 = .ok (.iload_n 2, 1) := by decide +kernel
theorem dX12_door_48 : decode cX12_door 48 = .ok (.iconst 2, 1) := by decide +kernel
theorem dX12_door_49 : decode cX12_door 49 = .ok (.if_icmp .ne 12, 3) := by decide +kernel
theorem dX12_door_52 : decode cX12_door 52 = .ok (.aload_n 0, 1) := by decide +kernel
theorem dX12_door_53 : decode cX12_door 53 = .ok (.getfield 66, 3) := by decide +kernel
theorem dX12_door_56 : decode cX12_door 56 = .ok (.iload_n 3, 1) := by decide +kernel
theorem dX12_door_57 : decode cX12_door 57 = .ok (.iaload, 1) := by decide +kernel
theorem dX12_door_58 : decode cX12_door 58 = .ok (.goto 4, 3) := by decide +kernel
theorem dX12_door_61 : decode cX12_door 61 = .ok (.iconst (-1), 1) := by decide +kernel
theorem dX12_door_62 : decode cX12_door 62 = .ok (.ireturn, 1) := by decide +kernel
theorem dX12_doorsTo_0 : decode cX12_doorsTo 0 = .ok (.iconst 1, 1) := by decide +kernel
theorem dX12_doorsTo_1 : decode cX12_doorsTo 1 = .ok (.iload_n 1, 1) := by decide +kernel
theorem dX12_doorsTo_2 : decode cX12_doorsTo 2 = .ok (.ishl, 1) := by decide +kernel
theorem dX12_doorsTo_3 : decode cX12_doorsTo 3 = .ok (.istore 4, 2) := by decide +kernel
theorem dX12_doorsTo_5 : decode cX12_doorsTo 5 = .ok (.iconst 0, 1) := by decide +kernel
theorem dX12_doorsTo_6 : decode cX12_doorsTo 6 = .ok (.istore 5, 2) := by decide +kernel
theorem dX12_doorsTo_8 : decode cX12_doorsTo 8 = .ok (.iload 5, 2) := by decide +kernel
theorem dX12_doorsTo_10 : decode cX12_doorsTo 10 = .ok (.bipush 6, 2) := by decide +kernel
theorem dX12_doorsTo_12 : decode cX12_doorsTo 12 = .ok (.if_icmp .gt 114, 3) := by decide +kernel
theorem dX12_doorsTo_15 : decode cX12_doorsTo 15 = .ok (.iload 4, 2) := by decide +kernel
theorem dX12_doorsTo_17 : decode cX12_doorsTo 17 = .ok (.iload_n 2, 1) := by decide +kernel
theorem dX12_doorsTo_18 : decode cX12_doorsTo 18 = .ok (.invokestatic 261, 3) := by decide +kernel
theorem dX12_doorsTo_21 : decode cX12_doorsTo 21 = .ok (.ifCond .eq 6, 3) := by decide +kernel
theorem dX12_doorsTo_24 : decode cX12_doorsTo 24 = .ok (.iload 5, 2) := by decide +kernel
theorem dX12_doorsTo_26 : decode cX12_doorsTo 26 = .ok (.ireturn, 1) := by decide +kernel
theorem dX12_doorsTo_27 : decode cX12_doorsTo 27 = .ok (.iload 4, 2) := by decide +kernel
theorem dX12_doorsTo_29 : decode cX12_doorsTo 29 = .ok (.istore 6, 2) := by decide +kernel
theorem dX12_doorsTo_31 : decode cX12_doorsTo 31 = .ok (.iconst 0, 1) := by decide +kernel
theorem dX12_doorsTo_32 : decode cX12_doorsTo 32 = .ok (.istore 7, 2) := by decide +kernel
theorem dX12_doorsTo_34 : decode cX12_doorsTo 34 = .ok (.iload 7, 2) := by decide +kernel
theorem dX12_doorsTo_36 : decode cX12_doorsTo 36 = .ok (.aload_n 0, 1) := by decide +kernel
theorem dX12_doorsTo_37 : decode cX12_doorsTo 37 = .ok (.getfield 39, 3) := by decide +kernel
theorem dX12_doorsTo_40 : decode cX12_doorsTo 40 = .ok (.aload_n 0, 1) := by decide +kernel
theorem dX12_doorsTo_41 : decode cX12_doorsTo 41 = .ok (.getfield 274, 3) := by decide +kernel
theorem dX12_doorsTo_44 : decode cX12_doorsTo 44 = .ok (.iaload, 1) := by decide +kernel
theorem dX12_doorsTo_45 : decode cX12_doorsTo 45 = .ok (.if_icmp .ge 71, 3) := by decide +kernel
theorem dX12_doorsTo_48 : decode cX12_doorsTo 48 = .ok (.bipush 8, 2) := by decide +kernel
theorem dX12_doorsTo_50 : decode cX12_doorsTo 50 = .ok (.aload_n 0, 1) := by decide +kernel
theorem dX12_doorsTo_51 : decode cX12_doorsTo 51 = .ok (.getfield 274, 3) := by decide +kernel
theorem dX12_doorsTo_54 : decode cX12_doorsTo 54 = .ok (.imul, 1) := by decide +kernel
theorem dX12_doorsTo_55 : decode cX12_doorsTo 55 = .ok (.iload 7, 2) := by decide +kernel
theorem dX12_doorsTo_57 : decode cX12_doorsTo 57 = .ok (.iadd, 1) := by decide +kernel
theorem dX12_doorsTo_58 : decode cX12_doorsTo 58 = .ok (.istore 8, 2) := by decide +kernel
theorem dX12_doorsTo_60 : decode cX12_doorsTo 60 = .ok (.iconst 1, 1) := by decide +kernel
theorem dX12_doorsTo_61 : decode cX12_doorsTo 61 = .ok (.aload_n 0, 1) := by decide +kernel
theorem dX12_doorsTo_62 : decode cX12_doorsTo 62 = .ok (.getfield 60, 3) := by decide +kernel
theorem dX12_doorsTo_65 : decode cX12_doorsTo 65 = .ok (.iload 8, 2) := by decide +kernel
theorem dX12_doorsTo_67 : decode cX12_doorsTo 67 = .ok (.iaload, 1) := by decide +kernel
theorem dX12_doorsTo_68 : decode cX12_doorsTo 68 = .ok (.ishl, 1) := by decide +kernel
theorem dX12_doorsTo_69 : decode cX12_doorsTo 69 = .ok (.iconst 1, 1) := by decide +kernel
theorem dX12_doorsTo_70 : decode cX12_doorsTo 70 = .ok (.aload_n 0, 1) := by decide +kernel
theorem dX12_doorsTo_71 : decode cX12_doorsTo 71 = .ok (.getfield 63, 3) := by decide +kernel
theorem dX12_doorsTo_74 : decode cX12_doorsTo 74 = .ok (.iload 8, 2) := by decide +kernel
theorem dX12_doorsTo_76 : decode cX12_doorsTo 76 = .ok (.iaload, 1) := by decide +kernel
theorem dX12_doorsTo_77 : decode cX12_doorsTo 77 = .ok (.ishl, 1) := by decide +kernel
theorem dX12_doorsTo_78 : decode cX12_doorsTo 78 = .ok (.ior, 1) := by decide +kernel
theorem dX12_doorsTo_79 : decode cX12_doorsTo 79 = .ok (.istore 9, 2) := by decide +kernel
theorem dX12_doorsTo_81 : decode cX12_doorsTo 81 = .ok (.iload_n 3, 1) := by decide +kernel
theorem dX12_doorsTo_82 : decode cX12_doorsTo 82 = .ok (.aload_n 0, 1) := by decide +kernel
theorem dX12_doorsTo_83 : decode cX12_doorsTo 83 = .ok (.getfield 66, 3) := by decide +kernel
theorem dX12_doorsTo_86 : decode cX12_doorsTo 86 = .ok (.iload 8, 2) := by decide +kernel
theorem dX12_doorsTo_88 : decode cX12_doorsTo 88 = .ok (.iaload, 1) := by decide +kernel
theorem dX12_doorsTo_89 : decode cX12_doorsTo 89 = .ok (.invokestatic 261, 3) := by decide +kernel
theorem dX12_doorsTo_92 : decode cX12_doorsTo 92 = .ok (.ifCond .eq 18, 3) := by decide +kernel
theorem dX12_doorsTo_95 : decode cX12_doorsTo 95 = .ok (.iload 4, 2) := by decide +kernel
theorem dX12_doorsTo_97 : decode cX12_doorsTo 97 = .ok (.iload 9, 2) := by decide +kernel
theorem dX12_doorsTo_99 : decode cX12_doorsTo 99 = .ok (.iand, 1) := by decide +kernel
theorem dX12_doorsTo_100 : decode cX12_doorsTo 100 = .ok (.ifCond .eq 10, 3) := by decide +kernel
theorem dX12_doorsTo_103 : decode cX12_doorsTo 103 = .ok (.iload 6, 2) := by decide +kernel
theorem dX12_doorsTo_105 : decode cX12_doorsTo 105 = .ok (.iload 9, 2) := by decide +kernel
theorem dX12_doorsTo_107 : decode cX12_doorsTo 107 = .ok (.ior, 1) := by decide +kernel
theorem dX12_doorsTo_108 : decode cX12_doorsTo 108 = .ok (.istore 6, 2) := by decide +kernel
theorem dX12_doorsTo_110 : decode cX12_doorsTo 110 = .ok (.iinc 7 1, 3) := by decide +kernel
theorem dX12_doorsTo_113 : decode cX12_doorsTo 113 = .ok (.goto (-79), 3) := by decide +kernel
theorem dX12_doorsTo_116 : decode cX12_doorsTo 116 = .ok (.iload 6, 2) := by decide +kernel
theorem dX12_doorsTo_118 : decode cX12_doorsTo 118 = .ok (.istore 4, 2) := by decide +kernel
theorem dX12_doorsTo_120 : decode cX12_doorsTo 120 = .ok (.iinc 5 1, 3) := by decide +kernel
theorem dX12_doorsTo_123 : decode cX12_doorsTo 123 = .ok (.goto (-115), 3) := by decide +kernel
theorem dX12_doorsTo_126 : decode cX12_doorsTo 126 = .ok (.ldc_w 528, 3) := by decide +kernel
theorem dX12_doorsTo_129 : decode cX12_doorsTo 129 = .ok (.ireturn, 1) := by decide +kernel
theorem dX12_e_0 : decode cX12_e 0 = .ok (.aload_n 0, 1) := by decide +kernel
theorem dX12_e_1 : decode cX12_e 1 = .ok (.iconst 0, 1) := by decide +kernel
theorem dX12_e_2 : decode cX12_e 2 = .ok (.putfield 359, 3) := by decide +kernel
theorem dX12_e_5 : decode cX12_e 5 = .ok (.aload_n 0, 1) := by decide +kernel
theorem dX12_e_6 : decode cX12_e 6 = .ok (.iconst 0, 1) := by decide +kernel
theorem dX12_e_7 : decode cX12_e 7 = .ok (.putfield 362, 3) := by decide +kernel
theorem dX12_e_10 : decode cX12_e 10 = .ok (.aload_n 0, 1) := by decide +kernel
theorem dX12_e_11 : decode cX12_e 11 = .ok (.bipush 8, 2) := by decide +kernel
theorem dX12_e_13 : decode cX12_e 13 = .ok (.iconst 0, 1) := by decide +kernel
theorem dX12_e_14 : decode cX12_e 14 = .ok (.invokevirtual 365, 3) := by decide +kernel
theorem dX12_e_17 : decode cX12_e 17 = .ok (.iconst 1, 1) := by decide +kernel
theorem dX12_e_18 : decode cX12_e 18 = .ok (.istore_n 1, 1) := by decide +kernel
theorem dX12_e_19 : decode cX12_e 19 = .ok (.aload_n 0, 1) := by decide +kernel
theorem dX12_e_20 : decode cX12_e 20 = .ok (.invokevirtual 251, 3) := by decide +kernel
theorem dX12_e_23 : decode cX12_e 23 = .ok (.ifCond .eq 29, 3) := by decide +kernel
theorem dX12_e_26 : decode cX12_e 26 = .ok (.aload_n 0, 1) := by decide +kernel
theorem dX12_e_27 : decode cX12_e 27 = .ok (.getfield 359, 3) := by decide +kernel
theorem dX12_e_30 : decode cX12_e 30 = .ok (.ifCond .le 22, 3) := by decide +kernel
theorem dX12_e_33 : decode cX12_e 33 = .ok (.iload_n 1, 1) := by decide +kernel
theorem dX12_e_34 : decode cX12_e 34 = .ok (.ifCond .eq 10, 3) := by decide +kernel
theorem dX12_e_37 : decode cX12_e 37 = .ok (.aload_n 0, 1) := by decide +kernel
theorem dX12_e_38 : decode cX12_e 38 = .ok (.invokevirtual 368, 3) := by decide +kernel
theorem dX12_e_41 : decode cX12_e 41 = .ok (.goto 7, 3) := by decide +kernel
theorem dX12_e_44 : decode cX12_e 44 = .ok (.aload_n 0, 1) := by decide +kernel
theorem dX12_e_45 : decode cX12_e 45 = .ok (.invokevirtual 371, 3) := by decide +kernel
theorem dX12_e_48 : decode cX12_e 48 = .ok (.istore_n 1, 1) := by decide +kernel
theorem dX12_e_49 : decode cX12_e 49 = .ok (.goto (-30), 3) := by decide +kernel
theorem dX12_e_52 : decode cX12_e 52 = .ok (.return_, 1) := by decide +kernel
theorem dX12_emit_0 : decode cX12_emit 0 = .ok (.aload_n 0, 1) := by decide +kernel
theorem dX12_emit_1 : decode cX12_emit 1 = .ok (.getfield 103, 3) := by decide +kernel
theorem dX12_emit_4 : decode cX12_emit 4 = .ok (.aload_n 0, 1) := by decide +kernel
theorem dX12_emit_5 : decode cX12_emit 5 = .ok (.getfield 268, 3) := by decide +kernel
theorem dX12_emit_8 : decode cX12_emit 8 = .ok (.iload_n 1, 1) := by decide +kernel
theorem dX12_emit_9 : decode cX12_emit 9 = .ok (.iastore, 1) := by decide +kernel
theorem dX12_emit_10 : decode cX12_emit 10 = .ok (.aload_n 0, 1) := by decide +kernel
theorem dX12_emit_11 : decode cX12_emit 11 = .ok (.getfield 106, 3) := by decide +kernel
theorem dX12_emit_14 : decode cX12_emit 14 = .ok (.aload_n 0, 1) := by decide +kernel
theorem dX12_emit_15 : decode cX12_emit 15 = .ok (.getfield 268, 3) := by decide +kernel
theorem dX12_emit_18 : decode cX12_emit 18 = .ok (.iload_n 2, 1) := by decide +kernel
theorem dX12_emit_19 : decode cX12_emit 19 = .ok (.iastore, 1) := by decide +kernel
theorem dX12_emit_20 : decode cX12_emit 20 = .ok (.aload_n 0, 1) := by decide +kernel
theorem dX12_emit_21 : decode cX12_emit 21 = .ok (.dup, 1) := by decide +kernel
theorem dX12_emit_22 : decode cX12_emit 22 = .ok (.getfield 268, 3) := by decide +kernel
theorem dX12_emit_25 : decode cX12_emit 25 = .ok (.iconst 1, 1) := by decide +kernel
theorem dX12_emit_26 : decode cX12_emit 26 = .ok (.iadd, 1) := by decide +kernel
theorem dX12_emit_27 : decode cX12_emit 27 = .ok (.putfield 268, 3) := by decide +kernel
theorem dX12_emit_30 : decode cX12_emit 30 = .ok (.return_, 1) := by decide +kernel
theorem dX12_end_0 : decode cX12_end 0 = .ok (.iload_n 1, 1) := by decide +kernel
theorem dX12_end_1 : decode cX12_end 1 = .ok (.ifCond .lt 11, 3) := by decide +kernel
theorem dX12_end_4 : decode cX12_end 4 = .ok (.iload_n 1, 1) := by decide +kernel
theorem dX12_end_5 : decode cX12_end 5 = .ok (.aload_n 0, 1) := by decide +kernel
theorem dX12_end_6 : decode cX12_end 6 = .ok (.getfield 271, 3) := by decide +kernel
theorem dX12_end_9 : decode cX12_end 9 = .ok (.if_icmp .le 5, 3) := by decide +kernel
theorem dX12_end_12 : decode cX12_end 12 = .ok (.iconst (-1), 1) := by decide +kernel
theorem dX12_end_13 : decode cX12_end 13 = .ok (.ireturn, 1) := by decide +kernel
theorem dX12_end_14 : decode cX12_end 14 = .ok (.aload_n 0, 1) := by decide +kernel
theorem dX12_end_15 : decode cX12_end 15 = .ok (.iload_n 1, 1) := by decide +kernel
theorem dX12_end_16 : decode cX12_end 16 = .ok (.putfield 271, 3) := by decide +kernel
theorem dX12_end_19 : decode cX12_end 19 = .ok (.iload_n 1, 1) := by decide +kernel
theorem dX12_end_20 : decode cX12_end 20 = .ok (.ireturn, 1) := by decide +kernel
theorem dX12_fails_0 : decode cX12_fails 0 = .ok (.aload_n 0, 1) := by decide +kernel
theorem dX12_fails_1 : decode cX12_fails 1 = .ok (.getfield 164, 3) := by decide +kernel
theorem dX12_fails_4 : decode cX12_fails 4 = .ok (.ifCond .le 4, 3) := by decide +kernel
theorem dX12_fails_7 : decode cX12_fails 7 = .ok (.return_, 1) := by decide +kernel
theorem dX12_fails_8 : decode cX12_fails 8 = .ok (.aload_n 0, 1) := by decide +kernel
theorem dX12_fails_9 : decode cX12_fails 9 = .ok (.iload_n 1, 1) := by decide +kernel
theorem dX12_fails_10 : decode cX12_fails 10 = .ok (.putfield 164, 3) := by decide +kernel
theorem dX12_fails_13 : decode cX12_fails 13 = .ok (.aload_n 0, 1) := by decide +kernel
theorem dX12_fails_14 : decode cX12_fails 14 = .ok (.iload_n 2, 1) := by decide +kernel
theorem dX12_fails_15 : decode cX12_fails 15 = .ok (.putfield 16, 3) := by decide +kernel
theorem dX12_fails_18 : decode cX12_fails 18 = .ok (.return_, 1) := by decide +kernel
theorem dX12_fault_0 : decode cX12_fault 0 = .ok (.iload_n 1, 1) := by decide +kernel
theorem dX12_fault_1 : decode cX12_fault 1 = .ok (.ifCond .ne 10, 3) := by decide +kernel
theorem dX12_fault_4 : decode cX12_fault 4 = .ok (.aload_n 0, 1) := by decide +kernel
theorem dX12_fault_5 : decode cX12_fault 5 = .ok (.getfield 164, 3) := by decide +kernel
theorem dX12_fault_8 : decode cX12_fault 8 = .ok (.goto 16, 3) := by decide +kernel
theorem dX12_fault_11 : decode cX12_fault 11 = .ok (.iload_n 1, 1) := by decide +kernel
theorem dX12_fault_12 : decode cX12_fault 12 = .ok (.iconst 1, 1) := by decide +kernel
theorem dX12_fault_13 : decode cX12_fault 13 = .ok (.if_icmp .ne 10, 3) := by decide +kernel
theorem dX12_fault_16 : decode cX12_fault 16 = .ok (.aload_n 0, 1) := by decide +kernel
theorem dX12_fault_17 : decode cX12_fault 17 = .ok (.getfield 16, 3) := by decide +kernel
theorem dX12_fault_20 : decode cX12_fault 20 = .ok (.goto 4, 3) := by decide +kernel
theorem dX12_fault_23 : decode cX12_fault 23 = .ok (.iconst (-1), 1) := by decide +kernel
theorem dX12_fault_24 : decode cX12_fault 24 = .ok (.ireturn, 1) := by decide +kernel
theorem dX12_feed_0 : decode cX12_feed 0 = .ok (.aload_n 0, 1) := by decide +kernel
theorem dX12_feed_1 : decode cX12_feed 1 = .ok (.getfield 271, 3) := by decide +kernel
theorem dX12_feed_4 : decode cX12_feed 4 = .ok (.bipush 20, 2) := by decide +kernel
theorem dX12_feed_6 : decode cX12_feed 6 = .ok (.iadd, 1) := by decide +kernel
theorem dX12_feed_7 : decode cX12_feed 7 = .ok (.sipush 1600, 3) := by decide +kernel
theorem dX12_feed_10 : decode cX12_feed 10 = .ok (.if_icmp .le 5, 3) := by decide +kernel
theorem dX12_feed_13 : decode cX12_feed 13 = .ok (.iconst (-1), 1) := by decide +kernel
theorem dX12_feed_14 : decode cX12_feed 14 = .ok (.ireturn, 1) := by decide +kernel
theorem dX12_feed_15 : decode cX12_feed 15 = .ok (.iconst 0, 1) := by decide +kernel
theorem dX12_feed_16 : decode cX12_feed 16 = .ok (.istore 6, 2) := by decide +kernel
theorem dX12_feed_18 : decode cX12_feed 18 = .ok (.iload 6, 2) := by decide +kernel
theorem dX12_feed_20 : decode cX12_feed 20 = .ok (.bipush 20, 2) := by decide +kernel
theorem dX12_feed_22 : decode cX12_feed 22 = .ok (.if_icmp .ge 83, 3) := by decide +kernel
theorem dX12_feed_25 : decode cX12_feed 25 = .ok (.iload 6, 2) := by decide +kernel
theorem dX12_feed_27 : decode cX12_feed 27 = .ok (.iconst 4, 1) := by decide +kernel
theorem dX12_feed_28 : decode cX12_feed 28 = .ok (.if_icmp .ge 7, 3) := by decide +kernel
theorem dX12_feed_31 : decode cX12_feed 31 = .ok (.iload_n 1, 1) := by decide +kernel
theorem dX12_feed_32 : decode cX12_feed 32 = .ok (.goto 39, 3) := by decide +kernel
theorem dX12_feed_35 : decode cX12_feed 35 = .ok (.iload 6, 2) := by decide +kernel
theorem dX12_feed_37 : decode cX12_feed 37 = .ok (.bipush 8, 2) := by decide +kernel
theorem dX12_feed_39 : decode cX12_feed 39 = .ok (.if_icmp .ge 7, 3) := by decide +kernel
theorem dX12_feed_42 : decode cX12_feed 42 = .ok (.iload_n 2, 1) := by decide +kernel
theorem dX12_feed_43 : decode cX12_feed 43 = .ok (.goto 28, 3) := by decide +kernel
theorem dX12_feed_46 : decode cX12_feed 46 = .ok (.iload 6, 2) := by decide +kernel
theorem dX12_feed_48 : decode cX12_feed 48 = .ok (.bipush 12, 2) := by decide +kernel
theorem dX12_feed_50 : decode cX12_feed 50 = .ok (.if_icmp .ge 7, 3) := by decide +kernel
theorem dX12_feed_53 : decode cX12_feed 53 = .ok (.iload_n 3, 1) := by decide +kernel
theorem dX12_feed_54 : decode cX12_feed 54 = .ok (.goto 17, 3) := by decide +kernel
theorem dX12_feed_57 : decode cX12_feed 57 = .ok (.iload 6, 2) := by decide +kernel
theorem dX12_feed_59 : decode cX12_feed 59 = .ok (.bipush 16, 2) := by decide +kernel
theorem dX12_feed_61 : decode cX12_feed 61 = .ok (.if_icmp .ge 8, 3) := by decide +kernel
theorem dX12_feed_64 : decode cX12_feed 64 = .ok (.iload 4, 2) := by decide +kernel
theorem dX12_feed_66 : decode cX12_feed 66 = .ok (.goto 5, 3) := by decide +kernel
theorem dX12_feed_69 : decode cX12_feed 69 = .ok (.iload 5, 2) := by decide +kernel
theorem dX12_feed_71 : decode cX12_feed 71 = .ok (.istore 7, 2) := by decide +kernel
theorem dX12_feed_73 : decode cX12_feed 73 = .ok (.aload_n 0, 1) := by decide +kernel
theorem dX12_feed_74 : decode cX12_feed 74 = .ok (.getfield 7, 3) := by decide +kernel
theorem dX12_feed_77 : decode cX12_feed 77 = .ok (.aload_n 0, 1) := by decide +kernel
theorem dX12_feed_78 : decode cX12_feed 78 = .ok (.getfield 271, 3) := by decide +kernel
theorem dX12_feed_81 : decode cX12_feed 81 = .ok (.iload 6, 2) := by decide +kernel
theorem dX12_feed_83 : decode cX12_feed 83 = .ok (.iadd, 1) := by decide +kernel
theorem dX12_feed_84 : decode cX12_feed 84 = .ok (.iload 7, 2) := by decide +kernel
theorem dX12_feed_86 : decode cX12_feed 86 = .ok (.bipush 24, 2) := by decide +kernel
theorem dX12_feed_88 : decode cX12_feed 88 = .ok (.bipush 8, 2) := by decide +kernel
theorem dX12_feed_90 : decode cX12_feed 90 = .ok (.iload 6, 2) := by decide +kernel
theorem dX12_feed_92 : decode cX12_feed 92 = .ok (.iconst 3, 1) := by decide +kernel
theorem dX12_feed_93 : decode cX12_feed 93 = .ok (.iand, 1) := by decide +kernel
theorem dX12_feed_94 : decode cX12_feed 94 = .ok (.imul, 1) := by decide +kernel
theorem dX12_feed_95 : decode cX12_feed 95 = .ok (.isub, 1) := by decide +kernel
theorem dX12_feed_96 : decode cX12_feed 96 = .ok (.ishr, 1) := by decide +kernel
theorem dX12_feed_97 : decode cX12_feed 97 = .ok (.i2b, 1) := by decide +kernel
theorem dX12_feed_98 : decode cX12_feed 98 = .ok (.bastore, 1) := by decide +kernel
theorem dX12_feed_99 : decode cX12_feed 99 = .ok (.iinc 6 1, 3) := by decide +kernel
theorem dX12_feed_102 : decode cX12_feed 102 = .ok (.goto (-84), 3) := by decide +kernel
theorem dX12_feed_105 : decode cX12_feed 105 = .ok (.aload_n 0, 1) := by decide +kernel
theorem dX12_feed_106 : decode cX12_feed 106 = .ok (.dup, 1) := by decide +kernel
theorem dX12_feed_107 : decode cX12_feed 107 = .ok (.getfield 271, 3) := by decide +kernel
theorem dX12_feed_110 : decode cX12_feed 110 = .ok (.bipush 20, 2) := by decide +kernel
theorem dX12_feed_112 : decode cX12_feed 112 = .ok (.iadd, 1) := by decide +kernel
theorem dX12_feed_113 : decode cX12_feed 113 = .ok (.putfield 271, 3) := by decide +kernel
theorem dX12_feed_116 : decode cX12_feed 116 = .ok (.aload_n 0, 1) := by decide +kernel
theorem dX12_feed_117 : decode cX12_feed 117 = .ok (.getfield 271, 3) := by decide +kernel
theorem dX12_feed_120 : decode cX12_feed 120 = .ok (.ireturn, 1) := by decide +kernel
theorem dX12_file_0 : decode cX12_file 0 = .ok (.aload_n 0, 1) := by decide +kernel
theorem dX12_file_1 : decode cX12_file 1 = .ok (.iload_n 1, 1) := by decide +kernel
theorem dX12_file_2 : decode cX12_file 2 = .ok (.invokevirtual 462, 3) := by decide +kernel
theorem dX12_file_5 : decode cX12_file 5 = .ok (.ifCond .eq 20, 3) := by decide +kernel
theorem dX12_file_8 : decode cX12_file 8 = .ok (.aload_n 0, 1) := by decide +kernel
theorem dX12_file_9 : decode cX12_file 9 = .ok (.iload_n 2, 1) := by decide +kernel
theorem dX12_file_10 : decode cX12_file 10 = .ok (.invokevirtual 468, 3) := by decide +kernel
theorem dX12_file_13 : decode cX12_file 13 = .ok (.ifCond .eq 12, 3) := by decide +kernel
theorem dX12_file_16 : decode cX12_file 16 = .ok (.aload_n 0, 1) := by decide +kernel
theorem dX12_file_17 : decode cX12_file 17 = .ok (.iload_n 1, 1) := by decide +kernel
theorem dX12_file_18 : decode cX12_file 18 = .ok (.iload_n 2, 1) := by decide +kernel
theorem dX12_file_19 : decode cX12_file 19 = .ok (.invokevirtual 593, 3) := by decide +kernel
theorem dX12_file_22 : decode cX12_file 22 = .ok (.ifCond .ne 5, 3) := by decide +kernel
theorem dX12_file_25 : decode cX12_file 25 = .ok (.iconst (-1), 1) := by decide +kernel
theorem dX12_file_26 : decode cX12_file 26 = .ok (.ireturn, 1) := by decide +kernel
theorem dX12_file_27 : decode cX12_file 27 = .ok (.aload_n 0, 1) := by decide +kernel
theorem dX12_file_28 : decode cX12_file 28 = .ok (.getfield 118, 3) := by decide +kernel
theorem dX12_file_31 : decode cX12_file 31 = .ok (.iconst 0, 1) := by decide +kernel
theorem dX12_file_32 : decode cX12_file 32 = .ok (.iconst 5, 1) := by decide +kernel
theorem dX12_file_33 : decode cX12_file 33 = .ok (.iload_n 1, 1) := by decide +kernel
theorem dX12_file_34 : decode cX12_file 34 = .ok (.imul, 1) := by decide +kernel
theorem dX12_file_35 : decode cX12_file 35 = .ok (.iadd, 1) := by decide +kernel
theorem dX12_file_36 : decode cX12_file 36 = .ok (.iload_n 2, 1) := by decide +kernel
theorem dX12_file_37 : decode cX12_file 37 = .ok (.iadd, 1) := by decide +kernel
theorem dX12_file_38 : decode cX12_file 38 = .ok (.dup2, 1) := by decide +kernel
theorem dX12_file_39 : decode cX12_file 39 = .ok (.iaload, 1) := by decide +kernel
theorem dX12_file_40 : decode cX12_file 40 = .ok (.iconst 1, 1) := by decide +kernel
theorem dX12_file_41 : decode cX12_file 41 = .ok (.isub, 1) := by decide +kernel
theorem dX12_file_42 : decode cX12_file 42 = .ok (.iastore, 1) := by decide +kernel
theorem dX12_file_43 : decode cX12_file 43 = .ok (.aload_n 0, 1) := by decide +kernel
theorem dX12_file_44 : decode cX12_file 44 = .ok (.invokevirtual 600, 3) := by decide +kernel
theorem dX12_file_47 : decode cX12_file 47 = .ok (.aload_n 0, 1) := by decide +kernel
theorem dX12_file_48 : decode cX12_file 48 = .ok (.getfield 118, 3) := by decide +kernel
theorem dX12_file_51 : decode cX12_file 51 = .ok (.iconst 0, 1) := by decide +kernel
theorem dX12_file_52 : decode cX12_file 52 = .ok (.iconst 5, 1) := by decide +kernel
theorem dX12_file_53 : decode cX12_file 53 = .ok (.iload_n 1, 1) := by decide +kernel
theorem dX12_file_54 : decode cX12_file 54 = .ok (.imul, 1) := by decide +kernel
theorem dX12_file_55 : decode cX12_file 55 = .ok (.iadd, 1) := by decide +kernel
theorem dX12_file_56 : decode cX12_file 56 = .ok (.iload_n 2, 1) := by decide +kernel
theorem dX12_file_57 : decode cX12_file 57 = .ok (.iadd, 1) := by decide +kernel
theorem dX12_file_58 : decode cX12_file 58 = .ok (.dup2, 1) := by decide +kernel
theorem dX12_file_59 : decode cX12_file 59 = .ok (.iaload, 1) := by decide +kernel
theorem dX12_file_60 : decode cX12_file 60 = .ok (.iconst 1, 1) := by decide +kernel
theorem dX12_file_61 : decode cX12_file 61 = .ok (.iadd, 1) := by decide +kernel
theorem dX12_file_62 : decode cX12_file 62 = .ok (.iastore, 1) := by decide +kernel
theorem dX12_file_63 : decode cX12_file 63 = .ok (.aload_n 0, 1) := by decide +kernel
theorem dX12_file_64 : decode cX12_file 64 = .ok (.iload_n 1, 1) := by decide +kernel
theorem dX12_file_65 : decode cX12_file 65 = .ok (.iload_n 2, 1) := by decide +kernel
theorem dX12_file_66 : decode cX12_file 66 = .ok (.invokevirtual 444, 3) := by decide +kernel
theorem dX12_file_69 : decode cX12_file 69 = .ok (.ireturn, 1) := by decide +kernel
theorem dX12_filedTo_0 : decode cX12_filedTo 0 = .ok (.iconst 0, 1) := by decide +kernel
theorem dX12_filedTo_1 : decode cX12_filedTo 1 = .ok (.istore_n 3, 1) := by decide +kernel
theorem dX12_filedTo_2 : decode cX12_filedTo 2 = .ok (.iconst 0, 1) := by decide +kernel
theorem dX12_filedTo_3 : decode cX12_filedTo 3 = .ok (.istore 4, 2) := by decide +kernel
theorem dX12_filedTo_5 : decode cX12_filedTo 5 = .ok (.iload 4, 2) := by decide +kernel
theorem dX12_filedTo_7 : decode cX12_filedTo 7 = .ok (.aload_n 0, 1) := by decide +kernel
theorem dX12_filedTo_8 : decode cX12_filedTo 8 = .ok (.invokevirtual 414, 3) := by decide +kernel
theorem dX12_filedTo_11 : decode cX12_filedTo 11 = .ok (.if_icmp .ge 46, 3) := by decide +kernel
theorem dX12_filedTo_14 : decode cX12_filedTo 14 = .ok (.aload_n 0, 1) := by decide +kernel
theorem dX12_filedTo_15 : decode cX12_filedTo 15 = .ok (.iload_n 2, 1) := by decide +kernel
theorem dX12_filedTo_16 : decode cX12_filedTo 16 = .ok (.iload 4, 2) := by decide +kernel
theorem dX12_filedTo_18 : decode cX12_filedTo 18 = .ok (.invokevirtual 525, 3) := by decide +kernel
theorem dX12_filedTo_21 : decode cX12_filedTo 21 = .ok (.aload_n 0, 1) := by decide +kernel
theorem dX12_filedTo_22 : decode cX12_filedTo 22 = .ok (.iload_n 1, 1) := by decide +kernel
theorem dX12_filedTo_23 : decode cX12_filedTo 23 = .ok (.iload 4, 2) := by decide +kernel
theorem dX12_filedTo_25 : decode cX12_filedTo 25 = .ok (.invokevirtual 444, 3) := by decide +kernel
theorem dX12_filedTo_28 : decode cX12_filedTo 28 = .ok (.if_icmp .ge 5, 3) := by decide +kernel
theorem dX12_filedTo_31 : decode cX12_filedTo 31 = .ok (.iconst (-1), 1) := by decide +kernel
theorem dX12_filedTo_32 : decode cX12_filedTo 32 = .ok (.ireturn, 1) := by decide +kernel
theorem dX12_filedTo_33 : decode cX12_filedTo 33 = .ok (.iload_n 3, 1) := by decide +kernel
theorem dX12_filedTo_34 : decode cX12_filedTo 34 = .ok (.aload_n 0, 1) := by decide +kernel
theorem dX12_filedTo_35 : decode cX12_filedTo 35 = .ok (.iload_n 2, 1) := by decide +kernel
theorem dX12_filedTo_36 : decode cX12_filedTo 36 = .ok (.iload 4, 2) := by decide +kernel
theorem dX12_filedTo_38 : decode cX12_filedTo 38 = .ok (.invokevirtual 525, 3) := by decide +kernel
theorem dX12_filedTo_41 : decode cX12_filedTo 41 = .ok (.aload_n 0, 1) := by decide +kernel
theorem dX12_filedTo_42 : decode cX12_filedTo 42 = .ok (.iload_n 1, 1) := by decide +kernel
theorem dX12_filedTo_43 : decode cX12_filedTo 43 = .ok (.iload 4, 2) := by decide +kernel
theorem dX12_filedTo_45 : decode cX12_filedTo 45 = .ok (.invokevirtual 444, 3) := by decide +kernel
theorem dX12_filedTo_48 : decode cX12_filedTo 48 = .ok (.isub, 1) := by decide +kernel
theorem dX12_filedTo_49 : decode cX12_filedTo 49 = .ok (.iadd, 1) := by decide +kernel
theorem dX12_filedTo_50 : decode cX12_filedTo 50 = .ok (.istore_n 3, 1) := by decide +kernel
theorem dX12_filedTo_51 : decode cX12_filedTo 51 = .ok (.iinc 4 1, 3) := by decide +kernel
theorem dX12_filedTo_54 : decode cX12_filedTo 54 = .ok (.goto (-49), 3) := by decide +kernel
theorem dX12_filedTo_57 : decode cX12_filedTo 57 = .ok (.iload_n 3, 1) := by decide +kernel
theorem dX12_filedTo_58 : decode cX12_filedTo 58 = .ok (.ireturn, 1) := by decide +kernel
theorem dX12_filing_0 : decode cX12_filing 0 = .ok (.aload_n 0, 1) := by decide +kernel
theorem dX12_filing_1 : decode cX12_filing 1 = .ok (.iload_n 1, 1) := by decide +kernel
theorem dX12_filing_2 : decode cX12_filing 2 = .ok (.invokevirtual 462, 3) := by decide +kernel
theorem dX12_filing_5 : decode cX12_filing 5 = .ok (.ifCond .eq 20, 3) := by decide +kernel
theorem dX12_filing_8 : decode cX12_filing 8 = .ok (.aload_n 0, 1) := by decide +kernel
theorem dX12_filing_9 : decode cX12_filing 9 = .ok (.iload_n 2, 1) := by decide +kernel
theorem dX12_filing_10 : decode cX12_filing 10 = .ok (.invokevirtual 477, 3) := by decide +kernel
theorem dX12_filing_13 : decode cX12_filing 13 = .ok (.ifCond .eq 12, 3) := by decide +kernel
theorem dX12_filing_16 : decode cX12_filing 16 = .ok (.iload_n 3, 1) := by decide +kernel
theorem dX12_filing_17 : decode cX12_filing 17 = .ok (.iconst 0, 1) := by decide +kernel
theorem dX12_filing_18 : decode cX12_filing 18 = .ok (.iconst 1, 1) := by decide +kernel
theorem dX12_filing_19 : decode cX12_filing 19 = .ok (.invokestatic 407, 3) := by decide +kernel
theorem dX12_filing_22 : decode cX12_filing 22 = .ok (.ifCond .ne 5, 3) := by decide +kernel
theorem dX12_filing_25 : decode cX12_filing 25 = .ok (.iconst (-1), 1) := by decide +kernel
theorem dX12_filing_26 : decode cX12_filing 26 = .ok (.ireturn, 1) := by decide +kernel
theorem dX12_filing_27 : decode cX12_filing 27 = .ok (.iconst (-1), 1) := by decide +kernel
theorem dX12_filing_28 : decode cX12_filing 28 = .ok (.istore 4, 2) := by decide +kernel
theorem dX12_filing_30 : decode cX12_filing 30 = .ok (.ldc_w 528, 3) := by decide +kernel
theorem dX12_filing_33 : decode cX12_filing 33 = .ok (.istore 5, 2) := by decide +kernel
theorem dX12_filing_35 : decode cX12_filing 35 = .ok (.iconst 0, 1) := by decide +kernel
theorem dX12_filing_36 : decode cX12_filing 36 = .ok (.istore 6, 2) := by decide +kernel
theorem dX12_filing_38 : decode cX12_filing 38 = .ok (.iload 6, 2) := by decide +kernel
theorem dX12_filing_40 : decode cX12_filing 40 = .ok (.aload_n 0, 1) := by decide +kernel
theorem dX12_filing_41 : decode cX12_filing 41 = .ok (.invokevirtual 438, 3) := by decide +kernel
theorem dX12_filing_44 : decode cX12_filing 44 = .ok (.if_icmp .ge 63, 3) := by decide +kernel
theorem dX12_filing_47 : decode cX12_filing 47 = .ok (.aload_n 0, 1) := by decide +kernel
theorem dX12_filing_48 : decode cX12_filing 48 = .ok (.iload 6, 2) := by decide +kernel
theorem dX12_filing_50 : decode cX12_filing 50 = .ok (.invokevirtual 456, 3) := by decide +kernel
theorem dX12_filing_53 : decode cX12_filing 53 = .ok (.ifCond .eq 48, 3) := by decide +kernel
theorem dX12_filing_56 : decode cX12_filing 56 = .ok (.aload_n 0, 1) := by decide +kernel
theorem dX12_filing_57 : decode cX12_filing 57 = .ok (.iload 6, 2) := by decide +kernel
theorem dX12_filing_59 : decode cX12_filing 59 = .ok (.iload_n 2, 1) := by decide +kernel
theorem dX12_filing_60 : decode cX12_filing 60 = .ok (.invokevirtual 453, 3) := by decide +kernel
theorem dX12_filing_63 : decode cX12_filing 63 = .ok (.ifCond .ne 6, 3) := by decide +kernel
theorem dX12_filing_66 : decode cX12_filing 66 = .ok (.goto 35, 3) := by decide +kernel
theorem dX12_filing_69 : decode cX12_filing 69 = .ok (.aload_n 0, 1) := by decide +kernel
theorem dX12_filing_70 : decode cX12_filing 70 = .ok (.iload_n 1, 1) := by decide +kernel
theorem dX12_filing_71 : decode cX12_filing 71 = .ok (.iload 6, 2) := by decide +kernel
theorem dX12_filing_73 : decode cX12_filing 73 = .ok (.invokevirtual 529, 3) := by decide +kernel
theorem dX12_filing_76 : decode cX12_filing 76 = .ok (.istore 7, 2) := by decide +kernel
theorem dX12_filing_78 : decode cX12_filing 78 = .ok (.iload 7, 2) := by decide +kernel
theorem dX12_filing_80 : decode cX12_filing 80 = .ok (.ifCond .lt 21, 3) := by decide +kernel
theorem dX12_filing_83 : decode cX12_filing 83 = .ok (.iload 7, 2) := by decide +kernel
theorem dX12_filing_85 : decode cX12_filing 85 = .ok (.iload 5, 2) := by decide +kernel
theorem dX12_filing_87 : decode cX12_filing 87 = .ok (.if_icmp .lt 6, 3) := by decide +kernel
theorem dX12_filing_90 : decode cX12_filing 90 = .ok (.goto 11, 3) := by decide +kernel
theorem dX12_filing_93 : decode cX12_filing 93 = .ok (.iload 6, 2) := by decide +kernel
theorem dX12_filing_95 : decode cX12_filing 95 = .ok (.istore 4, 2) := by decide +kernel
theorem dX12_filing_97 : decode cX12_filing 97 = .ok (.iload 7, 2) := by decide +kernel
theorem dX12_filing_99 : decode cX12_filing 99 = .ok (.istore 5, 2) := by decide +kernel
theorem dX12_filing_101 : decode cX12_filing 101 = .ok (.iinc 6 1, 3) := by decide +kernel
theorem dX12_filing_104 : decode cX12_filing 104 = .ok (.goto (-66), 3) := by decide +kernel
theorem dX12_filing_107 : decode cX12_filing 107 = .ok (.iload 4, 2) := by decide +kernel
theorem dX12_filing_109 : decode cX12_filing 109 = .ok (.ifCond .ge 7, 3) := by decide +kernel
theorem dX12_filing_112 : decode cX12_filing 112 = .ok (.iconst (-1), 1) := by decide +kernel
theorem dX12_filing_113 : decode cX12_filing 113 = .ok (.goto 14, 3) := by decide +kernel
theorem dX12_filing_116 : decode cX12_filing 116 = .ok (.iload_n 3, 1) := by decide +kernel
theorem dX12_filing_117 : decode cX12_filing 117 = .ok (.ifCond .ne 8, 3) := by decide +kernel
theorem dX12_filing_120 : decode cX12_filing 120 = .ok (.iload 5, 2) := by decide +kernel
theorem dX12_filing_122 : decode cX12_filing 122 = .ok (.goto 5, 3) := by decide +kernel
theorem dX12_filing_125 : decode cX12_filing 125 = .ok (.iload 4, 2) := by decide +kernel
theorem dX12_filing_127 : decode cX12_filing 127 = .ok (.ireturn, 1) := by decide +kernel
theorem dX12_find_0 : decode cX12_find 0 = .ok (.aload_n 0, 1) := by decide +kernel
theorem dX12_find_1 : decode cX12_find 1 = .ok (.iload_n 1, 1) := by decide +kernel
theorem dX12_find_2 : decode cX12_find 2 = .ok (.invokevirtual 462, 3) := by decide +kernel
theorem dX12_find_5 : decode cX12_find 5 = .ok (.ifCond .eq 21, 3) := by decide +kernel
theorem dX12_find_8 : decode cX12_find 8 = .ok (.aload_n 0, 1) := by decide +kernel
theorem dX12_find_9 : decode cX12_find 9 = .ok (.iload_n 2, 1) := by decide +kernel
theorem dX12_find_10 : decode cX12_find 10 = .ok (.invokevirtual 495, 3) := by decide +kernel
theorem dX12_find_13 : decode cX12_find 13 = .ok (.ifCond .eq 13, 3) := by decide +kernel
theorem dX12_find_16 : decode cX12_find 16 = .ok (.aload_n 0, 1) := by decide +kernel
theorem dX12_find_17 : decode cX12_find 17 = .ok (.iload_n 1, 1) := by decide +kernel
theorem dX12_find_18 : decode cX12_find 18 = .ok (.invokevirtual 465, 3) := by decide +kernel
theorem dX12_find_21 : decode cX12_find 21 = .ok (.bipush (-2), 2) := by decide +kernel
theorem dX12_find_23 : decode cX12_find 23 = .ok (.if_icmp .eq 5, 3) := by decide +kernel
theorem dX12_find_26 : decode cX12_find 26 = .ok (.iconst (-1), 1) := by decide +kernel
theorem dX12_find_27 : decode cX12_find 27 = .ok (.ireturn, 1) := by decide +kernel
theorem dX12_find_28 : decode cX12_find 28 = .ok (.aload_n 0, 1) := by decide +kernel
theorem dX12_find_29 : decode cX12_find 29 = .ok (.iload_n 1, 1) := by decide +kernel
theorem dX12_find_30 : decode cX12_find 30 = .ok (.iload_n 2, 1) := by decide +kernel
theorem dX12_find_31 : decode cX12_find 31 = .ok (.invokevirtual 603, 3) := by decide +kernel
theorem dX12_find_34 : decode cX12_find 34 = .ok (.istore_n 3, 1) := by decide +kernel
theorem dX12_find_35 : decode cX12_find 35 = .ok (.aload_n 0, 1) := by decide +kernel
theorem dX12_find_36 : decode cX12_find 36 = .ok (.iload_n 2, 1) := by decide +kernel
theorem dX12_find_37 : decode cX12_find 37 = .ok (.invokevirtual 498, 3) := by decide +kernel
theorem dX12_find_40 : decode cX12_find 40 = .ok (.invokestatic 471, 3) := by decide +kernel
theorem dX12_find_43 : decode cX12_find 43 = .ok (.ireturn, 1) := by decide +kernel
theorem dX12_fits_0 : decode cX12_fits 0 = .ok (.iconst 0, 1) := by decide +kernel
theorem dX12_fits_1 : decode cX12_fits 1 = .ok (.istore_n 2, 1) := by decide +kernel
theorem dX12_fits_2 : decode cX12_fits 2 = .ok (.iconst 0, 1) := by decide +kernel
theorem dX12_fits_3 : decode cX12_fits 3 = .ok (.istore_n 3, 1) := by decide +kernel
theorem dX12_fits_4 : decode cX12_fits 4 = .ok (.iload_n 3, 1) := by decide +kernel
theorem dX12_fits_5 : decode cX12_fits 5 = .ok (.aload_n 0, 1) := by decide +kernel
theorem dX12_fits_6 : decode cX12_fits 6 = .ok (.invokevirtual 438, 3) := by decide +kernel
theorem dX12_fits_9 : decode cX12_fits 9 = .ok (.if_icmp .ge 21, 3) := by decide +kernel
theorem dX12_fits_12 : decode cX12_fits 12 = .ok (.aload_n 0, 1) := by decide +kernel
theorem dX12_fits_13 : decode cX12_fits 13 = .ok (.iload_n 3, 1) := by decide +kernel
theorem dX12_fits_14 : decode cX12_fits 14 = .ok (.iload_n 1, 1) := by decide +kernel
theorem dX12_fits_15 : decode cX12_fits 15 = .ok (.invokevirtual 615, 3) := by decide +kernel
theorem dX12_fits_18 : decode cX12_fits 18 = .ok (.ifCond .eq 6, 3) := by decide +kernel
theorem dX12_fits_21 : decode cX12_fits 21 = .ok (.iinc 2 1, 3) := by decide +kernel
theorem dX12_fits_24 : decode cX12_fits 24 = .ok (.iinc 3 1, 3) := by decide +kernel
theorem dX12_fits_27 : decode cX12_fits 27 = .ok (.goto (-23), 3) := by decide +kernel
theorem dX12_fits_30 : decode cX12_fits 30 = .ok (.iload_n 2, 1) := by decide +kernel
theorem dX12_fits_31 : decode cX12_fits 31 = .ok (.ireturn, 1) := by decide +kernel
theorem dX12_fresh_0 : decode cX12_fresh 0 = .ok (.aload_n 0, 1) := by decide +kernel
theorem dX12_fresh_1 : decode cX12_fresh 1 = .ok (.invokevirtual 251, 3) := by decide +kernel
theorem dX12_fresh_4 : decode cX12_fresh 4 = .ok (.ifCond .ne 5, 3) := by decide +kernel
theorem dX12_fresh_7 : decode cX12_fresh 7 = .ok (.lconst 0, 1) := by decide +kernel
theorem dX12_fresh_8 : decode cX12_fresh 8 = .ok (.lreturn, 1) := by decide +kernel
theorem dX12_fresh_9 : decode cX12_fresh 9 = .ok (.aload_n 0, 1) := by decide +kernel
theorem dX12_fresh_10 : decode cX12_fresh 10 = .ok (.getfield 223, 3) := by decide +kernel
theorem dX12_fresh_13 : decode cX12_fresh 13 = .ok (.iconst 2, 1) := by decide +kernel
theorem dX12_fresh_14 : decode cX12_fresh 14 = .ok (.if_icmp .eq 10, 3) := by decide +kernel
theorem dX12_fresh_17 : decode cX12_fresh 17 = .ok (.aload_n 0, 1) := by decide +kernel
theorem dX12_fresh_18 : decode cX12_fresh 18 = .ok (.invokevirtual 258, 3) := by decide +kernel
theorem dX12_fresh_21 : decode cX12_fresh 21 = .ok (.goto 16, 3) := by decide +kernel
theorem dX12_fresh_24 : decode cX12_fresh 24 = .ok (.iload_n 1, 1) := by decide +kernel
theorem dX12_fresh_25 : decode cX12_fresh 25 = .ok (.ifCond .lt 12, 3) := by decide +kernel
theorem dX12_fresh_28 : decode cX12_fresh 28 = .ok (.aload_n 0, 1) := by decide +kernel
theorem dX12_fresh_29 : decode cX12_fresh 29 = .ok (.iconst 3, 1) := by decide +kernel
theorem dX12_fresh_30 : decode cX12_fresh 30 = .ok (.aload_n 0, 1) := by decide +kernel
theorem dX12_fresh_31 : decode cX12_fresh 31 = .ok (.getfield 216, 3) := by decide +kernel
theorem dX12_fresh_34 : decode cX12_fresh 34 = .ok (.invokevirtual 247, 3) := by decide +kernel
theorem dX12_fresh_37 : decode cX12_fresh 37 = .ok (.aload_n 0, 1) := by decide +kernel
theorem dX12_fresh_38 : decode cX12_fresh 38 = .ok (.getfield 230, 3) := by decide +kernel
theorem dX12_fresh_41 : decode cX12_fresh 41 = .ok (.lstore_n 2, 1) := by decide +kernel
theorem dX12_fresh_42 : decode cX12_fresh 42 = .ok (.aload_n 0, 1) := by decide +kernel
theorem dX12_fresh_43 : decode cX12_fresh 43 = .ok (.invokevirtual 251, 3) := by decide +kernel
theorem dX12_fresh_46 : decode cX12_fresh 46 = .ok (.ifCond .eq 7, 3) := by decide +kernel
theorem dX12_fresh_49 : decode cX12_fresh 49 = .ok (.aload_n 0, 1) := by decide +kernel
theorem dX12_fresh_50 : decode cX12_fresh 50 = .ok (.invokevirtual 255, 3) := by decide +kernel
theorem dX12_fresh_53 : decode cX12_fresh 53 = .ok (.lload_n 2, 1) := by decide +kernel
theorem dX12_fresh_54 : decode cX12_fresh 54 = .ok (.lreturn, 1) := by decide +kernel
theorem dX12_ghost_0 : decode cX12_ghost 0 = .ok (.aload_n 0, 1) := by decide +kernel
theorem dX12_ghost_1 : decode cX12_ghost 1 = .ok (.iload_n 1, 1) := by decide +kernel
theorem dX12_ghost_2 : decode cX12_ghost 2 = .ok (.invokevirtual 477, 3) := by decide +kernel
theorem dX12_ghost_5 : decode cX12_ghost 5 = .ok (.ifCond .eq 7, 3) := by decide +kernel
theorem dX12_ghost_8 : decode cX12_ghost 8 = .ok (.iload_n 2, 1) := by decide +kernel
theorem dX12_ghost_9 : decode cX12_ghost 9 = .ok (.ifCond .ge 5, 3) := by decide +kernel
theorem dX12_ghost_12 : decode cX12_ghost 12 = .ok (.iconst (-1), 1) := by decide +kernel
theorem dX12_ghost_13 : decode cX12_ghost 13 = .ok (.ireturn, 1) := by decide +kernel
theorem dX12_ghost_14 : decode cX12_ghost 14 = .ok (.iload_n 2, 1) := by decide +kernel
theorem dX12_ghost_15 : decode cX12_ghost 15 = .ok (.istore_n 3, 1) := by decide +kernel
theorem dX12_ghost_16 : decode cX12_ghost 16 = .ok (.iconst 0, 1) := by decide +kernel
theorem dX12_ghost_17 : decode cX12_ghost 17 = .ok (.istore 4, 2) := by decide +kernel
theorem dX12_ghost_19 : decode cX12_ghost 19 = .ok (.iload 4, 2) := by decide +kernel
theorem dX12_ghost_21 : decode cX12_ghost 21 = .ok (.aload_n 0, 1) := by decide +kernel
theorem dX12_ghost_22 : decode cX12_ghost 22 = .ok (.invokevirtual 438, 3) := by decide +kernel
theorem dX12_ghost_25 : decode cX12_ghost 25 = .ok (.if_icmp .ge 32, 3) := by decide +kernel
theorem dX12_ghost_28 : decode cX12_ghost 28 = .ok (.aload_n 0, 1) := by decide +kernel
theorem dX12_ghost_29 : decode cX12_ghost 29 = .ok (.iload 4, 2) := by decide +kernel
theorem dX12_ghost_31 : decode cX12_ghost 31 = .ok (.iload_n 1, 1) := by decide +kernel
theorem dX12_ghost_32 : decode cX12_ghost 32 = .ok (.invokevirtual 510, 3) := by decide +kernel
theorem dX12_ghost_35 : decode cX12_ghost 35 = .ok (.ifCond .ne 6, 3) := by decide +kernel
theorem dX12_ghost_38 : decode cX12_ghost 38 = .ok (.goto 13, 3) := by decide +kernel
theorem dX12_ghost_41 : decode cX12_ghost 41 = .ok (.iload_n 3, 1) := by decide +kernel
theorem dX12_ghost_42 : decode cX12_ghost 42 = .ok (.ifCond .ne 6, 3) := by decide +kernel
theorem dX12_ghost_45 : decode cX12_ghost 45 = .ok (.iload 4, 2) := by decide +kernel
theorem dX12_ghost_47 : decode cX12_ghost 47 = .ok (.ireturn, 1) := by decide +kernel
theorem dX12_ghost_48 : decode cX12_ghost 48 = .ok (.iinc 3 (-1), 3) := by decide +kernel
theorem dX12_ghost_51 : decode cX12_ghost 51 = .ok (.iinc 4 1, 3) := by decide +kernel
theorem dX12_ghost_54 : decode cX12_ghost 54 = .ok (.goto (-35), 3) := by decide +kernel
theorem dX12_ghost_57 : decode cX12_ghost 57 = .ok (.iconst (-1), 1) := by decide +kernel
theorem dX12_ghost_58 : decode cX12_ghost 58 = .ok (.ireturn, 1) := by decide +kernel
theorem dX12_ghosts_0 : decode cX12_ghosts 0 = .ok (.aload_n 0, 1) := by decide +kernel
theorem dX12_ghosts_1 : decode cX12_ghosts 1 = .ok (.iload_n 1, 1) := by decide +kernel
theorem dX12_ghosts_2 : decode cX12_ghosts 2 = .ok (.invokevirtual 477, 3) := by decide +kernel
theorem dX12_ghosts_5 : decode cX12_ghosts 5 = .ok (.ifCond .eq 11, 3) := by decide +kernel
theorem dX12_ghosts_8 : decode cX12_ghosts 8 = .ok (.aload_n 0, 1) := by decide +kernel
theorem dX12_ghosts_9 : decode cX12_ghosts 9 = .ok (.iload_n 1, 1) := by decide +kernel
theorem dX12_ghosts_10 : decode cX12_ghosts 10 = .ok (.invokevirtual 513, 3) := by decide +kernel
theorem dX12_ghosts_13 : decode cX12_ghosts 13 = .ok (.goto 4, 3) := by decide +kernel
theorem dX12_ghosts_16 : decode cX12_ghosts 16 = .ok (.iconst (-1), 1) := by decide +kernel
theorem dX12_ghosts_17 : decode cX12_ghosts 17 = .ok (.ireturn, 1) := by decide +kernel
theorem dX12_ghostsOf_0 : decode cX12_ghostsOf 0 = .ok (.iconst 0, 1) := by decide +kernel
theorem dX12_ghostsOf_1 : decode cX12_ghostsOf 1 = .ok (.istore_n 2, 1) := by decide +kernel
theorem dX12_ghostsOf_2 : decode cX12_ghostsOf 2 = .ok (.iconst 0, 1) := by decide +kernel
theorem dX12_ghostsOf_3 : decode cX12_ghostsOf 3 = .ok (.istore_n 3, 1) := by decide +kernel
theorem dX12_ghostsOf_4 : decode cX12_ghostsOf 4 = .ok (.iload_n 3, 1) := by decide +kernel
theorem dX12_ghostsOf_5 : decode cX12_ghostsOf 5 = .ok (.aload_n 0, 1) := by decide +kernel
theorem dX12_ghostsOf_6 : decode cX12_ghostsOf 6 = .ok (.invokevirtual 438, 3) := by decide +kernel
theorem dX12_ghostsOf_9 : decode cX12_ghostsOf 9 = .ok (.if_icmp .ge 21, 3) := by decide +kernel
theorem dX12_ghostsOf_12 : decode cX12_ghostsOf 12 = .ok (.aload_n 0, 1) := by decide +kernel
theorem dX12_ghostsOf_13 : decode cX12_ghostsOf 13 = .ok (.iload_n 3, 1) := by decide +kernel
theorem dX12_ghostsOf_14 : decode cX12_ghostsOf 14 = .ok (.iload_n 1, 1) := by decide +kernel
theorem dX12_ghostsOf_15 : decode cX12_ghostsOf 15 = .ok (.invokevirtual 510, 3) := by decide +kernel
theorem dX12_ghostsOf_18 : decode cX12_ghostsOf 18 = .ok (.ifCond .eq 6, 3) := by decide +kernel
theorem dX12_ghostsOf_21 : decode cX12_ghostsOf 21 = .ok (.iinc 2 1, 3) := by decide +kernel
theorem dX12_ghostsOf_24 : decode cX12_ghostsOf 24 = .ok (.iinc 3 1, 3) := by decide +kernel
theorem dX12_ghostsOf_27 : decode cX12_ghostsOf 27 = .ok (.goto (-23), 3) := by decide +kernel
theorem dX12_ghostsOf_30 : decode cX12_ghostsOf 30 = .ok (.iload_n 2, 1) := by decide +kernel
theorem dX12_ghostsOf_31 : decode cX12_ghostsOf 31 = .ok (.ireturn, 1) := by decide +kernel
theorem dX12_give_0 : decode cX12_give 0 = .ok (.aload_n 0, 1) := by decide +kernel
theorem dX12_give_1 : decode cX12_give 1 = .ok (.iload_n 1, 1) := by decide +kernel
theorem dX12_give_2 : decode cX12_give 2 = .ok (.invokevirtual 462, 3) := by decide +kernel
theorem dX12_give_5 : decode cX12_give 5 = .ok (.ifCond .eq 30, 3) := by decide +kernel
theorem dX12_give_8 : decode cX12_give 8 = .ok (.aload_n 0, 1) := by decide +kernel
theorem dX12_give_9 : decode cX12_give 9 = .ok (.iload_n 2, 1) := by decide +kernel
theorem dX12_give_10 : decode cX12_give 10 = .ok (.invokevirtual 495, 3) := by decide +kernel
theorem dX12_give_13 : decode cX12_give 13 = .ok (.ifCond .eq 22, 3) := by decide +kernel
theorem dX12_give_16 : decode cX12_give 16 = .ok (.aload_n 0, 1) := by decide +kernel
theorem dX12_give_17 : decode cX12_give 17 = .ok (.iload_n 1, 1) := by decide +kernel
theorem dX12_give_18 : decode cX12_give 18 = .ok (.invokevirtual 465, 3) := by decide +kernel
theorem dX12_give_21 : decode cX12_give 21 = .ok (.iload_n 2, 1) := by decide +kernel
theorem dX12_give_22 : decode cX12_give 22 = .ok (.if_icmp .eq 13, 3) := by decide +kernel
theorem dX12_give_25 : decode cX12_give 25 = .ok (.aload_n 0, 1) := by decide +kernel
theorem dX12_give_26 : decode cX12_give 26 = .ok (.iload_n 1, 1) := by decide +kernel
theorem dX12_give_27 : decode cX12_give 27 = .ok (.invokevirtual 465, 3) := by decide +kernel
theorem dX12_give_30 : decode cX12_give 30 = .ok (.bipush (-2), 2) := by decide +kernel
theorem dX12_give_32 : decode cX12_give 32 = .ok (.if_icmp .ne 6, 3) := by decide +kernel
theorem dX12_give_35 : decode cX12_give 35 = .ok (.bipush (-3), 2) := by decide +kernel
theorem dX12_give_37 : decode cX12_give 37 = .ok (.ireturn, 1) := by decide +kernel
theorem dX12_give_38 : decode cX12_give 38 = .ok (.aload_n 0, 1) := by decide +kernel
theorem dX12_give_39 : decode cX12_give 39 = .ok (.iload_n 1, 1) := by decide +kernel
theorem dX12_give_40 : decode cX12_give 40 = .ok (.invokevirtual 465, 3) := by decide +kernel
theorem dX12_give_43 : decode cX12_give 43 = .ok (.ifCond .lt 31, 3) := by decide +kernel
theorem dX12_give_46 : decode cX12_give 46 = .ok (.aload_n 0, 1) := by decide +kernel
theorem dX12_give_47 : decode cX12_give 47 = .ok (.getfield 118, 3) := by decide +kernel
theorem dX12_give_50 : decode cX12_give 50 = .ok (.bipush 86, 2) := by decide +kernel
theorem dX12_give_52 : decode cX12_give 52 = .ok (.aload_n 0, 1) := by decide +kernel
theorem dX12_give_53 : decode cX12_give 53 = .ok (.iload_n 1, 1) := by decide +kernel
theorem dX12_give_54 : decode cX12_give 54 = .ok (.invokevirtual 465, 3) := by decide +kernel
theorem dX12_give_57 : decode cX12_give 57 = .ok (.iadd, 1) := by decide +kernel
theorem dX12_give_58 : decode cX12_give 58 = .ok (.iaload, 1) := by decide +kernel
theorem dX12_give_59 : decode cX12_give 59 = .ok (.aload_n 0, 1) := by decide +kernel
theorem dX12_give_60 : decode cX12_give 60 = .ok (.getfield 118, 3) := by decide +kernel
theorem dX12_give_63 : decode cX12_give 63 = .ok (.bipush 86, 2) := by decide +kernel
theorem dX12_give_65 : decode cX12_give 65 = .ok (.iload_n 2, 1) := by decide +kernel
theorem dX12_give_66 : decode cX12_give 66 = .ok (.iadd, 1) := by decide +kernel
theorem dX12_give_67 : decode cX12_give 67 = .ok (.iaload, 1) := by decide +kernel
theorem dX12_give_68 : decode cX12_give 68 = .ok (.if_icmp .eq 6, 3) := by decide +kernel
theorem dX12_give_71 : decode cX12_give 71 = .ok (.bipush (-3), 2) := by decide +kernel
theorem dX12_give_73 : decode cX12_give 73 = .ok (.ireturn, 1) := by decide +kernel
theorem dX12_give_74 : decode cX12_give 74 = .ok (.aload_n 0, 1) := by decide +kernel
theorem dX12_give_75 : decode cX12_give 75 = .ok (.iload_n 1, 1) := by decide +kernel
theorem dX12_give_76 : decode cX12_give 76 = .ok (.iload_n 2, 1) := by decide +kernel
theorem dX12_give_77 : decode cX12_give 77 = .ok (.invokevirtual 603, 3) := by decide +kernel
theorem dX12_give_80 : decode cX12_give 80 = .ok (.ireturn, 1) := by decide +kernel
theorem dX12_goOn_0 : decode cX12_goOn 0 = .ok (.aload_n 0, 1) := by decide +kernel
theorem dX12_goOn_1 : decode cX12_goOn 1 = .ok (.aload_n 0, 1) := by decide +kernel
theorem dX12_goOn_2 : decode cX12_goOn 2 = .ok (.getfield 213, 3) := by decide +kernel
theorem dX12_goOn_5 : decode cX12_goOn 5 = .ok (.putfield 216, 3) := by decide +kernel
theorem dX12_goOn_8 : decode cX12_goOn 8 = .ok (.aload_n 0, 1) := by decide +kernel
theorem dX12_goOn_9 : decode cX12_goOn 9 = .ok (.getfield 216, 3) := by decide +kernel
theorem dX12_goOn_12 : decode cX12_goOn 12 = .ok (.aload_n 0, 1) := by decide +kernel
theorem dX12_goOn_13 : decode cX12_goOn 13 = .ok (.getfield 161, 3) := by decide +kernel
theorem dX12_goOn_16 : decode cX12_goOn 16 = .ok (.if_icmp .ge 42, 3) := by decide +kernel
theorem dX12_goOn_19 : decode cX12_goOn 19 = .ok (.aload_n 0, 1) := by decide +kernel
theorem dX12_goOn_20 : decode cX12_goOn 20 = .ok (.aload_n 0, 1) := by decide +kernel
theorem dX12_goOn_21 : decode cX12_goOn 21 = .ok (.getfield 216, 3) := by decide +kernel
theorem dX12_goOn_24 : decode cX12_goOn 24 = .ok (.invokevirtual 219, 3) := by decide +kernel
theorem dX12_goOn_27 : decode cX12_goOn 27 = .ok (.bipush 32, 2) := by decide +kernel
theorem dX12_goOn_29 : decode cX12_goOn 29 = .ok (.if_icmp .eq 16, 3) := by decide +kernel
theorem dX12_goOn_32 : decode cX12_goOn 32 = .ok (.aload_n 0, 1) := by decide +kernel
theorem dX12_goOn_33 : decode cX12_goOn 33 = .ok (.aload_n 0, 1) := by decide +kernel
theorem dX12_goOn_34 : decode cX12_goOn 34 = .ok (.getfield 216, 3) := by decide +kernel
theorem dX12_goOn_37 : decode cX12_goOn 37 = .ok (.invokevirtual 219, 3) := by decide +kernel
theorem dX12_goOn_40 : decode cX12_goOn 40 = .ok (.bipush 10, 2) := by decide +kernel
theorem dX12_goOn_42 : decode cX12_goOn 42 = .ok (.if_icmp .ne 16, 3) := by decide +kernel
theorem dX12_goOn_45 : decode cX12_goOn 45 = .ok (.aload_n 0, 1) := by decide +kernel
theorem dX12_goOn_46 : decode cX12_goOn 46 = .ok (.dup, 1) := by decide +kernel
theorem dX12_goOn_47 : decode cX12_goOn 47 = .ok (.getfield 216, 3) := by decide +kernel
theorem dX12_goOn_50 : decode cX12_goOn 50 = .ok (.iconst 1, 1) := by decide +kernel
theorem dX12_goOn_51 : decode cX12_goOn 51 = .ok (.iadd, 1) := by decide +kernel
theorem dX12_goOn_52 : decode cX12_goOn 52 = .ok (.putfield 216, 3) := by decide +kernel
theorem dX12_goOn_55 : decode cX12_goOn 55 = .ok (.goto (-47), 3) := by decide +kernel
theorem dX12_goOn_58 : decode cX12_goOn 58 = .ok (.aload_n 0, 1) := by decide +kernel
theorem dX12_goOn_59 : decode cX12_goOn 59 = .ok (.aload_n 0, 1) := by decide +kernel
theorem dX12_goOn_60 : decode cX12_goOn 60 = .ok (.getfield 216, 3) := by decide +kernel
theorem dX12_goOn_63 : decode cX12_goOn 63 = .ok (.invokevirtual 219, 3) := by decide +kernel
theorem dX12_goOn_66 : decode cX12_goOn 66 = .ok (.istore_n 1, 1) := by decide +kernel
theorem dX12_goOn_67 : decode cX12_goOn 67 = .ok (.aload_n 0, 1) := by decide +kernel
theorem dX12_goOn_68 : decode cX12_goOn 68 = .ok (.aload_n 0, 1) := by decide +kernel
theorem dX12_goOn_69 : decode cX12_goOn 69 = .ok (.getfield 216, 3) := by decide +kernel
theorem dX12_goOn_72 : decode cX12_goOn 72 = .ok (.iconst 1, 1) := by decide +kernel
theorem dX12_goOn_73 : decode cX12_goOn 73 = .ok (.iadd, 1) := by decide +kernel
theorem dX12_goOn_74 : decode cX12_goOn 74 = .ok (.putfield 213, 3) := by decide +kernel
theorem dX12_goOn_77 : decode cX12_goOn 77 = .ok (.aload_n 0, 1) := by decide +kernel
theorem dX12_goOn_78 : decode cX12_goOn 78 = .ok (.getfield 216, 3) := by decide +kernel
theorem dX12_goOn_81 : decode cX12_goOn 81 = .ok (.aload_n 0, 1) := by decide +kernel
theorem dX12_goOn_82 : decode cX12_goOn 82 = .ok (.getfield 161, 3) := by decide +kernel
theorem dX12_goOn_85 : decode cX12_goOn 85 = .ok (.if_icmp .lt 27, 3) := by decide +kernel
theorem dX12_goOn_88 : decode cX12_goOn 88 = .ok (.aload_n 0, 1) := by decide +kernel
theorem dX12_goOn_89 : decode cX12_goOn 89 = .ok (.iconst 0, 1) := by decide +kernel
theorem dX12_goOn_90 : decode cX12_goOn 90 = .ok (.putfield 223, 3) := by decide +kernel
theorem dX12_goOn_93 : decode cX12_goOn 93 = .ok (.aload_n 0, 1) := by decide +kernel
theorem dX12_goOn_94 : decode cX12_goOn 94 = .ok (.aload_n 0, 1) := by decide +kernel
theorem dX12_goOn_95 : decode cX12_goOn 95 = .ok (.getfield 161, 3) := by decide +kernel
theorem dX12_goOn_98 : decode cX12_goOn 98 = .ok (.putfield 216, 3) := by decide +kernel
theorem dX12_goOn_101 : decode cX12_goOn 101 = .ok (.aload_n 0, 1) := by decide +kernel
theorem dX12_goOn_102 : decode cX12_goOn 102 = .ok (.aload_n 0, 1) := by decide +kernel
theorem dX12_goOn_103 : decode cX12_goOn 103 = .ok (.getfield 161, 3) := by decide +kernel
theorem dX12_goOn_106 : decode cX12_goOn 106 = .ok (.putfield 213, 3) := by decide +kernel
theorem dX12_goOn_109 : decode cX12_goOn 109 = .ok (.goto 268, 3) := by decide +kernel
theorem dX12_goOn_112 : decode cX12_goOn 112 = .ok (.iload_n 1, 1) := by decide +kernel
theorem dX12_goOn_113 : decode cX12_goOn 113 = .ok (.invokestatic 226, 3) := by decide +kernel
theorem dX12_goOn_116 : decode cX12_goOn 116 = .ok (.ifCond .eq 123, 3) := by decide +kernel
theorem dX12_goOn_119 : decode cX12_goOn 119 = .ok (.aload_n 0, 1) := by decide +kernel
theorem dX12_goOn_120 : decode cX12_goOn 120 = .ok (.aload_n 0, 1) := by decide +kernel
theorem dX12_goOn_121 : decode cX12_goOn 121 = .ok (.getfield 213, 3) := by decide +kernel
theorem dX12_goOn_124 : decode cX12_goOn 124 = .ok (.invokevirtual 219, 3) := by decide +kernel
theorem dX12_goOn_127 : decode cX12_goOn 127 = .ok (.invokestatic 226, 3) := by decide +kernel
theorem dX12_goOn_130 : decode cX12_goOn 130 = .ok (.ifCond .eq 16, 3) := by decide +kernel
theorem dX12_goOn_133 : decode cX12_goOn 133 = .ok (.aload_n 0, 1) := by decide +kernel
theorem dX12_goOn_134 : decode cX12_goOn 134 = .ok (.dup, 1) := by decide +kernel
theorem dX12_goOn_135 : decode cX12_goOn 135 = .ok (.getfield 213, 3) := by decide +kernel
theorem dX12_goOn_138 : decode cX12_goOn 138 = .ok (.iconst 1, 1) := by decide +kernel
theorem dX12_goOn_139 : decode cX12_goOn 139 = .ok (.iadd, 1) := by decide +kernel
theorem dX12_goOn_140 : decode cX12_goOn 140 = .ok (.putfield 213, 3) := by decide +kernel
theorem dX12_goOn_143 : decode cX12_goOn 143 = .ok (.goto (-24), 3) := by decide +kernel
theorem dX12_goOn_146 : decode cX12_goOn 146 = .ok (.aload_n 0, 1) := by decide +kernel
theorem dX12_goOn_147 : decode cX12_goOn 147 = .ok (.lconst 0, 1) := by decide +kernel
theorem dX12_goOn_148 : decode cX12_goOn 148 = .ok (.putfield 230, 3) := by decide +kernel
theorem dX12_goOn_151 : decode cX12_goOn 151 = .ok (.aload_n 0, 1) := by decide +kernel
theorem dX12_goOn_152 : decode cX12_goOn 152 = .ok (.getfield 216, 3) := by decide +kernel
theorem dX12_goOn_155 : decode cX12_goOn 155 = .ok (.istore_n 2, 1) := by decide +kernel
theorem dX12_goOn_156 : decode cX12_goOn 156 = .ok (.iload_n 2, 1) := by decide +kernel
theorem dX12_goOn_157 : decode cX12_goOn 157 = .ok (.aload_n 0, 1) := by decide +kernel
theorem dX12_goOn_158 : decode cX12_goOn 158 = .ok (.getfield 213, 3) := by decide +kernel
theorem dX12_goOn_161 : decode cX12_goOn 161 = .ok (.if_icmp .ge 38, 3) := by decide +kernel
theorem dX12_goOn_164 : decode cX12_goOn 164 = .ok (.iload_n 2, 1) := by decide +kernel
theorem dX12_goOn_165 : decode cX12_goOn 165 = .ok (.aload_n 0, 1) := by decide +kernel
theorem dX12_goOn_166 : decode cX12_goOn 166 = .ok (.getfield 216, 3) := by decide +kernel
theorem dX12_goOn_169 : decode cX12_goOn 169 = .ok (.bipush 8, 2) := by decide +kernel
theorem dX12_goOn_171 : decode cX12_goOn 171 = .ok (.iadd, 1) := by decide +kernel
theorem dX12_goOn_172 : decode cX12_goOn 172 = .ok (.if_icmp .ge 27, 3) := by decide +kernel
theorem dX12_goOn_175 : decode cX12_goOn 175 = .ok (.aload_n 0, 1) := by decide +kernel
theorem dX12_goOn_176 : decode cX12_goOn 176 = .ok (.aload_n 0, 1) := by decide +kernel
theorem dX12_goOn_177 : decode cX12_goOn 177 = .ok (.getfield 230, 3) := by decide +kernel
theorem dX12_goOn_180 : decode cX12_goOn 180 = .ok (.bipush 8, 2) := by decide +kernel
theorem dX12_goOn_182 : decode cX12_goOn 182 = .ok (.lshl, 1) := by decide +kernel
theorem dX12_goOn_183 : decode cX12_goOn 183 = .ok (.aload_n 0, 1) := by decide +kernel
theorem dX12_goOn_184 : decode cX12_goOn 184 = .ok (.iload_n 2, 1) := by decide +kernel
theorem dX12_goOn_185 : decode cX12_goOn 185 = .ok (.invokevirtual 219, 3) := by decide +kernel
theorem dX12_goOn_188 : decode cX12_goOn 188 = .ok (.i2l, 1) := by decide +kernel
theorem dX12_goOn_189 : decode cX12_goOn 189 = .ok (.lor, 1) := by decide +kernel
theorem dX12_goOn_190 : decode cX12_goOn 190 = .ok (.putfield 230, 3) := by decide +kernel
theorem dX12_goOn_193 : decode cX12_goOn 193 = .ok (.iinc 2 1, 3) := by decide +kernel
theorem dX12_goOn_196 : decode cX12_goOn 196 = .ok (.goto (-40), 3) := by decide +kernel
theorem dX12_goOn_199 : decode cX12_goOn 199 = .ok (.aload_n 0, 1) := by decide +kernel
theorem dX12_goOn_200 : decode cX12_goOn 200 = .ok (.aload_n 0, 1) := by decide +kernel
theorem dX12_goOn_201 : decode cX12_goOn 201 = .ok (.getfield 213, 3) := by decide +kernel
theorem dX12_goOn_204 : decode cX12_goOn 204 = .ok (.aload_n 0, 1) := by decide +kernel
theorem dX12_goOn_205 : decode cX12_goOn 205 = .ok (.getfield 216, 3) := by decide +kernel
theorem dX12_goOn_208 : decode cX12_goOn 208 = .ok (.isub, 1) := by decide +kernel
theorem dX12_goOn_209 : decode cX12_goOn 209 = .ok (.bipush 8, 2) := by decide +kernel
theorem dX12_goOn_211 : decode cX12_goOn 211 = .ok (.if_icmp .le 7, 3) := by decide +kernel
theorem dX12_goOn_214 : decode cX12_goOn 214 = .ok (.iconst 1, 1) := by decide +kernel
theorem dX12_goOn_215 : decode cX12_goOn 215 = .ok (.goto 18, 3) := by decide +kernel
theorem dX12_goOn_218 : decode cX12_goOn 218 = .ok (.aload_n 0, 1) := by decide +kernel
theorem dX12_goOn_219 : decode cX12_goOn 219 = .ok (.getfield 230, 3) := by decide +kernel
theorem dX12_goOn_222 : decode cX12_goOn 222 = .ok (.invokestatic 234, 3) := by decide +kernel
theorem dX12_goOn_225 : decode cX12_goOn 225 = .ok (.ifCond .eq 7, 3) := by decide +kernel
theorem dX12_goOn_228 : decode cX12_goOn 228 = .ok (.iconst 3, 1) := by decide +kernel
theorem dX12_goOn_229 : decode cX12_goOn 229 = .ok (.goto 4, 3) := by decide +kernel
theorem dX12_goOn_232 : decode cX12_goOn 232 = .ok (.iconst 2, 1) := by decide +kernel
theorem dX12_goOn_233 : decode cX12_goOn 233 = .ok (.putfield 223, 3) := by decide +kernel
theorem dX12_goOn_236 : decode cX12_goOn 236 = .ok (.goto 141, 3) := by decide +kernel
theorem dX12_goOn_239 : decode cX12_goOn 239 = .ok (.iload_n 1, 1) := by decide +kernel
theorem dX12_goOn_240 : decode cX12_goOn 240 = .ok (.invokestatic 238, 3) := by decide +kernel
theorem dX12_goOn_243 : decode cX12_goOn 243 = .ok (.ifCond .eq 118, 3) := by decide +kernel
theorem dX12_goOn_246 : decode cX12_goOn 246 = .ok (.aload_n 0, 1) := by decide +kernel
theorem dX12_goOn_247 : decode cX12_goOn 247 = .ok (.iconst 0, 1) := by decide +kernel
theorem dX12_goOn_248 : decode cX12_goOn 248 = .ok (.putfield 241, 3) := by decide +kernel
theorem dX12_goOn_251 : decode cX12_goOn 251 = .ok (.aload_n 0, 1) := by decide +kernel
theorem dX12_goOn_252 : decode cX12_goOn 252 = .ok (.aload_n 0, 1) := by decide +kernel
theorem dX12_goOn_253 : decode cX12_goOn 253 = .ok (.getfield 216, 3) := by decide +kernel
theorem dX12_goOn_256 : decode cX12_goOn 256 = .ok (.putfield 213, 3) := by decide +kernel
theorem dX12_goOn_259 : decode cX12_goOn 259 = .ok (.aload_n 0, 1) := by decide +kernel
theorem dX12_goOn_260 : decode cX12_goOn 260 = .ok (.aload_n 0, 1) := by decide +kernel
theorem dX12_goOn_261 : decode cX12_goOn 261 = .ok (.getfield 213, 3) := by decide +kernel
theorem dX12_goOn_264 : decode cX12_goOn 264 = .ok (.invokevirtual 219, 3) := by decide +kernel
theorem dX12_goOn_267 : decode cX12_goOn 267 = .ok (.invokestatic 238, 3) := by decide +kernel
theorem dX12_goOn_270 : decode cX12_goOn 270 = .ok (.ifCond .eq 52, 3) := by decide +kernel
theorem dX12_goOn_273 : decode cX12_goOn 273 = .ok (.aload_n 0, 1) := by decide +kernel
theorem dX12_goOn_274 : decode cX12_goOn 274 = .ok (.getfield 213, 3) := by decide +kernel
theorem dX12_goOn_277 : decode cX12_goOn 277 = .ok (.aload_n 0, 1) := by decide +kernel
theorem dX12_goOn_278 : decode cX12_goOn 278 = .ok (.getfield 216, 3) := by decide +kernel
theorem dX12_goOn_281 : decode cX12_goOn 281 = .ok (.isub, 1) := by decide +kernel
theorem dX12_goOn_282 : decode cX12_goOn 282 = .ok (.iconst 4, 1) := by decide +kernel
theorem dX12_goOn_283 : decode cX12_goOn 283 = .ok (.if_icmp .ge 26, 3) := by decide +kernel
theorem dX12_goOn_286 : decode cX12_goOn 286 = .ok (.aload_n 0, 1) := by decide +kernel
theorem dX12_goOn_287 : decode cX12_goOn 287 = .ok (.bipush 10, 2) := by decide +kernel
theorem dX12_goOn_289 : decode cX12_goOn 289 = .ok (.aload_n 0, 1) := by decide +kernel
theorem dX12_goOn_290 : decode cX12_goOn 290 = .ok (.getfield 241, 3) := by decide +kernel
theorem dX12_goOn_293 : decode cX12_goOn 293 = .ok (.imul, 1) := by decide +kernel
theorem dX12_goOn_294 : decode cX12_goOn 294 = .ok (.aload_n 0, 1) := by decide +kernel
theorem dX12_goOn_295 : decode cX12_goOn 295 = .ok (.aload_n 0, 1) := by decide +kernel
theorem dX12_goOn_296 : decode cX12_goOn 296 = .ok (.getfield 213, 3) := by decide +kernel
theorem dX12_goOn_299 : decode cX12_goOn 299 = .ok (.invokevirtual 219, 3) := by decide +kernel
theorem dX12_goOn_302 : decode cX12_goOn 302 = .ok (.iadd, 1) := by decide +kernel
theorem dX12_goOn_303 : decode cX12_goOn 303 = .ok (.bipush 48, 2) := by decide +kernel
theorem dX12_goOn_305 : decode cX12_goOn 305 = .ok (.isub, 1) := by decide +kernel
theorem dX12_goOn_306 : decode cX12_goOn 306 = .ok (.putfield 241, 3) := by decide +kernel
theorem dX12_goOn_309 : decode cX12_goOn 309 = .ok (.aload_n 0, 1) := by decide +kernel
theorem dX12_goOn_310 : decode cX12_goOn 310 = .ok (.dup, 1) := by decide +kernel
theorem dX12_goOn_311 : decode cX12_goOn 311 = .ok (.getfield 213, 3) := by decide +kernel
theorem dX12_goOn_314 : decode cX12_goOn 314 = .ok (.iconst 1, 1) := by decide +kernel
theorem dX12_goOn_315 : decode cX12_goOn 315 = .ok (.iadd, 1) := by decide +kernel
theorem dX12_goOn_316 : decode cX12_goOn 316 = .ok (.putfield 213, 3) := by decide +kernel
theorem dX12_goOn_319 : decode cX12_goOn 319 = .ok (.goto (-60), 3) := by decide +kernel
theorem dX12_goOn_322 : decode cX12_goOn 322 = .ok (.aload_n 0, 1) := by decide +kernel
theorem dX12_goOn_323 : decode cX12_goOn 323 = .ok (.aload_n 0, 1) := by decide +kernel
theorem dX12_goOn_324 : decode cX12_goOn 324 = .ok (.getfield 213, 3) := by decide +kernel
theorem dX12_goOn_327 : decode cX12_goOn 327 = .ok (.aload_n 0, 1) := by decide +kernel
theorem dX12_goOn_328 : decode cX12_goOn 328 = .ok (.getfield 216, 3) := by decide +kernel
theorem dX12_goOn_331 : decode cX12_goOn 331 = .ok (.isub, 1) := by decide +kernel
theorem dX12_goOn_332 : decode cX12_goOn 332 = .ok (.iconst 4, 1) := by decide +kernel
theorem dX12_goOn_333 : decode cX12_goOn 333 = .ok (.if_icmp .gt 17, 3) := by decide +kernel
theorem dX12_goOn_336 : decode cX12_goOn 336 = .ok (.aload_n 0, 1) := by decide +kernel
theorem dX12_goOn_337 : decode cX12_goOn 337 = .ok (.aload_n 0, 1) := by decide +kernel
theorem dX12_goOn_338 : decode cX12_goOn 338 = .ok (.getfield 213, 3) := by decide +kernel
theorem dX12_goOn_341 : decode cX12_goOn 341 = .ok (.invokevirtual 219, 3) := by decide +kernel
theorem dX12_goOn_344 : decode cX12_goOn 344 = .ok (.invokestatic 226, 3) := by decide +kernel
theorem dX12_goOn_347 : decode cX12_goOn 347 = .ok (.ifCond .eq 7, 3) := by decide +kernel
theorem dX12_goOn_350 : decode cX12_goOn 350 = .ok (.iconst 1, 1) := by decide +kernel
theorem dX12_goOn_351 : decode cX12_goOn 351 = .ok (.goto 4, 3) := by decide +kernel
theorem dX12_goOn_354 : decode cX12_goOn 354 = .ok (.iconst 4, 1) := by decide +kernel
theorem dX12_goOn_355 : decode cX12_goOn 355 = .ok (.putfield 223, 3) := by decide +kernel
theorem dX12_goOn_358 : decode cX12_goOn 358 = .ok (.goto 19, 3) := by decide +kernel
theorem dX12_goOn_361 : decode cX12_goOn 361 = .ok (.aload_n 0, 1) := by decide +kernel
theorem dX12_goOn_362 : decode cX12_goOn 362 = .ok (.iload_n 1, 1) := by decide +kernel
theorem dX12_goOn_363 : decode cX12_goOn 363 = .ok (.invokestatic 244, 3) := by decide +kernel
theorem dX12_goOn_366 : decode cX12_goOn 366 = .ok (.ifCond .eq 7, 3) := by decide +kernel
theorem dX12_goOn_369 : decode cX12_goOn 369 = .ok (.iconst 5, 1) := by decide +kernel
theorem dX12_goOn_370 : decode cX12_goOn 370 = .ok (.goto 4, 3) := by decide +kernel
theorem dX12_goOn_373 : decode cX12_goOn 373 = .ok (.iconst 1, 1) := by decide +kernel
theorem dX12_goOn_374 : decode cX12_goOn 374 = .ok (.putfield 223, 3) := by decide +kernel
theorem dX12_goOn_377 : decode cX12_goOn 377 = .ok (.return_, 1) := by decide +kernel
theorem dX12_hand_0 : decode cX12_hand 0 = .ok (.aload_n 0, 1) := by decide +kernel
theorem dX12_hand_1 : decode cX12_hand 1 = .ok (.invokevirtual 600, 3) := by decide +kernel
theorem dX12_hand_4 : decode cX12_hand 4 = .ok (.aload_n 0, 1) := by decide +kernel
theorem dX12_hand_5 : decode cX12_hand 5 = .ok (.iload_n 1, 1) := by decide +kernel
theorem dX12_hand_6 : decode cX12_hand 6 = .ok (.invokevirtual 465, 3) := by decide +kernel
theorem dX12_hand_9 : decode cX12_hand 9 = .ok (.istore_n 3, 1) := by decide +kernel
theorem dX12_hand_10 : decode cX12_hand 10 = .ok (.aload_n 0, 1) := by decide +kernel
theorem dX12_hand_11 : decode cX12_hand 11 = .ok (.getfield 118, 3) := by decide +kernel
theorem dX12_hand_14 : decode cX12_hand 14 = .ok (.bipush 48, 2) := by decide +kernel
theorem dX12_hand_16 : decode cX12_hand 16 = .ok (.iload_n 1, 1) := by decide +kernel
theorem dX12_hand_17 : decode cX12_hand 17 = .ok (.iadd, 1) := by decide +kernel
theorem dX12_hand_18 : decode cX12_hand 18 = .ok (.iload_n 2, 1) := by decide +kernel
theorem dX12_hand_19 : decode cX12_hand 19 = .ok (.iastore, 1) := by decide +kernel
theorem dX12_hand_20 : decode cX12_hand 20 = .ok (.iload_n 3, 1) := by decide +kernel
theorem dX12_hand_21 : decode cX12_hand 21 = .ok (.ireturn, 1) := by decide +kernel
theorem dX12_hang_0 : decode cX12_hang 0 = .ok (.aload_n 0, 1) := by decide +kernel
theorem dX12_hang_1 : decode cX12_hang 1 = .ok (.iload_n 1, 1) := by decide +kernel
theorem dX12_hang_2 : decode cX12_hang 2 = .ok (.invokevirtual 462, 3) := by decide +kernel
theorem dX12_hang_5 : decode cX12_hang 5 = .ok (.ifCond .eq 20, 3) := by decide +kernel
theorem dX12_hang_8 : decode cX12_hang 8 = .ok (.aload_n 0, 1) := by decide +kernel
theorem dX12_hang_9 : decode cX12_hang 9 = .ok (.iload_n 1, 1) := by decide +kernel
theorem dX12_hang_10 : decode cX12_hang 10 = .ok (.invokevirtual 465, 3) := by decide +kernel
theorem dX12_hang_13 : decode cX12_hang 13 = .ok (.ifCond .lt 12, 3) := by decide +kernel
theorem dX12_hang_16 : decode cX12_hang 16 = .ok (.aload_n 0, 1) := by decide +kernel
theorem dX12_hang_17 : decode cX12_hang 17 = .ok (.iload_n 1, 1) := by decide +kernel
theorem dX12_hang_18 : decode cX12_hang 18 = .ok (.iconst (-1), 1) := by decide +kernel
theorem dX12_hang_19 : decode cX12_hang 19 = .ok (.invokevirtual 603, 3) := by decide +kernel
theorem dX12_hang_22 : decode cX12_hang 22 = .ok (.goto 5, 3) := by decide +kernel
theorem dX12_hang_25 : decode cX12_hang 25 = .ok (.bipush (-3), 2) := by decide +kernel
theorem dX12_hang_27 : decode cX12_hang 27 = .ok (.ireturn, 1) := by decide +kernel
theorem dX12_haunted_0 : decode cX12_haunted 0 = .ok (.iconst (-1), 1) := by decide +kernel
theorem dX12_haunted_1 : decode cX12_haunted 1 = .ok (.istore_n 1, 1) := by decide +kernel
theorem dX12_haunted_2 : decode cX12_haunted 2 = .ok (.iconst (-1), 1) := by decide +kernel
theorem dX12_haunted_3 : decode cX12_haunted 3 = .ok (.istore_n 2, 1) := by decide +kernel
theorem dX12_haunted_4 : decode cX12_haunted 4 = .ok (.iconst 0, 1) := by decide +kernel
theorem dX12_haunted_5 : decode cX12_haunted 5 = .ok (.istore_n 3, 1) := by decide +kernel
theorem dX12_haunted_6 : decode cX12_haunted 6 = .ok (.iload_n 3, 1) := by decide +kernel
theorem dX12_haunted_7 : decode cX12_haunted 7 = .ok (.aload_n 0, 1) := by decide +kernel
theorem dX12_haunted_8 : decode cX12_haunted 8 = .ok (.invokevirtual 411, 3) := by decide +kernel
theorem dX12_haunted_11 : decode cX12_haunted 11 = .ok (.if_icmp .ge 30, 3) := by decide +kernel
theorem dX12_haunted_14 : decode cX12_haunted 14 = .ok (.aload_n 0, 1) := by decide +kernel
theorem dX12_haunted_15 : decode cX12_haunted 15 = .ok (.iload_n 3, 1) := by decide +kernel
theorem dX12_haunted_16 : decode cX12_haunted 16 = .ok (.invokevirtual 513, 3) := by decide +kernel
theorem dX12_haunted_19 : decode cX12_haunted 19 = .ok (.istore 4, 2) := by decide +kernel
theorem dX12_haunted_21 : decode cX12_haunted 21 = .ok (.iload 4, 2) := by decide +kernel
theorem dX12_haunted_23 : decode cX12_haunted 23 = .ok (.iload_n 2, 1) := by decide +kernel
theorem dX12_haunted_24 : decode cX12_haunted 24 = .ok (.if_icmp .gt 6, 3) := by decide +kernel
theorem dX12_haunted_27 : decode cX12_haunted 27 = .ok (.goto 8, 3) := by decide +kernel
theorem dX12_haunted_30 : decode cX12_haunted 30 = .ok (.iload_n 3, 1) := by decide +kernel
theorem dX12_haunted_31 : decode cX12_haunted 31 = .ok (.istore_n 1, 1) := by decide +kernel
theorem dX12_haunted_32 : decode cX12_haunted 32 = .ok (.iload 4, 2) := by decide +kernel
theorem dX12_haunted_34 : decode cX12_haunted 34 = .ok (.istore_n 2, 1) := by decide +kernel
theorem dX12_haunted_35 : decode cX12_haunted 35 = .ok (.iinc 3 1, 3) := by decide +kernel
theorem dX12_haunted_38 : decode cX12_haunted 38 = .ok (.goto (-32), 3) := by decide +kernel
theorem dX12_haunted_41 : decode cX12_haunted 41 = .ok (.iload_n 1, 1) := by decide +kernel
theorem dX12_haunted_42 : decode cX12_haunted 42 = .ok (.ireturn, 1) := by decide +kernel
theorem dX12_held_0 : decode cX12_held 0 = .ok (.iload_n 0, 1) := by decide +kernel
theorem dX12_held_1 : decode cX12_held 1 = .ok (.iload_n 1, 1) := by decide +kernel
theorem dX12_held_2 : decode cX12_held 2 = .ok (.if_icmp .ge 7, 3) := by decide +kernel
theorem dX12_held_5 : decode cX12_held 5 = .ok (.iload_n 1, 1) := by decide +kernel
theorem dX12_held_6 : decode cX12_held 6 = .ok (.goto 13, 3) := by decide +kernel
theorem dX12_held_9 : decode cX12_held 9 = .ok (.iload_n 0, 1) := by decide +kernel
theorem dX12_held_10 : decode cX12_held 10 = .ok (.iload_n 2, 1) := by decide +kernel
theorem dX12_held_11 : decode cX12_held 11 = .ok (.if_icmp .le 7, 3) := by decide +kernel
theorem dX12_held_14 : decode cX12_held 14 = .ok (.iload_n 2, 1) := by decide +kernel
theorem dX12_held_15 : decode cX12_held 15 = .ok (.goto 4, 3) := by decide +kernel
theorem dX12_held_18 : decode cX12_held 18 = .ok (.iload_n 0, 1) := by decide +kernel
theorem dX12_held_19 : decode cX12_held 19 = .ok (.ireturn, 1) := by decide +kernel
theorem dX12_heldSet_0 : decode cX12_heldSet 0 = .ok (.iconst 0, 1) := by decide +kernel
theorem dX12_heldSet_1 : decode cX12_heldSet 1 = .ok (.istore_n 1, 1) := by decide +kernel
theorem dX12_heldSet_2 : decode cX12_heldSet 2 = .ok (.iconst 0, 1) := by decide +kernel
theorem dX12_heldSet_3 : decode cX12_heldSet 3 = .ok (.istore_n 2, 1) := by decide +kernel
theorem dX12_heldSet_4 : decode cX12_heldSet 4 = .ok (.iload_n 2, 1) := by decide +kernel
theorem dX12_heldSet_5 : decode cX12_heldSet 5 = .ok (.aload_n 0, 1) := by decide +kernel
theorem dX12_heldSet_6 : decode cX12_heldSet 6 = .ok (.getfield 30, 3) := by decide +kernel
theorem dX12_heldSet_9 : decode cX12_heldSet 9 = .ok (.aload_n 0, 1) := by decide +kernel
theorem dX12_heldSet_10 : decode cX12_heldSet 10 = .ok (.getfield 265, 3) := by decide +kernel
theorem dX12_heldSet_13 : decode cX12_heldSet 13 = .ok (.iaload, 1) := by decide +kernel
theorem dX12_heldSet_14 : decode cX12_heldSet 14 = .ok (.if_icmp .ge 32, 3) := by decide +kernel
theorem dX12_heldSet_17 : decode cX12_heldSet 17 = .ok (.aload_n 0, 1) := by decide +kernel
theorem dX12_heldSet_18 : decode cX12_heldSet 18 = .ok (.getfield 72, 3) := by decide +kernel
theorem dX12_heldSet_21 : decode cX12_heldSet 21 = .ok (.bipush 8, 2) := by decide +kernel
theorem dX12_heldSet_23 : decode cX12_heldSet 23 = .ok (.aload_n 0, 1) := by decide +kernel
theorem dX12_heldSet_24 : decode cX12_heldSet 24 = .ok (.getfield 265, 3) := by decide +kernel
theorem dX12_heldSet_27 : decode cX12_heldSet 27 = .ok (.imul, 1) := by decide +kernel
theorem dX12_heldSet_28 : decode cX12_heldSet 28 = .ok (.iload_n 2, 1) := by decide +kernel
theorem dX12_heldSet_29 : decode cX12_heldSet 29 = .ok (.iadd, 1) := by decide +kernel
theorem dX12_heldSet_30 : decode cX12_heldSet 30 = .ok (.iaload, 1) := by decide +kernel
theorem dX12_heldSet_31 : decode cX12_heldSet 31 = .ok (.ifCond .lt 9, 3) := by decide +kernel
theorem dX12_heldSet_34 : decode cX12_heldSet 34 = .ok (.iload_n 1, 1) := by decide +kernel
theorem dX12_heldSet_35 : decode cX12_heldSet 35 = .ok (.iconst 1, 1) := by decide +kernel
theorem dX12_heldSet_36 : decode cX12_heldSet 36 = .ok (.iload_n 2, 1) := by decide +kernel
theorem dX12_heldSet_37 : decode cX12_heldSet 37 = .ok (.ishl, 1) := by decide +kernel
theorem dX12_heldSet_38 : decode cX12_heldSet 38 = .ok (.ior, 1) := by decide +kernel
theorem dX12_heldSet_39 : decode cX12_heldSet 39 = .ok (.istore_n 1, 1) := by decide +kernel
theorem dX12_heldSet_40 : decode cX12_heldSet 40 = .ok (.iinc 2 1, 3) := by decide +kernel
theorem dX12_heldSet_43 : decode cX12_heldSet 43 = .ok (.goto (-39), 3) := by decide +kernel
theorem dX12_heldSet_46 : decode cX12_heldSet 46 = .ok (.iload_n 1, 1) := by decide +kernel
theorem dX12_heldSet_47 : decode cX12_heldSet 47 = .ok (.ireturn, 1) := by decide +kernel
theorem dX12_here_0 : decode cX12_here 0 = .ok (.iconst 0, 1) := by decide +kernel
theorem dX12_here_1 : decode cX12_here 1 = .ok (.istore 4, 2) := by decide +kernel
theorem dX12_here_3 : decode cX12_here 3 = .ok (.iload 4, 2) := by decide +kernel
theorem dX12_here_5 : decode cX12_here 5 = .ok (.iload_n 3, 1) := by decide +kernel
theorem dX12_here_6 : decode cX12_here 6 = .ok (.if_icmp .ge 34, 3) := by decide +kernel
theorem dX12_here_9 : decode cX12_here 9 = .ok (.aload_n 0, 1) := by decide +kernel
theorem dX12_here_10 : decode cX12_here 10 = .ok (.getfield 223, 3) := by decide +kernel
theorem dX12_here_13 : decode cX12_here 13 = .ok (.iconst 2, 1) := by decide +kernel
theorem dX12_here_14 : decode cX12_here 14 = .ok (.if_icmp .ne 20, 3) := by decide +kernel
theorem dX12_here_17 : decode cX12_here 17 = .ok (.aload_n 1, 1) := by decide +kernel
theorem dX12_here_18 : decode cX12_here 18 = .ok (.iload_n 2, 1) := by decide +kernel
theorem dX12_here_19 : decode cX12_here 19 = .ok (.iload 4, 2) := by decide +kernel
theorem dX12_here_21 : decode cX12_here 21 = .ok (.iadd, 1) := by decide +kernel
theorem dX12_here_22 : decode cX12_here 22 = .ok (.laload, 1) := by decide +kernel
theorem dX12_here_23 : decode cX12_here 23 = .ok (.aload_n 0, 1) := by decide +kernel
theorem dX12_here_24 : decode cX12_here 24 = .ok (.getfield 230, 3) := by decide +kernel
theorem dX12_here_27 : decode cX12_here 27 = .ok (.lcmp, 1) := by decide +kernel
theorem dX12_here_28 : decode cX12_here 28 = .ok (.ifCond .ne 6, 3) := by decide +kernel
theorem dX12_here_31 : decode cX12_here 31 = .ok (.iload 4, 2) := by decide +kernel
theorem dX12_here_33 : decode cX12_here 33 = .ok (.ireturn, 1) := by decide +kernel
theorem dX12_here_34 : decode cX12_here 34 = .ok (.iinc 4 1, 3) := by decide +kernel
theorem dX12_here_37 : decode cX12_here 37 = .ok (.goto (-34), 3) := by decide +kernel
theorem dX12_here_40 : decode cX12_here 40 = .ok (.iconst (-1), 1) := by decide +kernel
theorem dX12_here_41 : decode cX12_here 41 = .ok (.ireturn, 1) := by decide +kernel
theorem dX12_holderOf_0 : decode cX12_holderOf 0 = .ok (.aload_n 0, 1) := by decide +kernel
theorem dX12_holderOf_1 : decode cX12_holderOf 1 = .ok (.getfield 118, 3) := by decide +kernel
theorem dX12_holderOf_4 : decode cX12_holderOf 4 = .ok (.bipush 48, 2) := by decide +kernel
theorem dX12_holderOf_6 : decode cX12_holderOf 6 = .ok (.iload_n 1, 1) := by decide +kernel
theorem dX12_holderOf_7 : decode cX12_holderOf 7 = .ok (.iadd, 1) := by decide +kernel
theorem dX12_holderOf_8 : decode cX12_holderOf 8 = .ok (.iaload, 1) := by decide +kernel
theorem dX12_holderOf_9 : decode cX12_holderOf 9 = .ok (.ireturn, 1) := by decide +kernel
theorem dX12_idle_0 : decode cX12_idle 0 = .ok (.iload_n 1, 1) := by decide +kernel
theorem dX12_idle_1 : decode cX12_idle 1 = .ok (.ifCond .ne 11, 3) := by decide +kernel
theorem dX12_idle_4 : decode cX12_idle 4 = .ok (.aload_n 0, 1) := by decide +kernel
theorem dX12_idle_5 : decode cX12_idle 5 = .ok (.iconst (-1), 1) := by decide +kernel
theorem dX12_idle_6 : decode cX12_idle 6 = .ok (.invokevirtual 538, 3) := by decide +kernel
theorem dX12_idle_9 : decode cX12_idle 9 = .ok (.goto 18, 3) := by decide +kernel
theorem dX12_idle_12 : decode cX12_idle 12 = .ok (.iload_n 1, 1) := by decide +kernel
theorem dX12_idle_13 : decode cX12_idle 13 = .ok (.iconst 1, 1) := by decide +kernel
theorem dX12_idle_14 : decode cX12_idle 14 = .ok (.if_icmp .ne 12, 3) := by decide +kernel
theorem dX12_idle_17 : decode cX12_idle 17 = .ok (.aload_n 0, 1) := by decide +kernel
theorem dX12_idle_18 : decode cX12_idle 18 = .ok (.bipush (-2), 2) := by decide +kernel
theorem dX12_idle_20 : decode cX12_idle 20 = .ok (.invokevirtual 538, 3) := by decide +kernel
theorem dX12_idle_23 : decode cX12_idle 23 = .ok (.goto 4, 3) := by decide +kernel
theorem dX12_idle_26 : decode cX12_idle 26 = .ok (.iconst (-1), 1) := by decide +kernel
theorem dX12_idle_27 : decode cX12_idle 27 = .ok (.ireturn, 1) := by decide +kernel
theorem dX12_image_0 : decode cX12_image 0 = .ok (.iload_n 1, 1) := by decide +kernel
theorem dX12_image_1 : decode cX12_image 1 = .ok (.iconst 0, 1) := by decide +kernel
theorem dX12_image_2 : decode cX12_image 2 = .ok (.iconst 2, 1) := by decide +kernel
theorem dX12_image_3 : decode cX12_image 3 = .ok (.invokestatic 407, 3) := by decide +kernel
theorem dX12_image_6 : decode cX12_image 6 = .ok (.ifCond .ne 5, 3) := by decide +kernel
theorem dX12_image_9 : decode cX12_image 9 = .ok (.iconst (-1), 1) := by decide +kernel
theorem dX12_image_10 : decode cX12_image 10 = .ok (.ireturn, 1) := by decide +kernel
theorem dX12_image_11 : decode cX12_image 11 = .ok (.iconst 0, 1) := by decide +kernel
theorem dX12_image_12 : decode cX12_image 12 = .ok (.istore_n 2, 1) := by decide +kernel
theorem dX12_image_13 : decode cX12_image 13 = .ok (.iload_n 2, 1) := by decide +kernel
theorem dX12_image_14 : decode cX12_image 14 = .ok (.bipush 91, 2) := by decide +kernel
theorem dX12_image_16 : decode cX12_image 16 = .ok (.if_icmp .ge 26, 3) := by decide +kernel
theorem dX12_image_19 : decode cX12_image 19 = .ok (.aload_n 0, 1) := by decide +kernel
theorem dX12_image_20 : decode cX12_image 20 = .ok (.getfield 148, 3) := by decide +kernel
theorem dX12_image_23 : decode cX12_image 23 = .ok (.bipush 91, 2) := by decide +kernel
theorem dX12_image_25 : decode cX12_image 25 = .ok (.iload_n 1, 1) := by decide +kernel
theorem dX12_image_26 : decode cX12_image 26 = .ok (.imul, 1) := by decide +kernel
theorem dX12_image_27 : decode cX12_image 27 = .ok (.iload_n 2, 1) := by decide +kernel
theorem dX12_image_28 : decode cX12_image 28 = .ok (.iadd, 1) := by decide +kernel
theorem dX12_image_29 : decode cX12_image 29 = .ok (.aload_n 0, 1) := by decide +kernel
theorem dX12_image_30 : decode cX12_image 30 = .ok (.getfield 118, 3) := by decide +kernel
theorem dX12_image_33 : decode cX12_image 33 = .ok (.iload_n 2, 1) := by decide +kernel
theorem dX12_image_34 : decode cX12_image 34 = .ok (.iaload, 1) := by decide +kernel
theorem dX12_image_35 : decode cX12_image 35 = .ok (.iastore, 1) := by decide +kernel
theorem dX12_image_36 : decode cX12_image 36 = .ok (.iinc 2 1, 3) := by decide +kernel
theorem dX12_image_39 : decode cX12_image 39 = .ok (.goto (-26), 3) := by decide +kernel
theorem dX12_image_42 : decode cX12_image 42 = .ok (.aload_n 0, 1) := by decide +kernel
theorem dX12_image_43 : decode cX12_image 43 = .ok (.getfield 151, 3) := by decide +kernel
theorem dX12_image_46 : decode cX12_image 46 = .ok (.iload_n 1, 1) := by decide +kernel
theorem dX12_image_47 : decode cX12_image 47 = .ok (.iconst 1, 1) := by decide +kernel
theorem dX12_image_48 : decode cX12_image 48 = .ok (.bastore, 1) := by decide +kernel
theorem dX12_image_49 : decode cX12_image 49 = .ok (.aload_n 0, 1) := by decide +kernel
theorem dX12_image_50 : decode cX12_image 50 = .ok (.bipush (-2), 2) := by decide +kernel
theorem dX12_image_52 : decode cX12_image 52 = .ok (.invokevirtual 538, 3) := by decide +kernel
theorem dX12_image_55 : decode cX12_image 55 = .ok (.invokestatic 471, 3) := by decide +kernel
theorem dX12_image_58 : decode cX12_image 58 = .ok (.ireturn, 1) := by decide +kernel
theorem dX12_init_0 : decode cX12_init 0 = .ok (.aload_n 0, 1) := by decide +kernel
theorem dX12_init_1 : decode cX12_init 1 = .ok (.invokespecial 1, 3) := by decide +kernel
theorem dX12_init_4 : decode cX12_init 4 = .ok (.aload_n 0, 1) := by decide +kernel
theorem dX12_init_5 : decode cX12_init 5 = .ok (.sipush 1620, 3) := by decide +kernel
theorem dX12_init_8 : decode cX12_init 8 = .ok (.newarray .byte, 2) := by decide +kernel
theorem dX12_init_10 : decode cX12_init 10 = .ok (.putfield 7, 3) := by decide +kernel
theorem dX12_init_13 : decode cX12_init 13 = .ok (.aload_n 0, 1) := by decide +kernel
theorem dX12_init_14 : decode cX12_init 14 = .ok (.sipush 1600, 3) := by decide +kernel
theorem dX12_init_17 : decode cX12_init 17 = .ok (.newarray .byte, 2) := by decide +kernel
theorem dX12_init_19 : decode cX12_init 19 = .ok (.putfield 13, 3) := by decide +kernel
theorem dX12_init_22 : decode cX12_init 22 = .ok (.aload_n 0, 1) := by decide +kernel
theorem dX12_init_23 : decode cX12_init 23 = .ok (.iconst (-1), 1) := by decide +kernel
theorem dX12_init_24 : decode cX12_init 24 = .ok (.putfield 16, 3) := by decide +kernel
theorem dX12_init_27 : decode cX12_init 27 = .ok (.aload_n 0, 1) := by decide +kernel
theorem dX12_init_28 : decode cX12_init 28 = .ok (.iconst 2, 1) := by decide +kernel
theorem dX12_init_29 : decode cX12_init 29 = .ok (.newarray .int, 2) := by decide +kernel
theorem dX12_init_31 : decode cX12_init 31 = .ok (.putfield 20, 3) := by decide +kernel
theorem dX12_init_34 : decode cX12_init 34 = .ok (.aload_n 0, 1) := by decide +kernel
theorem dX12_init_35 : decode cX12_init 35 = .ok (.iconst 2, 1) := by decide +kernel
theorem dX12_init_36 : decode cX12_init 36 = .ok (.newarray .int, 2) := by decide +kernel
theorem dX12_init_38 : decode cX12_init 38 = .ok (.putfield 24, 3) := by decide +kernel
theorem dX12_init_41 : decode cX12_init 41 = .ok (.aload_n 0, 1) := by decide +kernel
theorem dX12_init_42 : decode cX12_init 42 = .ok (.iconst 2, 1) := by decide +kernel
theorem dX12_init_43 : decode cX12_init 43 = .ok (.newarray .int, 2) := by decide +kernel
theorem dX12_init_45 : decode cX12_init 45 = .ok (.putfield 27, 3) := by decide +kernel
theorem dX12_init_48 : decode cX12_init 48 = .ok (.aload_n 0, 1) := by decide +kernel
theorem dX12_init_49 : decode cX12_init 49 = .ok (.iconst 2, 1) := by decide +kernel
theorem dX12_init_50 : decode cX12_init 50 = .ok (.newarray .int, 2) := by decide +kernel
theorem dX12_init_52 : decode cX12_init 52 = .ok (.putfield 30, 3) := by decide +kernel
theorem dX12_init_55 : decode cX12_init 55 = .ok (.aload_n 0, 1) := by decide +kernel
theorem dX12_init_56 : decode cX12_init 56 = .ok (.iconst 2, 1) := by decide +kernel
theorem dX12_init_57 : decode cX12_init 57 = .ok (.newarray .int, 2) := by decide +kernel
theorem dX12_init_59 : decode cX12_init 59 = .ok (.putfield 33, 3) := by decide +kernel
theorem dX12_init_62 : decode cX12_init 62 = .ok (.aload_n 0, 1) := by decide +kernel
theorem dX12_init_63 : decode cX12_init 63 = .ok (.iconst 2, 1) := by decide +kernel
theorem dX12_init_64 : decode cX12_init 64 = .ok (.newarray .int, 2) := by decide +kernel
theorem dX12_init_66 : decode cX12_init 66 = .ok (.putfield 36, 3) := by decide +kernel
theorem dX12_init_69 : decode cX12_init 69 = .ok (.aload_n 0, 1) := by decide +kernel
theorem dX12_init_70 : decode cX12_init 70 = .ok (.iconst 2, 1) := by decide +kernel
theorem dX12_init_71 : decode cX12_init 71 = .ok (.newarray .int, 2) := by decide +kernel
theorem dX12_init_73 : decode cX12_init 73 = .ok (.putfield 39, 3) := by decide +kernel
theorem dX12_init_76 : decode cX12_init 76 = .ok (.aload_n 0, 1) := by decide +kernel
theorem dX12_init_77 : decode cX12_init 77 = .ok (.iconst 2, 1) := by decide +kernel
theorem dX12_init_78 : decode cX12_init 78 = .ok (.newarray .int, 2) := by decide +kernel
theorem dX12_init_80 : decode cX12_init 80 = .ok (.putfield 42, 3) := by decide +kernel
theorem dX12_init_83 : decode cX12_init 83 = .ok (.aload_n 0, 1) := by decide +kernel
theorem dX12_init_84 : decode cX12_init 84 = .ok (.iconst 2, 1) := by decide +kernel
theorem dX12_init_85 : decode cX12_init 85 = .ok (.newarray .int, 2) := by decide +kernel
theorem dX12_init_87 : decode cX12_init 87 = .ok (.putfield 45, 3) := by decide +kernel
theorem dX12_init_90 : decode cX12_init 90 = .ok (.aload_n 0, 1) := by decide +kernel
theorem dX12_init_91 : decode cX12_init 91 = .ok (.iconst 2, 1) := by decide +kernel
theorem dX12_init_92 : decode cX12_init 92 = .ok (.newarray .int, 2) := by decide +kernel
theorem dX12_init_94 : decode cX12_init 94 = .ok (.putfield 48, 3) := by decide +kernel
theorem dX12_init_97 : decode cX12_init 97 = .ok (.aload_n 0, 1) := by decide +kernel
theorem dX12_init_98 : decode cX12_init 98 = .ok (.iconst 2, 1) := by decide +kernel
theorem dX12_init_99 : decode cX12_init 99 = .ok (.newarray .int, 2) := by decide +kernel
theorem dX12_init_101 : decode cX12_init 101 = .ok (.putfield 51, 3) := by decide +kernel
theorem dX12_init_104 : decode cX12_init 104 = .ok (.aload_n 0, 1) := by decide +kernel
theorem dX12_init_105 : decode cX12_init 105 = .ok (.bipush 80, 2) := by decide +kernel
theorem dX12_init_107 : decode cX12_init 107 = .ok (.newarray .int, 2) := by decide +kernel
theorem dX12_init_109 : decode cX12_init 109 = .ok (.putfield 54, 3) := by decide +kernel
theorem dX12_init_112 : decode cX12_init 112 = .ok (.aload_n 0, 1) := by decide +kernel
theorem dX12_init_113 : decode cX12_init 113 = .ok (.bipush 60, 2) := by decide +kernel
theorem dX12_init_115 : decode cX12_init 115 = .ok (.newarray .int, 2) := by decide +kernel
theorem dX12_init_117 : decode cX12_init 117 = .ok (.putfield 57, 3) := by decide +kernel
theorem dX12_init_120 : decode cX12_init 120 = .ok (.aload_n 0, 1) := by decide +kernel
theorem dX12_init_121 : decode cX12_init 121 = .ok (.bipush 16, 2) := by decide +kernel
theorem dX12_init_123 : decode cX12_init 123 = .ok (.newarray .int, 2) := by decide +kernel
theorem dX12_init_125 : decode cX12_init 125 = .ok (.putfield 60, 3) := by decide +kernel
theorem dX12_init_128 : decode cX12_init 128 = .ok (.aload_n 0, 1) := by decide +kernel
theorem dX12_init_129 : decode cX12_init 129 = .ok (.bipush 16, 2) := by decide +kernel
theorem dX12_init_131 : decode cX12_init 131 = .ok (.newarray .int, 2) := by decide +kernel
theorem dX12_init_133 : decode cX12_init 133 = .ok (.putfield 63, 3) := by decide +kernel
theorem dX12_init_136 : decode cX12_init 136 = .ok (.aload_n 0, 1) := by decide +kernel
theorem dX12_init_137 : decode cX12_init 137 = .ok (.bipush 16, 2) := by decide +kernel
theorem dX12_init_139 : decode cX12_init 139 = .ok (.newarray .int, 2) := by decide +kernel
theorem dX12_init_141 : decode cX12_init 141 = .ok (.putfield 66, 3) := by decide +kernel
theorem dX12_init_144 : decode cX12_init 144 = .ok (.aload_n 0, 1) := by decide +kernel
theorem dX12_init_145 : decode cX12_init 145 = .ok (.bipush 8, 2) := by decide +kernel
theorem dX12_init_147 : decode cX12_init 147 = .ok (.newarray .int, 2) := by decide +kernel
theorem dX12_init_149 : decode cX12_init 149 = .ok (.putfield 69, 3) := by decide +kernel
theorem dX12_init_152 : decode cX12_init 152 = .ok (.aload_n 0, 1) := by decide +kernel
theorem dX12_init_153 : decode cX12_init 153 = .ok (.bipush 16, 2) := by decide +kernel
theorem dX12_init_155 : decode cX12_init 155 = .ok (.newarray .int, 2) := by decide +kernel
theorem dX12_init_157 : decode cX12_init 157 = .ok (.putfield 72, 3) := by decide +kernel
theorem dX12_init_160 : decode cX12_init 160 = .ok (.aload_n 0, 1) := by decide +kernel
theorem dX12_init_161 : decode cX12_init 161 = .ok (.bipush 12, 2) := by decide +kernel
theorem dX12_init_163 : decode cX12_init 163 = .ok (.newarray .int, 2) := by decide +kernel
theorem dX12_init_165 : decode cX12_init 165 = .ok (.putfield 75, 3) := by decide +kernel
theorem dX12_init_168 : decode cX12_init 168 = .ok (.aload_n 0, 1) := by decide +kernel
theorem dX12_init_169 : decode cX12_init 169 = .ok (.bipush 12, 2) := by decide +kernel
theorem dX12_init_171 : decode cX12_init 171 = .ok (.newarray .int, 2) := by decide +kernel
theorem dX12_init_173 : decode cX12_init 173 = .ok (.putfield 78, 3) := by decide +kernel
theorem dX12_init_176 : decode cX12_init 176 = .ok (.aload_n 0, 1) := by decide +kernel
theorem dX12_init_177 : decode cX12_init 177 = .ok (.iconst 2, 1) := by decide +kernel
theorem dX12_init_178 : decode cX12_init 178 = .ok (.newarray .int, 2) := by decide +kernel
theorem dX12_init_180 : decode cX12_init 180 = .ok (.putfield 81, 3) := by decide +kernel
theorem dX12_init_183 : decode cX12_init 183 = .ok (.aload_n 0, 1) := by decide +kernel
theorem dX12_init_184 : decode cX12_init 184 = .ok (.iconst 2, 1) := by decide +kernel
theorem dX12_init_185 : decode cX12_init 185 = .ok (.newarray .int, 2) := by decide +kernel
theorem dX12_init_187 : decode cX12_init 187 = .ok (.putfield 84, 3) := by decide +kernel
theorem dX12_init_190 : decode cX12_init 190 = .ok (.aload_n 0, 1) := by decide +kernel
theorem dX12_init_191 : decode cX12_init 191 = .ok (.bipush 16, 2) := by decide +kernel
theorem dX12_init_193 : decode cX12_init 193 = .ok (.newarray .long, 2) := by decide +kernel
theorem dX12_init_195 : decode cX12_init 195 = .ok (.putfield 87, 3) := by decide +kernel
theorem dX12_init_198 : decode cX12_init 198 = .ok (.aload_n 0, 1) := by decide +kernel
theorem dX12_init_199 : decode cX12_init 199 = .ok (.bipush 12, 2) := by decide +kernel
theorem dX12_init_201 : decode cX12_init 201 = .ok (.newarray .long, 2) := by decide +kernel
theorem dX12_init_203 : decode cX12_init 203 = .ok (.putfield 91, 3) := by decide +kernel
theorem dX12_init_206 : decode cX12_init 206 = .ok (.aload_n 0, 1) := by decide +kernel
theorem dX12_init_207 : decode cX12_init 207 = .ok (.bipush 12, 2) := by decide +kernel
theorem dX12_init_209 : decode cX12_init 209 = .ok (.newarray .long, 2) := by decide +kernel
theorem dX12_init_211 : decode cX12_init 211 = .ok (.putfield 94, 3) := by decide +kernel
theorem dX12_init_214 : decode cX12_init 214 = .ok (.aload_n 0, 1) := by decide +kernel
theorem dX12_init_215 : decode cX12_init 215 = .ok (.bipush 16, 2) := by decide +kernel
theorem dX12_init_217 : decode cX12_init 217 = .ok (.newarray .long, 2) := by decide +kernel
theorem dX12_init_219 : decode cX12_init 219 = .ok (.putfield 97, 3) := by decide +kernel
theorem dX12_init_222 : decode cX12_init 222 = .ok (.aload_n 0, 1) := by decide +kernel
theorem dX12_init_223 : decode cX12_init 223 = .ok (.bipush 8, 2) := by decide +kernel
theorem dX12_init_225 : decode cX12_init 225 = .ok (.newarray .long, 2) := by decide +kernel
theorem dX12_init_227 : decode cX12_init 227 = .ok (.putfield 100, 3) := by decide +kernel
theorem dX12_init_230 : decode cX12_init 230 = .ok (.aload_n 0, 1) := by decide +kernel
theorem dX12_init_231 : decode cX12_init 231 = .ok (.sipush 1120, 3) := by decide +kernel
theorem dX12_init_234 : decode cX12_init 234 = .ok (.newarray .int, 2) := by decide +kernel
theorem dX12_init_236 : decode cX12_init 236 = .ok (.putfield 103, 3) := by decide +kernel
theorem dX12_init_239 : decode cX12_init 239 = .ok (.aload_n 0, 1) := by decide +kernel
theorem dX12_init_240 : decode cX12_init 240 = .ok (.sipush 1120, 3) := by decide +kernel
theorem dX12_init_243 : decode cX12_init 243 = .ok (.newarray .int, 2) := by decide +kernel
theorem dX12_init_245 : decode cX12_init 245 = .ok (.putfield 106, 3) := by decide +kernel
theorem dX12_init_248 : decode cX12_init 248 = .ok (.aload_n 0, 1) := by decide +kernel
theorem dX12_init_249 : decode cX12_init 249 = .ok (.bipush 90, 2) := by decide +kernel
theorem dX12_init_251 : decode cX12_init 251 = .ok (.newarray .int, 2) := by decide +kernel
theorem dX12_init_253 : decode cX12_init 253 = .ok (.putfield 109, 3) := by decide +kernel
theorem dX12_init_256 : decode cX12_init 256 = .ok (.aload_n 0, 1) := by decide +kernel
theorem dX12_init_257 : decode cX12_init 257 = .ok (.bipush 90, 2) := by decide +kernel
theorem dX12_init_259 : decode cX12_init 259 = .ok (.newarray .int, 2) := by decide +kernel
theorem dX12_init_261 : decode cX12_init 261 = .ok (.putfield 112, 3) := by decide +kernel
theorem dX12_init_264 : decode cX12_init 264 = .ok (.aload_n 0, 1) := by decide +kernel
theorem dX12_init_265 : decode cX12_init 265 = .ok (.bipush 60, 2) := by decide +kernel
theorem dX12_init_267 : decode cX12_init 267 = .ok (.newarray .int, 2) := by decide +kernel
theorem dX12_init_269 : decode cX12_init 269 = .ok (.putfield 115, 3) := by decide +kernel
theorem dX12_init_272 : decode cX12_init 272 = .ok (.aload_n 0, 1) := by decide +kernel
theorem dX12_init_273 : decode cX12_init 273 = .ok (.bipush 91, 2) := by decide +kernel
theorem dX12_init_275 : decode cX12_init 275 = .ok (.newarray .int, 2) := by decide +kernel
theorem dX12_init_277 : decode cX12_init 277 = .ok (.putfield 118, 3) := by decide +kernel
theorem dX12_init_280 : decode cX12_init 280 = .ok (.aload_n 0, 1) := by decide +kernel
theorem dX12_init_281 : decode cX12_init 281 = .ok (.bipush 91, 2) := by decide +kernel
theorem dX12_init_283 : decode cX12_init 283 = .ok (.newarray .int, 2) := by decide +kernel
theorem dX12_init_285 : decode cX12_init 285 = .ok (.putfield 121, 3) := by decide +kernel
theorem dX12_init_288 : decode cX12_init 288 = .ok (.aload_n 0, 1) := by decide +kernel
theorem dX12_init_289 : decode cX12_init 289 = .ok (.bipush 60, 2) := by decide +kernel
theorem dX12_init_291 : decode cX12_init 291 = .ok (.newarray .int, 2) := by decide +kernel
theorem dX12_init_293 : decode cX12_init 293 = .ok (.putfield 124, 3) := by decide +kernel
theorem dX12_init_296 : decode cX12_init 296 = .ok (.aload_n 0, 1) := by decide +kernel
theorem dX12_init_297 : decode cX12_init 297 = .ok (.bipush 6, 2) := by decide +kernel
theorem dX12_init_299 : decode cX12_init 299 = .ok (.newarray .int, 2) := by decide +kernel
theorem dX12_init_301 : decode cX12_init 301 = .ok (.putfield 127, 3) := by decide +kernel
theorem dX12_init_304 : decode cX12_init 304 = .ok (.aload_n 0, 1) := by decide +kernel
theorem dX12_init_305 : decode cX12_init 305 = .ok (.iconst 4, 1) := by decide +kernel
theorem dX12_init_306 : decode cX12_init 306 = .ok (.newarray .int, 2) := by decide +kernel
theorem dX12_init_308 : decode cX12_init 308 = .ok (.putfield 130, 3) := by decide +kernel
theorem dX12_init_311 : decode cX12_init 311 = .ok (.aload_n 0, 1) := by decide +kernel
theorem dX12_init_312 : decode cX12_init 312 = .ok (.sipush 3731, 3) := by decide +kernel
theorem dX12_init_315 : decode cX12_init 315 = .ok (.newarray .int, 2) := by decide +kernel
theorem dX12_init_317 : decode cX12_init 317 = .ok (.putfield 133, 3) := by decide +kernel
theorem dX12_init_320 : decode cX12_init 320 = .ok (.aload_n 0, 1) := by decide +kernel
theorem dX12_init_321 : decode cX12_init 321 = .ok (.bipush 30, 2) := by decide +kernel
theorem dX12_init_323 : decode cX12_init 323 = .ok (.newarray .int, 2) := by decide +kernel
theorem dX12_init_325 : decode cX12_init 325 = .ok (.putfield 136, 3) := by decide +kernel
theorem dX12_init_328 : decode cX12_init 328 = .ok (.aload_n 0, 1) := by decide +kernel
theorem dX12_init_329 : decode cX12_init 329 = .ok (.bipush 30, 2) := by decide +kernel
theorem dX12_init_331 : decode cX12_init 331 = .ok (.newarray .int, 2) := by decide +kernel
theorem dX12_init_333 : decode cX12_init 333 = .ok (.putfield 139, 3) := by decide +kernel
theorem dX12_init_336 : decode cX12_init 336 = .ok (.aload_n 0, 1) := by decide +kernel
theorem dX12_init_337 : decode cX12_init 337 = .ok (.bipush 30, 2) := by decide +kernel
theorem dX12_init_339 : decode cX12_init 339 = .ok (.newarray .int, 2) := by decide +kernel
theorem dX12_init_341 : decode cX12_init 341 = .ok (.putfield 142, 3) := by decide +kernel
theorem dX12_init_344 : decode cX12_init 344 = .ok (.aload_n 0, 1) := by decide +kernel
theorem dX12_init_345 : decode cX12_init 345 = .ok (.bipush 30, 2) := by decide +kernel
theorem dX12_init_347 : decode cX12_init 347 = .ok (.newarray .int, 2) := by decide +kernel
theorem dX12_init_349 : decode cX12_init 349 = .ok (.putfield 145, 3) := by decide +kernel
theorem dX12_init_352 : decode cX12_init 352 = .ok (.aload_n 0, 1) := by decide +kernel
theorem dX12_init_353 : decode cX12_init 353 = .ok (.sipush 273, 3) := by decide +kernel
theorem dX12_init_356 : decode cX12_init 356 = .ok (.newarray .int, 2) := by decide +kernel
theorem dX12_init_358 : decode cX12_init 358 = .ok (.putfield 148, 3) := by decide +kernel
theorem dX12_init_361 : decode cX12_init 361 = .ok (.aload_n 0, 1) := by decide +kernel
theorem dX12_init_362 : decode cX12_init 362 = .ok (.iconst 3, 1) := by decide +kernel
theorem dX12_init_363 : decode cX12_init 363 = .ok (.newarray .boolean, 2) := by decide +kernel
theorem dX12_init_365 : decode cX12_init 365 = .ok (.putfield 151, 3) := by decide +kernel
theorem dX12_init_368 : decode cX12_init 368 = .ok (.aload_n 0, 1) := by decide +kernel
theorem dX12_init_369 : decode cX12_init 369 = .ok (.invokevirtual 155, 3) := by decide +kernel
theorem dX12_init_372 : decode cX12_init 372 = .ok (.aload_n 0, 1) := by decide +kernel
theorem dX12_init_373 : decode cX12_init 373 = .ok (.invokevirtual 158, 3) := by decide +kernel
theorem dX12_init_376 : decode cX12_init 376 = .ok (.return_, 1) := by decide +kernel
theorem dX12_isApart_0 : decode cX12_isApart 0 = .ok (.iconst 0, 1) := by decide +kernel
theorem dX12_isApart_1 : decode cX12_isApart 1 = .ok (.istore_n 3, 1) := by decide +kernel
theorem dX12_isApart_2 : decode cX12_isApart 2 = .ok (.iload_n 1, 1) := by decide +kernel
theorem dX12_isApart_3 : decode cX12_isApart 3 = .ok (.istore 4, 2) := by decide +kernel
theorem dX12_isApart_5 : decode cX12_isApart 5 = .ok (.iload_n 2, 1) := by decide +kernel
theorem dX12_isApart_6 : decode cX12_isApart 6 = .ok (.istore 5, 2) := by decide +kernel
theorem dX12_isApart_8 : decode cX12_isApart 8 = .ok (.iconst 0, 1) := by decide +kernel
theorem dX12_isApart_9 : decode cX12_isApart 9 = .ok (.istore 6, 2) := by decide +kernel
theorem dX12_isApart_11 : decode cX12_isApart 11 = .ok (.iload 6, 2) := by decide +kernel
theorem dX12_isApart_13 : decode cX12_isApart 13 = .ok (.aload_n 0, 1) := by decide +kernel
theorem dX12_isApart_14 : decode cX12_isApart 14 = .ok (.invokevirtual 414, 3) := by decide +kernel
theorem dX12_isApart_17 : decode cX12_isApart 17 = .ok (.if_icmp .ge 52, 3) := by decide +kernel
theorem dX12_isApart_20 : decode cX12_isApart 20 = .ok (.iload_n 3, 1) := by decide +kernel
theorem dX12_isApart_21 : decode cX12_isApart 21 = .ok (.iload 4, 2) := by decide +kernel
theorem dX12_isApart_23 : decode cX12_isApart 23 = .ok (.aload_n 0, 1) := by decide +kernel
theorem dX12_isApart_24 : decode cX12_isApart 24 = .ok (.invokevirtual 429, 3) := by decide +kernel
theorem dX12_isApart_27 : decode cX12_isApart 27 = .ok (.irem, 1) := by decide +kernel
theorem dX12_isApart_28 : decode cX12_isApart 28 = .ok (.iload 5, 2) := by decide +kernel
theorem dX12_isApart_30 : decode cX12_isApart 30 = .ok (.aload_n 0, 1) := by decide +kernel
theorem dX12_isApart_31 : decode cX12_isApart 31 = .ok (.invokevirtual 429, 3) := by decide +kernel
theorem dX12_isApart_34 : decode cX12_isApart 34 = .ok (.irem, 1) := by decide +kernel
theorem dX12_isApart_35 : decode cX12_isApart 35 = .ok (.if_icmp .ne 7, 3) := by decide +kernel
theorem dX12_isApart_38 : decode cX12_isApart 38 = .ok (.iconst 0, 1) := by decide +kernel
theorem dX12_isApart_39 : decode cX12_isApart 39 = .ok (.goto 4, 3) := by decide +kernel
theorem dX12_isApart_42 : decode cX12_isApart 42 = .ok (.iconst 1, 1) := by decide +kernel
theorem dX12_isApart_43 : decode cX12_isApart 43 = .ok (.iadd, 1) := by decide +kernel
theorem dX12_isApart_44 : decode cX12_isApart 44 = .ok (.istore_n 3, 1) := by decide +kernel
theorem dX12_isApart_45 : decode cX12_isApart 45 = .ok (.iload 4, 2) := by decide +kernel
theorem dX12_isApart_47 : decode cX12_isApart 47 = .ok (.aload_n 0, 1) := by decide +kernel
theorem dX12_isApart_48 : decode cX12_isApart 48 = .ok (.invokevirtual 429, 3) := by decide +kernel
theorem dX12_isApart_51 : decode cX12_isApart 51 = .ok (.idiv, 1) := by decide +kernel
theorem dX12_isApart_52 : decode cX12_isApart 52 = .ok (.istore 4, 2) := by decide +kernel
theorem dX12_isApart_54 : decode cX12_isApart 54 = .ok (.iload 5, 2) := by decide +kernel
theorem dX12_isApart_56 : decode cX12_isApart 56 = .ok (.aload_n 0, 1) := by decide +kernel
theorem dX12_isApart_57 : decode cX12_isApart 57 = .ok (.invokevirtual 429, 3) := by decide +kernel
theorem dX12_isApart_60 : decode cX12_isApart 60 = .ok (.idiv, 1) := by decide +kernel
theorem dX12_isApart_61 : decode cX12_isApart 61 = .ok (.istore 5, 2) := by decide +kernel
theorem dX12_isApart_63 : decode cX12_isApart 63 = .ok (.iinc 6 1, 3) := by decide +kernel
theorem dX12_isApart_66 : decode cX12_isApart 66 = .ok (.goto (-55), 3) := by decide +kernel
theorem dX12_isApart_69 : decode cX12_isApart 69 = .ok (.iload_n 3, 1) := by decide +kernel
theorem dX12_isApart_70 : decode cX12_isApart 70 = .ok (.iconst 1, 1) := by decide +kernel
theorem dX12_isApart_71 : decode cX12_isApart 71 = .ok (.if_icmp .le 7, 3) := by decide +kernel
theorem dX12_isApart_74 : decode cX12_isApart 74 = .ok (.iconst 1, 1) := by decide +kernel
theorem dX12_isApart_75 : decode cX12_isApart 75 = .ok (.goto 4, 3) := by decide +kernel
theorem dX12_isApart_78 : decode cX12_isApart 78 = .ok (.iconst 0, 1) := by decide +kernel
theorem dX12_isApart_79 : decode cX12_isApart 79 = .ok (.ireturn, 1) := by decide +kernel
theorem dX12_isBroken_0 : decode cX12_isBroken 0 = .ok (.aload_n 0, 1) := by decide +kernel
theorem dX12_isBroken_1 : decode cX12_isBroken 1 = .ok (.iload_n 2, 1) := by decide +kernel
theorem dX12_isBroken_2 : decode cX12_isBroken 2 = .ok (.invokevirtual 486, 3) := by decide +kernel
theorem dX12_isBroken_5 : decode cX12_isBroken 5 = .ok (.iload_n 1, 1) := by decide +kernel
theorem dX12_isBroken_6 : decode cX12_isBroken 6 = .ok (.invokestatic 261, 3) := by decide +kernel
theorem dX12_isBroken_9 : decode cX12_isBroken 9 = .ok (.ifCond .eq 12, 3) := by decide +kernel
theorem dX12_isBroken_12 : decode cX12_isBroken 12 = .ok (.aload_n 0, 1) := by decide +kernel
theorem dX12_isBroken_13 : decode cX12_isBroken 13 = .ok (.iload_n 1, 1) := by decide +kernel
theorem dX12_isBroken_14 : decode cX12_isBroken 14 = .ok (.iload_n 2, 1) := by decide +kernel
theorem dX12_isBroken_15 : decode cX12_isBroken 15 = .ok (.invokevirtual 474, 3) := by decide +kernel
theorem dX12_isBroken_18 : decode cX12_isBroken 18 = .ok (.ifCond .eq 24, 3) := by decide +kernel
theorem dX12_isBroken_21 : decode cX12_isBroken 21 = .ok (.aload_n 0, 1) := by decide +kernel
theorem dX12_isBroken_22 : decode cX12_isBroken 22 = .ok (.iload_n 2, 1) := by decide +kernel
theorem dX12_isBroken_23 : decode cX12_isBroken 23 = .ok (.invokevirtual 489, 3) := by decide +kernel
theorem dX12_isBroken_26 : decode cX12_isBroken 26 = .ok (.iload_n 1, 1) := by decide +kernel
theorem dX12_isBroken_27 : decode cX12_isBroken 27 = .ok (.invokestatic 261, 3) := by decide +kernel
theorem dX12_isBroken_30 : decode cX12_isBroken 30 = .ok (.ifCond .eq 16, 3) := by decide +kernel
theorem dX12_isBroken_33 : decode cX12_isBroken 33 = .ok (.aload_n 0, 1) := by decide +kernel
theorem dX12_isBroken_34 : decode cX12_isBroken 34 = .ok (.iload_n 1, 1) := by decide +kernel
theorem dX12_isBroken_35 : decode cX12_isBroken 35 = .ok (.iload_n 2, 1) := by decide +kernel
theorem dX12_isBroken_36 : decode cX12_isBroken 36 = .ok (.invokevirtual 474, 3) := by decide +kernel
theorem dX12_isBroken_39 : decode cX12_isBroken 39 = .ok (.ifCond .eq 7, 3) := by decide +kernel
theorem dX12_isBroken_42 : decode cX12_isBroken 42 = .ok (.iconst 1, 1) := by decide +kernel
theorem dX12_isBroken_43 : decode cX12_isBroken 43 = .ok (.goto 4, 3) := by decide +kernel
theorem dX12_isBroken_46 : decode cX12_isBroken 46 = .ok (.iconst 0, 1) := by decide +kernel
theorem dX12_isBroken_47 : decode cX12_isBroken 47 = .ok (.ireturn, 1) := by decide +kernel
theorem dX12_isChamber_0 : decode cX12_isChamber 0 = .ok (.iload_n 1, 1) := by decide +kernel
theorem dX12_isChamber_1 : decode cX12_isChamber 1 = .ok (.iconst 0, 1) := by decide +kernel
theorem dX12_isChamber_2 : decode cX12_isChamber 2 = .ok (.aload_n 0, 1) := by decide +kernel
theorem dX12_isChamber_3 : decode cX12_isChamber 3 = .ok (.invokevirtual 414, 3) := by decide +kernel
theorem dX12_isChamber_6 : decode cX12_isChamber 6 = .ok (.iconst 1, 1) := by decide +kernel
theorem dX12_isChamber_7 : decode cX12_isChamber 7 = .ok (.isub, 1) := by decide +kernel
theorem dX12_isChamber_8 : decode cX12_isChamber 8 = .ok (.invokestatic 407, 3) := by decide +kernel
theorem dX12_isChamber_11 : decode cX12_isChamber 11 = .ok (.ireturn, 1) := by decide +kernel
theorem dX12_isCompared_0 : decode cX12_isCompared 0 = .ok (.aload_n 0, 1) := by decide +kernel
theorem dX12_isCompared_1 : decode cX12_isCompared 1 = .ok (.getfield 359, 3) := by decide +kernel
theorem dX12_isCompared_4 : decode cX12_isCompared 4 = .ok (.iconst 1, 1) := by decide +kernel
theorem dX12_isCompared_5 : decode cX12_isCompared 5 = .ok (.isub, 1) := by decide +kernel
theorem dX12_isCompared_6 : decode cX12_isCompared 6 = .ok (.istore_n 1, 1) := by decide +kernel
theorem dX12_isCompared_7 : decode cX12_isCompared 7 = .ok (.aload_n 0, 1) := by decide +kernel
theorem dX12_isCompared_8 : decode cX12_isCompared 8 = .ok (.getfield 109, 3) := by decide +kernel
theorem dX12_isCompared_11 : decode cX12_isCompared 11 = .ok (.iload_n 1, 1) := by decide +kernel
theorem dX12_isCompared_12 : decode cX12_isCompared 12 = .ok (.iaload, 1) := by decide +kernel
theorem dX12_isCompared_13 : decode cX12_isCompared 13 = .ok (.iconst 5, 1) := by decide +kernel
theorem dX12_isCompared_14 : decode cX12_isCompared 14 = .ok (.if_icmp .eq 14, 3) := by decide +kernel
theorem dX12_isCompared_17 : decode cX12_isCompared 17 = .ok (.aload_n 0, 1) := by decide +kernel
theorem dX12_isCompared_18 : decode cX12_isCompared 18 = .ok (.getfield 109, 3) := by decide +kernel
theorem dX12_isCompared_21 : decode cX12_isCompared 21 = .ok (.iload_n 1, 1) := by decide +kernel
theorem dX12_isCompared_22 : decode cX12_isCompared 22 = .ok (.iaload, 1) := by decide +kernel
theorem dX12_isCompared_23 : decode cX12_isCompared 23 = .ok (.bipush 6, 2) := by decide +kernel
theorem dX12_isCompared_25 : decode cX12_isCompared 25 = .ok (.if_icmp .ne 9, 3) := by decide +kernel
theorem dX12_isCompared_28 : decode cX12_isCompared 28 = .ok (.iinc 1 (-1), 3) := by decide +kernel
theorem dX12_isCompared_31 : decode cX12_isCompared 31 = .ok (.goto (-24), 3) := by decide +kernel
theorem dX12_isCompared_34 : decode cX12_isCompared 34 = .ok (.aload_n 0, 1) := by decide +kernel
theorem dX12_isCompared_35 : decode cX12_isCompared 35 = .ok (.getfield 109, 3) := by decide +kernel
theorem dX12_isCompared_38 : decode cX12_isCompared 38 = .ok (.iload_n 1, 1) := by decide +kernel
theorem dX12_isCompared_39 : decode cX12_isCompared 39 = .ok (.iaload, 1) := by decide +kernel
theorem dX12_isCompared_40 : decode cX12_isCompared 40 = .ok (.iconst 4, 1) := by decide +kernel
theorem dX12_isCompared_41 : decode cX12_isCompared 41 = .ok (.if_icmp .ne 7, 3) := by decide +kernel
theorem dX12_isCompared_44 : decode cX12_isCompared 44 = .ok (.iconst 1, 1) := by decide +kernel
theorem dX12_isCompared_45 : decode cX12_isCompared 45 = .ok (.goto 4, 3) := by decide +kernel
theorem dX12_isCompared_48 : decode cX12_isCompared 48 = .ok (.iconst 0, 1) := by decide +kernel
theorem dX12_isCompared_49 : decode cX12_isCompared 49 = .ok (.ireturn, 1) := by decide +kernel
theorem dX12_isCut_0 : decode cX12_isCut 0 = .ok (.iconst 0, 1) := by decide +kernel
theorem dX12_isCut_1 : decode cX12_isCut 1 = .ok (.istore_n 2, 1) := by decide +kernel
theorem dX12_isCut_2 : decode cX12_isCut 2 = .ok (.iload_n 2, 1) := by decide +kernel
theorem dX12_isCut_3 : decode cX12_isCut 3 = .ok (.aload_n 0, 1) := by decide +kernel
theorem dX12_isCut_4 : decode cX12_isCut 4 = .ok (.invokevirtual 404, 3) := by decide +kernel
theorem dX12_isCut_7 : decode cX12_isCut 7 = .ok (.if_icmp .ge 20, 3) := by decide +kernel
theorem dX12_isCut_10 : decode cX12_isCut 10 = .ok (.aload_n 0, 1) := by decide +kernel
theorem dX12_isCut_11 : decode cX12_isCut 11 = .ok (.iload_n 2, 1) := by decide +kernel
theorem dX12_isCut_12 : decode cX12_isCut 12 = .ok (.invokevirtual 450, 3) := by decide +kernel
theorem dX12_isCut_15 : decode cX12_isCut 15 = .ok (.iload_n 1, 1) := by decide +kernel
theorem dX12_isCut_16 : decode cX12_isCut 16 = .ok (.if_icmp .ne 5, 3) := by decide +kernel
theorem dX12_isCut_19 : decode cX12_isCut 19 = .ok (.iconst 1, 1) := by decide +kernel
theorem dX12_isCut_20 : decode cX12_isCut 20 = .ok (.ireturn, 1) := by decide +kernel
theorem dX12_isCut_21 : decode cX12_isCut 21 = .ok (.iinc 2 1, 3) := by decide +kernel
theorem dX12_isCut_24 : decode cX12_isCut 24 = .ok (.goto (-22), 3) := by decide +kernel
theorem dX12_isCut_27 : decode cX12_isCut 27 = .ok (.iconst 0, 1) := by decide +kernel
theorem dX12_isCut_28 : decode cX12_isCut 28 = .ok (.ireturn, 1) := by decide +kernel
theorem dX12_isDigit_0 : decode cX12_isDigit 0 = .ok (.iload_n 0, 1) := by decide +kernel
theorem dX12_isDigit_1 : decode cX12_isDigit 1 = .ok (.bipush 48, 2) := by decide +kernel
theorem dX12_isDigit_3 : decode cX12_isDigit 3 = .ok (.if_icmp .lt 13, 3) := by decide +kernel
theorem dX12_isDigit_6 : decode cX12_isDigit 6 = .ok (.iload_n 0, 1) := by decide +kernel
theorem dX12_isDigit_7 : decode cX12_isDigit 7 = .ok (.bipush 57, 2) := by decide +kernel
theorem dX12_isDigit_9 : decode cX12_isDigit 9 = .ok (.if_icmp .gt 7, 3) := by decide +kernel
theorem dX12_isDigit_12 : decode cX12_isDigit 12 = .ok (.iconst 1, 1) := by decide +kernel
theorem dX12_isDigit_13 : decode cX12_isDigit 13 = .ok (.goto 4, 3) := by decide +kernel
theorem dX12_isDigit_16 : decode cX12_isDigit 16 = .ok (.iconst 0, 1) := by decide +kernel
theorem dX12_isDigit_17 : decode cX12_isDigit 17 = .ok (.ireturn, 1) := by decide +kernel
theorem dX12_isDoor_0 : decode cX12_isDoor 0 = .ok (.iload_n 1, 1) := by decide +kernel
theorem dX12_isDoor_1 : decode cX12_isDoor 1 = .ok (.iconst 0, 1) := by decide +kernel
theorem dX12_isDoor_2 : decode cX12_isDoor 2 = .ok (.aload_n 0, 1) := by decide +kernel
theorem dX12_isDoor_3 : decode cX12_isDoor 3 = .ok (.getfield 39, 3) := by decide +kernel
theorem dX12_isDoor_6 : decode cX12_isDoor 6 = .ok (.aload_n 0, 1) := by decide +kernel
theorem dX12_isDoor_7 : decode cX12_isDoor 7 = .ok (.getfield 274, 3) := by decide +kernel
theorem dX12_isDoor_10 : decode cX12_isDoor 10 = .ok (.iaload, 1) := by decide +kernel
theorem dX12_isDoor_11 : decode cX12_isDoor 11 = .ok (.iconst 1, 1) := by decide +kernel
theorem dX12_isDoor_12 : decode cX12_isDoor 12 = .ok (.isub, 1) := by decide +kernel
theorem dX12_isDoor_13 : decode cX12_isDoor 13 = .ok (.invokestatic 407, 3) := by decide +kernel
theorem dX12_isDoor_16 : decode cX12_isDoor 16 = .ok (.ireturn, 1) := by decide +kernel
theorem dX12_isFull_0 : decode cX12_isFull 0 = .ok (.aload_n 0, 1) := by decide +kernel
theorem dX12_isFull_1 : decode cX12_isFull 1 = .ok (.ldc2_w 167, 3) := by decide +kernel
theorem dX12_isFull_4 : decode cX12_isFull 4 = .ok (.invokevirtual 280, 3) := by decide +kernel
theorem dX12_isFull_7 : decode cX12_isFull 7 = .ok (.ifCond .eq 9, 3) := by decide +kernel
theorem dX12_isFull_10 : decode cX12_isFull 10 = .ok (.aload_n 0, 1) := by decide +kernel
theorem dX12_isFull_11 : decode cX12_isFull 11 = .ok (.iconst 0, 1) := by decide +kernel
theorem dX12_isFull_12 : decode cX12_isFull 12 = .ok (.invokevirtual 283, 3) := by decide +kernel
theorem dX12_isFull_15 : decode cX12_isFull 15 = .ok (.ireturn, 1) := by decide +kernel
theorem dX12_isFull_16 : decode cX12_isFull 16 = .ok (.aload_n 0, 1) := by decide +kernel
theorem dX12_isFull_17 : decode cX12_isFull 17 = .ok (.ldc2_w 169, 3) := by decide +kernel
theorem dX12_isFull_20 : decode cX12_isFull 20 = .ok (.invokevirtual 280, 3) := by decide +kernel
theorem dX12_isFull_23 : decode cX12_isFull 23 = .ok (.ifCond .eq 9, 3) := by decide +kernel
theorem dX12_isFull_26 : decode cX12_isFull 26 = .ok (.aload_n 0, 1) := by decide +kernel
theorem dX12_isFull_27 : decode cX12_isFull 27 = .ok (.iconst 1, 1) := by decide +kernel
theorem dX12_isFull_28 : decode cX12_isFull 28 = .ok (.invokevirtual 283, 3) := by decide +kernel
theorem dX12_isFull_31 : decode cX12_isFull 31 = .ok (.ireturn, 1) := by decide +kernel
theorem dX12_isFull_32 : decode cX12_isFull 32 = .ok (.aload_n 0, 1) := by decide +kernel
theorem dX12_isFull_33 : decode cX12_isFull 33 = .ok (.ldc2_w 171, 3) := by decide +kernel
theorem dX12_isFull_36 : decode cX12_isFull 36 = .ok (.invokevirtual 280, 3) := by decide +kernel
theorem dX12_isFull_39 : decode cX12_isFull 39 = .ok (.ifCond .eq 9, 3) := by decide +kernel
theorem dX12_isFull_42 : decode cX12_isFull 42 = .ok (.aload_n 0, 1) := by decide +kernel
theorem dX12_isFull_43 : decode cX12_isFull 43 = .ok (.iconst 2, 1) := by decide +kernel
theorem dX12_isFull_44 : decode cX12_isFull 44 = .ok (.invokevirtual 283, 3) := by decide +kernel
theorem dX12_isFull_47 : decode cX12_isFull 47 = .ok (.ireturn, 1) := by decide +kernel
theorem dX12_isFull_48 : decode cX12_isFull 48 = .ok (.aload_n 0, 1) := by decide +kernel
theorem dX12_isFull_49 : decode cX12_isFull 49 = .ok (.ldc2_w 173, 3) := by decide +kernel
theorem dX12_isFull_52 : decode cX12_isFull 52 = .ok (.invokevirtual 280, 3) := by decide +kernel
theorem dX12_isFull_55 : decode cX12_isFull 55 = .ok (.ifCond .eq 23, 3) := by decide +kernel
theorem dX12_isFull_58 : decode cX12_isFull 58 = .ok (.aload_n 0, 1) := by decide +kernel
theorem dX12_isFull_59 : decode cX12_isFull 59 = .ok (.getfield 30, 3) := by decide +kernel
theorem dX12_isFull_62 : decode cX12_isFull 62 = .ok (.aload_n 0, 1) := by decide +kernel
theorem dX12_isFull_63 : decode cX12_isFull 63 = .ok (.getfield 265, 3) := by decide +kernel
theorem dX12_isFull_66 : decode cX12_isFull 66 = .ok (.iaload, 1) := by decide +kernel
theorem dX12_isFull_67 : decode cX12_isFull 67 = .ok (.bipush 8, 2) := by decide +kernel
theorem dX12_isFull_69 : decode cX12_isFull 69 = .ok (.if_icmp .ne 7, 3) := by decide +kernel
theorem dX12_isFull_72 : decode cX12_isFull 72 = .ok (.iconst 1, 1) := by decide +kernel
theorem dX12_isFull_73 : decode cX12_isFull 73 = .ok (.goto 4, 3) := by decide +kernel
theorem dX12_isFull_76 : decode cX12_isFull 76 = .ok (.iconst 0, 1) := by decide +kernel
theorem dX12_isFull_77 : decode cX12_isFull 77 = .ok (.ireturn, 1) := by decide +kernel
theorem dX12_isFull_78 : decode cX12_isFull 78 = .ok (.aload_n 0, 1) := by decide +kernel
theorem dX12_isFull_79 : decode cX12_isFull 79 = .ok (.ldc2_w 175, 3) := by decide +kernel
theorem dX12_isFull_82 : decode cX12_isFull 82 = .ok (.invokevirtual 280, 3) := by decide +kernel
theorem dX12_isFull_85 : decode cX12_isFull 85 = .ok (.ifCond .eq 23, 3) := by decide +kernel
theorem dX12_isFull_88 : decode cX12_isFull 88 = .ok (.aload_n 0, 1) := by decide +kernel
theorem dX12_isFull_89 : decode cX12_isFull 89 = .ok (.getfield 33, 3) := by decide +kernel
theorem dX12_isFull_92 : decode cX12_isFull 92 = .ok (.aload_n 0, 1) := by decide +kernel
theorem dX12_isFull_93 : decode cX12_isFull 93 = .ok (.getfield 265, 3) := by decide +kernel
theorem dX12_isFull_96 : decode cX12_isFull 96 = .ok (.iaload, 1) := by decide +kernel
theorem dX12_isFull_97 : decode cX12_isFull 97 = .ok (.bipush 6, 2) := by decide +kernel
theorem dX12_isFull_99 : decode cX12_isFull 99 = .ok (.if_icmp .ne 7, 3) := by decide +kernel
theorem dX12_isFull_102 : decode cX12_isFull 102 = .ok (.iconst 1, 1) := by decide +kernel
theorem dX12_isFull_103 : decode cX12_isFull 103 = .ok (.goto 4, 3) := by decide +kernel
theorem dX12_isFull_106 : decode cX12_isFull 106 = .ok (.iconst 0, 1) := by decide +kernel
theorem dX12_isFull_107 : decode cX12_isFull 107 = .ok (.ireturn, 1) := by decide +kernel
theorem dX12_isFull_108 : decode cX12_isFull 108 = .ok (.aload_n 0, 1) := by decide +kernel
theorem dX12_isFull_109 : decode cX12_isFull 109 = .ok (.ldc2_w 177, 3) := by decide +kernel
theorem dX12_isFull_112 : decode cX12_isFull 112 = .ok (.invokevirtual 280, 3) := by decide +kernel
theorem dX12_isFull_115 : decode cX12_isFull 115 = .ok (.ifCond .eq 23, 3) := by decide +kernel
theorem dX12_isFull_118 : decode cX12_isFull 118 = .ok (.aload_n 0, 1) := by decide +kernel
theorem dX12_isFull_119 : decode cX12_isFull 119 = .ok (.getfield 36, 3) := by decide +kernel
theorem dX12_isFull_122 : decode cX12_isFull 122 = .ok (.aload_n 0, 1) := by decide +kernel
theorem dX12_isFull_123 : decode cX12_isFull 123 = .ok (.getfield 265, 3) := by decide +kernel
theorem dX12_isFull_126 : decode cX12_isFull 126 = .ok (.iaload, 1) := by decide +kernel
theorem dX12_isFull_127 : decode cX12_isFull 127 = .ok (.bipush 6, 2) := by decide +kernel
theorem dX12_isFull_129 : decode cX12_isFull 129 = .ok (.if_icmp .ne 7, 3) := by decide +kernel
theorem dX12_isFull_132 : decode cX12_isFull 132 = .ok (.iconst 1, 1) := by decide +kernel
theorem dX12_isFull_133 : decode cX12_isFull 133 = .ok (.goto 4, 3) := by decide +kernel
theorem dX12_isFull_136 : decode cX12_isFull 136 = .ok (.iconst 0, 1) := by decide +kernel
theorem dX12_isFull_137 : decode cX12_isFull 137 = .ok (.ireturn, 1) := by decide +kernel
theorem dX12_isFull_138 : decode cX12_isFull 138 = .ok (.aload_n 0, 1) := by decide +kernel
theorem dX12_isFull_139 : decode cX12_isFull 139 = .ok (.ldc2_w 179, 3) := by decide +kernel
theorem dX12_isFull_142 : decode cX12_isFull 142 = .ok (.invokevirtual 280, 3) := by decide +kernel
theorem dX12_isFull_145 : decode cX12_isFull 145 = .ok (.ifCond .eq 23, 3) := by decide +kernel
theorem dX12_isFull_148 : decode cX12_isFull 148 = .ok (.aload_n 0, 1) := by decide +kernel
theorem dX12_isFull_149 : decode cX12_isFull 149 = .ok (.getfield 39, 3) := by decide +kernel
theorem dX12_isFull_152 : decode cX12_isFull 152 = .ok (.aload_n 0, 1) := by decide +kernel
theorem dX12_isFull_153 : decode cX12_isFull 153 = .ok (.getfield 265, 3) := by decide +kernel
theorem dX12_isFull_156 : decode cX12_isFull 156 = .ok (.iaload, 1) := by decide +kernel
theorem dX12_isFull_157 : decode cX12_isFull 157 = .ok (.bipush 8, 2) := by decide +kernel
theorem dX12_isFull_159 : decode cX12_isFull 159 = .ok (.if_icmp .ne 7, 3) := by decide +kernel
theorem dX12_isFull_162 : decode cX12_isFull 162 = .ok (.iconst 1, 1) := by decide +kernel
theorem dX12_isFull_163 : decode cX12_isFull 163 = .ok (.goto 4, 3) := by decide +kernel
theorem dX12_isFull_166 : decode cX12_isFull 166 = .ok (.iconst 0, 1) := by decide +kernel
theorem dX12_isFull_167 : decode cX12_isFull 167 = .ok (.ireturn, 1) := by decide +kernel
theorem dX12_isFull_168 : decode cX12_isFull 168 = .ok (.aload_n 0, 1) := by decide +kernel
theorem dX12_isFull_169 : decode cX12_isFull 169 = .ok (.ldc2_w 185, 3) := by decide +kernel
theorem dX12_isFull_172 : decode cX12_isFull 172 = .ok (.invokevirtual 280, 3) := by decide +kernel
theorem dX12_isFull_175 : decode cX12_isFull 175 = .ok (.ifCond .eq 22, 3) := by decide +kernel
theorem dX12_isFull_178 : decode cX12_isFull 178 = .ok (.aload_n 0, 1) := by decide +kernel
theorem dX12_isFull_179 : decode cX12_isFull 179 = .ok (.getfield 42, 3) := by decide +kernel
theorem dX12_isFull_182 : decode cX12_isFull 182 = .ok (.aload_n 0, 1) := by decide +kernel
theorem dX12_isFull_183 : decode cX12_isFull 183 = .ok (.getfield 265, 3) := by decide +kernel
theorem dX12_isFull_186 : decode cX12_isFull 186 = .ok (.iaload, 1) := by decide +kernel
theorem dX12_isFull_187 : decode cX12_isFull 187 = .ok (.iconst 4, 1) := by decide +kernel
theorem dX12_isFull_188 : decode cX12_isFull 188 = .ok (.if_icmp .ne 7, 3) := by decide +kernel
theorem dX12_isFull_191 : decode cX12_isFull 191 = .ok (.iconst 1, 1) := by decide +kernel
theorem dX12_isFull_192 : decode cX12_isFull 192 = .ok (.goto 4, 3) := by decide +kernel
theorem dX12_isFull_195 : decode cX12_isFull 195 = .ok (.iconst 0, 1) := by decide +kernel
theorem dX12_isFull_196 : decode cX12_isFull 196 = .ok (.ireturn, 1) := by decide +kernel
theorem dX12_isFull_197 : decode cX12_isFull 197 = .ok (.aload_n 0, 1) := by decide +kernel
theorem dX12_isFull_198 : decode cX12_isFull 198 = .ok (.ldc2_w 191, 3) := by decide +kernel
theorem dX12_isFull_201 : decode cX12_isFull 201 = .ok (.invokevirtual 280, 3) := by decide +kernel
theorem dX12_isFull_204 : decode cX12_isFull 204 = .ok (.ifCond .ne 13, 3) := by decide +kernel
theorem dX12_isFull_207 : decode cX12_isFull 207 = .ok (.aload_n 0, 1) := by decide +kernel
theorem dX12_isFull_208 : decode cX12_isFull 208 = .ok (.ldc2_w 193, 3) := by decide +kernel
theorem dX12_isFull_211 : decode cX12_isFull 211 = .ok (.invokevirtual 280, 3) := by decide +kernel
theorem dX12_isFull_214 : decode cX12_isFull 214 = .ok (.ifCond .eq 5, 3) := by decide +kernel
theorem dX12_isFull_217 : decode cX12_isFull 217 = .ok (.iconst 0, 1) := by decide +kernel
theorem dX12_isFull_218 : decode cX12_isFull 218 = .ok (.ireturn, 1) := by decide +kernel
theorem dX12_isFull_219 : decode cX12_isFull 219 = .ok (.aload_n 0, 1) := by decide +kernel
theorem dX12_isFull_220 : decode cX12_isFull 220 = .ok (.ldc2_w 195, 3) := by decide +kernel
theorem dX12_isFull_223 : decode cX12_isFull 223 = .ok (.invokevirtual 280, 3) := by decide +kernel
theorem dX12_isFull_226 : decode cX12_isFull 226 = .ok (.ifCond .eq 17, 3) := by decide +kernel
theorem dX12_isFull_229 : decode cX12_isFull 229 = .ok (.aload_n 0, 1) := by decide +kernel
theorem dX12_isFull_230 : decode cX12_isFull 230 = .ok (.getfield 51, 3) := by decide +kernel
theorem dX12_isFull_233 : decode cX12_isFull 233 = .ok (.aload_n 0, 1) := by decide +kernel
theorem dX12_isFull_234 : decode cX12_isFull 234 = .ok (.getfield 265, 3) := by decide +kernel
theorem dX12_isFull_237 : decode cX12_isFull 237 = .ok (.iaload, 1) := by decide +kernel
theorem dX12_isFull_238 : decode cX12_isFull 238 = .ok (.iconst 3, 1) := by decide +kernel
theorem dX12_isFull_239 : decode cX12_isFull 239 = .ok (.invokestatic 261, 3) := by decide +kernel
theorem dX12_isFull_242 : decode cX12_isFull 242 = .ok (.ireturn, 1) := by decide +kernel
theorem dX12_isFull_243 : decode cX12_isFull 243 = .ok (.aload_n 0, 1) := by decide +kernel
theorem dX12_isFull_244 : decode cX12_isFull 244 = .ok (.ldc2_w 197, 3) := by decide +kernel
theorem dX12_isFull_247 : decode cX12_isFull 247 = .ok (.invokevirtual 280, 3) := by decide +kernel
theorem dX12_isFull_250 : decode cX12_isFull 250 = .ok (.ifCond .eq 19, 3) := by decide +kernel
theorem dX12_isFull_253 : decode cX12_isFull 253 = .ok (.aload_n 0, 1) := by decide +kernel
theorem dX12_isFull_254 : decode cX12_isFull 254 = .ok (.getfield 51, 3) := by decide +kernel
theorem dX12_isFull_257 : decode cX12_isFull 257 = .ok (.aload_n 0, 1) := by decide +kernel
theorem dX12_isFull_258 : decode cX12_isFull 258 = .ok (.getfield 265, 3) := by decide +kernel
theorem dX12_isFull_261 : decode cX12_isFull 261 = .ok (.iaload, 1) := by decide +kernel
theorem dX12_isFull_262 : decode cX12_isFull 262 = .ok (.iconst 4, 1) := by decide +kernel
theorem dX12_isFull_263 : decode cX12_isFull 263 = .ok (.invokestatic 261, 3) := by decide +kernel
theorem dX12_isFull_266 : decode cX12_isFull 266 = .ok (.ifCond .eq 7, 3) := by decide +kernel
theorem dX12_isFull_269 : decode cX12_isFull 269 = .ok (.iconst 1, 1) := by decide +kernel
theorem dX12_isFull_270 : decode cX12_isFull 270 = .ok (.goto 4, 3) := by decide +kernel
theorem dX12_isFull_273 : decode cX12_isFull 273 = .ok (.iconst 0, 1) := by decide +kernel
theorem dX12_isFull_274 : decode cX12_isFull 274 = .ok (.ireturn, 1) := by decide +kernel
theorem dX12_isGhost_0 : decode cX12_isGhost 0 = .ok (.aload_n 0, 1) := by decide +kernel
theorem dX12_isGhost_1 : decode cX12_isGhost 1 = .ok (.iload_n 1, 1) := by decide +kernel
theorem dX12_isGhost_2 : decode cX12_isGhost 2 = .ok (.invokevirtual 456, 3) := by decide +kernel
theorem dX12_isGhost_5 : decode cX12_isGhost 5 = .ok (.ifCond .eq 24, 3) := by decide +kernel
theorem dX12_isGhost_8 : decode cX12_isGhost 8 = .ok (.aload_n 0, 1) := by decide +kernel
theorem dX12_isGhost_9 : decode cX12_isGhost 9 = .ok (.iload_n 1, 1) := by decide +kernel
theorem dX12_isGhost_10 : decode cX12_isGhost 10 = .ok (.iload_n 2, 1) := by decide +kernel
theorem dX12_isGhost_11 : decode cX12_isGhost 11 = .ok (.invokevirtual 453, 3) := by decide +kernel
theorem dX12_isGhost_14 : decode cX12_isGhost 14 = .ok (.ifCond .eq 15, 3) := by decide +kernel
theorem dX12_isGhost_17 : decode cX12_isGhost 17 = .ok (.aload_n 0, 1) := by decide +kernel
theorem dX12_isGhost_18 : decode cX12_isGhost 18 = .ok (.iload_n 1, 1) := by decide +kernel
theorem dX12_isGhost_19 : decode cX12_isGhost 19 = .ok (.invokevirtual 507, 3) := by decide +kernel
theorem dX12_isGhost_22 : decode cX12_isGhost 22 = .ok (.ifCond .ne 7, 3) := by decide +kernel
theorem dX12_isGhost_25 : decode cX12_isGhost 25 = .ok (.iconst 1, 1) := by decide +kernel
theorem dX12_isGhost_26 : decode cX12_isGhost 26 = .ok (.goto 4, 3) := by decide +kernel
theorem dX12_isGhost_29 : decode cX12_isGhost 29 = .ok (.iconst 0, 1) := by decide +kernel
theorem dX12_isGhost_30 : decode cX12_isGhost 30 = .ok (.ireturn, 1) := by decide +kernel
theorem dX12_isGood_0 : decode cX12_isGood 0 = .ok (.aload_n 0, 1) := by decide +kernel
theorem dX12_isGood_1 : decode cX12_isGood 1 = .ok (.getfield 164, 3) := by decide +kernel
theorem dX12_isGood_4 : decode cX12_isGood 4 = .ok (.ifCond .ne 7, 3) := by decide +kernel
theorem dX12_isGood_7 : decode cX12_isGood 7 = .ok (.iconst 1, 1) := by decide +kernel
theorem dX12_isGood_8 : decode cX12_isGood 8 = .ok (.goto 4, 3) := by decide +kernel
theorem dX12_isGood_11 : decode cX12_isGood 11 = .ok (.iconst 0, 1) := by decide +kernel
theorem dX12_isGood_12 : decode cX12_isGood 12 = .ok (.ireturn, 1) := by decide +kernel
theorem dX12_isIn_0 : decode cX12_isIn 0 = .ok (.iload_n 0, 1) := by decide +kernel
theorem dX12_isIn_1 : decode cX12_isIn 1 = .ok (.iload_n 1, 1) := by decide +kernel
theorem dX12_isIn_2 : decode cX12_isIn 2 = .ok (.if_icmp .lt 12, 3) := by decide +kernel
theorem dX12_isIn_5 : decode cX12_isIn 5 = .ok (.iload_n 0, 1) := by decide +kernel
theorem dX12_isIn_6 : decode cX12_isIn 6 = .ok (.iload_n 2, 1) := by decide +kernel
theorem dX12_isIn_7 : decode cX12_isIn 7 = .ok (.if_icmp .gt 7, 3) := by decide +kernel
theorem dX12_isIn_10 : decode cX12_isIn 10 = .ok (.iconst 1, 1) := by decide +kernel
theorem dX12_isIn_11 : decode cX12_isIn 11 = .ok (.goto 4, 3) := by decide +kernel
theorem dX12_isIn_14 : decode cX12_isIn 14 = .ok (.iconst 0, 1) := by decide +kernel
theorem dX12_isIn_15 : decode cX12_isIn 15 = .ok (.ireturn, 1) := by decide +kernel
theorem dX12_isKept_0 : decode cX12_isKept 0 = .ok (.lload_n 0, 1) := by decide +kernel
theorem dX12_isKept_1 : decode cX12_isKept 1 = .ok (.ldc2_w 167, 3) := by decide +kernel
theorem dX12_isKept_4 : decode cX12_isKept 4 = .ok (.lcmp, 1) := by decide +kernel
theorem dX12_isKept_5 : decode cX12_isKept 5 = .ok (.ifCond .eq 91, 3) := by decide +kernel
theorem dX12_isKept_8 : decode cX12_isKept 8 = .ok (.lload_n 0, 1) := by decide +kernel
theorem dX12_isKept_9 : decode cX12_isKept 9 = .ok (.ldc2_w 169, 3) := by decide +kernel
theorem dX12_isKept_12 : decode cX12_isKept 12 = .ok (.lcmp, 1) := by decide +kernel
theorem dX12_isKept_13 : decode cX12_isKept 13 = .ok (.ifCond .eq 83, 3) := by decide +kernel
theorem dX12_isKept_16 : decode cX12_isKept 16 = .ok (.lload_n 0, 1) := by decide +kernel
theorem dX12_isKept_17 : decode cX12_isKept 17 = .ok (.ldc2_w 171, 3) := by decide +kernel
theorem dX12_isKept_20 : decode cX12_isKept 20 = .ok (.lcmp, 1) := by decide +kernel
theorem dX12_isKept_21 : decode cX12_isKept 21 = .ok (.ifCond .eq 75, 3) := by decide +kernel
theorem dX12_isKept_24 : decode cX12_isKept 24 = .ok (.lload_n 0, 1) := by decide +kernel
theorem dX12_isKept_25 : decode cX12_isKept 25 = .ok (.ldc2_w 173, 3) := by decide +kernel
theorem dX12_isKept_28 : decode cX12_isKept 28 = .ok (.lcmp, 1) := by decide +kernel
theorem dX12_isKept_29 : decode cX12_isKept 29 = .ok (.ifCond .eq 67, 3) := by decide +kernel
theorem dX12_isKept_32 : decode cX12_isKept 32 = .ok (.lload_n 0, 1) := by decide +kernel
theorem dX12_isKept_33 : decode cX12_isKept 33 = .ok (.ldc2_w 175, 3) := by decide +kernel
theorem dX12_isKept_36 : decode cX12_isKept 36 = .ok (.lcmp, 1) := by decide +kernel
theorem dX12_isKept_37 : decode cX12_isKept 37 = .ok (.ifCond .eq 59, 3) := by decide +kernel
theorem dX12_isKept_40 : decode cX12_isKept 40 = .ok (.lload_n 0, 1) := by decide +kernel
theorem dX12_isKept_41 : decode cX12_isKept 41 = .ok (.ldc2_w 177, 3) := by decide +kernel
theorem dX12_isKept_44 : decode cX12_isKept 44 = .ok (.lcmp, 1) := by decide +kernel
theorem dX12_isKept_45 : decode cX12_isKept 45 = .ok (.ifCond .eq 51, 3) := by decide +kernel
theorem dX12_isKept_48 : decode cX12_isKept 48 = .ok (.lload_n 0, 1) := by decide +kernel
theorem dX12_isKept_49 : decode cX12_isKept 49 = .ok (.ldc2_w 179, 3) := by decide +kernel
theorem dX12_isKept_52 : decode cX12_isKept 52 = .ok (.lcmp, 1) := by decide +kernel
theorem dX12_isKept_53 : decode cX12_isKept 53 = .ok (.ifCond .eq 43, 3) := by decide +kernel
theorem dX12_isKept_56 : decode cX12_isKept 56 = .ok (.lload_n 0, 1) := by decide +kernel
theorem dX12_isKept_57 : decode cX12_isKept 57 = .ok (.ldc2_w 181, 3) := by decide +kernel
theorem dX12_isKept_60 : decode cX12_isKept 60 = .ok (.lcmp, 1) := by decide +kernel
theorem dX12_isKept_61 : decode cX12_isKept 61 = .ok (.ifCond .eq 35, 3) := by decide +kernel
theorem dX12_isKept_64 : decode cX12_isKept 64 = .ok (.lload_n 0, 1) := by decide +kernel
theorem dX12_isKept_65 : decode cX12_isKept 65 = .ok (.ldc2_w 183, 3) := by decide +kernel
theorem dX12_isKept_68 : decode cX12_isKept 68 = .ok (.lcmp, 1) := by decide +kernel
theorem dX12_isKept_69 : decode cX12_isKept 69 = .ok (.ifCond .eq 27, 3) := by decide +kernel
theorem dX12_isKept_72 : decode cX12_isKept 72 = .ok (.lload_n 0, 1) := by decide +kernel
theorem dX12_isKept_73 : decode cX12_isKept 73 = .ok (.ldc2_w 185, 3) := by decide +kernel
theorem dX12_isKept_76 : decode cX12_isKept 76 = .ok (.lcmp, 1) := by decide +kernel
theorem dX12_isKept_77 : decode cX12_isKept 77 = .ok (.ifCond .eq 19, 3) := by decide +kernel
theorem dX12_isKept_80 : decode cX12_isKept 80 = .ok (.lload_n 0, 1) := by decide +kernel
theorem dX12_isKept_81 : decode cX12_isKept 81 = .ok (.ldc2_w 187, 3) := by decide +kernel
theorem dX12_isKept_84 : decode cX12_isKept 84 = .ok (.lcmp, 1) := by decide +kernel
theorem dX12_isKept_85 : decode cX12_isKept 85 = .ok (.ifCond .eq 11, 3) := by decide +kernel
theorem dX12_isKept_88 : decode cX12_isKept 88 = .ok (.lload_n 0, 1) := by decide +kernel
theorem dX12_isKept_89 : decode cX12_isKept 89 = .ok (.ldc2_w 189, 3) := by decide +kernel
theorem dX12_isKept_92 : decode cX12_isKept 92 = .ok (.lcmp, 1) := by decide +kernel
theorem dX12_isKept_93 : decode cX12_isKept 93 = .ok (.ifCond .ne 7, 3) := by decide +kernel
theorem dX12_isKept_96 : decode cX12_isKept 96 = .ok (.iconst 1, 1) := by decide +kernel
theorem dX12_isKept_97 : decode cX12_isKept 97 = .ok (.goto 4, 3) := by decide +kernel
theorem dX12_isKept_100 : decode cX12_isKept 100 = .ok (.iconst 0, 1) := by decide +kernel
theorem dX12_isKept_101 : decode cX12_isKept 101 = .ok (.istore_n 2, 1) := by decide +kernel
theorem dX12_isKept_102 : decode cX12_isKept 102 = .ok (.iload_n 2, 1) := by decide +kernel
theorem dX12_isKept_103 : decode cX12_isKept 103 = .ok (.ifCond .ne 91, 3) := by decide +kernel
theorem dX12_isKept_106 : decode cX12_isKept 106 = .ok (.lload_n 0, 1) := by decide +kernel
theorem dX12_isKept_107 : decode cX12_isKept 107 = .ok (.ldc2_w 191, 3) := by decide +kernel
theorem dX12_isKept_110 : decode cX12_isKept 110 = .ok (.lcmp, 1) := by decide +kernel
theorem dX12_isKept_111 : decode cX12_isKept 111 = .ok (.ifCond .eq 83, 3) := by decide +kernel
theorem dX12_isKept_114 : decode cX12_isKept 114 = .ok (.lload_n 0, 1) := by decide +kernel
theorem dX12_isKept_115 : decode cX12_isKept 115 = .ok (.ldc2_w 193, 3) := by decide +kernel
theorem dX12_isKept_118 : decode cX12_isKept 118 = .ok (.lcmp, 1) := by decide +kernel
theorem dX12_isKept_119 : decode cX12_isKept 119 = .ok (.ifCond .eq 75, 3) := by decide +kernel
theorem dX12_isKept_122 : decode cX12_isKept 122 = .ok (.lload_n 0, 1) := by decide +kernel
theorem dX12_isKept_123 : decode cX12_isKept 123 = .ok (.ldc2_w 195, 3) := by decide +kernel
theorem dX12_isKept_126 : decode cX12_isKept 126 = .ok (.lcmp, 1) := by decide +kernel
theorem dX12_isKept_127 : decode cX12_isKept 127 = .ok (.ifCond .eq 67, 3) := by decide +kernel
theorem dX12_isKept_130 : decode cX12_isKept 130 = .ok (.lload_n 0, 1) := by decide +kernel
theorem dX12_isKept_131 : decode cX12_isKept 131 = .ok (.ldc2_w 197, 3) := by decide +kernel
theorem dX12_isKept_134 : decode cX12_isKept 134 = .ok (.lcmp, 1) := by decide +kernel
theorem dX12_isKept_135 : decode cX12_isKept 135 = .ok (.ifCond .eq 59, 3) := by decide +kernel
theorem dX12_isKept_138 : decode cX12_isKept 138 = .ok (.lload_n 0, 1) := by decide +kernel
theorem dX12_isKept_139 : decode cX12_isKept 139 = .ok (.ldc2_w 199, 3) := by decide +kernel
theorem dX12_isKept_142 : decode cX12_isKept 142 = .ok (.lcmp, 1) := by decide +kernel
theorem dX12_isKept_143 : decode cX12_isKept 143 = .ok (.ifCond .eq 51, 3) := by decide +kernel
theorem dX12_isKept_146 : decode cX12_isKept 146 = .ok (.lload_n 0, 1) := by decide +kernel
theorem dX12_isKept_147 : decode cX12_isKept 147 = .ok (.ldc2_w 201, 3) := by decide +kernel
theorem dX12_isKept_150 : decode cX12_isKept 150 = .ok (.lcmp, 1) := by decide +kernel
theorem dX12_isKept_151 : decode cX12_isKept 151 = .ok (.ifCond .eq 43, 3) := by decide +kernel
theorem dX12_isKept_154 : decode cX12_isKept 154 = .ok (.lload_n 0, 1) := by decide +kernel
theorem dX12_isKept_155 : decode cX12_isKept 155 = .ok (.ldc2_w 203, 3) := by decide +kernel
theorem dX12_isKept_158 : decode cX12_isKept 158 = .ok (.lcmp, 1) := by decide +kernel
theorem dX12_isKept_159 : decode cX12_isKept 159 = .ok (.ifCond .eq 35, 3) := by decide +kernel
theorem dX12_isKept_162 : decode cX12_isKept 162 = .ok (.lload_n 0, 1) := by decide +kernel
theorem dX12_isKept_163 : decode cX12_isKept 163 = .ok (.ldc2_w 205, 3) := by decide +kernel
theorem dX12_isKept_166 : decode cX12_isKept 166 = .ok (.lcmp, 1) := by decide +kernel
theorem dX12_isKept_167 : decode cX12_isKept 167 = .ok (.ifCond .eq 27, 3) := by decide +kernel
theorem dX12_isKept_170 : decode cX12_isKept 170 = .ok (.lload_n 0, 1) := by decide +kernel
theorem dX12_isKept_171 : decode cX12_isKept 171 = .ok (.ldc2_w 207, 3) := by decide +kernel
theorem dX12_isKept_174 : decode cX12_isKept 174 = .ok (.lcmp, 1) := by decide +kernel
theorem dX12_isKept_175 : decode cX12_isKept 175 = .ok (.ifCond .eq 19, 3) := by decide +kernel
theorem dX12_isKept_178 : decode cX12_isKept 178 = .ok (.lload_n 0, 1) := by decide +kernel
theorem dX12_isKept_179 : decode cX12_isKept 179 = .ok (.ldc2_w 209, 3) := by decide +kernel
theorem dX12_isKept_182 : decode cX12_isKept 182 = .ok (.lcmp, 1) := by decide +kernel
theorem dX12_isKept_183 : decode cX12_isKept 183 = .ok (.ifCond .eq 11, 3) := by decide +kernel
theorem dX12_isKept_186 : decode cX12_isKept 186 = .ok (.lload_n 0, 1) := by decide +kernel
theorem dX12_isKept_187 : decode cX12_isKept 187 = .ok (.ldc2_w 211, 3) := by decide +kernel
theorem dX12_isKept_190 : decode cX12_isKept 190 = .ok (.lcmp, 1) := by decide +kernel
theorem dX12_isKept_191 : decode cX12_isKept 191 = .ok (.ifCond .ne 7, 3) := by decide +kernel
theorem dX12_isKept_194 : decode cX12_isKept 194 = .ok (.iconst 1, 1) := by decide +kernel
theorem dX12_isKept_195 : decode cX12_isKept 195 = .ok (.goto 4, 3) := by decide +kernel
theorem dX12_isKept_198 : decode cX12_isKept 198 = .ok (.iconst 0, 1) := by decide +kernel
theorem dX12_isKept_199 : decode cX12_isKept 199 = .ok (.ireturn, 1) := by decide +kernel
theorem dX12_isKey_0 : decode cX12_isKey 0 = .ok (.iload_n 1, 1) := by decide +kernel
theorem dX12_isKey_1 : decode cX12_isKey 1 = .ok (.iconst 0, 1) := by decide +kernel
theorem dX12_isKey_2 : decode cX12_isKey 2 = .ok (.aload_n 0, 1) := by decide +kernel
theorem dX12_isKey_3 : decode cX12_isKey 3 = .ok (.invokevirtual 404, 3) := by decide +kernel
theorem dX12_isKey_6 : decode cX12_isKey 6 = .ok (.iconst 1, 1) := by decide +kernel
theorem dX12_isKey_7 : decode cX12_isKey 7 = .ok (.isub, 1) := by decide +kernel
theorem dX12_isKey_8 : decode cX12_isKey 8 = .ok (.invokestatic 407, 3) := by decide +kernel
theorem dX12_isKey_11 : decode cX12_isKey 11 = .ok (.ireturn, 1) := by decide +kernel
theorem dX12_isLate_0 : decode cX12_isLate 0 = .ok (.aload_n 0, 1) := by decide +kernel
theorem dX12_isLate_1 : decode cX12_isLate 1 = .ok (.getfield 51, 3) := by decide +kernel
theorem dX12_isLate_4 : decode cX12_isLate 4 = .ok (.aload_n 0, 1) := by decide +kernel
theorem dX12_isLate_5 : decode cX12_isLate 5 = .ok (.getfield 265, 3) := by decide +kernel
theorem dX12_isLate_8 : decode cX12_isLate 8 = .ok (.iaload, 1) := by decide +kernel
theorem dX12_isLate_9 : decode cX12_isLate 9 = .ok (.iload_n 1, 1) := by decide +kernel
theorem dX12_isLate_10 : decode cX12_isLate 10 = .ok (.invokestatic 261, 3) := by decide +kernel
theorem dX12_isLate_13 : decode cX12_isLate 13 = .ok (.ifCond .ne 27, 3) := by decide +kernel
theorem dX12_isLate_16 : decode cX12_isLate 16 = .ok (.aload_n 0, 1) := by decide +kernel
theorem dX12_isLate_17 : decode cX12_isLate 17 = .ok (.getfield 30, 3) := by decide +kernel
theorem dX12_isLate_20 : decode cX12_isLate 20 = .ok (.aload_n 0, 1) := by decide +kernel
theorem dX12_isLate_21 : decode cX12_isLate 21 = .ok (.getfield 265, 3) := by decide +kernel
theorem dX12_isLate_24 : decode cX12_isLate 24 = .ok (.iaload, 1) := by decide +kernel
theorem dX12_isLate_25 : decode cX12_isLate 25 = .ok (.ifCond .gt 15, 3) := by decide +kernel
theorem dX12_isLate_28 : decode cX12_isLate 28 = .ok (.aload_n 0, 1) := by decide +kernel
theorem dX12_isLate_29 : decode cX12_isLate 29 = .ok (.getfield 33, 3) := by decide +kernel
theorem dX12_isLate_32 : decode cX12_isLate 32 = .ok (.aload_n 0, 1) := by decide +kernel
theorem dX12_isLate_33 : decode cX12_isLate 33 = .ok (.getfield 265, 3) := by decide +kernel
theorem dX12_isLate_36 : decode cX12_isLate 36 = .ok (.iaload, 1) := by decide +kernel
theorem dX12_isLate_37 : decode cX12_isLate 37 = .ok (.ifCond .le 7, 3) := by decide +kernel
theorem dX12_isLate_40 : decode cX12_isLate 40 = .ok (.iconst 1, 1) := by decide +kernel
theorem dX12_isLate_41 : decode cX12_isLate 41 = .ok (.goto 4, 3) := by decide +kernel
theorem dX12_isLate_44 : decode cX12_isLate 44 = .ok (.iconst 0, 1) := by decide +kernel
theorem dX12_isLate_45 : decode cX12_isLate 45 = .ok (.ireturn, 1) := by decide +kernel
theorem dX12_isLegal_0 : decode cX12_isLegal 0 = .ok (.iload_n 1, 1) := by decide +kernel
theorem dX12_isLegal_1 : decode cX12_isLegal 1 = .ok (.iconst 0, 1) := by decide +kernel
theorem dX12_isLegal_2 : decode cX12_isLegal 2 = .ok (.aload_n 0, 1) := by decide +kernel
theorem dX12_isLegal_3 : decode cX12_isLegal 3 = .ok (.invokevirtual 438, 3) := by decide +kernel
theorem dX12_isLegal_6 : decode cX12_isLegal 6 = .ok (.iconst 1, 1) := by decide +kernel
theorem dX12_isLegal_7 : decode cX12_isLegal 7 = .ok (.isub, 1) := by decide +kernel
theorem dX12_isLegal_8 : decode cX12_isLegal 8 = .ok (.invokestatic 407, 3) := by decide +kernel
theorem dX12_isLegal_11 : decode cX12_isLegal 11 = .ok (.ifCond .eq 24, 3) := by decide +kernel
theorem dX12_isLegal_14 : decode cX12_isLegal 14 = .ok (.aload_n 0, 1) := by decide +kernel
theorem dX12_isLegal_15 : decode cX12_isLegal 15 = .ok (.iload_n 1, 1) := by decide +kernel
theorem dX12_isLegal_16 : decode cX12_isLegal 16 = .ok (.aload_n 0, 1) := by decide +kernel
theorem dX12_isLegal_17 : decode cX12_isLegal 17 = .ok (.getfield 27, 3) := by decide +kernel
theorem dX12_isLegal_20 : decode cX12_isLegal 20 = .ok (.aload_n 0, 1) := by decide +kernel
theorem dX12_isLegal_21 : decode cX12_isLegal 21 = .ok (.getfield 274, 3) := by decide +kernel
theorem dX12_isLegal_24 : decode cX12_isLegal 24 = .ok (.iaload, 1) := by decide +kernel
theorem dX12_isLegal_25 : decode cX12_isLegal 25 = .ok (.invokevirtual 441, 3) := by decide +kernel
theorem dX12_isLegal_28 : decode cX12_isLegal 28 = .ok (.ifCond .eq 7, 3) := by decide +kernel
theorem dX12_isLegal_31 : decode cX12_isLegal 31 = .ok (.iconst 1, 1) := by decide +kernel
theorem dX12_isLegal_32 : decode cX12_isLegal 32 = .ok (.goto 4, 3) := by decide +kernel
theorem dX12_isLegal_35 : decode cX12_isLegal 35 = .ok (.iconst 0, 1) := by decide +kernel
theorem dX12_isLegal_36 : decode cX12_isLegal 36 = .ok (.ireturn, 1) := by decide +kernel
theorem dX12_isLegalBy_0 : decode cX12_isLegalBy 0 = .ok (.iload_n 1, 1) := by decide +kernel
theorem dX12_isLegalBy_1 : decode cX12_isLegalBy 1 = .ok (.istore_n 3, 1) := by decide +kernel
theorem dX12_isLegalBy_2 : decode cX12_isLegalBy 2 = .ok (.iload_n 3, 1) := by decide +kernel
theorem dX12_isLegalBy_3 : decode cX12_isLegalBy 3 = .ok (.aload_n 0, 1) := by decide +kernel
theorem dX12_isLegalBy_4 : decode cX12_isLegalBy 4 = .ok (.invokevirtual 429, 3) := by decide +kernel
theorem dX12_isLegalBy_7 : decode cX12_isLegalBy 7 = .ok (.irem, 1) := by decide +kernel
theorem dX12_isLegalBy_8 : decode cX12_isLegalBy 8 = .ok (.istore 4, 2) := by decide +kernel
theorem dX12_isLegalBy_10 : decode cX12_isLegalBy 10 = .ok (.iconst 1, 1) := by decide +kernel
theorem dX12_isLegalBy_11 : decode cX12_isLegalBy 11 = .ok (.istore 5, 2) := by decide +kernel
theorem dX12_isLegalBy_13 : decode cX12_isLegalBy 13 = .ok (.iload 5, 2) := by decide +kernel
theorem dX12_isLegalBy_15 : decode cX12_isLegalBy 15 = .ok (.aload_n 0, 1) := by decide +kernel
theorem dX12_isLegalBy_16 : decode cX12_isLegalBy 16 = .ok (.invokevirtual 414, 3) := by decide +kernel
theorem dX12_isLegalBy_19 : decode cX12_isLegalBy 19 = .ok (.if_icmp .ge 42, 3) := by decide +kernel
theorem dX12_isLegalBy_22 : decode cX12_isLegalBy 22 = .ok (.iload_n 3, 1) := by decide +kernel
theorem dX12_isLegalBy_23 : decode cX12_isLegalBy 23 = .ok (.aload_n 0, 1) := by decide +kernel
theorem dX12_isLegalBy_24 : decode cX12_isLegalBy 24 = .ok (.invokevirtual 429, 3) := by decide +kernel
theorem dX12_isLegalBy_27 : decode cX12_isLegalBy 27 = .ok (.idiv, 1) := by decide +kernel
theorem dX12_isLegalBy_28 : decode cX12_isLegalBy 28 = .ok (.istore_n 3, 1) := by decide +kernel
theorem dX12_isLegalBy_29 : decode cX12_isLegalBy 29 = .ok (.iload_n 3, 1) := by decide +kernel
theorem dX12_isLegalBy_30 : decode cX12_isLegalBy 30 = .ok (.aload_n 0, 1) := by decide +kernel
theorem dX12_isLegalBy_31 : decode cX12_isLegalBy 31 = .ok (.invokevirtual 429, 3) := by decide +kernel
theorem dX12_isLegalBy_34 : decode cX12_isLegalBy 34 = .ok (.irem, 1) := by decide +kernel
theorem dX12_isLegalBy_35 : decode cX12_isLegalBy 35 = .ok (.iload 4, 2) := by decide +kernel
theorem dX12_isLegalBy_37 : decode cX12_isLegalBy 37 = .ok (.isub, 1) := by decide +kernel
theorem dX12_isLegalBy_38 : decode cX12_isLegalBy 38 = .ok (.invokestatic 435, 3) := by decide +kernel
theorem dX12_isLegalBy_41 : decode cX12_isLegalBy 41 = .ok (.iload_n 2, 1) := by decide +kernel
theorem dX12_isLegalBy_42 : decode cX12_isLegalBy 42 = .ok (.if_icmp .le 5, 3) := by decide +kernel
theorem dX12_isLegalBy_45 : decode cX12_isLegalBy 45 = .ok (.iconst 0, 1) := by decide +kernel
theorem dX12_isLegalBy_46 : decode cX12_isLegalBy 46 = .ok (.ireturn, 1) := by decide +kernel
theorem dX12_isLegalBy_47 : decode cX12_isLegalBy 47 = .ok (.iload_n 3, 1) := by decide +kernel
theorem dX12_isLegalBy_48 : decode cX12_isLegalBy 48 = .ok (.aload_n 0, 1) := by decide +kernel
theorem dX12_isLegalBy_49 : decode cX12_isLegalBy 49 = .ok (.invokevirtual 429, 3) := by decide +kernel
theorem dX12_isLegalBy_52 : decode cX12_isLegalBy 52 = .ok (.irem, 1) := by decide +kernel
theorem dX12_isLegalBy_53 : decode cX12_isLegalBy 53 = .ok (.istore 4, 2) := by decide +kernel
theorem dX12_isLegalBy_55 : decode cX12_isLegalBy 55 = .ok (.iinc 5 1, 3) := by decide +kernel
theorem dX12_isLegalBy_58 : decode cX12_isLegalBy 58 = .ok (.goto (-45), 3) := by decide +kernel
theorem dX12_isLegalBy_61 : decode cX12_isLegalBy 61 = .ok (.iconst 1, 1) := by decide +kernel
theorem dX12_isLegalBy_62 : decode cX12_isLegalBy 62 = .ok (.ireturn, 1) := by decide +kernel
theorem dX12_isLetter_0 : decode cX12_isLetter 0 = .ok (.iload_n 0, 1) := by decide +kernel
theorem dX12_isLetter_1 : decode cX12_isLetter 1 = .ok (.bipush 97, 2) := by decide +kernel
theorem dX12_isLetter_3 : decode cX12_isLetter 3 = .ok (.if_icmp .lt 13, 3) := by decide +kernel
theorem dX12_isLetter_6 : decode cX12_isLetter 6 = .ok (.iload_n 0, 1) := by decide +kernel
theorem dX12_isLetter_7 : decode cX12_isLetter 7 = .ok (.bipush 122, 2) := by decide +kernel
theorem dX12_isLetter_9 : decode cX12_isLetter 9 = .ok (.if_icmp .gt 7, 3) := by decide +kernel
theorem dX12_isLetter_12 : decode cX12_isLetter 12 = .ok (.iconst 1, 1) := by decide +kernel
theorem dX12_isLetter_13 : decode cX12_isLetter 13 = .ok (.goto 4, 3) := by decide +kernel
theorem dX12_isLetter_16 : decode cX12_isLetter 16 = .ok (.iconst 0, 1) := by decide +kernel
theorem dX12_isLetter_17 : decode cX12_isLetter 17 = .ok (.ireturn, 1) := by decide +kernel
theorem dX12_isLock_0 : decode cX12_isLock 0 = .ok (.iload_n 1, 1) := by decide +kernel
theorem dX12_isLock_1 : decode cX12_isLock 1 = .ok (.iconst 0, 1) := by decide +kernel
theorem dX12_isLock_2 : decode cX12_isLock 2 = .ok (.aload_n 0, 1) := by decide +kernel
theorem dX12_isLock_3 : decode cX12_isLock 3 = .ok (.invokevirtual 411, 3) := by decide +kernel
theorem dX12_isLock_6 : decode cX12_isLock 6 = .ok (.iconst 1, 1) := by decide +kernel
theorem dX12_isLock_7 : decode cX12_isLock 7 = .ok (.isub, 1) := by decide +kernel
theorem dX12_isLock_8 : decode cX12_isLock 8 = .ok (.invokestatic 407, 3) := by decide +kernel
theorem dX12_isLock_11 : decode cX12_isLock 11 = .ok (.ireturn, 1) := by decide +kernel
theorem dX12_isPerson_0 : decode cX12_isPerson 0 = .ok (.iload_n 1, 1) := by decide +kernel
theorem dX12_isPerson_1 : decode cX12_isPerson 1 = .ok (.iconst 0, 1) := by decide +kernel
theorem dX12_isPerson_2 : decode cX12_isPerson 2 = .ok (.aload_n 0, 1) := by decide +kernel
theorem dX12_isPerson_3 : decode cX12_isPerson 3 = .ok (.getfield 42, 3) := by decide +kernel
theorem dX12_isPerson_6 : decode cX12_isPerson 6 = .ok (.aload_n 0, 1) := by decide +kernel
theorem dX12_isPerson_7 : decode cX12_isPerson 7 = .ok (.getfield 274, 3) := by decide +kernel
theorem dX12_isPerson_10 : decode cX12_isPerson 10 = .ok (.iaload, 1) := by decide +kernel
theorem dX12_isPerson_11 : decode cX12_isPerson 11 = .ok (.iconst 1, 1) := by decide +kernel
theorem dX12_isPerson_12 : decode cX12_isPerson 12 = .ok (.isub, 1) := by decide +kernel
theorem dX12_isPerson_13 : decode cX12_isPerson 13 = .ok (.invokestatic 407, 3) := by decide +kernel
theorem dX12_isPerson_16 : decode cX12_isPerson 16 = .ok (.ireturn, 1) := by decide +kernel
theorem dX12_isRoom_0 : decode cX12_isRoom 0 = .ok (.iload_n 1, 1) := by decide +kernel
theorem dX12_isRoom_1 : decode cX12_isRoom 1 = .ok (.iconst 0, 1) := by decide +kernel
theorem dX12_isRoom_2 : decode cX12_isRoom 2 = .ok (.aload_n 0, 1) := by decide +kernel
theorem dX12_isRoom_3 : decode cX12_isRoom 3 = .ok (.getfield 36, 3) := by decide +kernel
theorem dX12_isRoom_6 : decode cX12_isRoom 6 = .ok (.aload_n 0, 1) := by decide +kernel
theorem dX12_isRoom_7 : decode cX12_isRoom 7 = .ok (.getfield 274, 3) := by decide +kernel
theorem dX12_isRoom_10 : decode cX12_isRoom 10 = .ok (.iaload, 1) := by decide +kernel
theorem dX12_isRoom_11 : decode cX12_isRoom 11 = .ok (.iconst 1, 1) := by decide +kernel
theorem dX12_isRoom_12 : decode cX12_isRoom 12 = .ok (.isub, 1) := by decide +kernel
theorem dX12_isRoom_13 : decode cX12_isRoom 13 = .ok (.invokestatic 407, 3) := by decide +kernel
theorem dX12_isRoom_16 : decode cX12_isRoom 16 = .ok (.ireturn, 1) := by decide +kernel
theorem dX12_isSign_0 : decode cX12_isSign 0 = .ok (.iload_n 0, 1) := by decide +kernel
theorem dX12_isSign_1 : decode cX12_isSign 1 = .ok (.bipush 59, 2) := by decide +kernel
theorem dX12_isSign_3 : decode cX12_isSign 3 = .ok (.if_icmp .eq 63, 3) := by decide +kernel
theorem dX12_isSign_6 : decode cX12_isSign 6 = .ok (.iload_n 0, 1) := by decide +kernel
theorem dX12_isSign_7 : decode cX12_isSign 7 = .ok (.bipush 40, 2) := by decide +kernel
theorem dX12_isSign_9 : decode cX12_isSign 9 = .ok (.if_icmp .eq 57, 3) := by decide +kernel
theorem dX12_isSign_12 : decode cX12_isSign 12 = .ok (.iload_n 0, 1) := by decide +kernel
theorem dX12_isSign_13 : decode cX12_isSign 13 = .ok (.bipush 41, 2) := by decide +kernel
theorem dX12_isSign_15 : decode cX12_isSign 15 = .ok (.if_icmp .eq 51, 3) := by decide +kernel
theorem dX12_isSign_18 : decode cX12_isSign 18 = .ok (.iload_n 0, 1) := by decide +kernel
theorem dX12_isSign_19 : decode cX12_isSign 19 = .ok (.bipush 60, 2) := by decide +kernel
theorem dX12_isSign_21 : decode cX12_isSign 21 = .ok (.if_icmp .eq 45, 3) := by decide +kernel
theorem dX12_isSign_24 : decode cX12_isSign 24 = .ok (.iload_n 0, 1) := by decide +kernel
theorem dX12_isSign_25 : decode cX12_isSign 25 = .ok (.bipush 62, 2) := by decide +kernel
theorem dX12_isSign_27 : decode cX12_isSign 27 = .ok (.if_icmp .eq 39, 3) := by decide +kernel
theorem dX12_isSign_30 : decode cX12_isSign 30 = .ok (.iload_n 0, 1) := by decide +kernel
theorem dX12_isSign_31 : decode cX12_isSign 31 = .ok (.bipush 61, 2) := by decide +kernel
theorem dX12_isSign_33 : decode cX12_isSign 33 = .ok (.if_icmp .eq 33, 3) := by decide +kernel
theorem dX12_isSign_36 : decode cX12_isSign 36 = .ok (.iload_n 0, 1) := by decide +kernel
theorem dX12_isSign_37 : decode cX12_isSign 37 = .ok (.bipush 43, 2) := by decide +kernel
theorem dX12_isSign_39 : decode cX12_isSign 39 = .ok (.if_icmp .eq 27, 3) := by decide +kernel
theorem dX12_isSign_42 : decode cX12_isSign 42 = .ok (.iload_n 0, 1) := by decide +kernel
theorem dX12_isSign_43 : decode cX12_isSign 43 = .ok (.bipush 45, 2) := by decide +kernel
theorem dX12_isSign_45 : decode cX12_isSign 45 = .ok (.if_icmp .eq 21, 3) := by decide +kernel
theorem dX12_isSign_48 : decode cX12_isSign 48 = .ok (.iload_n 0, 1) := by decide +kernel
theorem dX12_isSign_49 : decode cX12_isSign 49 = .ok (.bipush 42, 2) := by decide +kernel
theorem dX12_isSign_51 : decode cX12_isSign 51 = .ok (.if_icmp .eq 15, 3) := by decide +kernel
theorem dX12_isSign_54 : decode cX12_isSign 54 = .ok (.iload_n 0, 1) := by decide +kernel
theorem dX12_isSign_55 : decode cX12_isSign 55 = .ok (.bipush 47, 2) := by decide +kernel
theorem dX12_isSign_57 : decode cX12_isSign 57 = .ok (.if_icmp .eq 9, 3) := by decide +kernel
theorem dX12_isSign_60 : decode cX12_isSign 60 = .ok (.iload_n 0, 1) := by decide +kernel
theorem dX12_isSign_61 : decode cX12_isSign 61 = .ok (.bipush 37, 2) := by decide +kernel
theorem dX12_isSign_63 : decode cX12_isSign 63 = .ok (.if_icmp .ne 7, 3) := by decide +kernel
theorem dX12_isSign_66 : decode cX12_isSign 66 = .ok (.iconst 1, 1) := by decide +kernel
theorem dX12_isSign_67 : decode cX12_isSign 67 = .ok (.goto 4, 3) := by decide +kernel
theorem dX12_isSign_70 : decode cX12_isSign 70 = .ok (.iconst 0, 1) := by decide +kernel
theorem dX12_isSign_71 : decode cX12_isSign 71 = .ok (.ireturn, 1) := by decide +kernel
theorem dX12_isSignHere_0 : decode cX12_isSignHere 0 = .ok (.aload_n 0, 1) := by decide +kernel
theorem dX12_isSignHere_1 : decode cX12_isSignHere 1 = .ok (.getfield 223, 3) := by decide +kernel
theorem dX12_isSignHere_4 : decode cX12_isSignHere 4 = .ok (.iconst 5, 1) := by decide +kernel
theorem dX12_isSignHere_5 : decode cX12_isSignHere 5 = .ok (.if_icmp .ne 19, 3) := by decide +kernel
theorem dX12_isSignHere_8 : decode cX12_isSignHere 8 = .ok (.aload_n 0, 1) := by decide +kernel
theorem dX12_isSignHere_9 : decode cX12_isSignHere 9 = .ok (.aload_n 0, 1) := by decide +kernel
theorem dX12_isSignHere_10 : decode cX12_isSignHere 10 = .ok (.getfield 216, 3) := by decide +kernel
theorem dX12_isSignHere_13 : decode cX12_isSignHere 13 = .ok (.invokevirtual 219, 3) := by decide +kernel
theorem dX12_isSignHere_16 : decode cX12_isSignHere 16 = .ok (.iload_n 1, 1) := by decide +kernel
theorem dX12_isSignHere_17 : decode cX12_isSignHere 17 = .ok (.if_icmp .ne 7, 3) := by decide +kernel
theorem dX12_isSignHere_20 : decode cX12_isSignHere 20 = .ok (.iconst 1, 1) := by decide +kernel
theorem dX12_isSignHere_21 : decode cX12_isSignHere 21 = .ok (.goto 4, 3) := by decide +kernel
theorem dX12_isSignHere_24 : decode cX12_isSignHere 24 = .ok (.iconst 0, 1) := by decide +kernel
theorem dX12_isSignHere_25 : decode cX12_isSignHere 25 = .ok (.ireturn, 1) := by decide +kernel
theorem dX12_isWord_0 : decode cX12_isWord 0 = .ok (.aload_n 0, 1) := by decide +kernel
theorem dX12_isWord_1 : decode cX12_isWord 1 = .ok (.getfield 223, 3) := by decide +kernel
theorem dX12_isWord_4 : decode cX12_isWord 4 = .ok (.iconst 3, 1) := by decide +kernel
theorem dX12_isWord_5 : decode cX12_isWord 5 = .ok (.if_icmp .ne 16, 3) := by decide +kernel
theorem dX12_isWord_8 : decode cX12_isWord 8 = .ok (.aload_n 0, 1) := by decide +kernel
theorem dX12_isWord_9 : decode cX12_isWord 9 = .ok (.getfield 230, 3) := by decide +kernel
theorem dX12_isWord_12 : decode cX12_isWord 12 = .ok (.lload_n 1, 1) := by decide +kernel
theorem dX12_isWord_13 : decode cX12_isWord 13 = .ok (.lcmp, 1) := by decide +kernel
theorem dX12_isWord_14 : decode cX12_isWord 14 = .ok (.ifCond .ne 7, 3) := by decide +kernel
theorem dX12_isWord_17 : decode cX12_isWord 17 = .ok (.iconst 1, 1) := by decide +kernel
theorem dX12_isWord_18 : decode cX12_isWord 18 = .ok (.goto 4, 3) := by decide +kernel
theorem dX12_isWord_21 : decode cX12_isWord 21 = .ok (.iconst 0, 1) := by decide +kernel
theorem dX12_isWord_22 : decode cX12_isWord 22 = .ok (.ireturn, 1) := by decide +kernel
theorem dX12_keepAct_0 : decode cX12_keepAct 0 = .ok (.aload_n 0, 1) := by decide +kernel
theorem dX12_keepAct_1 : decode cX12_keepAct 1 = .ok (.getfield 417, 3) := by decide +kernel
theorem dX12_keepAct_4 : decode cX12_keepAct 4 = .ok (.bipush 40, 2) := by decide +kernel
theorem dX12_keepAct_6 : decode cX12_keepAct 6 = .ok (.if_icmp .ne 43, 3) := by decide +kernel
theorem dX12_keepAct_9 : decode cX12_keepAct 9 = .ok (.iconst 0, 1) := by decide +kernel
theorem dX12_keepAct_10 : decode cX12_keepAct 10 = .ok (.istore_n 1, 1) := by decide +kernel
theorem dX12_keepAct_11 : decode cX12_keepAct 11 = .ok (.iload_n 1, 1) := by decide +kernel
theorem dX12_keepAct_12 : decode cX12_keepAct 12 = .ok (.sipush 3640, 3) := by decide +kernel
theorem dX12_keepAct_15 : decode cX12_keepAct 15 = .ok (.if_icmp .ge 24, 3) := by decide +kernel
theorem dX12_keepAct_18 : decode cX12_keepAct 18 = .ok (.aload_n 0, 1) := by decide +kernel
theorem dX12_keepAct_19 : decode cX12_keepAct 19 = .ok (.getfield 133, 3) := by decide +kernel
theorem dX12_keepAct_22 : decode cX12_keepAct 22 = .ok (.iload_n 1, 1) := by decide +kernel
theorem dX12_keepAct_23 : decode cX12_keepAct 23 = .ok (.aload_n 0, 1) := by decide +kernel
theorem dX12_keepAct_24 : decode cX12_keepAct 24 = .ok (.getfield 133, 3) := by decide +kernel
theorem dX12_keepAct_27 : decode cX12_keepAct 27 = .ok (.iload_n 1, 1) := by decide +kernel
theorem dX12_keepAct_28 : decode cX12_keepAct 28 = .ok (.bipush 91, 2) := by decide +kernel
theorem dX12_keepAct_30 : decode cX12_keepAct 30 = .ok (.iadd, 1) := by decide +kernel
theorem dX12_keepAct_31 : decode cX12_keepAct 31 = .ok (.iaload, 1) := by decide +kernel
theorem dX12_keepAct_32 : decode cX12_keepAct 32 = .ok (.iastore, 1) := by decide +kernel
theorem dX12_keepAct_33 : decode cX12_keepAct 33 = .ok (.iinc 1 1, 3) := by decide +kernel
theorem dX12_keepAct_36 : decode cX12_keepAct 36 = .ok (.goto (-25), 3) := by decide +kernel
theorem dX12_keepAct_39 : decode cX12_keepAct 39 = .ok (.aload_n 0, 1) := by decide +kernel
theorem dX12_keepAct_40 : decode cX12_keepAct 40 = .ok (.dup, 1) := by decide +kernel
theorem dX12_keepAct_41 : decode cX12_keepAct 41 = .ok (.getfield 417, 3) := by decide +kernel
theorem dX12_keepAct_44 : decode cX12_keepAct 44 = .ok (.iconst 1, 1) := by decide +kernel
theorem dX12_keepAct_45 : decode cX12_keepAct 45 = .ok (.isub, 1) := by decide +kernel
theorem dX12_keepAct_46 : decode cX12_keepAct 46 = .ok (.putfield 417, 3) := by decide +kernel
theorem dX12_keepAct_49 : decode cX12_keepAct 49 = .ok (.iconst 0, 1) := by decide +kernel
theorem dX12_keepAct_50 : decode cX12_keepAct 50 = .ok (.istore_n 1, 1) := by decide +kernel
theorem dX12_keepAct_51 : decode cX12_keepAct 51 = .ok (.iload_n 1, 1) := by decide +kernel
theorem dX12_keepAct_52 : decode cX12_keepAct 52 = .ok (.bipush 91, 2) := by decide +kernel
theorem dX12_keepAct_54 : decode cX12_keepAct 54 = .ok (.if_icmp .ge 29, 3) := by decide +kernel
theorem dX12_keepAct_57 : decode cX12_keepAct 57 = .ok (.aload_n 0, 1) := by decide +kernel
theorem dX12_keepAct_58 : decode cX12_keepAct 58 = .ok (.getfield 133, 3) := by decide +kernel
theorem dX12_keepAct_61 : decode cX12_keepAct 61 = .ok (.bipush 91, 2) := by decide +kernel
theorem dX12_keepAct_63 : decode cX12_keepAct 63 = .ok (.aload_n 0, 1) := by decide +kernel
theorem dX12_keepAct_64 : decode cX12_keepAct 64 = .ok (.getfield 417, 3) := by decide +kernel
theorem dX12_keepAct_67 : decode cX12_keepAct 67 = .ok (.imul, 1) := by decide +kernel
theorem dX12_keepAct_68 : decode cX12_keepAct 68 = .ok (.iload_n 1, 1) := by decide +kernel
theorem dX12_keepAct_69 : decode cX12_keepAct 69 = .ok (.iadd, 1) := by decide +kernel
theorem dX12_keepAct_70 : decode cX12_keepAct 70 = .ok (.aload_n 0, 1) := by decide +kernel
theorem dX12_keepAct_71 : decode cX12_keepAct 71 = .ok (.getfield 118, 3) := by decide +kernel
theorem dX12_keepAct_74 : decode cX12_keepAct 74 = .ok (.iload_n 1, 1) := by decide +kernel
theorem dX12_keepAct_75 : decode cX12_keepAct 75 = .ok (.iaload, 1) := by decide +kernel
theorem dX12_keepAct_76 : decode cX12_keepAct 76 = .ok (.iastore, 1) := by decide +kernel
theorem dX12_keepAct_77 : decode cX12_keepAct 77 = .ok (.iinc 1 1, 3) := by decide +kernel
theorem dX12_keepAct_80 : decode cX12_keepAct 80 = .ok (.goto (-29), 3) := by decide +kernel
theorem dX12_keepAct_83 : decode cX12_keepAct 83 = .ok (.aload_n 0, 1) := by decide +kernel
theorem dX12_keepAct_84 : decode cX12_keepAct 84 = .ok (.dup, 1) := by decide +kernel
theorem dX12_keepAct_85 : decode cX12_keepAct 85 = .ok (.getfield 417, 3) := by decide +kernel
theorem dX12_keepAct_88 : decode cX12_keepAct 88 = .ok (.iconst 1, 1) := by decide +kernel
theorem dX12_keepAct_89 : decode cX12_keepAct 89 = .ok (.iadd, 1) := by decide +kernel
theorem dX12_keepAct_90 : decode cX12_keepAct 90 = .ok (.putfield 417, 3) := by decide +kernel
theorem dX12_keepAct_93 : decode cX12_keepAct 93 = .ok (.aload_n 0, 1) := by decide +kernel
theorem dX12_keepAct_94 : decode cX12_keepAct 94 = .ok (.iconst 0, 1) := by decide +kernel
theorem dX12_keepAct_95 : decode cX12_keepAct 95 = .ok (.putfield 420, 3) := by decide +kernel
theorem dX12_keepAct_98 : decode cX12_keepAct 98 = .ok (.return_, 1) := by decide +kernel
theorem dX12_keepNow_0 : decode cX12_keepNow 0 = .ok (.iconst 0, 1) := by decide +kernel
theorem dX12_keepNow_1 : decode cX12_keepNow 1 = .ok (.istore_n 1, 1) := by decide +kernel
theorem dX12_keepNow_2 : decode cX12_keepNow 2 = .ok (.iload_n 1, 1) := by decide +kernel
theorem dX12_keepNow_3 : decode cX12_keepNow 3 = .ok (.bipush 91, 2) := by decide +kernel
theorem dX12_keepNow_5 : decode cX12_keepNow 5 = .ok (.if_icmp .ge 21, 3) := by decide +kernel
theorem dX12_keepNow_8 : decode cX12_keepNow 8 = .ok (.aload_n 0, 1) := by decide +kernel
theorem dX12_keepNow_9 : decode cX12_keepNow 9 = .ok (.getfield 121, 3) := by decide +kernel
theorem dX12_keepNow_12 : decode cX12_keepNow 12 = .ok (.iload_n 1, 1) := by decide +kernel
theorem dX12_keepNow_13 : decode cX12_keepNow 13 = .ok (.aload_n 0, 1) := by decide +kernel
theorem dX12_keepNow_14 : decode cX12_keepNow 14 = .ok (.getfield 118, 3) := by decide +kernel
theorem dX12_keepNow_17 : decode cX12_keepNow 17 = .ok (.iload_n 1, 1) := by decide +kernel
theorem dX12_keepNow_18 : decode cX12_keepNow 18 = .ok (.iaload, 1) := by decide +kernel
theorem dX12_keepNow_19 : decode cX12_keepNow 19 = .ok (.iastore, 1) := by decide +kernel
theorem dX12_keepNow_20 : decode cX12_keepNow 20 = .ok (.iinc 1 1, 3) := by decide +kernel
theorem dX12_keepNow_23 : decode cX12_keepNow 23 = .ok (.goto (-21), 3) := by decide +kernel
theorem dX12_keepNow_26 : decode cX12_keepNow 26 = .ok (.return_, 1) := by decide +kernel
theorem dX12_keeps_0 : decode cX12_keeps 0 = .ok (.aload_n 0, 1) := by decide +kernel
theorem dX12_keeps_1 : decode cX12_keeps 1 = .ok (.iload_n 1, 1) := by decide +kernel
theorem dX12_keeps_2 : decode cX12_keeps 2 = .ok (.invokevirtual 462, 3) := by decide +kernel
theorem dX12_keeps_5 : decode cX12_keeps 5 = .ok (.ifCond .ne 5, 3) := by decide +kernel
theorem dX12_keeps_8 : decode cX12_keeps 8 = .ok (.iconst (-1), 1) := by decide +kernel
theorem dX12_keeps_9 : decode cX12_keeps 9 = .ok (.ireturn, 1) := by decide +kernel
theorem dX12_keeps_10 : decode cX12_keeps 10 = .ok (.aload_n 0, 1) := by decide +kernel
theorem dX12_keeps_11 : decode cX12_keeps 11 = .ok (.invokevirtual 553, 3) := by decide +kernel
theorem dX12_keeps_14 : decode cX12_keeps 14 = .ok (.iconst (-1), 1) := by decide +kernel
theorem dX12_keeps_15 : decode cX12_keeps 15 = .ok (.istore_n 2, 1) := by decide +kernel
theorem dX12_keeps_16 : decode cX12_keeps 16 = .ok (.iconst 0, 1) := by decide +kernel
theorem dX12_keeps_17 : decode cX12_keeps 17 = .ok (.istore_n 3, 1) := by decide +kernel
theorem dX12_keeps_18 : decode cX12_keeps 18 = .ok (.iload_n 3, 1) := by decide +kernel
theorem dX12_keeps_19 : decode cX12_keeps 19 = .ok (.aload_n 0, 1) := by decide +kernel
theorem dX12_keeps_20 : decode cX12_keeps 20 = .ok (.invokevirtual 438, 3) := by decide +kernel
theorem dX12_keeps_23 : decode cX12_keeps 23 = .ok (.if_icmp .ge 44, 3) := by decide +kernel
theorem dX12_keeps_26 : decode cX12_keeps 26 = .ok (.iload_n 2, 1) := by decide +kernel
theorem dX12_keeps_27 : decode cX12_keeps 27 = .ok (.ifCond .ge 40, 3) := by decide +kernel
theorem dX12_keeps_30 : decode cX12_keeps 30 = .ok (.aload_n 0, 1) := by decide +kernel
theorem dX12_keeps_31 : decode cX12_keeps 31 = .ok (.iload_n 3, 1) := by decide +kernel
theorem dX12_keeps_32 : decode cX12_keeps 32 = .ok (.invokevirtual 456, 3) := by decide +kernel
theorem dX12_keeps_35 : decode cX12_keeps 35 = .ok (.ifCond .ne 6, 3) := by decide +kernel
theorem dX12_keeps_38 : decode cX12_keeps 38 = .ok (.goto 23, 3) := by decide +kernel
theorem dX12_keeps_41 : decode cX12_keeps 41 = .ok (.aload_n 0, 1) := by decide +kernel
theorem dX12_keeps_42 : decode cX12_keeps 42 = .ok (.iload_n 1, 1) := by decide +kernel
theorem dX12_keeps_43 : decode cX12_keeps 43 = .ok (.iload_n 3, 1) := by decide +kernel
theorem dX12_keeps_44 : decode cX12_keeps 44 = .ok (.invokevirtual 565, 3) := by decide +kernel
theorem dX12_keeps_47 : decode cX12_keeps 47 = .ok (.aload_n 0, 1) := by decide +kernel
theorem dX12_keeps_48 : decode cX12_keeps 48 = .ok (.invokevirtual 556, 3) := by decide +kernel
theorem dX12_keeps_51 : decode cX12_keeps 51 = .ok (.aload_n 0, 1) := by decide +kernel
theorem dX12_keeps_52 : decode cX12_keeps 52 = .ok (.iconst 0, 1) := by decide +kernel
theorem dX12_keeps_53 : decode cX12_keeps 53 = .ok (.invokevirtual 559, 3) := by decide +kernel
theorem dX12_keeps_56 : decode cX12_keeps 56 = .ok (.ifCond .ne 5, 3) := by decide +kernel
theorem dX12_keeps_59 : decode cX12_keeps 59 = .ok (.iload_n 3, 1) := by decide +kernel
theorem dX12_keeps_60 : decode cX12_keeps 60 = .ok (.istore_n 2, 1) := by decide +kernel
theorem dX12_keeps_61 : decode cX12_keeps 61 = .ok (.iinc 3 1, 3) := by decide +kernel
theorem dX12_keeps_64 : decode cX12_keeps 64 = .ok (.goto (-46), 3) := by decide +kernel
theorem dX12_keeps_67 : decode cX12_keeps 67 = .ok (.aload_n 0, 1) := by decide +kernel
theorem dX12_keeps_68 : decode cX12_keeps 68 = .ok (.invokevirtual 562, 3) := by decide +kernel
theorem dX12_keeps_71 : decode cX12_keeps 71 = .ok (.iload_n 2, 1) := by decide +kernel
theorem dX12_keeps_72 : decode cX12_keeps 72 = .ok (.ireturn, 1) := by decide +kernel
theorem dX12_key_0 : decode cX12_key 0 = .ok (.aload_n 0, 1) := by decide +kernel
theorem dX12_key_1 : decode cX12_key 1 = .ok (.iload_n 1, 1) := by decide +kernel
theorem dX12_key_2 : decode cX12_key 2 = .ok (.invokevirtual 462, 3) := by decide +kernel
theorem dX12_key_5 : decode cX12_key 5 = .ok (.ifCond .ne 6, 3) := by decide +kernel
theorem dX12_key_8 : decode cX12_key 8 = .ok (.bipush (-3), 2) := by decide +kernel
theorem dX12_key_10 : decode cX12_key 10 = .ok (.ireturn, 1) := by decide +kernel
theorem dX12_key_11 : decode cX12_key 11 = .ok (.iload_n 2, 1) := by decide +kernel
theorem dX12_key_12 : decode cX12_key 12 = .ok (.tableswitch 64 0 3 #[32, 38, 48, 54], 32) := by decide +kernel
theorem dX12_key_44 : decode cX12_key 44 = .ok (.aload_n 0, 1) := by decide +kernel
theorem dX12_key_45 : decode cX12_key 45 = .ok (.iload_n 1, 1) := by decide +kernel
theorem dX12_key_46 : decode cX12_key 46 = .ok (.invokevirtual 450, 3) := by decide +kernel
theorem dX12_key_49 : decode cX12_key 49 = .ok (.ireturn, 1) := by decide +kernel
theorem dX12_key_50 : decode cX12_key 50 = .ok (.aload_n 0, 1) := by decide +kernel
theorem dX12_key_51 : decode cX12_key 51 = .ok (.getfield 118, 3) := by decide +kernel
theorem dX12_key_54 : decode cX12_key 54 = .ok (.bipush 40, 2) := by decide +kernel
theorem dX12_key_56 : decode cX12_key 56 = .ok (.iload_n 1, 1) := by decide +kernel
theorem dX12_key_57 : decode cX12_key 57 = .ok (.iadd, 1) := by decide +kernel
theorem dX12_key_58 : decode cX12_key 58 = .ok (.iaload, 1) := by decide +kernel
theorem dX12_key_59 : decode cX12_key 59 = .ok (.ireturn, 1) := by decide +kernel
theorem dX12_key_60 : decode cX12_key 60 = .ok (.aload_n 0, 1) := by decide +kernel
theorem dX12_key_61 : decode cX12_key 61 = .ok (.iload_n 1, 1) := by decide +kernel
theorem dX12_key_62 : decode cX12_key 62 = .ok (.invokevirtual 465, 3) := by decide +kernel
theorem dX12_key_65 : decode cX12_key 65 = .ok (.ireturn, 1) := by decide +kernel
theorem dX12_key_66 : decode cX12_key 66 = .ok (.aload_n 0, 1) := by decide +kernel
theorem dX12_key_67 : decode cX12_key 67 = .ok (.aload_n 0, 1) := by decide +kernel
theorem dX12_key_68 : decode cX12_key 68 = .ok (.iload_n 1, 1) := by decide +kernel
theorem dX12_key_69 : decode cX12_key 69 = .ok (.invokevirtual 450, 3) := by decide +kernel
theorem dX12_key_72 : decode cX12_key 72 = .ok (.invokevirtual 459, 3) := by decide +kernel
theorem dX12_key_75 : decode cX12_key 75 = .ok (.ireturn, 1) := by decide +kernel
theorem dX12_key_76 : decode cX12_key 76 = .ok (.bipush (-3), 2) := by decide +kernel
theorem dX12_key_78 : decode cX12_key 78 = .ok (.ireturn, 1) := by decide +kernel
theorem dX12_keyHere_0 : decode cX12_keyHere 0 = .ok (.aload_n 0, 1) := by decide +kernel
theorem dX12_keyHere_1 : decode cX12_keyHere 1 = .ok (.aload_n 0, 1) := by decide +kernel
theorem dX12_keyHere_2 : decode cX12_keyHere 2 = .ok (.getfield 87, 3) := by decide +kernel
theorem dX12_keyHere_5 : decode cX12_keyHere 5 = .ok (.bipush 8, 2) := by decide +kernel
theorem dX12_keyHere_7 : decode cX12_keyHere 7 = .ok (.aload_n 0, 1) := by decide +kernel
theorem dX12_keyHere_8 : decode cX12_keyHere 8 = .ok (.getfield 265, 3) := by decide +kernel
theorem dX12_keyHere_11 : decode cX12_keyHere 11 = .ok (.imul, 1) := by decide +kernel
theorem dX12_keyHere_12 : decode cX12_keyHere 12 = .ok (.aload_n 0, 1) := by decide +kernel
theorem dX12_keyHere_13 : decode cX12_keyHere 13 = .ok (.getfield 30, 3) := by decide +kernel
theorem dX12_keyHere_16 : decode cX12_keyHere 16 = .ok (.aload_n 0, 1) := by decide +kernel
theorem dX12_keyHere_17 : decode cX12_keyHere 17 = .ok (.getfield 265, 3) := by decide +kernel
theorem dX12_keyHere_20 : decode cX12_keyHere 20 = .ok (.iaload, 1) := by decide +kernel
theorem dX12_keyHere_21 : decode cX12_keyHere 21 = .ok (.invokevirtual 325, 3) := by decide +kernel
theorem dX12_keyHere_24 : decode cX12_keyHere 24 = .ok (.ireturn, 1) := by decide +kernel
theorem dX12_keysBy_0 : decode cX12_keysBy 0 = .ok (.iconst 0, 1) := by decide +kernel
theorem dX12_keysBy_1 : decode cX12_keysBy 1 = .ok (.istore_n 2, 1) := by decide +kernel
theorem dX12_keysBy_2 : decode cX12_keysBy 2 = .ok (.iconst 0, 1) := by decide +kernel
theorem dX12_keysBy_3 : decode cX12_keysBy 3 = .ok (.istore_n 3, 1) := by decide +kernel
theorem dX12_keysBy_4 : decode cX12_keysBy 4 = .ok (.iload_n 3, 1) := by decide +kernel
theorem dX12_keysBy_5 : decode cX12_keysBy 5 = .ok (.aload_n 0, 1) := by decide +kernel
theorem dX12_keysBy_6 : decode cX12_keysBy 6 = .ok (.invokevirtual 404, 3) := by decide +kernel
theorem dX12_keysBy_9 : decode cX12_keysBy 9 = .ok (.if_icmp .ge 24, 3) := by decide +kernel
theorem dX12_keysBy_12 : decode cX12_keysBy 12 = .ok (.aload_n 0, 1) := by decide +kernel
theorem dX12_keysBy_13 : decode cX12_keysBy 13 = .ok (.iload_n 3, 1) := by decide +kernel
theorem dX12_keysBy_14 : decode cX12_keysBy 14 = .ok (.invokevirtual 465, 3) := by decide +kernel
theorem dX12_keysBy_17 : decode cX12_keysBy 17 = .ok (.iload_n 1, 1) := by decide +kernel
theorem dX12_keysBy_18 : decode cX12_keysBy 18 = .ok (.if_icmp .ne 9, 3) := by decide +kernel
theorem dX12_keysBy_21 : decode cX12_keysBy 21 = .ok (.iload_n 2, 1) := by decide +kernel
theorem dX12_keysBy_22 : decode cX12_keysBy 22 = .ok (.iconst 1, 1) := by decide +kernel
theorem dX12_keysBy_23 : decode cX12_keysBy 23 = .ok (.iload_n 3, 1) := by decide +kernel
theorem dX12_keysBy_24 : decode cX12_keysBy 24 = .ok (.ishl, 1) := by decide +kernel
theorem dX12_keysBy_25 : decode cX12_keysBy 25 = .ok (.ior, 1) := by decide +kernel
theorem dX12_keysBy_26 : decode cX12_keysBy 26 = .ok (.istore_n 2, 1) := by decide +kernel
theorem dX12_keysBy_27 : decode cX12_keysBy 27 = .ok (.iinc 3 1, 3) := by decide +kernel
theorem dX12_keysBy_30 : decode cX12_keysBy 30 = .ok (.goto (-26), 3) := by decide +kernel
theorem dX12_keysBy_33 : decode cX12_keysBy 33 = .ok (.iload_n 2, 1) := by decide +kernel
theorem dX12_keysBy_34 : decode cX12_keysBy 34 = .ok (.ireturn, 1) := by decide +kernel
theorem dX12_keysOf_0 : decode cX12_keysOf 0 = .ok (.aload_n 0, 1) := by decide +kernel
theorem dX12_keysOf_1 : decode cX12_keysOf 1 = .ok (.iload_n 1, 1) := by decide +kernel
theorem dX12_keysOf_2 : decode cX12_keysOf 2 = .ok (.invokevirtual 538, 3) := by decide +kernel
theorem dX12_keysOf_5 : decode cX12_keysOf 5 = .ok (.ireturn, 1) := by decide +kernel
theorem dX12_keysThatOpen_0 : decode cX12_keysThatOpen 0 = .ok (.iconst 0, 1) := by decide +kernel
theorem dX12_keysThatOpen_1 : decode cX12_keysThatOpen 1 = .ok (.istore_n 2, 1) := by decide +kernel
theorem dX12_keysThatOpen_2 : decode cX12_keysThatOpen 2 = .ok (.iconst 0, 1) := by decide +kernel
theorem dX12_keysThatOpen_3 : decode cX12_keysThatOpen 3 = .ok (.istore_n 3, 1) := by decide +kernel
theorem dX12_keysThatOpen_4 : decode cX12_keysThatOpen 4 = .ok (.iload_n 3, 1) := by decide +kernel
theorem dX12_keysThatOpen_5 : decode cX12_keysThatOpen 5 = .ok (.aload_n 0, 1) := by decide +kernel
theorem dX12_keysThatOpen_6 : decode cX12_keysThatOpen 6 = .ok (.invokevirtual 404, 3) := by decide +kernel
theorem dX12_keysThatOpen_9 : decode cX12_keysThatOpen 9 = .ok (.if_icmp .ge 24, 3) := by decide +kernel
theorem dX12_keysThatOpen_12 : decode cX12_keysThatOpen 12 = .ok (.aload_n 0, 1) := by decide +kernel
theorem dX12_keysThatOpen_13 : decode cX12_keysThatOpen 13 = .ok (.iload_n 3, 1) := by decide +kernel
theorem dX12_keysThatOpen_14 : decode cX12_keysThatOpen 14 = .ok (.iload_n 1, 1) := by decide +kernel
theorem dX12_keysThatOpen_15 : decode cX12_keysThatOpen 15 = .ok (.invokevirtual 474, 3) := by decide +kernel
theorem dX12_keysThatOpen_18 : decode cX12_keysThatOpen 18 = .ok (.ifCond .eq 9, 3) := by decide +kernel
theorem dX12_keysThatOpen_21 : decode cX12_keysThatOpen 21 = .ok (.iload_n 2, 1) := by decide +kernel
theorem dX12_keysThatOpen_22 : decode cX12_keysThatOpen 22 = .ok (.iconst 1, 1) := by decide +kernel
theorem dX12_keysThatOpen_23 : decode cX12_keysThatOpen 23 = .ok (.iload_n 3, 1) := by decide +kernel
theorem dX12_keysThatOpen_24 : decode cX12_keysThatOpen 24 = .ok (.ishl, 1) := by decide +kernel
theorem dX12_keysThatOpen_25 : decode cX12_keysThatOpen 25 = .ok (.ior, 1) := by decide +kernel
theorem dX12_keysThatOpen_26 : decode cX12_keysThatOpen 26 = .ok (.istore_n 2, 1) := by decide +kernel
theorem dX12_keysThatOpen_27 : decode cX12_keysThatOpen 27 = .ok (.iinc 3 1, 3) := by decide +kernel
theorem dX12_keysThatOpen_30 : decode cX12_keysThatOpen 30 = .ok (.goto (-26), 3) := by decide +kernel
theorem dX12_keysThatOpen_33 : decode cX12_keysThatOpen 33 = .ok (.iload_n 2, 1) := by decide +kernel
theorem dX12_keysThatOpen_34 : decode cX12_keysThatOpen 34 = .ok (.ireturn, 1) := by decide +kernel
theorem dX12_known_0 : decode cX12_known 0 = .ok (.aload_n 0, 1) := by decide +kernel
theorem dX12_known_1 : decode cX12_known 1 = .ok (.invokevirtual 251, 3) := by decide +kernel
theorem dX12_known_4 : decode cX12_known 4 = .ok (.ifCond .ne 5, 3) := by decide +kernel
theorem dX12_known_7 : decode cX12_known 7 = .ok (.iconst 0, 1) := by decide +kernel
theorem dX12_known_8 : decode cX12_known 8 = .ok (.ireturn, 1) := by decide +kernel
theorem dX12_known_9 : decode cX12_known 9 = .ok (.aload_n 0, 1) := by decide +kernel
theorem dX12_known_10 : decode cX12_known 10 = .ok (.getfield 223, 3) := by decide +kernel
theorem dX12_known_13 : decode cX12_known 13 = .ok (.iconst 2, 1) := by decide +kernel
theorem dX12_known_14 : decode cX12_known 14 = .ok (.if_icmp .eq 10, 3) := by decide +kernel
theorem dX12_known_17 : decode cX12_known 17 = .ok (.aload_n 0, 1) := by decide +kernel
theorem dX12_known_18 : decode cX12_known 18 = .ok (.invokevirtual 258, 3) := by decide +kernel
theorem dX12_known_21 : decode cX12_known 21 = .ok (.goto 43, 3) := by decide +kernel
theorem dX12_known_24 : decode cX12_known 24 = .ok (.iload_n 1, 1) := by decide +kernel
theorem dX12_known_25 : decode cX12_known 25 = .ok (.ifCond .ge 15, 3) := by decide +kernel
theorem dX12_known_28 : decode cX12_known 28 = .ok (.aload_n 0, 1) := by decide +kernel
theorem dX12_known_29 : decode cX12_known 29 = .ok (.iconst 5, 1) := by decide +kernel
theorem dX12_known_30 : decode cX12_known 30 = .ok (.aload_n 0, 1) := by decide +kernel
theorem dX12_known_31 : decode cX12_known 31 = .ok (.getfield 216, 3) := by decide +kernel
theorem dX12_known_34 : decode cX12_known 34 = .ok (.invokevirtual 247, 3) := by decide +kernel
theorem dX12_known_37 : decode cX12_known 37 = .ok (.goto 27, 3) := by decide +kernel
theorem dX12_known_40 : decode cX12_known 40 = .ok (.iload_n 2, 1) := by decide +kernel
theorem dX12_known_41 : decode cX12_known 41 = .ok (.iload_n 1, 1) := by decide +kernel
theorem dX12_known_42 : decode cX12_known 42 = .ok (.invokestatic 261, 3) := by decide +kernel
theorem dX12_known_45 : decode cX12_known 45 = .ok (.ifCond .eq 15, 3) := by decide +kernel
theorem dX12_known_48 : decode cX12_known 48 = .ok (.aload_n 0, 1) := by decide +kernel
theorem dX12_known_49 : decode cX12_known 49 = .ok (.iconst 3, 1) := by decide +kernel
theorem dX12_known_50 : decode cX12_known 50 = .ok (.aload_n 0, 1) := by decide +kernel
theorem dX12_known_51 : decode cX12_known 51 = .ok (.getfield 216, 3) := by decide +kernel
theorem dX12_known_54 : decode cX12_known 54 = .ok (.invokevirtual 247, 3) := by decide +kernel
theorem dX12_known_57 : decode cX12_known 57 = .ok (.goto 7, 3) := by decide +kernel
theorem dX12_known_60 : decode cX12_known 60 = .ok (.aload_n 0, 1) := by decide +kernel
theorem dX12_known_61 : decode cX12_known 61 = .ok (.invokevirtual 255, 3) := by decide +kernel
theorem dX12_known_64 : decode cX12_known 64 = .ok (.iload_n 1, 1) := by decide +kernel
theorem dX12_known_65 : decode cX12_known 65 = .ok (.ifCond .ge 7, 3) := by decide +kernel
theorem dX12_known_68 : decode cX12_known 68 = .ok (.iconst 0, 1) := by decide +kernel
theorem dX12_known_69 : decode cX12_known 69 = .ok (.goto 4, 3) := by decide +kernel
theorem dX12_known_72 : decode cX12_known 72 = .ok (.iload_n 1, 1) := by decide +kernel
theorem dX12_known_73 : decode cX12_known 73 = .ok (.ireturn, 1) := by decide +kernel
theorem dX12_lasts_0 : decode cX12_lasts 0 = .ok (.aload_n 0, 1) := by decide +kernel
theorem dX12_lasts_1 : decode cX12_lasts 1 = .ok (.iload_n 1, 1) := by decide +kernel
theorem dX12_lasts_2 : decode cX12_lasts 2 = .ok (.invokevirtual 462, 3) := by decide +kernel
theorem dX12_lasts_5 : decode cX12_lasts 5 = .ok (.ifCond .eq 11, 3) := by decide +kernel
theorem dX12_lasts_8 : decode cX12_lasts 8 = .ok (.aload_n 0, 1) := by decide +kernel
theorem dX12_lasts_9 : decode cX12_lasts 9 = .ok (.iload_n 2, 1) := by decide +kernel
theorem dX12_lasts_10 : decode cX12_lasts 10 = .ok (.invokevirtual 477, 3) := by decide +kernel
theorem dX12_lasts_13 : decode cX12_lasts 13 = .ok (.ifCond .ne 5, 3) := by decide +kernel
theorem dX12_lasts_16 : decode cX12_lasts 16 = .ok (.iconst (-1), 1) := by decide +kernel
theorem dX12_lasts_17 : decode cX12_lasts 17 = .ok (.ireturn, 1) := by decide +kernel
theorem dX12_lasts_18 : decode cX12_lasts 18 = .ok (.aload_n 0, 1) := by decide +kernel
theorem dX12_lasts_19 : decode cX12_lasts 19 = .ok (.invokevirtual 553, 3) := by decide +kernel
theorem dX12_lasts_22 : decode cX12_lasts 22 = .ok (.iconst 0, 1) := by decide +kernel
theorem dX12_lasts_23 : decode cX12_lasts 23 = .ok (.istore_n 3, 1) := by decide +kernel
theorem dX12_lasts_24 : decode cX12_lasts 24 = .ok (.iload_n 3, 1) := by decide +kernel
theorem dX12_lasts_25 : decode cX12_lasts 25 = .ok (.sipush 200, 3) := by decide +kernel
theorem dX12_lasts_28 : decode cX12_lasts 28 = .ok (.if_icmp .gt 23, 3) := by decide +kernel
theorem dX12_lasts_31 : decode cX12_lasts 31 = .ok (.aload_n 0, 1) := by decide +kernel
theorem dX12_lasts_32 : decode cX12_lasts 32 = .ok (.iload_n 1, 1) := by decide +kernel
theorem dX12_lasts_33 : decode cX12_lasts 33 = .ok (.iload_n 2, 1) := by decide +kernel
theorem dX12_lasts_34 : decode cX12_lasts 34 = .ok (.invokevirtual 474, 3) := by decide +kernel
theorem dX12_lasts_37 : decode cX12_lasts 37 = .ok (.ifCond .eq 14, 3) := by decide +kernel
theorem dX12_lasts_40 : decode cX12_lasts 40 = .ok (.aload_n 0, 1) := by decide +kernel
theorem dX12_lasts_41 : decode cX12_lasts 41 = .ok (.iload_n 1, 1) := by decide +kernel
theorem dX12_lasts_42 : decode cX12_lasts 42 = .ok (.invokevirtual 596, 3) := by decide +kernel
theorem dX12_lasts_45 : decode cX12_lasts 45 = .ok (.iinc 3 1, 3) := by decide +kernel
theorem dX12_lasts_48 : decode cX12_lasts 48 = .ok (.goto (-24), 3) := by decide +kernel
theorem dX12_lasts_51 : decode cX12_lasts 51 = .ok (.aload_n 0, 1) := by decide +kernel
theorem dX12_lasts_52 : decode cX12_lasts 52 = .ok (.invokevirtual 562, 3) := by decide +kernel
theorem dX12_lasts_55 : decode cX12_lasts 55 = .ok (.iload_n 3, 1) := by decide +kernel
theorem dX12_lasts_56 : decode cX12_lasts 56 = .ok (.sipush 200, 3) := by decide +kernel
theorem dX12_lasts_59 : decode cX12_lasts 59 = .ok (.if_icmp .gt 7, 3) := by decide +kernel
theorem dX12_lasts_62 : decode cX12_lasts 62 = .ok (.iload_n 3, 1) := by decide +kernel
theorem dX12_lasts_63 : decode cX12_lasts 63 = .ok (.goto 4, 3) := by decide +kernel
theorem dX12_lasts_66 : decode cX12_lasts 66 = .ok (.iconst (-1), 1) := by decide +kernel
theorem dX12_lasts_67 : decode cX12_lasts 67 = .ok (.ireturn, 1) := by decide +kernel
theorem dX12_later_0 : decode cX12_later 0 = .ok (.iload_n 1, 1) := by decide +kernel
theorem dX12_later_1 : decode cX12_later 1 = .ok (.iconst 0, 1) := by decide +kernel
theorem dX12_later_2 : decode cX12_later 2 = .ok (.sipush 1000, 3) := by decide +kernel
theorem dX12_later_5 : decode cX12_later 5 = .ok (.invokestatic 407, 3) := by decide +kernel
theorem dX12_later_8 : decode cX12_later 8 = .ok (.ifCond .eq 15, 3) := by decide +kernel
theorem dX12_later_11 : decode cX12_later 11 = .ok (.aload_n 0, 1) := by decide +kernel
theorem dX12_later_12 : decode cX12_later 12 = .ok (.getfield 609, 3) := by decide +kernel
theorem dX12_later_15 : decode cX12_later 15 = .ok (.iload_n 1, 1) := by decide +kernel
theorem dX12_later_16 : decode cX12_later 16 = .ok (.iadd, 1) := by decide +kernel
theorem dX12_later_17 : decode cX12_later 17 = .ok (.ldc_w 528, 3) := by decide +kernel
theorem dX12_later_20 : decode cX12_later 20 = .ok (.if_icmp .le 5, 3) := by decide +kernel
theorem dX12_later_23 : decode cX12_later 23 = .ok (.iconst (-1), 1) := by decide +kernel
theorem dX12_later_24 : decode cX12_later 24 = .ok (.ireturn, 1) := by decide +kernel
theorem dX12_later_25 : decode cX12_later 25 = .ok (.aload_n 0, 1) := by decide +kernel
theorem dX12_later_26 : decode cX12_later 26 = .ok (.dup, 1) := by decide +kernel
theorem dX12_later_27 : decode cX12_later 27 = .ok (.getfield 609, 3) := by decide +kernel
theorem dX12_later_30 : decode cX12_later 30 = .ok (.iload_n 1, 1) := by decide +kernel
theorem dX12_later_31 : decode cX12_later 31 = .ok (.iadd, 1) := by decide +kernel
theorem dX12_later_32 : decode cX12_later 32 = .ok (.putfield 609, 3) := by decide +kernel
theorem dX12_later_35 : decode cX12_later 35 = .ok (.aload_n 0, 1) := by decide +kernel
theorem dX12_later_36 : decode cX12_later 36 = .ok (.getfield 609, 3) := by decide +kernel
theorem dX12_later_39 : decode cX12_later 39 = .ok (.ireturn, 1) := by decide +kernel
theorem dX12_law_0 : decode cX12_law 0 = .ok (.iload_n 1, 1) := by decide +kernel
theorem dX12_law_1 : decode cX12_law 1 = .ok (.iconst 0, 1) := by decide +kernel
theorem dX12_law_2 : decode cX12_law 2 = .ok (.iconst 5, 1) := by decide +kernel
theorem dX12_law_3 : decode cX12_law 3 = .ok (.invokestatic 407, 3) := by decide +kernel
theorem dX12_law_6 : decode cX12_law 6 = .ok (.ifCond .eq 11, 3) := by decide +kernel
theorem dX12_law_9 : decode cX12_law 9 = .ok (.aload_n 0, 1) := by decide +kernel
theorem dX12_law_10 : decode cX12_law 10 = .ok (.iload_n 1, 1) := by decide +kernel
theorem dX12_law_11 : decode cX12_law 11 = .ok (.invokevirtual 504, 3) := by decide +kernel
theorem dX12_law_14 : decode cX12_law 14 = .ok (.goto 4, 3) := by decide +kernel
theorem dX12_law_17 : decode cX12_law 17 = .ok (.iconst (-1), 1) := by decide +kernel
theorem dX12_law_18 : decode cX12_law 18 = .ok (.ireturn, 1) := by decide +kernel
theorem dX12_leftOver_0 : decode cX12_leftOver 0 = .ok (.aload_n 0, 1) := by decide +kernel
theorem dX12_leftOver_1 : decode cX12_leftOver 1 = .ok (.iload_n 1, 1) := by decide +kernel
theorem dX12_leftOver_2 : decode cX12_leftOver 2 = .ok (.invokevirtual 462, 3) := by decide +kernel
theorem dX12_leftOver_5 : decode cX12_leftOver 5 = .ok (.ifCond .ne 5, 3) := by decide +kernel
theorem dX12_leftOver_8 : decode cX12_leftOver 8 = .ok (.iconst (-1), 1) := by decide +kernel
theorem dX12_leftOver_9 : decode cX12_leftOver 9 = .ok (.ireturn, 1) := by decide +kernel
theorem dX12_leftOver_10 : decode cX12_leftOver 10 = .ok (.aload_n 0, 1) := by decide +kernel
theorem dX12_leftOver_11 : decode cX12_leftOver 11 = .ok (.invokevirtual 553, 3) := by decide +kernel
theorem dX12_leftOver_14 : decode cX12_leftOver 14 = .ok (.iconst 0, 1) := by decide +kernel
theorem dX12_leftOver_15 : decode cX12_leftOver 15 = .ok (.istore_n 2, 1) := by decide +kernel
theorem dX12_leftOver_16 : decode cX12_leftOver 16 = .ok (.iconst 0, 1) := by decide +kernel
theorem dX12_leftOver_17 : decode cX12_leftOver 17 = .ok (.istore_n 3, 1) := by decide +kernel
theorem dX12_leftOver_18 : decode cX12_leftOver 18 = .ok (.iload_n 3, 1) := by decide +kernel
theorem dX12_leftOver_19 : decode cX12_leftOver 19 = .ok (.aload_n 0, 1) := by decide +kernel
theorem dX12_leftOver_20 : decode cX12_leftOver 20 = .ok (.invokevirtual 411, 3) := by decide +kernel
theorem dX12_leftOver_23 : decode cX12_leftOver 23 = .ok (.if_icmp .ge 52, 3) := by decide +kernel
theorem dX12_leftOver_26 : decode cX12_leftOver 26 = .ok (.aload_n 0, 1) := by decide +kernel
theorem dX12_leftOver_27 : decode cX12_leftOver 27 = .ok (.iload_n 3, 1) := by decide +kernel
theorem dX12_leftOver_28 : decode cX12_leftOver 28 = .ok (.invokevirtual 486, 3) := by decide +kernel
theorem dX12_leftOver_31 : decode cX12_leftOver 31 = .ok (.iconst 1, 1) := by decide +kernel
theorem dX12_leftOver_32 : decode cX12_leftOver 32 = .ok (.iload_n 1, 1) := by decide +kernel
theorem dX12_leftOver_33 : decode cX12_leftOver 33 = .ok (.ishl, 1) := by decide +kernel
theorem dX12_leftOver_34 : decode cX12_leftOver 34 = .ok (.iconst (-1), 1) := by decide +kernel
theorem dX12_leftOver_35 : decode cX12_leftOver 35 = .ok (.ixor, 1) := by decide +kernel
theorem dX12_leftOver_36 : decode cX12_leftOver 36 = .ok (.iand, 1) := by decide +kernel
theorem dX12_leftOver_37 : decode cX12_leftOver 37 = .ok (.istore 4, 2) := by decide +kernel
theorem dX12_leftOver_39 : decode cX12_leftOver 39 = .ok (.iload 4, 2) := by decide +kernel
theorem dX12_leftOver_41 : decode cX12_leftOver 41 = .ok (.ifCond .ne 6, 3) := by decide +kernel
theorem dX12_leftOver_44 : decode cX12_leftOver 44 = .ok (.goto 25, 3) := by decide +kernel
theorem dX12_leftOver_47 : decode cX12_leftOver 47 = .ok (.aload_n 0, 1) := by decide +kernel
theorem dX12_leftOver_48 : decode cX12_leftOver 48 = .ok (.iload_n 3, 1) := by decide +kernel
theorem dX12_leftOver_49 : decode cX12_leftOver 49 = .ok (.iload 4, 2) := by decide +kernel
theorem dX12_leftOver_51 : decode cX12_leftOver 51 = .ok (.invokevirtual 550, 3) := by decide +kernel
theorem dX12_leftOver_54 : decode cX12_leftOver 54 = .ok (.aload_n 0, 1) := by decide +kernel
theorem dX12_leftOver_55 : decode cX12_leftOver 55 = .ok (.iload_n 1, 1) := by decide +kernel
theorem dX12_leftOver_56 : decode cX12_leftOver 56 = .ok (.iload_n 3, 1) := by decide +kernel
theorem dX12_leftOver_57 : decode cX12_leftOver 57 = .ok (.invokevirtual 474, 3) := by decide +kernel
theorem dX12_leftOver_60 : decode cX12_leftOver 60 = .ok (.ifCond .eq 9, 3) := by decide +kernel
theorem dX12_leftOver_63 : decode cX12_leftOver 63 = .ok (.iload_n 2, 1) := by decide +kernel
theorem dX12_leftOver_64 : decode cX12_leftOver 64 = .ok (.iconst 1, 1) := by decide +kernel
theorem dX12_leftOver_65 : decode cX12_leftOver 65 = .ok (.iload_n 3, 1) := by decide +kernel
theorem dX12_leftOver_66 : decode cX12_leftOver 66 = .ok (.ishl, 1) := by decide +kernel
theorem dX12_leftOver_67 : decode cX12_leftOver 67 = .ok (.ior, 1) := by decide +kernel
theorem dX12_leftOver_68 : decode cX12_leftOver 68 = .ok (.istore_n 2, 1) := by decide +kernel
theorem dX12_leftOver_69 : decode cX12_leftOver 69 = .ok (.iinc 3 1, 3) := by decide +kernel
theorem dX12_leftOver_72 : decode cX12_leftOver 72 = .ok (.goto (-54), 3) := by decide +kernel
theorem dX12_leftOver_75 : decode cX12_leftOver 75 = .ok (.aload_n 0, 1) := by decide +kernel
theorem dX12_leftOver_76 : decode cX12_leftOver 76 = .ok (.invokevirtual 562, 3) := by decide +kernel
theorem dX12_leftOver_79 : decode cX12_leftOver 79 = .ok (.iload_n 2, 1) := by decide +kernel
theorem dX12_leftOver_80 : decode cX12_leftOver 80 = .ok (.ireturn, 1) := by decide +kernel
theorem dX12_legal_0 : decode cX12_legal 0 = .ok (.aload_n 0, 1) := by decide +kernel
theorem dX12_legal_1 : decode cX12_legal 1 = .ok (.aload_n 0, 1) := by decide +kernel
theorem dX12_legal_2 : decode cX12_legal 2 = .ok (.getfield 27, 3) := by decide +kernel
theorem dX12_legal_5 : decode cX12_legal 5 = .ok (.aload_n 0, 1) := by decide +kernel
theorem dX12_legal_6 : decode cX12_legal 6 = .ok (.getfield 274, 3) := by decide +kernel
theorem dX12_legal_9 : decode cX12_legal 9 = .ok (.iaload, 1) := by decide +kernel
theorem dX12_legal_10 : decode cX12_legal 10 = .ok (.invokevirtual 504, 3) := by decide +kernel
theorem dX12_legal_13 : decode cX12_legal 13 = .ok (.ireturn, 1) := by decide +kernel
theorem dX12_lies_0 : decode cX12_lies 0 = .ok (.iload_n 1, 1) := by decide +kernel
theorem dX12_lies_1 : decode cX12_lies 1 = .ok (.iconst 0, 1) := by decide +kernel
theorem dX12_lies_2 : decode cX12_lies 2 = .ok (.aload_n 0, 1) := by decide +kernel
theorem dX12_lies_3 : decode cX12_lies 3 = .ok (.getfield 426, 3) := by decide +kernel
theorem dX12_lies_6 : decode cX12_lies 6 = .ok (.iconst 1, 1) := by decide +kernel
theorem dX12_lies_7 : decode cX12_lies 7 = .ok (.isub, 1) := by decide +kernel
theorem dX12_lies_8 : decode cX12_lies 8 = .ok (.invokestatic 407, 3) := by decide +kernel
theorem dX12_lies_11 : decode cX12_lies 11 = .ok (.ifCond .eq 12, 3) := by decide +kernel
theorem dX12_lies_14 : decode cX12_lies 14 = .ok (.aload_n 0, 1) := by decide +kernel
theorem dX12_lies_15 : decode cX12_lies 15 = .ok (.getfield 127, 3) := by decide +kernel
theorem dX12_lies_18 : decode cX12_lies 18 = .ok (.iload_n 1, 1) := by decide +kernel
theorem dX12_lies_19 : decode cX12_lies 19 = .ok (.iaload, 1) := by decide +kernel
theorem dX12_lies_20 : decode cX12_lies 20 = .ok (.goto 5, 3) := by decide +kernel
theorem dX12_lies_23 : decode cX12_lies 23 = .ok (.bipush (-2), 2) := by decide +kernel
theorem dX12_lies_25 : decode cX12_lies 25 = .ok (.ireturn, 1) := by decide +kernel
theorem dX12_lock_0 : decode cX12_lock 0 = .ok (.aload_n 0, 1) := by decide +kernel
theorem dX12_lock_1 : decode cX12_lock 1 = .ok (.iload_n 1, 1) := by decide +kernel
theorem dX12_lock_2 : decode cX12_lock 2 = .ok (.invokevirtual 477, 3) := by decide +kernel
theorem dX12_lock_5 : decode cX12_lock 5 = .ok (.ifCond .ne 5, 3) := by decide +kernel
theorem dX12_lock_8 : decode cX12_lock 8 = .ok (.iconst (-1), 1) := by decide +kernel
theorem dX12_lock_9 : decode cX12_lock 9 = .ok (.ireturn, 1) := by decide +kernel
theorem dX12_lock_10 : decode cX12_lock 10 = .ok (.iload_n 2, 1) := by decide +kernel
theorem dX12_lock_11 : decode cX12_lock 11 = .ok (.tableswitch 53 0 3 #[29, 35, 41, 47], 29) := by decide +kernel
theorem dX12_lock_40 : decode cX12_lock 40 = .ok (.aload_n 0, 1) := by decide +kernel
theorem dX12_lock_41 : decode cX12_lock 41 = .ok (.iload_n 1, 1) := by decide +kernel
theorem dX12_lock_42 : decode cX12_lock 42 = .ok (.invokevirtual 480, 3) := by decide +kernel
theorem dX12_lock_45 : decode cX12_lock 45 = .ok (.ireturn, 1) := by decide +kernel
theorem dX12_lock_46 : decode cX12_lock 46 = .ok (.aload_n 0, 1) := by decide +kernel
theorem dX12_lock_47 : decode cX12_lock 47 = .ok (.iload_n 1, 1) := by decide +kernel
theorem dX12_lock_48 : decode cX12_lock 48 = .ok (.invokevirtual 483, 3) := by decide +kernel
theorem dX12_lock_51 : decode cX12_lock 51 = .ok (.ireturn, 1) := by decide +kernel
theorem dX12_lock_52 : decode cX12_lock 52 = .ok (.aload_n 0, 1) := by decide +kernel
theorem dX12_lock_53 : decode cX12_lock 53 = .ok (.iload_n 1, 1) := by decide +kernel
theorem dX12_lock_54 : decode cX12_lock 54 = .ok (.invokevirtual 486, 3) := by decide +kernel
theorem dX12_lock_57 : decode cX12_lock 57 = .ok (.ireturn, 1) := by decide +kernel
theorem dX12_lock_58 : decode cX12_lock 58 = .ok (.aload_n 0, 1) := by decide +kernel
theorem dX12_lock_59 : decode cX12_lock 59 = .ok (.iload_n 1, 1) := by decide +kernel
theorem dX12_lock_60 : decode cX12_lock 60 = .ok (.invokevirtual 489, 3) := by decide +kernel
theorem dX12_lock_63 : decode cX12_lock 63 = .ok (.ireturn, 1) := by decide +kernel
theorem dX12_lock_64 : decode cX12_lock 64 = .ok (.iconst (-1), 1) := by decide +kernel
theorem dX12_lock_65 : decode cX12_lock 65 = .ok (.ireturn, 1) := by decide +kernel
theorem dX12_lockHere_0 : decode cX12_lockHere 0 = .ok (.aload_n 0, 1) := by decide +kernel
theorem dX12_lockHere_1 : decode cX12_lockHere 1 = .ok (.aload_n 0, 1) := by decide +kernel
theorem dX12_lockHere_2 : decode cX12_lockHere 2 = .ok (.getfield 91, 3) := by decide +kernel
theorem dX12_lockHere_5 : decode cX12_lockHere 5 = .ok (.bipush 6, 2) := by decide +kernel
theorem dX12_lockHere_7 : decode cX12_lockHere 7 = .ok (.aload_n 0, 1) := by decide +kernel
theorem dX12_lockHere_8 : decode cX12_lockHere 8 = .ok (.getfield 265, 3) := by decide +kernel
theorem dX12_lockHere_11 : decode cX12_lockHere 11 = .ok (.imul, 1) := by decide +kernel
theorem dX12_lockHere_12 : decode cX12_lockHere 12 = .ok (.aload_n 0, 1) := by decide +kernel
theorem dX12_lockHere_13 : decode cX12_lockHere 13 = .ok (.getfield 33, 3) := by decide +kernel
theorem dX12_lockHere_16 : decode cX12_lockHere 16 = .ok (.aload_n 0, 1) := by decide +kernel
theorem dX12_lockHere_17 : decode cX12_lockHere 17 = .ok (.getfield 265, 3) := by decide +kernel
theorem dX12_lockHere_20 : decode cX12_lockHere 20 = .ok (.iaload, 1) := by decide +kernel
theorem dX12_lockHere_21 : decode cX12_lockHere 21 = .ok (.invokevirtual 325, 3) := by decide +kernel
theorem dX12_lockHere_24 : decode cX12_lockHere 24 = .ok (.ireturn, 1) := by decide +kernel
theorem dX12_locksWith_0 : decode cX12_locksWith 0 = .ok (.iconst 0, 1) := by decide +kernel
theorem dX12_locksWith_1 : decode cX12_locksWith 1 = .ok (.istore_n 2, 1) := by decide +kernel
theorem dX12_locksWith_2 : decode cX12_locksWith 2 = .ok (.iconst 0, 1) := by decide +kernel
theorem dX12_locksWith_3 : decode cX12_locksWith 3 = .ok (.istore_n 3, 1) := by decide +kernel
theorem dX12_locksWith_4 : decode cX12_locksWith 4 = .ok (.iload_n 3, 1) := by decide +kernel
theorem dX12_locksWith_5 : decode cX12_locksWith 5 = .ok (.aload_n 0, 1) := by decide +kernel
theorem dX12_locksWith_6 : decode cX12_locksWith 6 = .ok (.invokevirtual 411, 3) := by decide +kernel
theorem dX12_locksWith_9 : decode cX12_locksWith 9 = .ok (.if_icmp .ge 24, 3) := by decide +kernel
theorem dX12_locksWith_12 : decode cX12_locksWith 12 = .ok (.aload_n 0, 1) := by decide +kernel
theorem dX12_locksWith_13 : decode cX12_locksWith 13 = .ok (.iload_n 3, 1) := by decide +kernel
theorem dX12_locksWith_14 : decode cX12_locksWith 14 = .ok (.iload_n 1, 1) := by decide +kernel
theorem dX12_locksWith_15 : decode cX12_locksWith 15 = .ok (.invokevirtual 568, 3) := by decide +kernel
theorem dX12_locksWith_18 : decode cX12_locksWith 18 = .ok (.ifCond .eq 9, 3) := by decide +kernel
theorem dX12_locksWith_21 : decode cX12_locksWith 21 = .ok (.iload_n 2, 1) := by decide +kernel
theorem dX12_locksWith_22 : decode cX12_locksWith 22 = .ok (.iconst 1, 1) := by decide +kernel
theorem dX12_locksWith_23 : decode cX12_locksWith 23 = .ok (.iload_n 3, 1) := by decide +kernel
theorem dX12_locksWith_24 : decode cX12_locksWith 24 = .ok (.ishl, 1) := by decide +kernel
theorem dX12_locksWith_25 : decode cX12_locksWith 25 = .ok (.ior, 1) := by decide +kernel
theorem dX12_locksWith_26 : decode cX12_locksWith 26 = .ok (.istore_n 2, 1) := by decide +kernel
theorem dX12_locksWith_27 : decode cX12_locksWith 27 = .ok (.iinc 3 1, 3) := by decide +kernel
theorem dX12_locksWith_30 : decode cX12_locksWith 30 = .ok (.goto (-26), 3) := by decide +kernel
theorem dX12_locksWith_33 : decode cX12_locksWith 33 = .ok (.iload_n 2, 1) := by decide +kernel
theorem dX12_locksWith_34 : decode cX12_locksWith 34 = .ok (.ireturn, 1) := by decide +kernel
theorem dX12_lose_0 : decode cX12_lose 0 = .ok (.aload_n 0, 1) := by decide +kernel
theorem dX12_lose_1 : decode cX12_lose 1 = .ok (.iload_n 1, 1) := by decide +kernel
theorem dX12_lose_2 : decode cX12_lose 2 = .ok (.invokevirtual 462, 3) := by decide +kernel
theorem dX12_lose_5 : decode cX12_lose 5 = .ok (.ifCond .eq 23, 3) := by decide +kernel
theorem dX12_lose_8 : decode cX12_lose 8 = .ok (.aload_n 0, 1) := by decide +kernel
theorem dX12_lose_9 : decode cX12_lose 9 = .ok (.iload_n 1, 1) := by decide +kernel
theorem dX12_lose_10 : decode cX12_lose 10 = .ok (.invokevirtual 465, 3) := by decide +kernel
theorem dX12_lose_13 : decode cX12_lose 13 = .ok (.bipush (-2), 2) := by decide +kernel
theorem dX12_lose_15 : decode cX12_lose 15 = .ok (.if_icmp .eq 13, 3) := by decide +kernel
theorem dX12_lose_18 : decode cX12_lose 18 = .ok (.aload_n 0, 1) := by decide +kernel
theorem dX12_lose_19 : decode cX12_lose 19 = .ok (.iload_n 1, 1) := by decide +kernel
theorem dX12_lose_20 : decode cX12_lose 20 = .ok (.bipush (-2), 2) := by decide +kernel
theorem dX12_lose_22 : decode cX12_lose 22 = .ok (.invokevirtual 603, 3) := by decide +kernel
theorem dX12_lose_25 : decode cX12_lose 25 = .ok (.goto 5, 3) := by decide +kernel
theorem dX12_lose_28 : decode cX12_lose 28 = .ok (.bipush (-3), 2) := by decide +kernel
theorem dX12_lose_30 : decode cX12_lose 30 = .ok (.ireturn, 1) := by decide +kernel
theorem dX12_many_0 : decode cX12_many 0 = .ok (.aload_n 0, 1) := by decide +kernel
theorem dX12_many_1 : decode cX12_many 1 = .ok (.getfield 30, 3) := by decide +kernel
theorem dX12_many_4 : decode cX12_many 4 = .ok (.aload_n 0, 1) := by decide +kernel
theorem dX12_many_5 : decode cX12_many 5 = .ok (.getfield 274, 3) := by decide +kernel
theorem dX12_many_8 : decode cX12_many 8 = .ok (.iaload, 1) := by decide +kernel
theorem dX12_many_9 : decode cX12_many 9 = .ok (.ireturn, 1) := by decide +kernel
theorem dX12_manyLegal_0 : decode cX12_manyLegal 0 = .ok (.iconst 0, 1) := by decide +kernel
theorem dX12_manyLegal_1 : decode cX12_manyLegal 1 = .ok (.istore_n 2, 1) := by decide +kernel
theorem dX12_manyLegal_2 : decode cX12_manyLegal 2 = .ok (.iconst 0, 1) := by decide +kernel
theorem dX12_manyLegal_3 : decode cX12_manyLegal 3 = .ok (.istore_n 3, 1) := by decide +kernel
theorem dX12_manyLegal_4 : decode cX12_manyLegal 4 = .ok (.iload_n 3, 1) := by decide +kernel
theorem dX12_manyLegal_5 : decode cX12_manyLegal 5 = .ok (.aload_n 0, 1) := by decide +kernel
theorem dX12_manyLegal_6 : decode cX12_manyLegal 6 = .ok (.invokevirtual 438, 3) := by decide +kernel
theorem dX12_manyLegal_9 : decode cX12_manyLegal 9 = .ok (.if_icmp .ge 21, 3) := by decide +kernel
theorem dX12_manyLegal_12 : decode cX12_manyLegal 12 = .ok (.aload_n 0, 1) := by decide +kernel
theorem dX12_manyLegal_13 : decode cX12_manyLegal 13 = .ok (.iload_n 3, 1) := by decide +kernel
theorem dX12_manyLegal_14 : decode cX12_manyLegal 14 = .ok (.iload_n 1, 1) := by decide +kernel
theorem dX12_manyLegal_15 : decode cX12_manyLegal 15 = .ok (.invokevirtual 441, 3) := by decide +kernel
theorem dX12_manyLegal_18 : decode cX12_manyLegal 18 = .ok (.ifCond .eq 6, 3) := by decide +kernel
theorem dX12_manyLegal_21 : decode cX12_manyLegal 21 = .ok (.iinc 2 1, 3) := by decide +kernel
theorem dX12_manyLegal_24 : decode cX12_manyLegal 24 = .ok (.iinc 3 1, 3) := by decide +kernel
theorem dX12_manyLegal_27 : decode cX12_manyLegal 27 = .ok (.goto (-23), 3) := by decide +kernel
theorem dX12_manyLegal_30 : decode cX12_manyLegal 30 = .ok (.iload_n 2, 1) := by decide +kernel
theorem dX12_manyLegal_31 : decode cX12_manyLegal 31 = .ok (.ireturn, 1) := by decide +kernel
theorem dX12_master_0 : decode cX12_master 0 = .ok (.iload_n 1, 1) := by decide +kernel
theorem dX12_master_1 : decode cX12_master 1 = .ok (.iconst 0, 1) := by decide +kernel
theorem dX12_master_2 : decode cX12_master 2 = .ok (.iconst 2, 1) := by decide +kernel
theorem dX12_master_3 : decode cX12_master 3 = .ok (.invokestatic 407, 3) := by decide +kernel
theorem dX12_master_6 : decode cX12_master 6 = .ok (.ifCond .ne 5, 3) := by decide +kernel
theorem dX12_master_9 : decode cX12_master 9 = .ok (.iconst (-1), 1) := by decide +kernel
theorem dX12_master_10 : decode cX12_master 10 = .ok (.ireturn, 1) := by decide +kernel
theorem dX12_master_11 : decode cX12_master 11 = .ok (.iconst (-1), 1) := by decide +kernel
theorem dX12_master_12 : decode cX12_master 12 = .ok (.istore_n 2, 1) := by decide +kernel
theorem dX12_master_13 : decode cX12_master 13 = .ok (.iconst (-1), 1) := by decide +kernel
theorem dX12_master_14 : decode cX12_master 14 = .ok (.istore_n 3, 1) := by decide +kernel
theorem dX12_master_15 : decode cX12_master 15 = .ok (.iconst 0, 1) := by decide +kernel
theorem dX12_master_16 : decode cX12_master 16 = .ok (.istore 4, 2) := by decide +kernel
theorem dX12_master_18 : decode cX12_master 18 = .ok (.iload 4, 2) := by decide +kernel
theorem dX12_master_20 : decode cX12_master 20 = .ok (.aload_n 0, 1) := by decide +kernel
theorem dX12_master_21 : decode cX12_master 21 = .ok (.invokevirtual 438, 3) := by decide +kernel
theorem dX12_master_24 : decode cX12_master 24 = .ok (.if_icmp .ge 47, 3) := by decide +kernel
theorem dX12_master_27 : decode cX12_master 27 = .ok (.aload_n 0, 1) := by decide +kernel
theorem dX12_master_28 : decode cX12_master 28 = .ok (.iload 4, 2) := by decide +kernel
theorem dX12_master_30 : decode cX12_master 30 = .ok (.invokevirtual 456, 3) := by decide +kernel
theorem dX12_master_33 : decode cX12_master 33 = .ok (.ifCond .eq 32, 3) := by decide +kernel
theorem dX12_master_36 : decode cX12_master 36 = .ok (.aload_n 0, 1) := by decide +kernel
theorem dX12_master_37 : decode cX12_master 37 = .ok (.iload 4, 2) := by decide +kernel
theorem dX12_master_39 : decode cX12_master 39 = .ok (.invokevirtual 459, 3) := by decide +kernel
theorem dX12_master_42 : decode cX12_master 42 = .ok (.invokestatic 471, 3) := by decide +kernel
theorem dX12_master_45 : decode cX12_master 45 = .ok (.iload_n 3, 1) := by decide +kernel
theorem dX12_master_46 : decode cX12_master 46 = .ok (.if_icmp .gt 6, 3) := by decide +kernel
theorem dX12_master_49 : decode cX12_master 49 = .ok (.goto 16, 3) := by decide +kernel
theorem dX12_master_52 : decode cX12_master 52 = .ok (.iload 4, 2) := by decide +kernel
theorem dX12_master_54 : decode cX12_master 54 = .ok (.istore_n 2, 1) := by decide +kernel
theorem dX12_master_55 : decode cX12_master 55 = .ok (.aload_n 0, 1) := by decide +kernel
theorem dX12_master_56 : decode cX12_master 56 = .ok (.iload 4, 2) := by decide +kernel
theorem dX12_master_58 : decode cX12_master 58 = .ok (.invokevirtual 459, 3) := by decide +kernel
theorem dX12_master_61 : decode cX12_master 61 = .ok (.invokestatic 471, 3) := by decide +kernel
theorem dX12_master_64 : decode cX12_master 64 = .ok (.istore_n 3, 1) := by decide +kernel
theorem dX12_master_65 : decode cX12_master 65 = .ok (.iinc 4 1, 3) := by decide +kernel
theorem dX12_master_68 : decode cX12_master 68 = .ok (.goto (-50), 3) := by decide +kernel
theorem dX12_master_71 : decode cX12_master 71 = .ok (.iload_n 1, 1) := by decide +kernel
theorem dX12_master_72 : decode cX12_master 72 = .ok (.ifCond .ne 7, 3) := by decide +kernel
theorem dX12_master_75 : decode cX12_master 75 = .ok (.iload_n 2, 1) := by decide +kernel
theorem dX12_master_76 : decode cX12_master 76 = .ok (.goto 17, 3) := by decide +kernel
theorem dX12_master_79 : decode cX12_master 79 = .ok (.iload_n 1, 1) := by decide +kernel
theorem dX12_master_80 : decode cX12_master 80 = .ok (.iconst 1, 1) := by decide +kernel
theorem dX12_master_81 : decode cX12_master 81 = .ok (.if_icmp .ne 7, 3) := by decide +kernel
theorem dX12_master_84 : decode cX12_master 84 = .ok (.iload_n 3, 1) := by decide +kernel
theorem dX12_master_85 : decode cX12_master 85 = .ok (.goto 8, 3) := by decide +kernel
theorem dX12_master_88 : decode cX12_master 88 = .ok (.aload_n 0, 1) := by decide +kernel
theorem dX12_master_89 : decode cX12_master 89 = .ok (.iload_n 2, 1) := by decide +kernel
theorem dX12_master_90 : decode cX12_master 90 = .ok (.invokevirtual 459, 3) := by decide +kernel
theorem dX12_master_93 : decode cX12_master 93 = .ok (.ireturn, 1) := by decide +kernel
theorem dX12_misplaced_0 : decode cX12_misplaced 0 = .ok (.aload_n 0, 1) := by decide +kernel
theorem dX12_misplaced_1 : decode cX12_misplaced 1 = .ok (.aload_n 0, 1) := by decide +kernel
theorem dX12_misplaced_2 : decode cX12_misplaced 2 = .ok (.getfield 223, 3) := by decide +kernel
theorem dX12_misplaced_5 : decode cX12_misplaced 5 = .ok (.iconst 1, 1) := by decide +kernel
theorem dX12_misplaced_6 : decode cX12_misplaced 6 = .ok (.if_icmp .ne 7, 3) := by decide +kernel
theorem dX12_misplaced_9 : decode cX12_misplaced 9 = .ok (.iconst 1, 1) := by decide +kernel
theorem dX12_misplaced_10 : decode cX12_misplaced 10 = .ok (.goto 4, 3) := by decide +kernel
theorem dX12_misplaced_13 : decode cX12_misplaced 13 = .ok (.iconst 2, 1) := by decide +kernel
theorem dX12_misplaced_14 : decode cX12_misplaced 14 = .ok (.aload_n 0, 1) := by decide +kernel
theorem dX12_misplaced_15 : decode cX12_misplaced 15 = .ok (.getfield 216, 3) := by decide +kernel
theorem dX12_misplaced_18 : decode cX12_misplaced 18 = .ok (.invokevirtual 247, 3) := by decide +kernel
theorem dX12_misplaced_21 : decode cX12_misplaced 21 = .ok (.return_, 1) := by decide +kernel
theorem dX12_mostBy_0 : decode cX12_mostBy 0 = .ok (.iconst 0, 1) := by decide +kernel
theorem dX12_mostBy_1 : decode cX12_mostBy 1 = .ok (.istore_n 3, 1) := by decide +kernel
theorem dX12_mostBy_2 : decode cX12_mostBy 2 = .ok (.iconst 0, 1) := by decide +kernel
theorem dX12_mostBy_3 : decode cX12_mostBy 3 = .ok (.istore 4, 2) := by decide +kernel
theorem dX12_mostBy_5 : decode cX12_mostBy 5 = .ok (.iconst 0, 1) := by decide +kernel
theorem dX12_mostBy_6 : decode cX12_mostBy 6 = .ok (.istore 5, 2) := by decide +kernel
theorem dX12_mostBy_8 : decode cX12_mostBy 8 = .ok (.iload 5, 2) := by decide +kernel
theorem dX12_mostBy_10 : decode cX12_mostBy 10 = .ok (.aload_n 0, 1) := by decide +kernel
theorem dX12_mostBy_11 : decode cX12_mostBy 11 = .ok (.invokevirtual 438, 3) := by decide +kernel
theorem dX12_mostBy_14 : decode cX12_mostBy 14 = .ok (.if_icmp .ge 42, 3) := by decide +kernel
theorem dX12_mostBy_17 : decode cX12_mostBy 17 = .ok (.aload_n 0, 1) := by decide +kernel
theorem dX12_mostBy_18 : decode cX12_mostBy 18 = .ok (.iload 5, 2) := by decide +kernel
theorem dX12_mostBy_20 : decode cX12_mostBy 20 = .ok (.iload_n 2, 1) := by decide +kernel
theorem dX12_mostBy_21 : decode cX12_mostBy 21 = .ok (.invokevirtual 615, 3) := by decide +kernel
theorem dX12_mostBy_24 : decode cX12_mostBy 24 = .ok (.ifCond .ne 6, 3) := by decide +kernel
theorem dX12_mostBy_27 : decode cX12_mostBy 27 = .ok (.goto 23, 3) := by decide +kernel
theorem dX12_mostBy_30 : decode cX12_mostBy 30 = .ok (.aload_n 0, 1) := by decide +kernel
theorem dX12_mostBy_31 : decode cX12_mostBy 31 = .ok (.iload 5, 2) := by decide +kernel
theorem dX12_mostBy_33 : decode cX12_mostBy 33 = .ok (.iload_n 1, 1) := by decide +kernel
theorem dX12_mostBy_34 : decode cX12_mostBy 34 = .ok (.invokevirtual 612, 3) := by decide +kernel
theorem dX12_mostBy_37 : decode cX12_mostBy 37 = .ok (.iconst 1, 1) := by decide +kernel
theorem dX12_mostBy_38 : decode cX12_mostBy 38 = .ok (.if_icmp .ne 9, 3) := by decide +kernel
theorem dX12_mostBy_41 : decode cX12_mostBy 41 = .ok (.iinc 3 1, 3) := by decide +kernel
theorem dX12_mostBy_44 : decode cX12_mostBy 44 = .ok (.goto 6, 3) := by decide +kernel
theorem dX12_mostBy_47 : decode cX12_mostBy 47 = .ok (.iinc 4 1, 3) := by decide +kernel
theorem dX12_mostBy_50 : decode cX12_mostBy 50 = .ok (.iinc 5 1, 3) := by decide +kernel
theorem dX12_mostBy_53 : decode cX12_mostBy 53 = .ok (.goto (-45), 3) := by decide +kernel
theorem dX12_mostBy_56 : decode cX12_mostBy 56 = .ok (.iload_n 3, 1) := by decide +kernel
theorem dX12_mostBy_57 : decode cX12_mostBy 57 = .ok (.iload 4, 2) := by decide +kernel
theorem dX12_mostBy_59 : decode cX12_mostBy 59 = .ok (.if_icmp .le 7, 3) := by decide +kernel
theorem dX12_mostBy_62 : decode cX12_mostBy 62 = .ok (.iload_n 3, 1) := by decide +kernel
theorem dX12_mostBy_63 : decode cX12_mostBy 63 = .ok (.goto 5, 3) := by decide +kernel
theorem dX12_mostBy_66 : decode cX12_mostBy 66 = .ok (.iload 4, 2) := by decide +kernel
theorem dX12_mostBy_68 : decode cX12_mostBy 68 = .ok (.ireturn, 1) := by decide +kernel
theorem dX12_must_0 : decode cX12_must 0 = .ok (.aload_n 0, 1) := by decide +kernel
theorem dX12_must_1 : decode cX12_must 1 = .ok (.invokevirtual 251, 3) := by decide +kernel
theorem dX12_must_4 : decode cX12_must 4 = .ok (.ifCond .ne 4, 3) := by decide +kernel
theorem dX12_must_7 : decode cX12_must 7 = .ok (.return_, 1) := by decide +kernel
theorem dX12_must_8 : decode cX12_must 8 = .ok (.iload_n 1, 1) := by decide +kernel
theorem dX12_must_9 : decode cX12_must 9 = .ok (.ifCond .eq 10, 3) := by decide +kernel
theorem dX12_must_12 : decode cX12_must 12 = .ok (.aload_n 0, 1) := by decide +kernel
theorem dX12_must_13 : decode cX12_must 13 = .ok (.invokevirtual 255, 3) := by decide +kernel
theorem dX12_must_16 : decode cX12_must 16 = .ok (.goto 7, 3) := by decide +kernel
theorem dX12_must_19 : decode cX12_must 19 = .ok (.aload_n 0, 1) := by decide +kernel
theorem dX12_must_20 : decode cX12_must 20 = .ok (.invokevirtual 258, 3) := by decide +kernel
theorem dX12_must_23 : decode cX12_must 23 = .ok (.return_, 1) := by decide +kernel
theorem dX12_mustOf_0 : decode cX12_mustOf 0 = .ok (.aload_n 0, 1) := by decide +kernel
theorem dX12_mustOf_1 : decode cX12_mustOf 1 = .ok (.getfield 75, 3) := by decide +kernel
theorem dX12_mustOf_4 : decode cX12_mustOf 4 = .ok (.bipush 6, 2) := by decide +kernel
theorem dX12_mustOf_6 : decode cX12_mustOf 6 = .ok (.aload_n 0, 1) := by decide +kernel
theorem dX12_mustOf_7 : decode cX12_mustOf 7 = .ok (.getfield 274, 3) := by decide +kernel
theorem dX12_mustOf_10 : decode cX12_mustOf 10 = .ok (.imul, 1) := by decide +kernel
theorem dX12_mustOf_11 : decode cX12_mustOf 11 = .ok (.iload_n 1, 1) := by decide +kernel
theorem dX12_mustOf_12 : decode cX12_mustOf 12 = .ok (.iadd, 1) := by decide +kernel
theorem dX12_mustOf_13 : decode cX12_mustOf 13 = .ok (.iaload, 1) := by decide +kernel
theorem dX12_mustOf_14 : decode cX12_mustOf 14 = .ok (.ireturn, 1) := by decide +kernel
theorem dX12_neverOf_0 : decode cX12_neverOf 0 = .ok (.aload_n 0, 1) := by decide +kernel
theorem dX12_neverOf_1 : decode cX12_neverOf 1 = .ok (.getfield 78, 3) := by decide +kernel
theorem dX12_neverOf_4 : decode cX12_neverOf 4 = .ok (.bipush 6, 2) := by decide +kernel
theorem dX12_neverOf_6 : decode cX12_neverOf 6 = .ok (.aload_n 0, 1) := by decide +kernel
theorem dX12_neverOf_7 : decode cX12_neverOf 7 = .ok (.getfield 274, 3) := by decide +kernel
theorem dX12_neverOf_10 : decode cX12_neverOf 10 = .ok (.imul, 1) := by decide +kernel
theorem dX12_neverOf_11 : decode cX12_neverOf 11 = .ok (.iload_n 1, 1) := by decide +kernel
theorem dX12_neverOf_12 : decode cX12_neverOf 12 = .ok (.iadd, 1) := by decide +kernel
theorem dX12_neverOf_13 : decode cX12_neverOf 13 = .ok (.iaload, 1) := by decide +kernel
theorem dX12_neverOf_14 : decode cX12_neverOf 14 = .ok (.ireturn, 1) := by decide +kernel
theorem dX12_numberOf_0 : decode cX12_numberOf 0 = .ok (.iconst 0, 1) := by decide +kernel
theorem dX12_numberOf_1 : decode cX12_numberOf 1 = .ok (.istore_n 2, 1) := by decide +kernel
theorem dX12_numberOf_2 : decode cX12_numberOf 2 = .ok (.iconst 0, 1) := by decide +kernel
theorem dX12_numberOf_3 : decode cX12_numberOf 3 = .ok (.istore_n 3, 1) := by decide +kernel
theorem dX12_numberOf_4 : decode cX12_numberOf 4 = .ok (.iload_n 3, 1) := by decide +kernel
theorem dX12_numberOf_5 : decode cX12_numberOf 5 = .ok (.aload_n 0, 1) := by decide +kernel
theorem dX12_numberOf_6 : decode cX12_numberOf 6 = .ok (.invokevirtual 414, 3) := by decide +kernel
theorem dX12_numberOf_9 : decode cX12_numberOf 9 = .ok (.if_icmp .ge 23, 3) := by decide +kernel
theorem dX12_numberOf_12 : decode cX12_numberOf 12 = .ok (.aload_n 0, 1) := by decide +kernel
theorem dX12_numberOf_13 : decode cX12_numberOf 13 = .ok (.invokevirtual 429, 3) := by decide +kernel
theorem dX12_numberOf_16 : decode cX12_numberOf 16 = .ok (.iload_n 2, 1) := by decide +kernel
theorem dX12_numberOf_17 : decode cX12_numberOf 17 = .ok (.imul, 1) := by decide +kernel
theorem dX12_numberOf_18 : decode cX12_numberOf 18 = .ok (.aload_n 0, 1) := by decide +kernel
theorem dX12_numberOf_19 : decode cX12_numberOf 19 = .ok (.iload_n 1, 1) := by decide +kernel
theorem dX12_numberOf_20 : decode cX12_numberOf 20 = .ok (.iload_n 3, 1) := by decide +kernel
theorem dX12_numberOf_21 : decode cX12_numberOf 21 = .ok (.invokevirtual 444, 3) := by decide +kernel
theorem dX12_numberOf_24 : decode cX12_numberOf 24 = .ok (.iadd, 1) := by decide +kernel
theorem dX12_numberOf_25 : decode cX12_numberOf 25 = .ok (.istore_n 2, 1) := by decide +kernel
theorem dX12_numberOf_26 : decode cX12_numberOf 26 = .ok (.iinc 3 1, 3) := by decide +kernel
theorem dX12_numberOf_29 : decode cX12_numberOf 29 = .ok (.goto (-25), 3) := by decide +kernel
theorem dX12_numberOf_32 : decode cX12_numberOf 32 = .ok (.iload_n 2, 1) := by decide +kernel
theorem dX12_numberOf_33 : decode cX12_numberOf 33 = .ok (.ireturn, 1) := by decide +kernel
theorem dX12_numeral_0 : decode cX12_numeral 0 = .ok (.aload_n 0, 1) := by decide +kernel
theorem dX12_numeral_1 : decode cX12_numeral 1 = .ok (.invokevirtual 251, 3) := by decide +kernel
theorem dX12_numeral_4 : decode cX12_numeral 4 = .ok (.ifCond .ne 5, 3) := by decide +kernel
theorem dX12_numeral_7 : decode cX12_numeral 7 = .ok (.iload_n 1, 1) := by decide +kernel
theorem dX12_numeral_8 : decode cX12_numeral 8 = .ok (.ireturn, 1) := by decide +kernel
theorem dX12_numeral_9 : decode cX12_numeral 9 = .ok (.aload_n 0, 1) := by decide +kernel
theorem dX12_numeral_10 : decode cX12_numeral 10 = .ok (.getfield 223, 3) := by decide +kernel
theorem dX12_numeral_13 : decode cX12_numeral 13 = .ok (.iconst 4, 1) := by decide +kernel
theorem dX12_numeral_14 : decode cX12_numeral 14 = .ok (.if_icmp .eq 7, 3) := by decide +kernel
theorem dX12_numeral_17 : decode cX12_numeral 17 = .ok (.aload_n 0, 1) := by decide +kernel
theorem dX12_numeral_18 : decode cX12_numeral 18 = .ok (.invokevirtual 258, 3) := by decide +kernel
theorem dX12_numeral_21 : decode cX12_numeral 21 = .ok (.aload_n 0, 1) := by decide +kernel
theorem dX12_numeral_22 : decode cX12_numeral 22 = .ok (.invokevirtual 251, 3) := by decide +kernel
theorem dX12_numeral_25 : decode cX12_numeral 25 = .ok (.ifCond .eq 28, 3) := by decide +kernel
theorem dX12_numeral_28 : decode cX12_numeral 28 = .ok (.aload_n 0, 1) := by decide +kernel
theorem dX12_numeral_29 : decode cX12_numeral 29 = .ok (.getfield 241, 3) := by decide +kernel
theorem dX12_numeral_32 : decode cX12_numeral 32 = .ok (.iload_n 1, 1) := by decide +kernel
theorem dX12_numeral_33 : decode cX12_numeral 33 = .ok (.if_icmp .lt 11, 3) := by decide +kernel
theorem dX12_numeral_36 : decode cX12_numeral 36 = .ok (.aload_n 0, 1) := by decide +kernel
theorem dX12_numeral_37 : decode cX12_numeral 37 = .ok (.getfield 241, 3) := by decide +kernel
theorem dX12_numeral_40 : decode cX12_numeral 40 = .ok (.iload_n 2, 1) := by decide +kernel
theorem dX12_numeral_41 : decode cX12_numeral 41 = .ok (.if_icmp .le 12, 3) := by decide +kernel
theorem dX12_numeral_44 : decode cX12_numeral 44 = .ok (.aload_n 0, 1) := by decide +kernel
theorem dX12_numeral_45 : decode cX12_numeral 45 = .ok (.iconst 4, 1) := by decide +kernel
theorem dX12_numeral_46 : decode cX12_numeral 46 = .ok (.aload_n 0, 1) := by decide +kernel
theorem dX12_numeral_47 : decode cX12_numeral 47 = .ok (.getfield 216, 3) := by decide +kernel
theorem dX12_numeral_50 : decode cX12_numeral 50 = .ok (.invokevirtual 247, 3) := by decide +kernel
theorem dX12_numeral_53 : decode cX12_numeral 53 = .ok (.aload_n 0, 1) := by decide +kernel
theorem dX12_numeral_54 : decode cX12_numeral 54 = .ok (.invokevirtual 251, 3) := by decide +kernel
theorem dX12_numeral_57 : decode cX12_numeral 57 = .ok (.ifCond .eq 23, 3) := by decide +kernel
theorem dX12_numeral_60 : decode cX12_numeral 60 = .ok (.iload_n 3, 1) := by decide +kernel
theorem dX12_numeral_61 : decode cX12_numeral 61 = .ok (.aload_n 0, 1) := by decide +kernel
theorem dX12_numeral_62 : decode cX12_numeral 62 = .ok (.getfield 241, 3) := by decide +kernel
theorem dX12_numeral_65 : decode cX12_numeral 65 = .ok (.invokestatic 261, 3) := by decide +kernel
theorem dX12_numeral_68 : decode cX12_numeral 68 = .ok (.ifCond .eq 12, 3) := by decide +kernel
theorem dX12_numeral_71 : decode cX12_numeral 71 = .ok (.aload_n 0, 1) := by decide +kernel
theorem dX12_numeral_72 : decode cX12_numeral 72 = .ok (.iconst 3, 1) := by decide +kernel
theorem dX12_numeral_73 : decode cX12_numeral 73 = .ok (.aload_n 0, 1) := by decide +kernel
theorem dX12_numeral_74 : decode cX12_numeral 74 = .ok (.getfield 216, 3) := by decide +kernel
theorem dX12_numeral_77 : decode cX12_numeral 77 = .ok (.invokevirtual 247, 3) := by decide +kernel
theorem dX12_numeral_80 : decode cX12_numeral 80 = .ok (.aload_n 0, 1) := by decide +kernel
theorem dX12_numeral_81 : decode cX12_numeral 81 = .ok (.getfield 241, 3) := by decide +kernel
theorem dX12_numeral_84 : decode cX12_numeral 84 = .ok (.istore 4, 2) := by decide +kernel
theorem dX12_numeral_86 : decode cX12_numeral 86 = .ok (.aload_n 0, 1) := by decide +kernel
theorem dX12_numeral_87 : decode cX12_numeral 87 = .ok (.invokevirtual 251, 3) := by decide +kernel
theorem dX12_numeral_90 : decode cX12_numeral 90 = .ok (.ifCond .eq 7, 3) := by decide +kernel
theorem dX12_numeral_93 : decode cX12_numeral 93 = .ok (.aload_n 0, 1) := by decide +kernel
theorem dX12_numeral_94 : decode cX12_numeral 94 = .ok (.invokevirtual 255, 3) := by decide +kernel
theorem dX12_numeral_97 : decode cX12_numeral 97 = .ok (.aload_n 0, 1) := by decide +kernel
theorem dX12_numeral_98 : decode cX12_numeral 98 = .ok (.invokevirtual 251, 3) := by decide +kernel
theorem dX12_numeral_101 : decode cX12_numeral 101 = .ok (.ifCond .eq 8, 3) := by decide +kernel
theorem dX12_numeral_104 : decode cX12_numeral 104 = .ok (.iload 4, 2) := by decide +kernel
theorem dX12_numeral_106 : decode cX12_numeral 106 = .ok (.goto 4, 3) := by decide +kernel
theorem dX12_numeral_109 : decode cX12_numeral 109 = .ok (.iload_n 1, 1) := by decide +kernel
theorem dX12_numeral_110 : decode cX12_numeral 110 = .ok (.ireturn, 1) := by decide +kernel
theorem dX12_odds_0 : decode cX12_odds 0 = .ok (.aload_n 0, 1) := by decide +kernel
theorem dX12_odds_1 : decode cX12_odds 1 = .ok (.iload_n 1, 1) := by decide +kernel
theorem dX12_odds_2 : decode cX12_odds 2 = .ok (.invokevirtual 477, 3) := by decide +kernel
theorem dX12_odds_5 : decode cX12_odds 5 = .ok (.ifCond .eq 12, 3) := by decide +kernel
theorem dX12_odds_8 : decode cX12_odds 8 = .ok (.iload_n 2, 1) := by decide +kernel
theorem dX12_odds_9 : decode cX12_odds 9 = .ok (.iconst 0, 1) := by decide +kernel
theorem dX12_odds_10 : decode cX12_odds 10 = .ok (.iconst 1, 1) := by decide +kernel
theorem dX12_odds_11 : decode cX12_odds 11 = .ok (.invokestatic 407, 3) := by decide +kernel
theorem dX12_odds_14 : decode cX12_odds 14 = .ok (.ifCond .ne 5, 3) := by decide +kernel
theorem dX12_odds_17 : decode cX12_odds 17 = .ok (.iconst (-1), 1) := by decide +kernel
theorem dX12_odds_18 : decode cX12_odds 18 = .ok (.ireturn, 1) := by decide +kernel
theorem dX12_odds_19 : decode cX12_odds 19 = .ok (.aload_n 0, 1) := by decide +kernel
theorem dX12_odds_20 : decode cX12_odds 20 = .ok (.iconst 1, 1) := by decide +kernel
theorem dX12_odds_21 : decode cX12_odds 21 = .ok (.iload_n 1, 1) := by decide +kernel
theorem dX12_odds_22 : decode cX12_odds 22 = .ok (.ishl, 1) := by decide +kernel
theorem dX12_odds_23 : decode cX12_odds 23 = .ok (.invokevirtual 519, 3) := by decide +kernel
theorem dX12_odds_26 : decode cX12_odds 26 = .ok (.istore_n 3, 1) := by decide +kernel
theorem dX12_odds_27 : decode cX12_odds 27 = .ok (.aload_n 0, 1) := by decide +kernel
theorem dX12_odds_28 : decode cX12_odds 28 = .ok (.invokevirtual 541, 3) := by decide +kernel
theorem dX12_odds_31 : decode cX12_odds 31 = .ok (.istore 4, 2) := by decide +kernel
theorem dX12_odds_33 : decode cX12_odds 33 = .ok (.iload_n 2, 1) := by decide +kernel
theorem dX12_odds_34 : decode cX12_odds 34 = .ok (.ifCond .ne 7, 3) := by decide +kernel
theorem dX12_odds_37 : decode cX12_odds 37 = .ok (.iload_n 3, 1) := by decide +kernel
theorem dX12_odds_38 : decode cX12_odds 38 = .ok (.goto 5, 3) := by decide +kernel
theorem dX12_odds_41 : decode cX12_odds 41 = .ok (.iload 4, 2) := by decide +kernel
theorem dX12_odds_43 : decode cX12_odds 43 = .ok (.iload 4, 2) := by decide +kernel
theorem dX12_odds_45 : decode cX12_odds 45 = .ok (.iload_n 3, 1) := by decide +kernel
theorem dX12_odds_46 : decode cX12_odds 46 = .ok (.invokestatic 544, 3) := by decide +kernel
theorem dX12_odds_49 : decode cX12_odds 49 = .ok (.idiv, 1) := by decide +kernel
theorem dX12_odds_50 : decode cX12_odds 50 = .ok (.ireturn, 1) := by decide +kernel
theorem dX12_once_0 : decode cX12_once 0 = .ok (.aload_n 0, 1) := by decide +kernel
theorem dX12_once_1 : decode cX12_once 1 = .ok (.getfield 51, 3) := by decide +kernel
theorem dX12_once_4 : decode cX12_once 4 = .ok (.aload_n 0, 1) := by decide +kernel
theorem dX12_once_5 : decode cX12_once 5 = .ok (.getfield 265, 3) := by decide +kernel
theorem dX12_once_8 : decode cX12_once 8 = .ok (.dup2, 1) := by decide +kernel
theorem dX12_once_9 : decode cX12_once 9 = .ok (.iaload, 1) := by decide +kernel
theorem dX12_once_10 : decode cX12_once 10 = .ok (.iconst 1, 1) := by decide +kernel
theorem dX12_once_11 : decode cX12_once 11 = .ok (.iload_n 1, 1) := by decide +kernel
theorem dX12_once_12 : decode cX12_once 12 = .ok (.ishl, 1) := by decide +kernel
theorem dX12_once_13 : decode cX12_once 13 = .ok (.ior, 1) := by decide +kernel
theorem dX12_once_14 : decode cX12_once 14 = .ok (.iastore, 1) := by decide +kernel
theorem dX12_once_15 : decode cX12_once 15 = .ok (.aload_n 0, 1) := by decide +kernel
theorem dX12_once_16 : decode cX12_once 16 = .ok (.iload_n 2, 1) := by decide +kernel
theorem dX12_once_17 : decode cX12_once 17 = .ok (.iload_n 3, 1) := by decide +kernel
theorem dX12_once_18 : decode cX12_once 18 = .ok (.iconst 0, 1) := by decide +kernel
theorem dX12_once_19 : decode cX12_once 19 = .ok (.invokevirtual 286, 3) := by decide +kernel
theorem dX12_once_22 : decode cX12_once 22 = .ok (.ireturn, 1) := by decide +kernel
theorem dX12_openedAsTold_0 : decode cX12_openedAsTold 0 = .ok (.iload_n 1, 1) := by decide +kernel
theorem dX12_openedAsTold_1 : decode cX12_openedAsTold 1 = .ok (.istore_n 3, 1) := by decide +kernel
theorem dX12_openedAsTold_2 : decode cX12_openedAsTold 2 = .ok (.aload_n 0, 1) := by decide +kernel
theorem dX12_openedAsTold_3 : decode cX12_openedAsTold 3 = .ok (.invokevirtual 414, 3) := by decide +kernel
theorem dX12_openedAsTold_6 : decode cX12_openedAsTold 6 = .ok (.iconst 1, 1) := by decide +kernel
theorem dX12_openedAsTold_7 : decode cX12_openedAsTold 7 = .ok (.isub, 1) := by decide +kernel
theorem dX12_openedAsTold_8 : decode cX12_openedAsTold 8 = .ok (.istore 4, 2) := by decide +kernel
theorem dX12_openedAsTold_10 : decode cX12_openedAsTold 10 = .ok (.iload 4, 2) := by decide +kernel
theorem dX12_openedAsTold_12 : decode cX12_openedAsTold 12 = .ok (.ifCond .lt 49, 3) := by decide +kernel
theorem dX12_openedAsTold_15 : decode cX12_openedAsTold 15 = .ok (.aload_n 0, 1) := by decide +kernel
theorem dX12_openedAsTold_16 : decode cX12_openedAsTold 16 = .ok (.getfield 57, 3) := by decide +kernel
theorem dX12_openedAsTold_19 : decode cX12_openedAsTold 19 = .ok (.iconst 5, 1) := by decide +kernel
theorem dX12_openedAsTold_20 : decode cX12_openedAsTold 20 = .ok (.bipush 6, 2) := by decide +kernel
theorem dX12_openedAsTold_22 : decode cX12_openedAsTold 22 = .ok (.aload_n 0, 1) := by decide +kernel
theorem dX12_openedAsTold_23 : decode cX12_openedAsTold 23 = .ok (.getfield 274, 3) := by decide +kernel
theorem dX12_openedAsTold_26 : decode cX12_openedAsTold 26 = .ok (.imul, 1) := by decide +kernel
theorem dX12_openedAsTold_27 : decode cX12_openedAsTold 27 = .ok (.iload_n 2, 1) := by decide +kernel
theorem dX12_openedAsTold_28 : decode cX12_openedAsTold 28 = .ok (.iadd, 1) := by decide +kernel
theorem dX12_openedAsTold_29 : decode cX12_openedAsTold 29 = .ok (.imul, 1) := by decide +kernel
theorem dX12_openedAsTold_30 : decode cX12_openedAsTold 30 = .ok (.iload 4, 2) := by decide +kernel
theorem dX12_openedAsTold_32 : decode cX12_openedAsTold 32 = .ok (.iadd, 1) := by decide +kernel
theorem dX12_openedAsTold_33 : decode cX12_openedAsTold 33 = .ok (.iaload, 1) := by decide +kernel
theorem dX12_openedAsTold_34 : decode cX12_openedAsTold 34 = .ok (.iload_n 3, 1) := by decide +kernel
theorem dX12_openedAsTold_35 : decode cX12_openedAsTold 35 = .ok (.aload_n 0, 1) := by decide +kernel
theorem dX12_openedAsTold_36 : decode cX12_openedAsTold 36 = .ok (.invokevirtual 429, 3) := by decide +kernel
theorem dX12_openedAsTold_39 : decode cX12_openedAsTold 39 = .ok (.irem, 1) := by decide +kernel
theorem dX12_openedAsTold_40 : decode cX12_openedAsTold 40 = .ok (.invokestatic 261, 3) := by decide +kernel
theorem dX12_openedAsTold_43 : decode cX12_openedAsTold 43 = .ok (.ifCond .ne 5, 3) := by decide +kernel
theorem dX12_openedAsTold_46 : decode cX12_openedAsTold 46 = .ok (.iconst 0, 1) := by decide +kernel
theorem dX12_openedAsTold_47 : decode cX12_openedAsTold 47 = .ok (.ireturn, 1) := by decide +kernel
theorem dX12_openedAsTold_48 : decode cX12_openedAsTold 48 = .ok (.iload_n 3, 1) := by decide +kernel
theorem dX12_openedAsTold_49 : decode cX12_openedAsTold 49 = .ok (.aload_n 0, 1) := by decide +kernel
theorem dX12_openedAsTold_50 : decode cX12_openedAsTold 50 = .ok (.invokevirtual 429, 3) := by decide +kernel
theorem dX12_openedAsTold_53 : decode cX12_openedAsTold 53 = .ok (.idiv, 1) := by decide +kernel
theorem dX12_openedAsTold_54 : decode cX12_openedAsTold 54 = .ok (.istore_n 3, 1) := by decide +kernel
theorem dX12_openedAsTold_55 : decode cX12_openedAsTold 55 = .ok (.iinc 4 (-1), 3) := by decide +kernel
theorem dX12_openedAsTold_58 : decode cX12_openedAsTold 58 = .ok (.goto (-48), 3) := by decide +kernel
theorem dX12_openedAsTold_61 : decode cX12_openedAsTold 61 = .ok (.iconst 1, 1) := by decide +kernel
theorem dX12_openedAsTold_62 : decode cX12_openedAsTold 62 = .ok (.ireturn, 1) := by decide +kernel
theorem dX12_openedBy_0 : decode cX12_openedBy 0 = .ok (.iconst 0, 1) := by decide +kernel
theorem dX12_openedBy_1 : decode cX12_openedBy 1 = .ok (.istore_n 2, 1) := by decide +kernel
theorem dX12_openedBy_2 : decode cX12_openedBy 2 = .ok (.iconst 0, 1) := by decide +kernel
theorem dX12_openedBy_3 : decode cX12_openedBy 3 = .ok (.istore_n 3, 1) := by decide +kernel
theorem dX12_openedBy_4 : decode cX12_openedBy 4 = .ok (.iload_n 3, 1) := by decide +kernel
theorem dX12_openedBy_5 : decode cX12_openedBy 5 = .ok (.aload_n 0, 1) := by decide +kernel
theorem dX12_openedBy_6 : decode cX12_openedBy 6 = .ok (.invokevirtual 411, 3) := by decide +kernel
theorem dX12_openedBy_9 : decode cX12_openedBy 9 = .ok (.if_icmp .ge 24, 3) := by decide +kernel
theorem dX12_openedBy_12 : decode cX12_openedBy 12 = .ok (.aload_n 0, 1) := by decide +kernel
theorem dX12_openedBy_13 : decode cX12_openedBy 13 = .ok (.iload_n 1, 1) := by decide +kernel
theorem dX12_openedBy_14 : decode cX12_openedBy 14 = .ok (.iload_n 3, 1) := by decide +kernel
theorem dX12_openedBy_15 : decode cX12_openedBy 15 = .ok (.invokevirtual 453, 3) := by decide +kernel
theorem dX12_openedBy_18 : decode cX12_openedBy 18 = .ok (.ifCond .eq 9, 3) := by decide +kernel
theorem dX12_openedBy_21 : decode cX12_openedBy 21 = .ok (.iload_n 2, 1) := by decide +kernel
theorem dX12_openedBy_22 : decode cX12_openedBy 22 = .ok (.iconst 1, 1) := by decide +kernel
theorem dX12_openedBy_23 : decode cX12_openedBy 23 = .ok (.iload_n 3, 1) := by decide +kernel
theorem dX12_openedBy_24 : decode cX12_openedBy 24 = .ok (.ishl, 1) := by decide +kernel
theorem dX12_openedBy_25 : decode cX12_openedBy 25 = .ok (.ior, 1) := by decide +kernel
theorem dX12_openedBy_26 : decode cX12_openedBy 26 = .ok (.istore_n 2, 1) := by decide +kernel
theorem dX12_openedBy_27 : decode cX12_openedBy 27 = .ok (.iinc 3 1, 3) := by decide +kernel
theorem dX12_openedBy_30 : decode cX12_openedBy 30 = .ok (.goto (-26), 3) := by decide +kernel
theorem dX12_openedBy_33 : decode cX12_openedBy 33 = .ok (.iload_n 2, 1) := by decide +kernel
theorem dX12_openedBy_34 : decode cX12_openedBy 34 = .ok (.ireturn, 1) := by decide +kernel
theorem dX12_openedWith_0 : decode cX12_openedWith 0 = .ok (.iconst 0, 1) := by decide +kernel
theorem dX12_openedWith_1 : decode cX12_openedWith 1 = .ok (.istore_n 3, 1) := by decide +kernel
theorem dX12_openedWith_2 : decode cX12_openedWith 2 = .ok (.iload_n 3, 1) := by decide +kernel
theorem dX12_openedWith_3 : decode cX12_openedWith 3 = .ok (.aload_n 0, 1) := by decide +kernel
theorem dX12_openedWith_4 : decode cX12_openedWith 4 = .ok (.invokevirtual 404, 3) := by decide +kernel
theorem dX12_openedWith_7 : decode cX12_openedWith 7 = .ok (.if_icmp .ge 28, 3) := by decide +kernel
theorem dX12_openedWith_10 : decode cX12_openedWith 10 = .ok (.iload_n 2, 1) := by decide +kernel
theorem dX12_openedWith_11 : decode cX12_openedWith 11 = .ok (.iload_n 3, 1) := by decide +kernel
theorem dX12_openedWith_12 : decode cX12_openedWith 12 = .ok (.invokestatic 261, 3) := by decide +kernel
theorem dX12_openedWith_15 : decode cX12_openedWith 15 = .ok (.ifCond .eq 14, 3) := by decide +kernel
theorem dX12_openedWith_18 : decode cX12_openedWith 18 = .ok (.aload_n 0, 1) := by decide +kernel
theorem dX12_openedWith_19 : decode cX12_openedWith 19 = .ok (.iload_n 3, 1) := by decide +kernel
theorem dX12_openedWith_20 : decode cX12_openedWith 20 = .ok (.iload_n 1, 1) := by decide +kernel
theorem dX12_openedWith_21 : decode cX12_openedWith 21 = .ok (.invokevirtual 474, 3) := by decide +kernel
theorem dX12_openedWith_24 : decode cX12_openedWith 24 = .ok (.ifCond .eq 5, 3) := by decide +kernel
theorem dX12_openedWith_27 : decode cX12_openedWith 27 = .ok (.iconst 1, 1) := by decide +kernel
theorem dX12_openedWith_28 : decode cX12_openedWith 28 = .ok (.ireturn, 1) := by decide +kernel
theorem dX12_openedWith_29 : decode cX12_openedWith 29 = .ok (.iinc 3 1, 3) := by decide +kernel
theorem dX12_openedWith_32 : decode cX12_openedWith 32 = .ok (.goto (-30), 3) := by decide +kernel
theorem dX12_openedWith_35 : decode cX12_openedWith 35 = .ok (.iconst 0, 1) := by decide +kernel
theorem dX12_openedWith_36 : decode cX12_openedWith 36 = .ok (.ireturn, 1) := by decide +kernel
theorem dX12_openers_0 : decode cX12_openers 0 = .ok (.iconst 0, 1) := by decide +kernel
theorem dX12_openers_1 : decode cX12_openers 1 = .ok (.istore_n 2, 1) := by decide +kernel
theorem dX12_openers_2 : decode cX12_openers 2 = .ok (.iconst 0, 1) := by decide +kernel
theorem dX12_openers_3 : decode cX12_openers 3 = .ok (.istore_n 3, 1) := by decide +kernel
theorem dX12_openers_4 : decode cX12_openers 4 = .ok (.iload_n 3, 1) := by decide +kernel
theorem dX12_openers_5 : decode cX12_openers 5 = .ok (.aload_n 0, 1) := by decide +kernel
theorem dX12_openers_6 : decode cX12_openers 6 = .ok (.invokevirtual 438, 3) := by decide +kernel
theorem dX12_openers_9 : decode cX12_openers 9 = .ok (.if_icmp .ge 31, 3) := by decide +kernel
theorem dX12_openers_12 : decode cX12_openers 12 = .ok (.aload_n 0, 1) := by decide +kernel
theorem dX12_openers_13 : decode cX12_openers 13 = .ok (.iload_n 3, 1) := by decide +kernel
theorem dX12_openers_14 : decode cX12_openers 14 = .ok (.invokevirtual 456, 3) := by decide +kernel
theorem dX12_openers_17 : decode cX12_openers 17 = .ok (.ifCond .eq 17, 3) := by decide +kernel
theorem dX12_openers_20 : decode cX12_openers 20 = .ok (.aload_n 0, 1) := by decide +kernel
theorem dX12_openers_21 : decode cX12_openers 21 = .ok (.iload_n 3, 1) := by decide +kernel
theorem dX12_openers_22 : decode cX12_openers 22 = .ok (.invokevirtual 459, 3) := by decide +kernel
theorem dX12_openers_25 : decode cX12_openers 25 = .ok (.iload_n 1, 1) := by decide +kernel
theorem dX12_openers_26 : decode cX12_openers 26 = .ok (.iand, 1) := by decide +kernel
theorem dX12_openers_27 : decode cX12_openers 27 = .ok (.iload_n 1, 1) := by decide +kernel
theorem dX12_openers_28 : decode cX12_openers 28 = .ok (.if_icmp .ne 6, 3) := by decide +kernel
theorem dX12_openers_31 : decode cX12_openers 31 = .ok (.iinc 2 1, 3) := by decide +kernel
theorem dX12_openers_34 : decode cX12_openers 34 = .ok (.iinc 3 1, 3) := by decide +kernel
theorem dX12_openers_37 : decode cX12_openers 37 = .ok (.goto (-33), 3) := by decide +kernel
theorem dX12_openers_40 : decode cX12_openers 40 = .ok (.iload_n 2, 1) := by decide +kernel
theorem dX12_openers_41 : decode cX12_openers 41 = .ok (.ireturn, 1) := by decide +kernel
theorem dX12_opens_0 : decode cX12_opens 0 = .ok (.aload_n 0, 1) := by decide +kernel
theorem dX12_opens_1 : decode cX12_opens 1 = .ok (.iload_n 1, 1) := by decide +kernel
theorem dX12_opens_2 : decode cX12_opens 2 = .ok (.invokevirtual 456, 3) := by decide +kernel
theorem dX12_opens_5 : decode cX12_opens 5 = .ok (.ifCond .eq 11, 3) := by decide +kernel
theorem dX12_opens_8 : decode cX12_opens 8 = .ok (.aload_n 0, 1) := by decide +kernel
theorem dX12_opens_9 : decode cX12_opens 9 = .ok (.iload_n 2, 1) := by decide +kernel
theorem dX12_opens_10 : decode cX12_opens 10 = .ok (.invokevirtual 477, 3) := by decide +kernel
theorem dX12_opens_13 : decode cX12_opens 13 = .ok (.ifCond .ne 5, 3) := by decide +kernel
theorem dX12_opens_16 : decode cX12_opens 16 = .ok (.iconst (-1), 1) := by decide +kernel
theorem dX12_opens_17 : decode cX12_opens 17 = .ok (.ireturn, 1) := by decide +kernel
theorem dX12_opens_18 : decode cX12_opens 18 = .ok (.aload_n 0, 1) := by decide +kernel
theorem dX12_opens_19 : decode cX12_opens 19 = .ok (.iload_n 1, 1) := by decide +kernel
theorem dX12_opens_20 : decode cX12_opens 20 = .ok (.iload_n 2, 1) := by decide +kernel
theorem dX12_opens_21 : decode cX12_opens 21 = .ok (.invokevirtual 453, 3) := by decide +kernel
theorem dX12_opens_24 : decode cX12_opens 24 = .ok (.ifCond .eq 7, 3) := by decide +kernel
theorem dX12_opens_27 : decode cX12_opens 27 = .ok (.iconst 1, 1) := by decide +kernel
theorem dX12_opens_28 : decode cX12_opens 28 = .ok (.goto 4, 3) := by decide +kernel
theorem dX12_opens_31 : decode cX12_opens 31 = .ok (.iconst 0, 1) := by decide +kernel
theorem dX12_opens_32 : decode cX12_opens 32 = .ok (.ireturn, 1) := by decide +kernel
theorem dX12_opensBy_0 : decode cX12_opensBy 0 = .ok (.aload_n 0, 1) := by decide +kernel
theorem dX12_opensBy_1 : decode cX12_opensBy 1 = .ok (.aload_n 0, 1) := by decide +kernel
theorem dX12_opensBy_2 : decode cX12_opensBy 2 = .ok (.iload_n 1, 1) := by decide +kernel
theorem dX12_opensBy_3 : decode cX12_opensBy 3 = .ok (.invokevirtual 450, 3) := by decide +kernel
theorem dX12_opensBy_6 : decode cX12_opensBy 6 = .ok (.iload_n 2, 1) := by decide +kernel
theorem dX12_opensBy_7 : decode cX12_opensBy 7 = .ok (.invokevirtual 453, 3) := by decide +kernel
theorem dX12_opensBy_10 : decode cX12_opensBy 10 = .ok (.ireturn, 1) := by decide +kernel
theorem dX12_otherSide_0 : decode cX12_otherSide 0 = .ok (.bipush 8, 2) := by decide +kernel
theorem dX12_otherSide_2 : decode cX12_otherSide 2 = .ok (.aload_n 0, 1) := by decide +kernel
theorem dX12_otherSide_3 : decode cX12_otherSide 3 = .ok (.getfield 274, 3) := by decide +kernel
theorem dX12_otherSide_6 : decode cX12_otherSide 6 = .ok (.imul, 1) := by decide +kernel
theorem dX12_otherSide_7 : decode cX12_otherSide 7 = .ok (.iload_n 1, 1) := by decide +kernel
theorem dX12_otherSide_8 : decode cX12_otherSide 8 = .ok (.iadd, 1) := by decide +kernel
theorem dX12_otherSide_9 : decode cX12_otherSide 9 = .ok (.istore_n 3, 1) := by decide +kernel
theorem dX12_otherSide_10 : decode cX12_otherSide 10 = .ok (.aload_n 0, 1) := by decide +kernel
theorem dX12_otherSide_11 : decode cX12_otherSide 11 = .ok (.getfield 60, 3) := by decide +kernel
theorem dX12_otherSide_14 : decode cX12_otherSide 14 = .ok (.iload_n 3, 1) := by decide +kernel
theorem dX12_otherSide_15 : decode cX12_otherSide 15 = .ok (.iaload, 1) := by decide +kernel
theorem dX12_otherSide_16 : decode cX12_otherSide 16 = .ok (.iload_n 2, 1) := by decide +kernel
theorem dX12_otherSide_17 : decode cX12_otherSide 17 = .ok (.if_icmp .ne 12, 3) := by decide +kernel
theorem dX12_otherSide_20 : decode cX12_otherSide 20 = .ok (.aload_n 0, 1) := by decide +kernel
theorem dX12_otherSide_21 : decode cX12_otherSide 21 = .ok (.getfield 63, 3) := by decide +kernel
theorem dX12_otherSide_24 : decode cX12_otherSide 24 = .ok (.iload_n 3, 1) := by decide +kernel
theorem dX12_otherSide_25 : decode cX12_otherSide 25 = .ok (.iaload, 1) := by decide +kernel
theorem dX12_otherSide_26 : decode cX12_otherSide 26 = .ok (.goto 23, 3) := by decide +kernel
theorem dX12_otherSide_29 : decode cX12_otherSide 29 = .ok (.aload_n 0, 1) := by decide +kernel
theorem dX12_otherSide_30 : decode cX12_otherSide 30 = .ok (.getfield 63, 3) := by decide +kernel
theorem dX12_otherSide_33 : decode cX12_otherSide 33 = .ok (.iload_n 3, 1) := by decide +kernel
theorem dX12_otherSide_34 : decode cX12_otherSide 34 = .ok (.iaload, 1) := by decide +kernel
theorem dX12_otherSide_35 : decode cX12_otherSide 35 = .ok (.iload_n 2, 1) := by decide +kernel
theorem dX12_otherSide_36 : decode cX12_otherSide 36 = .ok (.if_icmp .ne 12, 3) := by decide +kernel
theorem dX12_otherSide_39 : decode cX12_otherSide 39 = .ok (.aload_n 0, 1) := by decide +kernel
theorem dX12_otherSide_40 : decode cX12_otherSide 40 = .ok (.getfield 60, 3) := by decide +kernel
theorem dX12_otherSide_43 : decode cX12_otherSide 43 = .ok (.iload_n 3, 1) := by decide +kernel
theorem dX12_otherSide_44 : decode cX12_otherSide 44 = .ok (.iaload, 1) := by decide +kernel
theorem dX12_otherSide_45 : decode cX12_otherSide 45 = .ok (.goto 4, 3) := by decide +kernel
theorem dX12_otherSide_48 : decode cX12_otherSide 48 = .ok (.iconst (-1), 1) := by decide +kernel
theorem dX12_otherSide_49 : decode cX12_otherSide 49 = .ok (.ireturn, 1) := by decide +kernel
theorem dX12_part_0 : decode cX12_part 0 = .ok (.aload_n 0, 1) := by decide +kernel
theorem dX12_part_1 : decode cX12_part 1 = .ok (.iload_n 1, 1) := by decide +kernel
theorem dX12_part_2 : decode cX12_part 2 = .ok (.invokevirtual 477, 3) := by decide +kernel
theorem dX12_part_5 : decode cX12_part 5 = .ok (.ifCond .eq 37, 3) := by decide +kernel
theorem dX12_part_8 : decode cX12_part 8 = .ok (.aload_n 0, 1) := by decide +kernel
theorem dX12_part_9 : decode cX12_part 9 = .ok (.iload_n 2, 1) := by decide +kernel
theorem dX12_part_10 : decode cX12_part 10 = .ok (.invokevirtual 468, 3) := by decide +kernel
theorem dX12_part_13 : decode cX12_part 13 = .ok (.ifCond .eq 29, 3) := by decide +kernel
theorem dX12_part_16 : decode cX12_part 16 = .ok (.iload_n 3, 1) := by decide +kernel
theorem dX12_part_17 : decode cX12_part 17 = .ok (.iconst 0, 1) := by decide +kernel
theorem dX12_part_18 : decode cX12_part 18 = .ok (.aload_n 0, 1) := by decide +kernel
theorem dX12_part_19 : decode cX12_part 19 = .ok (.invokevirtual 429, 3) := by decide +kernel
theorem dX12_part_22 : decode cX12_part 22 = .ok (.iconst 1, 1) := by decide +kernel
theorem dX12_part_23 : decode cX12_part 23 = .ok (.isub, 1) := by decide +kernel
theorem dX12_part_24 : decode cX12_part 24 = .ok (.invokestatic 407, 3) := by decide +kernel
theorem dX12_part_27 : decode cX12_part 27 = .ok (.ifCond .eq 15, 3) := by decide +kernel
theorem dX12_part_30 : decode cX12_part 30 = .ok (.aload_n 0, 1) := by decide +kernel
theorem dX12_part_31 : decode cX12_part 31 = .ok (.iload_n 1, 1) := by decide +kernel
theorem dX12_part_32 : decode cX12_part 32 = .ok (.iload_n 2, 1) := by decide +kernel
theorem dX12_part_33 : decode cX12_part 33 = .ok (.invokevirtual 447, 3) := by decide +kernel
theorem dX12_part_36 : decode cX12_part 36 = .ok (.iconst 1, 1) := by decide +kernel
theorem dX12_part_37 : decode cX12_part 37 = .ok (.iload_n 3, 1) := by decide +kernel
theorem dX12_part_38 : decode cX12_part 38 = .ok (.ishl, 1) := by decide +kernel
theorem dX12_part_39 : decode cX12_part 39 = .ok (.if_icmp .ne 5, 3) := by decide +kernel
theorem dX12_part_42 : decode cX12_part 42 = .ok (.iconst (-1), 1) := by decide +kernel
theorem dX12_part_43 : decode cX12_part 43 = .ok (.ireturn, 1) := by decide +kernel
theorem dX12_part_44 : decode cX12_part 44 = .ok (.aload_n 0, 1) := by decide +kernel
theorem dX12_part_45 : decode cX12_part 45 = .ok (.invokevirtual 600, 3) := by decide +kernel
theorem dX12_part_48 : decode cX12_part 48 = .ok (.aload_n 0, 1) := by decide +kernel
theorem dX12_part_49 : decode cX12_part 49 = .ok (.getfield 118, 3) := by decide +kernel
theorem dX12_part_52 : decode cX12_part 52 = .ok (.bipush 56, 2) := by decide +kernel
theorem dX12_part_54 : decode cX12_part 54 = .ok (.iconst 5, 1) := by decide +kernel
theorem dX12_part_55 : decode cX12_part 55 = .ok (.iload_n 1, 1) := by decide +kernel
theorem dX12_part_56 : decode cX12_part 56 = .ok (.imul, 1) := by decide +kernel
theorem dX12_part_57 : decode cX12_part 57 = .ok (.iadd, 1) := by decide +kernel
theorem dX12_part_58 : decode cX12_part 58 = .ok (.iload_n 2, 1) := by decide +kernel
theorem dX12_part_59 : decode cX12_part 59 = .ok (.iadd, 1) := by decide +kernel
theorem dX12_part_60 : decode cX12_part 60 = .ok (.dup2, 1) := by decide +kernel
theorem dX12_part_61 : decode cX12_part 61 = .ok (.iaload, 1) := by decide +kernel
theorem dX12_part_62 : decode cX12_part 62 = .ok (.iconst 1, 1) := by decide +kernel
theorem dX12_part_63 : decode cX12_part 63 = .ok (.iload_n 3, 1) := by decide +kernel
theorem dX12_part_64 : decode cX12_part 64 = .ok (.ishl, 1) := by decide +kernel
theorem dX12_part_65 : decode cX12_part 65 = .ok (.ixor, 1) := by decide +kernel
theorem dX12_part_66 : decode cX12_part 66 = .ok (.iastore, 1) := by decide +kernel
theorem dX12_part_67 : decode cX12_part 67 = .ok (.aload_n 0, 1) := by decide +kernel
theorem dX12_part_68 : decode cX12_part 68 = .ok (.iload_n 1, 1) := by decide +kernel
theorem dX12_part_69 : decode cX12_part 69 = .ok (.iload_n 2, 1) := by decide +kernel
theorem dX12_part_70 : decode cX12_part 70 = .ok (.invokevirtual 447, 3) := by decide +kernel
theorem dX12_part_73 : decode cX12_part 73 = .ok (.ireturn, 1) := by decide +kernel
theorem dX12_parts_0 : decode cX12_parts 0 = .ok (.aload_n 0, 1) := by decide +kernel
theorem dX12_parts_1 : decode cX12_parts 1 = .ok (.iload_n 1, 1) := by decide +kernel
theorem dX12_parts_2 : decode cX12_parts 2 = .ok (.invokevirtual 477, 3) := by decide +kernel
theorem dX12_parts_5 : decode cX12_parts 5 = .ok (.ifCond .eq 20, 3) := by decide +kernel
theorem dX12_parts_8 : decode cX12_parts 8 = .ok (.aload_n 0, 1) := by decide +kernel
theorem dX12_parts_9 : decode cX12_parts 9 = .ok (.iload_n 2, 1) := by decide +kernel
theorem dX12_parts_10 : decode cX12_parts 10 = .ok (.invokevirtual 468, 3) := by decide +kernel
theorem dX12_parts_13 : decode cX12_parts 13 = .ok (.ifCond .eq 12, 3) := by decide +kernel
theorem dX12_parts_16 : decode cX12_parts 16 = .ok (.aload_n 0, 1) := by decide +kernel
theorem dX12_parts_17 : decode cX12_parts 17 = .ok (.iload_n 1, 1) := by decide +kernel
theorem dX12_parts_18 : decode cX12_parts 18 = .ok (.iload_n 2, 1) := by decide +kernel
theorem dX12_parts_19 : decode cX12_parts 19 = .ok (.invokevirtual 447, 3) := by decide +kernel
theorem dX12_parts_22 : decode cX12_parts 22 = .ok (.goto 4, 3) := by decide +kernel
theorem dX12_parts_25 : decode cX12_parts 25 = .ok (.iconst (-1), 1) := by decide +kernel
theorem dX12_parts_26 : decode cX12_parts 26 = .ok (.ireturn, 1) := by decide +kernel
theorem dX12_partsIn_0 : decode cX12_partsIn 0 = .ok (.iconst 0, 1) := by decide +kernel
theorem dX12_partsIn_1 : decode cX12_partsIn 1 = .ok (.istore_n 2, 1) := by decide +kernel
theorem dX12_partsIn_2 : decode cX12_partsIn 2 = .ok (.iconst 0, 1) := by decide +kernel
theorem dX12_partsIn_3 : decode cX12_partsIn 3 = .ok (.istore_n 3, 1) := by decide +kernel
theorem dX12_partsIn_4 : decode cX12_partsIn 4 = .ok (.iload_n 3, 1) := by decide +kernel
theorem dX12_partsIn_5 : decode cX12_partsIn 5 = .ok (.aload_n 0, 1) := by decide +kernel
theorem dX12_partsIn_6 : decode cX12_partsIn 6 = .ok (.invokevirtual 414, 3) := by decide +kernel
theorem dX12_partsIn_9 : decode cX12_partsIn 9 = .ok (.if_icmp .ge 21, 3) := by decide +kernel
theorem dX12_partsIn_12 : decode cX12_partsIn 12 = .ok (.iload_n 2, 1) := by decide +kernel
theorem dX12_partsIn_13 : decode cX12_partsIn 13 = .ok (.aload_n 0, 1) := by decide +kernel
theorem dX12_partsIn_14 : decode cX12_partsIn 14 = .ok (.iload_n 1, 1) := by decide +kernel
theorem dX12_partsIn_15 : decode cX12_partsIn 15 = .ok (.iload_n 3, 1) := by decide +kernel
theorem dX12_partsIn_16 : decode cX12_partsIn 16 = .ok (.invokevirtual 447, 3) := by decide +kernel
theorem dX12_partsIn_19 : decode cX12_partsIn 19 = .ok (.invokestatic 471, 3) := by decide +kernel
theorem dX12_partsIn_22 : decode cX12_partsIn 22 = .ok (.iadd, 1) := by decide +kernel
theorem dX12_partsIn_23 : decode cX12_partsIn 23 = .ok (.istore_n 2, 1) := by decide +kernel
theorem dX12_partsIn_24 : decode cX12_partsIn 24 = .ok (.iinc 3 1, 3) := by decide +kernel
theorem dX12_partsIn_27 : decode cX12_partsIn 27 = .ok (.goto (-23), 3) := by decide +kernel
theorem dX12_partsIn_30 : decode cX12_partsIn 30 = .ok (.iload_n 2, 1) := by decide +kernel
theorem dX12_partsIn_31 : decode cX12_partsIn 31 = .ok (.ireturn, 1) := by decide +kernel
theorem dX12_partsOf_0 : decode cX12_partsOf 0 = .ok (.aload_n 0, 1) := by decide +kernel
theorem dX12_partsOf_1 : decode cX12_partsOf 1 = .ok (.getfield 118, 3) := by decide +kernel
theorem dX12_partsOf_4 : decode cX12_partsOf 4 = .ok (.bipush 56, 2) := by decide +kernel
theorem dX12_partsOf_6 : decode cX12_partsOf 6 = .ok (.iconst 5, 1) := by decide +kernel
theorem dX12_partsOf_7 : decode cX12_partsOf 7 = .ok (.iload_n 1, 1) := by decide +kernel
theorem dX12_partsOf_8 : decode cX12_partsOf 8 = .ok (.imul, 1) := by decide +kernel
theorem dX12_partsOf_9 : decode cX12_partsOf 9 = .ok (.iadd, 1) := by decide +kernel
theorem dX12_partsOf_10 : decode cX12_partsOf 10 = .ok (.iload_n 2, 1) := by decide +kernel
theorem dX12_partsOf_11 : decode cX12_partsOf 11 = .ok (.iadd, 1) := by decide +kernel
theorem dX12_partsOf_12 : decode cX12_partsOf 12 = .ok (.iaload, 1) := by decide +kernel
theorem dX12_partsOf_13 : decode cX12_partsOf 13 = .ok (.ireturn, 1) := by decide +kernel
theorem dX12_person_0 : decode cX12_person 0 = .ok (.aload_n 0, 1) := by decide +kernel
theorem dX12_person_1 : decode cX12_person 1 = .ok (.iload_n 1, 1) := by decide +kernel
theorem dX12_person_2 : decode cX12_person 2 = .ok (.invokevirtual 495, 3) := by decide +kernel
theorem dX12_person_5 : decode cX12_person 5 = .ok (.ifCond .ne 5, 3) := by decide +kernel
theorem dX12_person_8 : decode cX12_person 8 = .ok (.iconst (-1), 1) := by decide +kernel
theorem dX12_person_9 : decode cX12_person 9 = .ok (.ireturn, 1) := by decide +kernel
theorem dX12_person_10 : decode cX12_person 10 = .ok (.iload_n 2, 1) := by decide +kernel
theorem dX12_person_11 : decode cX12_person 11 = .ok (.tableswitch 47 0 2 #[25, 35, 41], 25) := by decide +kernel
theorem dX12_person_36 : decode cX12_person 36 = .ok (.aload_n 0, 1) := by decide +kernel
theorem dX12_person_37 : decode cX12_person 37 = .ok (.getfield 118, 3) := by decide +kernel
theorem dX12_person_40 : decode cX12_person 40 = .ok (.bipush 86, 2) := by decide +kernel
theorem dX12_person_42 : decode cX12_person 42 = .ok (.iload_n 1, 1) := by decide +kernel
theorem dX12_person_43 : decode cX12_person 43 = .ok (.iadd, 1) := by decide +kernel
theorem dX12_person_44 : decode cX12_person 44 = .ok (.iaload, 1) := by decide +kernel
theorem dX12_person_45 : decode cX12_person 45 = .ok (.ireturn, 1) := by decide +kernel
theorem dX12_person_46 : decode cX12_person 46 = .ok (.aload_n 0, 1) := by decide +kernel
theorem dX12_person_47 : decode cX12_person 47 = .ok (.iload_n 1, 1) := by decide +kernel
theorem dX12_person_48 : decode cX12_person 48 = .ok (.invokevirtual 498, 3) := by decide +kernel
theorem dX12_person_51 : decode cX12_person 51 = .ok (.ireturn, 1) := by decide +kernel
theorem dX12_person_52 : decode cX12_person 52 = .ok (.aload_n 0, 1) := by decide +kernel
theorem dX12_person_53 : decode cX12_person 53 = .ok (.iload_n 1, 1) := by decide +kernel
theorem dX12_person_54 : decode cX12_person 54 = .ok (.invokevirtual 501, 3) := by decide +kernel
theorem dX12_person_57 : decode cX12_person 57 = .ok (.ireturn, 1) := by decide +kernel
theorem dX12_person_58 : decode cX12_person 58 = .ok (.iconst (-1), 1) := by decide +kernel
theorem dX12_person_59 : decode cX12_person 59 = .ok (.ireturn, 1) := by decide +kernel
theorem dX12_pin_0 : decode cX12_pin 0 = .ok (.aload_n 0, 1) := by decide +kernel
theorem dX12_pin_1 : decode cX12_pin 1 = .ok (.iload_n 1, 1) := by decide +kernel
theorem dX12_pin_2 : decode cX12_pin 2 = .ok (.invokevirtual 477, 3) := by decide +kernel
theorem dX12_pin_5 : decode cX12_pin 5 = .ok (.ifCond .eq 22, 3) := by decide +kernel
theorem dX12_pin_8 : decode cX12_pin 8 = .ok (.iload_n 2, 1) := by decide +kernel
theorem dX12_pin_9 : decode cX12_pin 9 = .ok (.ifCond .eq 18, 3) := by decide +kernel
theorem dX12_pin_12 : decode cX12_pin 12 = .ok (.iload_n 2, 1) := by decide +kernel
theorem dX12_pin_13 : decode cX12_pin 13 = .ok (.iconst 1, 1) := by decide +kernel
theorem dX12_pin_14 : decode cX12_pin 14 = .ok (.aload_n 0, 1) := by decide +kernel
theorem dX12_pin_15 : decode cX12_pin 15 = .ok (.invokevirtual 404, 3) := by decide +kernel
theorem dX12_pin_18 : decode cX12_pin 18 = .ok (.ishl, 1) := by decide +kernel
theorem dX12_pin_19 : decode cX12_pin 19 = .ok (.iconst 1, 1) := by decide +kernel
theorem dX12_pin_20 : decode cX12_pin 20 = .ok (.isub, 1) := by decide +kernel
theorem dX12_pin_21 : decode cX12_pin 21 = .ok (.iconst (-1), 1) := by decide +kernel
theorem dX12_pin_22 : decode cX12_pin 22 = .ok (.ixor, 1) := by decide +kernel
theorem dX12_pin_23 : decode cX12_pin 23 = .ok (.iand, 1) := by decide +kernel
theorem dX12_pin_24 : decode cX12_pin 24 = .ok (.ifCond .eq 5, 3) := by decide +kernel
theorem dX12_pin_27 : decode cX12_pin 27 = .ok (.iconst (-1), 1) := by decide +kernel
theorem dX12_pin_28 : decode cX12_pin 28 = .ok (.ireturn, 1) := by decide +kernel
theorem dX12_pin_29 : decode cX12_pin 29 = .ok (.aload_n 0, 1) := by decide +kernel
theorem dX12_pin_30 : decode cX12_pin 30 = .ok (.invokevirtual 600, 3) := by decide +kernel
theorem dX12_pin_33 : decode cX12_pin 33 = .ok (.aload_n 0, 1) := by decide +kernel
theorem dX12_pin_34 : decode cX12_pin 34 = .ok (.iload_n 1, 1) := by decide +kernel
theorem dX12_pin_35 : decode cX12_pin 35 = .ok (.iload_n 2, 1) := by decide +kernel
theorem dX12_pin_36 : decode cX12_pin 36 = .ok (.invokevirtual 550, 3) := by decide +kernel
theorem dX12_pin_39 : decode cX12_pin 39 = .ok (.aload_n 0, 1) := by decide +kernel
theorem dX12_pin_40 : decode cX12_pin 40 = .ok (.iload_n 1, 1) := by decide +kernel
theorem dX12_pin_41 : decode cX12_pin 41 = .ok (.invokevirtual 480, 3) := by decide +kernel
theorem dX12_pin_44 : decode cX12_pin 44 = .ok (.ireturn, 1) := by decide +kernel
theorem dX12_pinByPlan_0 : decode cX12_pinByPlan 0 = .ok (.iconst 0, 1) := by decide +kernel
theorem dX12_pinByPlan_1 : decode cX12_pinByPlan 1 = .ok (.istore_n 1, 1) := by decide +kernel
theorem dX12_pinByPlan_2 : decode cX12_pinByPlan 2 = .ok (.iload_n 1, 1) := by decide +kernel
theorem dX12_pinByPlan_3 : decode cX12_pinByPlan 3 = .ok (.aload_n 0, 1) := by decide +kernel
theorem dX12_pinByPlan_4 : decode cX12_pinByPlan 4 = .ok (.invokevirtual 411, 3) := by decide +kernel
theorem dX12_pinByPlan_7 : decode cX12_pinByPlan 7 = .ok (.if_icmp .ge 27, 3) := by decide +kernel
theorem dX12_pinByPlan_10 : decode cX12_pinByPlan 10 = .ok (.aload_n 0, 1) := by decide +kernel
theorem dX12_pinByPlan_11 : decode cX12_pinByPlan 11 = .ok (.iload_n 1, 1) := by decide +kernel
theorem dX12_pinByPlan_12 : decode cX12_pinByPlan 12 = .ok (.invokevirtual 486, 3) := by decide +kernel
theorem dX12_pinByPlan_15 : decode cX12_pinByPlan 15 = .ok (.ifCond .eq 13, 3) := by decide +kernel
theorem dX12_pinByPlan_18 : decode cX12_pinByPlan 18 = .ok (.aload_n 0, 1) := by decide +kernel
theorem dX12_pinByPlan_19 : decode cX12_pinByPlan 19 = .ok (.iload_n 1, 1) := by decide +kernel
theorem dX12_pinByPlan_20 : decode cX12_pinByPlan 20 = .ok (.aload_n 0, 1) := by decide +kernel
theorem dX12_pinByPlan_21 : decode cX12_pinByPlan 21 = .ok (.iload_n 1, 1) := by decide +kernel
theorem dX12_pinByPlan_22 : decode cX12_pinByPlan 22 = .ok (.invokevirtual 486, 3) := by decide +kernel
theorem dX12_pinByPlan_25 : decode cX12_pinByPlan 25 = .ok (.invokevirtual 550, 3) := by decide +kernel
theorem dX12_pinByPlan_28 : decode cX12_pinByPlan 28 = .ok (.iinc 1 1, 3) := by decide +kernel
theorem dX12_pinByPlan_31 : decode cX12_pinByPlan 31 = .ok (.goto (-29), 3) := by decide +kernel
theorem dX12_pinByPlan_34 : decode cX12_pinByPlan 34 = .ok (.return_, 1) := by decide +kernel
theorem dX12_pinFor_0 : decode cX12_pinFor 0 = .ok (.iconst 0, 1) := by decide +kernel
theorem dX12_pinFor_1 : decode cX12_pinFor 1 = .ok (.istore_n 3, 1) := by decide +kernel
theorem dX12_pinFor_2 : decode cX12_pinFor 2 = .ok (.iload_n 3, 1) := by decide +kernel
theorem dX12_pinFor_3 : decode cX12_pinFor 3 = .ok (.aload_n 0, 1) := by decide +kernel
theorem dX12_pinFor_4 : decode cX12_pinFor 4 = .ok (.invokevirtual 414, 3) := by decide +kernel
theorem dX12_pinFor_7 : decode cX12_pinFor 7 = .ok (.if_icmp .ge 68, 3) := by decide +kernel
theorem dX12_pinFor_10 : decode cX12_pinFor 10 = .ok (.iconst 0, 1) := by decide +kernel
theorem dX12_pinFor_11 : decode cX12_pinFor 11 = .ok (.istore 4, 2) := by decide +kernel
theorem dX12_pinFor_13 : decode cX12_pinFor 13 = .ok (.iconst 0, 1) := by decide +kernel
theorem dX12_pinFor_14 : decode cX12_pinFor 14 = .ok (.istore 5, 2) := by decide +kernel
theorem dX12_pinFor_16 : decode cX12_pinFor 16 = .ok (.iload 5, 2) := by decide +kernel
theorem dX12_pinFor_18 : decode cX12_pinFor 18 = .ok (.aload_n 0, 1) := by decide +kernel
theorem dX12_pinFor_19 : decode cX12_pinFor 19 = .ok (.invokevirtual 404, 3) := by decide +kernel
theorem dX12_pinFor_22 : decode cX12_pinFor 22 = .ok (.if_icmp .ge 32, 3) := by decide +kernel
theorem dX12_pinFor_25 : decode cX12_pinFor 25 = .ok (.iload_n 2, 1) := by decide +kernel
theorem dX12_pinFor_26 : decode cX12_pinFor 26 = .ok (.iload 5, 2) := by decide +kernel
theorem dX12_pinFor_28 : decode cX12_pinFor 28 = .ok (.invokestatic 261, 3) := by decide +kernel
theorem dX12_pinFor_31 : decode cX12_pinFor 31 = .ok (.ifCond .eq 17, 3) := by decide +kernel
theorem dX12_pinFor_34 : decode cX12_pinFor 34 = .ok (.iload 4, 2) := by decide +kernel
theorem dX12_pinFor_36 : decode cX12_pinFor 36 = .ok (.iconst 1, 1) := by decide +kernel
theorem dX12_pinFor_37 : decode cX12_pinFor 37 = .ok (.aload_n 0, 1) := by decide +kernel
theorem dX12_pinFor_38 : decode cX12_pinFor 38 = .ok (.iload 5, 2) := by decide +kernel
theorem dX12_pinFor_40 : decode cX12_pinFor 40 = .ok (.iload_n 3, 1) := by decide +kernel
theorem dX12_pinFor_41 : decode cX12_pinFor 41 = .ok (.invokevirtual 444, 3) := by decide +kernel
theorem dX12_pinFor_44 : decode cX12_pinFor 44 = .ok (.ishl, 1) := by decide +kernel
theorem dX12_pinFor_45 : decode cX12_pinFor 45 = .ok (.ior, 1) := by decide +kernel
theorem dX12_pinFor_46 : decode cX12_pinFor 46 = .ok (.istore 4, 2) := by decide +kernel
theorem dX12_pinFor_48 : decode cX12_pinFor 48 = .ok (.iinc 5 1, 3) := by decide +kernel
theorem dX12_pinFor_51 : decode cX12_pinFor 51 = .ok (.goto (-35), 3) := by decide +kernel
theorem dX12_pinFor_54 : decode cX12_pinFor 54 = .ok (.aload_n 0, 1) := by decide +kernel
theorem dX12_pinFor_55 : decode cX12_pinFor 55 = .ok (.getfield 118, 3) := by decide +kernel
theorem dX12_pinFor_58 : decode cX12_pinFor 58 = .ok (.bipush 56, 2) := by decide +kernel
theorem dX12_pinFor_60 : decode cX12_pinFor 60 = .ok (.iconst 5, 1) := by decide +kernel
theorem dX12_pinFor_61 : decode cX12_pinFor 61 = .ok (.iload_n 1, 1) := by decide +kernel
theorem dX12_pinFor_62 : decode cX12_pinFor 62 = .ok (.imul, 1) := by decide +kernel
theorem dX12_pinFor_63 : decode cX12_pinFor 63 = .ok (.iadd, 1) := by decide +kernel
theorem dX12_pinFor_64 : decode cX12_pinFor 64 = .ok (.iload_n 3, 1) := by decide +kernel
theorem dX12_pinFor_65 : decode cX12_pinFor 65 = .ok (.iadd, 1) := by decide +kernel
theorem dX12_pinFor_66 : decode cX12_pinFor 66 = .ok (.iload 4, 2) := by decide +kernel
theorem dX12_pinFor_68 : decode cX12_pinFor 68 = .ok (.iastore, 1) := by decide +kernel
theorem dX12_pinFor_69 : decode cX12_pinFor 69 = .ok (.iinc 3 1, 3) := by decide +kernel
theorem dX12_pinFor_72 : decode cX12_pinFor 72 = .ok (.goto (-70), 3) := by decide +kernel
theorem dX12_pinFor_75 : decode cX12_pinFor 75 = .ok (.return_, 1) := by decide +kernel
theorem dX12_plan_0 : decode cX12_plan 0 = .ok (.aload_n 0, 1) := by decide +kernel
theorem dX12_plan_1 : decode cX12_plan 1 = .ok (.iconst 0, 1) := by decide +kernel
theorem dX12_plan_2 : decode cX12_plan 2 = .ok (.putfield 164, 3) := by decide +kernel
theorem dX12_plan_5 : decode cX12_plan 5 = .ok (.aload_n 0, 1) := by decide +kernel
theorem dX12_plan_6 : decode cX12_plan 6 = .ok (.iconst (-1), 1) := by decide +kernel
theorem dX12_plan_7 : decode cX12_plan 7 = .ok (.putfield 16, 3) := by decide +kernel
theorem dX12_plan_10 : decode cX12_plan 10 = .ok (.aload_n 0, 1) := by decide +kernel
theorem dX12_plan_11 : decode cX12_plan 11 = .ok (.aload_n 0, 1) := by decide +kernel
theorem dX12_plan_12 : decode cX12_plan 12 = .ok (.getfield 271, 3) := by decide +kernel
theorem dX12_plan_15 : decode cX12_plan 15 = .ok (.putfield 161, 3) := by decide +kernel
theorem dX12_plan_18 : decode cX12_plan 18 = .ok (.iconst 0, 1) := by decide +kernel
theorem dX12_plan_19 : decode cX12_plan 19 = .ok (.istore_n 1, 1) := by decide +kernel
theorem dX12_plan_20 : decode cX12_plan 20 = .ok (.iload_n 1, 1) := by decide +kernel
theorem dX12_plan_21 : decode cX12_plan 21 = .ok (.aload_n 0, 1) := by decide +kernel
theorem dX12_plan_22 : decode cX12_plan 22 = .ok (.getfield 161, 3) := by decide +kernel
theorem dX12_plan_25 : decode cX12_plan 25 = .ok (.if_icmp .ge 21, 3) := by decide +kernel
theorem dX12_plan_28 : decode cX12_plan 28 = .ok (.aload_n 0, 1) := by decide +kernel
theorem dX12_plan_29 : decode cX12_plan 29 = .ok (.getfield 13, 3) := by decide +kernel
theorem dX12_plan_32 : decode cX12_plan 32 = .ok (.iload_n 1, 1) := by decide +kernel
theorem dX12_plan_33 : decode cX12_plan 33 = .ok (.aload_n 0, 1) := by decide +kernel
theorem dX12_plan_34 : decode cX12_plan 34 = .ok (.getfield 7, 3) := by decide +kernel
theorem dX12_plan_37 : decode cX12_plan 37 = .ok (.iload_n 1, 1) := by decide +kernel
theorem dX12_plan_38 : decode cX12_plan 38 = .ok (.baload, 1) := by decide +kernel
theorem dX12_plan_39 : decode cX12_plan 39 = .ok (.bastore, 1) := by decide +kernel
theorem dX12_plan_40 : decode cX12_plan 40 = .ok (.iinc 1 1, 3) := by decide +kernel
theorem dX12_plan_43 : decode cX12_plan 43 = .ok (.goto (-23), 3) := by decide +kernel
theorem dX12_plan_46 : decode cX12_plan 46 = .ok (.aload_n 0, 1) := by decide +kernel
theorem dX12_plan_47 : decode cX12_plan 47 = .ok (.iconst 0, 1) := by decide +kernel
theorem dX12_plan_48 : decode cX12_plan 48 = .ok (.putfield 271, 3) := by decide +kernel
theorem dX12_plan_51 : decode cX12_plan 51 = .ok (.aload_n 0, 1) := by decide +kernel
theorem dX12_plan_52 : decode cX12_plan 52 = .ok (.iconst 0, 1) := by decide +kernel
theorem dX12_plan_53 : decode cX12_plan 53 = .ok (.putfield 213, 3) := by decide +kernel
theorem dX12_plan_56 : decode cX12_plan 56 = .ok (.aload_n 0, 1) := by decide +kernel
theorem dX12_plan_57 : decode cX12_plan 57 = .ok (.iconst 1, 1) := by decide +kernel
theorem dX12_plan_58 : decode cX12_plan 58 = .ok (.aload_n 0, 1) := by decide +kernel
theorem dX12_plan_59 : decode cX12_plan 59 = .ok (.getfield 274, 3) := by decide +kernel
theorem dX12_plan_62 : decode cX12_plan 62 = .ok (.isub, 1) := by decide +kernel
theorem dX12_plan_63 : decode cX12_plan 63 = .ok (.putfield 265, 3) := by decide +kernel
theorem dX12_plan_66 : decode cX12_plan 66 = .ok (.aload_n 0, 1) := by decide +kernel
theorem dX12_plan_67 : decode cX12_plan 67 = .ok (.invokevirtual 155, 3) := by decide +kernel
theorem dX12_plan_70 : decode cX12_plan 70 = .ok (.aload_n 0, 1) := by decide +kernel
theorem dX12_plan_71 : decode cX12_plan 71 = .ok (.invokevirtual 255, 3) := by decide +kernel
theorem dX12_plan_74 : decode cX12_plan 74 = .ok (.aload_n 0, 1) := by decide +kernel
theorem dX12_plan_75 : decode cX12_plan 75 = .ok (.invokevirtual 251, 3) := by decide +kernel
theorem dX12_plan_78 : decode cX12_plan 78 = .ok (.ifCond .eq 17, 3) := by decide +kernel
theorem dX12_plan_81 : decode cX12_plan 81 = .ok (.aload_n 0, 1) := by decide +kernel
theorem dX12_plan_82 : decode cX12_plan 82 = .ok (.getfield 223, 3) := by decide +kernel
theorem dX12_plan_85 : decode cX12_plan 85 = .ok (.ifCond .eq 10, 3) := by decide +kernel
theorem dX12_plan_88 : decode cX12_plan 88 = .ok (.aload_n 0, 1) := by decide +kernel
theorem dX12_plan_89 : decode cX12_plan 89 = .ok (.invokevirtual 277, 3) := by decide +kernel
theorem dX12_plan_92 : decode cX12_plan 92 = .ok (.goto (-18), 3) := by decide +kernel
theorem dX12_plan_95 : decode cX12_plan 95 = .ok (.aload_n 0, 1) := by decide +kernel
theorem dX12_plan_96 : decode cX12_plan 96 = .ok (.invokevirtual 251, 3) := by decide +kernel
theorem dX12_plan_99 : decode cX12_plan 99 = .ok (.ifCond .ne 5, 3) := by decide +kernel
theorem dX12_plan_102 : decode cX12_plan 102 = .ok (.iconst (-1), 1) := by decide +kernel
theorem dX12_plan_103 : decode cX12_plan 103 = .ok (.ireturn, 1) := by decide +kernel
theorem dX12_plan_104 : decode cX12_plan 104 = .ok (.aload_n 0, 1) := by decide +kernel
theorem dX12_plan_105 : decode cX12_plan 105 = .ok (.aload_n 0, 1) := by decide +kernel
theorem dX12_plan_106 : decode cX12_plan 106 = .ok (.getfield 265, 3) := by decide +kernel
theorem dX12_plan_109 : decode cX12_plan 109 = .ok (.putfield 274, 3) := by decide +kernel
theorem dX12_plan_112 : decode cX12_plan 112 = .ok (.aload_n 0, 1) := by decide +kernel
theorem dX12_plan_113 : decode cX12_plan 113 = .ok (.invokevirtual 158, 3) := by decide +kernel
theorem dX12_plan_116 : decode cX12_plan 116 = .ok (.aload_n 0, 1) := by decide +kernel
theorem dX12_plan_117 : decode cX12_plan 117 = .ok (.getfield 30, 3) := by decide +kernel
theorem dX12_plan_120 : decode cX12_plan 120 = .ok (.aload_n 0, 1) := by decide +kernel
theorem dX12_plan_121 : decode cX12_plan 121 = .ok (.getfield 274, 3) := by decide +kernel
theorem dX12_plan_124 : decode cX12_plan 124 = .ok (.iaload, 1) := by decide +kernel
theorem dX12_plan_125 : decode cX12_plan 125 = .ok (.ireturn, 1) := by decide +kernel
theorem dX12_power_0 : decode cX12_power 0 = .ok (.iconst 1, 1) := by decide +kernel
theorem dX12_power_1 : decode cX12_power 1 = .ok (.istore_n 2, 1) := by decide +kernel
theorem dX12_power_2 : decode cX12_power 2 = .ok (.iconst 0, 1) := by decide +kernel
theorem dX12_power_3 : decode cX12_power 3 = .ok (.istore_n 3, 1) := by decide +kernel
theorem dX12_power_4 : decode cX12_power 4 = .ok (.iload_n 3, 1) := by decide +kernel
theorem dX12_power_5 : decode cX12_power 5 = .ok (.iload_n 1, 1) := by decide +kernel
theorem dX12_power_6 : decode cX12_power 6 = .ok (.if_icmp .ge 13, 3) := by decide +kernel
theorem dX12_power_9 : decode cX12_power 9 = .ok (.iload_n 2, 1) := by decide +kernel
theorem dX12_power_10 : decode cX12_power 10 = .ok (.iload_n 0, 1) := by decide +kernel
theorem dX12_power_11 : decode cX12_power 11 = .ok (.imul, 1) := by decide +kernel
theorem dX12_power_12 : decode cX12_power 12 = .ok (.istore_n 2, 1) := by decide +kernel
theorem dX12_power_13 : decode cX12_power 13 = .ok (.iinc 3 1, 3) := by decide +kernel
theorem dX12_power_16 : decode cX12_power 16 = .ok (.goto (-12), 3) := by decide +kernel
theorem dX12_power_19 : decode cX12_power 19 = .ok (.iload_n 2, 1) := by decide +kernel
theorem dX12_power_20 : decode cX12_power 20 = .ok (.ireturn, 1) := by decide +kernel
theorem dX12_pushE_0 : decode cX12_pushE 0 = .ok (.aload_n 0, 1) := by decide +kernel
theorem dX12_pushE_1 : decode cX12_pushE 1 = .ok (.getfield 109, 3) := by decide +kernel
theorem dX12_pushE_4 : decode cX12_pushE 4 = .ok (.aload_n 0, 1) := by decide +kernel
theorem dX12_pushE_5 : decode cX12_pushE 5 = .ok (.getfield 359, 3) := by decide +kernel
theorem dX12_pushE_8 : decode cX12_pushE 8 = .ok (.iload_n 1, 1) := by decide +kernel
theorem dX12_pushE_9 : decode cX12_pushE 9 = .ok (.iastore, 1) := by decide +kernel
theorem dX12_pushE_10 : decode cX12_pushE 10 = .ok (.aload_n 0, 1) := by decide +kernel
theorem dX12_pushE_11 : decode cX12_pushE 11 = .ok (.getfield 112, 3) := by decide +kernel
theorem dX12_pushE_14 : decode cX12_pushE 14 = .ok (.aload_n 0, 1) := by decide +kernel
theorem dX12_pushE_15 : decode cX12_pushE 15 = .ok (.getfield 359, 3) := by decide +kernel
theorem dX12_pushE_18 : decode cX12_pushE 18 = .ok (.iload_n 2, 1) := by decide +kernel
theorem dX12_pushE_19 : decode cX12_pushE 19 = .ok (.iastore, 1) := by decide +kernel
theorem dX12_pushE_20 : decode cX12_pushE 20 = .ok (.aload_n 0, 1) := by decide +kernel
theorem dX12_pushE_21 : decode cX12_pushE 21 = .ok (.dup, 1) := by decide +kernel
theorem dX12_pushE_22 : decode cX12_pushE 22 = .ok (.getfield 359, 3) := by decide +kernel
theorem dX12_pushE_25 : decode cX12_pushE 25 = .ok (.iconst 1, 1) := by decide +kernel
theorem dX12_pushE_26 : decode cX12_pushE 26 = .ok (.iadd, 1) := by decide +kernel
theorem dX12_pushE_27 : decode cX12_pushE 27 = .ok (.putfield 359, 3) := by decide +kernel
theorem dX12_pushE_30 : decode cX12_pushE 30 = .ok (.return_, 1) := by decide +kernel
theorem dX12_rank_0 : decode cX12_rank 0 = .ok (.aload_n 0, 1) := by decide +kernel
theorem dX12_rank_1 : decode cX12_rank 1 = .ok (.iload_n 1, 1) := by decide +kernel
theorem dX12_rank_2 : decode cX12_rank 2 = .ok (.invokevirtual 456, 3) := by decide +kernel
theorem dX12_rank_5 : decode cX12_rank 5 = .ok (.ifCond .ne 5, 3) := by decide +kernel
theorem dX12_rank_8 : decode cX12_rank 8 = .ok (.iconst (-1), 1) := by decide +kernel
theorem dX12_rank_9 : decode cX12_rank 9 = .ok (.ireturn, 1) := by decide +kernel
theorem dX12_rank_10 : decode cX12_rank 10 = .ok (.iconst 0, 1) := by decide +kernel
theorem dX12_rank_11 : decode cX12_rank 11 = .ok (.istore_n 2, 1) := by decide +kernel
theorem dX12_rank_12 : decode cX12_rank 12 = .ok (.iconst 0, 1) := by decide +kernel
theorem dX12_rank_13 : decode cX12_rank 13 = .ok (.istore_n 3, 1) := by decide +kernel
theorem dX12_rank_14 : decode cX12_rank 14 = .ok (.iload_n 3, 1) := by decide +kernel
theorem dX12_rank_15 : decode cX12_rank 15 = .ok (.iload_n 1, 1) := by decide +kernel
theorem dX12_rank_16 : decode cX12_rank 16 = .ok (.if_icmp .ge 20, 3) := by decide +kernel
theorem dX12_rank_19 : decode cX12_rank 19 = .ok (.aload_n 0, 1) := by decide +kernel
theorem dX12_rank_20 : decode cX12_rank 20 = .ok (.iload_n 3, 1) := by decide +kernel
theorem dX12_rank_21 : decode cX12_rank 21 = .ok (.invokevirtual 456, 3) := by decide +kernel
theorem dX12_rank_24 : decode cX12_rank 24 = .ok (.ifCond .eq 6, 3) := by decide +kernel
theorem dX12_rank_27 : decode cX12_rank 27 = .ok (.iinc 2 1, 3) := by decide +kernel
theorem dX12_rank_30 : decode cX12_rank 30 = .ok (.iinc 3 1, 3) := by decide +kernel
theorem dX12_rank_33 : decode cX12_rank 33 = .ok (.goto (-19), 3) := by decide +kernel
theorem dX12_rank_36 : decode cX12_rank 36 = .ok (.iload_n 2, 1) := by decide +kernel
theorem dX12_rank_37 : decode cX12_rank 37 = .ok (.ireturn, 1) := by decide +kernel
theorem dX12_rankHere_0 : decode cX12_rankHere 0 = .ok (.aload_n 0, 1) := by decide +kernel
theorem dX12_rankHere_1 : decode cX12_rankHere 1 = .ok (.ldc2_w 209, 3) := by decide +kernel
theorem dX12_rankHere_4 : decode cX12_rankHere 4 = .ok (.invokevirtual 280, 3) := by decide +kernel
theorem dX12_rankHere_7 : decode cX12_rankHere 7 = .ok (.ifCond .eq 5, 3) := by decide +kernel
theorem dX12_rankHere_10 : decode cX12_rankHere 10 = .ok (.iconst 2, 1) := by decide +kernel
theorem dX12_rankHere_11 : decode cX12_rankHere 11 = .ok (.ireturn, 1) := by decide +kernel
theorem dX12_rankHere_12 : decode cX12_rankHere 12 = .ok (.aload_n 0, 1) := by decide +kernel
theorem dX12_rankHere_13 : decode cX12_rankHere 13 = .ok (.ldc2_w 207, 3) := by decide +kernel
theorem dX12_rankHere_16 : decode cX12_rankHere 16 = .ok (.invokevirtual 280, 3) := by decide +kernel
theorem dX12_rankHere_19 : decode cX12_rankHere 19 = .ok (.ifCond .eq 5, 3) := by decide +kernel
theorem dX12_rankHere_22 : decode cX12_rankHere 22 = .ok (.iconst 1, 1) := by decide +kernel
theorem dX12_rankHere_23 : decode cX12_rankHere 23 = .ok (.ireturn, 1) := by decide +kernel
theorem dX12_rankHere_24 : decode cX12_rankHere 24 = .ok (.aload_n 0, 1) := by decide +kernel
theorem dX12_rankHere_25 : decode cX12_rankHere 25 = .ok (.bipush 60, 2) := by decide +kernel
theorem dX12_rankHere_27 : decode cX12_rankHere 27 = .ok (.invokevirtual 318, 3) := by decide +kernel
theorem dX12_rankHere_30 : decode cX12_rankHere 30 = .ok (.ifCond .ne 21, 3) := by decide +kernel
theorem dX12_rankHere_33 : decode cX12_rankHere 33 = .ok (.aload_n 0, 1) := by decide +kernel
theorem dX12_rankHere_34 : decode cX12_rankHere 34 = .ok (.bipush 62, 2) := by decide +kernel
theorem dX12_rankHere_36 : decode cX12_rankHere 36 = .ok (.invokevirtual 318, 3) := by decide +kernel
theorem dX12_rankHere_39 : decode cX12_rankHere 39 = .ok (.ifCond .ne 12, 3) := by decide +kernel
theorem dX12_rankHere_42 : decode cX12_rankHere 42 = .ok (.aload_n 0, 1) := by decide +kernel
theorem dX12_rankHere_43 : decode cX12_rankHere 43 = .ok (.bipush 61, 2) := by decide +kernel
theorem dX12_rankHere_45 : decode cX12_rankHere 45 = .ok (.invokevirtual 318, 3) := by decide +kernel
theorem dX12_rankHere_48 : decode cX12_rankHere 48 = .ok (.ifCond .eq 5, 3) := by decide +kernel
theorem dX12_rankHere_51 : decode cX12_rankHere 51 = .ok (.iconst 4, 1) := by decide +kernel
theorem dX12_rankHere_52 : decode cX12_rankHere 52 = .ok (.ireturn, 1) := by decide +kernel
theorem dX12_rankHere_53 : decode cX12_rankHere 53 = .ok (.aload_n 0, 1) := by decide +kernel
theorem dX12_rankHere_54 : decode cX12_rankHere 54 = .ok (.bipush 43, 2) := by decide +kernel
theorem dX12_rankHere_56 : decode cX12_rankHere 56 = .ok (.invokevirtual 318, 3) := by decide +kernel
theorem dX12_rankHere_59 : decode cX12_rankHere 59 = .ok (.ifCond .ne 12, 3) := by decide +kernel
theorem dX12_rankHere_62 : decode cX12_rankHere 62 = .ok (.aload_n 0, 1) := by decide +kernel
theorem dX12_rankHere_63 : decode cX12_rankHere 63 = .ok (.bipush 45, 2) := by decide +kernel
theorem dX12_rankHere_65 : decode cX12_rankHere 65 = .ok (.invokevirtual 318, 3) := by decide +kernel
theorem dX12_rankHere_68 : decode cX12_rankHere 68 = .ok (.ifCond .eq 5, 3) := by decide +kernel
theorem dX12_rankHere_71 : decode cX12_rankHere 71 = .ok (.iconst 5, 1) := by decide +kernel
theorem dX12_rankHere_72 : decode cX12_rankHere 72 = .ok (.ireturn, 1) := by decide +kernel
theorem dX12_rankHere_73 : decode cX12_rankHere 73 = .ok (.aload_n 0, 1) := by decide +kernel
theorem dX12_rankHere_74 : decode cX12_rankHere 74 = .ok (.bipush 42, 2) := by decide +kernel
theorem dX12_rankHere_76 : decode cX12_rankHere 76 = .ok (.invokevirtual 318, 3) := by decide +kernel
theorem dX12_rankHere_79 : decode cX12_rankHere 79 = .ok (.ifCond .ne 21, 3) := by decide +kernel
theorem dX12_rankHere_82 : decode cX12_rankHere 82 = .ok (.aload_n 0, 1) := by decide +kernel
theorem dX12_rankHere_83 : decode cX12_rankHere 83 = .ok (.bipush 47, 2) := by decide +kernel
theorem dX12_rankHere_85 : decode cX12_rankHere 85 = .ok (.invokevirtual 318, 3) := by decide +kernel
theorem dX12_rankHere_88 : decode cX12_rankHere 88 = .ok (.ifCond .ne 12, 3) := by decide +kernel
theorem dX12_rankHere_91 : decode cX12_rankHere 91 = .ok (.aload_n 0, 1) := by decide +kernel
theorem dX12_rankHere_92 : decode cX12_rankHere 92 = .ok (.bipush 37, 2) := by decide +kernel
theorem dX12_rankHere_94 : decode cX12_rankHere 94 = .ok (.invokevirtual 318, 3) := by decide +kernel
theorem dX12_rankHere_97 : decode cX12_rankHere 97 = .ok (.ifCond .eq 8, 3) := by decide +kernel
theorem dX12_rankHere_100 : decode cX12_rankHere 100 = .ok (.bipush 6, 2) := by decide +kernel
theorem dX12_rankHere_102 : decode cX12_rankHere 102 = .ok (.goto 4, 3) := by decide +kernel
theorem dX12_rankHere_105 : decode cX12_rankHere 105 = .ok (.iconst 0, 1) := by decide +kernel
theorem dX12_rankHere_106 : decode cX12_rankHere 106 = .ok (.ireturn, 1) := by decide +kernel
theorem dX12_reachBy_0 : decode cX12_reachBy 0 = .ok (.aload_n 0, 1) := by decide +kernel
theorem dX12_reachBy_1 : decode cX12_reachBy 1 = .ok (.iload_n 2, 1) := by decide +kernel
theorem dX12_reachBy_2 : decode cX12_reachBy 2 = .ok (.invokevirtual 571, 3) := by decide +kernel
theorem dX12_reachBy_5 : decode cX12_reachBy 5 = .ok (.istore_n 3, 1) := by decide +kernel
theorem dX12_reachBy_6 : decode cX12_reachBy 6 = .ok (.iconst 1, 1) := by decide +kernel
theorem dX12_reachBy_7 : decode cX12_reachBy 7 = .ok (.iload_n 1, 1) := by decide +kernel
theorem dX12_reachBy_8 : decode cX12_reachBy 8 = .ok (.ishl, 1) := by decide +kernel
theorem dX12_reachBy_9 : decode cX12_reachBy 9 = .ok (.istore 4, 2) := by decide +kernel
theorem dX12_reachBy_11 : decode cX12_reachBy 11 = .ok (.iconst 0, 1) := by decide +kernel
theorem dX12_reachBy_12 : decode cX12_reachBy 12 = .ok (.istore 5, 2) := by decide +kernel
theorem dX12_reachBy_14 : decode cX12_reachBy 14 = .ok (.iload 5, 2) := by decide +kernel
theorem dX12_reachBy_16 : decode cX12_reachBy 16 = .ok (.bipush 6, 2) := by decide +kernel
theorem dX12_reachBy_18 : decode cX12_reachBy 18 = .ok (.if_icmp .ge 96, 3) := by decide +kernel
theorem dX12_reachBy_21 : decode cX12_reachBy 21 = .ok (.bipush 8, 2) := by decide +kernel
theorem dX12_reachBy_23 : decode cX12_reachBy 23 = .ok (.aload_n 0, 1) := by decide +kernel
theorem dX12_reachBy_24 : decode cX12_reachBy 24 = .ok (.getfield 274, 3) := by decide +kernel
theorem dX12_reachBy_27 : decode cX12_reachBy 27 = .ok (.imul, 1) := by decide +kernel
theorem dX12_reachBy_28 : decode cX12_reachBy 28 = .ok (.istore 6, 2) := by decide +kernel
theorem dX12_reachBy_30 : decode cX12_reachBy 30 = .ok (.iload 6, 2) := by decide +kernel
theorem dX12_reachBy_32 : decode cX12_reachBy 32 = .ok (.bipush 8, 2) := by decide +kernel
theorem dX12_reachBy_34 : decode cX12_reachBy 34 = .ok (.aload_n 0, 1) := by decide +kernel
theorem dX12_reachBy_35 : decode cX12_reachBy 35 = .ok (.getfield 274, 3) := by decide +kernel
theorem dX12_reachBy_38 : decode cX12_reachBy 38 = .ok (.imul, 1) := by decide +kernel
theorem dX12_reachBy_39 : decode cX12_reachBy 39 = .ok (.aload_n 0, 1) := by decide +kernel
theorem dX12_reachBy_40 : decode cX12_reachBy 40 = .ok (.getfield 39, 3) := by decide +kernel
theorem dX12_reachBy_43 : decode cX12_reachBy 43 = .ok (.aload_n 0, 1) := by decide +kernel
theorem dX12_reachBy_44 : decode cX12_reachBy 44 = .ok (.getfield 274, 3) := by decide +kernel
theorem dX12_reachBy_47 : decode cX12_reachBy 47 = .ok (.iaload, 1) := by decide +kernel
theorem dX12_reachBy_48 : decode cX12_reachBy 48 = .ok (.iadd, 1) := by decide +kernel
theorem dX12_reachBy_49 : decode cX12_reachBy 49 = .ok (.if_icmp .ge 59, 3) := by decide +kernel
theorem dX12_reachBy_52 : decode cX12_reachBy 52 = .ok (.iconst 1, 1) := by decide +kernel
theorem dX12_reachBy_53 : decode cX12_reachBy 53 = .ok (.aload_n 0, 1) := by decide +kernel
theorem dX12_reachBy_54 : decode cX12_reachBy 54 = .ok (.getfield 60, 3) := by decide +kernel
theorem dX12_reachBy_57 : decode cX12_reachBy 57 = .ok (.iload 6, 2) := by decide +kernel
theorem dX12_reachBy_59 : decode cX12_reachBy 59 = .ok (.iaload, 1) := by decide +kernel
theorem dX12_reachBy_60 : decode cX12_reachBy 60 = .ok (.ishl, 1) := by decide +kernel
theorem dX12_reachBy_61 : decode cX12_reachBy 61 = .ok (.iconst 1, 1) := by decide +kernel
theorem dX12_reachBy_62 : decode cX12_reachBy 62 = .ok (.aload_n 0, 1) := by decide +kernel
theorem dX12_reachBy_63 : decode cX12_reachBy 63 = .ok (.getfield 63, 3) := by decide +kernel
theorem dX12_reachBy_66 : decode cX12_reachBy 66 = .ok (.iload 6, 2) := by decide +kernel
theorem dX12_reachBy_68 : decode cX12_reachBy 68 = .ok (.iaload, 1) := by decide +kernel
theorem dX12_reachBy_69 : decode cX12_reachBy 69 = .ok (.ishl, 1) := by decide +kernel
theorem dX12_reachBy_70 : decode cX12_reachBy 70 = .ok (.ior, 1) := by decide +kernel
theorem dX12_reachBy_71 : decode cX12_reachBy 71 = .ok (.istore 7, 2) := by decide +kernel
theorem dX12_reachBy_73 : decode cX12_reachBy 73 = .ok (.iload_n 3, 1) := by decide +kernel
theorem dX12_reachBy_74 : decode cX12_reachBy 74 = .ok (.aload_n 0, 1) := by decide +kernel
theorem dX12_reachBy_75 : decode cX12_reachBy 75 = .ok (.getfield 66, 3) := by decide +kernel
theorem dX12_reachBy_78 : decode cX12_reachBy 78 = .ok (.iload 6, 2) := by decide +kernel
theorem dX12_reachBy_80 : decode cX12_reachBy 80 = .ok (.iaload, 1) := by decide +kernel
theorem dX12_reachBy_81 : decode cX12_reachBy 81 = .ok (.invokestatic 261, 3) := by decide +kernel
theorem dX12_reachBy_84 : decode cX12_reachBy 84 = .ok (.ifCond .eq 18, 3) := by decide +kernel
theorem dX12_reachBy_87 : decode cX12_reachBy 87 = .ok (.iload 4, 2) := by decide +kernel
theorem dX12_reachBy_89 : decode cX12_reachBy 89 = .ok (.iload 7, 2) := by decide +kernel
theorem dX12_reachBy_91 : decode cX12_reachBy 91 = .ok (.iand, 1) := by decide +kernel
theorem dX12_reachBy_92 : decode cX12_reachBy 92 = .ok (.ifCond .eq 10, 3) := by decide +kernel
theorem dX12_reachBy_95 : decode cX12_reachBy 95 = .ok (.iload 4, 2) := by decide +kernel
theorem dX12_reachBy_97 : decode cX12_reachBy 97 = .ok (.iload 7, 2) := by decide +kernel
theorem dX12_reachBy_99 : decode cX12_reachBy 99 = .ok (.ior, 1) := by decide +kernel
theorem dX12_reachBy_100 : decode cX12_reachBy 100 = .ok (.istore 4, 2) := by decide +kernel
theorem dX12_reachBy_102 : decode cX12_reachBy 102 = .ok (.iinc 6 1, 3) := by decide +kernel
theorem dX12_reachBy_105 : decode cX12_reachBy 105 = .ok (.goto (-75), 3) := by decide +kernel
theorem dX12_reachBy_108 : decode cX12_reachBy 108 = .ok (.iinc 5 1, 3) := by decide +kernel
theorem dX12_reachBy_111 : decode cX12_reachBy 111 = .ok (.goto (-97), 3) := by decide +kernel
theorem dX12_reachBy_114 : decode cX12_reachBy 114 = .ok (.iload 4, 2) := by decide +kernel
theorem dX12_reachBy_116 : decode cX12_reachBy 116 = .ok (.ireturn, 1) := by decide +kernel
theorem dX12_reachOf_0 : decode cX12_reachOf 0 = .ok (.aload_n 0, 1) := by decide +kernel
theorem dX12_reachOf_1 : decode cX12_reachOf 1 = .ok (.aload_n 0, 1) := by decide +kernel
theorem dX12_reachOf_2 : decode cX12_reachOf 2 = .ok (.getfield 118, 3) := by decide +kernel
theorem dX12_reachOf_5 : decode cX12_reachOf 5 = .ok (.bipush 86, 2) := by decide +kernel
theorem dX12_reachOf_7 : decode cX12_reachOf 7 = .ok (.iload_n 1, 1) := by decide +kernel
theorem dX12_reachOf_8 : decode cX12_reachOf 8 = .ok (.iadd, 1) := by decide +kernel
theorem dX12_reachOf_9 : decode cX12_reachOf 9 = .ok (.iaload, 1) := by decide +kernel
theorem dX12_reachOf_10 : decode cX12_reachOf 10 = .ok (.aload_n 0, 1) := by decide +kernel
theorem dX12_reachOf_11 : decode cX12_reachOf 11 = .ok (.iload_n 1, 1) := by decide +kernel
theorem dX12_reachOf_12 : decode cX12_reachOf 12 = .ok (.invokevirtual 498, 3) := by decide +kernel
theorem dX12_reachOf_15 : decode cX12_reachOf 15 = .ok (.invokevirtual 574, 3) := by decide +kernel
theorem dX12_reachOf_18 : decode cX12_reachOf 18 = .ok (.ireturn, 1) := by decide +kernel
theorem dX12_readDoor_0 : decode cX12_readDoor 0 = .ok (.bipush 8, 2) := by decide +kernel
theorem dX12_readDoor_2 : decode cX12_readDoor 2 = .ok (.aload_n 0, 1) := by decide +kernel
theorem dX12_readDoor_3 : decode cX12_readDoor 3 = .ok (.getfield 265, 3) := by decide +kernel
theorem dX12_readDoor_6 : decode cX12_readDoor 6 = .ok (.imul, 1) := by decide +kernel
theorem dX12_readDoor_7 : decode cX12_readDoor 7 = .ok (.aload_n 0, 1) := by decide +kernel
theorem dX12_readDoor_8 : decode cX12_readDoor 8 = .ok (.getfield 39, 3) := by decide +kernel
theorem dX12_readDoor_11 : decode cX12_readDoor 11 = .ok (.aload_n 0, 1) := by decide +kernel
theorem dX12_readDoor_12 : decode cX12_readDoor 12 = .ok (.getfield 265, 3) := by decide +kernel
theorem dX12_readDoor_15 : decode cX12_readDoor 15 = .ok (.iaload, 1) := by decide +kernel
theorem dX12_readDoor_16 : decode cX12_readDoor 16 = .ok (.iadd, 1) := by decide +kernel
theorem dX12_readDoor_17 : decode cX12_readDoor 17 = .ok (.istore_n 1, 1) := by decide +kernel
theorem dX12_readDoor_18 : decode cX12_readDoor 18 = .ok (.aload_n 0, 1) := by decide +kernel
theorem dX12_readDoor_19 : decode cX12_readDoor 19 = .ok (.getfield 97, 3) := by decide +kernel
theorem dX12_readDoor_22 : decode cX12_readDoor 22 = .ok (.iload_n 1, 1) := by decide +kernel
theorem dX12_readDoor_23 : decode cX12_readDoor 23 = .ok (.aload_n 0, 1) := by decide +kernel
theorem dX12_readDoor_24 : decode cX12_readDoor 24 = .ok (.aload_n 0, 1) := by decide +kernel
theorem dX12_readDoor_25 : decode cX12_readDoor 25 = .ok (.aload_n 0, 1) := by decide +kernel
theorem dX12_readDoor_26 : decode cX12_readDoor 26 = .ok (.getfield 97, 3) := by decide +kernel
theorem dX12_readDoor_29 : decode cX12_readDoor 29 = .ok (.bipush 8, 2) := by decide +kernel
theorem dX12_readDoor_31 : decode cX12_readDoor 31 = .ok (.aload_n 0, 1) := by decide +kernel
theorem dX12_readDoor_32 : decode cX12_readDoor 32 = .ok (.getfield 265, 3) := by decide +kernel
theorem dX12_readDoor_35 : decode cX12_readDoor 35 = .ok (.imul, 1) := by decide +kernel
theorem dX12_readDoor_36 : decode cX12_readDoor 36 = .ok (.aload_n 0, 1) := by decide +kernel
theorem dX12_readDoor_37 : decode cX12_readDoor 37 = .ok (.getfield 39, 3) := by decide +kernel
theorem dX12_readDoor_40 : decode cX12_readDoor 40 = .ok (.aload_n 0, 1) := by decide +kernel
theorem dX12_readDoor_41 : decode cX12_readDoor 41 = .ok (.getfield 265, 3) := by decide +kernel
theorem dX12_readDoor_44 : decode cX12_readDoor 44 = .ok (.iaload, 1) := by decide +kernel
theorem dX12_readDoor_45 : decode cX12_readDoor 45 = .ok (.invokevirtual 325, 3) := by decide +kernel
theorem dX12_readDoor_48 : decode cX12_readDoor 48 = .ok (.invokevirtual 333, 3) := by decide +kernel
theorem dX12_readDoor_51 : decode cX12_readDoor 51 = .ok (.lastore, 1) := by decide +kernel
theorem dX12_readDoor_52 : decode cX12_readDoor 52 = .ok (.aload_n 0, 1) := by decide +kernel
theorem dX12_readDoor_53 : decode cX12_readDoor 53 = .ok (.aload_n 0, 1) := by decide +kernel
theorem dX12_readDoor_54 : decode cX12_readDoor 54 = .ok (.ldc2_w 181, 3) := by decide +kernel
theorem dX12_readDoor_57 : decode cX12_readDoor 57 = .ok (.invokevirtual 280, 3) := by decide +kernel
theorem dX12_readDoor_60 : decode cX12_readDoor 60 = .ok (.invokevirtual 321, 3) := by decide +kernel
theorem dX12_readDoor_63 : decode cX12_readDoor 63 = .ok (.aload_n 0, 1) := by decide +kernel
theorem dX12_readDoor_64 : decode cX12_readDoor 64 = .ok (.getfield 60, 3) := by decide +kernel
theorem dX12_readDoor_67 : decode cX12_readDoor 67 = .ok (.iload_n 1, 1) := by decide +kernel
theorem dX12_readDoor_68 : decode cX12_readDoor 68 = .ok (.aload_n 0, 1) := by decide +kernel
theorem dX12_readDoor_69 : decode cX12_readDoor 69 = .ok (.aload_n 0, 1) := by decide +kernel
theorem dX12_readDoor_70 : decode cX12_readDoor 70 = .ok (.invokevirtual 343, 3) := by decide +kernel
theorem dX12_readDoor_73 : decode cX12_readDoor 73 = .ok (.iconst 0, 1) := by decide +kernel
theorem dX12_readDoor_74 : decode cX12_readDoor 74 = .ok (.invokevirtual 346, 3) := by decide +kernel
theorem dX12_readDoor_77 : decode cX12_readDoor 77 = .ok (.iastore, 1) := by decide +kernel
theorem dX12_readDoor_78 : decode cX12_readDoor 78 = .ok (.aload_n 0, 1) := by decide +kernel
theorem dX12_readDoor_79 : decode cX12_readDoor 79 = .ok (.aload_n 0, 1) := by decide +kernel
theorem dX12_readDoor_80 : decode cX12_readDoor 80 = .ok (.ldc2_w 183, 3) := by decide +kernel
theorem dX12_readDoor_83 : decode cX12_readDoor 83 = .ok (.invokevirtual 280, 3) := by decide +kernel
theorem dX12_readDoor_86 : decode cX12_readDoor 86 = .ok (.invokevirtual 321, 3) := by decide +kernel
theorem dX12_readDoor_89 : decode cX12_readDoor 89 = .ok (.aload_n 0, 1) := by decide +kernel
theorem dX12_readDoor_90 : decode cX12_readDoor 90 = .ok (.getfield 63, 3) := by decide +kernel
theorem dX12_readDoor_93 : decode cX12_readDoor 93 = .ok (.iload_n 1, 1) := by decide +kernel
theorem dX12_readDoor_94 : decode cX12_readDoor 94 = .ok (.aload_n 0, 1) := by decide +kernel
theorem dX12_readDoor_95 : decode cX12_readDoor 95 = .ok (.aload_n 0, 1) := by decide +kernel
theorem dX12_readDoor_96 : decode cX12_readDoor 96 = .ok (.invokevirtual 343, 3) := by decide +kernel
theorem dX12_readDoor_99 : decode cX12_readDoor 99 = .ok (.iconst 1, 1) := by decide +kernel
theorem dX12_readDoor_100 : decode cX12_readDoor 100 = .ok (.aload_n 0, 1) := by decide +kernel
theorem dX12_readDoor_101 : decode cX12_readDoor 101 = .ok (.getfield 60, 3) := by decide +kernel
theorem dX12_readDoor_104 : decode cX12_readDoor 104 = .ok (.iload_n 1, 1) := by decide +kernel
theorem dX12_readDoor_105 : decode cX12_readDoor 105 = .ok (.iaload, 1) := by decide +kernel
theorem dX12_readDoor_106 : decode cX12_readDoor 106 = .ok (.ishl, 1) := by decide +kernel
theorem dX12_readDoor_107 : decode cX12_readDoor 107 = .ok (.invokevirtual 346, 3) := by decide +kernel
theorem dX12_readDoor_110 : decode cX12_readDoor 110 = .ok (.iastore, 1) := by decide +kernel
theorem dX12_readDoor_111 : decode cX12_readDoor 111 = .ok (.aload_n 0, 1) := by decide +kernel
theorem dX12_readDoor_112 : decode cX12_readDoor 112 = .ok (.aload_n 0, 1) := by decide +kernel
theorem dX12_readDoor_113 : decode cX12_readDoor 113 = .ok (.ldc2_w 175, 3) := by decide +kernel
theorem dX12_readDoor_116 : decode cX12_readDoor 116 = .ok (.invokevirtual 280, 3) := by decide +kernel
theorem dX12_readDoor_119 : decode cX12_readDoor 119 = .ok (.invokevirtual 321, 3) := by decide +kernel
theorem dX12_readDoor_122 : decode cX12_readDoor 122 = .ok (.aload_n 0, 1) := by decide +kernel
theorem dX12_readDoor_123 : decode cX12_readDoor 123 = .ok (.getfield 66, 3) := by decide +kernel
theorem dX12_readDoor_126 : decode cX12_readDoor 126 = .ok (.iload_n 1, 1) := by decide +kernel
theorem dX12_readDoor_127 : decode cX12_readDoor 127 = .ok (.aload_n 0, 1) := by decide +kernel
theorem dX12_readDoor_128 : decode cX12_readDoor 128 = .ok (.aload_n 0, 1) := by decide +kernel
theorem dX12_readDoor_129 : decode cX12_readDoor 129 = .ok (.invokevirtual 340, 3) := by decide +kernel
theorem dX12_readDoor_132 : decode cX12_readDoor 132 = .ok (.iconst 0, 1) := by decide +kernel
theorem dX12_readDoor_133 : decode cX12_readDoor 133 = .ok (.invokevirtual 346, 3) := by decide +kernel
theorem dX12_readDoor_136 : decode cX12_readDoor 136 = .ok (.iastore, 1) := by decide +kernel
theorem dX12_readDoor_137 : decode cX12_readDoor 137 = .ok (.aload_n 0, 1) := by decide +kernel
theorem dX12_readDoor_138 : decode cX12_readDoor 138 = .ok (.getfield 39, 3) := by decide +kernel
theorem dX12_readDoor_141 : decode cX12_readDoor 141 = .ok (.aload_n 0, 1) := by decide +kernel
theorem dX12_readDoor_142 : decode cX12_readDoor 142 = .ok (.getfield 265, 3) := by decide +kernel
theorem dX12_readDoor_145 : decode cX12_readDoor 145 = .ok (.dup2, 1) := by decide +kernel
theorem dX12_readDoor_146 : decode cX12_readDoor 146 = .ok (.iaload, 1) := by decide +kernel
theorem dX12_readDoor_147 : decode cX12_readDoor 147 = .ok (.iconst 1, 1) := by decide +kernel
theorem dX12_readDoor_148 : decode cX12_readDoor 148 = .ok (.iadd, 1) := by decide +kernel
theorem dX12_readDoor_149 : decode cX12_readDoor 149 = .ok (.iastore, 1) := by decide +kernel
theorem dX12_readDoor_150 : decode cX12_readDoor 150 = .ok (.return_, 1) := by decide +kernel
theorem dX12_readKey_0 : decode cX12_readKey 0 = .ok (.bipush 8, 2) := by decide +kernel
theorem dX12_readKey_2 : decode cX12_readKey 2 = .ok (.aload_n 0, 1) := by decide +kernel
theorem dX12_readKey_3 : decode cX12_readKey 3 = .ok (.getfield 265, 3) := by decide +kernel
theorem dX12_readKey_6 : decode cX12_readKey 6 = .ok (.imul, 1) := by decide +kernel
theorem dX12_readKey_7 : decode cX12_readKey 7 = .ok (.aload_n 0, 1) := by decide +kernel
theorem dX12_readKey_8 : decode cX12_readKey 8 = .ok (.getfield 30, 3) := by decide +kernel
theorem dX12_readKey_11 : decode cX12_readKey 11 = .ok (.aload_n 0, 1) := by decide +kernel
theorem dX12_readKey_12 : decode cX12_readKey 12 = .ok (.getfield 265, 3) := by decide +kernel
theorem dX12_readKey_15 : decode cX12_readKey 15 = .ok (.iaload, 1) := by decide +kernel
theorem dX12_readKey_16 : decode cX12_readKey 16 = .ok (.iadd, 1) := by decide +kernel
theorem dX12_readKey_17 : decode cX12_readKey 17 = .ok (.istore_n 1, 1) := by decide +kernel
theorem dX12_readKey_18 : decode cX12_readKey 18 = .ok (.aload_n 0, 1) := by decide +kernel
theorem dX12_readKey_19 : decode cX12_readKey 19 = .ok (.getfield 87, 3) := by decide +kernel
theorem dX12_readKey_22 : decode cX12_readKey 22 = .ok (.iload_n 1, 1) := by decide +kernel
theorem dX12_readKey_23 : decode cX12_readKey 23 = .ok (.aload_n 0, 1) := by decide +kernel
theorem dX12_readKey_24 : decode cX12_readKey 24 = .ok (.aload_n 0, 1) := by decide +kernel
theorem dX12_readKey_25 : decode cX12_readKey 25 = .ok (.invokevirtual 329, 3) := by decide +kernel
theorem dX12_readKey_28 : decode cX12_readKey 28 = .ok (.invokevirtual 333, 3) := by decide +kernel
theorem dX12_readKey_31 : decode cX12_readKey 31 = .ok (.lastore, 1) := by decide +kernel
theorem dX12_readKey_32 : decode cX12_readKey 32 = .ok (.aload_n 0, 1) := by decide +kernel
theorem dX12_readKey_33 : decode cX12_readKey 33 = .ok (.getfield 72, 3) := by decide +kernel
theorem dX12_readKey_36 : decode cX12_readKey 36 = .ok (.iload_n 1, 1) := by decide +kernel
theorem dX12_readKey_37 : decode cX12_readKey 37 = .ok (.iconst (-1), 1) := by decide +kernel
theorem dX12_readKey_38 : decode cX12_readKey 38 = .ok (.iastore, 1) := by decide +kernel
theorem dX12_readKey_39 : decode cX12_readKey 39 = .ok (.iconst 0, 1) := by decide +kernel
theorem dX12_readKey_40 : decode cX12_readKey 40 = .ok (.istore_n 2, 1) := by decide +kernel
theorem dX12_readKey_41 : decode cX12_readKey 41 = .ok (.iload_n 2, 1) := by decide +kernel
theorem dX12_readKey_42 : decode cX12_readKey 42 = .ok (.aload_n 0, 1) := by decide +kernel
theorem dX12_readKey_43 : decode cX12_readKey 43 = .ok (.getfield 20, 3) := by decide +kernel
theorem dX12_readKey_46 : decode cX12_readKey 46 = .ok (.aload_n 0, 1) := by decide +kernel
theorem dX12_readKey_47 : decode cX12_readKey 47 = .ok (.getfield 265, 3) := by decide +kernel
theorem dX12_readKey_50 : decode cX12_readKey 50 = .ok (.iaload, 1) := by decide +kernel
theorem dX12_readKey_51 : decode cX12_readKey 51 = .ok (.if_icmp .ge 129, 3) := by decide +kernel
theorem dX12_readKey_54 : decode cX12_readKey 54 = .ok (.aload_n 0, 1) := by decide +kernel
theorem dX12_readKey_55 : decode cX12_readKey 55 = .ok (.invokevirtual 251, 3) := by decide +kernel
theorem dX12_readKey_58 : decode cX12_readKey 58 = .ok (.ifCond .eq 122, 3) := by decide +kernel
theorem dX12_readKey_61 : decode cX12_readKey 61 = .ok (.iload_n 2, 1) := by decide +kernel
theorem dX12_readKey_62 : decode cX12_readKey 62 = .ok (.ifCond .ne 7, 3) := by decide +kernel
theorem dX12_readKey_65 : decode cX12_readKey 65 = .ok (.iconst 0, 1) := by decide +kernel
theorem dX12_readKey_66 : decode cX12_readKey 66 = .ok (.goto 15, 3) := by decide +kernel
theorem dX12_readKey_69 : decode cX12_readKey 69 = .ok (.aload_n 0, 1) := by decide +kernel
theorem dX12_readKey_70 : decode cX12_readKey 70 = .ok (.getfield 54, 3) := by decide +kernel
theorem dX12_readKey_73 : decode cX12_readKey 73 = .ok (.iconst 5, 1) := by decide +kernel
theorem dX12_readKey_74 : decode cX12_readKey 74 = .ok (.iload_n 1, 1) := by decide +kernel
theorem dX12_readKey_75 : decode cX12_readKey 75 = .ok (.imul, 1) := by decide +kernel
theorem dX12_readKey_76 : decode cX12_readKey 76 = .ok (.iload_n 2, 1) := by decide +kernel
theorem dX12_readKey_77 : decode cX12_readKey 77 = .ok (.iadd, 1) := by decide +kernel
theorem dX12_readKey_78 : decode cX12_readKey 78 = .ok (.iconst 1, 1) := by decide +kernel
theorem dX12_readKey_79 : decode cX12_readKey 79 = .ok (.isub, 1) := by decide +kernel
theorem dX12_readKey_80 : decode cX12_readKey 80 = .ok (.iaload, 1) := by decide +kernel
theorem dX12_readKey_81 : decode cX12_readKey 81 = .ok (.istore_n 3, 1) := by decide +kernel
theorem dX12_readKey_82 : decode cX12_readKey 82 = .ok (.iload_n 2, 1) := by decide +kernel
theorem dX12_readKey_83 : decode cX12_readKey 83 = .ok (.ifCond .ne 7, 3) := by decide +kernel
theorem dX12_readKey_86 : decode cX12_readKey 86 = .ok (.iconst 0, 1) := by decide +kernel
theorem dX12_readKey_87 : decode cX12_readKey 87 = .ok (.goto 20, 3) := by decide +kernel
theorem dX12_readKey_90 : decode cX12_readKey 90 = .ok (.iload_n 3, 1) := by decide +kernel
theorem dX12_readKey_91 : decode cX12_readKey 91 = .ok (.aload_n 0, 1) := by decide +kernel
theorem dX12_readKey_92 : decode cX12_readKey 92 = .ok (.getfield 27, 3) := by decide +kernel
theorem dX12_readKey_95 : decode cX12_readKey 95 = .ok (.aload_n 0, 1) := by decide +kernel
theorem dX12_readKey_96 : decode cX12_readKey 96 = .ok (.getfield 265, 3) := by decide +kernel
theorem dX12_readKey_99 : decode cX12_readKey 99 = .ok (.iaload, 1) := by decide +kernel
theorem dX12_readKey_100 : decode cX12_readKey 100 = .ok (.isub, 1) := by decide +kernel
theorem dX12_readKey_101 : decode cX12_readKey 101 = .ok (.iconst 0, 1) := by decide +kernel
theorem dX12_readKey_102 : decode cX12_readKey 102 = .ok (.bipush 6, 2) := by decide +kernel
theorem dX12_readKey_104 : decode cX12_readKey 104 = .ok (.invokestatic 337, 3) := by decide +kernel
theorem dX12_readKey_107 : decode cX12_readKey 107 = .ok (.istore 4, 2) := by decide +kernel
theorem dX12_readKey_109 : decode cX12_readKey 109 = .ok (.iload_n 2, 1) := by decide +kernel
theorem dX12_readKey_110 : decode cX12_readKey 110 = .ok (.ifCond .ne 17, 3) := by decide +kernel
theorem dX12_readKey_113 : decode cX12_readKey 113 = .ok (.aload_n 0, 1) := by decide +kernel
theorem dX12_readKey_114 : decode cX12_readKey 114 = .ok (.getfield 24, 3) := by decide +kernel
theorem dX12_readKey_117 : decode cX12_readKey 117 = .ok (.aload_n 0, 1) := by decide +kernel
theorem dX12_readKey_118 : decode cX12_readKey 118 = .ok (.getfield 265, 3) := by decide +kernel
theorem dX12_readKey_121 : decode cX12_readKey 121 = .ok (.iaload, 1) := by decide +kernel
theorem dX12_readKey_122 : decode cX12_readKey 122 = .ok (.iconst 1, 1) := by decide +kernel
theorem dX12_readKey_123 : decode cX12_readKey 123 = .ok (.isub, 1) := by decide +kernel
theorem dX12_readKey_124 : decode cX12_readKey 124 = .ok (.goto 29, 3) := by decide +kernel
theorem dX12_readKey_127 : decode cX12_readKey 127 = .ok (.iload_n 3, 1) := by decide +kernel
theorem dX12_readKey_128 : decode cX12_readKey 128 = .ok (.aload_n 0, 1) := by decide +kernel
theorem dX12_readKey_129 : decode cX12_readKey 129 = .ok (.getfield 27, 3) := by decide +kernel
theorem dX12_readKey_132 : decode cX12_readKey 132 = .ok (.aload_n 0, 1) := by decide +kernel
theorem dX12_readKey_133 : decode cX12_readKey 133 = .ok (.getfield 265, 3) := by decide +kernel
theorem dX12_readKey_136 : decode cX12_readKey 136 = .ok (.iaload, 1) := by decide +kernel
theorem dX12_readKey_137 : decode cX12_readKey 137 = .ok (.iadd, 1) := by decide +kernel
theorem dX12_readKey_138 : decode cX12_readKey 138 = .ok (.iconst 0, 1) := by decide +kernel
theorem dX12_readKey_139 : decode cX12_readKey 139 = .ok (.aload_n 0, 1) := by decide +kernel
theorem dX12_readKey_140 : decode cX12_readKey 140 = .ok (.getfield 24, 3) := by decide +kernel
theorem dX12_readKey_143 : decode cX12_readKey 143 = .ok (.aload_n 0, 1) := by decide +kernel
theorem dX12_readKey_144 : decode cX12_readKey 144 = .ok (.getfield 265, 3) := by decide +kernel
theorem dX12_readKey_147 : decode cX12_readKey 147 = .ok (.iaload, 1) := by decide +kernel
theorem dX12_readKey_148 : decode cX12_readKey 148 = .ok (.iconst 1, 1) := by decide +kernel
theorem dX12_readKey_149 : decode cX12_readKey 149 = .ok (.isub, 1) := by decide +kernel
theorem dX12_readKey_150 : decode cX12_readKey 150 = .ok (.invokestatic 337, 3) := by decide +kernel
theorem dX12_readKey_153 : decode cX12_readKey 153 = .ok (.istore 5, 2) := by decide +kernel
theorem dX12_readKey_155 : decode cX12_readKey 155 = .ok (.aload_n 0, 1) := by decide +kernel
theorem dX12_readKey_156 : decode cX12_readKey 156 = .ok (.getfield 54, 3) := by decide +kernel
theorem dX12_readKey_159 : decode cX12_readKey 159 = .ok (.iconst 5, 1) := by decide +kernel
theorem dX12_readKey_160 : decode cX12_readKey 160 = .ok (.iload_n 1, 1) := by decide +kernel
theorem dX12_readKey_161 : decode cX12_readKey 161 = .ok (.imul, 1) := by decide +kernel
theorem dX12_readKey_162 : decode cX12_readKey 162 = .ok (.iload_n 2, 1) := by decide +kernel
theorem dX12_readKey_163 : decode cX12_readKey 163 = .ok (.iadd, 1) := by decide +kernel
theorem dX12_readKey_164 : decode cX12_readKey 164 = .ok (.aload_n 0, 1) := by decide +kernel
theorem dX12_readKey_165 : decode cX12_readKey 165 = .ok (.iload 4, 2) := by decide +kernel
theorem dX12_readKey_167 : decode cX12_readKey 167 = .ok (.iload 5, 2) := by decide +kernel
theorem dX12_readKey_169 : decode cX12_readKey 169 = .ok (.iconst 0, 1) := by decide +kernel
theorem dX12_readKey_170 : decode cX12_readKey 170 = .ok (.invokevirtual 286, 3) := by decide +kernel
theorem dX12_readKey_173 : decode cX12_readKey 173 = .ok (.iastore, 1) := by decide +kernel
theorem dX12_readKey_174 : decode cX12_readKey 174 = .ok (.iinc 2 1, 3) := by decide +kernel
theorem dX12_readKey_177 : decode cX12_readKey 177 = .ok (.goto (-136), 3) := by decide +kernel
theorem dX12_readKey_180 : decode cX12_readKey 180 = .ok (.aload_n 0, 1) := by decide +kernel
theorem dX12_readKey_181 : decode cX12_readKey 181 = .ok (.getfield 30, 3) := by decide +kernel
theorem dX12_readKey_184 : decode cX12_readKey 184 = .ok (.aload_n 0, 1) := by decide +kernel
theorem dX12_readKey_185 : decode cX12_readKey 185 = .ok (.getfield 265, 3) := by decide +kernel
theorem dX12_readKey_188 : decode cX12_readKey 188 = .ok (.dup2, 1) := by decide +kernel
theorem dX12_readKey_189 : decode cX12_readKey 189 = .ok (.iaload, 1) := by decide +kernel
theorem dX12_readKey_190 : decode cX12_readKey 190 = .ok (.iconst 1, 1) := by decide +kernel
theorem dX12_readKey_191 : decode cX12_readKey 191 = .ok (.iadd, 1) := by decide +kernel
theorem dX12_readKey_192 : decode cX12_readKey 192 = .ok (.iastore, 1) := by decide +kernel
theorem dX12_readKey_193 : decode cX12_readKey 193 = .ok (.return_, 1) := by decide +kernel
theorem dX12_readLine_0 : decode cX12_readLine 0 = .ok (.aload_n 0, 1) := by decide +kernel
theorem dX12_readLine_1 : decode cX12_readLine 1 = .ok (.getfield 230, 3) := by decide +kernel
theorem dX12_readLine_4 : decode cX12_readLine 4 = .ok (.lstore_n 1, 1) := by decide +kernel
theorem dX12_readLine_5 : decode cX12_readLine 5 = .ok (.aload_n 0, 1) := by decide +kernel
theorem dX12_readLine_6 : decode cX12_readLine 6 = .ok (.getfield 223, 3) := by decide +kernel
theorem dX12_readLine_9 : decode cX12_readLine 9 = .ok (.iconst 3, 1) := by decide +kernel
theorem dX12_readLine_10 : decode cX12_readLine 10 = .ok (.if_icmp .ne 10, 3) := by decide +kernel
theorem dX12_readLine_13 : decode cX12_readLine 13 = .ok (.aload_n 0, 1) := by decide +kernel
theorem dX12_readLine_14 : decode cX12_readLine 14 = .ok (.invokevirtual 290, 3) := by decide +kernel
theorem dX12_readLine_17 : decode cX12_readLine 17 = .ok (.ifCond .eq 7, 3) := by decide +kernel
theorem dX12_readLine_20 : decode cX12_readLine 20 = .ok (.aload_n 0, 1) := by decide +kernel
theorem dX12_readLine_21 : decode cX12_readLine 21 = .ok (.invokevirtual 258, 3) := by decide +kernel
theorem dX12_readLine_24 : decode cX12_readLine 24 = .ok (.aload_n 0, 1) := by decide +kernel
theorem dX12_readLine_25 : decode cX12_readLine 25 = .ok (.invokevirtual 251, 3) := by decide +kernel
theorem dX12_readLine_28 : decode cX12_readLine 28 = .ok (.ifCond .ne 4, 3) := by decide +kernel
theorem dX12_readLine_31 : decode cX12_readLine 31 = .ok (.return_, 1) := by decide +kernel
theorem dX12_readLine_32 : decode cX12_readLine 32 = .ok (.aload_n 0, 1) := by decide +kernel
theorem dX12_readLine_33 : decode cX12_readLine 33 = .ok (.invokevirtual 255, 3) := by decide +kernel
theorem dX12_readLine_36 : decode cX12_readLine 36 = .ok (.lload_n 1, 1) := by decide +kernel
theorem dX12_readLine_37 : decode cX12_readLine 37 = .ok (.ldc2_w 167, 3) := by decide +kernel
theorem dX12_readLine_40 : decode cX12_readLine 40 = .ok (.lcmp, 1) := by decide +kernel
theorem dX12_readLine_41 : decode cX12_readLine 41 = .ok (.ifCond .ne 19, 3) := by decide +kernel
theorem dX12_readLine_44 : decode cX12_readLine 44 = .ok (.aload_n 0, 1) := by decide +kernel
theorem dX12_readLine_45 : decode cX12_readLine 45 = .ok (.getfield 20, 3) := by decide +kernel
theorem dX12_readLine_48 : decode cX12_readLine 48 = .ok (.aload_n 0, 1) := by decide +kernel
theorem dX12_readLine_49 : decode cX12_readLine 49 = .ok (.getfield 265, 3) := by decide +kernel
theorem dX12_readLine_52 : decode cX12_readLine 52 = .ok (.aload_n 0, 1) := by decide +kernel
theorem dX12_readLine_53 : decode cX12_readLine 53 = .ok (.iconst 0, 1) := by decide +kernel
theorem dX12_readLine_54 : decode cX12_readLine 54 = .ok (.iconst 2, 1) := by decide +kernel
theorem dX12_readLine_55 : decode cX12_readLine 55 = .ok (.iconst 5, 1) := by decide +kernel
theorem dX12_readLine_56 : decode cX12_readLine 56 = .ok (.invokevirtual 293, 3) := by decide +kernel
theorem dX12_readLine_59 : decode cX12_readLine 59 = .ok (.iastore, 1) := by decide +kernel
theorem dX12_readLine_60 : decode cX12_readLine 60 = .ok (.lload_n 1, 1) := by decide +kernel
theorem dX12_readLine_61 : decode cX12_readLine 61 = .ok (.ldc2_w 169, 3) := by decide +kernel
theorem dX12_readLine_64 : decode cX12_readLine 64 = .ok (.lcmp, 1) := by decide +kernel
theorem dX12_readLine_65 : decode cX12_readLine 65 = .ok (.ifCond .ne 20, 3) := by decide +kernel
theorem dX12_readLine_68 : decode cX12_readLine 68 = .ok (.aload_n 0, 1) := by decide +kernel
theorem dX12_readLine_69 : decode cX12_readLine 69 = .ok (.getfield 24, 3) := by decide +kernel
theorem dX12_readLine_72 : decode cX12_readLine 72 = .ok (.aload_n 0, 1) := by decide +kernel
theorem dX12_readLine_73 : decode cX12_readLine 73 = .ok (.getfield 265, 3) := by decide +kernel
theorem dX12_readLine_76 : decode cX12_readLine 76 = .ok (.aload_n 0, 1) := by decide +kernel
theorem dX12_readLine_77 : decode cX12_readLine 77 = .ok (.iconst 1, 1) := by decide +kernel
theorem dX12_readLine_78 : decode cX12_readLine 78 = .ok (.iconst 2, 1) := by decide +kernel
theorem dX12_readLine_79 : decode cX12_readLine 79 = .ok (.bipush 6, 2) := by decide +kernel
theorem dX12_readLine_81 : decode cX12_readLine 81 = .ok (.invokevirtual 293, 3) := by decide +kernel
theorem dX12_readLine_84 : decode cX12_readLine 84 = .ok (.iastore, 1) := by decide +kernel
theorem dX12_readLine_85 : decode cX12_readLine 85 = .ok (.lload_n 1, 1) := by decide +kernel
theorem dX12_readLine_86 : decode cX12_readLine 86 = .ok (.ldc2_w 171, 3) := by decide +kernel
theorem dX12_readLine_89 : decode cX12_readLine 89 = .ok (.lcmp, 1) := by decide +kernel
theorem dX12_readLine_90 : decode cX12_readLine 90 = .ok (.ifCond .ne 19, 3) := by decide +kernel
theorem dX12_readLine_93 : decode cX12_readLine 93 = .ok (.aload_n 0, 1) := by decide +kernel
theorem dX12_readLine_94 : decode cX12_readLine 94 = .ok (.getfield 27, 3) := by decide +kernel
theorem dX12_readLine_97 : decode cX12_readLine 97 = .ok (.aload_n 0, 1) := by decide +kernel
theorem dX12_readLine_98 : decode cX12_readLine 98 = .ok (.getfield 265, 3) := by decide +kernel
theorem dX12_readLine_101 : decode cX12_readLine 101 = .ok (.aload_n 0, 1) := by decide +kernel
theorem dX12_readLine_102 : decode cX12_readLine 102 = .ok (.iconst 2, 1) := by decide +kernel
theorem dX12_readLine_103 : decode cX12_readLine 103 = .ok (.iconst 0, 1) := by decide +kernel
theorem dX12_readLine_104 : decode cX12_readLine 104 = .ok (.iconst 5, 1) := by decide +kernel
theorem dX12_readLine_105 : decode cX12_readLine 105 = .ok (.invokevirtual 293, 3) := by decide +kernel
theorem dX12_readLine_108 : decode cX12_readLine 108 = .ok (.iastore, 1) := by decide +kernel
theorem dX12_readLine_109 : decode cX12_readLine 109 = .ok (.lload_n 1, 1) := by decide +kernel
theorem dX12_readLine_110 : decode cX12_readLine 110 = .ok (.ldc2_w 173, 3) := by decide +kernel
theorem dX12_readLine_113 : decode cX12_readLine 113 = .ok (.lcmp, 1) := by decide +kernel
theorem dX12_readLine_114 : decode cX12_readLine 114 = .ok (.ifCond .ne 7, 3) := by decide +kernel
theorem dX12_readLine_117 : decode cX12_readLine 117 = .ok (.aload_n 0, 1) := by decide +kernel
theorem dX12_readLine_118 : decode cX12_readLine 118 = .ok (.invokevirtual 296, 3) := by decide +kernel
theorem dX12_readLine_121 : decode cX12_readLine 121 = .ok (.lload_n 1, 1) := by decide +kernel
theorem dX12_readLine_122 : decode cX12_readLine 122 = .ok (.ldc2_w 175, 3) := by decide +kernel
theorem dX12_readLine_125 : decode cX12_readLine 125 = .ok (.lcmp, 1) := by decide +kernel
theorem dX12_readLine_126 : decode cX12_readLine 126 = .ok (.ifCond .ne 7, 3) := by decide +kernel
theorem dX12_readLine_129 : decode cX12_readLine 129 = .ok (.aload_n 0, 1) := by decide +kernel
theorem dX12_readLine_130 : decode cX12_readLine 130 = .ok (.invokevirtual 299, 3) := by decide +kernel
theorem dX12_readLine_133 : decode cX12_readLine 133 = .ok (.lload_n 1, 1) := by decide +kernel
theorem dX12_readLine_134 : decode cX12_readLine 134 = .ok (.ldc2_w 177, 3) := by decide +kernel
theorem dX12_readLine_137 : decode cX12_readLine 137 = .ok (.lcmp, 1) := by decide +kernel
theorem dX12_readLine_138 : decode cX12_readLine 138 = .ok (.ifCond .ne 7, 3) := by decide +kernel
theorem dX12_readLine_141 : decode cX12_readLine 141 = .ok (.aload_n 0, 1) := by decide +kernel
theorem dX12_readLine_142 : decode cX12_readLine 142 = .ok (.invokevirtual 302, 3) := by decide +kernel
theorem dX12_readLine_145 : decode cX12_readLine 145 = .ok (.lload_n 1, 1) := by decide +kernel
theorem dX12_readLine_146 : decode cX12_readLine 146 = .ok (.ldc2_w 179, 3) := by decide +kernel
theorem dX12_readLine_149 : decode cX12_readLine 149 = .ok (.lcmp, 1) := by decide +kernel
theorem dX12_readLine_150 : decode cX12_readLine 150 = .ok (.ifCond .ne 7, 3) := by decide +kernel
theorem dX12_readLine_153 : decode cX12_readLine 153 = .ok (.aload_n 0, 1) := by decide +kernel
theorem dX12_readLine_154 : decode cX12_readLine 154 = .ok (.invokevirtual 305, 3) := by decide +kernel
theorem dX12_readLine_157 : decode cX12_readLine 157 = .ok (.lload_n 1, 1) := by decide +kernel
theorem dX12_readLine_158 : decode cX12_readLine 158 = .ok (.ldc2_w 185, 3) := by decide +kernel
theorem dX12_readLine_161 : decode cX12_readLine 161 = .ok (.lcmp, 1) := by decide +kernel
theorem dX12_readLine_162 : decode cX12_readLine 162 = .ok (.ifCond .ne 7, 3) := by decide +kernel
theorem dX12_readLine_165 : decode cX12_readLine 165 = .ok (.aload_n 0, 1) := by decide +kernel
theorem dX12_readLine_166 : decode cX12_readLine 166 = .ok (.invokevirtual 308, 3) := by decide +kernel
theorem dX12_readLine_169 : decode cX12_readLine 169 = .ok (.lload_n 1, 1) := by decide +kernel
theorem dX12_readLine_170 : decode cX12_readLine 170 = .ok (.ldc2_w 191, 3) := by decide +kernel
theorem dX12_readLine_173 : decode cX12_readLine 173 = .ok (.lcmp, 1) := by decide +kernel
theorem dX12_readLine_174 : decode cX12_readLine 174 = .ok (.ifCond .ne 11, 3) := by decide +kernel
theorem dX12_readLine_177 : decode cX12_readLine 177 = .ok (.aload_n 0, 1) := by decide +kernel
theorem dX12_readLine_178 : decode cX12_readLine 178 = .ok (.aload_n 0, 1) := by decide +kernel
theorem dX12_readLine_179 : decode cX12_readLine 179 = .ok (.getfield 75, 3) := by decide +kernel
theorem dX12_readLine_182 : decode cX12_readLine 182 = .ok (.invokevirtual 311, 3) := by decide +kernel
theorem dX12_readLine_185 : decode cX12_readLine 185 = .ok (.lload_n 1, 1) := by decide +kernel
theorem dX12_readLine_186 : decode cX12_readLine 186 = .ok (.ldc2_w 193, 3) := by decide +kernel
theorem dX12_readLine_189 : decode cX12_readLine 189 = .ok (.lcmp, 1) := by decide +kernel
theorem dX12_readLine_190 : decode cX12_readLine 190 = .ok (.ifCond .ne 11, 3) := by decide +kernel
theorem dX12_readLine_193 : decode cX12_readLine 193 = .ok (.aload_n 0, 1) := by decide +kernel
theorem dX12_readLine_194 : decode cX12_readLine 194 = .ok (.aload_n 0, 1) := by decide +kernel
theorem dX12_readLine_195 : decode cX12_readLine 195 = .ok (.getfield 78, 3) := by decide +kernel
theorem dX12_readLine_198 : decode cX12_readLine 198 = .ok (.invokevirtual 311, 3) := by decide +kernel
theorem dX12_readLine_201 : decode cX12_readLine 201 = .ok (.lload_n 1, 1) := by decide +kernel
theorem dX12_readLine_202 : decode cX12_readLine 202 = .ok (.ldc2_w 195, 3) := by decide +kernel
theorem dX12_readLine_205 : decode cX12_readLine 205 = .ok (.lcmp, 1) := by decide +kernel
theorem dX12_readLine_206 : decode cX12_readLine 206 = .ok (.ifCond .ne 7, 3) := by decide +kernel
theorem dX12_readLine_209 : decode cX12_readLine 209 = .ok (.aload_n 0, 1) := by decide +kernel
theorem dX12_readLine_210 : decode cX12_readLine 210 = .ok (.invokevirtual 315, 3) := by decide +kernel
theorem dX12_readLine_213 : decode cX12_readLine 213 = .ok (.lload_n 1, 1) := by decide +kernel
theorem dX12_readLine_214 : decode cX12_readLine 214 = .ok (.ldc2_w 197, 3) := by decide +kernel
theorem dX12_readLine_217 : decode cX12_readLine 217 = .ok (.lcmp, 1) := by decide +kernel
theorem dX12_readLine_218 : decode cX12_readLine 218 = .ok (.ifCond .ne 21, 3) := by decide +kernel
theorem dX12_readLine_221 : decode cX12_readLine 221 = .ok (.aload_n 0, 1) := by decide +kernel
theorem dX12_readLine_222 : decode cX12_readLine 222 = .ok (.getfield 48, 3) := by decide +kernel
theorem dX12_readLine_225 : decode cX12_readLine 225 = .ok (.aload_n 0, 1) := by decide +kernel
theorem dX12_readLine_226 : decode cX12_readLine 226 = .ok (.getfield 265, 3) := by decide +kernel
theorem dX12_readLine_229 : decode cX12_readLine 229 = .ok (.aload_n 0, 1) := by decide +kernel
theorem dX12_readLine_230 : decode cX12_readLine 230 = .ok (.iconst 4, 1) := by decide +kernel
theorem dX12_readLine_231 : decode cX12_readLine 231 = .ok (.iconst 0, 1) := by decide +kernel
theorem dX12_readLine_232 : decode cX12_readLine 232 = .ok (.sipush 999, 3) := by decide +kernel
theorem dX12_readLine_235 : decode cX12_readLine 235 = .ok (.invokevirtual 293, 3) := by decide +kernel
theorem dX12_readLine_238 : decode cX12_readLine 238 = .ok (.iastore, 1) := by decide +kernel
theorem dX12_readLine_239 : decode cX12_readLine 239 = .ok (.aload_n 0, 1) := by decide +kernel
theorem dX12_readLine_240 : decode cX12_readLine 240 = .ok (.aload_n 0, 1) := by decide +kernel
theorem dX12_readLine_241 : decode cX12_readLine 241 = .ok (.bipush 59, 2) := by decide +kernel
theorem dX12_readLine_243 : decode cX12_readLine 243 = .ok (.invokevirtual 318, 3) := by decide +kernel
theorem dX12_readLine_246 : decode cX12_readLine 246 = .ok (.invokevirtual 321, 3) := by decide +kernel
theorem dX12_readLine_249 : decode cX12_readLine 249 = .ok (.return_, 1) := by decide +kernel
theorem dX12_readLock_0 : decode cX12_readLock 0 = .ok (.bipush 6, 2) := by decide +kernel
theorem dX12_readLock_2 : decode cX12_readLock 2 = .ok (.aload_n 0, 1) := by decide +kernel
theorem dX12_readLock_3 : decode cX12_readLock 3 = .ok (.getfield 265, 3) := by decide +kernel
theorem dX12_readLock_6 : decode cX12_readLock 6 = .ok (.imul, 1) := by decide +kernel
theorem dX12_readLock_7 : decode cX12_readLock 7 = .ok (.aload_n 0, 1) := by decide +kernel
theorem dX12_readLock_8 : decode cX12_readLock 8 = .ok (.getfield 33, 3) := by decide +kernel
theorem dX12_readLock_11 : decode cX12_readLock 11 = .ok (.aload_n 0, 1) := by decide +kernel
theorem dX12_readLock_12 : decode cX12_readLock 12 = .ok (.getfield 265, 3) := by decide +kernel
theorem dX12_readLock_15 : decode cX12_readLock 15 = .ok (.iaload, 1) := by decide +kernel
theorem dX12_readLock_16 : decode cX12_readLock 16 = .ok (.iadd, 1) := by decide +kernel
theorem dX12_readLock_17 : decode cX12_readLock 17 = .ok (.istore_n 1, 1) := by decide +kernel
theorem dX12_readLock_18 : decode cX12_readLock 18 = .ok (.aload_n 0, 1) := by decide +kernel
theorem dX12_readLock_19 : decode cX12_readLock 19 = .ok (.getfield 91, 3) := by decide +kernel
theorem dX12_readLock_22 : decode cX12_readLock 22 = .ok (.iload_n 1, 1) := by decide +kernel
theorem dX12_readLock_23 : decode cX12_readLock 23 = .ok (.aload_n 0, 1) := by decide +kernel
theorem dX12_readLock_24 : decode cX12_readLock 24 = .ok (.aload_n 0, 1) := by decide +kernel
theorem dX12_readLock_25 : decode cX12_readLock 25 = .ok (.invokevirtual 340, 3) := by decide +kernel
theorem dX12_readLock_28 : decode cX12_readLock 28 = .ok (.invokevirtual 333, 3) := by decide +kernel
theorem dX12_readLock_31 : decode cX12_readLock 31 = .ok (.lastore, 1) := by decide +kernel
theorem dX12_readLock_32 : decode cX12_readLock 32 = .ok (.iconst 0, 1) := by decide +kernel
theorem dX12_readLock_33 : decode cX12_readLock 33 = .ok (.istore_n 2, 1) := by decide +kernel
theorem dX12_readLock_34 : decode cX12_readLock 34 = .ok (.iload_n 2, 1) := by decide +kernel
theorem dX12_readLock_35 : decode cX12_readLock 35 = .ok (.aload_n 0, 1) := by decide +kernel
theorem dX12_readLock_36 : decode cX12_readLock 36 = .ok (.getfield 20, 3) := by decide +kernel
theorem dX12_readLock_39 : decode cX12_readLock 39 = .ok (.aload_n 0, 1) := by decide +kernel
theorem dX12_readLock_40 : decode cX12_readLock 40 = .ok (.getfield 265, 3) := by decide +kernel
theorem dX12_readLock_43 : decode cX12_readLock 43 = .ok (.iaload, 1) := by decide +kernel
theorem dX12_readLock_44 : decode cX12_readLock 44 = .ok (.if_icmp .ge 92, 3) := by decide +kernel
theorem dX12_readLock_47 : decode cX12_readLock 47 = .ok (.aload_n 0, 1) := by decide +kernel
theorem dX12_readLock_48 : decode cX12_readLock 48 = .ok (.invokevirtual 251, 3) := by decide +kernel
theorem dX12_readLock_51 : decode cX12_readLock 51 = .ok (.ifCond .eq 85, 3) := by decide +kernel
theorem dX12_readLock_54 : decode cX12_readLock 54 = .ok (.iconst 1, 1) := by decide +kernel
theorem dX12_readLock_55 : decode cX12_readLock 55 = .ok (.aload_n 0, 1) := by decide +kernel
theorem dX12_readLock_56 : decode cX12_readLock 56 = .ok (.iconst 0, 1) := by decide +kernel
theorem dX12_readLock_57 : decode cX12_readLock 57 = .ok (.aload_n 0, 1) := by decide +kernel
theorem dX12_readLock_58 : decode cX12_readLock 58 = .ok (.getfield 24, 3) := by decide +kernel
theorem dX12_readLock_61 : decode cX12_readLock 61 = .ok (.aload_n 0, 1) := by decide +kernel
theorem dX12_readLock_62 : decode cX12_readLock 62 = .ok (.getfield 265, 3) := by decide +kernel
theorem dX12_readLock_65 : decode cX12_readLock 65 = .ok (.iaload, 1) := by decide +kernel
theorem dX12_readLock_66 : decode cX12_readLock 66 = .ok (.iconst 1, 1) := by decide +kernel
theorem dX12_readLock_67 : decode cX12_readLock 67 = .ok (.isub, 1) := by decide +kernel
theorem dX12_readLock_68 : decode cX12_readLock 68 = .ok (.iconst 0, 1) := by decide +kernel
theorem dX12_readLock_69 : decode cX12_readLock 69 = .ok (.invokevirtual 286, 3) := by decide +kernel
theorem dX12_readLock_72 : decode cX12_readLock 72 = .ok (.ishl, 1) := by decide +kernel
theorem dX12_readLock_73 : decode cX12_readLock 73 = .ok (.istore_n 3, 1) := by decide +kernel
theorem dX12_readLock_74 : decode cX12_readLock 74 = .ok (.aload_n 0, 1) := by decide +kernel
theorem dX12_readLock_75 : decode cX12_readLock 75 = .ok (.invokevirtual 251, 3) := by decide +kernel
theorem dX12_readLock_78 : decode cX12_readLock 78 = .ok (.ifCond .eq 41, 3) := by decide +kernel
theorem dX12_readLock_81 : decode cX12_readLock 81 = .ok (.aload_n 0, 1) := by decide +kernel
theorem dX12_readLock_82 : decode cX12_readLock 82 = .ok (.bipush 47, 2) := by decide +kernel
theorem dX12_readLock_84 : decode cX12_readLock 84 = .ok (.invokevirtual 318, 3) := by decide +kernel
theorem dX12_readLock_87 : decode cX12_readLock 87 = .ok (.ifCond .eq 32, 3) := by decide +kernel
theorem dX12_readLock_90 : decode cX12_readLock 90 = .ok (.aload_n 0, 1) := by decide +kernel
theorem dX12_readLock_91 : decode cX12_readLock 91 = .ok (.invokevirtual 255, 3) := by decide +kernel
theorem dX12_readLock_94 : decode cX12_readLock 94 = .ok (.iload_n 3, 1) := by decide +kernel
theorem dX12_readLock_95 : decode cX12_readLock 95 = .ok (.iconst 1, 1) := by decide +kernel
theorem dX12_readLock_96 : decode cX12_readLock 96 = .ok (.aload_n 0, 1) := by decide +kernel
theorem dX12_readLock_97 : decode cX12_readLock 97 = .ok (.iconst 0, 1) := by decide +kernel
theorem dX12_readLock_98 : decode cX12_readLock 98 = .ok (.aload_n 0, 1) := by decide +kernel
theorem dX12_readLock_99 : decode cX12_readLock 99 = .ok (.getfield 24, 3) := by decide +kernel
theorem dX12_readLock_102 : decode cX12_readLock 102 = .ok (.aload_n 0, 1) := by decide +kernel
theorem dX12_readLock_103 : decode cX12_readLock 103 = .ok (.getfield 265, 3) := by decide +kernel
theorem dX12_readLock_106 : decode cX12_readLock 106 = .ok (.iaload, 1) := by decide +kernel
theorem dX12_readLock_107 : decode cX12_readLock 107 = .ok (.iconst 1, 1) := by decide +kernel
theorem dX12_readLock_108 : decode cX12_readLock 108 = .ok (.isub, 1) := by decide +kernel
theorem dX12_readLock_109 : decode cX12_readLock 109 = .ok (.iload_n 3, 1) := by decide +kernel
theorem dX12_readLock_110 : decode cX12_readLock 110 = .ok (.invokevirtual 286, 3) := by decide +kernel
theorem dX12_readLock_113 : decode cX12_readLock 113 = .ok (.ishl, 1) := by decide +kernel
theorem dX12_readLock_114 : decode cX12_readLock 114 = .ok (.ior, 1) := by decide +kernel
theorem dX12_readLock_115 : decode cX12_readLock 115 = .ok (.istore_n 3, 1) := by decide +kernel
theorem dX12_readLock_116 : decode cX12_readLock 116 = .ok (.goto (-42), 3) := by decide +kernel
theorem dX12_readLock_119 : decode cX12_readLock 119 = .ok (.aload_n 0, 1) := by decide +kernel
theorem dX12_readLock_120 : decode cX12_readLock 120 = .ok (.getfield 57, 3) := by decide +kernel
theorem dX12_readLock_123 : decode cX12_readLock 123 = .ok (.iconst 5, 1) := by decide +kernel
theorem dX12_readLock_124 : decode cX12_readLock 124 = .ok (.iload_n 1, 1) := by decide +kernel
theorem dX12_readLock_125 : decode cX12_readLock 125 = .ok (.imul, 1) := by decide +kernel
theorem dX12_readLock_126 : decode cX12_readLock 126 = .ok (.iload_n 2, 1) := by decide +kernel
theorem dX12_readLock_127 : decode cX12_readLock 127 = .ok (.iadd, 1) := by decide +kernel
theorem dX12_readLock_128 : decode cX12_readLock 128 = .ok (.iload_n 3, 1) := by decide +kernel
theorem dX12_readLock_129 : decode cX12_readLock 129 = .ok (.iastore, 1) := by decide +kernel
theorem dX12_readLock_130 : decode cX12_readLock 130 = .ok (.iinc 2 1, 3) := by decide +kernel
theorem dX12_readLock_133 : decode cX12_readLock 133 = .ok (.goto (-99), 3) := by decide +kernel
theorem dX12_readLock_136 : decode cX12_readLock 136 = .ok (.aload_n 0, 1) := by decide +kernel
theorem dX12_readLock_137 : decode cX12_readLock 137 = .ok (.getfield 33, 3) := by decide +kernel
theorem dX12_readLock_140 : decode cX12_readLock 140 = .ok (.aload_n 0, 1) := by decide +kernel
theorem dX12_readLock_141 : decode cX12_readLock 141 = .ok (.getfield 265, 3) := by decide +kernel
theorem dX12_readLock_144 : decode cX12_readLock 144 = .ok (.dup2, 1) := by decide +kernel
theorem dX12_readLock_145 : decode cX12_readLock 145 = .ok (.iaload, 1) := by decide +kernel
theorem dX12_readLock_146 : decode cX12_readLock 146 = .ok (.iconst 1, 1) := by decide +kernel
theorem dX12_readLock_147 : decode cX12_readLock 147 = .ok (.iadd, 1) := by decide +kernel
theorem dX12_readLock_148 : decode cX12_readLock 148 = .ok (.iastore, 1) := by decide +kernel
theorem dX12_readLock_149 : decode cX12_readLock 149 = .ok (.return_, 1) := by decide +kernel
theorem dX12_readPerson_0 : decode cX12_readPerson 0 = .ok (.iconst 4, 1) := by decide +kernel
theorem dX12_readPerson_1 : decode cX12_readPerson 1 = .ok (.aload_n 0, 1) := by decide +kernel
theorem dX12_readPerson_2 : decode cX12_readPerson 2 = .ok (.getfield 265, 3) := by decide +kernel
theorem dX12_readPerson_5 : decode cX12_readPerson 5 = .ok (.imul, 1) := by decide +kernel
theorem dX12_readPerson_6 : decode cX12_readPerson 6 = .ok (.aload_n 0, 1) := by decide +kernel
theorem dX12_readPerson_7 : decode cX12_readPerson 7 = .ok (.getfield 42, 3) := by decide +kernel
theorem dX12_readPerson_10 : decode cX12_readPerson 10 = .ok (.aload_n 0, 1) := by decide +kernel
theorem dX12_readPerson_11 : decode cX12_readPerson 11 = .ok (.getfield 265, 3) := by decide +kernel
theorem dX12_readPerson_14 : decode cX12_readPerson 14 = .ok (.iaload, 1) := by decide +kernel
theorem dX12_readPerson_15 : decode cX12_readPerson 15 = .ok (.iadd, 1) := by decide +kernel
theorem dX12_readPerson_16 : decode cX12_readPerson 16 = .ok (.istore_n 1, 1) := by decide +kernel
theorem dX12_readPerson_17 : decode cX12_readPerson 17 = .ok (.aload_n 0, 1) := by decide +kernel
theorem dX12_readPerson_18 : decode cX12_readPerson 18 = .ok (.getfield 100, 3) := by decide +kernel
theorem dX12_readPerson_21 : decode cX12_readPerson 21 = .ok (.iload_n 1, 1) := by decide +kernel
theorem dX12_readPerson_22 : decode cX12_readPerson 22 = .ok (.aload_n 0, 1) := by decide +kernel
theorem dX12_readPerson_23 : decode cX12_readPerson 23 = .ok (.aload_n 0, 1) := by decide +kernel
theorem dX12_readPerson_24 : decode cX12_readPerson 24 = .ok (.aload_n 0, 1) := by decide +kernel
theorem dX12_readPerson_25 : decode cX12_readPerson 25 = .ok (.getfield 100, 3) := by decide +kernel
theorem dX12_readPerson_28 : decode cX12_readPerson 28 = .ok (.iconst 4, 1) := by decide +kernel
theorem dX12_readPerson_29 : decode cX12_readPerson 29 = .ok (.aload_n 0, 1) := by decide +kernel
theorem dX12_readPerson_30 : decode cX12_readPerson 30 = .ok (.getfield 265, 3) := by decide +kernel
theorem dX12_readPerson_33 : decode cX12_readPerson 33 = .ok (.imul, 1) := by decide +kernel
theorem dX12_readPerson_34 : decode cX12_readPerson 34 = .ok (.aload_n 0, 1) := by decide +kernel
theorem dX12_readPerson_35 : decode cX12_readPerson 35 = .ok (.getfield 42, 3) := by decide +kernel
theorem dX12_readPerson_38 : decode cX12_readPerson 38 = .ok (.aload_n 0, 1) := by decide +kernel
theorem dX12_readPerson_39 : decode cX12_readPerson 39 = .ok (.getfield 265, 3) := by decide +kernel
theorem dX12_readPerson_42 : decode cX12_readPerson 42 = .ok (.iaload, 1) := by decide +kernel
theorem dX12_readPerson_43 : decode cX12_readPerson 43 = .ok (.invokevirtual 325, 3) := by decide +kernel
theorem dX12_readPerson_46 : decode cX12_readPerson 46 = .ok (.invokevirtual 333, 3) := by decide +kernel
theorem dX12_readPerson_49 : decode cX12_readPerson 49 = .ok (.lastore, 1) := by decide +kernel
theorem dX12_readPerson_50 : decode cX12_readPerson 50 = .ok (.aload_n 0, 1) := by decide +kernel
theorem dX12_readPerson_51 : decode cX12_readPerson 51 = .ok (.aload_n 0, 1) := by decide +kernel
theorem dX12_readPerson_52 : decode cX12_readPerson 52 = .ok (.ldc2_w 187, 3) := by decide +kernel
theorem dX12_readPerson_55 : decode cX12_readPerson 55 = .ok (.invokevirtual 280, 3) := by decide +kernel
theorem dX12_readPerson_58 : decode cX12_readPerson 58 = .ok (.invokevirtual 321, 3) := by decide +kernel
theorem dX12_readPerson_61 : decode cX12_readPerson 61 = .ok (.aload_n 0, 1) := by decide +kernel
theorem dX12_readPerson_62 : decode cX12_readPerson 62 = .ok (.getfield 69, 3) := by decide +kernel
theorem dX12_readPerson_65 : decode cX12_readPerson 65 = .ok (.iload_n 1, 1) := by decide +kernel
theorem dX12_readPerson_66 : decode cX12_readPerson 66 = .ok (.aload_n 0, 1) := by decide +kernel
theorem dX12_readPerson_67 : decode cX12_readPerson 67 = .ok (.aload_n 0, 1) := by decide +kernel
theorem dX12_readPerson_68 : decode cX12_readPerson 68 = .ok (.invokevirtual 343, 3) := by decide +kernel
theorem dX12_readPerson_71 : decode cX12_readPerson 71 = .ok (.iconst 0, 1) := by decide +kernel
theorem dX12_readPerson_72 : decode cX12_readPerson 72 = .ok (.invokevirtual 346, 3) := by decide +kernel
theorem dX12_readPerson_75 : decode cX12_readPerson 75 = .ok (.iastore, 1) := by decide +kernel
theorem dX12_readPerson_76 : decode cX12_readPerson 76 = .ok (.aload_n 0, 1) := by decide +kernel
theorem dX12_readPerson_77 : decode cX12_readPerson 77 = .ok (.invokevirtual 251, 3) := by decide +kernel
theorem dX12_readPerson_80 : decode cX12_readPerson 80 = .ok (.ifCond .eq 83, 3) := by decide +kernel
theorem dX12_readPerson_83 : decode cX12_readPerson 83 = .ok (.aload_n 0, 1) := by decide +kernel
theorem dX12_readPerson_84 : decode cX12_readPerson 84 = .ok (.ldc2_w 189, 3) := by decide +kernel
theorem dX12_readPerson_87 : decode cX12_readPerson 87 = .ok (.invokevirtual 280, 3) := by decide +kernel
theorem dX12_readPerson_90 : decode cX12_readPerson 90 = .ok (.ifCond .eq 73, 3) := by decide +kernel
theorem dX12_readPerson_93 : decode cX12_readPerson 93 = .ok (.aload_n 0, 1) := by decide +kernel
theorem dX12_readPerson_94 : decode cX12_readPerson 94 = .ok (.invokevirtual 255, 3) := by decide +kernel
theorem dX12_readPerson_97 : decode cX12_readPerson 97 = .ok (.iconst 1, 1) := by decide +kernel
theorem dX12_readPerson_98 : decode cX12_readPerson 98 = .ok (.istore_n 2, 1) := by decide +kernel
theorem dX12_readPerson_99 : decode cX12_readPerson 99 = .ok (.aload_n 0, 1) := by decide +kernel
theorem dX12_readPerson_100 : decode cX12_readPerson 100 = .ok (.invokevirtual 251, 3) := by decide +kernel
theorem dX12_readPerson_103 : decode cX12_readPerson 103 = .ok (.ifCond .eq 60, 3) := by decide +kernel
theorem dX12_readPerson_106 : decode cX12_readPerson 106 = .ok (.iload_n 2, 1) := by decide +kernel
theorem dX12_readPerson_107 : decode cX12_readPerson 107 = .ok (.ifCond .eq 56, 3) := by decide +kernel
theorem dX12_readPerson_110 : decode cX12_readPerson 110 = .ok (.aload_n 0, 1) := by decide +kernel
theorem dX12_readPerson_111 : decode cX12_readPerson 111 = .ok (.aload_n 0, 1) := by decide +kernel
theorem dX12_readPerson_112 : decode cX12_readPerson 112 = .ok (.invokevirtual 329, 3) := by decide +kernel
theorem dX12_readPerson_115 : decode cX12_readPerson 115 = .ok (.aload_n 0, 1) := by decide +kernel
theorem dX12_readPerson_116 : decode cX12_readPerson 116 = .ok (.invokevirtual 350, 3) := by decide +kernel
theorem dX12_readPerson_119 : decode cX12_readPerson 119 = .ok (.invokevirtual 346, 3) := by decide +kernel
theorem dX12_readPerson_122 : decode cX12_readPerson 122 = .ok (.istore_n 3, 1) := by decide +kernel
theorem dX12_readPerson_123 : decode cX12_readPerson 123 = .ok (.aload_n 0, 1) := by decide +kernel
theorem dX12_readPerson_124 : decode cX12_readPerson 124 = .ok (.getfield 72, 3) := by decide +kernel
theorem dX12_readPerson_127 : decode cX12_readPerson 127 = .ok (.bipush 8, 2) := by decide +kernel
theorem dX12_readPerson_129 : decode cX12_readPerson 129 = .ok (.aload_n 0, 1) := by decide +kernel
theorem dX12_readPerson_130 : decode cX12_readPerson 130 = .ok (.getfield 265, 3) := by decide +kernel
theorem dX12_readPerson_133 : decode cX12_readPerson 133 = .ok (.imul, 1) := by decide +kernel
theorem dX12_readPerson_134 : decode cX12_readPerson 134 = .ok (.iload_n 3, 1) := by decide +kernel
theorem dX12_readPerson_135 : decode cX12_readPerson 135 = .ok (.iadd, 1) := by decide +kernel
theorem dX12_readPerson_136 : decode cX12_readPerson 136 = .ok (.aload_n 0, 1) := by decide +kernel
theorem dX12_readPerson_137 : decode cX12_readPerson 137 = .ok (.getfield 42, 3) := by decide +kernel
theorem dX12_readPerson_140 : decode cX12_readPerson 140 = .ok (.aload_n 0, 1) := by decide +kernel
theorem dX12_readPerson_141 : decode cX12_readPerson 141 = .ok (.getfield 265, 3) := by decide +kernel
theorem dX12_readPerson_144 : decode cX12_readPerson 144 = .ok (.iaload, 1) := by decide +kernel
theorem dX12_readPerson_145 : decode cX12_readPerson 145 = .ok (.iastore, 1) := by decide +kernel
theorem dX12_readPerson_146 : decode cX12_readPerson 146 = .ok (.aload_n 0, 1) := by decide +kernel
theorem dX12_readPerson_147 : decode cX12_readPerson 147 = .ok (.getfield 223, 3) := by decide +kernel
theorem dX12_readPerson_150 : decode cX12_readPerson 150 = .ok (.iconst 2, 1) := by decide +kernel
theorem dX12_readPerson_151 : decode cX12_readPerson 151 = .ok (.if_icmp .ne 7, 3) := by decide +kernel
theorem dX12_readPerson_154 : decode cX12_readPerson 154 = .ok (.iconst 1, 1) := by decide +kernel
theorem dX12_readPerson_155 : decode cX12_readPerson 155 = .ok (.goto 4, 3) := by decide +kernel
theorem dX12_readPerson_158 : decode cX12_readPerson 158 = .ok (.iconst 0, 1) := by decide +kernel
theorem dX12_readPerson_159 : decode cX12_readPerson 159 = .ok (.istore_n 2, 1) := by decide +kernel
theorem dX12_readPerson_160 : decode cX12_readPerson 160 = .ok (.goto (-61), 3) := by decide +kernel
theorem dX12_readPerson_163 : decode cX12_readPerson 163 = .ok (.aload_n 0, 1) := by decide +kernel
theorem dX12_readPerson_164 : decode cX12_readPerson 164 = .ok (.getfield 42, 3) := by decide +kernel
theorem dX12_readPerson_167 : decode cX12_readPerson 167 = .ok (.aload_n 0, 1) := by decide +kernel
theorem dX12_readPerson_168 : decode cX12_readPerson 168 = .ok (.getfield 265, 3) := by decide +kernel
theorem dX12_readPerson_171 : decode cX12_readPerson 171 = .ok (.dup2, 1) := by decide +kernel
theorem dX12_readPerson_172 : decode cX12_readPerson 172 = .ok (.iaload, 1) := by decide +kernel
theorem dX12_readPerson_173 : decode cX12_readPerson 173 = .ok (.iconst 1, 1) := by decide +kernel
theorem dX12_readPerson_174 : decode cX12_readPerson 174 = .ok (.iadd, 1) := by decide +kernel
theorem dX12_readPerson_175 : decode cX12_readPerson 175 = .ok (.iastore, 1) := by decide +kernel
theorem dX12_readPerson_176 : decode cX12_readPerson 176 = .ok (.return_, 1) := by decide +kernel
theorem dX12_readRight_0 : decode cX12_readRight 0 = .ok (.aload_n 0, 1) := by decide +kernel
theorem dX12_readRight_1 : decode cX12_readRight 1 = .ok (.aload_n 0, 1) := by decide +kernel
theorem dX12_readRight_2 : decode cX12_readRight 2 = .ok (.invokevirtual 329, 3) := by decide +kernel
theorem dX12_readRight_5 : decode cX12_readRight 5 = .ok (.iconst 0, 1) := by decide +kernel
theorem dX12_readRight_6 : decode cX12_readRight 6 = .ok (.invokevirtual 346, 3) := by decide +kernel
theorem dX12_readRight_9 : decode cX12_readRight 9 = .ok (.istore_n 2, 1) := by decide +kernel
theorem dX12_readRight_10 : decode cX12_readRight 10 = .ok (.iconst 0, 1) := by decide +kernel
theorem dX12_readRight_11 : decode cX12_readRight 11 = .ok (.istore_n 3, 1) := by decide +kernel
theorem dX12_readRight_12 : decode cX12_readRight 12 = .ok (.iconst 0, 1) := by decide +kernel
theorem dX12_readRight_13 : decode cX12_readRight 13 = .ok (.istore 4, 2) := by decide +kernel
theorem dX12_readRight_15 : decode cX12_readRight 15 = .ok (.iload 4, 2) := by decide +kernel
theorem dX12_readRight_17 : decode cX12_readRight 17 = .ok (.aload_n 0, 1) := by decide +kernel
theorem dX12_readRight_18 : decode cX12_readRight 18 = .ok (.getfield 33, 3) := by decide +kernel
theorem dX12_readRight_21 : decode cX12_readRight 21 = .ok (.aload_n 0, 1) := by decide +kernel
theorem dX12_readRight_22 : decode cX12_readRight 22 = .ok (.getfield 265, 3) := by decide +kernel
theorem dX12_readRight_25 : decode cX12_readRight 25 = .ok (.iaload, 1) := by decide +kernel
theorem dX12_readRight_26 : decode cX12_readRight 26 = .ok (.if_icmp .ge 54, 3) := by decide +kernel
theorem dX12_readRight_29 : decode cX12_readRight 29 = .ok (.aload_n 0, 1) := by decide +kernel
theorem dX12_readRight_30 : decode cX12_readRight 30 = .ok (.getfield 75, 3) := by decide +kernel
theorem dX12_readRight_33 : decode cX12_readRight 33 = .ok (.bipush 6, 2) := by decide +kernel
theorem dX12_readRight_35 : decode cX12_readRight 35 = .ok (.aload_n 0, 1) := by decide +kernel
theorem dX12_readRight_36 : decode cX12_readRight 36 = .ok (.getfield 265, 3) := by decide +kernel
theorem dX12_readRight_39 : decode cX12_readRight 39 = .ok (.imul, 1) := by decide +kernel
theorem dX12_readRight_40 : decode cX12_readRight 40 = .ok (.iload 4, 2) := by decide +kernel
theorem dX12_readRight_42 : decode cX12_readRight 42 = .ok (.iadd, 1) := by decide +kernel
theorem dX12_readRight_43 : decode cX12_readRight 43 = .ok (.iaload, 1) := by decide +kernel
theorem dX12_readRight_44 : decode cX12_readRight 44 = .ok (.aload_n 0, 1) := by decide +kernel
theorem dX12_readRight_45 : decode cX12_readRight 45 = .ok (.getfield 78, 3) := by decide +kernel
theorem dX12_readRight_48 : decode cX12_readRight 48 = .ok (.bipush 6, 2) := by decide +kernel
theorem dX12_readRight_50 : decode cX12_readRight 50 = .ok (.aload_n 0, 1) := by decide +kernel
theorem dX12_readRight_51 : decode cX12_readRight 51 = .ok (.getfield 265, 3) := by decide +kernel
theorem dX12_readRight_54 : decode cX12_readRight 54 = .ok (.imul, 1) := by decide +kernel
theorem dX12_readRight_55 : decode cX12_readRight 55 = .ok (.iload 4, 2) := by decide +kernel
theorem dX12_readRight_57 : decode cX12_readRight 57 = .ok (.iadd, 1) := by decide +kernel
theorem dX12_readRight_58 : decode cX12_readRight 58 = .ok (.iaload, 1) := by decide +kernel
theorem dX12_readRight_59 : decode cX12_readRight 59 = .ok (.ior, 1) := by decide +kernel
theorem dX12_readRight_60 : decode cX12_readRight 60 = .ok (.iload_n 2, 1) := by decide +kernel
theorem dX12_readRight_61 : decode cX12_readRight 61 = .ok (.invokestatic 261, 3) := by decide +kernel
theorem dX12_readRight_64 : decode cX12_readRight 64 = .ok (.ifCond .eq 10, 3) := by decide +kernel
theorem dX12_readRight_67 : decode cX12_readRight 67 = .ok (.iload_n 3, 1) := by decide +kernel
theorem dX12_readRight_68 : decode cX12_readRight 68 = .ok (.iconst 1, 1) := by decide +kernel
theorem dX12_readRight_69 : decode cX12_readRight 69 = .ok (.iload 4, 2) := by decide +kernel
theorem dX12_readRight_71 : decode cX12_readRight 71 = .ok (.ishl, 1) := by decide +kernel
theorem dX12_readRight_72 : decode cX12_readRight 72 = .ok (.ior, 1) := by decide +kernel
theorem dX12_readRight_73 : decode cX12_readRight 73 = .ok (.istore_n 3, 1) := by decide +kernel
theorem dX12_readRight_74 : decode cX12_readRight 74 = .ok (.iinc 4 1, 3) := by decide +kernel
theorem dX12_readRight_77 : decode cX12_readRight 77 = .ok (.goto (-62), 3) := by decide +kernel
theorem dX12_readRight_80 : decode cX12_readRight 80 = .ok (.aload_n 0, 1) := by decide +kernel
theorem dX12_readRight_81 : decode cX12_readRight 81 = .ok (.aload_n 0, 1) := by decide +kernel
theorem dX12_readRight_82 : decode cX12_readRight 82 = .ok (.invokevirtual 340, 3) := by decide +kernel
theorem dX12_readRight_85 : decode cX12_readRight 85 = .ok (.iload_n 3, 1) := by decide +kernel
theorem dX12_readRight_86 : decode cX12_readRight 86 = .ok (.invokevirtual 346, 3) := by decide +kernel
theorem dX12_readRight_89 : decode cX12_readRight 89 = .ok (.istore 4, 2) := by decide +kernel
theorem dX12_readRight_91 : decode cX12_readRight 91 = .ok (.aload_n 0, 1) := by decide +kernel
theorem dX12_readRight_92 : decode cX12_readRight 92 = .ok (.invokevirtual 251, 3) := by decide +kernel
theorem dX12_readRight_95 : decode cX12_readRight 95 = .ok (.ifCond .eq 21, 3) := by decide +kernel
theorem dX12_readRight_98 : decode cX12_readRight 98 = .ok (.aload_n 1, 1) := by decide +kernel
theorem dX12_readRight_99 : decode cX12_readRight 99 = .ok (.bipush 6, 2) := by decide +kernel
theorem dX12_readRight_101 : decode cX12_readRight 101 = .ok (.aload_n 0, 1) := by decide +kernel
theorem dX12_readRight_102 : decode cX12_readRight 102 = .ok (.getfield 265, 3) := by decide +kernel
theorem dX12_readRight_105 : decode cX12_readRight 105 = .ok (.imul, 1) := by decide +kernel
theorem dX12_readRight_106 : decode cX12_readRight 106 = .ok (.iload 4, 2) := by decide +kernel
theorem dX12_readRight_108 : decode cX12_readRight 108 = .ok (.iadd, 1) := by decide +kernel
theorem dX12_readRight_109 : decode cX12_readRight 109 = .ok (.dup2, 1) := by decide +kernel
theorem dX12_readRight_110 : decode cX12_readRight 110 = .ok (.iaload, 1) := by decide +kernel
theorem dX12_readRight_111 : decode cX12_readRight 111 = .ok (.iconst 1, 1) := by decide +kernel
theorem dX12_readRight_112 : decode cX12_readRight 112 = .ok (.iload_n 2, 1) := by decide +kernel
theorem dX12_readRight_113 : decode cX12_readRight 113 = .ok (.ishl, 1) := by decide +kernel
theorem dX12_readRight_114 : decode cX12_readRight 114 = .ok (.ior, 1) := by decide +kernel
theorem dX12_readRight_115 : decode cX12_readRight 115 = .ok (.iastore, 1) := by decide +kernel
theorem dX12_readRight_116 : decode cX12_readRight 116 = .ok (.return_, 1) := by decide +kernel
theorem dX12_readRoom_0 : decode cX12_readRoom 0 = .ok (.aload_n 0, 1) := by decide +kernel
theorem dX12_readRoom_1 : decode cX12_readRoom 1 = .ok (.getfield 94, 3) := by decide +kernel
theorem dX12_readRoom_4 : decode cX12_readRoom 4 = .ok (.bipush 6, 2) := by decide +kernel
theorem dX12_readRoom_6 : decode cX12_readRoom 6 = .ok (.aload_n 0, 1) := by decide +kernel
theorem dX12_readRoom_7 : decode cX12_readRoom 7 = .ok (.getfield 265, 3) := by decide +kernel
theorem dX12_readRoom_10 : decode cX12_readRoom 10 = .ok (.imul, 1) := by decide +kernel
theorem dX12_readRoom_11 : decode cX12_readRoom 11 = .ok (.aload_n 0, 1) := by decide +kernel
theorem dX12_readRoom_12 : decode cX12_readRoom 12 = .ok (.getfield 36, 3) := by decide +kernel
theorem dX12_readRoom_15 : decode cX12_readRoom 15 = .ok (.aload_n 0, 1) := by decide +kernel
theorem dX12_readRoom_16 : decode cX12_readRoom 16 = .ok (.getfield 265, 3) := by decide +kernel
theorem dX12_readRoom_19 : decode cX12_readRoom 19 = .ok (.iaload, 1) := by decide +kernel
theorem dX12_readRoom_20 : decode cX12_readRoom 20 = .ok (.iadd, 1) := by decide +kernel
theorem dX12_readRoom_21 : decode cX12_readRoom 21 = .ok (.aload_n 0, 1) := by decide +kernel
theorem dX12_readRoom_22 : decode cX12_readRoom 22 = .ok (.aload_n 0, 1) := by decide +kernel
theorem dX12_readRoom_23 : decode cX12_readRoom 23 = .ok (.invokevirtual 343, 3) := by decide +kernel
theorem dX12_readRoom_26 : decode cX12_readRoom 26 = .ok (.invokevirtual 333, 3) := by decide +kernel
theorem dX12_readRoom_29 : decode cX12_readRoom 29 = .ok (.lastore, 1) := by decide +kernel
theorem dX12_readRoom_30 : decode cX12_readRoom 30 = .ok (.aload_n 0, 1) := by decide +kernel
theorem dX12_readRoom_31 : decode cX12_readRoom 31 = .ok (.getfield 36, 3) := by decide +kernel
theorem dX12_readRoom_34 : decode cX12_readRoom 34 = .ok (.aload_n 0, 1) := by decide +kernel
theorem dX12_readRoom_35 : decode cX12_readRoom 35 = .ok (.getfield 265, 3) := by decide +kernel
theorem dX12_readRoom_38 : decode cX12_readRoom 38 = .ok (.dup2, 1) := by decide +kernel
theorem dX12_readRoom_39 : decode cX12_readRoom 39 = .ok (.iaload, 1) := by decide +kernel
theorem dX12_readRoom_40 : decode cX12_readRoom 40 = .ok (.iconst 1, 1) := by decide +kernel
theorem dX12_readRoom_41 : decode cX12_readRoom 41 = .ok (.iadd, 1) := by decide +kernel
theorem dX12_readRoom_42 : decode cX12_readRoom 42 = .ok (.iastore, 1) := by decide +kernel
theorem dX12_readRoom_43 : decode cX12_readRoom 43 = .ok (.return_, 1) := by decide +kernel
theorem dX12_readRule_0 : decode cX12_readRule 0 = .ok (.aload_n 0, 1) := by decide +kernel
theorem dX12_readRule_1 : decode cX12_readRule 1 = .ok (.getfield 51, 3) := by decide +kernel
theorem dX12_readRule_4 : decode cX12_readRule 4 = .ok (.aload_n 0, 1) := by decide +kernel
theorem dX12_readRule_5 : decode cX12_readRule 5 = .ok (.getfield 265, 3) := by decide +kernel
theorem dX12_readRule_8 : decode cX12_readRule 8 = .ok (.dup2, 1) := by decide +kernel
theorem dX12_readRule_9 : decode cX12_readRule 9 = .ok (.iaload, 1) := by decide +kernel
theorem dX12_readRule_10 : decode cX12_readRule 10 = .ok (.bipush 8, 2) := by decide +kernel
theorem dX12_readRule_12 : decode cX12_readRule 12 = .ok (.ior, 1) := by decide +kernel
theorem dX12_readRule_13 : decode cX12_readRule 13 = .ok (.iastore, 1) := by decide +kernel
theorem dX12_readRule_14 : decode cX12_readRule 14 = .ok (.aload_n 0, 1) := by decide +kernel
theorem dX12_readRule_15 : decode cX12_readRule 15 = .ok (.iconst 0, 1) := by decide +kernel
theorem dX12_readRule_16 : decode cX12_readRule 16 = .ok (.putfield 353, 3) := by decide +kernel
theorem dX12_readRule_19 : decode cX12_readRule 19 = .ok (.aload_n 0, 1) := by decide +kernel
theorem dX12_readRule_20 : decode cX12_readRule 20 = .ok (.getfield 81, 3) := by decide +kernel
theorem dX12_readRule_23 : decode cX12_readRule 23 = .ok (.aload_n 0, 1) := by decide +kernel
theorem dX12_readRule_24 : decode cX12_readRule 24 = .ok (.getfield 265, 3) := by decide +kernel
theorem dX12_readRule_27 : decode cX12_readRule 27 = .ok (.aload_n 0, 1) := by decide +kernel
theorem dX12_readRule_28 : decode cX12_readRule 28 = .ok (.getfield 268, 3) := by decide +kernel
theorem dX12_readRule_31 : decode cX12_readRule 31 = .ok (.iastore, 1) := by decide +kernel
theorem dX12_readRule_32 : decode cX12_readRule 32 = .ok (.aload_n 0, 1) := by decide +kernel
theorem dX12_readRule_33 : decode cX12_readRule 33 = .ok (.invokevirtual 356, 3) := by decide +kernel
theorem dX12_readRule_36 : decode cX12_readRule 36 = .ok (.aload_n 0, 1) := by decide +kernel
theorem dX12_readRule_37 : decode cX12_readRule 37 = .ok (.getfield 84, 3) := by decide +kernel
theorem dX12_readRule_40 : decode cX12_readRule 40 = .ok (.aload_n 0, 1) := by decide +kernel
theorem dX12_readRule_41 : decode cX12_readRule 41 = .ok (.getfield 265, 3) := by decide +kernel
theorem dX12_readRule_44 : decode cX12_readRule 44 = .ok (.aload_n 0, 1) := by decide +kernel
theorem dX12_readRule_45 : decode cX12_readRule 45 = .ok (.getfield 268, 3) := by decide +kernel
theorem dX12_readRule_48 : decode cX12_readRule 48 = .ok (.iastore, 1) := by decide +kernel
theorem dX12_readRule_49 : decode cX12_readRule 49 = .ok (.return_, 1) := by decide +kernel
theorem dX12_recut_0 : decode cX12_recut 0 = .ok (.aload_n 0, 1) := by decide +kernel
theorem dX12_recut_1 : decode cX12_recut 1 = .ok (.iload_n 1, 1) := by decide +kernel
theorem dX12_recut_2 : decode cX12_recut 2 = .ok (.invokevirtual 462, 3) := by decide +kernel
theorem dX12_recut_5 : decode cX12_recut 5 = .ok (.ifCond .eq 11, 3) := by decide +kernel
theorem dX12_recut_8 : decode cX12_recut 8 = .ok (.aload_n 0, 1) := by decide +kernel
theorem dX12_recut_9 : decode cX12_recut 9 = .ok (.iload_n 2, 1) := by decide +kernel
theorem dX12_recut_10 : decode cX12_recut 10 = .ok (.invokevirtual 456, 3) := by decide +kernel
theorem dX12_recut_13 : decode cX12_recut 13 = .ok (.ifCond .ne 5, 3) := by decide +kernel
theorem dX12_recut_16 : decode cX12_recut 16 = .ok (.iconst (-1), 1) := by decide +kernel
theorem dX12_recut_17 : decode cX12_recut 17 = .ok (.ireturn, 1) := by decide +kernel
theorem dX12_recut_18 : decode cX12_recut 18 = .ok (.aload_n 0, 1) := by decide +kernel
theorem dX12_recut_19 : decode cX12_recut 19 = .ok (.invokevirtual 600, 3) := by decide +kernel
theorem dX12_recut_22 : decode cX12_recut 22 = .ok (.aload_n 0, 1) := by decide +kernel
theorem dX12_recut_23 : decode cX12_recut 23 = .ok (.iload_n 1, 1) := by decide +kernel
theorem dX12_recut_24 : decode cX12_recut 24 = .ok (.invokevirtual 450, 3) := by decide +kernel
theorem dX12_recut_27 : decode cX12_recut 27 = .ok (.istore_n 3, 1) := by decide +kernel
theorem dX12_recut_28 : decode cX12_recut 28 = .ok (.aload_n 0, 1) := by decide +kernel
theorem dX12_recut_29 : decode cX12_recut 29 = .ok (.iload_n 1, 1) := by decide +kernel
theorem dX12_recut_30 : decode cX12_recut 30 = .ok (.iload_n 2, 1) := by decide +kernel
theorem dX12_recut_31 : decode cX12_recut 31 = .ok (.invokevirtual 565, 3) := by decide +kernel
theorem dX12_recut_34 : decode cX12_recut 34 = .ok (.aload_n 0, 1) := by decide +kernel
theorem dX12_recut_35 : decode cX12_recut 35 = .ok (.getfield 118, 3) := by decide +kernel
theorem dX12_recut_38 : decode cX12_recut 38 = .ok (.bipush 40, 2) := by decide +kernel
theorem dX12_recut_40 : decode cX12_recut 40 = .ok (.iload_n 1, 1) := by decide +kernel
theorem dX12_recut_41 : decode cX12_recut 41 = .ok (.iadd, 1) := by decide +kernel
theorem dX12_recut_42 : decode cX12_recut 42 = .ok (.iconst 0, 1) := by decide +kernel
theorem dX12_recut_43 : decode cX12_recut 43 = .ok (.iastore, 1) := by decide +kernel
theorem dX12_recut_44 : decode cX12_recut 44 = .ok (.iload_n 3, 1) := by decide +kernel
theorem dX12_recut_45 : decode cX12_recut 45 = .ok (.ireturn, 1) := by decide +kernel
theorem dX12_redo_0 : decode cX12_redo 0 = .ok (.aload_n 0, 1) := by decide +kernel
theorem dX12_redo_1 : decode cX12_redo 1 = .ok (.getfield 420, 3) := by decide +kernel
theorem dX12_redo_4 : decode cX12_redo 4 = .ok (.ifCond .ne 5, 3) := by decide +kernel
theorem dX12_redo_7 : decode cX12_redo 7 = .ok (.iconst 0, 1) := by decide +kernel
theorem dX12_redo_8 : decode cX12_redo 8 = .ok (.ireturn, 1) := by decide +kernel
theorem dX12_redo_9 : decode cX12_redo 9 = .ok (.aload_n 0, 1) := by decide +kernel
theorem dX12_redo_10 : decode cX12_redo 10 = .ok (.invokevirtual 606, 3) := by decide +kernel
theorem dX12_redo_13 : decode cX12_redo 13 = .ok (.aload_n 0, 1) := by decide +kernel
theorem dX12_redo_14 : decode cX12_redo 14 = .ok (.dup, 1) := by decide +kernel
theorem dX12_redo_15 : decode cX12_redo 15 = .ok (.getfield 417, 3) := by decide +kernel
theorem dX12_redo_18 : decode cX12_redo 18 = .ok (.iconst 1, 1) := by decide +kernel
theorem dX12_redo_19 : decode cX12_redo 19 = .ok (.iadd, 1) := by decide +kernel
theorem dX12_redo_20 : decode cX12_redo 20 = .ok (.putfield 417, 3) := by decide +kernel
theorem dX12_redo_23 : decode cX12_redo 23 = .ok (.aload_n 0, 1) := by decide +kernel
theorem dX12_redo_24 : decode cX12_redo 24 = .ok (.dup, 1) := by decide +kernel
theorem dX12_redo_25 : decode cX12_redo 25 = .ok (.getfield 420, 3) := by decide +kernel
theorem dX12_redo_28 : decode cX12_redo 28 = .ok (.iconst 1, 1) := by decide +kernel
theorem dX12_redo_29 : decode cX12_redo 29 = .ok (.isub, 1) := by decide +kernel
theorem dX12_redo_30 : decode cX12_redo 30 = .ok (.putfield 420, 3) := by decide +kernel
theorem dX12_redo_33 : decode cX12_redo 33 = .ok (.iconst 1, 1) := by decide +kernel
theorem dX12_redo_34 : decode cX12_redo 34 = .ok (.ireturn, 1) := by decide +kernel
theorem dX12_roomHere_0 : decode cX12_roomHere 0 = .ok (.aload_n 0, 1) := by decide +kernel
theorem dX12_roomHere_1 : decode cX12_roomHere 1 = .ok (.aload_n 0, 1) := by decide +kernel
theorem dX12_roomHere_2 : decode cX12_roomHere 2 = .ok (.getfield 94, 3) := by decide +kernel
theorem dX12_roomHere_5 : decode cX12_roomHere 5 = .ok (.bipush 6, 2) := by decide +kernel
theorem dX12_roomHere_7 : decode cX12_roomHere 7 = .ok (.aload_n 0, 1) := by decide +kernel
theorem dX12_roomHere_8 : decode cX12_roomHere 8 = .ok (.getfield 265, 3) := by decide +kernel
theorem dX12_roomHere_11 : decode cX12_roomHere 11 = .ok (.imul, 1) := by decide +kernel
theorem dX12_roomHere_12 : decode cX12_roomHere 12 = .ok (.aload_n 0, 1) := by decide +kernel
theorem dX12_roomHere_13 : decode cX12_roomHere 13 = .ok (.getfield 36, 3) := by decide +kernel
theorem dX12_roomHere_16 : decode cX12_roomHere 16 = .ok (.aload_n 0, 1) := by decide +kernel
theorem dX12_roomHere_17 : decode cX12_roomHere 17 = .ok (.getfield 265, 3) := by decide +kernel
theorem dX12_roomHere_20 : decode cX12_roomHere 20 = .ok (.iaload, 1) := by decide +kernel
theorem dX12_roomHere_21 : decode cX12_roomHere 21 = .ok (.invokevirtual 325, 3) := by decide +kernel
theorem dX12_roomHere_24 : decode cX12_roomHere 24 = .ok (.ireturn, 1) := by decide +kernel
theorem dX12_route_0 : decode cX12_route 0 = .ok (.aload_n 0, 1) := by decide +kernel
theorem dX12_route_1 : decode cX12_route 1 = .ok (.iconst 0, 1) := by decide +kernel
theorem dX12_route_2 : decode cX12_route 2 = .ok (.putfield 426, 3) := by decide +kernel
theorem dX12_route_5 : decode cX12_route 5 = .ok (.aload_n 0, 1) := by decide +kernel
theorem dX12_route_6 : decode cX12_route 6 = .ok (.iload_n 1, 1) := by decide +kernel
theorem dX12_route_7 : decode cX12_route 7 = .ok (.invokevirtual 495, 3) := by decide +kernel
theorem dX12_route_10 : decode cX12_route 10 = .ok (.ifCond .eq 11, 3) := by decide +kernel
theorem dX12_route_13 : decode cX12_route 13 = .ok (.aload_n 0, 1) := by decide +kernel
theorem dX12_route_14 : decode cX12_route 14 = .ok (.iload_n 2, 1) := by decide +kernel
theorem dX12_route_15 : decode cX12_route 15 = .ok (.invokevirtual 577, 3) := by decide +kernel
theorem dX12_route_18 : decode cX12_route 18 = .ok (.ifCond .ne 5, 3) := by decide +kernel
theorem dX12_route_21 : decode cX12_route 21 = .ok (.iconst (-1), 1) := by decide +kernel
theorem dX12_route_22 : decode cX12_route 22 = .ok (.ireturn, 1) := by decide +kernel
theorem dX12_route_23 : decode cX12_route 23 = .ok (.aload_n 0, 1) := by decide +kernel
theorem dX12_route_24 : decode cX12_route 24 = .ok (.aload_n 0, 1) := by decide +kernel
theorem dX12_route_25 : decode cX12_route 25 = .ok (.iload_n 1, 1) := by decide +kernel
theorem dX12_route_26 : decode cX12_route 26 = .ok (.invokevirtual 498, 3) := by decide +kernel
theorem dX12_route_29 : decode cX12_route 29 = .ok (.invokevirtual 571, 3) := by decide +kernel
theorem dX12_route_32 : decode cX12_route 32 = .ok (.istore_n 3, 1) := by decide +kernel
theorem dX12_route_33 : decode cX12_route 33 = .ok (.aload_n 0, 1) := by decide +kernel
theorem dX12_route_34 : decode cX12_route 34 = .ok (.getfield 118, 3) := by decide +kernel
theorem dX12_route_37 : decode cX12_route 37 = .ok (.bipush 86, 2) := by decide +kernel
theorem dX12_route_39 : decode cX12_route 39 = .ok (.iload_n 1, 1) := by decide +kernel
theorem dX12_route_40 : decode cX12_route 40 = .ok (.iadd, 1) := by decide +kernel
theorem dX12_route_41 : decode cX12_route 41 = .ok (.iaload, 1) := by decide +kernel
theorem dX12_route_42 : decode cX12_route 42 = .ok (.istore 4, 2) := by decide +kernel
theorem dX12_route_44 : decode cX12_route 44 = .ok (.aload_n 0, 1) := by decide +kernel
theorem dX12_route_45 : decode cX12_route 45 = .ok (.iload 4, 2) := by decide +kernel
theorem dX12_route_47 : decode cX12_route 47 = .ok (.iload_n 2, 1) := by decide +kernel
theorem dX12_route_48 : decode cX12_route 48 = .ok (.iload_n 3, 1) := by decide +kernel
theorem dX12_route_49 : decode cX12_route 49 = .ok (.invokevirtual 580, 3) := by decide +kernel
theorem dX12_route_52 : decode cX12_route 52 = .ok (.istore 5, 2) := by decide +kernel
theorem dX12_route_54 : decode cX12_route 54 = .ok (.iload 5, 2) := by decide +kernel
theorem dX12_route_56 : decode cX12_route 56 = .ok (.ldc_w 528, 3) := by decide +kernel
theorem dX12_route_59 : decode cX12_route 59 = .ok (.if_icmp .ne 5, 3) := by decide +kernel
theorem dX12_route_62 : decode cX12_route 62 = .ok (.iconst (-1), 1) := by decide +kernel
theorem dX12_route_63 : decode cX12_route 63 = .ok (.ireturn, 1) := by decide +kernel
theorem dX12_route_64 : decode cX12_route 64 = .ok (.iload 4, 2) := by decide +kernel
theorem dX12_route_66 : decode cX12_route 66 = .ok (.iload_n 2, 1) := by decide +kernel
theorem dX12_route_67 : decode cX12_route 67 = .ok (.if_icmp .eq 103, 3) := by decide +kernel
theorem dX12_route_70 : decode cX12_route 70 = .ok (.iconst 0, 1) := by decide +kernel
theorem dX12_route_71 : decode cX12_route 71 = .ok (.istore 6, 2) := by decide +kernel
theorem dX12_route_73 : decode cX12_route 73 = .ok (.iload_n 3, 1) := by decide +kernel
theorem dX12_route_74 : decode cX12_route 74 = .ok (.aload_n 0, 1) := by decide +kernel
theorem dX12_route_75 : decode cX12_route 75 = .ok (.getfield 66, 3) := by decide +kernel
theorem dX12_route_78 : decode cX12_route 78 = .ok (.bipush 8, 2) := by decide +kernel
theorem dX12_route_80 : decode cX12_route 80 = .ok (.aload_n 0, 1) := by decide +kernel
theorem dX12_route_81 : decode cX12_route 81 = .ok (.getfield 274, 3) := by decide +kernel
theorem dX12_route_84 : decode cX12_route 84 = .ok (.imul, 1) := by decide +kernel
theorem dX12_route_85 : decode cX12_route 85 = .ok (.iload 6, 2) := by decide +kernel
theorem dX12_route_87 : decode cX12_route 87 = .ok (.iadd, 1) := by decide +kernel
theorem dX12_route_88 : decode cX12_route 88 = .ok (.iaload, 1) := by decide +kernel
theorem dX12_route_89 : decode cX12_route 89 = .ok (.invokestatic 261, 3) := by decide +kernel
theorem dX12_route_92 : decode cX12_route 92 = .ok (.ifCond .eq 35, 3) := by decide +kernel
theorem dX12_route_95 : decode cX12_route 95 = .ok (.aload_n 0, 1) := by decide +kernel
theorem dX12_route_96 : decode cX12_route 96 = .ok (.iload 6, 2) := by decide +kernel
theorem dX12_route_98 : decode cX12_route 98 = .ok (.iload 4, 2) := by decide +kernel
theorem dX12_route_100 : decode cX12_route 100 = .ok (.invokevirtual 583, 3) := by decide +kernel
theorem dX12_route_103 : decode cX12_route 103 = .ok (.ifCond .lt 24, 3) := by decide +kernel
theorem dX12_route_106 : decode cX12_route 106 = .ok (.aload_n 0, 1) := by decide +kernel
theorem dX12_route_107 : decode cX12_route 107 = .ok (.aload_n 0, 1) := by decide +kernel
theorem dX12_route_108 : decode cX12_route 108 = .ok (.iload 6, 2) := by decide +kernel
theorem dX12_route_110 : decode cX12_route 110 = .ok (.iload 4, 2) := by decide +kernel
theorem dX12_route_112 : decode cX12_route 112 = .ok (.invokevirtual 583, 3) := by decide +kernel
theorem dX12_route_115 : decode cX12_route 115 = .ok (.iload_n 2, 1) := by decide +kernel
theorem dX12_route_116 : decode cX12_route 116 = .ok (.iload_n 3, 1) := by decide +kernel
theorem dX12_route_117 : decode cX12_route 117 = .ok (.invokevirtual 580, 3) := by decide +kernel
theorem dX12_route_120 : decode cX12_route 120 = .ok (.iload 5, 2) := by decide +kernel
theorem dX12_route_122 : decode cX12_route 122 = .ok (.iconst 1, 1) := by decide +kernel
theorem dX12_route_123 : decode cX12_route 123 = .ok (.isub, 1) := by decide +kernel
theorem dX12_route_124 : decode cX12_route 124 = .ok (.if_icmp .eq 9, 3) := by decide +kernel
theorem dX12_route_127 : decode cX12_route 127 = .ok (.iinc 6 1, 3) := by decide +kernel
theorem dX12_route_130 : decode cX12_route 130 = .ok (.goto (-57), 3) := by decide +kernel
theorem dX12_route_133 : decode cX12_route 133 = .ok (.aload_n 0, 1) := by decide +kernel
theorem dX12_route_134 : decode cX12_route 134 = .ok (.getfield 127, 3) := by decide +kernel
theorem dX12_route_137 : decode cX12_route 137 = .ok (.aload_n 0, 1) := by decide +kernel
theorem dX12_route_138 : decode cX12_route 138 = .ok (.getfield 426, 3) := by decide +kernel
theorem dX12_route_141 : decode cX12_route 141 = .ok (.iload 6, 2) := by decide +kernel
theorem dX12_route_143 : decode cX12_route 143 = .ok (.iastore, 1) := by decide +kernel
theorem dX12_route_144 : decode cX12_route 144 = .ok (.aload_n 0, 1) := by decide +kernel
theorem dX12_route_145 : decode cX12_route 145 = .ok (.dup, 1) := by decide +kernel
theorem dX12_route_146 : decode cX12_route 146 = .ok (.getfield 426, 3) := by decide +kernel
theorem dX12_route_149 : decode cX12_route 149 = .ok (.iconst 1, 1) := by decide +kernel
theorem dX12_route_150 : decode cX12_route 150 = .ok (.iadd, 1) := by decide +kernel
theorem dX12_route_151 : decode cX12_route 151 = .ok (.putfield 426, 3) := by decide +kernel
theorem dX12_route_154 : decode cX12_route 154 = .ok (.iinc 5 (-1), 3) := by decide +kernel
theorem dX12_route_157 : decode cX12_route 157 = .ok (.aload_n 0, 1) := by decide +kernel
theorem dX12_route_158 : decode cX12_route 158 = .ok (.iload 6, 2) := by decide +kernel
theorem dX12_route_160 : decode cX12_route 160 = .ok (.iload 4, 2) := by decide +kernel
theorem dX12_route_162 : decode cX12_route 162 = .ok (.invokevirtual 583, 3) := by decide +kernel
theorem dX12_route_165 : decode cX12_route 165 = .ok (.istore 4, 2) := by decide +kernel
theorem dX12_route_167 : decode cX12_route 167 = .ok (.goto (-103), 3) := by decide +kernel
theorem dX12_route_170 : decode cX12_route 170 = .ok (.aload_n 0, 1) := by decide +kernel
theorem dX12_route_171 : decode cX12_route 171 = .ok (.getfield 426, 3) := by decide +kernel
theorem dX12_route_174 : decode cX12_route 174 = .ok (.ireturn, 1) := by decide +kernel
theorem dX12_sign_0 : decode cX12_sign 0 = .ok (.iload_n 1, 1) := by decide +kernel
theorem dX12_sign_1 : decode cX12_sign 1 = .ok (.aload_n 0, 1) := by decide +kernel
theorem dX12_sign_2 : decode cX12_sign 2 = .ok (.getfield 161, 3) := by decide +kernel
theorem dX12_sign_5 : decode cX12_sign 5 = .ok (.if_icmp .ge 16, 3) := by decide +kernel
theorem dX12_sign_8 : decode cX12_sign 8 = .ok (.aload_n 0, 1) := by decide +kernel
theorem dX12_sign_9 : decode cX12_sign 9 = .ok (.getfield 13, 3) := by decide +kernel
theorem dX12_sign_12 : decode cX12_sign 12 = .ok (.iload_n 1, 1) := by decide +kernel
theorem dX12_sign_13 : decode cX12_sign 13 = .ok (.baload, 1) := by decide +kernel
theorem dX12_sign_14 : decode cX12_sign 14 = .ok (.sipush 255, 3) := by decide +kernel
theorem dX12_sign_17 : decode cX12_sign 17 = .ok (.iand, 1) := by decide +kernel
theorem dX12_sign_18 : decode cX12_sign 18 = .ok (.goto 4, 3) := by decide +kernel
theorem dX12_sign_21 : decode cX12_sign 21 = .ok (.iconst 0, 1) := by decide +kernel
theorem dX12_sign_22 : decode cX12_sign 22 = .ok (.ireturn, 1) := by decide +kernel
theorem dX12_span_0 : decode cX12_span 0 = .ok (.aload_n 0, 1) := by decide +kernel
theorem dX12_span_1 : decode cX12_span 1 = .ok (.iload_n 1, 1) := by decide +kernel
theorem dX12_span_2 : decode cX12_span 2 = .ok (.invokevirtual 462, 3) := by decide +kernel
theorem dX12_span_5 : decode cX12_span 5 = .ok (.ifCond .eq 11, 3) := by decide +kernel
theorem dX12_span_8 : decode cX12_span 8 = .ok (.aload_n 0, 1) := by decide +kernel
theorem dX12_span_9 : decode cX12_span 9 = .ok (.iload_n 2, 1) := by decide +kernel
theorem dX12_span_10 : decode cX12_span 10 = .ok (.invokevirtual 462, 3) := by decide +kernel
theorem dX12_span_13 : decode cX12_span 13 = .ok (.ifCond .ne 5, 3) := by decide +kernel
theorem dX12_span_16 : decode cX12_span 16 = .ok (.iconst (-1), 1) := by decide +kernel
theorem dX12_span_17 : decode cX12_span 17 = .ok (.ireturn, 1) := by decide +kernel
theorem dX12_span_18 : decode cX12_span 18 = .ok (.iconst 0, 1) := by decide +kernel
theorem dX12_span_19 : decode cX12_span 19 = .ok (.istore_n 3, 1) := by decide +kernel
theorem dX12_span_20 : decode cX12_span 20 = .ok (.iconst 0, 1) := by decide +kernel
theorem dX12_span_21 : decode cX12_span 21 = .ok (.istore 4, 2) := by decide +kernel
theorem dX12_span_23 : decode cX12_span 23 = .ok (.iload 4, 2) := by decide +kernel
theorem dX12_span_25 : decode cX12_span 25 = .ok (.aload_n 0, 1) := by decide +kernel
theorem dX12_span_26 : decode cX12_span 26 = .ok (.invokevirtual 414, 3) := by decide +kernel
theorem dX12_span_29 : decode cX12_span 29 = .ok (.if_icmp .ge 30, 3) := by decide +kernel
theorem dX12_span_32 : decode cX12_span 32 = .ok (.iload_n 3, 1) := by decide +kernel
theorem dX12_span_33 : decode cX12_span 33 = .ok (.aload_n 0, 1) := by decide +kernel
theorem dX12_span_34 : decode cX12_span 34 = .ok (.iload_n 1, 1) := by decide +kernel
theorem dX12_span_35 : decode cX12_span 35 = .ok (.iload 4, 2) := by decide +kernel
theorem dX12_span_37 : decode cX12_span 37 = .ok (.invokevirtual 444, 3) := by decide +kernel
theorem dX12_span_40 : decode cX12_span 40 = .ok (.aload_n 0, 1) := by decide +kernel
theorem dX12_span_41 : decode cX12_span 41 = .ok (.iload_n 2, 1) := by decide +kernel
theorem dX12_span_42 : decode cX12_span 42 = .ok (.iload 4, 2) := by decide +kernel
theorem dX12_span_44 : decode cX12_span 44 = .ok (.invokevirtual 444, 3) := by decide +kernel
theorem dX12_span_47 : decode cX12_span 47 = .ok (.isub, 1) := by decide +kernel
theorem dX12_span_48 : decode cX12_span 48 = .ok (.invokestatic 435, 3) := by decide +kernel
theorem dX12_span_51 : decode cX12_span 51 = .ok (.iadd, 1) := by decide +kernel
theorem dX12_span_52 : decode cX12_span 52 = .ok (.istore_n 3, 1) := by decide +kernel
theorem dX12_span_53 : decode cX12_span 53 = .ok (.iinc 4 1, 3) := by decide +kernel
theorem dX12_span_56 : decode cX12_span 56 = .ok (.goto (-33), 3) := by decide +kernel
theorem dX12_span_59 : decode cX12_span 59 = .ok (.iload_n 3, 1) := by decide +kernel
theorem dX12_span_60 : decode cX12_span 60 = .ok (.ireturn, 1) := by decide +kernel
theorem dX12_startAnew_0 : decode cX12_startAnew 0 = .ok (.iconst 0, 1) := by decide +kernel
theorem dX12_startAnew_1 : decode cX12_startAnew 1 = .ok (.istore_n 1, 1) := by decide +kernel
theorem dX12_startAnew_2 : decode cX12_startAnew 2 = .ok (.iload_n 1, 1) := by decide +kernel
theorem dX12_startAnew_3 : decode cX12_startAnew 3 = .ok (.bipush 91, 2) := by decide +kernel
theorem dX12_startAnew_5 : decode cX12_startAnew 5 = .ok (.if_icmp .ge 16, 3) := by decide +kernel
theorem dX12_startAnew_8 : decode cX12_startAnew 8 = .ok (.aload_n 0, 1) := by decide +kernel
theorem dX12_startAnew_9 : decode cX12_startAnew 9 = .ok (.getfield 118, 3) := by decide +kernel
theorem dX12_startAnew_12 : decode cX12_startAnew 12 = .ok (.iload_n 1, 1) := by decide +kernel
theorem dX12_startAnew_13 : decode cX12_startAnew 13 = .ok (.iconst 0, 1) := by decide +kernel
theorem dX12_startAnew_14 : decode cX12_startAnew 14 = .ok (.iastore, 1) := by decide +kernel
theorem dX12_startAnew_15 : decode cX12_startAnew 15 = .ok (.iinc 1 1, 3) := by decide +kernel
theorem dX12_startAnew_18 : decode cX12_startAnew 18 = .ok (.goto (-16), 3) := by decide +kernel
theorem dX12_startAnew_21 : decode cX12_startAnew 21 = .ok (.iconst 0, 1) := by decide +kernel
theorem dX12_startAnew_22 : decode cX12_startAnew 22 = .ok (.istore_n 1, 1) := by decide +kernel
theorem dX12_startAnew_23 : decode cX12_startAnew 23 = .ok (.iload_n 1, 1) := by decide +kernel
theorem dX12_startAnew_24 : decode cX12_startAnew 24 = .ok (.bipush 8, 2) := by decide +kernel
theorem dX12_startAnew_26 : decode cX12_startAnew 26 = .ok (.if_icmp .ge 44, 3) := by decide +kernel
theorem dX12_startAnew_29 : decode cX12_startAnew 29 = .ok (.aload_n 0, 1) := by decide +kernel
theorem dX12_startAnew_30 : decode cX12_startAnew 30 = .ok (.getfield 118, 3) := by decide +kernel
theorem dX12_startAnew_33 : decode cX12_startAnew 33 = .ok (.bipush 48, 2) := by decide +kernel
theorem dX12_startAnew_35 : decode cX12_startAnew 35 = .ok (.iload_n 1, 1) := by decide +kernel
theorem dX12_startAnew_36 : decode cX12_startAnew 36 = .ok (.iadd, 1) := by decide +kernel
theorem dX12_startAnew_37 : decode cX12_startAnew 37 = .ok (.iload_n 1, 1) := by decide +kernel
theorem dX12_startAnew_38 : decode cX12_startAnew 38 = .ok (.aload_n 0, 1) := by decide +kernel
theorem dX12_startAnew_39 : decode cX12_startAnew 39 = .ok (.invokevirtual 404, 3) := by decide +kernel
theorem dX12_startAnew_42 : decode cX12_startAnew 42 = .ok (.if_icmp .ge 20, 3) := by decide +kernel
theorem dX12_startAnew_45 : decode cX12_startAnew 45 = .ok (.aload_n 0, 1) := by decide +kernel
theorem dX12_startAnew_46 : decode cX12_startAnew 46 = .ok (.getfield 72, 3) := by decide +kernel
theorem dX12_startAnew_49 : decode cX12_startAnew 49 = .ok (.bipush 8, 2) := by decide +kernel
theorem dX12_startAnew_51 : decode cX12_startAnew 51 = .ok (.aload_n 0, 1) := by decide +kernel
theorem dX12_startAnew_52 : decode cX12_startAnew 52 = .ok (.getfield 274, 3) := by decide +kernel
theorem dX12_startAnew_55 : decode cX12_startAnew 55 = .ok (.imul, 1) := by decide +kernel
theorem dX12_startAnew_56 : decode cX12_startAnew 56 = .ok (.iload_n 1, 1) := by decide +kernel
theorem dX12_startAnew_57 : decode cX12_startAnew 57 = .ok (.iadd, 1) := by decide +kernel
theorem dX12_startAnew_58 : decode cX12_startAnew 58 = .ok (.iaload, 1) := by decide +kernel
theorem dX12_startAnew_59 : decode cX12_startAnew 59 = .ok (.goto 4, 3) := by decide +kernel
theorem dX12_startAnew_62 : decode cX12_startAnew 62 = .ok (.iconst (-1), 1) := by decide +kernel
theorem dX12_startAnew_63 : decode cX12_startAnew 63 = .ok (.iastore, 1) := by decide +kernel
theorem dX12_startAnew_64 : decode cX12_startAnew 64 = .ok (.iinc 1 1, 3) := by decide +kernel
theorem dX12_startAnew_67 : decode cX12_startAnew 67 = .ok (.goto (-44), 3) := by decide +kernel
theorem dX12_startAnew_70 : decode cX12_startAnew 70 = .ok (.iconst 0, 1) := by decide +kernel
theorem dX12_startAnew_71 : decode cX12_startAnew 71 = .ok (.istore_n 1, 1) := by decide +kernel
theorem dX12_startAnew_72 : decode cX12_startAnew 72 = .ok (.iload_n 1, 1) := by decide +kernel
theorem dX12_startAnew_73 : decode cX12_startAnew 73 = .ok (.aload_n 0, 1) := by decide +kernel
theorem dX12_startAnew_74 : decode cX12_startAnew 74 = .ok (.invokevirtual 404, 3) := by decide +kernel
theorem dX12_startAnew_77 : decode cX12_startAnew 77 = .ok (.iconst 5, 1) := by decide +kernel
theorem dX12_startAnew_78 : decode cX12_startAnew 78 = .ok (.imul, 1) := by decide +kernel
theorem dX12_startAnew_79 : decode cX12_startAnew 79 = .ok (.if_icmp .ge 31, 3) := by decide +kernel
theorem dX12_startAnew_82 : decode cX12_startAnew 82 = .ok (.aload_n 0, 1) := by decide +kernel
theorem dX12_startAnew_83 : decode cX12_startAnew 83 = .ok (.getfield 118, 3) := by decide +kernel
theorem dX12_startAnew_86 : decode cX12_startAnew 86 = .ok (.iconst 0, 1) := by decide +kernel
theorem dX12_startAnew_87 : decode cX12_startAnew 87 = .ok (.iload_n 1, 1) := by decide +kernel
theorem dX12_startAnew_88 : decode cX12_startAnew 88 = .ok (.iadd, 1) := by decide +kernel
theorem dX12_startAnew_89 : decode cX12_startAnew 89 = .ok (.aload_n 0, 1) := by decide +kernel
theorem dX12_startAnew_90 : decode cX12_startAnew 90 = .ok (.getfield 54, 3) := by decide +kernel
theorem dX12_startAnew_93 : decode cX12_startAnew 93 = .ok (.bipush 40, 2) := by decide +kernel
theorem dX12_startAnew_95 : decode cX12_startAnew 95 = .ok (.aload_n 0, 1) := by decide +kernel
theorem dX12_startAnew_96 : decode cX12_startAnew 96 = .ok (.getfield 274, 3) := by decide +kernel
theorem dX12_startAnew_99 : decode cX12_startAnew 99 = .ok (.imul, 1) := by decide +kernel
theorem dX12_startAnew_100 : decode cX12_startAnew 100 = .ok (.iload_n 1, 1) := by decide +kernel
theorem dX12_startAnew_101 : decode cX12_startAnew 101 = .ok (.iadd, 1) := by decide +kernel
theorem dX12_startAnew_102 : decode cX12_startAnew 102 = .ok (.iaload, 1) := by decide +kernel
theorem dX12_startAnew_103 : decode cX12_startAnew 103 = .ok (.iastore, 1) := by decide +kernel
theorem dX12_startAnew_104 : decode cX12_startAnew 104 = .ok (.iinc 1 1, 3) := by decide +kernel
theorem dX12_startAnew_107 : decode cX12_startAnew 107 = .ok (.goto (-35), 3) := by decide +kernel
theorem dX12_startAnew_110 : decode cX12_startAnew 110 = .ok (.iconst 0, 1) := by decide +kernel
theorem dX12_startAnew_111 : decode cX12_startAnew 111 = .ok (.istore_n 1, 1) := by decide +kernel
theorem dX12_startAnew_112 : decode cX12_startAnew 112 = .ok (.iload_n 1, 1) := by decide +kernel
theorem dX12_startAnew_113 : decode cX12_startAnew 113 = .ok (.aload_n 0, 1) := by decide +kernel
theorem dX12_startAnew_114 : decode cX12_startAnew 114 = .ok (.invokevirtual 411, 3) := by decide +kernel
theorem dX12_startAnew_117 : decode cX12_startAnew 117 = .ok (.iconst 5, 1) := by decide +kernel
theorem dX12_startAnew_118 : decode cX12_startAnew 118 = .ok (.imul, 1) := by decide +kernel
theorem dX12_startAnew_119 : decode cX12_startAnew 119 = .ok (.if_icmp .ge 32, 3) := by decide +kernel
theorem dX12_startAnew_122 : decode cX12_startAnew 122 = .ok (.aload_n 0, 1) := by decide +kernel
theorem dX12_startAnew_123 : decode cX12_startAnew 123 = .ok (.getfield 118, 3) := by decide +kernel
theorem dX12_startAnew_126 : decode cX12_startAnew 126 = .ok (.bipush 56, 2) := by decide +kernel
theorem dX12_startAnew_128 : decode cX12_startAnew 128 = .ok (.iload_n 1, 1) := by decide +kernel
theorem dX12_startAnew_129 : decode cX12_startAnew 129 = .ok (.iadd, 1) := by decide +kernel
theorem dX12_startAnew_130 : decode cX12_startAnew 130 = .ok (.aload_n 0, 1) := by decide +kernel
theorem dX12_startAnew_131 : decode cX12_startAnew 131 = .ok (.getfield 57, 3) := by decide +kernel
theorem dX12_startAnew_134 : decode cX12_startAnew 134 = .ok (.bipush 30, 2) := by decide +kernel
theorem dX12_startAnew_136 : decode cX12_startAnew 136 = .ok (.aload_n 0, 1) := by decide +kernel
theorem dX12_startAnew_137 : decode cX12_startAnew 137 = .ok (.getfield 274, 3) := by decide +kernel
theorem dX12_startAnew_140 : decode cX12_startAnew 140 = .ok (.imul, 1) := by decide +kernel
theorem dX12_startAnew_141 : decode cX12_startAnew 141 = .ok (.iload_n 1, 1) := by decide +kernel
theorem dX12_startAnew_142 : decode cX12_startAnew 142 = .ok (.iadd, 1) := by decide +kernel
theorem dX12_startAnew_143 : decode cX12_startAnew 143 = .ok (.iaload, 1) := by decide +kernel
theorem dX12_startAnew_144 : decode cX12_startAnew 144 = .ok (.iastore, 1) := by decide +kernel
theorem dX12_startAnew_145 : decode cX12_startAnew 145 = .ok (.iinc 1 1, 3) := by decide +kernel
theorem dX12_startAnew_148 : decode cX12_startAnew 148 = .ok (.goto (-36), 3) := by decide +kernel
theorem dX12_startAnew_151 : decode cX12_startAnew 151 = .ok (.iconst 0, 1) := by decide +kernel
theorem dX12_startAnew_152 : decode cX12_startAnew 152 = .ok (.istore_n 1, 1) := by decide +kernel
theorem dX12_startAnew_153 : decode cX12_startAnew 153 = .ok (.iload_n 1, 1) := by decide +kernel
theorem dX12_startAnew_154 : decode cX12_startAnew 154 = .ok (.aload_n 0, 1) := by decide +kernel
theorem dX12_startAnew_155 : decode cX12_startAnew 155 = .ok (.getfield 42, 3) := by decide +kernel
theorem dX12_startAnew_158 : decode cX12_startAnew 158 = .ok (.aload_n 0, 1) := by decide +kernel
theorem dX12_startAnew_159 : decode cX12_startAnew 159 = .ok (.getfield 274, 3) := by decide +kernel
theorem dX12_startAnew_162 : decode cX12_startAnew 162 = .ok (.iaload, 1) := by decide +kernel
theorem dX12_startAnew_163 : decode cX12_startAnew 163 = .ok (.if_icmp .ge 31, 3) := by decide +kernel
theorem dX12_startAnew_166 : decode cX12_startAnew 166 = .ok (.aload_n 0, 1) := by decide +kernel
theorem dX12_startAnew_167 : decode cX12_startAnew 167 = .ok (.getfield 118, 3) := by decide +kernel
theorem dX12_startAnew_170 : decode cX12_startAnew 170 = .ok (.bipush 86, 2) := by decide +kernel
theorem dX12_startAnew_172 : decode cX12_startAnew 172 = .ok (.iload_n 1, 1) := by decide +kernel
theorem dX12_startAnew_173 : decode cX12_startAnew 173 = .ok (.iadd, 1) := by decide +kernel
theorem dX12_startAnew_174 : decode cX12_startAnew 174 = .ok (.aload_n 0, 1) := by decide +kernel
theorem dX12_startAnew_175 : decode cX12_startAnew 175 = .ok (.getfield 69, 3) := by decide +kernel
theorem dX12_startAnew_178 : decode cX12_startAnew 178 = .ok (.iconst 4, 1) := by decide +kernel
theorem dX12_startAnew_179 : decode cX12_startAnew 179 = .ok (.aload_n 0, 1) := by decide +kernel
theorem dX12_startAnew_180 : decode cX12_startAnew 180 = .ok (.getfield 274, 3) := by decide +kernel
theorem dX12_startAnew_183 : decode cX12_startAnew 183 = .ok (.imul, 1) := by decide +kernel
theorem dX12_startAnew_184 : decode cX12_startAnew 184 = .ok (.iload_n 1, 1) := by decide +kernel
theorem dX12_startAnew_185 : decode cX12_startAnew 185 = .ok (.iadd, 1) := by decide +kernel
theorem dX12_startAnew_186 : decode cX12_startAnew 186 = .ok (.iaload, 1) := by decide +kernel
theorem dX12_startAnew_187 : decode cX12_startAnew 187 = .ok (.iastore, 1) := by decide +kernel
theorem dX12_startAnew_188 : decode cX12_startAnew 188 = .ok (.iinc 1 1, 3) := by decide +kernel
theorem dX12_startAnew_191 : decode cX12_startAnew 191 = .ok (.goto (-38), 3) := by decide +kernel
theorem dX12_startAnew_194 : decode cX12_startAnew 194 = .ok (.aload_n 0, 1) := by decide +kernel
theorem dX12_startAnew_195 : decode cX12_startAnew 195 = .ok (.getfield 118, 3) := by decide +kernel
theorem dX12_startAnew_198 : decode cX12_startAnew 198 = .ok (.bipush 90, 2) := by decide +kernel
theorem dX12_startAnew_200 : decode cX12_startAnew 200 = .ok (.aload_n 0, 1) := by decide +kernel
theorem dX12_startAnew_201 : decode cX12_startAnew 201 = .ok (.getfield 48, 3) := by decide +kernel
theorem dX12_startAnew_204 : decode cX12_startAnew 204 = .ok (.aload_n 0, 1) := by decide +kernel
theorem dX12_startAnew_205 : decode cX12_startAnew 205 = .ok (.getfield 274, 3) := by decide +kernel
theorem dX12_startAnew_208 : decode cX12_startAnew 208 = .ok (.iaload, 1) := by decide +kernel
theorem dX12_startAnew_209 : decode cX12_startAnew 209 = .ok (.iastore, 1) := by decide +kernel
theorem dX12_startAnew_210 : decode cX12_startAnew 210 = .ok (.aload_n 0, 1) := by decide +kernel
theorem dX12_startAnew_211 : decode cX12_startAnew 211 = .ok (.iconst 0, 1) := by decide +kernel
theorem dX12_startAnew_212 : decode cX12_startAnew 212 = .ok (.putfield 417, 3) := by decide +kernel
theorem dX12_startAnew_215 : decode cX12_startAnew 215 = .ok (.aload_n 0, 1) := by decide +kernel
theorem dX12_startAnew_216 : decode cX12_startAnew 216 = .ok (.iconst 0, 1) := by decide +kernel
theorem dX12_startAnew_217 : decode cX12_startAnew 217 = .ok (.putfield 420, 3) := by decide +kernel
theorem dX12_startAnew_220 : decode cX12_startAnew 220 = .ok (.aload_n 0, 1) := by decide +kernel
theorem dX12_startAnew_221 : decode cX12_startAnew 221 = .ok (.iconst 0, 1) := by decide +kernel
theorem dX12_startAnew_222 : decode cX12_startAnew 222 = .ok (.putfield 423, 3) := by decide +kernel
theorem dX12_startAnew_225 : decode cX12_startAnew 225 = .ok (.aload_n 0, 1) := by decide +kernel
theorem dX12_startAnew_226 : decode cX12_startAnew 226 = .ok (.iconst 0, 1) := by decide +kernel
theorem dX12_startAnew_227 : decode cX12_startAnew 227 = .ok (.putfield 426, 3) := by decide +kernel
theorem dX12_startAnew_230 : decode cX12_startAnew 230 = .ok (.iconst 0, 1) := by decide +kernel
theorem dX12_startAnew_231 : decode cX12_startAnew 231 = .ok (.istore_n 1, 1) := by decide +kernel
theorem dX12_startAnew_232 : decode cX12_startAnew 232 = .ok (.iload_n 1, 1) := by decide +kernel
theorem dX12_startAnew_233 : decode cX12_startAnew 233 = .ok (.iconst 3, 1) := by decide +kernel
theorem dX12_startAnew_234 : decode cX12_startAnew 234 = .ok (.if_icmp .ge 16, 3) := by decide +kernel
theorem dX12_startAnew_237 : decode cX12_startAnew 237 = .ok (.aload_n 0, 1) := by decide +kernel
theorem dX12_startAnew_238 : decode cX12_startAnew 238 = .ok (.getfield 151, 3) := by decide +kernel
theorem dX12_startAnew_241 : decode cX12_startAnew 241 = .ok (.iload_n 1, 1) := by decide +kernel
theorem dX12_startAnew_242 : decode cX12_startAnew 242 = .ok (.iconst 0, 1) := by decide +kernel
theorem dX12_startAnew_243 : decode cX12_startAnew 243 = .ok (.bastore, 1) := by decide +kernel
theorem dX12_startAnew_244 : decode cX12_startAnew 244 = .ok (.iinc 1 1, 3) := by decide +kernel
theorem dX12_startAnew_247 : decode cX12_startAnew 247 = .ok (.goto (-15), 3) := by decide +kernel
theorem dX12_startAnew_250 : decode cX12_startAnew 250 = .ok (.return_, 1) := by decide +kernel
theorem dX12_strays_0 : decode cX12_strays 0 = .ok (.iload_n 1, 1) := by decide +kernel
theorem dX12_strays_1 : decode cX12_strays 1 = .ok (.iconst 0, 1) := by decide +kernel
theorem dX12_strays_2 : decode cX12_strays 2 = .ok (.iconst 2, 1) := by decide +kernel
theorem dX12_strays_3 : decode cX12_strays 3 = .ok (.invokestatic 407, 3) := by decide +kernel
theorem dX12_strays_6 : decode cX12_strays 6 = .ok (.ifCond .ne 5, 3) := by decide +kernel
theorem dX12_strays_9 : decode cX12_strays 9 = .ok (.iconst (-1), 1) := by decide +kernel
theorem dX12_strays_10 : decode cX12_strays 10 = .ok (.ireturn, 1) := by decide +kernel
theorem dX12_strays_11 : decode cX12_strays 11 = .ok (.aload_n 0, 1) := by decide +kernel
theorem dX12_strays_12 : decode cX12_strays 12 = .ok (.invokevirtual 553, 3) := by decide +kernel
theorem dX12_strays_15 : decode cX12_strays 15 = .ok (.aload_n 0, 1) := by decide +kernel
theorem dX12_strays_16 : decode cX12_strays 16 = .ok (.invokevirtual 556, 3) := by decide +kernel
theorem dX12_strays_19 : decode cX12_strays 19 = .ok (.aload_n 0, 1) := by decide +kernel
theorem dX12_strays_20 : decode cX12_strays 20 = .ok (.iload_n 1, 1) := by decide +kernel
theorem dX12_strays_21 : decode cX12_strays 21 = .ok (.invokevirtual 559, 3) := by decide +kernel
theorem dX12_strays_24 : decode cX12_strays 24 = .ok (.istore_n 2, 1) := by decide +kernel
theorem dX12_strays_25 : decode cX12_strays 25 = .ok (.aload_n 0, 1) := by decide +kernel
theorem dX12_strays_26 : decode cX12_strays 26 = .ok (.invokevirtual 562, 3) := by decide +kernel
theorem dX12_strays_29 : decode cX12_strays 29 = .ok (.iload_n 2, 1) := by decide +kernel
theorem dX12_strays_30 : decode cX12_strays 30 = .ok (.ireturn, 1) := by decide +kernel
theorem dX12_straysBy_0 : decode cX12_straysBy 0 = .ok (.iconst 0, 1) := by decide +kernel
theorem dX12_straysBy_1 : decode cX12_straysBy 1 = .ok (.istore_n 2, 1) := by decide +kernel
theorem dX12_straysBy_2 : decode cX12_straysBy 2 = .ok (.iconst (-1), 1) := by decide +kernel
theorem dX12_straysBy_3 : decode cX12_straysBy 3 = .ok (.istore_n 3, 1) := by decide +kernel
theorem dX12_straysBy_4 : decode cX12_straysBy 4 = .ok (.iconst (-1), 1) := by decide +kernel
theorem dX12_straysBy_5 : decode cX12_straysBy 5 = .ok (.istore 4, 2) := by decide +kernel
theorem dX12_straysBy_7 : decode cX12_straysBy 7 = .ok (.iconst 0, 1) := by decide +kernel
theorem dX12_straysBy_8 : decode cX12_straysBy 8 = .ok (.istore 5, 2) := by decide +kernel
theorem dX12_straysBy_10 : decode cX12_straysBy 10 = .ok (.iload 5, 2) := by decide +kernel
theorem dX12_straysBy_12 : decode cX12_straysBy 12 = .ok (.aload_n 0, 1) := by decide +kernel
theorem dX12_straysBy_13 : decode cX12_straysBy 13 = .ok (.invokevirtual 404, 3) := by decide +kernel
theorem dX12_straysBy_16 : decode cX12_straysBy 16 = .ok (.if_icmp .ge 69, 3) := by decide +kernel
theorem dX12_straysBy_19 : decode cX12_straysBy 19 = .ok (.iconst 0, 1) := by decide +kernel
theorem dX12_straysBy_20 : decode cX12_straysBy 20 = .ok (.istore 6, 2) := by decide +kernel
theorem dX12_straysBy_22 : decode cX12_straysBy 22 = .ok (.iload 6, 2) := by decide +kernel
theorem dX12_straysBy_24 : decode cX12_straysBy 24 = .ok (.aload_n 0, 1) := by decide +kernel
theorem dX12_straysBy_25 : decode cX12_straysBy 25 = .ok (.invokevirtual 411, 3) := by decide +kernel
theorem dX12_straysBy_28 : decode cX12_straysBy 28 = .ok (.if_icmp .ge 51, 3) := by decide +kernel
theorem dX12_straysBy_31 : decode cX12_straysBy 31 = .ok (.aload_n 0, 1) := by decide +kernel
theorem dX12_straysBy_32 : decode cX12_straysBy 32 = .ok (.iload 6, 2) := by decide +kernel
theorem dX12_straysBy_34 : decode cX12_straysBy 34 = .ok (.invokevirtual 489, 3) := by decide +kernel
theorem dX12_straysBy_37 : decode cX12_straysBy 37 = .ok (.iload 5, 2) := by decide +kernel
theorem dX12_straysBy_39 : decode cX12_straysBy 39 = .ok (.invokestatic 261, 3) := by decide +kernel
theorem dX12_straysBy_42 : decode cX12_straysBy 42 = .ok (.ifCond .eq 31, 3) := by decide +kernel
theorem dX12_straysBy_45 : decode cX12_straysBy 45 = .ok (.aload_n 0, 1) := by decide +kernel
theorem dX12_straysBy_46 : decode cX12_straysBy 46 = .ok (.iload 5, 2) := by decide +kernel
theorem dX12_straysBy_48 : decode cX12_straysBy 48 = .ok (.iload 6, 2) := by decide +kernel
theorem dX12_straysBy_50 : decode cX12_straysBy 50 = .ok (.invokevirtual 474, 3) := by decide +kernel
theorem dX12_straysBy_53 : decode cX12_straysBy 53 = .ok (.ifCond .ne 6, 3) := by decide +kernel
theorem dX12_straysBy_56 : decode cX12_straysBy 56 = .ok (.goto 17, 3) := by decide +kernel
theorem dX12_straysBy_59 : decode cX12_straysBy 59 = .ok (.iload_n 2, 1) := by decide +kernel
theorem dX12_straysBy_60 : decode cX12_straysBy 60 = .ok (.ifCond .ne 10, 3) := by decide +kernel
theorem dX12_straysBy_63 : decode cX12_straysBy 63 = .ok (.iload 5, 2) := by decide +kernel
theorem dX12_straysBy_65 : decode cX12_straysBy 65 = .ok (.istore_n 3, 1) := by decide +kernel
theorem dX12_straysBy_66 : decode cX12_straysBy 66 = .ok (.iload 6, 2) := by decide +kernel
theorem dX12_straysBy_68 : decode cX12_straysBy 68 = .ok (.istore 4, 2) := by decide +kernel
theorem dX12_straysBy_70 : decode cX12_straysBy 70 = .ok (.iinc 2 1, 3) := by decide +kernel
theorem dX12_straysBy_73 : decode cX12_straysBy 73 = .ok (.iinc 6 1, 3) := by decide +kernel
theorem dX12_straysBy_76 : decode cX12_straysBy 76 = .ok (.goto (-54), 3) := by decide +kernel
theorem dX12_straysBy_79 : decode cX12_straysBy 79 = .ok (.iinc 5 1, 3) := by decide +kernel
theorem dX12_straysBy_82 : decode cX12_straysBy 82 = .ok (.goto (-72), 3) := by decide +kernel
theorem dX12_straysBy_85 : decode cX12_straysBy 85 = .ok (.iload_n 1, 1) := by decide +kernel
theorem dX12_straysBy_86 : decode cX12_straysBy 86 = .ok (.ifCond .ne 7, 3) := by decide +kernel
theorem dX12_straysBy_89 : decode cX12_straysBy 89 = .ok (.iload_n 2, 1) := by decide +kernel
theorem dX12_straysBy_90 : decode cX12_straysBy 90 = .ok (.goto 14, 3) := by decide +kernel
theorem dX12_straysBy_93 : decode cX12_straysBy 93 = .ok (.iload_n 1, 1) := by decide +kernel
theorem dX12_straysBy_94 : decode cX12_straysBy 94 = .ok (.iconst 1, 1) := by decide +kernel
theorem dX12_straysBy_95 : decode cX12_straysBy 95 = .ok (.if_icmp .ne 7, 3) := by decide +kernel
theorem dX12_straysBy_98 : decode cX12_straysBy 98 = .ok (.iload_n 3, 1) := by decide +kernel
theorem dX12_straysBy_99 : decode cX12_straysBy 99 = .ok (.goto 5, 3) := by decide +kernel
theorem dX12_straysBy_102 : decode cX12_straysBy 102 = .ok (.iload 4, 2) := by decide +kernel
theorem dX12_straysBy_104 : decode cX12_straysBy 104 = .ok (.ireturn, 1) := by decide +kernel
theorem dX12_stuck_0 : decode cX12_stuck 0 = .ok (.iconst 1, 1) := by decide +kernel
theorem dX12_stuck_1 : decode cX12_stuck 1 = .ok (.aload_n 0, 1) := by decide +kernel
theorem dX12_stuck_2 : decode cX12_stuck 2 = .ok (.invokevirtual 411, 3) := by decide +kernel
theorem dX12_stuck_5 : decode cX12_stuck 5 = .ok (.ishl, 1) := by decide +kernel
theorem dX12_stuck_6 : decode cX12_stuck 6 = .ok (.iconst 1, 1) := by decide +kernel
theorem dX12_stuck_7 : decode cX12_stuck 7 = .ok (.isub, 1) := by decide +kernel
theorem dX12_stuck_8 : decode cX12_stuck 8 = .ok (.istore_n 1, 1) := by decide +kernel
theorem dX12_stuck_9 : decode cX12_stuck 9 = .ok (.iconst 0, 1) := by decide +kernel
theorem dX12_stuck_10 : decode cX12_stuck 10 = .ok (.istore_n 2, 1) := by decide +kernel
theorem dX12_stuck_11 : decode cX12_stuck 11 = .ok (.iload_n 2, 1) := by decide +kernel
theorem dX12_stuck_12 : decode cX12_stuck 12 = .ok (.aload_n 0, 1) := by decide +kernel
theorem dX12_stuck_13 : decode cX12_stuck 13 = .ok (.invokevirtual 404, 3) := by decide +kernel
theorem dX12_stuck_16 : decode cX12_stuck 16 = .ok (.if_icmp .ge 33, 3) := by decide +kernel
theorem dX12_stuck_19 : decode cX12_stuck 19 = .ok (.aload_n 0, 1) := by decide +kernel
theorem dX12_stuck_20 : decode cX12_stuck 20 = .ok (.iload_n 2, 1) := by decide +kernel
theorem dX12_stuck_21 : decode cX12_stuck 21 = .ok (.invokevirtual 465, 3) := by decide +kernel
theorem dX12_stuck_24 : decode cX12_stuck 24 = .ok (.bipush (-2), 2) := by decide +kernel
theorem dX12_stuck_26 : decode cX12_stuck 26 = .ok (.if_icmp .eq 17, 3) := by decide +kernel
theorem dX12_stuck_29 : decode cX12_stuck 29 = .ok (.iload_n 1, 1) := by decide +kernel
theorem dX12_stuck_30 : decode cX12_stuck 30 = .ok (.aload_n 0, 1) := by decide +kernel
theorem dX12_stuck_31 : decode cX12_stuck 31 = .ok (.aload_n 0, 1) := by decide +kernel
theorem dX12_stuck_32 : decode cX12_stuck 32 = .ok (.iload_n 2, 1) := by decide +kernel
theorem dX12_stuck_33 : decode cX12_stuck 33 = .ok (.invokevirtual 450, 3) := by decide +kernel
theorem dX12_stuck_36 : decode cX12_stuck 36 = .ok (.invokevirtual 459, 3) := by decide +kernel
theorem dX12_stuck_39 : decode cX12_stuck 39 = .ok (.iconst (-1), 1) := by decide +kernel
theorem dX12_stuck_40 : decode cX12_stuck 40 = .ok (.ixor, 1) := by decide +kernel
theorem dX12_stuck_41 : decode cX12_stuck 41 = .ok (.iand, 1) := by decide +kernel
theorem dX12_stuck_42 : decode cX12_stuck 42 = .ok (.istore_n 1, 1) := by decide +kernel
theorem dX12_stuck_43 : decode cX12_stuck 43 = .ok (.iinc 2 1, 3) := by decide +kernel
theorem dX12_stuck_46 : decode cX12_stuck 46 = .ok (.goto (-35), 3) := by decide +kernel
theorem dX12_stuck_49 : decode cX12_stuck 49 = .ok (.iload_n 1, 1) := by decide +kernel
theorem dX12_stuck_50 : decode cX12_stuck 50 = .ok (.ireturn, 1) := by decide +kernel
theorem dX12_sure_0 : decode cX12_sure 0 = .ok (.aload_n 0, 1) := by decide +kernel
theorem dX12_sure_1 : decode cX12_sure 1 = .ok (.iload_n 1, 1) := by decide +kernel
theorem dX12_sure_2 : decode cX12_sure 2 = .ok (.invokevirtual 468, 3) := by decide +kernel
theorem dX12_sure_5 : decode cX12_sure 5 = .ok (.ifCond .ne 5, 3) := by decide +kernel
theorem dX12_sure_8 : decode cX12_sure 8 = .ok (.iconst (-1), 1) := by decide +kernel
theorem dX12_sure_9 : decode cX12_sure 9 = .ok (.ireturn, 1) := by decide +kernel
theorem dX12_sure_10 : decode cX12_sure 10 = .ok (.iconst (-1), 1) := by decide +kernel
theorem dX12_sure_11 : decode cX12_sure 11 = .ok (.istore_n 3, 1) := by decide +kernel
theorem dX12_sure_12 : decode cX12_sure 12 = .ok (.iconst 0, 1) := by decide +kernel
theorem dX12_sure_13 : decode cX12_sure 13 = .ok (.istore 4, 2) := by decide +kernel
theorem dX12_sure_15 : decode cX12_sure 15 = .ok (.iload 4, 2) := by decide +kernel
theorem dX12_sure_17 : decode cX12_sure 17 = .ok (.aload_n 0, 1) := by decide +kernel
theorem dX12_sure_18 : decode cX12_sure 18 = .ok (.invokevirtual 438, 3) := by decide +kernel
theorem dX12_sure_21 : decode cX12_sure 21 = .ok (.if_icmp .ge 48, 3) := by decide +kernel
theorem dX12_sure_24 : decode cX12_sure 24 = .ok (.aload_n 0, 1) := by decide +kernel
theorem dX12_sure_25 : decode cX12_sure 25 = .ok (.iload 4, 2) := by decide +kernel
theorem dX12_sure_27 : decode cX12_sure 27 = .ok (.iload_n 2, 1) := by decide +kernel
theorem dX12_sure_28 : decode cX12_sure 28 = .ok (.invokevirtual 615, 3) := by decide +kernel
theorem dX12_sure_31 : decode cX12_sure 31 = .ok (.ifCond .ne 6, 3) := by decide +kernel
theorem dX12_sure_34 : decode cX12_sure 34 = .ok (.goto 29, 3) := by decide +kernel
theorem dX12_sure_37 : decode cX12_sure 37 = .ok (.iload_n 3, 1) := by decide +kernel
theorem dX12_sure_38 : decode cX12_sure 38 = .ok (.ifCond .lt 17, 3) := by decide +kernel
theorem dX12_sure_41 : decode cX12_sure 41 = .ok (.aload_n 0, 1) := by decide +kernel
theorem dX12_sure_42 : decode cX12_sure 42 = .ok (.iload 4, 2) := by decide +kernel
theorem dX12_sure_44 : decode cX12_sure 44 = .ok (.iload_n 1, 1) := by decide +kernel
theorem dX12_sure_45 : decode cX12_sure 45 = .ok (.invokevirtual 525, 3) := by decide +kernel
theorem dX12_sure_48 : decode cX12_sure 48 = .ok (.iload_n 3, 1) := by decide +kernel
theorem dX12_sure_49 : decode cX12_sure 49 = .ok (.if_icmp .eq 6, 3) := by decide +kernel
theorem dX12_sure_52 : decode cX12_sure 52 = .ok (.bipush (-2), 2) := by decide +kernel
theorem dX12_sure_54 : decode cX12_sure 54 = .ok (.ireturn, 1) := by decide +kernel
theorem dX12_sure_55 : decode cX12_sure 55 = .ok (.aload_n 0, 1) := by decide +kernel
theorem dX12_sure_56 : decode cX12_sure 56 = .ok (.iload 4, 2) := by decide +kernel
theorem dX12_sure_58 : decode cX12_sure 58 = .ok (.iload_n 1, 1) := by decide +kernel
theorem dX12_sure_59 : decode cX12_sure 59 = .ok (.invokevirtual 525, 3) := by decide +kernel
theorem dX12_sure_62 : decode cX12_sure 62 = .ok (.istore_n 3, 1) := by decide +kernel
theorem dX12_sure_63 : decode cX12_sure 63 = .ok (.iinc 4 1, 3) := by decide +kernel
theorem dX12_sure_66 : decode cX12_sure 66 = .ok (.goto (-51), 3) := by decide +kernel
theorem dX12_sure_69 : decode cX12_sure 69 = .ok (.iload_n 3, 1) := by decide +kernel
theorem dX12_sure_70 : decode cX12_sure 70 = .ok (.ireturn, 1) := by decide +kernel
theorem dX12_swapAll_0 : decode cX12_swapAll 0 = .ok (.iconst 0, 1) := by decide +kernel
theorem dX12_swapAll_1 : decode cX12_swapAll 1 = .ok (.istore_n 1, 1) := by decide +kernel
theorem dX12_swapAll_2 : decode cX12_swapAll 2 = .ok (.iload_n 1, 1) := by decide +kernel
theorem dX12_swapAll_3 : decode cX12_swapAll 3 = .ok (.bipush 91, 2) := by decide +kernel
theorem dX12_swapAll_5 : decode cX12_swapAll 5 = .ok (.if_icmp .ge 51, 3) := by decide +kernel
theorem dX12_swapAll_8 : decode cX12_swapAll 8 = .ok (.aload_n 0, 1) := by decide +kernel
theorem dX12_swapAll_9 : decode cX12_swapAll 9 = .ok (.getfield 133, 3) := by decide +kernel
theorem dX12_swapAll_12 : decode cX12_swapAll 12 = .ok (.bipush 91, 2) := by decide +kernel
theorem dX12_swapAll_14 : decode cX12_swapAll 14 = .ok (.aload_n 0, 1) := by decide +kernel
theorem dX12_swapAll_15 : decode cX12_swapAll 15 = .ok (.getfield 417, 3) := by decide +kernel
theorem dX12_swapAll_18 : decode cX12_swapAll 18 = .ok (.imul, 1) := by decide +kernel
theorem dX12_swapAll_19 : decode cX12_swapAll 19 = .ok (.iload_n 1, 1) := by decide +kernel
theorem dX12_swapAll_20 : decode cX12_swapAll 20 = .ok (.iadd, 1) := by decide +kernel
theorem dX12_swapAll_21 : decode cX12_swapAll 21 = .ok (.iaload, 1) := by decide +kernel
theorem dX12_swapAll_22 : decode cX12_swapAll 22 = .ok (.istore_n 2, 1) := by decide +kernel
theorem dX12_swapAll_23 : decode cX12_swapAll 23 = .ok (.aload_n 0, 1) := by decide +kernel
theorem dX12_swapAll_24 : decode cX12_swapAll 24 = .ok (.getfield 133, 3) := by decide +kernel
theorem dX12_swapAll_27 : decode cX12_swapAll 27 = .ok (.bipush 91, 2) := by decide +kernel
theorem dX12_swapAll_29 : decode cX12_swapAll 29 = .ok (.aload_n 0, 1) := by decide +kernel
theorem dX12_swapAll_30 : decode cX12_swapAll 30 = .ok (.getfield 417, 3) := by decide +kernel
theorem dX12_swapAll_33 : decode cX12_swapAll 33 = .ok (.imul, 1) := by decide +kernel
theorem dX12_swapAll_34 : decode cX12_swapAll 34 = .ok (.iload_n 1, 1) := by decide +kernel
theorem dX12_swapAll_35 : decode cX12_swapAll 35 = .ok (.iadd, 1) := by decide +kernel
theorem dX12_swapAll_36 : decode cX12_swapAll 36 = .ok (.aload_n 0, 1) := by decide +kernel
theorem dX12_swapAll_37 : decode cX12_swapAll 37 = .ok (.getfield 118, 3) := by decide +kernel
theorem dX12_swapAll_40 : decode cX12_swapAll 40 = .ok (.iload_n 1, 1) := by decide +kernel
theorem dX12_swapAll_41 : decode cX12_swapAll 41 = .ok (.iaload, 1) := by decide +kernel
theorem dX12_swapAll_42 : decode cX12_swapAll 42 = .ok (.iastore, 1) := by decide +kernel
theorem dX12_swapAll_43 : decode cX12_swapAll 43 = .ok (.aload_n 0, 1) := by decide +kernel
theorem dX12_swapAll_44 : decode cX12_swapAll 44 = .ok (.getfield 118, 3) := by decide +kernel
theorem dX12_swapAll_47 : decode cX12_swapAll 47 = .ok (.iload_n 1, 1) := by decide +kernel
theorem dX12_swapAll_48 : decode cX12_swapAll 48 = .ok (.iload_n 2, 1) := by decide +kernel
theorem dX12_swapAll_49 : decode cX12_swapAll 49 = .ok (.iastore, 1) := by decide +kernel
theorem dX12_swapAll_50 : decode cX12_swapAll 50 = .ok (.iinc 1 1, 3) := by decide +kernel
theorem dX12_swapAll_53 : decode cX12_swapAll 53 = .ok (.goto (-51), 3) := by decide +kernel
theorem dX12_swapAll_56 : decode cX12_swapAll 56 = .ok (.return_, 1) := by decide +kernel
theorem dX12_together_0 : decode cX12_together 0 = .ok (.aload_n 0, 1) := by decide +kernel
theorem dX12_together_1 : decode cX12_together 1 = .ok (.iload_n 1, 1) := by decide +kernel
theorem dX12_together_2 : decode cX12_together 2 = .ok (.invokevirtual 495, 3) := by decide +kernel
theorem dX12_together_5 : decode cX12_together 5 = .ok (.ifCond .ne 5, 3) := by decide +kernel
theorem dX12_together_8 : decode cX12_together 8 = .ok (.iconst (-1), 1) := by decide +kernel
theorem dX12_together_9 : decode cX12_together 9 = .ok (.ireturn, 1) := by decide +kernel
theorem dX12_together_10 : decode cX12_together 10 = .ok (.iconst 0, 1) := by decide +kernel
theorem dX12_together_11 : decode cX12_together 11 = .ok (.istore_n 2, 1) := by decide +kernel
theorem dX12_together_12 : decode cX12_together 12 = .ok (.iload_n 2, 1) := by decide +kernel
theorem dX12_together_13 : decode cX12_together 13 = .ok (.aload_n 0, 1) := by decide +kernel
theorem dX12_together_14 : decode cX12_together 14 = .ok (.getfield 42, 3) := by decide +kernel
theorem dX12_together_17 : decode cX12_together 17 = .ok (.aload_n 0, 1) := by decide +kernel
theorem dX12_together_18 : decode cX12_together 18 = .ok (.getfield 274, 3) := by decide +kernel
theorem dX12_together_21 : decode cX12_together 21 = .ok (.iaload, 1) := by decide +kernel
theorem dX12_together_22 : decode cX12_together 22 = .ok (.if_icmp .ge 20, 3) := by decide +kernel
theorem dX12_together_25 : decode cX12_together 25 = .ok (.aload_n 0, 1) := by decide +kernel
theorem dX12_together_26 : decode cX12_together 26 = .ok (.getfield 130, 3) := by decide +kernel
theorem dX12_together_29 : decode cX12_together 29 = .ok (.iload_n 2, 1) := by decide +kernel
theorem dX12_together_30 : decode cX12_together 30 = .ok (.aload_n 0, 1) := by decide +kernel
theorem dX12_together_31 : decode cX12_together 31 = .ok (.iload_n 2, 1) := by decide +kernel
theorem dX12_together_32 : decode cX12_together 32 = .ok (.invokevirtual 498, 3) := by decide +kernel
theorem dX12_together_35 : decode cX12_together 35 = .ok (.iastore, 1) := by decide +kernel
theorem dX12_together_36 : decode cX12_together 36 = .ok (.iinc 2 1, 3) := by decide +kernel
theorem dX12_together_39 : decode cX12_together 39 = .ok (.goto (-27), 3) := by decide +kernel
theorem dX12_together_42 : decode cX12_together 42 = .ok (.iconst 1, 1) := by decide +kernel
theorem dX12_together_43 : decode cX12_together 43 = .ok (.istore_n 2, 1) := by decide +kernel
theorem dX12_together_44 : decode cX12_together 44 = .ok (.iload_n 2, 1) := by decide +kernel
theorem dX12_together_45 : decode cX12_together 45 = .ok (.ifCond .eq 152, 3) := by decide +kernel
theorem dX12_together_48 : decode cX12_together 48 = .ok (.iconst 0, 1) := by decide +kernel
theorem dX12_together_49 : decode cX12_together 49 = .ok (.istore_n 2, 1) := by decide +kernel
theorem dX12_together_50 : decode cX12_together 50 = .ok (.iconst 0, 1) := by decide +kernel
theorem dX12_together_51 : decode cX12_together 51 = .ok (.istore_n 3, 1) := by decide +kernel
theorem dX12_together_52 : decode cX12_together 52 = .ok (.iload_n 3, 1) := by decide +kernel
theorem dX12_together_53 : decode cX12_together 53 = .ok (.bipush 16, 2) := by decide +kernel
theorem dX12_together_55 : decode cX12_together 55 = .ok (.if_icmp .ge 139, 3) := by decide +kernel
theorem dX12_together_58 : decode cX12_together 58 = .ok (.iload_n 3, 1) := by decide +kernel
theorem dX12_together_59 : decode cX12_together 59 = .ok (.iconst 4, 1) := by decide +kernel
theorem dX12_together_60 : decode cX12_together 60 = .ok (.idiv, 1) := by decide +kernel
theorem dX12_together_61 : decode cX12_together 61 = .ok (.istore 4, 2) := by decide +kernel
theorem dX12_together_63 : decode cX12_together 63 = .ok (.iload_n 3, 1) := by decide +kernel
theorem dX12_together_64 : decode cX12_together 64 = .ok (.iconst 4, 1) := by decide +kernel
theorem dX12_together_65 : decode cX12_together 65 = .ok (.irem, 1) := by decide +kernel
theorem dX12_together_66 : decode cX12_together 66 = .ok (.istore 5, 2) := by decide +kernel
theorem dX12_together_68 : decode cX12_together 68 = .ok (.aload_n 0, 1) := by decide +kernel
theorem dX12_together_69 : decode cX12_together 69 = .ok (.iload 4, 2) := by decide +kernel
theorem dX12_together_71 : decode cX12_together 71 = .ok (.invokevirtual 495, 3) := by decide +kernel
theorem dX12_together_74 : decode cX12_together 74 = .ok (.ifCond .eq 114, 3) := by decide +kernel
theorem dX12_together_77 : decode cX12_together 77 = .ok (.aload_n 0, 1) := by decide +kernel
theorem dX12_together_78 : decode cX12_together 78 = .ok (.iload 5, 2) := by decide +kernel
theorem dX12_together_80 : decode cX12_together 80 = .ok (.invokevirtual 495, 3) := by decide +kernel
theorem dX12_together_83 : decode cX12_together 83 = .ok (.ifCond .eq 105, 3) := by decide +kernel
theorem dX12_together_86 : decode cX12_together 86 = .ok (.aload_n 0, 1) := by decide +kernel
theorem dX12_together_87 : decode cX12_together 87 = .ok (.getfield 130, 3) := by decide +kernel
theorem dX12_together_90 : decode cX12_together 90 = .ok (.iload 4, 2) := by decide +kernel
theorem dX12_together_92 : decode cX12_together 92 = .ok (.iaload, 1) := by decide +kernel
theorem dX12_together_93 : decode cX12_together 93 = .ok (.aload_n 0, 1) := by decide +kernel
theorem dX12_together_94 : decode cX12_together 94 = .ok (.getfield 130, 3) := by decide +kernel
theorem dX12_together_97 : decode cX12_together 97 = .ok (.iload 5, 2) := by decide +kernel
theorem dX12_together_99 : decode cX12_together 99 = .ok (.iaload, 1) := by decide +kernel
theorem dX12_together_100 : decode cX12_together 100 = .ok (.if_icmp .ne 6, 3) := by decide +kernel
theorem dX12_together_103 : decode cX12_together 103 = .ok (.goto 85, 3) := by decide +kernel
theorem dX12_together_106 : decode cX12_together 106 = .ok (.aload_n 0, 1) := by decide +kernel
theorem dX12_together_107 : decode cX12_together 107 = .ok (.aload_n 0, 1) := by decide +kernel
theorem dX12_together_108 : decode cX12_together 108 = .ok (.getfield 118, 3) := by decide +kernel
theorem dX12_together_111 : decode cX12_together 111 = .ok (.bipush 86, 2) := by decide +kernel
theorem dX12_together_113 : decode cX12_together 113 = .ok (.iload 4, 2) := by decide +kernel
theorem dX12_together_115 : decode cX12_together 115 = .ok (.iadd, 1) := by decide +kernel
theorem dX12_together_116 : decode cX12_together 116 = .ok (.iaload, 1) := by decide +kernel
theorem dX12_together_117 : decode cX12_together 117 = .ok (.aload_n 0, 1) := by decide +kernel
theorem dX12_together_118 : decode cX12_together 118 = .ok (.getfield 130, 3) := by decide +kernel
theorem dX12_together_121 : decode cX12_together 121 = .ok (.iload 4, 2) := by decide +kernel
theorem dX12_together_123 : decode cX12_together 123 = .ok (.iaload, 1) := by decide +kernel
theorem dX12_together_124 : decode cX12_together 124 = .ok (.invokevirtual 574, 3) := by decide +kernel
theorem dX12_together_127 : decode cX12_together 127 = .ok (.aload_n 0, 1) := by decide +kernel
theorem dX12_together_128 : decode cX12_together 128 = .ok (.aload_n 0, 1) := by decide +kernel
theorem dX12_together_129 : decode cX12_together 129 = .ok (.getfield 118, 3) := by decide +kernel
theorem dX12_together_132 : decode cX12_together 132 = .ok (.bipush 86, 2) := by decide +kernel
theorem dX12_together_134 : decode cX12_together 134 = .ok (.iload 5, 2) := by decide +kernel
theorem dX12_together_136 : decode cX12_together 136 = .ok (.iadd, 1) := by decide +kernel
theorem dX12_together_137 : decode cX12_together 137 = .ok (.iaload, 1) := by decide +kernel
theorem dX12_together_138 : decode cX12_together 138 = .ok (.aload_n 0, 1) := by decide +kernel
theorem dX12_together_139 : decode cX12_together 139 = .ok (.getfield 130, 3) := by decide +kernel
theorem dX12_together_142 : decode cX12_together 142 = .ok (.iload 5, 2) := by decide +kernel
theorem dX12_together_144 : decode cX12_together 144 = .ok (.iaload, 1) := by decide +kernel
theorem dX12_together_145 : decode cX12_together 145 = .ok (.invokevirtual 574, 3) := by decide +kernel
theorem dX12_together_148 : decode cX12_together 148 = .ok (.iand, 1) := by decide +kernel
theorem dX12_together_149 : decode cX12_together 149 = .ok (.ifCond .ne 6, 3) := by decide +kernel
theorem dX12_together_152 : decode cX12_together 152 = .ok (.goto 36, 3) := by decide +kernel
theorem dX12_together_155 : decode cX12_together 155 = .ok (.aload_n 0, 1) := by decide +kernel
theorem dX12_together_156 : decode cX12_together 156 = .ok (.getfield 130, 3) := by decide +kernel
theorem dX12_together_159 : decode cX12_together 159 = .ok (.iload 4, 2) := by decide +kernel
theorem dX12_together_161 : decode cX12_together 161 = .ok (.dup2, 1) := by decide +kernel
theorem dX12_together_162 : decode cX12_together 162 = .ok (.iaload, 1) := by decide +kernel
theorem dX12_together_163 : decode cX12_together 163 = .ok (.aload_n 0, 1) := by decide +kernel
theorem dX12_together_164 : decode cX12_together 164 = .ok (.getfield 130, 3) := by decide +kernel
theorem dX12_together_167 : decode cX12_together 167 = .ok (.iload 5, 2) := by decide +kernel
theorem dX12_together_169 : decode cX12_together 169 = .ok (.iaload, 1) := by decide +kernel
theorem dX12_together_170 : decode cX12_together 170 = .ok (.ior, 1) := by decide +kernel
theorem dX12_together_171 : decode cX12_together 171 = .ok (.iastore, 1) := by decide +kernel
theorem dX12_together_172 : decode cX12_together 172 = .ok (.aload_n 0, 1) := by decide +kernel
theorem dX12_together_173 : decode cX12_together 173 = .ok (.getfield 130, 3) := by decide +kernel
theorem dX12_together_176 : decode cX12_together 176 = .ok (.iload 5, 2) := by decide +kernel
theorem dX12_together_178 : decode cX12_together 178 = .ok (.aload_n 0, 1) := by decide +kernel
theorem dX12_together_179 : decode cX12_together 179 = .ok (.getfield 130, 3) := by decide +kernel
theorem dX12_together_182 : decode cX12_together 182 = .ok (.iload 4, 2) := by decide +kernel
theorem dX12_together_184 : decode cX12_together 184 = .ok (.iaload, 1) := by decide +kernel
theorem dX12_together_185 : decode cX12_together 185 = .ok (.iastore, 1) := by decide +kernel
theorem dX12_together_186 : decode cX12_together 186 = .ok (.iconst 1, 1) := by decide +kernel
theorem dX12_together_187 : decode cX12_together 187 = .ok (.istore_n 2, 1) := by decide +kernel
theorem dX12_together_188 : decode cX12_together 188 = .ok (.iinc 3 1, 3) := by decide +kernel
theorem dX12_together_191 : decode cX12_together 191 = .ok (.goto (-139), 3) := by decide +kernel
theorem dX12_together_194 : decode cX12_together 194 = .ok (.goto (-150), 3) := by decide +kernel
theorem dX12_together_197 : decode cX12_together 197 = .ok (.aload_n 0, 1) := by decide +kernel
theorem dX12_together_198 : decode cX12_together 198 = .ok (.aload_n 0, 1) := by decide +kernel
theorem dX12_together_199 : decode cX12_together 199 = .ok (.getfield 118, 3) := by decide +kernel
theorem dX12_together_202 : decode cX12_together 202 = .ok (.bipush 86, 2) := by decide +kernel
theorem dX12_together_204 : decode cX12_together 204 = .ok (.iload_n 1, 1) := by decide +kernel
theorem dX12_together_205 : decode cX12_together 205 = .ok (.iadd, 1) := by decide +kernel
theorem dX12_together_206 : decode cX12_together 206 = .ok (.iaload, 1) := by decide +kernel
theorem dX12_together_207 : decode cX12_together 207 = .ok (.aload_n 0, 1) := by decide +kernel
theorem dX12_together_208 : decode cX12_together 208 = .ok (.getfield 130, 3) := by decide +kernel
theorem dX12_together_211 : decode cX12_together 211 = .ok (.iload_n 1, 1) := by decide +kernel
theorem dX12_together_212 : decode cX12_together 212 = .ok (.iaload, 1) := by decide +kernel
theorem dX12_together_213 : decode cX12_together 213 = .ok (.invokevirtual 574, 3) := by decide +kernel
theorem dX12_together_216 : decode cX12_together 216 = .ok (.ireturn, 1) := by decide +kernel
theorem dX12_trade_0 : decode cX12_trade 0 = .ok (.aload_n 0, 1) := by decide +kernel
theorem dX12_trade_1 : decode cX12_trade 1 = .ok (.iload_n 1, 1) := by decide +kernel
theorem dX12_trade_2 : decode cX12_trade 2 = .ok (.invokevirtual 495, 3) := by decide +kernel
theorem dX12_trade_5 : decode cX12_trade 5 = .ok (.ifCond .eq 25, 3) := by decide +kernel
theorem dX12_trade_8 : decode cX12_trade 8 = .ok (.aload_n 0, 1) := by decide +kernel
theorem dX12_trade_9 : decode cX12_trade 9 = .ok (.iload_n 2, 1) := by decide +kernel
theorem dX12_trade_10 : decode cX12_trade 10 = .ok (.invokevirtual 495, 3) := by decide +kernel
theorem dX12_trade_13 : decode cX12_trade 13 = .ok (.ifCond .eq 17, 3) := by decide +kernel
theorem dX12_trade_16 : decode cX12_trade 16 = .ok (.iload_n 1, 1) := by decide +kernel
theorem dX12_trade_17 : decode cX12_trade 17 = .ok (.iload_n 2, 1) := by decide +kernel
theorem dX12_trade_18 : decode cX12_trade 18 = .ok (.if_icmp .eq 12, 3) := by decide +kernel
theorem dX12_trade_21 : decode cX12_trade 21 = .ok (.iload_n 3, 1) := by decide +kernel
theorem dX12_trade_22 : decode cX12_trade 22 = .ok (.iconst 0, 1) := by decide +kernel
theorem dX12_trade_23 : decode cX12_trade 23 = .ok (.iconst 1, 1) := by decide +kernel
theorem dX12_trade_24 : decode cX12_trade 24 = .ok (.invokestatic 407, 3) := by decide +kernel
theorem dX12_trade_27 : decode cX12_trade 27 = .ok (.ifCond .ne 5, 3) := by decide +kernel
theorem dX12_trade_30 : decode cX12_trade 30 = .ok (.iconst (-1), 1) := by decide +kernel
theorem dX12_trade_31 : decode cX12_trade 31 = .ok (.ireturn, 1) := by decide +kernel
theorem dX12_trade_32 : decode cX12_trade 32 = .ok (.iconst 0, 1) := by decide +kernel
theorem dX12_trade_33 : decode cX12_trade 33 = .ok (.istore 4, 2) := by decide +kernel
theorem dX12_trade_35 : decode cX12_trade 35 = .ok (.iload 4, 2) := by decide +kernel
theorem dX12_trade_37 : decode cX12_trade 37 = .ok (.aload_n 0, 1) := by decide +kernel
theorem dX12_trade_38 : decode cX12_trade 38 = .ok (.invokevirtual 404, 3) := by decide +kernel
theorem dX12_trade_41 : decode cX12_trade 41 = .ok (.if_icmp .ge 75, 3) := by decide +kernel
theorem dX12_trade_44 : decode cX12_trade 44 = .ok (.iconst 0, 1) := by decide +kernel
theorem dX12_trade_45 : decode cX12_trade 45 = .ok (.istore 5, 2) := by decide +kernel
theorem dX12_trade_47 : decode cX12_trade 47 = .ok (.iload 5, 2) := by decide +kernel
theorem dX12_trade_49 : decode cX12_trade 49 = .ok (.aload_n 0, 1) := by decide +kernel
theorem dX12_trade_50 : decode cX12_trade 50 = .ok (.invokevirtual 404, 3) := by decide +kernel
theorem dX12_trade_53 : decode cX12_trade 53 = .ok (.if_icmp .ge 57, 3) := by decide +kernel
theorem dX12_trade_56 : decode cX12_trade 56 = .ok (.aload_n 0, 1) := by decide +kernel
theorem dX12_trade_57 : decode cX12_trade 57 = .ok (.iload 4, 2) := by decide +kernel
theorem dX12_trade_59 : decode cX12_trade 59 = .ok (.invokevirtual 465, 3) := by decide +kernel
theorem dX12_trade_62 : decode cX12_trade 62 = .ok (.iload_n 1, 1) := by decide +kernel
theorem dX12_trade_63 : decode cX12_trade 63 = .ok (.if_icmp .ne 41, 3) := by decide +kernel
theorem dX12_trade_66 : decode cX12_trade 66 = .ok (.aload_n 0, 1) := by decide +kernel
theorem dX12_trade_67 : decode cX12_trade 67 = .ok (.iload 5, 2) := by decide +kernel
theorem dX12_trade_69 : decode cX12_trade 69 = .ok (.invokevirtual 465, 3) := by decide +kernel
theorem dX12_trade_72 : decode cX12_trade 72 = .ok (.iload_n 2, 1) := by decide +kernel
theorem dX12_trade_73 : decode cX12_trade 73 = .ok (.if_icmp .eq 6, 3) := by decide +kernel
theorem dX12_trade_76 : decode cX12_trade 76 = .ok (.goto 28, 3) := by decide +kernel
theorem dX12_trade_79 : decode cX12_trade 79 = .ok (.aload_n 0, 1) := by decide +kernel
theorem dX12_trade_80 : decode cX12_trade 80 = .ok (.iload_n 1, 1) := by decide +kernel
theorem dX12_trade_81 : decode cX12_trade 81 = .ok (.iload_n 2, 1) := by decide +kernel
theorem dX12_trade_82 : decode cX12_trade 82 = .ok (.iload 4, 2) := by decide +kernel
theorem dX12_trade_84 : decode cX12_trade 84 = .ok (.iload 5, 2) := by decide +kernel
theorem dX12_trade_86 : decode cX12_trade 86 = .ok (.invokevirtual 586, 3) := by decide +kernel
theorem dX12_trade_89 : decode cX12_trade 89 = .ok (.ifCond .eq 15, 3) := by decide +kernel
theorem dX12_trade_92 : decode cX12_trade 92 = .ok (.iload_n 3, 1) := by decide +kernel
theorem dX12_trade_93 : decode cX12_trade 93 = .ok (.ifCond .ne 8, 3) := by decide +kernel
theorem dX12_trade_96 : decode cX12_trade 96 = .ok (.iload 4, 2) := by decide +kernel
theorem dX12_trade_98 : decode cX12_trade 98 = .ok (.goto 5, 3) := by decide +kernel
theorem dX12_trade_101 : decode cX12_trade 101 = .ok (.iload 5, 2) := by decide +kernel
theorem dX12_trade_103 : decode cX12_trade 103 = .ok (.ireturn, 1) := by decide +kernel
theorem dX12_trade_104 : decode cX12_trade 104 = .ok (.iinc 5 1, 3) := by decide +kernel
theorem dX12_trade_107 : decode cX12_trade 107 = .ok (.goto (-60), 3) := by decide +kernel
theorem dX12_trade_110 : decode cX12_trade 110 = .ok (.iinc 4 1, 3) := by decide +kernel
theorem dX12_trade_113 : decode cX12_trade 113 = .ok (.goto (-78), 3) := by decide +kernel
theorem dX12_trade_116 : decode cX12_trade 116 = .ok (.iconst (-1), 1) := by decide +kernel
theorem dX12_trade_117 : decode cX12_trade 117 = .ok (.ireturn, 1) := by decide +kernel
theorem dX12_tried_0 : decode cX12_tried 0 = .ok (.aload_n 0, 1) := by decide +kernel
theorem dX12_tried_1 : decode cX12_tried 1 = .ok (.iload_n 1, 1) := by decide +kernel
theorem dX12_tried_2 : decode cX12_tried 2 = .ok (.invokevirtual 477, 3) := by decide +kernel
theorem dX12_tried_5 : decode cX12_tried 5 = .ok (.ifCond .eq 12, 3) := by decide +kernel
theorem dX12_tried_8 : decode cX12_tried 8 = .ok (.aload_n 0, 1) := by decide +kernel
theorem dX12_tried_9 : decode cX12_tried 9 = .ok (.getfield 423, 3) := by decide +kernel
theorem dX12_tried_12 : decode cX12_tried 12 = .ok (.bipush 30, 2) := by decide +kernel
theorem dX12_tried_14 : decode cX12_tried 14 = .ok (.if_icmp .ne 5, 3) := by decide +kernel
theorem dX12_tried_17 : decode cX12_tried 17 = .ok (.iconst (-1), 1) := by decide +kernel
theorem dX12_tried_18 : decode cX12_tried 18 = .ok (.ireturn, 1) := by decide +kernel
theorem dX12_tried_19 : decode cX12_tried 19 = .ok (.aload_n 0, 1) := by decide +kernel
theorem dX12_tried_20 : decode cX12_tried 20 = .ok (.getfield 136, 3) := by decide +kernel
theorem dX12_tried_23 : decode cX12_tried 23 = .ok (.aload_n 0, 1) := by decide +kernel
theorem dX12_tried_24 : decode cX12_tried 24 = .ok (.getfield 423, 3) := by decide +kernel
theorem dX12_tried_27 : decode cX12_tried 27 = .ok (.iload_n 1, 1) := by decide +kernel
theorem dX12_tried_28 : decode cX12_tried 28 = .ok (.iastore, 1) := by decide +kernel
theorem dX12_tried_29 : decode cX12_tried 29 = .ok (.aload_n 0, 1) := by decide +kernel
theorem dX12_tried_30 : decode cX12_tried 30 = .ok (.getfield 139, 3) := by decide +kernel
theorem dX12_tried_33 : decode cX12_tried 33 = .ok (.aload_n 0, 1) := by decide +kernel
theorem dX12_tried_34 : decode cX12_tried 34 = .ok (.getfield 423, 3) := by decide +kernel
theorem dX12_tried_37 : decode cX12_tried 37 = .ok (.iload_n 2, 1) := by decide +kernel
theorem dX12_tried_38 : decode cX12_tried 38 = .ok (.ifCond .eq 7, 3) := by decide +kernel
theorem dX12_tried_41 : decode cX12_tried 41 = .ok (.iconst 1, 1) := by decide +kernel
theorem dX12_tried_42 : decode cX12_tried 42 = .ok (.goto 4, 3) := by decide +kernel
theorem dX12_tried_45 : decode cX12_tried 45 = .ok (.iconst 0, 1) := by decide +kernel
theorem dX12_tried_46 : decode cX12_tried 46 = .ok (.iastore, 1) := by decide +kernel
theorem dX12_tried_47 : decode cX12_tried 47 = .ok (.aload_n 0, 1) := by decide +kernel
theorem dX12_tried_48 : decode cX12_tried 48 = .ok (.getfield 142, 3) := by decide +kernel
theorem dX12_tried_51 : decode cX12_tried 51 = .ok (.aload_n 0, 1) := by decide +kernel
theorem dX12_tried_52 : decode cX12_tried 52 = .ok (.getfield 423, 3) := by decide +kernel
theorem dX12_tried_55 : decode cX12_tried 55 = .ok (.aload_n 0, 1) := by decide +kernel
theorem dX12_tried_56 : decode cX12_tried 56 = .ok (.getfield 609, 3) := by decide +kernel
theorem dX12_tried_59 : decode cX12_tried 59 = .ok (.iastore, 1) := by decide +kernel
theorem dX12_tried_60 : decode cX12_tried 60 = .ok (.aload_n 0, 1) := by decide +kernel
theorem dX12_tried_61 : decode cX12_tried 61 = .ok (.getfield 145, 3) := by decide +kernel
theorem dX12_tried_64 : decode cX12_tried 64 = .ok (.aload_n 0, 1) := by decide +kernel
theorem dX12_tried_65 : decode cX12_tried 65 = .ok (.getfield 423, 3) := by decide +kernel
theorem dX12_tried_68 : decode cX12_tried 68 = .ok (.iconst (-1), 1) := by decide +kernel
theorem dX12_tried_69 : decode cX12_tried 69 = .ok (.iastore, 1) := by decide +kernel
theorem dX12_tried_70 : decode cX12_tried 70 = .ok (.aload_n 0, 1) := by decide +kernel
theorem dX12_tried_71 : decode cX12_tried 71 = .ok (.dup, 1) := by decide +kernel
theorem dX12_tried_72 : decode cX12_tried 72 = .ok (.getfield 423, 3) := by decide +kernel
theorem dX12_tried_75 : decode cX12_tried 75 = .ok (.iconst 1, 1) := by decide +kernel
theorem dX12_tried_76 : decode cX12_tried 76 = .ok (.iadd, 1) := by decide +kernel
theorem dX12_tried_77 : decode cX12_tried 77 = .ok (.putfield 423, 3) := by decide +kernel
theorem dX12_tried_80 : decode cX12_tried 80 = .ok (.aload_n 0, 1) := by decide +kernel
theorem dX12_tried_81 : decode cX12_tried 81 = .ok (.getfield 423, 3) := by decide +kernel
theorem dX12_tried_84 : decode cX12_tried 84 = .ok (.iconst 1, 1) := by decide +kernel
theorem dX12_tried_85 : decode cX12_tried 85 = .ok (.isub, 1) := by decide +kernel
theorem dX12_tried_86 : decode cX12_tried 86 = .ok (.ireturn, 1) := by decide +kernel
theorem dX12_twin_0 : decode cX12_twin 0 = .ok (.aload_n 0, 1) := by decide +kernel
theorem dX12_twin_1 : decode cX12_twin 1 = .ok (.iload_n 1, 1) := by decide +kernel
theorem dX12_twin_2 : decode cX12_twin 2 = .ok (.invokevirtual 462, 3) := by decide +kernel
theorem dX12_twin_5 : decode cX12_twin 5 = .ok (.ifCond .ne 5, 3) := by decide +kernel
theorem dX12_twin_8 : decode cX12_twin 8 = .ok (.iconst (-1), 1) := by decide +kernel
theorem dX12_twin_9 : decode cX12_twin 9 = .ok (.ireturn, 1) := by decide +kernel
theorem dX12_twin_10 : decode cX12_twin 10 = .ok (.iconst (-1), 1) := by decide +kernel
theorem dX12_twin_11 : decode cX12_twin 11 = .ok (.istore_n 2, 1) := by decide +kernel
theorem dX12_twin_12 : decode cX12_twin 12 = .ok (.iconst 0, 1) := by decide +kernel
theorem dX12_twin_13 : decode cX12_twin 13 = .ok (.istore_n 3, 1) := by decide +kernel
theorem dX12_twin_14 : decode cX12_twin 14 = .ok (.iload_n 3, 1) := by decide +kernel
theorem dX12_twin_15 : decode cX12_twin 15 = .ok (.aload_n 0, 1) := by decide +kernel
theorem dX12_twin_16 : decode cX12_twin 16 = .ok (.invokevirtual 404, 3) := by decide +kernel
theorem dX12_twin_19 : decode cX12_twin 19 = .ok (.if_icmp .ge 35, 3) := by decide +kernel
theorem dX12_twin_22 : decode cX12_twin 22 = .ok (.iload_n 3, 1) := by decide +kernel
theorem dX12_twin_23 : decode cX12_twin 23 = .ok (.iload_n 1, 1) := by decide +kernel
theorem dX12_twin_24 : decode cX12_twin 24 = .ok (.if_icmp .eq 24, 3) := by decide +kernel
theorem dX12_twin_27 : decode cX12_twin 27 = .ok (.iload_n 2, 1) := by decide +kernel
theorem dX12_twin_28 : decode cX12_twin 28 = .ok (.ifCond .lt 18, 3) := by decide +kernel
theorem dX12_twin_31 : decode cX12_twin 31 = .ok (.aload_n 0, 1) := by decide +kernel
theorem dX12_twin_32 : decode cX12_twin 32 = .ok (.iload_n 1, 1) := by decide +kernel
theorem dX12_twin_33 : decode cX12_twin 33 = .ok (.iload_n 3, 1) := by decide +kernel
theorem dX12_twin_34 : decode cX12_twin 34 = .ok (.invokevirtual 532, 3) := by decide +kernel
theorem dX12_twin_37 : decode cX12_twin 37 = .ok (.aload_n 0, 1) := by decide +kernel
theorem dX12_twin_38 : decode cX12_twin 38 = .ok (.iload_n 1, 1) := by decide +kernel
theorem dX12_twin_39 : decode cX12_twin 39 = .ok (.iload_n 2, 1) := by decide +kernel
theorem dX12_twin_40 : decode cX12_twin 40 = .ok (.invokevirtual 532, 3) := by decide +kernel
theorem dX12_twin_43 : decode cX12_twin 43 = .ok (.if_icmp .ge 5, 3) := by decide +kernel
theorem dX12_twin_46 : decode cX12_twin 46 = .ok (.iload_n 3, 1) := by decide +kernel
theorem dX12_twin_47 : decode cX12_twin 47 = .ok (.istore_n 2, 1) := by decide +kernel
theorem dX12_twin_48 : decode cX12_twin 48 = .ok (.iinc 3 1, 3) := by decide +kernel
theorem dX12_twin_51 : decode cX12_twin 51 = .ok (.goto (-37), 3) := by decide +kernel
theorem dX12_twin_54 : decode cX12_twin 54 = .ok (.iload_n 2, 1) := by decide +kernel
theorem dX12_twin_55 : decode cX12_twin 55 = .ok (.ireturn, 1) := by decide +kernel
theorem dX12_two_0 : decode cX12_two 0 = .ok (.iload_n 0, 1) := by decide +kernel
theorem dX12_two_1 : decode cX12_two 1 = .ok (.tableswitch 202 37 62 #[143, 188, 202, 202, 202, 127, 119, 202, 123, 202, 131, 202, 202, 202, 202, 202, 202, 202, 202, 202, 202, 202, 202, 155, 177, 166], 119) := by decide +kernel
theorem dX12_two_120 : decode cX12_two 120 = .ok (.iload_n 1, 1) := by decide +kernel
theorem dX12_two_121 : decode cX12_two 121 = .ok (.iload_n 2, 1) := by decide +kernel
theorem dX12_two_122 : decode cX12_two 122 = .ok (.iadd, 1) := by decide +kernel
theorem dX12_two_123 : decode cX12_two 123 = .ok (.ireturn, 1) := by decide +kernel
theorem dX12_two_124 : decode cX12_two 124 = .ok (.iload_n 1, 1) := by decide +kernel
theorem dX12_two_125 : decode cX12_two 125 = .ok (.iload_n 2, 1) := by decide +kernel
theorem dX12_two_126 : decode cX12_two 126 = .ok (.isub, 1) := by decide +kernel
theorem dX12_two_127 : decode cX12_two 127 = .ok (.ireturn, 1) := by decide +kernel
theorem dX12_two_128 : decode cX12_two 128 = .ok (.iload_n 1, 1) := by decide +kernel
theorem dX12_two_129 : decode cX12_two 129 = .ok (.iload_n 2, 1) := by decide +kernel
theorem dX12_two_130 : decode cX12_two 130 = .ok (.imul, 1) := by decide +kernel
theorem dX12_two_131 : decode cX12_two 131 = .ok (.ireturn, 1) := by decide +kernel
theorem dX12_two_132 : decode cX12_two 132 = .ok (.iload_n 2, 1) := by decide +kernel
theorem dX12_two_133 : decode cX12_two 133 = .ok (.ifCond .ne 7, 3) := by decide +kernel
theorem dX12_two_136 : decode cX12_two 136 = .ok (.iconst 0, 1) := by decide +kernel
theorem dX12_two_137 : decode cX12_two 137 = .ok (.goto 6, 3) := by decide +kernel
theorem dX12_two_140 : decode cX12_two 140 = .ok (.iload_n 1, 1) := by decide +kernel
theorem dX12_two_141 : decode cX12_two 141 = .ok (.iload_n 2, 1) := by decide +kernel
theorem dX12_two_142 : decode cX12_two 142 = .ok (.idiv, 1) := by decide +kernel
theorem dX12_two_143 : decode cX12_two 143 = .ok (.ireturn, 1) := by decide +kernel
theorem dX12_two_144 : decode cX12_two 144 = .ok (.iload_n 2, 1) := by decide +kernel
theorem dX12_two_145 : decode cX12_two 145 = .ok (.ifCond .ne 7, 3) := by decide +kernel
theorem dX12_two_148 : decode cX12_two 148 = .ok (.iconst 0, 1) := by decide +kernel
theorem dX12_two_149 : decode cX12_two 149 = .ok (.goto 6, 3) := by decide +kernel
theorem dX12_two_152 : decode cX12_two 152 = .ok (.iload_n 1, 1) := by decide +kernel
theorem dX12_two_153 : decode cX12_two 153 = .ok (.iload_n 2, 1) := by decide +kernel
theorem dX12_two_154 : decode cX12_two 154 = .ok (.irem, 1) := by decide +kernel
theorem dX12_two_155 : decode cX12_two 155 = .ok (.ireturn, 1) := by decide +kernel
theorem dX12_two_156 : decode cX12_two 156 = .ok (.iload_n 1, 1) := by decide +kernel
theorem dX12_two_157 : decode cX12_two 157 = .ok (.iload_n 2, 1) := by decide +kernel
theorem dX12_two_158 : decode cX12_two 158 = .ok (.if_icmp .ge 7, 3) := by decide +kernel
theorem dX12_two_161 : decode cX12_two 161 = .ok (.iconst 1, 1) := by decide +kernel
theorem dX12_two_162 : decode cX12_two 162 = .ok (.goto 4, 3) := by decide +kernel
theorem dX12_two_165 : decode cX12_two 165 = .ok (.iconst 0, 1) := by decide +kernel
theorem dX12_two_166 : decode cX12_two 166 = .ok (.ireturn, 1) := by decide +kernel
theorem dX12_two_167 : decode cX12_two 167 = .ok (.iload_n 1, 1) := by decide +kernel
theorem dX12_two_168 : decode cX12_two 168 = .ok (.iload_n 2, 1) := by decide +kernel
theorem dX12_two_169 : decode cX12_two 169 = .ok (.if_icmp .le 7, 3) := by decide +kernel
theorem dX12_two_172 : decode cX12_two 172 = .ok (.iconst 1, 1) := by decide +kernel
theorem dX12_two_173 : decode cX12_two 173 = .ok (.goto 4, 3) := by decide +kernel
theorem dX12_two_176 : decode cX12_two 176 = .ok (.iconst 0, 1) := by decide +kernel
theorem dX12_two_177 : decode cX12_two 177 = .ok (.ireturn, 1) := by decide +kernel
theorem dX12_two_178 : decode cX12_two 178 = .ok (.iload_n 1, 1) := by decide +kernel
theorem dX12_two_179 : decode cX12_two 179 = .ok (.iload_n 2, 1) := by decide +kernel
theorem dX12_two_180 : decode cX12_two 180 = .ok (.if_icmp .ne 7, 3) := by decide +kernel
theorem dX12_two_183 : decode cX12_two 183 = .ok (.iconst 1, 1) := by decide +kernel
theorem dX12_two_184 : decode cX12_two 184 = .ok (.goto 4, 3) := by decide +kernel
theorem dX12_two_187 : decode cX12_two 187 = .ok (.iconst 0, 1) := by decide +kernel
theorem dX12_two_188 : decode cX12_two 188 = .ok (.ireturn, 1) := by decide +kernel
theorem dX12_two_189 : decode cX12_two 189 = .ok (.iload_n 1, 1) := by decide +kernel
theorem dX12_two_190 : decode cX12_two 190 = .ok (.ifCond .eq 11, 3) := by decide +kernel
theorem dX12_two_193 : decode cX12_two 193 = .ok (.iload_n 2, 1) := by decide +kernel
theorem dX12_two_194 : decode cX12_two 194 = .ok (.ifCond .eq 7, 3) := by decide +kernel
theorem dX12_two_197 : decode cX12_two 197 = .ok (.iconst 1, 1) := by decide +kernel
theorem dX12_two_198 : decode cX12_two 198 = .ok (.goto 4, 3) := by decide +kernel
theorem dX12_two_201 : decode cX12_two 201 = .ok (.iconst 0, 1) := by decide +kernel
theorem dX12_two_202 : decode cX12_two 202 = .ok (.ireturn, 1) := by decide +kernel
theorem dX12_two_203 : decode cX12_two 203 = .ok (.iload_n 1, 1) := by decide +kernel
theorem dX12_two_204 : decode cX12_two 204 = .ok (.ifCond .ne 7, 3) := by decide +kernel
theorem dX12_two_207 : decode cX12_two 207 = .ok (.iload_n 2, 1) := by decide +kernel
theorem dX12_two_208 : decode cX12_two 208 = .ok (.ifCond .eq 7, 3) := by decide +kernel
theorem dX12_two_211 : decode cX12_two 211 = .ok (.iconst 1, 1) := by decide +kernel
theorem dX12_two_212 : decode cX12_two 212 = .ok (.goto 4, 3) := by decide +kernel
theorem dX12_two_215 : decode cX12_two 215 = .ok (.iconst 0, 1) := by decide +kernel
theorem dX12_two_216 : decode cX12_two 216 = .ok (.ireturn, 1) := by decide +kernel
theorem dX12_undo_0 : decode cX12_undo 0 = .ok (.aload_n 0, 1) := by decide +kernel
theorem dX12_undo_1 : decode cX12_undo 1 = .ok (.getfield 417, 3) := by decide +kernel
theorem dX12_undo_4 : decode cX12_undo 4 = .ok (.ifCond .ne 5, 3) := by decide +kernel
theorem dX12_undo_7 : decode cX12_undo 7 = .ok (.iconst 0, 1) := by decide +kernel
theorem dX12_undo_8 : decode cX12_undo 8 = .ok (.ireturn, 1) := by decide +kernel
theorem dX12_undo_9 : decode cX12_undo 9 = .ok (.aload_n 0, 1) := by decide +kernel
theorem dX12_undo_10 : decode cX12_undo 10 = .ok (.dup, 1) := by decide +kernel
theorem dX12_undo_11 : decode cX12_undo 11 = .ok (.getfield 417, 3) := by decide +kernel
theorem dX12_undo_14 : decode cX12_undo 14 = .ok (.iconst 1, 1) := by decide +kernel
theorem dX12_undo_15 : decode cX12_undo 15 = .ok (.isub, 1) := by decide +kernel
theorem dX12_undo_16 : decode cX12_undo 16 = .ok (.putfield 417, 3) := by decide +kernel
theorem dX12_undo_19 : decode cX12_undo 19 = .ok (.aload_n 0, 1) := by decide +kernel
theorem dX12_undo_20 : decode cX12_undo 20 = .ok (.dup, 1) := by decide +kernel
theorem dX12_undo_21 : decode cX12_undo 21 = .ok (.getfield 420, 3) := by decide +kernel
theorem dX12_undo_24 : decode cX12_undo 24 = .ok (.iconst 1, 1) := by decide +kernel
theorem dX12_undo_25 : decode cX12_undo 25 = .ok (.iadd, 1) := by decide +kernel
theorem dX12_undo_26 : decode cX12_undo 26 = .ok (.putfield 420, 3) := by decide +kernel
theorem dX12_undo_29 : decode cX12_undo 29 = .ok (.aload_n 0, 1) := by decide +kernel
theorem dX12_undo_30 : decode cX12_undo 30 = .ok (.invokevirtual 606, 3) := by decide +kernel
theorem dX12_undo_33 : decode cX12_undo 33 = .ok (.iconst 1, 1) := by decide +kernel
theorem dX12_undo_34 : decode cX12_undo 34 = .ok (.ireturn, 1) := by decide +kernel
theorem dX12_unit_0 : decode cX12_unit 0 = .ok (.aload_n 0, 1) := by decide +kernel
theorem dX12_unit_1 : decode cX12_unit 1 = .ok (.getfield 109, 3) := by decide +kernel
theorem dX12_unit_4 : decode cX12_unit 4 = .ok (.aload_n 0, 1) := by decide +kernel
theorem dX12_unit_5 : decode cX12_unit 5 = .ok (.getfield 359, 3) := by decide +kernel
theorem dX12_unit_8 : decode cX12_unit 8 = .ok (.iconst 1, 1) := by decide +kernel
theorem dX12_unit_9 : decode cX12_unit 9 = .ok (.isub, 1) := by decide +kernel
theorem dX12_unit_10 : decode cX12_unit 10 = .ok (.iaload, 1) := by decide +kernel
theorem dX12_unit_11 : decode cX12_unit 11 = .ok (.iconst 3, 1) := by decide +kernel
theorem dX12_unit_12 : decode cX12_unit 12 = .ok (.if_icmp .le 19, 3) := by decide +kernel
theorem dX12_unit_15 : decode cX12_unit 15 = .ok (.aload_n 0, 1) := by decide +kernel
theorem dX12_unit_16 : decode cX12_unit 16 = .ok (.getfield 109, 3) := by decide +kernel
theorem dX12_unit_19 : decode cX12_unit 19 = .ok (.aload_n 0, 1) := by decide +kernel
theorem dX12_unit_20 : decode cX12_unit 20 = .ok (.getfield 359, 3) := by decide +kernel
theorem dX12_unit_23 : decode cX12_unit 23 = .ok (.iconst 1, 1) := by decide +kernel
theorem dX12_unit_24 : decode cX12_unit 24 = .ok (.isub, 1) := by decide +kernel
theorem dX12_unit_25 : decode cX12_unit 25 = .ok (.iaload, 1) := by decide +kernel
theorem dX12_unit_26 : decode cX12_unit 26 = .ok (.bipush 7, 2) := by decide +kernel
theorem dX12_unit_28 : decode cX12_unit 28 = .ok (.if_icmp .lt 7, 3) := by decide +kernel
theorem dX12_unit_31 : decode cX12_unit 31 = .ok (.iconst 1, 1) := by decide +kernel
theorem dX12_unit_32 : decode cX12_unit 32 = .ok (.goto 4, 3) := by decide +kernel
theorem dX12_unit_35 : decode cX12_unit 35 = .ok (.iconst 0, 1) := by decide +kernel
theorem dX12_unit_36 : decode cX12_unit 36 = .ok (.istore_n 1, 1) := by decide +kernel
theorem dX12_unit_37 : decode cX12_unit 37 = .ok (.iload_n 1, 1) := by decide +kernel
theorem dX12_unit_38 : decode cX12_unit 38 = .ok (.ifCond .eq 17, 3) := by decide +kernel
theorem dX12_unit_41 : decode cX12_unit 41 = .ok (.aload_n 0, 1) := by decide +kernel
theorem dX12_unit_42 : decode cX12_unit 42 = .ok (.ldc2_w 211, 3) := by decide +kernel
theorem dX12_unit_45 : decode cX12_unit 45 = .ok (.invokevirtual 280, 3) := by decide +kernel
theorem dX12_unit_48 : decode cX12_unit 48 = .ok (.ifCond .eq 7, 3) := by decide +kernel
theorem dX12_unit_51 : decode cX12_unit 51 = .ok (.iconst 1, 1) := by decide +kernel
theorem dX12_unit_52 : decode cX12_unit 52 = .ok (.goto 4, 3) := by decide +kernel
theorem dX12_unit_55 : decode cX12_unit 55 = .ok (.iconst 0, 1) := by decide +kernel
theorem dX12_unit_56 : decode cX12_unit 56 = .ok (.istore_n 2, 1) := by decide +kernel
theorem dX12_unit_57 : decode cX12_unit 57 = .ok (.aload_n 0, 1) := by decide +kernel
theorem dX12_unit_58 : decode cX12_unit 58 = .ok (.bipush 40, 2) := by decide +kernel
theorem dX12_unit_60 : decode cX12_unit 60 = .ok (.invokevirtual 318, 3) := by decide +kernel
theorem dX12_unit_63 : decode cX12_unit 63 = .ok (.istore_n 3, 1) := by decide +kernel
theorem dX12_unit_64 : decode cX12_unit 64 = .ok (.aload_n 0, 1) := by decide +kernel
theorem dX12_unit_65 : decode cX12_unit 65 = .ok (.invokevirtual 374, 3) := by decide +kernel
theorem dX12_unit_68 : decode cX12_unit 68 = .ok (.istore 4, 2) := by decide +kernel
theorem dX12_unit_70 : decode cX12_unit 70 = .ok (.aload_n 0, 1) := by decide +kernel
theorem dX12_unit_71 : decode cX12_unit 71 = .ok (.getfield 45, 3) := by decide +kernel
theorem dX12_unit_74 : decode cX12_unit 74 = .ok (.aload_n 0, 1) := by decide +kernel
theorem dX12_unit_75 : decode cX12_unit 75 = .ok (.getfield 265, 3) := by decide +kernel
theorem dX12_unit_78 : decode cX12_unit 78 = .ok (.iaload, 1) := by decide +kernel
theorem dX12_unit_79 : decode cX12_unit 79 = .ok (.bipush 60, 2) := by decide +kernel
theorem dX12_unit_81 : decode cX12_unit 81 = .ok (.if_icmp .eq 12, 3) := by decide +kernel
theorem dX12_unit_84 : decode cX12_unit 84 = .ok (.aload_n 0, 1) := by decide +kernel
theorem dX12_unit_85 : decode cX12_unit 85 = .ok (.getfield 353, 3) := by decide +kernel
theorem dX12_unit_88 : decode cX12_unit 88 = .ok (.bipush 30, 2) := by decide +kernel
theorem dX12_unit_90 : decode cX12_unit 90 = .ok (.if_icmp .ne 7, 3) := by decide +kernel
theorem dX12_unit_93 : decode cX12_unit 93 = .ok (.iconst 1, 1) := by decide +kernel
theorem dX12_unit_94 : decode cX12_unit 94 = .ok (.goto 4, 3) := by decide +kernel
theorem dX12_unit_97 : decode cX12_unit 97 = .ok (.iconst 0, 1) := by decide +kernel
theorem dX12_unit_98 : decode cX12_unit 98 = .ok (.istore 5, 2) := by decide +kernel
theorem dX12_unit_100 : decode cX12_unit 100 = .ok (.iload_n 2, 1) := by decide +kernel
theorem dX12_unit_101 : decode cX12_unit 101 = .ok (.ifCond .ne 25, 3) := by decide +kernel
theorem dX12_unit_104 : decode cX12_unit 104 = .ok (.iload 4, 2) := by decide +kernel
theorem dX12_unit_106 : decode cX12_unit 106 = .ok (.ifCond .ne 15, 3) := by decide +kernel
theorem dX12_unit_109 : decode cX12_unit 109 = .ok (.aload_n 0, 1) := by decide +kernel
theorem dX12_unit_110 : decode cX12_unit 110 = .ok (.getfield 223, 3) := by decide +kernel
theorem dX12_unit_113 : decode cX12_unit 113 = .ok (.iconst 4, 1) := by decide +kernel
theorem dX12_unit_114 : decode cX12_unit 114 = .ok (.if_icmp .eq 7, 3) := by decide +kernel
theorem dX12_unit_117 : decode cX12_unit 117 = .ok (.iload_n 3, 1) := by decide +kernel
theorem dX12_unit_118 : decode cX12_unit 118 = .ok (.ifCond .eq 25, 3) := by decide +kernel
theorem dX12_unit_121 : decode cX12_unit 121 = .ok (.iload 5, 2) := by decide +kernel
theorem dX12_unit_123 : decode cX12_unit 123 = .ok (.ifCond .ne 20, 3) := by decide +kernel
theorem dX12_unit_126 : decode cX12_unit 126 = .ok (.iload_n 2, 1) := by decide +kernel
theorem dX12_unit_127 : decode cX12_unit 127 = .ok (.ifCond .ne 7, 3) := by decide +kernel
theorem dX12_unit_130 : decode cX12_unit 130 = .ok (.iload_n 3, 1) := by decide +kernel
theorem dX12_unit_131 : decode cX12_unit 131 = .ok (.ifCond .eq 16, 3) := by decide +kernel
theorem dX12_unit_134 : decode cX12_unit 134 = .ok (.aload_n 0, 1) := by decide +kernel
theorem dX12_unit_135 : decode cX12_unit 135 = .ok (.getfield 362, 3) := by decide +kernel
theorem dX12_unit_138 : decode cX12_unit 138 = .ok (.bipush 7, 2) := by decide +kernel
theorem dX12_unit_140 : decode cX12_unit 140 = .ok (.if_icmp .ne 7, 3) := by decide +kernel
theorem dX12_unit_143 : decode cX12_unit 143 = .ok (.aload_n 0, 1) := by decide +kernel
theorem dX12_unit_144 : decode cX12_unit 144 = .ok (.invokevirtual 258, 3) := by decide +kernel
theorem dX12_unit_147 : decode cX12_unit 147 = .ok (.aload_n 0, 1) := by decide +kernel
theorem dX12_unit_148 : decode cX12_unit 148 = .ok (.invokevirtual 251, 3) := by decide +kernel
theorem dX12_unit_151 : decode cX12_unit 151 = .ok (.ifCond .ne 5, 3) := by decide +kernel
theorem dX12_unit_154 : decode cX12_unit 154 = .ok (.iconst 1, 1) := by decide +kernel
theorem dX12_unit_155 : decode cX12_unit 155 = .ok (.ireturn, 1) := by decide +kernel
theorem dX12_unit_156 : decode cX12_unit 156 = .ok (.aload_n 0, 1) := by decide +kernel
theorem dX12_unit_157 : decode cX12_unit 157 = .ok (.getfield 45, 3) := by decide +kernel
theorem dX12_unit_160 : decode cX12_unit 160 = .ok (.aload_n 0, 1) := by decide +kernel
theorem dX12_unit_161 : decode cX12_unit 161 = .ok (.getfield 265, 3) := by decide +kernel
theorem dX12_unit_164 : decode cX12_unit 164 = .ok (.dup2, 1) := by decide +kernel
theorem dX12_unit_165 : decode cX12_unit 165 = .ok (.iaload, 1) := by decide +kernel
theorem dX12_unit_166 : decode cX12_unit 166 = .ok (.iload_n 2, 1) := by decide +kernel
theorem dX12_unit_167 : decode cX12_unit 167 = .ok (.ifCond .eq 7, 3) := by decide +kernel
theorem dX12_unit_170 : decode cX12_unit 170 = .ok (.iconst 0, 1) := by decide +kernel
theorem dX12_unit_171 : decode cX12_unit 171 = .ok (.goto 4, 3) := by decide +kernel
theorem dX12_unit_174 : decode cX12_unit 174 = .ok (.iconst 1, 1) := by decide +kernel
theorem dX12_unit_175 : decode cX12_unit 175 = .ok (.iadd, 1) := by decide +kernel
theorem dX12_unit_176 : decode cX12_unit 176 = .ok (.iastore, 1) := by decide +kernel
theorem dX12_unit_177 : decode cX12_unit 177 = .ok (.aload_n 0, 1) := by decide +kernel
theorem dX12_unit_178 : decode cX12_unit 178 = .ok (.dup, 1) := by decide +kernel
theorem dX12_unit_179 : decode cX12_unit 179 = .ok (.getfield 353, 3) := by decide +kernel
theorem dX12_unit_182 : decode cX12_unit 182 = .ok (.iload_n 2, 1) := by decide +kernel
theorem dX12_unit_183 : decode cX12_unit 183 = .ok (.ifCond .eq 7, 3) := by decide +kernel
theorem dX12_unit_186 : decode cX12_unit 186 = .ok (.iconst 0, 1) := by decide +kernel
theorem dX12_unit_187 : decode cX12_unit 187 = .ok (.goto 4, 3) := by decide +kernel
theorem dX12_unit_190 : decode cX12_unit 190 = .ok (.iconst 1, 1) := by decide +kernel
theorem dX12_unit_191 : decode cX12_unit 191 = .ok (.iadd, 1) := by decide +kernel
theorem dX12_unit_192 : decode cX12_unit 192 = .ok (.putfield 353, 3) := by decide +kernel
theorem dX12_unit_195 : decode cX12_unit 195 = .ok (.iload 4, 2) := by decide +kernel
theorem dX12_unit_197 : decode cX12_unit 197 = .ok (.ifCond .ne 10, 3) := by decide +kernel
theorem dX12_unit_200 : decode cX12_unit 200 = .ok (.aload_n 0, 1) := by decide +kernel
theorem dX12_unit_201 : decode cX12_unit 201 = .ok (.getfield 241, 3) := by decide +kernel
theorem dX12_unit_204 : decode cX12_unit 204 = .ok (.goto 4, 3) := by decide +kernel
theorem dX12_unit_207 : decode cX12_unit 207 = .ok (.iconst 0, 1) := by decide +kernel
theorem dX12_unit_208 : decode cX12_unit 208 = .ok (.istore 6, 2) := by decide +kernel
theorem dX12_unit_210 : decode cX12_unit 210 = .ok (.aload_n 0, 1) := by decide +kernel
theorem dX12_unit_211 : decode cX12_unit 211 = .ok (.invokevirtual 255, 3) := by decide +kernel
theorem dX12_unit_214 : decode cX12_unit 214 = .ok (.iload_n 2, 1) := by decide +kernel
theorem dX12_unit_215 : decode cX12_unit 215 = .ok (.ifCond .ne 7, 3) := by decide +kernel
theorem dX12_unit_218 : decode cX12_unit 218 = .ok (.iload_n 3, 1) := by decide +kernel
theorem dX12_unit_219 : decode cX12_unit 219 = .ok (.ifCond .eq 31, 3) := by decide +kernel
theorem dX12_unit_222 : decode cX12_unit 222 = .ok (.aload_n 0, 1) := by decide +kernel
theorem dX12_unit_223 : decode cX12_unit 223 = .ok (.iload_n 2, 1) := by decide +kernel
theorem dX12_unit_224 : decode cX12_unit 224 = .ok (.ifCond .eq 7, 3) := by decide +kernel
theorem dX12_unit_227 : decode cX12_unit 227 = .ok (.iconst 3, 1) := by decide +kernel
theorem dX12_unit_228 : decode cX12_unit 228 = .ok (.goto 5, 3) := by decide +kernel
theorem dX12_unit_231 : decode cX12_unit 231 = .ok (.bipush 7, 2) := by decide +kernel
theorem dX12_unit_233 : decode cX12_unit 233 = .ok (.bipush 126, 2) := by decide +kernel
theorem dX12_unit_235 : decode cX12_unit 235 = .ok (.invokevirtual 365, 3) := by decide +kernel
theorem dX12_unit_238 : decode cX12_unit 238 = .ok (.aload_n 0, 1) := by decide +kernel
theorem dX12_unit_239 : decode cX12_unit 239 = .ok (.dup, 1) := by decide +kernel
theorem dX12_unit_240 : decode cX12_unit 240 = .ok (.getfield 362, 3) := by decide +kernel
theorem dX12_unit_243 : decode cX12_unit 243 = .ok (.iconst 1, 1) := by decide +kernel
theorem dX12_unit_244 : decode cX12_unit 244 = .ok (.iadd, 1) := by decide +kernel
theorem dX12_unit_245 : decode cX12_unit 245 = .ok (.putfield 362, 3) := by decide +kernel
theorem dX12_unit_248 : decode cX12_unit 248 = .ok (.iconst 1, 1) := by decide +kernel
theorem dX12_unit_249 : decode cX12_unit 249 = .ok (.ireturn, 1) := by decide +kernel
theorem dX12_unit_250 : decode cX12_unit 250 = .ok (.aload_n 0, 1) := by decide +kernel
theorem dX12_unit_251 : decode cX12_unit 251 = .ok (.iload 4, 2) := by decide +kernel
theorem dX12_unit_253 : decode cX12_unit 253 = .ok (.ifCond .ne 8, 3) := by decide +kernel
theorem dX12_unit_256 : decode cX12_unit 256 = .ok (.bipush 110, 2) := by decide +kernel
theorem dX12_unit_258 : decode cX12_unit 258 = .ok (.goto 5, 3) := by decide +kernel
theorem dX12_unit_261 : decode cX12_unit 261 = .ok (.iload 4, 2) := by decide +kernel
theorem dX12_unit_263 : decode cX12_unit 263 = .ok (.iload 6, 2) := by decide +kernel
theorem dX12_unit_265 : decode cX12_unit 265 = .ok (.invokevirtual 377, 3) := by decide +kernel
theorem dX12_unit_268 : decode cX12_unit 268 = .ok (.iconst 0, 1) := by decide +kernel
theorem dX12_unit_269 : decode cX12_unit 269 = .ok (.ireturn, 1) := by decide +kernel
theorem dX12_untell_0 : decode cX12_untell 0 = .ok (.iload_n 1, 1) := by decide +kernel
theorem dX12_untell_1 : decode cX12_untell 1 = .ok (.iconst 0, 1) := by decide +kernel
theorem dX12_untell_2 : decode cX12_untell 2 = .ok (.aload_n 0, 1) := by decide +kernel
theorem dX12_untell_3 : decode cX12_untell 3 = .ok (.getfield 423, 3) := by decide +kernel
theorem dX12_untell_6 : decode cX12_untell 6 = .ok (.iconst 1, 1) := by decide +kernel
theorem dX12_untell_7 : decode cX12_untell 7 = .ok (.isub, 1) := by decide +kernel
theorem dX12_untell_8 : decode cX12_untell 8 = .ok (.invokestatic 407, 3) := by decide +kernel
theorem dX12_untell_11 : decode cX12_untell 11 = .ok (.ifCond .eq 12, 3) := by decide +kernel
theorem dX12_untell_14 : decode cX12_untell 14 = .ok (.aload_n 0, 1) := by decide +kernel
theorem dX12_untell_15 : decode cX12_untell 15 = .ok (.getfield 145, 3) := by decide +kernel
theorem dX12_untell_18 : decode cX12_untell 18 = .ok (.iload_n 1, 1) := by decide +kernel
theorem dX12_untell_19 : decode cX12_untell 19 = .ok (.iaload, 1) := by decide +kernel
theorem dX12_untell_20 : decode cX12_untell 20 = .ok (.ifCond .lt 5, 3) := by decide +kernel
theorem dX12_untell_23 : decode cX12_untell 23 = .ok (.iconst 0, 1) := by decide +kernel
theorem dX12_untell_24 : decode cX12_untell 24 = .ok (.ireturn, 1) := by decide +kernel
theorem dX12_untell_25 : decode cX12_untell 25 = .ok (.aload_n 0, 1) := by decide +kernel
theorem dX12_untell_26 : decode cX12_untell 26 = .ok (.getfield 145, 3) := by decide +kernel
theorem dX12_untell_29 : decode cX12_untell 29 = .ok (.iload_n 1, 1) := by decide +kernel
theorem dX12_untell_30 : decode cX12_untell 30 = .ok (.aload_n 0, 1) := by decide +kernel
theorem dX12_untell_31 : decode cX12_untell 31 = .ok (.getfield 609, 3) := by decide +kernel
theorem dX12_untell_34 : decode cX12_untell 34 = .ok (.iastore, 1) := by decide +kernel
theorem dX12_untell_35 : decode cX12_untell 35 = .ok (.iconst 1, 1) := by decide +kernel
theorem dX12_untell_36 : decode cX12_untell 36 = .ok (.ireturn, 1) := by decide +kernel
theorem dX12_use_0 : decode cX12_use 0 = .ok (.aload_n 0, 1) := by decide +kernel
theorem dX12_use_1 : decode cX12_use 1 = .ok (.getfield 118, 3) := by decide +kernel
theorem dX12_use_4 : decode cX12_use 4 = .ok (.bipush 90, 2) := by decide +kernel
theorem dX12_use_6 : decode cX12_use 6 = .ok (.sipush 137, 3) := by decide +kernel
theorem dX12_use_9 : decode cX12_use 9 = .ok (.aload_n 0, 1) := by decide +kernel
theorem dX12_use_10 : decode cX12_use 10 = .ok (.getfield 118, 3) := by decide +kernel
theorem dX12_use_13 : decode cX12_use 13 = .ok (.bipush 90, 2) := by decide +kernel
theorem dX12_use_15 : decode cX12_use 15 = .ok (.iaload, 1) := by decide +kernel
theorem dX12_use_16 : decode cX12_use 16 = .ok (.imul, 1) := by decide +kernel
theorem dX12_use_17 : decode cX12_use 17 = .ok (.bipush 71, 2) := by decide +kernel
theorem dX12_use_19 : decode cX12_use 19 = .ok (.iadd, 1) := by decide +kernel
theorem dX12_use_20 : decode cX12_use 20 = .ok (.sipush 1000, 3) := by decide +kernel
theorem dX12_use_23 : decode cX12_use 23 = .ok (.irem, 1) := by decide +kernel
theorem dX12_use_24 : decode cX12_use 24 = .ok (.iastore, 1) := by decide +kernel
theorem dX12_use_25 : decode cX12_use 25 = .ok (.aload_n 0, 1) := by decide +kernel
theorem dX12_use_26 : decode cX12_use 26 = .ok (.getfield 118, 3) := by decide +kernel
theorem dX12_use_29 : decode cX12_use 29 = .ok (.bipush 90, 2) := by decide +kernel
theorem dX12_use_31 : decode cX12_use 31 = .ok (.iaload, 1) := by decide +kernel
theorem dX12_use_32 : decode cX12_use 32 = .ok (.aload_n 0, 1) := by decide +kernel
theorem dX12_use_33 : decode cX12_use 33 = .ok (.invokevirtual 414, 3) := by decide +kernel
theorem dX12_use_36 : decode cX12_use 36 = .ok (.irem, 1) := by decide +kernel
theorem dX12_use_37 : decode cX12_use 37 = .ok (.istore_n 2, 1) := by decide +kernel
theorem dX12_use_38 : decode cX12_use 38 = .ok (.aload_n 0, 1) := by decide +kernel
theorem dX12_use_39 : decode cX12_use 39 = .ok (.aload_n 0, 1) := by decide +kernel
theorem dX12_use_40 : decode cX12_use 40 = .ok (.iload_n 1, 1) := by decide +kernel
theorem dX12_use_41 : decode cX12_use 41 = .ok (.iload_n 2, 1) := by decide +kernel
theorem dX12_use_42 : decode cX12_use 42 = .ok (.invokevirtual 444, 3) := by decide +kernel
theorem dX12_use_45 : decode cX12_use 45 = .ok (.putfield 386, 3) := by decide +kernel
theorem dX12_use_48 : decode cX12_use 48 = .ok (.aload_n 0, 1) := by decide +kernel
theorem dX12_use_49 : decode cX12_use 49 = .ok (.iconst (-1), 1) := by decide +kernel
theorem dX12_use_50 : decode cX12_use 50 = .ok (.putfield 389, 3) := by decide +kernel
theorem dX12_use_53 : decode cX12_use 53 = .ok (.iload_n 2, 1) := by decide +kernel
theorem dX12_use_54 : decode cX12_use 54 = .ok (.ifCond .le 15, 3) := by decide +kernel
theorem dX12_use_57 : decode cX12_use 57 = .ok (.aload_n 0, 1) := by decide +kernel
theorem dX12_use_58 : decode cX12_use 58 = .ok (.aload_n 0, 1) := by decide +kernel
theorem dX12_use_59 : decode cX12_use 59 = .ok (.iload_n 1, 1) := by decide +kernel
theorem dX12_use_60 : decode cX12_use 60 = .ok (.iload_n 2, 1) := by decide +kernel
theorem dX12_use_61 : decode cX12_use 61 = .ok (.iconst 1, 1) := by decide +kernel
theorem dX12_use_62 : decode cX12_use 62 = .ok (.isub, 1) := by decide +kernel
theorem dX12_use_63 : decode cX12_use 63 = .ok (.invokevirtual 444, 3) := by decide +kernel
theorem dX12_use_66 : decode cX12_use 66 = .ok (.putfield 389, 3) := by decide +kernel
theorem dX12_use_69 : decode cX12_use 69 = .ok (.iload_n 2, 1) := by decide +kernel
theorem dX12_use_70 : decode cX12_use 70 = .ok (.aload_n 0, 1) := by decide +kernel
theorem dX12_use_71 : decode cX12_use 71 = .ok (.invokevirtual 414, 3) := by decide +kernel
theorem dX12_use_74 : decode cX12_use 74 = .ok (.iconst 1, 1) := by decide +kernel
theorem dX12_use_75 : decode cX12_use 75 = .ok (.isub, 1) := by decide +kernel
theorem dX12_use_76 : decode cX12_use 76 = .ok (.if_icmp .ge 30, 3) := by decide +kernel
theorem dX12_use_79 : decode cX12_use 79 = .ok (.aload_n 0, 1) := by decide +kernel
theorem dX12_use_80 : decode cX12_use 80 = .ok (.iload_n 1, 1) := by decide +kernel
theorem dX12_use_81 : decode cX12_use 81 = .ok (.iload_n 2, 1) := by decide +kernel
theorem dX12_use_82 : decode cX12_use 82 = .ok (.iconst 1, 1) := by decide +kernel
theorem dX12_use_83 : decode cX12_use 83 = .ok (.iadd, 1) := by decide +kernel
theorem dX12_use_84 : decode cX12_use 84 = .ok (.invokevirtual 444, 3) := by decide +kernel
theorem dX12_use_87 : decode cX12_use 87 = .ok (.aload_n 0, 1) := by decide +kernel
theorem dX12_use_88 : decode cX12_use 88 = .ok (.getfield 389, 3) := by decide +kernel
theorem dX12_use_91 : decode cX12_use 91 = .ok (.if_icmp .le 15, 3) := by decide +kernel
theorem dX12_use_94 : decode cX12_use 94 = .ok (.aload_n 0, 1) := by decide +kernel
theorem dX12_use_95 : decode cX12_use 95 = .ok (.aload_n 0, 1) := by decide +kernel
theorem dX12_use_96 : decode cX12_use 96 = .ok (.iload_n 1, 1) := by decide +kernel
theorem dX12_use_97 : decode cX12_use 97 = .ok (.iload_n 2, 1) := by decide +kernel
theorem dX12_use_98 : decode cX12_use 98 = .ok (.iconst 1, 1) := by decide +kernel
theorem dX12_use_99 : decode cX12_use 99 = .ok (.iadd, 1) := by decide +kernel
theorem dX12_use_100 : decode cX12_use 100 = .ok (.invokevirtual 444, 3) := by decide +kernel
theorem dX12_use_103 : decode cX12_use 103 = .ok (.putfield 389, 3) := by decide +kernel
theorem dX12_use_106 : decode cX12_use 106 = .ok (.aload_n 0, 1) := by decide +kernel
theorem dX12_use_107 : decode cX12_use 107 = .ok (.aload_n 0, 1) := by decide +kernel
theorem dX12_use_108 : decode cX12_use 108 = .ok (.getfield 118, 3) := by decide +kernel
theorem dX12_use_111 : decode cX12_use 111 = .ok (.bipush 40, 2) := by decide +kernel
theorem dX12_use_113 : decode cX12_use 113 = .ok (.iload_n 1, 1) := by decide +kernel
theorem dX12_use_114 : decode cX12_use 114 = .ok (.iadd, 1) := by decide +kernel
theorem dX12_use_115 : decode cX12_use 115 = .ok (.iaload, 1) := by decide +kernel
theorem dX12_use_116 : decode cX12_use 116 = .ok (.putfield 392, 3) := by decide +kernel
theorem dX12_use_119 : decode cX12_use 119 = .ok (.aload_n 0, 1) := by decide +kernel
theorem dX12_use_120 : decode cX12_use 120 = .ok (.iload_n 2, 1) := by decide +kernel
theorem dX12_use_121 : decode cX12_use 121 = .ok (.putfield 395, 3) := by decide +kernel
theorem dX12_use_124 : decode cX12_use 124 = .ok (.aload_n 0, 1) := by decide +kernel
theorem dX12_use_125 : decode cX12_use 125 = .ok (.getfield 51, 3) := by decide +kernel
theorem dX12_use_128 : decode cX12_use 128 = .ok (.aload_n 0, 1) := by decide +kernel
theorem dX12_use_129 : decode cX12_use 129 = .ok (.getfield 274, 3) := by decide +kernel
theorem dX12_use_132 : decode cX12_use 132 = .ok (.iaload, 1) := by decide +kernel
theorem dX12_use_133 : decode cX12_use 133 = .ok (.iconst 3, 1) := by decide +kernel
theorem dX12_use_134 : decode cX12_use 134 = .ok (.invokestatic 261, 3) := by decide +kernel
theorem dX12_use_137 : decode cX12_use 137 = .ok (.ifCond .eq 10, 3) := by decide +kernel
theorem dX12_use_140 : decode cX12_use 140 = .ok (.aload_n 0, 1) := by decide +kernel
theorem dX12_use_141 : decode cX12_use 141 = .ok (.invokevirtual 590, 3) := by decide +kernel
theorem dX12_use_144 : decode cX12_use 144 = .ok (.goto 4, 3) := by decide +kernel
theorem dX12_use_147 : decode cX12_use 147 = .ok (.iconst 0, 1) := by decide +kernel
theorem dX12_use_148 : decode cX12_use 148 = .ok (.istore_n 3, 1) := by decide +kernel
theorem dX12_use_149 : decode cX12_use 149 = .ok (.aload_n 0, 1) := by decide +kernel
theorem dX12_use_150 : decode cX12_use 150 = .ok (.getfield 118, 3) := by decide +kernel
theorem dX12_use_153 : decode cX12_use 153 = .ok (.bipush 90, 2) := by decide +kernel
theorem dX12_use_155 : decode cX12_use 155 = .ok (.iaload, 1) := by decide +kernel
theorem dX12_use_156 : decode cX12_use 156 = .ok (.bipush 10, 2) := by decide +kernel
theorem dX12_use_158 : decode cX12_use 158 = .ok (.idiv, 1) := by decide +kernel
theorem dX12_use_159 : decode cX12_use 159 = .ok (.iload_n 3, 1) := by decide +kernel
theorem dX12_use_160 : decode cX12_use 160 = .ok (.if_icmp .ge 10, 3) := by decide +kernel
theorem dX12_use_163 : decode cX12_use 163 = .ok (.aload_n 0, 1) := by decide +kernel
theorem dX12_use_164 : decode cX12_use 164 = .ok (.iload_n 1, 1) := by decide +kernel
theorem dX12_use_165 : decode cX12_use 165 = .ok (.iload_n 2, 1) := by decide +kernel
theorem dX12_use_166 : decode cX12_use 166 = .ok (.invokevirtual 593, 3) := by decide +kernel
theorem dX12_use_169 : decode cX12_use 169 = .ok (.pop, 1) := by decide +kernel
theorem dX12_use_170 : decode cX12_use 170 = .ok (.aload_n 0, 1) := by decide +kernel
theorem dX12_use_171 : decode cX12_use 171 = .ok (.getfield 118, 3) := by decide +kernel
theorem dX12_use_174 : decode cX12_use 174 = .ok (.bipush 40, 2) := by decide +kernel
theorem dX12_use_176 : decode cX12_use 176 = .ok (.iload_n 1, 1) := by decide +kernel
theorem dX12_use_177 : decode cX12_use 177 = .ok (.iadd, 1) := by decide +kernel
theorem dX12_use_178 : decode cX12_use 178 = .ok (.dup2, 1) := by decide +kernel
theorem dX12_use_179 : decode cX12_use 179 = .ok (.iaload, 1) := by decide +kernel
theorem dX12_use_180 : decode cX12_use 180 = .ok (.iconst 1, 1) := by decide +kernel
theorem dX12_use_181 : decode cX12_use 181 = .ok (.iadd, 1) := by decide +kernel
theorem dX12_use_182 : decode cX12_use 182 = .ok (.iastore, 1) := by decide +kernel
theorem dX12_use_183 : decode cX12_use 183 = .ok (.return_, 1) := by decide +kernel
theorem dX12_walk_0 : decode cX12_walk 0 = .ok (.aload_n 0, 1) := by decide +kernel
theorem dX12_walk_1 : decode cX12_walk 1 = .ok (.iload_n 1, 1) := by decide +kernel
theorem dX12_walk_2 : decode cX12_walk 2 = .ok (.invokevirtual 495, 3) := by decide +kernel
theorem dX12_walk_5 : decode cX12_walk 5 = .ok (.ifCond .eq 11, 3) := by decide +kernel
theorem dX12_walk_8 : decode cX12_walk 8 = .ok (.aload_n 0, 1) := by decide +kernel
theorem dX12_walk_9 : decode cX12_walk 9 = .ok (.iload_n 2, 1) := by decide +kernel
theorem dX12_walk_10 : decode cX12_walk 10 = .ok (.invokevirtual 492, 3) := by decide +kernel
theorem dX12_walk_13 : decode cX12_walk 13 = .ok (.ifCond .ne 5, 3) := by decide +kernel
theorem dX12_walk_16 : decode cX12_walk 16 = .ok (.iconst (-1), 1) := by decide +kernel
theorem dX12_walk_17 : decode cX12_walk 17 = .ok (.ireturn, 1) := by decide +kernel
theorem dX12_walk_18 : decode cX12_walk 18 = .ok (.aload_n 0, 1) := by decide +kernel
theorem dX12_walk_19 : decode cX12_walk 19 = .ok (.iload_n 2, 1) := by decide +kernel
theorem dX12_walk_20 : decode cX12_walk 20 = .ok (.aload_n 0, 1) := by decide +kernel
theorem dX12_walk_21 : decode cX12_walk 21 = .ok (.getfield 118, 3) := by decide +kernel
theorem dX12_walk_24 : decode cX12_walk 24 = .ok (.bipush 86, 2) := by decide +kernel
theorem dX12_walk_26 : decode cX12_walk 26 = .ok (.iload_n 1, 1) := by decide +kernel
theorem dX12_walk_27 : decode cX12_walk 27 = .ok (.iadd, 1) := by decide +kernel
theorem dX12_walk_28 : decode cX12_walk 28 = .ok (.iaload, 1) := by decide +kernel
theorem dX12_walk_29 : decode cX12_walk 29 = .ok (.invokevirtual 583, 3) := by decide +kernel
theorem dX12_walk_32 : decode cX12_walk 32 = .ok (.istore_n 3, 1) := by decide +kernel
theorem dX12_walk_33 : decode cX12_walk 33 = .ok (.aload_n 0, 1) := by decide +kernel
theorem dX12_walk_34 : decode cX12_walk 34 = .ok (.getfield 66, 3) := by decide +kernel
theorem dX12_walk_37 : decode cX12_walk 37 = .ok (.bipush 8, 2) := by decide +kernel
theorem dX12_walk_39 : decode cX12_walk 39 = .ok (.aload_n 0, 1) := by decide +kernel
theorem dX12_walk_40 : decode cX12_walk 40 = .ok (.getfield 274, 3) := by decide +kernel
theorem dX12_walk_43 : decode cX12_walk 43 = .ok (.imul, 1) := by decide +kernel
theorem dX12_walk_44 : decode cX12_walk 44 = .ok (.iload_n 2, 1) := by decide +kernel
theorem dX12_walk_45 : decode cX12_walk 45 = .ok (.iadd, 1) := by decide +kernel
theorem dX12_walk_46 : decode cX12_walk 46 = .ok (.iaload, 1) := by decide +kernel
theorem dX12_walk_47 : decode cX12_walk 47 = .ok (.istore 4, 2) := by decide +kernel
theorem dX12_walk_49 : decode cX12_walk 49 = .ok (.iconst 0, 1) := by decide +kernel
theorem dX12_walk_50 : decode cX12_walk 50 = .ok (.istore 5, 2) := by decide +kernel
theorem dX12_walk_52 : decode cX12_walk 52 = .ok (.iload 5, 2) := by decide +kernel
theorem dX12_walk_54 : decode cX12_walk 54 = .ok (.aload_n 0, 1) := by decide +kernel
theorem dX12_walk_55 : decode cX12_walk 55 = .ok (.invokevirtual 404, 3) := by decide +kernel
theorem dX12_walk_58 : decode cX12_walk 58 = .ok (.if_icmp .ge 30, 3) := by decide +kernel
theorem dX12_walk_61 : decode cX12_walk 61 = .ok (.aload_n 0, 1) := by decide +kernel
theorem dX12_walk_62 : decode cX12_walk 62 = .ok (.iload 5, 2) := by decide +kernel
theorem dX12_walk_64 : decode cX12_walk 64 = .ok (.invokevirtual 465, 3) := by decide +kernel
theorem dX12_walk_67 : decode cX12_walk 67 = .ok (.iload_n 1, 1) := by decide +kernel
theorem dX12_walk_68 : decode cX12_walk 68 = .ok (.if_icmp .ne 14, 3) := by decide +kernel
theorem dX12_walk_71 : decode cX12_walk 71 = .ok (.aload_n 0, 1) := by decide +kernel
theorem dX12_walk_72 : decode cX12_walk 72 = .ok (.iload 5, 2) := by decide +kernel
theorem dX12_walk_74 : decode cX12_walk 74 = .ok (.iload 4, 2) := by decide +kernel
theorem dX12_walk_76 : decode cX12_walk 76 = .ok (.invokevirtual 474, 3) := by decide +kernel
theorem dX12_walk_79 : decode cX12_walk 79 = .ok (.ifCond .ne 9, 3) := by decide +kernel
theorem dX12_walk_82 : decode cX12_walk 82 = .ok (.iinc 5 1, 3) := by decide +kernel
theorem dX12_walk_85 : decode cX12_walk 85 = .ok (.goto (-33), 3) := by decide +kernel
theorem dX12_walk_88 : decode cX12_walk 88 = .ok (.iload_n 3, 1) := by decide +kernel
theorem dX12_walk_89 : decode cX12_walk 89 = .ok (.ifCond .lt 12, 3) := by decide +kernel
theorem dX12_walk_92 : decode cX12_walk 92 = .ok (.iload 5, 2) := by decide +kernel
theorem dX12_walk_94 : decode cX12_walk 94 = .ok (.aload_n 0, 1) := by decide +kernel
theorem dX12_walk_95 : decode cX12_walk 95 = .ok (.invokevirtual 404, 3) := by decide +kernel
theorem dX12_walk_98 : decode cX12_walk 98 = .ok (.if_icmp .ne 5, 3) := by decide +kernel
theorem dX12_walk_101 : decode cX12_walk 101 = .ok (.iconst (-1), 1) := by decide +kernel
theorem dX12_walk_102 : decode cX12_walk 102 = .ok (.ireturn, 1) := by decide +kernel
theorem dX12_walk_103 : decode cX12_walk 103 = .ok (.aload_n 0, 1) := by decide +kernel
theorem dX12_walk_104 : decode cX12_walk 104 = .ok (.invokevirtual 600, 3) := by decide +kernel
theorem dX12_walk_107 : decode cX12_walk 107 = .ok (.aload_n 0, 1) := by decide +kernel
theorem dX12_walk_108 : decode cX12_walk 108 = .ok (.iload 5, 2) := by decide +kernel
theorem dX12_walk_110 : decode cX12_walk 110 = .ok (.invokevirtual 596, 3) := by decide +kernel
theorem dX12_walk_113 : decode cX12_walk 113 = .ok (.aload_n 0, 1) := by decide +kernel
theorem dX12_walk_114 : decode cX12_walk 114 = .ok (.getfield 118, 3) := by decide +kernel
theorem dX12_walk_117 : decode cX12_walk 117 = .ok (.bipush 86, 2) := by decide +kernel
theorem dX12_walk_119 : decode cX12_walk 119 = .ok (.iload_n 1, 1) := by decide +kernel
theorem dX12_walk_120 : decode cX12_walk 120 = .ok (.iadd, 1) := by decide +kernel
theorem dX12_walk_121 : decode cX12_walk 121 = .ok (.iload_n 3, 1) := by decide +kernel
theorem dX12_walk_122 : decode cX12_walk 122 = .ok (.iastore, 1) := by decide +kernel
theorem dX12_walk_123 : decode cX12_walk 123 = .ok (.iload_n 3, 1) := by decide +kernel
theorem dX12_walk_124 : decode cX12_walk 124 = .ok (.ireturn, 1) := by decide +kernel
theorem dX12_wide_0 : decode cX12_wide 0 = .ok (.aload_n 0, 1) := by decide +kernel
theorem dX12_wide_1 : decode cX12_wide 1 = .ok (.getfield 20, 3) := by decide +kernel
theorem dX12_wide_4 : decode cX12_wide 4 = .ok (.aload_n 0, 1) := by decide +kernel
theorem dX12_wide_5 : decode cX12_wide 5 = .ok (.getfield 274, 3) := by decide +kernel
theorem dX12_wide_8 : decode cX12_wide 8 = .ok (.iaload, 1) := by decide +kernel
theorem dX12_wide_9 : decode cX12_wide 9 = .ok (.ireturn, 1) := by decide +kernel
theorem dX12_wordHere_0 : decode cX12_wordHere 0 = .ok (.aload_n 0, 1) := by decide +kernel
theorem dX12_wordHere_1 : decode cX12_wordHere 1 = .ok (.ldc2_w 199, 3) := by decide +kernel
theorem dX12_wordHere_4 : decode cX12_wordHere 4 = .ok (.invokevirtual 280, 3) := by decide +kernel
theorem dX12_wordHere_7 : decode cX12_wordHere 7 = .ok (.ifCond .eq 6, 3) := by decide +kernel
theorem dX12_wordHere_10 : decode cX12_wordHere 10 = .ok (.bipush 99, 2) := by decide +kernel
theorem dX12_wordHere_12 : decode cX12_wordHere 12 = .ok (.ireturn, 1) := by decide +kernel
theorem dX12_wordHere_13 : decode cX12_wordHere 13 = .ok (.aload_n 0, 1) := by decide +kernel
theorem dX12_wordHere_14 : decode cX12_wordHere 14 = .ok (.ldc2_w 201, 3) := by decide +kernel
theorem dX12_wordHere_17 : decode cX12_wordHere 17 = .ok (.invokevirtual 280, 3) := by decide +kernel
theorem dX12_wordHere_20 : decode cX12_wordHere 20 = .ok (.ifCond .eq 6, 3) := by decide +kernel
theorem dX12_wordHere_23 : decode cX12_wordHere 23 = .ok (.bipush 98, 2) := by decide +kernel
theorem dX12_wordHere_25 : decode cX12_wordHere 25 = .ok (.ireturn, 1) := by decide +kernel
theorem dX12_wordHere_26 : decode cX12_wordHere 26 = .ok (.aload_n 0, 1) := by decide +kernel
theorem dX12_wordHere_27 : decode cX12_wordHere 27 = .ok (.ldc2_w 203, 3) := by decide +kernel
theorem dX12_wordHere_30 : decode cX12_wordHere 30 = .ok (.invokevirtual 280, 3) := by decide +kernel
theorem dX12_wordHere_33 : decode cX12_wordHere 33 = .ok (.ifCond .eq 6, 3) := by decide +kernel
theorem dX12_wordHere_36 : decode cX12_wordHere 36 = .ok (.bipush 117, 2) := by decide +kernel
theorem dX12_wordHere_38 : decode cX12_wordHere 38 = .ok (.ireturn, 1) := by decide +kernel
theorem dX12_wordHere_39 : decode cX12_wordHere 39 = .ok (.aload_n 0, 1) := by decide +kernel
theorem dX12_wordHere_40 : decode cX12_wordHere 40 = .ok (.ldc2_w 205, 3) := by decide +kernel
theorem dX12_wordHere_43 : decode cX12_wordHere 43 = .ok (.invokevirtual 280, 3) := by decide +kernel
theorem dX12_wordHere_46 : decode cX12_wordHere 46 = .ok (.ifCond .eq 8, 3) := by decide +kernel
theorem dX12_wordHere_49 : decode cX12_wordHere 49 = .ok (.bipush 104, 2) := by decide +kernel
theorem dX12_wordHere_51 : decode cX12_wordHere 51 = .ok (.goto 4, 3) := by decide +kernel
theorem dX12_wordHere_54 : decode cX12_wordHere 54 = .ok (.iconst 0, 1) := by decide +kernel
theorem dX12_wordHere_55 : decode cX12_wordHere 55 = .ok (.ireturn, 1) := by decide +kernel

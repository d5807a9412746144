theorem dX11_count_77 : decode cX11_count 77 = .ok (.iconst 0, 1) := by decide +kernel
theorem dX11_count_78 : decode cX11_count 78 = .ok (.istore 5, 2) := by decide +kernel
theorem dX11_count_80 : decode cX11_count 80 = .ok (.iload 5, 2) := by decide +kernel
theorem dX11_count_82 : decode cX11_count 82 = .ok (.iload_n 1, 1) := by decide +kernel
theorem dX11_count_83 : decode cX11_count 83 = .ok (.if_icmp .gt 116, 3) := by decide +kernel
theorem dX11_count_86 : decode cX11_count 86 = .ok (.lconst 0, 1) := by decide +kernel
theorem dX11_count_87 : decode cX11_count 87 = .ok (.lstore 6, 2) := by decide +kernel
theorem dX11_count_89 : decode cX11_count 89 = .ok (.iconst 0, 1) := by decide +kernel
theorem dX11_count_90 : decode cX11_count 90 = .ok (.istore 8, 2) := by decide +kernel
theorem dX11_count_92 : decode cX11_count 92 = .ok (.iload 8, 2) := by decide +kernel
theorem dX11_count_94 : decode cX11_count 94 = .ok (.aload_n 0, 1) := by decide +kernel
theorem dX11_count_95 : decode cX11_count 95 = .ok (.getfield 15, 3) := by decide +kernel
theorem dX11_count_98 : decode cX11_count 98 = .ok (.iload_n 3, 1) := by decide +kernel
theorem dX11_count_99 : decode cX11_count 99 = .ok (.iaload, 1) := by decide +kernel
theorem dX11_count_100 : decode cX11_count 100 = .ok (.imul, 1) := by decide +kernel
theorem dX11_count_101 : decode cX11_count 101 = .ok (.iload 5, 2) := by decide +kernel
theorem dX11_count_103 : decode cX11_count 103 = .ok (.if_icmp .gt 75, 3) := by decide +kernel
theorem dX11_count_106 : decode cX11_count 106 = .ok (.iload 8, 2) := by decide +kernel
theorem dX11_count_108 : decode cX11_count 108 = .ok (.aload_n 0, 1) := by decide +kernel
theorem dX11_count_109 : decode cX11_count 109 = .ok (.getfield 19, 3) := by decide +kernel
theorem dX11_count_112 : decode cX11_count 112 = .ok (.iload_n 3, 1) := by decide +kernel
theorem dX11_count_113 : decode cX11_count 113 = .ok (.iaload, 1) := by decide +kernel
theorem dX11_count_114 : decode cX11_count 114 = .ok (.imul, 1) := by decide +kernel
theorem dX11_count_115 : decode cX11_count 115 = .ok (.iload 4, 2) := by decide +kernel
theorem dX11_count_117 : decode cX11_count 117 = .ok (.if_icmp .gt 61, 3) := by decide +kernel
theorem dX11_count_120 : decode cX11_count 120 = .ok (.lload 6, 2) := by decide +kernel
theorem dX11_count_122 : decode cX11_count 122 = .ok (.aload_n 0, 1) := by decide +kernel
theorem dX11_count_123 : decode cX11_count 123 = .ok (.getfield 25, 3) := by decide +kernel
theorem dX11_count_126 : decode cX11_count 126 = .ok (.iload_n 3, 1) := by decide +kernel
theorem dX11_count_127 : decode cX11_count 127 = .ok (.laload, 1) := by decide +kernel
theorem dX11_count_128 : decode cX11_count 128 = .ok (.iload 8, 2) := by decide +kernel
theorem dX11_count_130 : decode cX11_count 130 = .ok (.lshr, 1) := by decide +kernel
theorem dX11_count_131 : decode cX11_count 131 = .ok (.lconst 1, 1) := by decide +kernel
theorem dX11_count_132 : decode cX11_count 132 = .ok (.land, 1) := by decide +kernel
theorem dX11_count_133 : decode cX11_count 133 = .ok (.aload_n 0, 1) := by decide +kernel
theorem dX11_count_134 : decode cX11_count 134 = .ok (.getfield 62, 3) := by decide +kernel
theorem dX11_count_137 : decode cX11_count 137 = .ok (.iload_n 3, 1) := by decide +kernel
theorem dX11_count_138 : decode cX11_count 138 = .ok (.iconst 1, 1) := by decide +kernel
theorem dX11_count_139 : decode cX11_count 139 = .ok (.iadd, 1) := by decide +kernel
theorem dX11_count_140 : decode cX11_count 140 = .ok (.iload 5, 2) := by decide +kernel
theorem dX11_count_142 : decode cX11_count 142 = .ok (.iload 8, 2) := by decide +kernel
theorem dX11_count_144 : decode cX11_count 144 = .ok (.aload_n 0, 1) := by decide +kernel
theorem dX11_count_145 : decode cX11_count 145 = .ok (.getfield 15, 3) := by decide +kernel
theorem dX11_count_148 : decode cX11_count 148 = .ok (.iload_n 3, 1) := by decide +kernel
theorem dX11_count_149 : decode cX11_count 149 = .ok (.iaload, 1) := by decide +kernel
theorem dX11_count_150 : decode cX11_count 150 = .ok (.imul, 1) := by decide +kernel
theorem dX11_count_151 : decode cX11_count 151 = .ok (.isub, 1) := by decide +kernel
theorem dX11_count_152 : decode cX11_count 152 = .ok (.iload 4, 2) := by decide +kernel
theorem dX11_count_154 : decode cX11_count 154 = .ok (.iload 8, 2) := by decide +kernel
theorem dX11_count_156 : decode cX11_count 156 = .ok (.aload_n 0, 1) := by decide +kernel
theorem dX11_count_157 : decode cX11_count 157 = .ok (.getfield 19, 3) := by decide +kernel
theorem dX11_count_160 : decode cX11_count 160 = .ok (.iload_n 3, 1) := by decide +kernel
theorem dX11_count_161 : decode cX11_count 161 = .ok (.iaload, 1) := by decide +kernel
theorem dX11_count_162 : decode cX11_count 162 = .ok (.imul, 1) := by decide +kernel
theorem dX11_count_163 : decode cX11_count 163 = .ok (.isub, 1) := by decide +kernel
theorem dX11_count_164 : decode cX11_count 164 = .ok (.invokestatic 171, 3) := by decide +kernel
theorem dX11_count_167 : decode cX11_count 167 = .ok (.laload, 1) := by decide +kernel
theorem dX11_count_168 : decode cX11_count 168 = .ok (.lmul, 1) := by decide +kernel
theorem dX11_count_169 : decode cX11_count 169 = .ok (.ladd, 1) := by decide +kernel
theorem dX11_count_170 : decode cX11_count 170 = .ok (.lstore 6, 2) := by decide +kernel
theorem dX11_count_172 : decode cX11_count 172 = .ok (.iinc 8 1, 3) := by decide +kernel
theorem dX11_count_175 : decode cX11_count 175 = .ok (.goto (-83), 3) := by decide +kernel
theorem dX11_count_178 : decode cX11_count 178 = .ok (.aload_n 0, 1) := by decide +kernel
theorem dX11_count_179 : decode cX11_count 179 = .ok (.getfield 62, 3) := by decide +kernel
theorem dX11_count_182 : decode cX11_count 182 = .ok (.iload_n 3, 1) := by decide +kernel
theorem dX11_count_183 : decode cX11_count 183 = .ok (.iload 5, 2) := by decide +kernel
theorem dX11_count_185 : decode cX11_count 185 = .ok (.iload 4, 2) := by decide +kernel
theorem dX11_count_187 : decode cX11_count 187 = .ok (.invokestatic 171, 3) := by decide +kernel
theorem dX11_count_190 : decode cX11_count 190 = .ok (.lload 6, 2) := by decide +kernel
theorem dX11_count_192 : decode cX11_count 192 = .ok (.lastore, 1) := by decide +kernel
theorem dX11_count_193 : decode cX11_count 193 = .ok (.iinc 5 1, 3) := by decide +kernel
theorem dX11_count_196 : decode cX11_count 196 = .ok (.goto (-116), 3) := by decide +kernel
theorem dX11_count_199 : decode cX11_count 199 = .ok (.iinc 4 1, 3) := by decide +kernel
theorem dX11_count_202 : decode cX11_count 202 = .ok (.goto (-131), 3) := by decide +kernel
theorem dX11_count_205 : decode cX11_count 205 = .ok (.iinc 3 (-1), 3) := by decide +kernel
theorem dX11_count_208 : decode cX11_count 208 = .ok (.goto (-144), 3) := by decide +kernel
theorem dX11_count_211 : decode cX11_count 211 = .ok (.return_, 1) := by decide +kernel
theorem dX11_ways_0 : decode cX11_ways 0 = .ok (.iload_n 1, 1) := by decide +kernel
theorem dX11_ways_1 : decode cX11_ways 1 = .ok (.iload_n 2, 1) := by decide +kernel
theorem dX11_ways_2 : decode cX11_ways 2 = .ok (.bipush 60, 2) := by decide +kernel
theorem dX11_ways_4 : decode cX11_ways 4 = .ok (.invokestatic 175, 3) := by decide +kernel
theorem dX11_ways_7 : decode cX11_ways 7 = .ok (.ifCond .ne 7, 3) := by decide +kernel
theorem dX11_ways_10 : decode cX11_ways 10 = .ok (.ldc2_w 178, 3) := by decide +kernel
theorem dX11_ways_13 : decode cX11_ways 13 = .ok (.lreturn, 1) := by decide +kernel
theorem dX11_ways_14 : decode cX11_ways 14 = .ok (.aload_n 0, 1) := by decide +kernel
theorem dX11_ways_15 : decode cX11_ways 15 = .ok (.iload_n 1, 1) := by decide +kernel
theorem dX11_ways_16 : decode cX11_ways 16 = .ok (.iload_n 2, 1) := by decide +kernel
theorem dX11_ways_17 : decode cX11_ways 17 = .ok (.invokevirtual 180, 3) := by decide +kernel
theorem dX11_ways_20 : decode cX11_ways 20 = .ok (.aload_n 0, 1) := by decide +kernel
theorem dX11_ways_21 : decode cX11_ways 21 = .ok (.getfield 62, 3) := by decide +kernel
theorem dX11_ways_24 : decode cX11_ways 24 = .ok (.iconst 0, 1) := by decide +kernel
theorem dX11_ways_25 : decode cX11_ways 25 = .ok (.iload_n 1, 1) := by decide +kernel
theorem dX11_ways_26 : decode cX11_ways 26 = .ok (.iload_n 2, 1) := by decide +kernel
theorem dX11_ways_27 : decode cX11_ways 27 = .ok (.invokestatic 171, 3) := by decide +kernel
theorem dX11_ways_30 : decode cX11_ways 30 = .ok (.laload, 1) := by decide +kernel
theorem dX11_ways_31 : decode cX11_ways 31 = .ok (.lreturn, 1) := by decide +kernel
theorem dX11_addsPart_0 : decode cX11_addsPart 0 = .ok (.iload_n 2, 1) := by decide +kernel
theorem dX11_addsPart_1 : decode cX11_addsPart 1 = .ok (.istore_n 3, 1) := by decide +kernel
theorem dX11_addsPart_2 : decode cX11_addsPart 2 = .ok (.iload_n 3, 1) := by decide +kernel
theorem dX11_addsPart_3 : decode cX11_addsPart 3 = .ok (.aload_n 0, 1) := by decide +kernel
theorem dX11_addsPart_4 : decode cX11_addsPart 4 = .ok (.getfield 183, 3) := by decide +kernel
theorem dX11_addsPart_7 : decode cX11_addsPart 7 = .ok (.if_icmp .gt 60, 3) := by decide +kernel
theorem dX11_addsPart_10 : decode cX11_addsPart 10 = .ok (.iload_n 1, 1) := by decide +kernel
theorem dX11_addsPart_11 : decode cX11_addsPart 11 = .ok (.istore 4, 2) := by decide +kernel
theorem dX11_addsPart_13 : decode cX11_addsPart 13 = .ok (.iload 4, 2) := by decide +kernel
theorem dX11_addsPart_15 : decode cX11_addsPart 15 = .ok (.aload_n 0, 1) := by decide +kernel
theorem dX11_addsPart_16 : decode cX11_addsPart 16 = .ok (.getfield 186, 3) := by decide +kernel
theorem dX11_addsPart_19 : decode cX11_addsPart 19 = .ok (.if_icmp .gt 42, 3) := by decide +kernel
theorem dX11_addsPart_22 : decode cX11_addsPart 22 = .ok (.aload_n 0, 1) := by decide +kernel
theorem dX11_addsPart_23 : decode cX11_addsPart 23 = .ok (.getfield 65, 3) := by decide +kernel
theorem dX11_addsPart_26 : decode cX11_addsPart 26 = .ok (.sipush 150, 3) := by decide +kernel
theorem dX11_addsPart_29 : decode cX11_addsPart 29 = .ok (.iload_n 3, 1) := by decide +kernel
theorem dX11_addsPart_30 : decode cX11_addsPart 30 = .ok (.imul, 1) := by decide +kernel
theorem dX11_addsPart_31 : decode cX11_addsPart 31 = .ok (.iload 4, 2) := by decide +kernel
theorem dX11_addsPart_33 : decode cX11_addsPart 33 = .ok (.iadd, 1) := by decide +kernel
theorem dX11_addsPart_34 : decode cX11_addsPart 34 = .ok (.dup2, 1) := by decide +kernel
theorem dX11_addsPart_35 : decode cX11_addsPart 35 = .ok (.laload, 1) := by decide +kernel
theorem dX11_addsPart_36 : decode cX11_addsPart 36 = .ok (.aload_n 0, 1) := by decide +kernel
theorem dX11_addsPart_37 : decode cX11_addsPart 37 = .ok (.getfield 65, 3) := by decide +kernel
theorem dX11_addsPart_40 : decode cX11_addsPart 40 = .ok (.sipush 150, 3) := by decide +kernel
theorem dX11_addsPart_43 : decode cX11_addsPart 43 = .ok (.iload_n 3, 1) := by decide +kernel
theorem dX11_addsPart_44 : decode cX11_addsPart 44 = .ok (.iload_n 2, 1) := by decide +kernel
theorem dX11_addsPart_45 : decode cX11_addsPart 45 = .ok (.isub, 1) := by decide +kernel
theorem dX11_addsPart_46 : decode cX11_addsPart 46 = .ok (.imul, 1) := by decide +kernel
theorem dX11_addsPart_47 : decode cX11_addsPart 47 = .ok (.iload 4, 2) := by decide +kernel
theorem dX11_addsPart_49 : decode cX11_addsPart 49 = .ok (.iadd, 1) := by decide +kernel
theorem dX11_addsPart_50 : decode cX11_addsPart 50 = .ok (.iload_n 1, 1) := by decide +kernel
theorem dX11_addsPart_51 : decode cX11_addsPart 51 = .ok (.isub, 1) := by decide +kernel
theorem dX11_addsPart_52 : decode cX11_addsPart 52 = .ok (.laload, 1) := by decide +kernel
theorem dX11_addsPart_53 : decode cX11_addsPart 53 = .ok (.ladd, 1) := by decide +kernel
theorem dX11_addsPart_54 : decode cX11_addsPart 54 = .ok (.lastore, 1) := by decide +kernel
theorem dX11_addsPart_55 : decode cX11_addsPart 55 = .ok (.iinc 4 1, 3) := by decide +kernel
theorem dX11_addsPart_58 : decode cX11_addsPart 58 = .ok (.goto (-45), 3) := by decide +kernel
theorem dX11_addsPart_61 : decode cX11_addsPart 61 = .ok (.iinc 3 1, 3) := by decide +kernel
theorem dX11_addsPart_64 : decode cX11_addsPart 64 = .ok (.goto (-62), 3) := by decide +kernel
theorem dX11_addsPart_67 : decode cX11_addsPart 67 = .ok (.return_, 1) := by decide +kernel
theorem dX11_countFree_0 : decode cX11_countFree 0 = .ok (.aload_n 0, 1) := by decide +kernel
theorem dX11_countFree_1 : decode cX11_countFree 1 = .ok (.iload_n 1, 1) := by decide +kernel
theorem dX11_countFree_2 : decode cX11_countFree 2 = .ok (.putfield 186, 3) := by decide +kernel
theorem dX11_countFree_5 : decode cX11_countFree 5 = .ok (.aload_n 0, 1) := by decide +kernel
theorem dX11_countFree_6 : decode cX11_countFree 6 = .ok (.iload_n 2, 1) := by decide +kernel
theorem dX11_countFree_7 : decode cX11_countFree 7 = .ok (.putfield 183, 3) := by decide +kernel
theorem dX11_countFree_10 : decode cX11_countFree 10 = .ok (.iconst 0, 1) := by decide +kernel
theorem dX11_countFree_11 : decode cX11_countFree 11 = .ok (.istore_n 3, 1) := by decide +kernel
theorem dX11_countFree_12 : decode cX11_countFree 12 = .ok (.iload_n 3, 1) := by decide +kernel
theorem dX11_countFree_13 : decode cX11_countFree 13 = .ok (.iload_n 2, 1) := by decide +kernel
theorem dX11_countFree_14 : decode cX11_countFree 14 = .ok (.if_icmp .gt 49, 3) := by decide +kernel
theorem dX11_countFree_17 : decode cX11_countFree 17 = .ok (.iconst 0, 1) := by decide +kernel
theorem dX11_countFree_18 : decode cX11_countFree 18 = .ok (.istore 4, 2) := by decide +kernel
theorem dX11_countFree_20 : decode cX11_countFree 20 = .ok (.iload 4, 2) := by decide +kernel
theorem dX11_countFree_22 : decode cX11_countFree 22 = .ok (.iload_n 1, 1) := by decide +kernel
theorem dX11_countFree_23 : decode cX11_countFree 23 = .ok (.if_icmp .gt 34, 3) := by decide +kernel
theorem dX11_countFree_26 : decode cX11_countFree 26 = .ok (.aload_n 0, 1) := by decide +kernel
theorem dX11_countFree_27 : decode cX11_countFree 27 = .ok (.getfield 65, 3) := by decide +kernel
theorem dX11_countFree_30 : decode cX11_countFree 30 = .ok (.sipush 150, 3) := by decide +kernel
theorem dX11_countFree_33 : decode cX11_countFree 33 = .ok (.iload_n 3, 1) := by decide +kernel
theorem dX11_countFree_34 : decode cX11_countFree 34 = .ok (.imul, 1) := by decide +kernel
theorem dX11_countFree_35 : decode cX11_countFree 35 = .ok (.iload 4, 2) := by decide +kernel
theorem dX11_countFree_37 : decode cX11_countFree 37 = .ok (.iadd, 1) := by decide +kernel
theorem dX11_countFree_38 : decode cX11_countFree 38 = .ok (.iload 4, 2) := by decide +kernel
theorem dX11_countFree_40 : decode cX11_countFree 40 = .ok (.iload_n 3, 1) := by decide +kernel
theorem dX11_countFree_41 : decode cX11_countFree 41 = .ok (.iadd, 1) := by decide +kernel
theorem dX11_countFree_42 : decode cX11_countFree 42 = .ok (.ifCond .ne 7, 3) := by decide +kernel
theorem dX11_countFree_45 : decode cX11_countFree 45 = .ok (.lconst 1, 1) := by decide +kernel
theorem dX11_countFree_46 : decode cX11_countFree 46 = .ok (.goto 4, 3) := by decide +kernel
theorem dX11_countFree_49 : decode cX11_countFree 49 = .ok (.lconst 0, 1) := by decide +kernel
theorem dX11_countFree_50 : decode cX11_countFree 50 = .ok (.lastore, 1) := by decide +kernel
theorem dX11_countFree_51 : decode cX11_countFree 51 = .ok (.iinc 4 1, 3) := by decide +kernel
theorem dX11_countFree_54 : decode cX11_countFree 54 = .ok (.goto (-34), 3) := by decide +kernel
theorem dX11_countFree_57 : decode cX11_countFree 57 = .ok (.iinc 3 1, 3) := by decide +kernel
theorem dX11_countFree_60 : decode cX11_countFree 60 = .ok (.goto (-48), 3) := by decide +kernel
theorem dX11_countFree_63 : decode cX11_countFree 63 = .ok (.iconst 0, 1) := by decide +kernel
theorem dX11_countFree_64 : decode cX11_countFree 64 = .ok (.istore_n 3, 1) := by decide +kernel
theorem dX11_countFree_65 : decode cX11_countFree 65 = .ok (.iload_n 3, 1) := by decide +kernel
theorem dX11_countFree_66 : decode cX11_countFree 66 = .ok (.aload_n 0, 1) := by decide +kernel
theorem dX11_countFree_67 : decode cX11_countFree 67 = .ok (.getfield 86, 3) := by decide +kernel
theorem dX11_countFree_70 : decode cX11_countFree 70 = .ok (.if_icmp .ge 25, 3) := by decide +kernel
theorem dX11_countFree_73 : decode cX11_countFree 73 = .ok (.aload_n 0, 1) := by decide +kernel
theorem dX11_countFree_74 : decode cX11_countFree 74 = .ok (.aload_n 0, 1) := by decide +kernel
theorem dX11_countFree_75 : decode cX11_countFree 75 = .ok (.getfield 15, 3) := by decide +kernel
theorem dX11_countFree_78 : decode cX11_countFree 78 = .ok (.iload_n 3, 1) := by decide +kernel
theorem dX11_countFree_79 : decode cX11_countFree 79 = .ok (.iaload, 1) := by decide +kernel
theorem dX11_countFree_80 : decode cX11_countFree 80 = .ok (.aload_n 0, 1) := by decide +kernel
theorem dX11_countFree_81 : decode cX11_countFree 81 = .ok (.getfield 19, 3) := by decide +kernel
theorem dX11_countFree_84 : decode cX11_countFree 84 = .ok (.iload_n 3, 1) := by decide +kernel
theorem dX11_countFree_85 : decode cX11_countFree 85 = .ok (.iaload, 1) := by decide +kernel
theorem dX11_countFree_86 : decode cX11_countFree 86 = .ok (.invokevirtual 189, 3) := by decide +kernel
theorem dX11_countFree_89 : decode cX11_countFree 89 = .ok (.iinc 3 1, 3) := by decide +kernel
theorem dX11_countFree_92 : decode cX11_countFree 92 = .ok (.goto (-27), 3) := by decide +kernel
theorem dX11_countFree_95 : decode cX11_countFree 95 = .ok (.return_, 1) := by decide +kernel
theorem dX11_freeAt_0 : decode cX11_freeAt 0 = .ok (.iload_n 1, 1) := by decide +kernel
theorem dX11_freeAt_1 : decode cX11_freeAt 1 = .ok (.ifCond .lt 7, 3) := by decide +kernel
theorem dX11_freeAt_4 : decode cX11_freeAt 4 = .ok (.iload_n 2, 1) := by decide +kernel
theorem dX11_freeAt_5 : decode cX11_freeAt 5 = .ok (.ifCond .ge 7, 3) := by decide +kernel
theorem dX11_freeAt_8 : decode cX11_freeAt 8 = .ok (.lconst 0, 1) := by decide +kernel
theorem dX11_freeAt_9 : decode cX11_freeAt 9 = .ok (.goto 15, 3) := by decide +kernel
theorem dX11_freeAt_12 : decode cX11_freeAt 12 = .ok (.aload_n 0, 1) := by decide +kernel
theorem dX11_freeAt_13 : decode cX11_freeAt 13 = .ok (.getfield 65, 3) := by decide +kernel
theorem dX11_freeAt_16 : decode cX11_freeAt 16 = .ok (.sipush 150, 3) := by decide +kernel
theorem dX11_freeAt_19 : decode cX11_freeAt 19 = .ok (.iload_n 2, 1) := by decide +kernel
theorem dX11_freeAt_20 : decode cX11_freeAt 20 = .ok (.imul, 1) := by decide +kernel
theorem dX11_freeAt_21 : decode cX11_freeAt 21 = .ok (.iload_n 1, 1) := by decide +kernel
theorem dX11_freeAt_22 : decode cX11_freeAt 22 = .ok (.iadd, 1) := by decide +kernel
theorem dX11_freeAt_23 : decode cX11_freeAt 23 = .ok (.laload, 1) := by decide +kernel
theorem dX11_freeAt_24 : decode cX11_freeAt 24 = .ok (.lreturn, 1) := by decide +kernel
theorem dX11_free_0 : decode cX11_free 0 = .ok (.iload_n 1, 1) := by decide +kernel
theorem dX11_free_1 : decode cX11_free 1 = .ok (.iload_n 2, 1) := by decide +kernel
theorem dX11_free_2 : decode cX11_free 2 = .ok (.bipush 60, 2) := by decide +kernel
theorem dX11_free_4 : decode cX11_free 4 = .ok (.invokestatic 175, 3) := by decide +kernel
theorem dX11_free_7 : decode cX11_free 7 = .ok (.ifCond .ne 7, 3) := by decide +kernel
theorem dX11_free_10 : decode cX11_free 10 = .ok (.ldc2_w 178, 3) := by decide +kernel
theorem dX11_free_13 : decode cX11_free 13 = .ok (.lreturn, 1) := by decide +kernel
theorem dX11_free_14 : decode cX11_free 14 = .ok (.aload_n 0, 1) := by decide +kernel
theorem dX11_free_15 : decode cX11_free 15 = .ok (.iload_n 1, 1) := by decide +kernel
theorem dX11_free_16 : decode cX11_free 16 = .ok (.iload_n 2, 1) := by decide +kernel
theorem dX11_free_17 : decode cX11_free 17 = .ok (.invokevirtual 192, 3) := by decide +kernel
theorem dX11_free_20 : decode cX11_free 20 = .ok (.aload_n 0, 1) := by decide +kernel
theorem dX11_free_21 : decode cX11_free 21 = .ok (.iload_n 1, 1) := by decide +kernel
theorem dX11_free_22 : decode cX11_free 22 = .ok (.iload_n 2, 1) := by decide +kernel
theorem dX11_free_23 : decode cX11_free 23 = .ok (.invokevirtual 195, 3) := by decide +kernel
theorem dX11_free_26 : decode cX11_free 26 = .ok (.lreturn, 1) := by decide +kernel
theorem dX11_strict_0 : decode cX11_strict 0 = .ok (.iload_n 1, 1) := by decide +kernel
theorem dX11_strict_1 : decode cX11_strict 1 = .ok (.iload_n 2, 1) := by decide +kernel
theorem dX11_strict_2 : decode cX11_strict 2 = .ok (.bipush 60, 2) := by decide +kernel
theorem dX11_strict_4 : decode cX11_strict 4 = .ok (.invokestatic 175, 3) := by decide +kernel
theorem dX11_strict_7 : decode cX11_strict 7 = .ok (.ifCond .ne 7, 3) := by decide +kernel
theorem dX11_strict_10 : decode cX11_strict 10 = .ok (.ldc2_w 178, 3) := by decide +kernel
theorem dX11_strict_13 : decode cX11_strict 13 = .ok (.lreturn, 1) := by decide +kernel
theorem dX11_strict_14 : decode cX11_strict 14 = .ok (.aload_n 0, 1) := by decide +kernel
theorem dX11_strict_15 : decode cX11_strict 15 = .ok (.iload_n 1, 1) := by decide +kernel
theorem dX11_strict_16 : decode cX11_strict 16 = .ok (.iload_n 2, 1) := by decide +kernel
theorem dX11_strict_17 : decode cX11_strict 17 = .ok (.invokevirtual 192, 3) := by decide +kernel
theorem dX11_strict_20 : decode cX11_strict 20 = .ok (.iconst 0, 1) := by decide +kernel
theorem dX11_strict_21 : decode cX11_strict 21 = .ok (.istore_n 3, 1) := by decide +kernel
theorem dX11_strict_22 : decode cX11_strict 22 = .ok (.iconst 0, 1) := by decide +kernel
theorem dX11_strict_23 : decode cX11_strict 23 = .ok (.istore 4, 2) := by decide +kernel
theorem dX11_strict_25 : decode cX11_strict 25 = .ok (.iconst 0, 1) := by decide +kernel
theorem dX11_strict_26 : decode cX11_strict 26 = .ok (.istore 5, 2) := by decide +kernel
theorem dX11_strict_28 : decode cX11_strict 28 = .ok (.iload 5, 2) := by decide +kernel
theorem dX11_strict_30 : decode cX11_strict 30 = .ok (.aload_n 0, 1) := by decide +kernel
theorem dX11_strict_31 : decode cX11_strict 31 = .ok (.getfield 86, 3) := by decide +kernel
theorem dX11_strict_34 : decode cX11_strict 34 = .ok (.if_icmp .ge 31, 3) := by decide +kernel
theorem dX11_strict_37 : decode cX11_strict 37 = .ok (.iload_n 3, 1) := by decide +kernel
theorem dX11_strict_38 : decode cX11_strict 38 = .ok (.aload_n 0, 1) := by decide +kernel
theorem dX11_strict_39 : decode cX11_strict 39 = .ok (.getfield 15, 3) := by decide +kernel
theorem dX11_strict_42 : decode cX11_strict 42 = .ok (.iload 5, 2) := by decide +kernel
theorem dX11_strict_44 : decode cX11_strict 44 = .ok (.iaload, 1) := by decide +kernel
theorem dX11_strict_45 : decode cX11_strict 45 = .ok (.iadd, 1) := by decide +kernel
theorem dX11_strict_46 : decode cX11_strict 46 = .ok (.istore_n 3, 1) := by decide +kernel
theorem dX11_strict_47 : decode cX11_strict 47 = .ok (.iload 4, 2) := by decide +kernel
theorem dX11_strict_49 : decode cX11_strict 49 = .ok (.aload_n 0, 1) := by decide +kernel
theorem dX11_strict_50 : decode cX11_strict 50 = .ok (.getfield 19, 3) := by decide +kernel
theorem dX11_strict_53 : decode cX11_strict 53 = .ok (.iload 5, 2) := by decide +kernel
theorem dX11_strict_55 : decode cX11_strict 55 = .ok (.iaload, 1) := by decide +kernel
theorem dX11_strict_56 : decode cX11_strict 56 = .ok (.iadd, 1) := by decide +kernel
theorem dX11_strict_57 : decode cX11_strict 57 = .ok (.istore 4, 2) := by decide +kernel
theorem dX11_strict_59 : decode cX11_strict 59 = .ok (.iinc 5 1, 3) := by decide +kernel
theorem dX11_strict_62 : decode cX11_strict 62 = .ok (.goto (-34), 3) := by decide +kernel
theorem dX11_strict_65 : decode cX11_strict 65 = .ok (.aload_n 0, 1) := by decide +kernel
theorem dX11_strict_66 : decode cX11_strict 66 = .ok (.iload_n 1, 1) := by decide +kernel
theorem dX11_strict_67 : decode cX11_strict 67 = .ok (.iload_n 3, 1) := by decide +kernel
theorem dX11_strict_68 : decode cX11_strict 68 = .ok (.isub, 1) := by decide +kernel
theorem dX11_strict_69 : decode cX11_strict 69 = .ok (.iload_n 2, 1) := by decide +kernel
theorem dX11_strict_70 : decode cX11_strict 70 = .ok (.iload 4, 2) := by decide +kernel
theorem dX11_strict_72 : decode cX11_strict 72 = .ok (.isub, 1) := by decide +kernel
theorem dX11_strict_73 : decode cX11_strict 73 = .ok (.invokevirtual 195, 3) := by decide +kernel
theorem dX11_strict_76 : decode cX11_strict 76 = .ok (.lreturn, 1) := by decide +kernel
theorem dX11_way_0 : decode cX11_way 0 = .ok (.iload_n 1, 1) := by decide +kernel
theorem dX11_way_1 : decode cX11_way 1 = .ok (.iload_n 2, 1) := by decide +kernel
theorem dX11_way_2 : decode cX11_way 2 = .ok (.bipush 60, 2) := by decide +kernel
theorem dX11_way_4 : decode cX11_way 4 = .ok (.invokestatic 175, 3) := by decide +kernel
theorem dX11_way_7 : decode cX11_way 7 = .ok (.ifCond .eq 16, 3) := by decide +kernel
theorem dX11_way_10 : decode cX11_way 10 = .ok (.iload_n 3, 1) := by decide +kernel
theorem dX11_way_11 : decode cX11_way 11 = .ok (.ifCond .lt 12, 3) := by decide +kernel
theorem dX11_way_14 : decode cX11_way 14 = .ok (.aload_n 0, 1) := by decide +kernel
theorem dX11_way_15 : decode cX11_way 15 = .ok (.iload 4, 2) := by decide +kernel
theorem dX11_way_17 : decode cX11_way 17 = .ok (.invokevirtual 105, 3) := by decide +kernel
theorem dX11_way_20 : decode cX11_way 20 = .ok (.ifCond .ne 5, 3) := by decide +kernel
theorem dX11_way_23 : decode cX11_way 23 = .ok (.iconst (-1), 1) := by decide +kernel
theorem dX11_way_24 : decode cX11_way 24 = .ok (.ireturn, 1) := by decide +kernel
theorem dX11_way_25 : decode cX11_way 25 = .ok (.aload_n 0, 1) := by decide +kernel
theorem dX11_way_26 : decode cX11_way 26 = .ok (.iload_n 1, 1) := by decide +kernel
theorem dX11_way_27 : decode cX11_way 27 = .ok (.iload_n 2, 1) := by decide +kernel
theorem dX11_way_28 : decode cX11_way 28 = .ok (.invokevirtual 180, 3) := by decide +kernel
theorem dX11_way_31 : decode cX11_way 31 = .ok (.aload_n 0, 1) := by decide +kernel
theorem dX11_way_32 : decode cX11_way 32 = .ok (.getfield 62, 3) := by decide +kernel
theorem dX11_way_35 : decode cX11_way 35 = .ok (.iconst 0, 1) := by decide +kernel
theorem dX11_way_36 : decode cX11_way 36 = .ok (.iload_n 1, 1) := by decide +kernel
theorem dX11_way_37 : decode cX11_way 37 = .ok (.iload_n 2, 1) := by decide +kernel
theorem dX11_way_38 : decode cX11_way 38 = .ok (.invokestatic 171, 3) := by decide +kernel
theorem dX11_way_41 : decode cX11_way 41 = .ok (.laload, 1) := by decide +kernel
theorem dX11_way_42 : decode cX11_way 42 = .ok (.iload_n 3, 1) := by decide +kernel
theorem dX11_way_43 : decode cX11_way 43 = .ok (.i2l, 1) := by decide +kernel
theorem dX11_way_44 : decode cX11_way 44 = .ok (.lcmp, 1) := by decide +kernel
theorem dX11_way_45 : decode cX11_way 45 = .ok (.ifCond .gt 6, 3) := by decide +kernel
theorem dX11_way_48 : decode cX11_way 48 = .ok (.bipush (-3), 2) := by decide +kernel
theorem dX11_way_50 : decode cX11_way 50 = .ok (.ireturn, 1) := by decide +kernel
theorem dX11_way_51 : decode cX11_way 51 = .ok (.iload_n 3, 1) := by decide +kernel
theorem dX11_way_52 : decode cX11_way 52 = .ok (.i2l, 1) := by decide +kernel
theorem dX11_way_53 : decode cX11_way 53 = .ok (.lstore 5, 2) := by decide +kernel
theorem dX11_way_55 : decode cX11_way 55 = .ok (.iload_n 1, 1) := by decide +kernel
theorem dX11_way_56 : decode cX11_way 56 = .ok (.istore 7, 2) := by decide +kernel
theorem dX11_way_58 : decode cX11_way 58 = .ok (.iload_n 2, 1) := by decide +kernel
theorem dX11_way_59 : decode cX11_way 59 = .ok (.istore 8, 2) := by decide +kernel
theorem dX11_way_61 : decode cX11_way 61 = .ok (.iconst 0, 1) := by decide +kernel
theorem dX11_way_62 : decode cX11_way 62 = .ok (.istore 9, 2) := by decide +kernel
theorem dX11_way_64 : decode cX11_way 64 = .ok (.iconst 0, 1) := by decide +kernel
theorem dX11_way_65 : decode cX11_way 65 = .ok (.istore 10, 2) := by decide +kernel
theorem dX11_way_67 : decode cX11_way 67 = .ok (.iload 10, 2) := by decide +kernel
theorem dX11_way_69 : decode cX11_way 69 = .ok (.iload 4, 2) := by decide +kernel
theorem dX11_way_71 : decode cX11_way 71 = .ok (.if_icmp .gt 144, 3) := by decide +kernel
theorem dX11_way_74 : decode cX11_way 74 = .ok (.iconst 0, 1) := by decide +kernel
theorem dX11_way_75 : decode cX11_way 75 = .ok (.istore 9, 2) := by decide +kernel
theorem dX11_way_77 : decode cX11_way 77 = .ok (.aload_n 0, 1) := by decide +kernel
theorem dX11_way_78 : decode cX11_way 78 = .ok (.getfield 25, 3) := by decide +kernel
theorem dX11_way_81 : decode cX11_way 81 = .ok (.iload 10, 2) := by decide +kernel
theorem dX11_way_83 : decode cX11_way 83 = .ok (.laload, 1) := by decide +kernel
theorem dX11_way_84 : decode cX11_way 84 = .ok (.lconst 1, 1) := by decide +kernel
theorem dX11_way_85 : decode cX11_way 85 = .ok (.land, 1) := by decide +kernel
theorem dX11_way_86 : decode cX11_way 86 = .ok (.aload_n 0, 1) := by decide +kernel
theorem dX11_way_87 : decode cX11_way 87 = .ok (.getfield 62, 3) := by decide +kernel
theorem dX11_way_90 : decode cX11_way 90 = .ok (.iload 10, 2) := by decide +kernel
theorem dX11_way_92 : decode cX11_way 92 = .ok (.iconst 1, 1) := by decide +kernel
theorem dX11_way_93 : decode cX11_way 93 = .ok (.iadd, 1) := by decide +kernel
theorem dX11_way_94 : decode cX11_way 94 = .ok (.iload 7, 2) := by decide +kernel
theorem dX11_way_96 : decode cX11_way 96 = .ok (.iload 8, 2) := by decide +kernel
theorem dX11_way_98 : decode cX11_way 98 = .ok (.invokestatic 171, 3) := by decide +kernel
theorem dX11_way_101 : decode cX11_way 101 = .ok (.laload, 1) := by decide +kernel
theorem dX11_way_102 : decode cX11_way 102 = .ok (.lmul, 1) := by decide +kernel
theorem dX11_way_103 : decode cX11_way 103 = .ok (.lstore 11, 2) := by decide +kernel
theorem dX11_way_105 : decode cX11_way 105 = .ok (.lload 11, 2) := by decide +kernel
theorem dX11_way_107 : decode cX11_way 107 = .ok (.lload 5, 2) := by decide +kernel
theorem dX11_way_109 : decode cX11_way 109 = .ok (.lcmp, 1) := by decide +kernel
theorem dX11_way_110 : decode cX11_way 110 = .ok (.ifCond .gt 69, 3) := by decide +kernel
theorem dX11_way_113 : decode cX11_way 113 = .ok (.lload 5, 2) := by decide +kernel
theorem dX11_way_115 : decode cX11_way 115 = .ok (.lload 11, 2) := by decide +kernel
theorem dX11_way_117 : decode cX11_way 117 = .ok (.lsub, 1) := by decide +kernel
theorem dX11_way_118 : decode cX11_way 118 = .ok (.lstore 5, 2) := by decide +kernel
theorem dX11_way_120 : decode cX11_way 120 = .ok (.iinc 9 1, 3) := by decide +kernel
theorem dX11_way_123 : decode cX11_way 123 = .ok (.aload_n 0, 1) := by decide +kernel
theorem dX11_way_124 : decode cX11_way 124 = .ok (.getfield 25, 3) := by decide +kernel
theorem dX11_way_127 : decode cX11_way 127 = .ok (.iload 10, 2) := by decide +kernel
theorem dX11_way_129 : decode cX11_way 129 = .ok (.laload, 1) := by decide +kernel
theorem dX11_way_130 : decode cX11_way 130 = .ok (.iload 9, 2) := by decide +kernel
theorem dX11_way_132 : decode cX11_way 132 = .ok (.lshr, 1) := by decide +kernel
theorem dX11_way_133 : decode cX11_way 133 = .ok (.lconst 1, 1) := by decide +kernel
theorem dX11_way_134 : decode cX11_way 134 = .ok (.land, 1) := by decide +kernel
theorem dX11_way_135 : decode cX11_way 135 = .ok (.aload_n 0, 1) := by decide +kernel
theorem dX11_way_136 : decode cX11_way 136 = .ok (.getfield 62, 3) := by decide +kernel
theorem dX11_way_139 : decode cX11_way 139 = .ok (.iload 10, 2) := by decide +kernel
theorem dX11_way_141 : decode cX11_way 141 = .ok (.iconst 1, 1) := by decide +kernel
theorem dX11_way_142 : decode cX11_way 142 = .ok (.iadd, 1) := by decide +kernel
theorem dX11_way_143 : decode cX11_way 143 = .ok (.iload 7, 2) := by decide +kernel
theorem dX11_way_145 : decode cX11_way 145 = .ok (.iload 9, 2) := by decide +kernel
theorem dX11_way_147 : decode cX11_way 147 = .ok (.aload_n 0, 1) := by decide +kernel
theorem dX11_way_148 : decode cX11_way 148 = .ok (.getfield 15, 3) := by decide +kernel
theorem dX11_way_151 : decode cX11_way 151 = .ok (.iload 10, 2) := by decide +kernel
theorem dX11_way_153 : decode cX11_way 153 = .ok (.iaload, 1) := by decide +kernel
theorem dX11_way_154 : decode cX11_way 154 = .ok (.imul, 1) := by decide +kernel
theorem dX11_way_155 : decode cX11_way 155 = .ok (.isub, 1) := by decide +kernel
theorem dX11_way_156 : decode cX11_way 156 = .ok (.iload 8, 2) := by decide +kernel
theorem dX11_way_158 : decode cX11_way 158 = .ok (.iload 9, 2) := by decide +kernel
theorem dX11_way_160 : decode cX11_way 160 = .ok (.aload_n 0, 1) := by decide +kernel
theorem dX11_way_161 : decode cX11_way 161 = .ok (.getfield 19, 3) := by decide +kernel
theorem dX11_way_164 : decode cX11_way 164 = .ok (.iload 10, 2) := by decide +kernel
theorem dX11_way_166 : decode cX11_way 166 = .ok (.iaload, 1) := by decide +kernel
theorem dX11_way_167 : decode cX11_way 167 = .ok (.imul, 1) := by decide +kernel
theorem dX11_way_168 : decode cX11_way 168 = .ok (.isub, 1) := by decide +kernel
theorem dX11_way_169 : decode cX11_way 169 = .ok (.invokestatic 171, 3) := by decide +kernel
theorem dX11_way_172 : decode cX11_way 172 = .ok (.laload, 1) := by decide +kernel
theorem dX11_way_173 : decode cX11_way 173 = .ok (.lmul, 1) := by decide +kernel
theorem dX11_way_174 : decode cX11_way 174 = .ok (.lstore 11, 2) := by decide +kernel
theorem dX11_way_176 : decode cX11_way 176 = .ok (.goto (-71), 3) := by decide +kernel
theorem dX11_way_179 : decode cX11_way 179 = .ok (.iload 7, 2) := by decide +kernel
theorem dX11_way_181 : decode cX11_way 181 = .ok (.iload 9, 2) := by decide +kernel
theorem dX11_way_183 : decode cX11_way 183 = .ok (.aload_n 0, 1) := by decide +kernel
theorem dX11_way_184 : decode cX11_way 184 = .ok (.getfield 15, 3) := by decide +kernel
theorem dX11_way_187 : decode cX11_way 187 = .ok (.iload 10, 2) := by decide +kernel
theorem dX11_way_189 : decode cX11_way 189 = .ok (.iaload, 1) := by decide +kernel
theorem dX11_way_190 : decode cX11_way 190 = .ok (.imul, 1) := by decide +kernel
theorem dX11_way_191 : decode cX11_way 191 = .ok (.isub, 1) := by decide +kernel
theorem dX11_way_192 : decode cX11_way 192 = .ok (.istore 7, 2) := by decide +kernel
theorem dX11_way_194 : decode cX11_way 194 = .ok (.iload 8, 2) := by decide +kernel
theorem dX11_way_196 : decode cX11_way 196 = .ok (.iload 9, 2) := by decide +kernel
theorem dX11_way_198 : decode cX11_way 198 = .ok (.aload_n 0, 1) := by decide +kernel
theorem dX11_way_199 : decode cX11_way 199 = .ok (.getfield 19, 3) := by decide +kernel
theorem dX11_way_202 : decode cX11_way 202 = .ok (.iload 10, 2) := by decide +kernel
theorem dX11_way_204 : decode cX11_way 204 = .ok (.iaload, 1) := by decide +kernel
theorem dX11_way_205 : decode cX11_way 205 = .ok (.imul, 1) := by decide +kernel
theorem dX11_way_206 : decode cX11_way 206 = .ok (.isub, 1) := by decide +kernel
theorem dX11_way_207 : decode cX11_way 207 = .ok (.istore 8, 2) := by decide +kernel
theorem dX11_way_209 : decode cX11_way 209 = .ok (.iinc 10 1, 3) := by decide +kernel
theorem dX11_way_212 : decode cX11_way 212 = .ok (.goto (-145), 3) := by decide +kernel
theorem dX11_way_215 : decode cX11_way 215 = .ok (.iload 9, 2) := by decide +kernel
theorem dX11_way_217 : decode cX11_way 217 = .ok (.ireturn, 1) := by decide +kernel
theorem dX11_times_0 : decode cX11_times 0 = .ok (.lload_n 0, 1) := by decide +kernel
theorem dX11_times_1 : decode cX11_times 1 = .ok (.ldc2_w 199, 3) := by decide +kernel
theorem dX11_times_4 : decode cX11_times 4 = .ok (.lcmp, 1) := by decide +kernel
theorem dX11_times_5 : decode cX11_times 5 = .ok (.ifCond .eq 21, 3) := by decide +kernel
theorem dX11_times_8 : decode cX11_times 8 = .ok (.lload_n 2, 1) := by decide +kernel
theorem dX11_times_9 : decode cX11_times 9 = .ok (.ldc2_w 199, 3) := by decide +kernel
theorem dX11_times_12 : decode cX11_times 12 = .ok (.lcmp, 1) := by decide +kernel
theorem dX11_times_13 : decode cX11_times 13 = .ok (.ifCond .eq 13, 3) := by decide +kernel
theorem dX11_times_16 : decode cX11_times 16 = .ok (.lload_n 0, 1) := by decide +kernel
theorem dX11_times_17 : decode cX11_times 17 = .ok (.ldc2_w 201, 3) := by decide +kernel
theorem dX11_times_20 : decode cX11_times 20 = .ok (.lload_n 2, 1) := by decide +kernel
theorem dX11_times_21 : decode cX11_times 21 = .ok (.ldiv, 1) := by decide +kernel
theorem dX11_times_22 : decode cX11_times 22 = .ok (.lcmp, 1) := by decide +kernel
theorem dX11_times_23 : decode cX11_times 23 = .ok (.ifCond .le 9, 3) := by decide +kernel
theorem dX11_times_26 : decode cX11_times 26 = .ok (.ldc2_w 199, 3) := by decide +kernel
theorem dX11_times_29 : decode cX11_times 29 = .ok (.goto 6, 3) := by decide +kernel
theorem dX11_times_32 : decode cX11_times 32 = .ok (.lload_n 0, 1) := by decide +kernel
theorem dX11_times_33 : decode cX11_times 33 = .ok (.lload_n 2, 1) := by decide +kernel
theorem dX11_times_34 : decode cX11_times 34 = .ok (.lmul, 1) := by decide +kernel
theorem dX11_times_35 : decode cX11_times 35 = .ok (.lreturn, 1) := by decide +kernel
theorem dX11_both_0 : decode cX11_both 0 = .ok (.lload_n 1, 1) := by decide +kernel
theorem dX11_both_1 : decode cX11_both 1 = .ok (.ldc2_w 149, 3) := by decide +kernel
theorem dX11_both_4 : decode cX11_both 4 = .ok (.lcmp, 1) := by decide +kernel
theorem dX11_both_5 : decode cX11_both 5 = .ok (.ifCond .eq 11, 3) := by decide +kernel
theorem dX11_both_8 : decode cX11_both 8 = .ok (.lload_n 3, 1) := by decide +kernel
theorem dX11_both_9 : decode cX11_both 9 = .ok (.ldc2_w 149, 3) := by decide +kernel
theorem dX11_both_12 : decode cX11_both 12 = .ok (.lcmp, 1) := by decide +kernel
theorem dX11_both_13 : decode cX11_both 13 = .ok (.ifCond .ne 17, 3) := by decide +kernel
theorem dX11_both_16 : decode cX11_both 16 = .ok (.lload_n 1, 1) := by decide +kernel
theorem dX11_both_17 : decode cX11_both 17 = .ok (.ldc2_w 149, 3) := by decide +kernel
theorem dX11_both_20 : decode cX11_both 20 = .ok (.lcmp, 1) := by decide +kernel
theorem dX11_both_21 : decode cX11_both 21 = .ok (.ifCond .ne 7, 3) := by decide +kernel
theorem dX11_both_24 : decode cX11_both 24 = .ok (.lload_n 3, 1) := by decide +kernel
theorem dX11_both_25 : decode cX11_both 25 = .ok (.goto 4, 3) := by decide +kernel
theorem dX11_both_28 : decode cX11_both 28 = .ok (.lload_n 1, 1) := by decide +kernel
theorem dX11_both_29 : decode cX11_both 29 = .ok (.lreturn, 1) := by decide +kernel
theorem dX11_both_30 : decode cX11_both 30 = .ok (.lload_n 1, 1) := by decide +kernel
theorem dX11_both_31 : decode cX11_both 31 = .ok (.ldc2_w 199, 3) := by decide +kernel
theorem dX11_both_34 : decode cX11_both 34 = .ok (.lcmp, 1) := by decide +kernel
theorem dX11_both_35 : decode cX11_both 35 = .ok (.ifCond .eq 11, 3) := by decide +kernel
theorem dX11_both_38 : decode cX11_both 38 = .ok (.lload_n 3, 1) := by decide +kernel
theorem dX11_both_39 : decode cX11_both 39 = .ok (.ldc2_w 199, 3) := by decide +kernel
theorem dX11_both_42 : decode cX11_both 42 = .ok (.lcmp, 1) := by decide +kernel
theorem dX11_both_43 : decode cX11_both 43 = .ok (.ifCond .ne 7, 3) := by decide +kernel
theorem dX11_both_46 : decode cX11_both 46 = .ok (.ldc2_w 199, 3) := by decide +kernel
theorem dX11_both_49 : decode cX11_both 49 = .ok (.lreturn, 1) := by decide +kernel
theorem dX11_both_50 : decode cX11_both 50 = .ok (.iload_n 0, 1) := by decide +kernel
theorem dX11_both_51 : decode cX11_both 51 = .ok (.lookupswitch 57 #[(0, 25), (2, 45)], 25) := by decide +kernel
theorem dX11_both_76 : decode cX11_both 76 = .ok (.lload_n 1, 1) := by decide +kernel
theorem dX11_both_77 : decode cX11_both 77 = .ok (.ldc2_w 201, 3) := by decide +kernel
theorem dX11_both_80 : decode cX11_both 80 = .ok (.lload_n 3, 1) := by decide +kernel
theorem dX11_both_81 : decode cX11_both 81 = .ok (.lsub, 1) := by decide +kernel
theorem dX11_both_82 : decode cX11_both 82 = .ok (.lcmp, 1) := by decide +kernel
theorem dX11_both_83 : decode cX11_both 83 = .ok (.ifCond .le 9, 3) := by decide +kernel
theorem dX11_both_86 : decode cX11_both 86 = .ok (.ldc2_w 199, 3) := by decide +kernel
theorem dX11_both_89 : decode cX11_both 89 = .ok (.goto 6, 3) := by decide +kernel
theorem dX11_both_92 : decode cX11_both 92 = .ok (.lload_n 1, 1) := by decide +kernel
theorem dX11_both_93 : decode cX11_both 93 = .ok (.lload_n 3, 1) := by decide +kernel
theorem dX11_both_94 : decode cX11_both 94 = .ok (.ladd, 1) := by decide +kernel
theorem dX11_both_95 : decode cX11_both 95 = .ok (.lreturn, 1) := by decide +kernel
theorem dX11_both_96 : decode cX11_both 96 = .ok (.lload_n 1, 1) := by decide +kernel
theorem dX11_both_97 : decode cX11_both 97 = .ok (.lload_n 3, 1) := by decide +kernel
theorem dX11_both_98 : decode cX11_both 98 = .ok (.lcmp, 1) := by decide +kernel
theorem dX11_both_99 : decode cX11_both 99 = .ok (.ifCond .ge 7, 3) := by decide +kernel
theorem dX11_both_102 : decode cX11_both 102 = .ok (.lload_n 1, 1) := by decide +kernel
theorem dX11_both_103 : decode cX11_both 103 = .ok (.goto 4, 3) := by decide +kernel
theorem dX11_both_106 : decode cX11_both 106 = .ok (.lload_n 3, 1) := by decide +kernel
theorem dX11_both_107 : decode cX11_both 107 = .ok (.lreturn, 1) := by decide +kernel
theorem dX11_both_108 : decode cX11_both 108 = .ok (.lload_n 1, 1) := by decide +kernel
theorem dX11_both_109 : decode cX11_both 109 = .ok (.lload_n 3, 1) := by decide +kernel
theorem dX11_both_110 : decode cX11_both 110 = .ok (.lcmp, 1) := by decide +kernel
theorem dX11_both_111 : decode cX11_both 111 = .ok (.ifCond .le 7, 3) := by decide +kernel
theorem dX11_both_114 : decode cX11_both 114 = .ok (.lload_n 1, 1) := by decide +kernel
theorem dX11_both_115 : decode cX11_both 115 = .ok (.goto 4, 3) := by decide +kernel
theorem dX11_both_118 : decode cX11_both 118 = .ok (.lload_n 3, 1) := by decide +kernel
theorem dX11_both_119 : decode cX11_both 119 = .ok (.lreturn, 1) := by decide +kernel
theorem dX11_foldAt_0 : decode cX11_foldAt 0 = .ok (.ldc2_w 149, 3) := by decide +kernel
theorem dX11_foldAt_3 : decode cX11_foldAt 3 = .ok (.lstore 5, 2) := by decide +kernel
theorem dX11_foldAt_5 : decode cX11_foldAt 5 = .ok (.lconst 1, 1) := by decide +kernel
theorem dX11_foldAt_6 : decode cX11_foldAt 6 = .ok (.lstore 7, 2) := by decide +kernel
theorem dX11_foldAt_8 : decode cX11_foldAt 8 = .ok (.iconst 0, 1) := by decide +kernel
theorem dX11_foldAt_9 : decode cX11_foldAt 9 = .ok (.istore 9, 2) := by decide +kernel
theorem dX11_foldAt_11 : decode cX11_foldAt 11 = .ok (.iload 9, 2) := by decide +kernel
theorem dX11_foldAt_13 : decode cX11_foldAt 13 = .ok (.aload_n 0, 1) := by decide +kernel
theorem dX11_foldAt_14 : decode cX11_foldAt 14 = .ok (.getfield 15, 3) := by decide +kernel
theorem dX11_foldAt_17 : decode cX11_foldAt 17 = .ok (.iload_n 2, 1) := by decide +kernel
theorem dX11_foldAt_18 : decode cX11_foldAt 18 = .ok (.iaload, 1) := by decide +kernel
theorem dX11_foldAt_19 : decode cX11_foldAt 19 = .ok (.imul, 1) := by decide +kernel
theorem dX11_foldAt_20 : decode cX11_foldAt 20 = .ok (.iload_n 3, 1) := by decide +kernel
theorem dX11_foldAt_21 : decode cX11_foldAt 21 = .ok (.if_icmp .gt 132, 3) := by decide +kernel
theorem dX11_foldAt_24 : decode cX11_foldAt 24 = .ok (.iload 9, 2) := by decide +kernel
theorem dX11_foldAt_26 : decode cX11_foldAt 26 = .ok (.aload_n 0, 1) := by decide +kernel
theorem dX11_foldAt_27 : decode cX11_foldAt 27 = .ok (.getfield 19, 3) := by decide +kernel
theorem dX11_foldAt_30 : decode cX11_foldAt 30 = .ok (.iload_n 2, 1) := by decide +kernel
theorem dX11_foldAt_31 : decode cX11_foldAt 31 = .ok (.iaload, 1) := by decide +kernel
theorem dX11_foldAt_32 : decode cX11_foldAt 32 = .ok (.imul, 1) := by decide +kernel
theorem dX11_foldAt_33 : decode cX11_foldAt 33 = .ok (.iload 4, 2) := by decide +kernel
theorem dX11_foldAt_35 : decode cX11_foldAt 35 = .ok (.if_icmp .gt 118, 3) := by decide +kernel
theorem dX11_foldAt_38 : decode cX11_foldAt 38 = .ok (.aload_n 0, 1) := by decide +kernel
theorem dX11_foldAt_39 : decode cX11_foldAt 39 = .ok (.getfield 62, 3) := by decide +kernel
theorem dX11_foldAt_42 : decode cX11_foldAt 42 = .ok (.iload_n 2, 1) := by decide +kernel
theorem dX11_foldAt_43 : decode cX11_foldAt 43 = .ok (.iconst 1, 1) := by decide +kernel
theorem dX11_foldAt_44 : decode cX11_foldAt 44 = .ok (.iadd, 1) := by decide +kernel
theorem dX11_foldAt_45 : decode cX11_foldAt 45 = .ok (.iload_n 3, 1) := by decide +kernel
theorem dX11_foldAt_46 : decode cX11_foldAt 46 = .ok (.iload 9, 2) := by decide +kernel
theorem dX11_foldAt_48 : decode cX11_foldAt 48 = .ok (.aload_n 0, 1) := by decide +kernel
theorem dX11_foldAt_49 : decode cX11_foldAt 49 = .ok (.getfield 15, 3) := by decide +kernel
theorem dX11_foldAt_52 : decode cX11_foldAt 52 = .ok (.iload_n 2, 1) := by decide +kernel
theorem dX11_foldAt_53 : decode cX11_foldAt 53 = .ok (.iaload, 1) := by decide +kernel
theorem dX11_foldAt_54 : decode cX11_foldAt 54 = .ok (.imul, 1) := by decide +kernel
theorem dX11_foldAt_55 : decode cX11_foldAt 55 = .ok (.isub, 1) := by decide +kernel
theorem dX11_foldAt_56 : decode cX11_foldAt 56 = .ok (.iload 4, 2) := by decide +kernel
theorem dX11_foldAt_58 : decode cX11_foldAt 58 = .ok (.iload 9, 2) := by decide +kernel
theorem dX11_foldAt_60 : decode cX11_foldAt 60 = .ok (.aload_n 0, 1) := by decide +kernel
theorem dX11_foldAt_61 : decode cX11_foldAt 61 = .ok (.getfield 19, 3) := by decide +kernel
theorem dX11_foldAt_64 : decode cX11_foldAt 64 = .ok (.iload_n 2, 1) := by decide +kernel
theorem dX11_foldAt_65 : decode cX11_foldAt 65 = .ok (.iaload, 1) := by decide +kernel
theorem dX11_foldAt_66 : decode cX11_foldAt 66 = .ok (.imul, 1) := by decide +kernel
theorem dX11_foldAt_67 : decode cX11_foldAt 67 = .ok (.isub, 1) := by decide +kernel
theorem dX11_foldAt_68 : decode cX11_foldAt 68 = .ok (.invokestatic 171, 3) := by decide +kernel
theorem dX11_foldAt_71 : decode cX11_foldAt 71 = .ok (.laload, 1) := by decide +kernel
theorem dX11_foldAt_72 : decode cX11_foldAt 72 = .ok (.lstore 10, 2) := by decide +kernel
theorem dX11_foldAt_74 : decode cX11_foldAt 74 = .ok (.aload_n 0, 1) := by decide +kernel
theorem dX11_foldAt_75 : decode cX11_foldAt 75 = .ok (.getfield 25, 3) := by decide +kernel
theorem dX11_foldAt_78 : decode cX11_foldAt 78 = .ok (.iload_n 2, 1) := by decide +kernel
theorem dX11_foldAt_79 : decode cX11_foldAt 79 = .ok (.laload, 1) := by decide +kernel
theorem dX11_foldAt_80 : decode cX11_foldAt 80 = .ok (.iload 9, 2) := by decide +kernel
theorem dX11_foldAt_82 : decode cX11_foldAt 82 = .ok (.lshr, 1) := by decide +kernel
theorem dX11_foldAt_83 : decode cX11_foldAt 83 = .ok (.lconst 1, 1) := by decide +kernel
theorem dX11_foldAt_84 : decode cX11_foldAt 84 = .ok (.land, 1) := by decide +kernel
theorem dX11_foldAt_85 : decode cX11_foldAt 85 = .ok (.lconst 1, 1) := by decide +kernel
theorem dX11_foldAt_86 : decode cX11_foldAt 86 = .ok (.lcmp, 1) := by decide +kernel
theorem dX11_foldAt_87 : decode cX11_foldAt 87 = .ok (.ifCond .ne 46, 3) := by decide +kernel
theorem dX11_foldAt_90 : decode cX11_foldAt 90 = .ok (.lload 10, 2) := by decide +kernel
theorem dX11_foldAt_92 : decode cX11_foldAt 92 = .ok (.ldc2_w 149, 3) := by decide +kernel
theorem dX11_foldAt_95 : decode cX11_foldAt 95 = .ok (.lcmp, 1) := by decide +kernel
theorem dX11_foldAt_96 : decode cX11_foldAt 96 = .ok (.ifCond .eq 37, 3) := by decide +kernel
theorem dX11_foldAt_99 : decode cX11_foldAt 99 = .ok (.iload_n 1, 1) := by decide +kernel
theorem dX11_foldAt_100 : decode cX11_foldAt 100 = .ok (.lload 5, 2) := by decide +kernel
theorem dX11_foldAt_102 : decode cX11_foldAt 102 = .ok (.iload_n 1, 1) := by decide +kernel
theorem dX11_foldAt_103 : decode cX11_foldAt 103 = .ok (.iconst 1, 1) := by decide +kernel
theorem dX11_foldAt_104 : decode cX11_foldAt 104 = .ok (.if_icmp .eq 8, 3) := by decide +kernel
theorem dX11_foldAt_107 : decode cX11_foldAt 107 = .ok (.iload_n 1, 1) := by decide +kernel
theorem dX11_foldAt_108 : decode cX11_foldAt 108 = .ok (.iconst 2, 1) := by decide +kernel
theorem dX11_foldAt_109 : decode cX11_foldAt 109 = .ok (.if_icmp .ne 12, 3) := by decide +kernel
theorem dX11_foldAt_112 : decode cX11_foldAt 112 = .ok (.lload 10, 2) := by decide +kernel
theorem dX11_foldAt_114 : decode cX11_foldAt 114 = .ok (.iload 9, 2) := by decide +kernel
theorem dX11_foldAt_116 : decode cX11_foldAt 116 = .ok (.i2l, 1) := by decide +kernel
theorem dX11_foldAt_117 : decode cX11_foldAt 117 = .ok (.ladd, 1) := by decide +kernel
theorem dX11_foldAt_118 : decode cX11_foldAt 118 = .ok (.goto 10, 3) := by decide +kernel
theorem dX11_foldAt_121 : decode cX11_foldAt 121 = .ok (.lload 10, 2) := by decide +kernel
theorem dX11_foldAt_123 : decode cX11_foldAt 123 = .ok (.lload 7, 2) := by decide +kernel
theorem dX11_foldAt_125 : decode cX11_foldAt 125 = .ok (.invokestatic 203, 3) := by decide +kernel
theorem dX11_foldAt_128 : decode cX11_foldAt 128 = .ok (.invokestatic 207, 3) := by decide +kernel
theorem dX11_foldAt_131 : decode cX11_foldAt 131 = .ok (.lstore 5, 2) := by decide +kernel
theorem dX11_foldAt_133 : decode cX11_foldAt 133 = .ok (.lload 7, 2) := by decide +kernel
theorem dX11_foldAt_135 : decode cX11_foldAt 135 = .ok (.aload_n 0, 1) := by decide +kernel
theorem dX11_foldAt_136 : decode cX11_foldAt 136 = .ok (.getfield 22, 3) := by decide +kernel
theorem dX11_foldAt_139 : decode cX11_foldAt 139 = .ok (.iload_n 2, 1) := by decide +kernel
theorem dX11_foldAt_140 : decode cX11_foldAt 140 = .ok (.iaload, 1) := by decide +kernel
theorem dX11_foldAt_141 : decode cX11_foldAt 141 = .ok (.i2l, 1) := by decide +kernel
theorem dX11_foldAt_142 : decode cX11_foldAt 142 = .ok (.invokestatic 203, 3) := by decide +kernel
theorem dX11_foldAt_145 : decode cX11_foldAt 145 = .ok (.lstore 7, 2) := by decide +kernel
theorem dX11_foldAt_147 : decode cX11_foldAt 147 = .ok (.iinc 9 1, 3) := by decide +kernel
theorem dX11_foldAt_150 : decode cX11_foldAt 150 = .ok (.goto (-139), 3) := by decide +kernel
theorem dX11_foldAt_153 : decode cX11_foldAt 153 = .ok (.lload 5, 2) := by decide +kernel
theorem dX11_foldAt_155 : decode cX11_foldAt 155 = .ok (.lreturn, 1) := by decide +kernel
theorem dX11_fold_0 : decode cX11_fold 0 = .ok (.iload_n 1, 1) := by decide +kernel
theorem dX11_fold_1 : decode cX11_fold 1 = .ok (.iconst 0, 1) := by decide +kernel
theorem dX11_fold_2 : decode cX11_fold 2 = .ok (.iconst 3, 1) := by decide +kernel
theorem dX11_fold_3 : decode cX11_fold 3 = .ok (.invokestatic 89, 3) := by decide +kernel
theorem dX11_fold_6 : decode cX11_fold 6 = .ok (.ifCond .eq 13, 3) := by decide +kernel
theorem dX11_fold_9 : decode cX11_fold 9 = .ok (.iload_n 2, 1) := by decide +kernel
theorem dX11_fold_10 : decode cX11_fold 10 = .ok (.iload_n 3, 1) := by decide +kernel
theorem dX11_fold_11 : decode cX11_fold 11 = .ok (.bipush 30, 2) := by decide +kernel
theorem dX11_fold_13 : decode cX11_fold 13 = .ok (.invokestatic 175, 3) := by decide +kernel
theorem dX11_fold_16 : decode cX11_fold 16 = .ok (.ifCond .ne 7, 3) := by decide +kernel
theorem dX11_fold_19 : decode cX11_fold 19 = .ok (.ldc2_w 178, 3) := by decide +kernel
theorem dX11_fold_22 : decode cX11_fold 22 = .ok (.lreturn, 1) := by decide +kernel
theorem dX11_fold_23 : decode cX11_fold 23 = .ok (.iconst 0, 1) := by decide +kernel
theorem dX11_fold_24 : decode cX11_fold 24 = .ok (.istore 4, 2) := by decide +kernel
theorem dX11_fold_26 : decode cX11_fold 26 = .ok (.iload 4, 2) := by decide +kernel
theorem dX11_fold_28 : decode cX11_fold 28 = .ok (.iload_n 2, 1) := by decide +kernel
theorem dX11_fold_29 : decode cX11_fold 29 = .ok (.if_icmp .gt 71, 3) := by decide +kernel
theorem dX11_fold_32 : decode cX11_fold 32 = .ok (.iconst 0, 1) := by decide +kernel
theorem dX11_fold_33 : decode cX11_fold 33 = .ok (.istore 5, 2) := by decide +kernel
theorem dX11_fold_35 : decode cX11_fold 35 = .ok (.iload 5, 2) := by decide +kernel
theorem dX11_fold_37 : decode cX11_fold 37 = .ok (.iload_n 3, 1) := by decide +kernel
theorem dX11_fold_38 : decode cX11_fold 38 = .ok (.if_icmp .gt 56, 3) := by decide +kernel
theorem dX11_fold_41 : decode cX11_fold 41 = .ok (.aload_n 0, 1) := by decide +kernel
theorem dX11_fold_42 : decode cX11_fold 42 = .ok (.getfield 62, 3) := by decide +kernel
theorem dX11_fold_45 : decode cX11_fold 45 = .ok (.aload_n 0, 1) := by decide +kernel
theorem dX11_fold_46 : decode cX11_fold 46 = .ok (.getfield 86, 3) := by decide +kernel
theorem dX11_fold_49 : decode cX11_fold 49 = .ok (.iload 4, 2) := by decide +kernel
theorem dX11_fold_51 : decode cX11_fold 51 = .ok (.iload 5, 2) := by decide +kernel
theorem dX11_fold_53 : decode cX11_fold 53 = .ok (.invokestatic 171, 3) := by decide +kernel
theorem dX11_fold_56 : decode cX11_fold 56 = .ok (.iload 4, 2) := by decide +kernel
theorem dX11_fold_58 : decode cX11_fold 58 = .ok (.ifCond .ne 26, 3) := by decide +kernel
theorem dX11_fold_61 : decode cX11_fold 61 = .ok (.iload 5, 2) := by decide +kernel
theorem dX11_fold_63 : decode cX11_fold 63 = .ok (.ifCond .ne 21, 3) := by decide +kernel
theorem dX11_fold_66 : decode cX11_fold 66 = .ok (.iload_n 1, 1) := by decide +kernel
theorem dX11_fold_67 : decode cX11_fold 67 = .ok (.iconst 1, 1) := by decide +kernel
theorem dX11_fold_68 : decode cX11_fold 68 = .ok (.if_icmp .eq 8, 3) := by decide +kernel
theorem dX11_fold_71 : decode cX11_fold 71 = .ok (.iload_n 1, 1) := by decide +kernel
theorem dX11_fold_72 : decode cX11_fold 72 = .ok (.iconst 2, 1) := by decide +kernel
theorem dX11_fold_73 : decode cX11_fold 73 = .ok (.if_icmp .ne 7, 3) := by decide +kernel
theorem dX11_fold_76 : decode cX11_fold 76 = .ok (.lconst 0, 1) := by decide +kernel
theorem dX11_fold_77 : decode cX11_fold 77 = .ok (.goto 10, 3) := by decide +kernel
theorem dX11_fold_80 : decode cX11_fold 80 = .ok (.lconst 1, 1) := by decide +kernel
theorem dX11_fold_81 : decode cX11_fold 81 = .ok (.goto 6, 3) := by decide +kernel
theorem dX11_fold_84 : decode cX11_fold 84 = .ok (.ldc2_w 149, 3) := by decide +kernel
theorem dX11_fold_87 : decode cX11_fold 87 = .ok (.lastore, 1) := by decide +kernel
theorem dX11_fold_88 : decode cX11_fold 88 = .ok (.iinc 5 1, 3) := by decide +kernel
theorem dX11_fold_91 : decode cX11_fold 91 = .ok (.goto (-56), 3) := by decide +kernel
theorem dX11_fold_94 : decode cX11_fold 94 = .ok (.iinc 4 1, 3) := by decide +kernel
theorem dX11_fold_97 : decode cX11_fold 97 = .ok (.goto (-71), 3) := by decide +kernel
theorem dX11_fold_100 : decode cX11_fold 100 = .ok (.aload_n 0, 1) := by decide +kernel
theorem dX11_fold_101 : decode cX11_fold 101 = .ok (.getfield 86, 3) := by decide +kernel
theorem dX11_fold_104 : decode cX11_fold 104 = .ok (.iconst 1, 1) := by decide +kernel
theorem dX11_fold_105 : decode cX11_fold 105 = .ok (.isub, 1) := by decide +kernel
theorem dX11_fold_106 : decode cX11_fold 106 = .ok (.istore 4, 2) := by decide +kernel
theorem dX11_fold_108 : decode cX11_fold 108 = .ok (.iload 4, 2) := by decide +kernel
theorem dX11_fold_110 : decode cX11_fold 110 = .ok (.ifCond .lt 64, 3) := by decide +kernel
theorem dX11_fold_113 : decode cX11_fold 113 = .ok (.iconst 0, 1) := by decide +kernel
theorem dX11_fold_114 : decode cX11_fold 114 = .ok (.istore 5, 2) := by decide +kernel
theorem dX11_fold_116 : decode cX11_fold 116 = .ok (.iload 5, 2) := by decide +kernel
theorem dX11_fold_118 : decode cX11_fold 118 = .ok (.iload_n 2, 1) := by decide +kernel
theorem dX11_fold_119 : decode cX11_fold 119 = .ok (.if_icmp .gt 49, 3) := by decide +kernel
theorem dX11_fold_122 : decode cX11_fold 122 = .ok (.iconst 0, 1) := by decide +kernel
theorem dX11_fold_123 : decode cX11_fold 123 = .ok (.istore 6, 2) := by decide +kernel
theorem dX11_fold_125 : decode cX11_fold 125 = .ok (.iload 6, 2) := by decide +kernel
theorem dX11_fold_127 : decode cX11_fold 127 = .ok (.iload_n 3, 1) := by decide +kernel
theorem dX11_fold_128 : decode cX11_fold 128 = .ok (.if_icmp .gt 34, 3) := by decide +kernel
theorem dX11_fold_131 : decode cX11_fold 131 = .ok (.aload_n 0, 1) := by decide +kernel
theorem dX11_fold_132 : decode cX11_fold 132 = .ok (.getfield 62, 3) := by decide +kernel
theorem dX11_fold_135 : decode cX11_fold 135 = .ok (.iload 4, 2) := by decide +kernel
theorem dX11_fold_137 : decode cX11_fold 137 = .ok (.iload 5, 2) := by decide +kernel
theorem dX11_fold_139 : decode cX11_fold 139 = .ok (.iload 6, 2) := by decide +kernel
theorem dX11_fold_141 : decode cX11_fold 141 = .ok (.invokestatic 171, 3) := by decide +kernel
theorem dX11_fold_144 : decode cX11_fold 144 = .ok (.aload_n 0, 1) := by decide +kernel
theorem dX11_fold_145 : decode cX11_fold 145 = .ok (.iload_n 1, 1) := by decide +kernel
theorem dX11_fold_146 : decode cX11_fold 146 = .ok (.iload 4, 2) := by decide +kernel
theorem dX11_fold_148 : decode cX11_fold 148 = .ok (.iload 5, 2) := by decide +kernel
theorem dX11_fold_150 : decode cX11_fold 150 = .ok (.iload 6, 2) := by decide +kernel
theorem dX11_fold_152 : decode cX11_fold 152 = .ok (.invokevirtual 211, 3) := by decide +kernel
theorem dX11_fold_155 : decode cX11_fold 155 = .ok (.lastore, 1) := by decide +kernel
theorem dX11_fold_156 : decode cX11_fold 156 = .ok (.iinc 6 1, 3) := by decide +kernel
theorem dX11_fold_159 : decode cX11_fold 159 = .ok (.goto (-34), 3) := by decide +kernel
theorem dX11_fold_162 : decode cX11_fold 162 = .ok (.iinc 5 1, 3) := by decide +kernel
theorem dX11_fold_165 : decode cX11_fold 165 = .ok (.goto (-49), 3) := by decide +kernel
theorem dX11_fold_168 : decode cX11_fold 168 = .ok (.iinc 4 (-1), 3) := by decide +kernel
theorem dX11_fold_171 : decode cX11_fold 171 = .ok (.goto (-63), 3) := by decide +kernel
theorem dX11_fold_174 : decode cX11_fold 174 = .ok (.aload_n 0, 1) := by decide +kernel
theorem dX11_fold_175 : decode cX11_fold 175 = .ok (.getfield 62, 3) := by decide +kernel
theorem dX11_fold_178 : decode cX11_fold 178 = .ok (.iconst 0, 1) := by decide +kernel
theorem dX11_fold_179 : decode cX11_fold 179 = .ok (.iload_n 2, 1) := by decide +kernel
theorem dX11_fold_180 : decode cX11_fold 180 = .ok (.iload_n 3, 1) := by decide +kernel
theorem dX11_fold_181 : decode cX11_fold 181 = .ok (.invokestatic 171, 3) := by decide +kernel
theorem dX11_fold_184 : decode cX11_fold 184 = .ok (.laload, 1) := by decide +kernel
theorem dX11_fold_185 : decode cX11_fold 185 = .ok (.lstore 4, 2) := by decide +kernel
theorem dX11_fold_187 : decode cX11_fold 187 = .ok (.lload 4, 2) := by decide +kernel
theorem dX11_fold_189 : decode cX11_fold 189 = .ok (.ldc2_w 149, 3) := by decide +kernel
theorem dX11_fold_192 : decode cX11_fold 192 = .ok (.lcmp, 1) := by decide +kernel
theorem dX11_fold_193 : decode cX11_fold 193 = .ok (.ifCond .ne 17, 3) := by decide +kernel
theorem dX11_fold_196 : decode cX11_fold 196 = .ok (.iload_n 1, 1) := by decide +kernel
theorem dX11_fold_197 : decode cX11_fold 197 = .ok (.ifCond .ne 7, 3) := by decide +kernel
theorem dX11_fold_200 : decode cX11_fold 200 = .ok (.lconst 0, 1) := by decide +kernel
theorem dX11_fold_201 : decode cX11_fold 201 = .ok (.goto 26, 3) := by decide +kernel
theorem dX11_fold_204 : decode cX11_fold 204 = .ok (.ldc2_w 215, 3) := by decide +kernel
theorem dX11_fold_207 : decode cX11_fold 207 = .ok (.goto 20, 3) := by decide +kernel
theorem dX11_fold_210 : decode cX11_fold 210 = .ok (.lload 4, 2) := by decide +kernel
theorem dX11_fold_212 : decode cX11_fold 212 = .ok (.ldc2_w 199, 3) := by decide +kernel
theorem dX11_fold_215 : decode cX11_fold 215 = .ok (.lcmp, 1) := by decide +kernel
theorem dX11_fold_216 : decode cX11_fold 216 = .ok (.ifCond .ne 9, 3) := by decide +kernel
theorem dX11_fold_219 : decode cX11_fold 219 = .ok (.ldc2_w 217, 3) := by decide +kernel
theorem dX11_fold_222 : decode cX11_fold 222 = .ok (.goto 5, 3) := by decide +kernel
theorem dX11_fold_225 : decode cX11_fold 225 = .ok (.lload 4, 2) := by decide +kernel
theorem dX11_fold_227 : decode cX11_fold 227 = .ok (.lreturn, 1) := by decide +kernel
theorem dX11_common_0 : decode cX11_common 0 = .ok (.iload_n 0, 1) := by decide +kernel
theorem dX11_common_1 : decode cX11_common 1 = .ok (.istore_n 2, 1) := by decide +kernel
theorem dX11_common_2 : decode cX11_common 2 = .ok (.iload_n 1, 1) := by decide +kernel
theorem dX11_common_3 : decode cX11_common 3 = .ok (.istore_n 3, 1) := by decide +kernel
theorem dX11_common_4 : decode cX11_common 4 = .ok (.iload_n 3, 1) := by decide +kernel
theorem dX11_common_5 : decode cX11_common 5 = .ok (.ifCond .eq 16, 3) := by decide +kernel
theorem dX11_common_8 : decode cX11_common 8 = .ok (.iload_n 2, 1) := by decide +kernel
theorem dX11_common_9 : decode cX11_common 9 = .ok (.iload_n 3, 1) := by decide +kernel
theorem dX11_common_10 : decode cX11_common 10 = .ok (.irem, 1) := by decide +kernel
theorem dX11_common_11 : decode cX11_common 11 = .ok (.istore 4, 2) := by decide +kernel
theorem dX11_common_13 : decode cX11_common 13 = .ok (.iload_n 3, 1) := by decide +kernel
theorem dX11_common_14 : decode cX11_common 14 = .ok (.istore_n 2, 1) := by decide +kernel
theorem dX11_common_15 : decode cX11_common 15 = .ok (.iload 4, 2) := by decide +kernel
theorem dX11_common_17 : decode cX11_common 17 = .ok (.istore_n 3, 1) := by decide +kernel
theorem dX11_common_18 : decode cX11_common 18 = .ok (.goto (-14), 3) := by decide +kernel
theorem dX11_common_21 : decode cX11_common 21 = .ok (.iload_n 2, 1) := by decide +kernel
theorem dX11_common_22 : decode cX11_common 22 = .ok (.ireturn, 1) := by decide +kernel
theorem dX11_det_0 : decode cX11_det 0 = .ok (.aload_n 0, 1) := by decide +kernel
theorem dX11_det_1 : decode cX11_det 1 = .ok (.getfield 15, 3) := by decide +kernel
theorem dX11_det_4 : decode cX11_det 4 = .ok (.iload_n 1, 1) := by decide +kernel
theorem dX11_det_5 : decode cX11_det 5 = .ok (.iaload, 1) := by decide +kernel
theorem dX11_det_6 : decode cX11_det 6 = .ok (.aload_n 0, 1) := by decide +kernel
theorem dX11_det_7 : decode cX11_det 7 = .ok (.getfield 19, 3) := by decide +kernel
theorem dX11_det_10 : decode cX11_det 10 = .ok (.iload_n 2, 1) := by decide +kernel
theorem dX11_det_11 : decode cX11_det 11 = .ok (.iaload, 1) := by decide +kernel
theorem dX11_det_12 : decode cX11_det 12 = .ok (.imul, 1) := by decide +kernel
theorem dX11_det_13 : decode cX11_det 13 = .ok (.aload_n 0, 1) := by decide +kernel
theorem dX11_det_14 : decode cX11_det 14 = .ok (.getfield 19, 3) := by decide +kernel
theorem dX11_det_17 : decode cX11_det 17 = .ok (.iload_n 1, 1) := by decide +kernel
theorem dX11_det_18 : decode cX11_det 18 = .ok (.iaload, 1) := by decide +kernel
theorem dX11_det_19 : decode cX11_det 19 = .ok (.aload_n 0, 1) := by decide +kernel
theorem dX11_det_20 : decode cX11_det 20 = .ok (.getfield 15, 3) := by decide +kernel
theorem dX11_det_23 : decode cX11_det 23 = .ok (.iload_n 2, 1) := by decide +kernel
theorem dX11_det_24 : decode cX11_det 24 = .ok (.iaload, 1) := by decide +kernel
theorem dX11_det_25 : decode cX11_det 25 = .ok (.imul, 1) := by decide +kernel
theorem dX11_det_26 : decode cX11_det 26 = .ok (.isub, 1) := by decide +kernel
theorem dX11_det_27 : decode cX11_det 27 = .ok (.ireturn, 1) := by decide +kernel
theorem dX11_findRays_0 : decode cX11_findRays 0 = .ok (.aload_n 0, 1) := by decide +kernel
theorem dX11_findRays_1 : decode cX11_findRays 1 = .ok (.iconst 0, 1) := by decide +kernel
theorem dX11_findRays_2 : decode cX11_findRays 2 = .ok (.putfield 219, 3) := by decide +kernel
theorem dX11_findRays_5 : decode cX11_findRays 5 = .ok (.iconst 0, 1) := by decide +kernel
theorem dX11_findRays_6 : decode cX11_findRays 6 = .ok (.istore_n 1, 1) := by decide +kernel
theorem dX11_findRays_7 : decode cX11_findRays 7 = .ok (.iload_n 1, 1) := by decide +kernel
theorem dX11_findRays_8 : decode cX11_findRays 8 = .ok (.aload_n 0, 1) := by decide +kernel
theorem dX11_findRays_9 : decode cX11_findRays 9 = .ok (.getfield 86, 3) := by decide +kernel
theorem dX11_findRays_12 : decode cX11_findRays 12 = .ok (.if_icmp .ge 208, 3) := by decide +kernel
theorem dX11_findRays_15 : decode cX11_findRays 15 = .ok (.iconst 1, 1) := by decide +kernel
theorem dX11_findRays_16 : decode cX11_findRays 16 = .ok (.istore_n 2, 1) := by decide +kernel
theorem dX11_findRays_17 : decode cX11_findRays 17 = .ok (.iconst 0, 1) := by decide +kernel
theorem dX11_findRays_18 : decode cX11_findRays 18 = .ok (.istore_n 3, 1) := by decide +kernel
theorem dX11_findRays_19 : decode cX11_findRays 19 = .ok (.iconst 0, 1) := by decide +kernel
theorem dX11_findRays_20 : decode cX11_findRays 20 = .ok (.istore 4, 2) := by decide +kernel
theorem dX11_findRays_22 : decode cX11_findRays 22 = .ok (.iload 4, 2) := by decide +kernel
theorem dX11_findRays_24 : decode cX11_findRays 24 = .ok (.aload_n 0, 1) := by decide +kernel
theorem dX11_findRays_25 : decode cX11_findRays 25 = .ok (.getfield 86, 3) := by decide +kernel
theorem dX11_findRays_28 : decode cX11_findRays 28 = .ok (.if_icmp .ge 35, 3) := by decide +kernel
theorem dX11_findRays_31 : decode cX11_findRays 31 = .ok (.iload_n 2, 1) := by decide +kernel
theorem dX11_findRays_32 : decode cX11_findRays 32 = .ok (.ifCond .eq 23, 3) := by decide +kernel
theorem dX11_findRays_35 : decode cX11_findRays 35 = .ok (.iload 4, 2) := by decide +kernel
theorem dX11_findRays_37 : decode cX11_findRays 37 = .ok (.iload_n 1, 1) := by decide +kernel
theorem dX11_findRays_38 : decode cX11_findRays 38 = .ok (.if_icmp .ge 13, 3) := by decide +kernel
theorem dX11_findRays_41 : decode cX11_findRays 41 = .ok (.aload_n 0, 1) := by decide +kernel
theorem dX11_findRays_42 : decode cX11_findRays 42 = .ok (.iload_n 1, 1) := by decide +kernel
theorem dX11_findRays_43 : decode cX11_findRays 43 = .ok (.iload 4, 2) := by decide +kernel
theorem dX11_findRays_45 : decode cX11_findRays 45 = .ok (.invokevirtual 222, 3) := by decide +kernel
theorem dX11_findRays_48 : decode cX11_findRays 48 = .ok (.ifCond .eq 7, 3) := by decide +kernel
theorem dX11_findRays_51 : decode cX11_findRays 51 = .ok (.iconst 1, 1) := by decide +kernel
theorem dX11_findRays_52 : decode cX11_findRays 52 = .ok (.goto 4, 3) := by decide +kernel
theorem dX11_findRays_55 : decode cX11_findRays 55 = .ok (.iconst 0, 1) := by decide +kernel
theorem dX11_findRays_56 : decode cX11_findRays 56 = .ok (.istore_n 2, 1) := by decide +kernel
theorem dX11_findRays_57 : decode cX11_findRays 57 = .ok (.iinc 4 1, 3) := by decide +kernel
theorem dX11_findRays_60 : decode cX11_findRays 60 = .ok (.goto (-38), 3) := by decide +kernel
theorem dX11_findRays_63 : decode cX11_findRays 63 = .ok (.iconst 0, 1) := by decide +kernel
theorem dX11_findRays_64 : decode cX11_findRays 64 = .ok (.istore 4, 2) := by decide +kernel
theorem dX11_findRays_66 : decode cX11_findRays 66 = .ok (.iload 4, 2) := by decide +kernel
theorem dX11_findRays_68 : decode cX11_findRays 68 = .ok (.aload_n 0, 1) := by decide +kernel
theorem dX11_findRays_69 : decode cX11_findRays 69 = .ok (.getfield 86, 3) := by decide +kernel
theorem dX11_findRays_72 : decode cX11_findRays 72 = .ok (.if_icmp .ge 74, 3) := by decide +kernel
theorem dX11_findRays_75 : decode cX11_findRays 75 = .ok (.iconst 1, 1) := by decide +kernel
theorem dX11_findRays_76 : decode cX11_findRays 76 = .ok (.istore 5, 2) := by decide +kernel
theorem dX11_findRays_78 : decode cX11_findRays 78 = .ok (.iconst 0, 1) := by decide +kernel
theorem dX11_findRays_79 : decode cX11_findRays 79 = .ok (.istore 6, 2) := by decide +kernel
theorem dX11_findRays_81 : decode cX11_findRays 81 = .ok (.iload 6, 2) := by decide +kernel
theorem dX11_findRays_83 : decode cX11_findRays 83 = .ok (.iload 4, 2) := by decide +kernel
theorem dX11_findRays_85 : decode cX11_findRays 85 = .ok (.if_icmp .ge 32, 3) := by decide +kernel
theorem dX11_findRays_88 : decode cX11_findRays 88 = .ok (.iload 5, 2) := by decide +kernel
theorem dX11_findRays_90 : decode cX11_findRays 90 = .ok (.ifCond .eq 18, 3) := by decide +kernel
theorem dX11_findRays_93 : decode cX11_findRays 93 = .ok (.aload_n 0, 1) := by decide +kernel
theorem dX11_findRays_94 : decode cX11_findRays 94 = .ok (.iload 4, 2) := by decide +kernel
theorem dX11_findRays_96 : decode cX11_findRays 96 = .ok (.iload 6, 2) := by decide +kernel
theorem dX11_findRays_98 : decode cX11_findRays 98 = .ok (.invokevirtual 222, 3) := by decide +kernel
theorem dX11_findRays_101 : decode cX11_findRays 101 = .ok (.ifCond .eq 7, 3) := by decide +kernel
theorem dX11_findRays_104 : decode cX11_findRays 104 = .ok (.iconst 1, 1) := by decide +kernel
theorem dX11_findRays_105 : decode cX11_findRays 105 = .ok (.goto 4, 3) := by decide +kernel
theorem dX11_findRays_108 : decode cX11_findRays 108 = .ok (.iconst 0, 1) := by decide +kernel
theorem dX11_findRays_109 : decode cX11_findRays 109 = .ok (.istore 5, 2) := by decide +kernel
theorem dX11_findRays_111 : decode cX11_findRays 111 = .ok (.iinc 6 1, 3) := by decide +kernel
theorem dX11_findRays_114 : decode cX11_findRays 114 = .ok (.goto (-33), 3) := by decide +kernel
theorem dX11_findRays_117 : decode cX11_findRays 117 = .ok (.iload_n 3, 1) := by decide +kernel
theorem dX11_findRays_118 : decode cX11_findRays 118 = .ok (.iload 5, 2) := by decide +kernel
theorem dX11_findRays_120 : decode cX11_findRays 120 = .ok (.ifCond .eq 17, 3) := by decide +kernel
theorem dX11_findRays_123 : decode cX11_findRays 123 = .ok (.aload_n 0, 1) := by decide +kernel
theorem dX11_findRays_124 : decode cX11_findRays 124 = .ok (.iload 4, 2) := by decide +kernel
theorem dX11_findRays_126 : decode cX11_findRays 126 = .ok (.iload_n 1, 1) := by decide +kernel
theorem dX11_findRays_127 : decode cX11_findRays 127 = .ok (.invokevirtual 222, 3) := by decide +kernel
theorem dX11_findRays_130 : decode cX11_findRays 130 = .ok (.ifCond .le 7, 3) := by decide +kernel
theorem dX11_findRays_133 : decode cX11_findRays 133 = .ok (.iconst 1, 1) := by decide +kernel
theorem dX11_findRays_134 : decode cX11_findRays 134 = .ok (.goto 4, 3) := by decide +kernel
theorem dX11_findRays_137 : decode cX11_findRays 137 = .ok (.iconst 0, 1) := by decide +kernel
theorem dX11_findRays_138 : decode cX11_findRays 138 = .ok (.iadd, 1) := by decide +kernel
theorem dX11_findRays_139 : decode cX11_findRays 139 = .ok (.istore_n 3, 1) := by decide +kernel
theorem dX11_findRays_140 : decode cX11_findRays 140 = .ok (.iinc 4 1, 3) := by decide +kernel
theorem dX11_findRays_143 : decode cX11_findRays 143 = .ok (.goto (-77), 3) := by decide +kernel
theorem dX11_findRays_146 : decode cX11_findRays 146 = .ok (.iload_n 2, 1) := by decide +kernel
theorem dX11_findRays_147 : decode cX11_findRays 147 = .ok (.ifCond .eq 67, 3) := by decide +kernel
theorem dX11_findRays_150 : decode cX11_findRays 150 = .ok (.aload_n 0, 1) := by decide +kernel
theorem dX11_findRays_151 : decode cX11_findRays 151 = .ok (.getfield 15, 3) := by decide +kernel
theorem dX11_findRays_154 : decode cX11_findRays 154 = .ok (.iload_n 1, 1) := by decide +kernel
theorem dX11_findRays_155 : decode cX11_findRays 155 = .ok (.iaload, 1) := by decide +kernel
theorem dX11_findRays_156 : decode cX11_findRays 156 = .ok (.aload_n 0, 1) := by decide +kernel
theorem dX11_findRays_157 : decode cX11_findRays 157 = .ok (.getfield 19, 3) := by decide +kernel
theorem dX11_findRays_160 : decode cX11_findRays 160 = .ok (.iload_n 1, 1) := by decide +kernel
theorem dX11_findRays_161 : decode cX11_findRays 161 = .ok (.iaload, 1) := by decide +kernel
theorem dX11_findRays_162 : decode cX11_findRays 162 = .ok (.invokestatic 225, 3) := by decide +kernel
theorem dX11_findRays_165 : decode cX11_findRays 165 = .ok (.istore 4, 2) := by decide +kernel
theorem dX11_findRays_167 : decode cX11_findRays 167 = .ok (.aload_n 0, 1) := by decide +kernel
theorem dX11_findRays_168 : decode cX11_findRays 168 = .ok (.getfield 68, 3) := by decide +kernel
theorem dX11_findRays_171 : decode cX11_findRays 171 = .ok (.iload_n 3, 1) := by decide +kernel
theorem dX11_findRays_172 : decode cX11_findRays 172 = .ok (.aload_n 0, 1) := by decide +kernel
theorem dX11_findRays_173 : decode cX11_findRays 173 = .ok (.getfield 15, 3) := by decide +kernel
theorem dX11_findRays_176 : decode cX11_findRays 176 = .ok (.iload_n 1, 1) := by decide +kernel
theorem dX11_findRays_177 : decode cX11_findRays 177 = .ok (.iaload, 1) := by decide +kernel
theorem dX11_findRays_178 : decode cX11_findRays 178 = .ok (.iload 4, 2) := by decide +kernel
theorem dX11_findRays_180 : decode cX11_findRays 180 = .ok (.idiv, 1) := by decide +kernel
theorem dX11_findRays_181 : decode cX11_findRays 181 = .ok (.iastore, 1) := by decide +kernel
theorem dX11_findRays_182 : decode cX11_findRays 182 = .ok (.aload_n 0, 1) := by decide +kernel
theorem dX11_findRays_183 : decode cX11_findRays 183 = .ok (.getfield 71, 3) := by decide +kernel
theorem dX11_findRays_186 : decode cX11_findRays 186 = .ok (.iload_n 3, 1) := by decide +kernel
theorem dX11_findRays_187 : decode cX11_findRays 187 = .ok (.aload_n 0, 1) := by decide +kernel
theorem dX11_findRays_188 : decode cX11_findRays 188 = .ok (.getfield 19, 3) := by decide +kernel
theorem dX11_findRays_191 : decode cX11_findRays 191 = .ok (.iload_n 1, 1) := by decide +kernel
theorem dX11_findRays_192 : decode cX11_findRays 192 = .ok (.iaload, 1) := by decide +kernel
theorem dX11_findRays_193 : decode cX11_findRays 193 = .ok (.iload 4, 2) := by decide +kernel
theorem dX11_findRays_195 : decode cX11_findRays 195 = .ok (.idiv, 1) := by decide +kernel
theorem dX11_findRays_196 : decode cX11_findRays 196 = .ok (.iastore, 1) := by decide +kernel
theorem dX11_findRays_197 : decode cX11_findRays 197 = .ok (.aload_n 0, 1) := by decide +kernel
theorem dX11_findRays_198 : decode cX11_findRays 198 = .ok (.getfield 74, 3) := by decide +kernel
theorem dX11_findRays_201 : decode cX11_findRays 201 = .ok (.iload_n 3, 1) := by decide +kernel
theorem dX11_findRays_202 : decode cX11_findRays 202 = .ok (.iconst 0, 1) := by decide +kernel
theorem dX11_findRays_203 : decode cX11_findRays 203 = .ok (.iastore, 1) := by decide +kernel
theorem dX11_findRays_204 : decode cX11_findRays 204 = .ok (.aload_n 0, 1) := by decide +kernel
theorem dX11_findRays_205 : decode cX11_findRays 205 = .ok (.dup, 1) := by decide +kernel
theorem dX11_findRays_206 : decode cX11_findRays 206 = .ok (.getfield 219, 3) := by decide +kernel
theorem dX11_findRays_209 : decode cX11_findRays 209 = .ok (.iconst 1, 1) := by decide +kernel
theorem dX11_findRays_210 : decode cX11_findRays 210 = .ok (.iadd, 1) := by decide +kernel
theorem dX11_findRays_211 : decode cX11_findRays 211 = .ok (.putfield 219, 3) := by decide +kernel
theorem dX11_findRays_214 : decode cX11_findRays 214 = .ok (.iinc 1 1, 3) := by decide +kernel
theorem dX11_findRays_217 : decode cX11_findRays 217 = .ok (.goto (-210), 3) := by decide +kernel
theorem dX11_findRays_220 : decode cX11_findRays 220 = .ok (.iconst 0, 1) := by decide +kernel
theorem dX11_findRays_221 : decode cX11_findRays 221 = .ok (.istore_n 1, 1) := by decide +kernel
theorem dX11_findRays_222 : decode cX11_findRays 222 = .ok (.iload_n 1, 1) := by decide +kernel
theorem dX11_findRays_223 : decode cX11_findRays 223 = .ok (.aload_n 0, 1) := by decide +kernel
theorem dX11_findRays_224 : decode cX11_findRays 224 = .ok (.getfield 86, 3) := by decide +kernel
theorem dX11_findRays_227 : decode cX11_findRays 227 = .ok (.if_icmp .ge 68, 3) := by decide +kernel
theorem dX11_findRays_230 : decode cX11_findRays 230 = .ok (.iconst 0, 1) := by decide +kernel
theorem dX11_findRays_231 : decode cX11_findRays 231 = .ok (.istore_n 2, 1) := by decide +kernel
theorem dX11_findRays_232 : decode cX11_findRays 232 = .ok (.iload_n 2, 1) := by decide +kernel
theorem dX11_findRays_233 : decode cX11_findRays 233 = .ok (.aload_n 0, 1) := by decide +kernel
theorem dX11_findRays_234 : decode cX11_findRays 234 = .ok (.getfield 219, 3) := by decide +kernel
theorem dX11_findRays_237 : decode cX11_findRays 237 = .ok (.if_icmp .ge 52, 3) := by decide +kernel
theorem dX11_findRays_240 : decode cX11_findRays 240 = .ok (.aload_n 0, 1) := by decide +kernel
theorem dX11_findRays_241 : decode cX11_findRays 241 = .ok (.getfield 74, 3) := by decide +kernel
theorem dX11_findRays_244 : decode cX11_findRays 244 = .ok (.iload_n 2, 1) := by decide +kernel
theorem dX11_findRays_245 : decode cX11_findRays 245 = .ok (.dup2, 1) := by decide +kernel
theorem dX11_findRays_246 : decode cX11_findRays 246 = .ok (.iaload, 1) := by decide +kernel
theorem dX11_findRays_247 : decode cX11_findRays 247 = .ok (.aload_n 0, 1) := by decide +kernel
theorem dX11_findRays_248 : decode cX11_findRays 248 = .ok (.getfield 15, 3) := by decide +kernel
theorem dX11_findRays_251 : decode cX11_findRays 251 = .ok (.iload_n 1, 1) := by decide +kernel
theorem dX11_findRays_252 : decode cX11_findRays 252 = .ok (.iaload, 1) := by decide +kernel
theorem dX11_findRays_253 : decode cX11_findRays 253 = .ok (.aload_n 0, 1) := by decide +kernel
theorem dX11_findRays_254 : decode cX11_findRays 254 = .ok (.getfield 71, 3) := by decide +kernel
theorem dX11_findRays_257 : decode cX11_findRays 257 = .ok (.iload_n 2, 1) := by decide +kernel
theorem dX11_findRays_258 : decode cX11_findRays 258 = .ok (.iaload, 1) := by decide +kernel
theorem dX11_findRays_259 : decode cX11_findRays 259 = .ok (.imul, 1) := by decide +kernel
theorem dX11_findRays_260 : decode cX11_findRays 260 = .ok (.aload_n 0, 1) := by decide +kernel
theorem dX11_findRays_261 : decode cX11_findRays 261 = .ok (.getfield 19, 3) := by decide +kernel
theorem dX11_findRays_264 : decode cX11_findRays 264 = .ok (.iload_n 1, 1) := by decide +kernel
theorem dX11_findRays_265 : decode cX11_findRays 265 = .ok (.iaload, 1) := by decide +kernel
theorem dX11_findRays_266 : decode cX11_findRays 266 = .ok (.aload_n 0, 1) := by decide +kernel
theorem dX11_findRays_267 : decode cX11_findRays 267 = .ok (.getfield 68, 3) := by decide +kernel
theorem dX11_findRays_270 : decode cX11_findRays 270 = .ok (.iload_n 2, 1) := by decide +kernel
theorem dX11_findRays_271 : decode cX11_findRays 271 = .ok (.iaload, 1) := by decide +kernel
theorem dX11_findRays_272 : decode cX11_findRays 272 = .ok (.imul, 1) := by decide +kernel
theorem dX11_findRays_273 : decode cX11_findRays 273 = .ok (.if_icmp .ne 7, 3) := by decide +kernel
theorem dX11_findRays_276 : decode cX11_findRays 276 = .ok (.iconst 1, 1) := by decide +kernel
theorem dX11_findRays_277 : decode cX11_findRays 277 = .ok (.goto 4, 3) := by decide +kernel
theorem dX11_findRays_280 : decode cX11_findRays 280 = .ok (.iconst 0, 1) := by decide +kernel
theorem dX11_findRays_281 : decode cX11_findRays 281 = .ok (.iadd, 1) := by decide +kernel
theorem dX11_findRays_282 : decode cX11_findRays 282 = .ok (.iastore, 1) := by decide +kernel
theorem dX11_findRays_283 : decode cX11_findRays 283 = .ok (.iinc 2 1, 3) := by decide +kernel
theorem dX11_findRays_286 : decode cX11_findRays 286 = .ok (.goto (-54), 3) := by decide +kernel
theorem dX11_findRays_289 : decode cX11_findRays 289 = .ok (.iinc 1 1, 3) := by decide +kernel
theorem dX11_findRays_292 : decode cX11_findRays 292 = .ok (.goto (-70), 3) := by decide +kernel
theorem dX11_findRays_295 : decode cX11_findRays 295 = .ok (.return_, 1) := by decide +kernel
theorem dX11_rayOf_0 : decode cX11_rayOf 0 = .ok (.aload_n 0, 1) := by decide +kernel
theorem dX11_rayOf_1 : decode cX11_rayOf 1 = .ok (.invokevirtual 228, 3) := by decide +kernel
theorem dX11_rayOf_4 : decode cX11_rayOf 4 = .ok (.iconst 0, 1) := by decide +kernel
theorem dX11_rayOf_5 : decode cX11_rayOf 5 = .ok (.istore_n 2, 1) := by decide +kernel
theorem dX11_rayOf_6 : decode cX11_rayOf 6 = .ok (.aload_n 0, 1) := by decide +kernel
theorem dX11_rayOf_7 : decode cX11_rayOf 7 = .ok (.getfield 15, 3) := by decide +kernel
theorem dX11_rayOf_10 : decode cX11_rayOf 10 = .ok (.iload_n 1, 1) := by decide +kernel
theorem dX11_rayOf_11 : decode cX11_rayOf 11 = .ok (.iaload, 1) := by decide +kernel
theorem dX11_rayOf_12 : decode cX11_rayOf 12 = .ok (.aload_n 0, 1) := by decide +kernel
theorem dX11_rayOf_13 : decode cX11_rayOf 13 = .ok (.getfield 71, 3) := by decide +kernel
theorem dX11_rayOf_16 : decode cX11_rayOf 16 = .ok (.iload_n 2, 1) := by decide +kernel
theorem dX11_rayOf_17 : decode cX11_rayOf 17 = .ok (.iaload, 1) := by decide +kernel
theorem dX11_rayOf_18 : decode cX11_rayOf 18 = .ok (.imul, 1) := by decide +kernel
theorem dX11_rayOf_19 : decode cX11_rayOf 19 = .ok (.aload_n 0, 1) := by decide +kernel
theorem dX11_rayOf_20 : decode cX11_rayOf 20 = .ok (.getfield 19, 3) := by decide +kernel
theorem dX11_rayOf_23 : decode cX11_rayOf 23 = .ok (.iload_n 1, 1) := by decide +kernel
theorem dX11_rayOf_24 : decode cX11_rayOf 24 = .ok (.iaload, 1) := by decide +kernel
theorem dX11_rayOf_25 : decode cX11_rayOf 25 = .ok (.aload_n 0, 1) := by decide +kernel
theorem dX11_rayOf_26 : decode cX11_rayOf 26 = .ok (.getfield 68, 3) := by decide +kernel
theorem dX11_rayOf_29 : decode cX11_rayOf 29 = .ok (.iload_n 2, 1) := by decide +kernel
theorem dX11_rayOf_30 : decode cX11_rayOf 30 = .ok (.iaload, 1) := by decide +kernel
theorem dX11_rayOf_31 : decode cX11_rayOf 31 = .ok (.imul, 1) := by decide +kernel
theorem dX11_rayOf_32 : decode cX11_rayOf 32 = .ok (.if_icmp .eq 9, 3) := by decide +kernel
theorem dX11_rayOf_35 : decode cX11_rayOf 35 = .ok (.iinc 2 1, 3) := by decide +kernel
theorem dX11_rayOf_38 : decode cX11_rayOf 38 = .ok (.goto (-32), 3) := by decide +kernel
theorem dX11_rayOf_41 : decode cX11_rayOf 41 = .ok (.iload_n 2, 1) := by decide +kernel
theorem dX11_rayOf_42 : decode cX11_rayOf 42 = .ok (.ireturn, 1) := by decide +kernel
theorem dX11_ray_0 : decode cX11_ray 0 = .ok (.aload_n 0, 1) := by decide +kernel
theorem dX11_ray_1 : decode cX11_ray 1 = .ok (.invokevirtual 228, 3) := by decide +kernel
theorem dX11_ray_4 : decode cX11_ray 4 = .ok (.iload_n 1, 1) := by decide +kernel
theorem dX11_ray_5 : decode cX11_ray 5 = .ok (.iconst 0, 1) := by decide +kernel
theorem dX11_ray_6 : decode cX11_ray 6 = .ok (.aload_n 0, 1) := by decide +kernel
theorem dX11_ray_7 : decode cX11_ray 7 = .ok (.getfield 219, 3) := by decide +kernel
theorem dX11_ray_10 : decode cX11_ray 10 = .ok (.iconst 1, 1) := by decide +kernel
theorem dX11_ray_11 : decode cX11_ray 11 = .ok (.isub, 1) := by decide +kernel
theorem dX11_ray_12 : decode cX11_ray 12 = .ok (.invokestatic 89, 3) := by decide +kernel
theorem dX11_ray_15 : decode cX11_ray 15 = .ok (.ifCond .ne 5, 3) := by decide +kernel
theorem dX11_ray_18 : decode cX11_ray 18 = .ok (.iconst (-1), 1) := by decide +kernel
theorem dX11_ray_19 : decode cX11_ray 19 = .ok (.ireturn, 1) := by decide +kernel
theorem dX11_ray_20 : decode cX11_ray 20 = .ok (.iload_n 2, 1) := by decide +kernel
theorem dX11_ray_21 : decode cX11_ray 21 = .ok (.ifCond .ne 12, 3) := by decide +kernel
theorem dX11_ray_24 : decode cX11_ray 24 = .ok (.aload_n 0, 1) := by decide +kernel
theorem dX11_ray_25 : decode cX11_ray 25 = .ok (.getfield 68, 3) := by decide +kernel
theorem dX11_ray_28 : decode cX11_ray 28 = .ok (.iload_n 1, 1) := by decide +kernel
theorem dX11_ray_29 : decode cX11_ray 29 = .ok (.iaload, 1) := by decide +kernel
theorem dX11_ray_30 : decode cX11_ray 30 = .ok (.goto 32, 3) := by decide +kernel
theorem dX11_ray_33 : decode cX11_ray 33 = .ok (.iload_n 2, 1) := by decide +kernel
theorem dX11_ray_34 : decode cX11_ray 34 = .ok (.iconst 1, 1) := by decide +kernel
theorem dX11_ray_35 : decode cX11_ray 35 = .ok (.if_icmp .ne 12, 3) := by decide +kernel
theorem dX11_ray_38 : decode cX11_ray 38 = .ok (.aload_n 0, 1) := by decide +kernel
theorem dX11_ray_39 : decode cX11_ray 39 = .ok (.getfield 71, 3) := by decide +kernel
theorem dX11_ray_42 : decode cX11_ray 42 = .ok (.iload_n 1, 1) := by decide +kernel
theorem dX11_ray_43 : decode cX11_ray 43 = .ok (.iaload, 1) := by decide +kernel
theorem dX11_ray_44 : decode cX11_ray 44 = .ok (.goto 18, 3) := by decide +kernel
theorem dX11_ray_47 : decode cX11_ray 47 = .ok (.iload_n 2, 1) := by decide +kernel
theorem dX11_ray_48 : decode cX11_ray 48 = .ok (.iconst 2, 1) := by decide +kernel
theorem dX11_ray_49 : decode cX11_ray 49 = .ok (.if_icmp .ne 12, 3) := by decide +kernel
theorem dX11_ray_52 : decode cX11_ray 52 = .ok (.aload_n 0, 1) := by decide +kernel
theorem dX11_ray_53 : decode cX11_ray 53 = .ok (.getfield 74, 3) := by decide +kernel
theorem dX11_ray_56 : decode cX11_ray 56 = .ok (.iload_n 1, 1) := by decide +kernel
theorem dX11_ray_57 : decode cX11_ray 57 = .ok (.iaload, 1) := by decide +kernel
theorem dX11_ray_58 : decode cX11_ray 58 = .ok (.goto 4, 3) := by decide +kernel
theorem dX11_ray_61 : decode cX11_ray 61 = .ok (.iconst (-1), 1) := by decide +kernel
theorem dX11_ray_62 : decode cX11_ray 62 = .ok (.ireturn, 1) := by decide +kernel
theorem dX11_periodNow_0 : decode cX11_periodNow 0 = .ok (.iconst 1, 1) := by decide +kernel
theorem dX11_periodNow_1 : decode cX11_periodNow 1 = .ok (.istore_n 1, 1) := by decide +kernel
theorem dX11_periodNow_2 : decode cX11_periodNow 2 = .ok (.iconst 0, 1) := by decide +kernel
theorem dX11_periodNow_3 : decode cX11_periodNow 3 = .ok (.istore_n 2, 1) := by decide +kernel
theorem dX11_periodNow_4 : decode cX11_periodNow 4 = .ok (.iload_n 2, 1) := by decide +kernel
theorem dX11_periodNow_5 : decode cX11_periodNow 5 = .ok (.aload_n 0, 1) := by decide +kernel
theorem dX11_periodNow_6 : decode cX11_periodNow 6 = .ok (.getfield 86, 3) := by decide +kernel
theorem dX11_periodNow_9 : decode cX11_periodNow 9 = .ok (.if_icmp .ge 70, 3) := by decide +kernel
theorem dX11_periodNow_12 : decode cX11_periodNow 12 = .ok (.iconst 0, 1) := by decide +kernel
theorem dX11_periodNow_13 : decode cX11_periodNow 13 = .ok (.istore_n 3, 1) := by decide +kernel
theorem dX11_periodNow_14 : decode cX11_periodNow 14 = .ok (.iload_n 3, 1) := by decide +kernel
theorem dX11_periodNow_15 : decode cX11_periodNow 15 = .ok (.iload_n 2, 1) := by decide +kernel
theorem dX11_periodNow_16 : decode cX11_periodNow 16 = .ok (.if_icmp .ge 57, 3) := by decide +kernel
theorem dX11_periodNow_19 : decode cX11_periodNow 19 = .ok (.aload_n 0, 1) := by decide +kernel
theorem dX11_periodNow_20 : decode cX11_periodNow 20 = .ok (.iload_n 2, 1) := by decide +kernel
theorem dX11_periodNow_21 : decode cX11_periodNow 21 = .ok (.iload_n 3, 1) := by decide +kernel
theorem dX11_periodNow_22 : decode cX11_periodNow 22 = .ok (.invokevirtual 222, 3) := by decide +kernel
theorem dX11_periodNow_25 : decode cX11_periodNow 25 = .ok (.ifCond .ge 13, 3) := by decide +kernel
theorem dX11_periodNow_28 : decode cX11_periodNow 28 = .ok (.aload_n 0, 1) := by decide +kernel
theorem dX11_periodNow_29 : decode cX11_periodNow 29 = .ok (.iload_n 2, 1) := by decide +kernel
theorem dX11_periodNow_30 : decode cX11_periodNow 30 = .ok (.iload_n 3, 1) := by decide +kernel
theorem dX11_periodNow_31 : decode cX11_periodNow 31 = .ok (.invokevirtual 222, 3) := by decide +kernel
theorem dX11_periodNow_34 : decode cX11_periodNow 34 = .ok (.ineg, 1) := by decide +kernel
theorem dX11_periodNow_35 : decode cX11_periodNow 35 = .ok (.goto 9, 3) := by decide +kernel
theorem dX11_periodNow_38 : decode cX11_periodNow 38 = .ok (.aload_n 0, 1) := by decide +kernel
theorem dX11_periodNow_39 : decode cX11_periodNow 39 = .ok (.iload_n 2, 1) := by decide +kernel
theorem dX11_periodNow_40 : decode cX11_periodNow 40 = .ok (.iload_n 3, 1) := by decide +kernel
theorem dX11_periodNow_41 : decode cX11_periodNow 41 = .ok (.invokevirtual 222, 3) := by decide +kernel
theorem dX11_periodNow_44 : decode cX11_periodNow 44 = .ok (.istore 4, 2) := by decide +kernel
theorem dX11_periodNow_46 : decode cX11_periodNow 46 = .ok (.iload 4, 2) := by decide +kernel
theorem dX11_periodNow_48 : decode cX11_periodNow 48 = .ok (.ifCond .ne 7, 3) := by decide +kernel
theorem dX11_periodNow_51 : decode cX11_periodNow 51 = .ok (.iload_n 1, 1) := by decide +kernel
theorem dX11_periodNow_52 : decode cX11_periodNow 52 = .ok (.goto 14, 3) := by decide +kernel
theorem dX11_periodNow_55 : decode cX11_periodNow 55 = .ok (.iload_n 1, 1) := by decide +kernel
theorem dX11_periodNow_56 : decode cX11_periodNow 56 = .ok (.iload_n 1, 1) := by decide +kernel
theorem dX11_periodNow_57 : decode cX11_periodNow 57 = .ok (.iload 4, 2) := by decide +kernel
theorem dX11_periodNow_59 : decode cX11_periodNow 59 = .ok (.invokestatic 225, 3) := by decide +kernel
theorem dX11_periodNow_62 : decode cX11_periodNow 62 = .ok (.idiv, 1) := by decide +kernel
theorem dX11_periodNow_63 : decode cX11_periodNow 63 = .ok (.iload 4, 2) := by decide +kernel
theorem dX11_periodNow_65 : decode cX11_periodNow 65 = .ok (.imul, 1) := by decide +kernel
theorem dX11_periodNow_66 : decode cX11_periodNow 66 = .ok (.istore_n 1, 1) := by decide +kernel
theorem dX11_periodNow_67 : decode cX11_periodNow 67 = .ok (.iinc 3 1, 3) := by decide +kernel
theorem dX11_periodNow_70 : decode cX11_periodNow 70 = .ok (.goto (-56), 3) := by decide +kernel
theorem dX11_periodNow_73 : decode cX11_periodNow 73 = .ok (.iinc 2 1, 3) := by decide +kernel
theorem dX11_periodNow_76 : decode cX11_periodNow 76 = .ok (.goto (-72), 3) := by decide +kernel
theorem dX11_periodNow_79 : decode cX11_periodNow 79 = .ok (.iload_n 1, 1) := by decide +kernel
theorem dX11_periodNow_80 : decode cX11_periodNow 80 = .ok (.ireturn, 1) := by decide +kernel
theorem dX11_period_0 : decode cX11_period 0 = .ok (.aload_n 0, 1) := by decide +kernel
theorem dX11_period_1 : decode cX11_period 1 = .ok (.invokevirtual 231, 3) := by decide +kernel
theorem dX11_period_4 : decode cX11_period 4 = .ok (.ireturn, 1) := by decide +kernel
theorem dX11_unit_0 : decode cX11_unit 0 = .ok (.aload_n 0, 1) := by decide +kernel
theorem dX11_unit_1 : decode cX11_unit 1 = .ok (.invokevirtual 231, 3) := by decide +kernel
theorem dX11_unit_4 : decode cX11_unit 4 = .ok (.iconst 1, 1) := by decide +kernel
theorem dX11_unit_5 : decode cX11_unit 5 = .ok (.if_icmp .ne 7, 3) := by decide +kernel
theorem dX11_unit_8 : decode cX11_unit 8 = .ok (.iconst 1, 1) := by decide +kernel
theorem dX11_unit_9 : decode cX11_unit 9 = .ok (.goto 4, 3) := by decide +kernel
theorem dX11_unit_12 : decode cX11_unit 12 = .ok (.iconst 0, 1) := by decide +kernel
theorem dX11_unit_13 : decode cX11_unit 13 = .ok (.ireturn, 1) := by decide +kernel
theorem dX11_chambers_0 : decode cX11_chambers 0 = .ok (.aload_n 0, 1) := by decide +kernel
theorem dX11_chambers_1 : decode cX11_chambers 1 = .ok (.invokevirtual 228, 3) := by decide +kernel
theorem dX11_chambers_4 : decode cX11_chambers 4 = .ok (.aload_n 0, 1) := by decide +kernel
theorem dX11_chambers_5 : decode cX11_chambers 5 = .ok (.getfield 219, 3) := by decide +kernel
theorem dX11_chambers_8 : decode cX11_chambers 8 = .ok (.iconst 1, 1) := by decide +kernel
theorem dX11_chambers_9 : decode cX11_chambers 9 = .ok (.if_icmp .le 12, 3) := by decide +kernel
theorem dX11_chambers_12 : decode cX11_chambers 12 = .ok (.aload_n 0, 1) := by decide +kernel
theorem dX11_chambers_13 : decode cX11_chambers 13 = .ok (.getfield 219, 3) := by decide +kernel
theorem dX11_chambers_16 : decode cX11_chambers 16 = .ok (.iconst 1, 1) := by decide +kernel
theorem dX11_chambers_17 : decode cX11_chambers 17 = .ok (.isub, 1) := by decide +kernel
theorem dX11_chambers_18 : decode cX11_chambers 18 = .ok (.goto 4, 3) := by decide +kernel
theorem dX11_chambers_21 : decode cX11_chambers 21 = .ok (.iconst 0, 1) := by decide +kernel
theorem dX11_chambers_22 : decode cX11_chambers 22 = .ok (.ireturn, 1) := by decide +kernel
theorem dX11_areFormulas_0 : decode cX11_areFormulas 0 = .ok (.aload_n 0, 1) := by decide +kernel
theorem dX11_areFormulas_1 : decode cX11_areFormulas 1 = .ok (.invokevirtual 234, 3) := by decide +kernel
theorem dX11_areFormulas_4 : decode cX11_areFormulas 4 = .ok (.ifCond .le 16, 3) := by decide +kernel
theorem dX11_areFormulas_7 : decode cX11_areFormulas 7 = .ok (.aload_n 0, 1) := by decide +kernel
theorem dX11_areFormulas_8 : decode cX11_areFormulas 8 = .ok (.invokevirtual 231, 3) := by decide +kernel
theorem dX11_areFormulas_11 : decode cX11_areFormulas 11 = .ok (.bipush 6, 2) := by decide +kernel
theorem dX11_areFormulas_13 : decode cX11_areFormulas 13 = .ok (.if_icmp .gt 7, 3) := by decide +kernel
theorem dX11_areFormulas_16 : decode cX11_areFormulas 16 = .ok (.iconst 1, 1) := by decide +kernel
theorem dX11_areFormulas_17 : decode cX11_areFormulas 17 = .ok (.goto 4, 3) := by decide +kernel
theorem dX11_areFormulas_20 : decode cX11_areFormulas 20 = .ok (.iconst 0, 1) := by decide +kernel
theorem dX11_areFormulas_21 : decode cX11_areFormulas 21 = .ok (.ireturn, 1) := by decide +kernel
theorem dX11_looks_0 : decode cX11_looks 0 = .ok (.aload_n 0, 1) := by decide +kernel
theorem dX11_looks_1 : decode cX11_looks 1 = .ok (.aload_n 0, 1) := by decide +kernel
theorem dX11_looks_2 : decode cX11_looks 2 = .ok (.getfield 68, 3) := by decide +kernel
theorem dX11_looks_5 : decode cX11_looks 5 = .ok (.iload_n 1, 1) := by decide +kernel
theorem dX11_looks_6 : decode cX11_looks 6 = .ok (.iaload, 1) := by decide +kernel
theorem dX11_looks_7 : decode cX11_looks 7 = .ok (.putfield 237, 3) := by decide +kernel
theorem dX11_looks_10 : decode cX11_looks 10 = .ok (.aload_n 0, 1) := by decide +kernel
theorem dX11_looks_11 : decode cX11_looks 11 = .ok (.aload_n 0, 1) := by decide +kernel
theorem dX11_looks_12 : decode cX11_looks 12 = .ok (.getfield 71, 3) := by decide +kernel
theorem dX11_looks_15 : decode cX11_looks 15 = .ok (.iload_n 1, 1) := by decide +kernel
theorem dX11_looks_16 : decode cX11_looks 16 = .ok (.iaload, 1) := by decide +kernel
theorem dX11_looks_17 : decode cX11_looks 17 = .ok (.putfield 240, 3) := by decide +kernel
theorem dX11_looks_20 : decode cX11_looks 20 = .ok (.aload_n 0, 1) := by decide +kernel
theorem dX11_looks_21 : decode cX11_looks 21 = .ok (.aload_n 0, 1) := by decide +kernel
theorem dX11_looks_22 : decode cX11_looks 22 = .ok (.getfield 68, 3) := by decide +kernel
theorem dX11_looks_25 : decode cX11_looks 25 = .ok (.iload_n 1, 1) := by decide +kernel
theorem dX11_looks_26 : decode cX11_looks 26 = .ok (.iconst 1, 1) := by decide +kernel
theorem dX11_looks_27 : decode cX11_looks 27 = .ok (.iadd, 1) := by decide +kernel
theorem dX11_looks_28 : decode cX11_looks 28 = .ok (.iaload, 1) := by decide +kernel
theorem dX11_looks_29 : decode cX11_looks 29 = .ok (.putfield 243, 3) := by decide +kernel
theorem dX11_looks_32 : decode cX11_looks 32 = .ok (.aload_n 0, 1) := by decide +kernel
theorem dX11_looks_33 : decode cX11_looks 33 = .ok (.aload_n 0, 1) := by decide +kernel
theorem dX11_looks_34 : decode cX11_looks 34 = .ok (.getfield 71, 3) := by decide +kernel
theorem dX11_looks_37 : decode cX11_looks 37 = .ok (.iload_n 1, 1) := by decide +kernel
theorem dX11_looks_38 : decode cX11_looks 38 = .ok (.iconst 1, 1) := by decide +kernel
theorem dX11_looks_39 : decode cX11_looks 39 = .ok (.iadd, 1) := by decide +kernel
theorem dX11_looks_40 : decode cX11_looks 40 = .ok (.iaload, 1) := by decide +kernel
theorem dX11_looks_41 : decode cX11_looks 41 = .ok (.putfield 246, 3) := by decide +kernel
theorem dX11_looks_44 : decode cX11_looks 44 = .ok (.aload_n 0, 1) := by decide +kernel
theorem dX11_looks_45 : decode cX11_looks 45 = .ok (.iload_n 2, 1) := by decide +kernel
theorem dX11_looks_46 : decode cX11_looks 46 = .ok (.aload_n 0, 1) := by decide +kernel
theorem dX11_looks_47 : decode cX11_looks 47 = .ok (.getfield 246, 3) := by decide +kernel
theorem dX11_looks_50 : decode cX11_looks 50 = .ok (.imul, 1) := by decide +kernel
theorem dX11_looks_51 : decode cX11_looks 51 = .ok (.iload_n 3, 1) := by decide +kernel
theorem dX11_looks_52 : decode cX11_looks 52 = .ok (.aload_n 0, 1) := by decide +kernel
theorem dX11_looks_53 : decode cX11_looks 53 = .ok (.getfield 243, 3) := by decide +kernel
theorem dX11_looks_56 : decode cX11_looks 56 = .ok (.imul, 1) := by decide +kernel
theorem dX11_looks_57 : decode cX11_looks 57 = .ok (.isub, 1) := by decide +kernel
theorem dX11_looks_58 : decode cX11_looks 58 = .ok (.putfield 249, 3) := by decide +kernel
theorem dX11_looks_61 : decode cX11_looks 61 = .ok (.aload_n 0, 1) := by decide +kernel
theorem dX11_looks_62 : decode cX11_looks 62 = .ok (.iload_n 3, 1) := by decide +kernel
theorem dX11_looks_63 : decode cX11_looks 63 = .ok (.aload_n 0, 1) := by decide +kernel
theorem dX11_looks_64 : decode cX11_looks 64 = .ok (.getfield 237, 3) := by decide +kernel
theorem dX11_looks_67 : decode cX11_looks 67 = .ok (.imul, 1) := by decide +kernel
theorem dX11_looks_68 : decode cX11_looks 68 = .ok (.iload_n 2, 1) := by decide +kernel
theorem dX11_looks_69 : decode cX11_looks 69 = .ok (.aload_n 0, 1) := by decide +kernel
theorem dX11_looks_70 : decode cX11_looks 70 = .ok (.getfield 240, 3) := by decide +kernel
theorem dX11_looks_73 : decode cX11_looks 73 = .ok (.imul, 1) := by decide +kernel
theorem dX11_looks_74 : decode cX11_looks 74 = .ok (.isub, 1) := by decide +kernel
theorem dX11_looks_75 : decode cX11_looks 75 = .ok (.putfield 252, 3) := by decide +kernel
theorem dX11_looks_78 : decode cX11_looks 78 = .ok (.aload_n 0, 1) := by decide +kernel
theorem dX11_looks_79 : decode cX11_looks 79 = .ok (.aload_n 0, 1) := by decide +kernel
theorem dX11_looks_80 : decode cX11_looks 80 = .ok (.getfield 237, 3) := by decide +kernel
theorem dX11_looks_83 : decode cX11_looks 83 = .ok (.aload_n 0, 1) := by decide +kernel
theorem dX11_looks_84 : decode cX11_looks 84 = .ok (.getfield 246, 3) := by decide +kernel
theorem dX11_looks_87 : decode cX11_looks 87 = .ok (.imul, 1) := by decide +kernel
theorem dX11_looks_88 : decode cX11_looks 88 = .ok (.aload_n 0, 1) := by decide +kernel
theorem dX11_looks_89 : decode cX11_looks 89 = .ok (.getfield 240, 3) := by decide +kernel
theorem dX11_looks_92 : decode cX11_looks 92 = .ok (.aload_n 0, 1) := by decide +kernel
theorem dX11_looks_93 : decode cX11_looks 93 = .ok (.getfield 243, 3) := by decide +kernel
theorem dX11_looks_96 : decode cX11_looks 96 = .ok (.imul, 1) := by decide +kernel
theorem dX11_looks_97 : decode cX11_looks 97 = .ok (.isub, 1) := by decide +kernel
theorem dX11_looks_98 : decode cX11_looks 98 = .ok (.putfield 255, 3) := by decide +kernel
theorem dX11_looks_101 : decode cX11_looks 101 = .ok (.return_, 1) := by decide +kernel
theorem dX11_floor_0 : decode cX11_floor 0 = .ok (.iload_n 0, 1) := by decide +kernel
theorem dX11_floor_1 : decode cX11_floor 1 = .ok (.ifCond .lt 9, 3) := by decide +kernel
theorem dX11_floor_4 : decode cX11_floor 4 = .ok (.iload_n 0, 1) := by decide +kernel
theorem dX11_floor_5 : decode cX11_floor 5 = .ok (.iload_n 1, 1) := by decide +kernel
theorem dX11_floor_6 : decode cX11_floor 6 = .ok (.idiv, 1) := by decide +kernel
theorem dX11_floor_7 : decode cX11_floor 7 = .ok (.goto 11, 3) := by decide +kernel
theorem dX11_floor_10 : decode cX11_floor 10 = .ok (.iload_n 1, 1) := by decide +kernel
theorem dX11_floor_11 : decode cX11_floor 11 = .ok (.iconst 1, 1) := by decide +kernel
theorem dX11_floor_12 : decode cX11_floor 12 = .ok (.isub, 1) := by decide +kernel
theorem dX11_floor_13 : decode cX11_floor 13 = .ok (.iload_n 0, 1) := by decide +kernel
theorem dX11_floor_14 : decode cX11_floor 14 = .ok (.isub, 1) := by decide +kernel
theorem dX11_floor_15 : decode cX11_floor 15 = .ok (.iload_n 1, 1) := by decide +kernel
theorem dX11_floor_16 : decode cX11_floor 16 = .ok (.idiv, 1) := by decide +kernel
theorem dX11_floor_17 : decode cX11_floor 17 = .ok (.ineg, 1) := by decide +kernel
theorem dX11_floor_18 : decode cX11_floor 18 = .ok (.ireturn, 1) := by decide +kernel
theorem dX11_goesHome_0 : decode cX11_goesHome 0 = .ok (.aload_n 0, 1) := by decide +kernel
theorem dX11_goesHome_1 : decode cX11_goesHome 1 = .ok (.iload_n 1, 1) := by decide +kernel
theorem dX11_goesHome_2 : decode cX11_goesHome 2 = .ok (.iload_n 2, 1) := by decide +kernel
theorem dX11_goesHome_3 : decode cX11_goesHome 3 = .ok (.iload_n 3, 1) := by decide +kernel
theorem dX11_goesHome_4 : decode cX11_goesHome 4 = .ok (.invokevirtual 258, 3) := by decide +kernel
theorem dX11_goesHome_7 : decode cX11_goesHome 7 = .ok (.aload_n 0, 1) := by decide +kernel
theorem dX11_goesHome_8 : decode cX11_goesHome 8 = .ok (.aload_n 0, 1) := by decide +kernel
theorem dX11_goesHome_9 : decode cX11_goesHome 9 = .ok (.getfield 249, 3) := by decide +kernel
theorem dX11_goesHome_12 : decode cX11_goesHome 12 = .ok (.aload_n 0, 1) := by decide +kernel
theorem dX11_goesHome_13 : decode cX11_goesHome 13 = .ok (.getfield 262, 3) := by decide +kernel
theorem dX11_goesHome_16 : decode cX11_goesHome 16 = .ok (.aload_n 0, 1) := by decide +kernel
theorem dX11_goesHome_17 : decode cX11_goesHome 17 = .ok (.getfield 255, 3) := by decide +kernel
theorem dX11_goesHome_20 : decode cX11_goesHome 20 = .ok (.imul, 1) := by decide +kernel
theorem dX11_goesHome_21 : decode cX11_goesHome 21 = .ok (.invokestatic 265, 3) := by decide +kernel
theorem dX11_goesHome_24 : decode cX11_goesHome 24 = .ok (.putfield 268, 3) := by decide +kernel
theorem dX11_goesHome_27 : decode cX11_goesHome 27 = .ok (.aload_n 0, 1) := by decide +kernel
theorem dX11_goesHome_28 : decode cX11_goesHome 28 = .ok (.aload_n 0, 1) := by decide +kernel
theorem dX11_goesHome_29 : decode cX11_goesHome 29 = .ok (.getfield 252, 3) := by decide +kernel
theorem dX11_goesHome_32 : decode cX11_goesHome 32 = .ok (.aload_n 0, 1) := by decide +kernel
theorem dX11_goesHome_33 : decode cX11_goesHome 33 = .ok (.getfield 262, 3) := by decide +kernel
theorem dX11_goesHome_36 : decode cX11_goesHome 36 = .ok (.aload_n 0, 1) := by decide +kernel
theorem dX11_goesHome_37 : decode cX11_goesHome 37 = .ok (.getfield 255, 3) := by decide +kernel
theorem dX11_goesHome_40 : decode cX11_goesHome 40 = .ok (.imul, 1) := by decide +kernel
theorem dX11_goesHome_41 : decode cX11_goesHome 41 = .ok (.invokestatic 265, 3) := by decide +kernel
theorem dX11_goesHome_44 : decode cX11_goesHome 44 = .ok (.putfield 271, 3) := by decide +kernel
theorem dX11_goesHome_47 : decode cX11_goesHome 47 = .ok (.aload_n 0, 1) := by decide +kernel
theorem dX11_goesHome_48 : decode cX11_goesHome 48 = .ok (.iload_n 2, 1) := by decide +kernel
theorem dX11_goesHome_49 : decode cX11_goesHome 49 = .ok (.aload_n 0, 1) := by decide +kernel
theorem dX11_goesHome_50 : decode cX11_goesHome 50 = .ok (.getfield 262, 3) := by decide +kernel
theorem dX11_goesHome_53 : decode cX11_goesHome 53 = .ok (.aload_n 0, 1) := by decide +kernel
theorem dX11_goesHome_54 : decode cX11_goesHome 54 = .ok (.getfield 268, 3) := by decide +kernel
theorem dX11_goesHome_57 : decode cX11_goesHome 57 = .ok (.aload_n 0, 1) := by decide +kernel
theorem dX11_goesHome_58 : decode cX11_goesHome 58 = .ok (.getfield 237, 3) := by decide +kernel
theorem dX11_goesHome_61 : decode cX11_goesHome 61 = .ok (.imul, 1) := by decide +kernel
theorem dX11_goesHome_62 : decode cX11_goesHome 62 = .ok (.aload_n 0, 1) := by decide +kernel
theorem dX11_goesHome_63 : decode cX11_goesHome 63 = .ok (.getfield 271, 3) := by decide +kernel
theorem dX11_goesHome_66 : decode cX11_goesHome 66 = .ok (.aload_n 0, 1) := by decide +kernel
theorem dX11_goesHome_67 : decode cX11_goesHome 67 = .ok (.getfield 243, 3) := by decide +kernel
theorem dX11_goesHome_70 : decode cX11_goesHome 70 = .ok (.imul, 1) := by decide +kernel
theorem dX11_goesHome_71 : decode cX11_goesHome 71 = .ok (.iadd, 1) := by decide +kernel
theorem dX11_goesHome_72 : decode cX11_goesHome 72 = .ok (.imul, 1) := by decide +kernel
theorem dX11_goesHome_73 : decode cX11_goesHome 73 = .ok (.isub, 1) := by decide +kernel
theorem dX11_goesHome_74 : decode cX11_goesHome 74 = .ok (.putfield 274, 3) := by decide +kernel
theorem dX11_goesHome_77 : decode cX11_goesHome 77 = .ok (.aload_n 0, 1) := by decide +kernel
theorem dX11_goesHome_78 : decode cX11_goesHome 78 = .ok (.iload_n 3, 1) := by decide +kernel
theorem dX11_goesHome_79 : decode cX11_goesHome 79 = .ok (.aload_n 0, 1) := by decide +kernel
theorem dX11_goesHome_80 : decode cX11_goesHome 80 = .ok (.getfield 262, 3) := by decide +kernel
theorem dX11_goesHome_83 : decode cX11_goesHome 83 = .ok (.aload_n 0, 1) := by decide +kernel
theorem dX11_goesHome_84 : decode cX11_goesHome 84 = .ok (.getfield 268, 3) := by decide +kernel
theorem dX11_goesHome_87 : decode cX11_goesHome 87 = .ok (.aload_n 0, 1) := by decide +kernel
theorem dX11_goesHome_88 : decode cX11_goesHome 88 = .ok (.getfield 240, 3) := by decide +kernel
theorem dX11_goesHome_91 : decode cX11_goesHome 91 = .ok (.imul, 1) := by decide +kernel
theorem dX11_goesHome_92 : decode cX11_goesHome 92 = .ok (.aload_n 0, 1) := by decide +kernel
theorem dX11_goesHome_93 : decode cX11_goesHome 93 = .ok (.getfield 271, 3) := by decide +kernel
theorem dX11_goesHome_96 : decode cX11_goesHome 96 = .ok (.aload_n 0, 1) := by decide +kernel
theorem dX11_goesHome_97 : decode cX11_goesHome 97 = .ok (.getfield 246, 3) := by decide +kernel
theorem dX11_goesHome_100 : decode cX11_goesHome 100 = .ok (.imul, 1) := by decide +kernel
theorem dX11_goesHome_101 : decode cX11_goesHome 101 = .ok (.iadd, 1) := by decide +kernel
theorem dX11_goesHome_102 : decode cX11_goesHome 102 = .ok (.imul, 1) := by decide +kernel
theorem dX11_goesHome_103 : decode cX11_goesHome 103 = .ok (.isub, 1) := by decide +kernel
theorem dX11_goesHome_104 : decode cX11_goesHome 104 = .ok (.putfield 277, 3) := by decide +kernel
theorem dX11_goesHome_107 : decode cX11_goesHome 107 = .ok (.return_, 1) := by decide +kernel
theorem dX11_chamberOf_0 : decode cX11_chamberOf 0 = .ok (.iload_n 1, 1) := by decide +kernel
theorem dX11_chamberOf_1 : decode cX11_chamberOf 1 = .ok (.bipush (-60), 2) := by decide +kernel
theorem dX11_chamberOf_3 : decode cX11_chamberOf 3 = .ok (.bipush 60, 2) := by decide +kernel
theorem dX11_chamberOf_5 : decode cX11_chamberOf 5 = .ok (.invokestatic 89, 3) := by decide +kernel
theorem dX11_chamberOf_8 : decode cX11_chamberOf 8 = .ok (.ifCond .eq 14, 3) := by decide +kernel
theorem dX11_chamberOf_11 : decode cX11_chamberOf 11 = .ok (.iload_n 2, 1) := by decide +kernel
theorem dX11_chamberOf_12 : decode cX11_chamberOf 12 = .ok (.bipush (-60), 2) := by decide +kernel
theorem dX11_chamberOf_14 : decode cX11_chamberOf 14 = .ok (.bipush 60, 2) := by decide +kernel
theorem dX11_chamberOf_16 : decode cX11_chamberOf 16 = .ok (.invokestatic 89, 3) := by decide +kernel
theorem dX11_chamberOf_19 : decode cX11_chamberOf 19 = .ok (.ifCond .ne 5, 3) := by decide +kernel
theorem dX11_chamberOf_22 : decode cX11_chamberOf 22 = .ok (.iconst (-1), 1) := by decide +kernel
theorem dX11_chamberOf_23 : decode cX11_chamberOf 23 = .ok (.ireturn, 1) := by decide +kernel
theorem dX11_chamberOf_24 : decode cX11_chamberOf 24 = .ok (.iconst 0, 1) := by decide +kernel
theorem dX11_chamberOf_25 : decode cX11_chamberOf 25 = .ok (.istore_n 3, 1) := by decide +kernel
theorem dX11_chamberOf_26 : decode cX11_chamberOf 26 = .ok (.iload_n 3, 1) := by decide +kernel
theorem dX11_chamberOf_27 : decode cX11_chamberOf 27 = .ok (.aload_n 0, 1) := by decide +kernel
theorem dX11_chamberOf_28 : decode cX11_chamberOf 28 = .ok (.invokevirtual 234, 3) := by decide +kernel
theorem dX11_chamberOf_31 : decode cX11_chamberOf 31 = .ok (.if_icmp .ge 32, 3) := by decide +kernel
theorem dX11_chamberOf_34 : decode cX11_chamberOf 34 = .ok (.aload_n 0, 1) := by decide +kernel
theorem dX11_chamberOf_35 : decode cX11_chamberOf 35 = .ok (.iload_n 3, 1) := by decide +kernel
theorem dX11_chamberOf_36 : decode cX11_chamberOf 36 = .ok (.iload_n 1, 1) := by decide +kernel
theorem dX11_chamberOf_37 : decode cX11_chamberOf 37 = .ok (.iload_n 2, 1) := by decide +kernel
theorem dX11_chamberOf_38 : decode cX11_chamberOf 38 = .ok (.invokevirtual 258, 3) := by decide +kernel
theorem dX11_chamberOf_41 : decode cX11_chamberOf 41 = .ok (.aload_n 0, 1) := by decide +kernel
theorem dX11_chamberOf_42 : decode cX11_chamberOf 42 = .ok (.getfield 249, 3) := by decide +kernel
theorem dX11_chamberOf_45 : decode cX11_chamberOf 45 = .ok (.ifCond .lt 12, 3) := by decide +kernel
theorem dX11_chamberOf_48 : decode cX11_chamberOf 48 = .ok (.aload_n 0, 1) := by decide +kernel
theorem dX11_chamberOf_49 : decode cX11_chamberOf 49 = .ok (.getfield 252, 3) := by decide +kernel
theorem dX11_chamberOf_52 : decode cX11_chamberOf 52 = .ok (.ifCond .lt 5, 3) := by decide +kernel
theorem dX11_chamberOf_55 : decode cX11_chamberOf 55 = .ok (.iload_n 3, 1) := by decide +kernel
theorem dX11_chamberOf_56 : decode cX11_chamberOf 56 = .ok (.ireturn, 1) := by decide +kernel
theorem dX11_chamberOf_57 : decode cX11_chamberOf 57 = .ok (.iinc 3 1, 3) := by decide +kernel
theorem dX11_chamberOf_60 : decode cX11_chamberOf 60 = .ok (.goto (-34), 3) := by decide +kernel
theorem dX11_chamberOf_63 : decode cX11_chamberOf 63 = .ok (.bipush (-3), 2) := by decide +kernel
theorem dX11_chamberOf_65 : decode cX11_chamberOf 65 = .ok (.ireturn, 1) := by decide +kernel
theorem dX11_isAsked_0 : decode cX11_isAsked 0 = .ok (.aload_n 0, 1) := by decide +kernel
theorem dX11_isAsked_1 : decode cX11_isAsked 1 = .ok (.invokevirtual 280, 3) := by decide +kernel
theorem dX11_isAsked_4 : decode cX11_isAsked 4 = .ok (.ifCond .eq 43, 3) := by decide +kernel
theorem dX11_isAsked_7 : decode cX11_isAsked 7 = .ok (.iload_n 1, 1) := by decide +kernel
theorem dX11_isAsked_8 : decode cX11_isAsked 8 = .ok (.iconst 0, 1) := by decide +kernel
theorem dX11_isAsked_9 : decode cX11_isAsked 9 = .ok (.aload_n 0, 1) := by decide +kernel
theorem dX11_isAsked_10 : decode cX11_isAsked 10 = .ok (.invokevirtual 234, 3) := by decide +kernel
theorem dX11_isAsked_13 : decode cX11_isAsked 13 = .ok (.iconst 1, 1) := by decide +kernel
theorem dX11_isAsked_14 : decode cX11_isAsked 14 = .ok (.isub, 1) := by decide +kernel
theorem dX11_isAsked_15 : decode cX11_isAsked 15 = .ok (.invokestatic 89, 3) := by decide +kernel
theorem dX11_isAsked_18 : decode cX11_isAsked 18 = .ok (.ifCond .eq 29, 3) := by decide +kernel
theorem dX11_isAsked_21 : decode cX11_isAsked 21 = .ok (.iload_n 2, 1) := by decide +kernel
theorem dX11_isAsked_22 : decode cX11_isAsked 22 = .ok (.bipush (-60), 2) := by decide +kernel
theorem dX11_isAsked_24 : decode cX11_isAsked 24 = .ok (.bipush 60, 2) := by decide +kernel
theorem dX11_isAsked_26 : decode cX11_isAsked 26 = .ok (.invokestatic 89, 3) := by decide +kernel
theorem dX11_isAsked_29 : decode cX11_isAsked 29 = .ok (.ifCond .eq 18, 3) := by decide +kernel
theorem dX11_isAsked_32 : decode cX11_isAsked 32 = .ok (.iload_n 3, 1) := by decide +kernel
theorem dX11_isAsked_33 : decode cX11_isAsked 33 = .ok (.bipush (-60), 2) := by decide +kernel
theorem dX11_isAsked_35 : decode cX11_isAsked 35 = .ok (.bipush 60, 2) := by decide +kernel
theorem dX11_isAsked_37 : decode cX11_isAsked 37 = .ok (.invokestatic 89, 3) := by decide +kernel
theorem dX11_isAsked_40 : decode cX11_isAsked 40 = .ok (.ifCond .eq 7, 3) := by decide +kernel
theorem dX11_isAsked_43 : decode cX11_isAsked 43 = .ok (.iconst 1, 1) := by decide +kernel
theorem dX11_isAsked_44 : decode cX11_isAsked 44 = .ok (.goto 4, 3) := by decide +kernel
theorem dX11_isAsked_47 : decode cX11_isAsked 47 = .ok (.iconst 0, 1) := by decide +kernel
theorem dX11_isAsked_48 : decode cX11_isAsked 48 = .ok (.ireturn, 1) := by decide +kernel
theorem dX11_home_0 : decode cX11_home 0 = .ok (.aload_n 0, 1) := by decide +kernel
theorem dX11_home_1 : decode cX11_home 1 = .ok (.iload_n 1, 1) := by decide +kernel
theorem dX11_home_2 : decode cX11_home 2 = .ok (.iload_n 2, 1) := by decide +kernel
theorem dX11_home_3 : decode cX11_home 3 = .ok (.iload_n 3, 1) := by decide +kernel
theorem dX11_home_4 : decode cX11_home 4 = .ok (.invokevirtual 284, 3) := by decide +kernel
theorem dX11_home_7 : decode cX11_home 7 = .ok (.ifCond .eq 13, 3) := by decide +kernel
theorem dX11_home_10 : decode cX11_home 10 = .ok (.iload 4, 2) := by decide +kernel
theorem dX11_home_12 : decode cX11_home 12 = .ok (.iconst 0, 1) := by decide +kernel
theorem dX11_home_13 : decode cX11_home 13 = .ok (.iconst 3, 1) := by decide +kernel
theorem dX11_home_14 : decode cX11_home 14 = .ok (.invokestatic 89, 3) := by decide +kernel
theorem dX11_home_17 : decode cX11_home 17 = .ok (.ifCond .ne 5, 3) := by decide +kernel
theorem dX11_home_20 : decode cX11_home 20 = .ok (.iconst (-1), 1) := by decide +kernel
theorem dX11_home_21 : decode cX11_home 21 = .ok (.ireturn, 1) := by decide +kernel
theorem dX11_home_22 : decode cX11_home 22 = .ok (.aload_n 0, 1) := by decide +kernel
theorem dX11_home_23 : decode cX11_home 23 = .ok (.aload_n 0, 1) := by decide +kernel
theorem dX11_home_24 : decode cX11_home 24 = .ok (.invokevirtual 231, 3) := by decide +kernel
theorem dX11_home_27 : decode cX11_home 27 = .ok (.putfield 262, 3) := by decide +kernel
theorem dX11_home_30 : decode cX11_home 30 = .ok (.aload_n 0, 1) := by decide +kernel
theorem dX11_home_31 : decode cX11_home 31 = .ok (.iload_n 1, 1) := by decide +kernel
theorem dX11_home_32 : decode cX11_home 32 = .ok (.iload_n 2, 1) := by decide +kernel
theorem dX11_home_33 : decode cX11_home 33 = .ok (.iload_n 3, 1) := by decide +kernel
theorem dX11_home_34 : decode cX11_home 34 = .ok (.invokevirtual 287, 3) := by decide +kernel
theorem dX11_home_37 : decode cX11_home 37 = .ok (.iload 4, 2) := by decide +kernel
theorem dX11_home_39 : decode cX11_home 39 = .ok (.ifCond .ne 10, 3) := by decide +kernel
theorem dX11_home_42 : decode cX11_home 42 = .ok (.aload_n 0, 1) := by decide +kernel
theorem dX11_home_43 : decode cX11_home 43 = .ok (.getfield 274, 3) := by decide +kernel
theorem dX11_home_46 : decode cX11_home 46 = .ok (.goto 41, 3) := by decide +kernel
theorem dX11_home_49 : decode cX11_home 49 = .ok (.iload 4, 2) := by decide +kernel
theorem dX11_home_51 : decode cX11_home 51 = .ok (.iconst 1, 1) := by decide +kernel
theorem dX11_home_52 : decode cX11_home 52 = .ok (.if_icmp .ne 10, 3) := by decide +kernel
theorem dX11_home_55 : decode cX11_home 55 = .ok (.aload_n 0, 1) := by decide +kernel
theorem dX11_home_56 : decode cX11_home 56 = .ok (.getfield 277, 3) := by decide +kernel
theorem dX11_home_59 : decode cX11_home 59 = .ok (.goto 28, 3) := by decide +kernel
theorem dX11_home_62 : decode cX11_home 62 = .ok (.iload 4, 2) := by decide +kernel
theorem dX11_home_64 : decode cX11_home 64 = .ok (.iconst 2, 1) := by decide +kernel
theorem dX11_home_65 : decode cX11_home 65 = .ok (.if_icmp .ne 14, 3) := by decide +kernel
theorem dX11_home_68 : decode cX11_home 68 = .ok (.sipush 1000, 3) := by decide +kernel
theorem dX11_home_71 : decode cX11_home 71 = .ok (.aload_n 0, 1) := by decide +kernel
theorem dX11_home_72 : decode cX11_home 72 = .ok (.getfield 268, 3) := by decide +kernel
theorem dX11_home_75 : decode cX11_home 75 = .ok (.iadd, 1) := by decide +kernel
theorem dX11_home_76 : decode cX11_home 76 = .ok (.goto 11, 3) := by decide +kernel
theorem dX11_home_79 : decode cX11_home 79 = .ok (.sipush 1000, 3) := by decide +kernel
theorem dX11_home_82 : decode cX11_home 82 = .ok (.aload_n 0, 1) := by decide +kernel
theorem dX11_home_83 : decode cX11_home 83 = .ok (.getfield 271, 3) := by decide +kernel
theorem dX11_home_86 : decode cX11_home 86 = .ok (.iadd, 1) := by decide +kernel
theorem dX11_home_87 : decode cX11_home 87 = .ok (.ireturn, 1) := by decide +kernel
theorem dX11_choose_0 : decode cX11_choose 0 = .ok (.lconst 1, 1) := by decide +kernel
theorem dX11_choose_1 : decode cX11_choose 1 = .ok (.lstore_n 2, 1) := by decide +kernel
theorem dX11_choose_2 : decode cX11_choose 2 = .ok (.iconst 0, 1) := by decide +kernel
theorem dX11_choose_3 : decode cX11_choose 3 = .ok (.istore 4, 2) := by decide +kernel
theorem dX11_choose_5 : decode cX11_choose 5 = .ok (.iload 4, 2) := by decide +kernel
theorem dX11_choose_7 : decode cX11_choose 7 = .ok (.iload_n 1, 1) := by decide +kernel
theorem dX11_choose_8 : decode cX11_choose 8 = .ok (.if_icmp .ge 23, 3) := by decide +kernel
theorem dX11_choose_11 : decode cX11_choose 11 = .ok (.lload_n 2, 1) := by decide +kernel
theorem dX11_choose_12 : decode cX11_choose 12 = .ok (.iload_n 0, 1) := by decide +kernel
theorem dX11_choose_13 : decode cX11_choose 13 = .ok (.iload 4, 2) := by decide +kernel
theorem dX11_choose_15 : decode cX11_choose 15 = .ok (.isub, 1) := by decide +kernel
theorem dX11_choose_16 : decode cX11_choose 16 = .ok (.i2l, 1) := by decide +kernel
theorem dX11_choose_17 : decode cX11_choose 17 = .ok (.lmul, 1) := by decide +kernel
theorem dX11_choose_18 : decode cX11_choose 18 = .ok (.iload 4, 2) := by decide +kernel
theorem dX11_choose_20 : decode cX11_choose 20 = .ok (.iconst 1, 1) := by decide +kernel
theorem dX11_choose_21 : decode cX11_choose 21 = .ok (.iadd, 1) := by decide +kernel
theorem dX11_choose_22 : decode cX11_choose 22 = .ok (.i2l, 1) := by decide +kernel
theorem dX11_choose_23 : decode cX11_choose 23 = .ok (.ldiv, 1) := by decide +kernel
theorem dX11_choose_24 : decode cX11_choose 24 = .ok (.lstore_n 2, 1) := by decide +kernel
theorem dX11_choose_25 : decode cX11_choose 25 = .ok (.iinc 4 1, 3) := by decide +kernel
theorem dX11_choose_28 : decode cX11_choose 28 = .ok (.goto (-23), 3) := by decide +kernel
theorem dX11_choose_31 : decode cX11_choose 31 = .ok (.lload_n 2, 1) := by decide +kernel
theorem dX11_choose_32 : decode cX11_choose 32 = .ok (.lreturn, 1) := by decide +kernel
theorem dX11_differenceAt_0 : decode cX11_differenceAt 0 = .ok (.lconst 0, 1) := by decide +kernel
theorem dX11_differenceAt_1 : decode cX11_differenceAt 1 = .ok (.lstore_n 3, 1) := by decide +kernel
theorem dX11_differenceAt_2 : decode cX11_differenceAt 2 = .ok (.iconst 0, 1) := by decide +kernel
theorem dX11_differenceAt_3 : decode cX11_differenceAt 3 = .ok (.istore 5, 2) := by decide +kernel
theorem dX11_differenceAt_5 : decode cX11_differenceAt 5 = .ok (.iload 5, 2) := by decide +kernel
theorem dX11_differenceAt_7 : decode cX11_differenceAt 7 = .ok (.iload_n 1, 1) := by decide +kernel
theorem dX11_differenceAt_8 : decode cX11_differenceAt 8 = .ok (.if_icmp .gt 119, 3) := by decide +kernel
theorem dX11_differenceAt_11 : decode cX11_differenceAt 11 = .ok (.iconst 0, 1) := by decide +kernel
theorem dX11_differenceAt_12 : decode cX11_differenceAt 12 = .ok (.istore 6, 2) := by decide +kernel
theorem dX11_differenceAt_14 : decode cX11_differenceAt 14 = .ok (.iload 6, 2) := by decide +kernel
theorem dX11_differenceAt_16 : decode cX11_differenceAt 16 = .ok (.iload_n 2, 1) := by decide +kernel
theorem dX11_differenceAt_17 : decode cX11_differenceAt 17 = .ok (.if_icmp .gt 104, 3) := by decide +kernel
theorem dX11_differenceAt_20 : decode cX11_differenceAt 20 = .ok (.iload_n 1, 1) := by decide +kernel
theorem dX11_differenceAt_21 : decode cX11_differenceAt 21 = .ok (.iload 5, 2) := by decide +kernel
theorem dX11_differenceAt_23 : decode cX11_differenceAt 23 = .ok (.invokestatic 290, 3) := by decide +kernel
theorem dX11_differenceAt_26 : decode cX11_differenceAt 26 = .ok (.iload_n 2, 1) := by decide +kernel
theorem dX11_differenceAt_27 : decode cX11_differenceAt 27 = .ok (.iload 6, 2) := by decide +kernel
theorem dX11_differenceAt_29 : decode cX11_differenceAt 29 = .ok (.invokestatic 290, 3) := by decide +kernel
theorem dX11_differenceAt_32 : decode cX11_differenceAt 32 = .ok (.lmul, 1) := by decide +kernel
theorem dX11_differenceAt_33 : decode cX11_differenceAt 33 = .ok (.aload_n 0, 1) := by decide +kernel
theorem dX11_differenceAt_34 : decode cX11_differenceAt 34 = .ok (.aload_n 0, 1) := by decide +kernel
theorem dX11_differenceAt_35 : decode cX11_differenceAt 35 = .ok (.getfield 274, 3) := by decide +kernel
theorem dX11_differenceAt_38 : decode cX11_differenceAt 38 = .ok (.aload_n 0, 1) := by decide +kernel
theorem dX11_differenceAt_39 : decode cX11_differenceAt 39 = .ok (.getfield 262, 3) := by decide +kernel
theorem dX11_differenceAt_42 : decode cX11_differenceAt 42 = .ok (.iload 5, 2) := by decide +kernel
theorem dX11_differenceAt_44 : decode cX11_differenceAt 44 = .ok (.aload_n 0, 1) := by decide +kernel
theorem dX11_differenceAt_45 : decode cX11_differenceAt 45 = .ok (.getfield 237, 3) := by decide +kernel
theorem dX11_differenceAt_48 : decode cX11_differenceAt 48 = .ok (.imul, 1) := by decide +kernel
theorem dX11_differenceAt_49 : decode cX11_differenceAt 49 = .ok (.iload 6, 2) := by decide +kernel
theorem dX11_differenceAt_51 : decode cX11_differenceAt 51 = .ok (.aload_n 0, 1) := by decide +kernel
theorem dX11_differenceAt_52 : decode cX11_differenceAt 52 = .ok (.getfield 243, 3) := by decide +kernel
theorem dX11_differenceAt_55 : decode cX11_differenceAt 55 = .ok (.imul, 1) := by decide +kernel
theorem dX11_differenceAt_56 : decode cX11_differenceAt 56 = .ok (.iadd, 1) := by decide +kernel
theorem dX11_differenceAt_57 : decode cX11_differenceAt 57 = .ok (.imul, 1) := by decide +kernel
theorem dX11_differenceAt_58 : decode cX11_differenceAt 58 = .ok (.iadd, 1) := by decide +kernel
theorem dX11_differenceAt_59 : decode cX11_differenceAt 59 = .ok (.aload_n 0, 1) := by decide +kernel
theorem dX11_differenceAt_60 : decode cX11_differenceAt 60 = .ok (.getfield 277, 3) := by decide +kernel
theorem dX11_differenceAt_63 : decode cX11_differenceAt 63 = .ok (.aload_n 0, 1) := by decide +kernel
theorem dX11_differenceAt_64 : decode cX11_differenceAt 64 = .ok (.getfield 262, 3) := by decide +kernel
theorem dX11_differenceAt_67 : decode cX11_differenceAt 67 = .ok (.iload 5, 2) := by decide +kernel
theorem dX11_differenceAt_69 : decode cX11_differenceAt 69 = .ok (.aload_n 0, 1) := by decide +kernel
theorem dX11_differenceAt_70 : decode cX11_differenceAt 70 = .ok (.getfield 240, 3) := by decide +kernel
theorem dX11_differenceAt_73 : decode cX11_differenceAt 73 = .ok (.imul, 1) := by decide +kernel
theorem dX11_differenceAt_74 : decode cX11_differenceAt 74 = .ok (.iload 6, 2) := by decide +kernel
theorem dX11_differenceAt_76 : decode cX11_differenceAt 76 = .ok (.aload_n 0, 1) := by decide +kernel
theorem dX11_differenceAt_77 : decode cX11_differenceAt 77 = .ok (.getfield 246, 3) := by decide +kernel
theorem dX11_differenceAt_80 : decode cX11_differenceAt 80 = .ok (.imul, 1) := by decide +kernel
theorem dX11_differenceAt_81 : decode cX11_differenceAt 81 = .ok (.iadd, 1) := by decide +kernel
theorem dX11_differenceAt_82 : decode cX11_differenceAt 82 = .ok (.imul, 1) := by decide +kernel
theorem dX11_differenceAt_83 : decode cX11_differenceAt 83 = .ok (.iadd, 1) := by decide +kernel
theorem dX11_differenceAt_84 : decode cX11_differenceAt 84 = .ok (.invokevirtual 195, 3) := by decide +kernel
theorem dX11_differenceAt_87 : decode cX11_differenceAt 87 = .ok (.lmul, 1) := by decide +kernel
theorem dX11_differenceAt_88 : decode cX11_differenceAt 88 = .ok (.lstore 7, 2) := by decide +kernel
theorem dX11_differenceAt_90 : decode cX11_differenceAt 90 = .ok (.lload_n 3, 1) := by decide +kernel
theorem dX11_differenceAt_91 : decode cX11_differenceAt 91 = .ok (.iload_n 1, 1) := by decide +kernel
theorem dX11_differenceAt_92 : decode cX11_differenceAt 92 = .ok (.iload 5, 2) := by decide +kernel
theorem dX11_differenceAt_94 : decode cX11_differenceAt 94 = .ok (.isub, 1) := by decide +kernel
theorem dX11_differenceAt_95 : decode cX11_differenceAt 95 = .ok (.iload_n 2, 1) := by decide +kernel
theorem dX11_differenceAt_96 : decode cX11_differenceAt 96 = .ok (.iadd, 1) := by decide +kernel
theorem dX11_differenceAt_97 : decode cX11_differenceAt 97 = .ok (.iload 6, 2) := by decide +kernel
theorem dX11_differenceAt_99 : decode cX11_differenceAt 99 = .ok (.isub, 1) := by decide +kernel
theorem dX11_differenceAt_100 : decode cX11_differenceAt 100 = .ok (.iconst 2, 1) := by decide +kernel
theorem dX11_differenceAt_101 : decode cX11_differenceAt 101 = .ok (.irem, 1) := by decide +kernel
theorem dX11_differenceAt_102 : decode cX11_differenceAt 102 = .ok (.ifCond .ne 8, 3) := by decide +kernel
theorem dX11_differenceAt_105 : decode cX11_differenceAt 105 = .ok (.lload 7, 2) := by decide +kernel
theorem dX11_differenceAt_107 : decode cX11_differenceAt 107 = .ok (.goto 6, 3) := by decide +kernel
theorem dX11_differenceAt_110 : decode cX11_differenceAt 110 = .ok (.lload 7, 2) := by decide +kernel
theorem dX11_differenceAt_112 : decode cX11_differenceAt 112 = .ok (.lneg, 1) := by decide +kernel
theorem dX11_differenceAt_113 : decode cX11_differenceAt 113 = .ok (.ladd, 1) := by decide +kernel
theorem dX11_differenceAt_114 : decode cX11_differenceAt 114 = .ok (.lstore_n 3, 1) := by decide +kernel
theorem dX11_differenceAt_115 : decode cX11_differenceAt 115 = .ok (.iinc 6 1, 3) := by decide +kernel
theorem dX11_differenceAt_118 : decode cX11_differenceAt 118 = .ok (.goto (-104), 3) := by decide +kernel
theorem dX11_differenceAt_121 : decode cX11_differenceAt 121 = .ok (.iinc 5 1, 3) := by decide +kernel
theorem dX11_differenceAt_124 : decode cX11_differenceAt 124 = .ok (.goto (-119), 3) := by decide +kernel
theorem dX11_differenceAt_127 : decode cX11_differenceAt 127 = .ok (.lload_n 3, 1) := by decide +kernel
theorem dX11_differenceAt_128 : decode cX11_differenceAt 128 = .ok (.lreturn, 1) := by decide +kernel
theorem dX11_difference_0 : decode cX11_difference 0 = .ok (.aload_n 0, 1) := by decide +kernel
theorem dX11_difference_1 : decode cX11_difference 1 = .ok (.iload_n 1, 1) := by decide +kernel
theorem dX11_difference_2 : decode cX11_difference 2 = .ok (.iload_n 2, 1) := by decide +kernel
theorem dX11_difference_3 : decode cX11_difference 3 = .ok (.iload_n 3, 1) := by decide +kernel
theorem dX11_difference_4 : decode cX11_difference 4 = .ok (.invokevirtual 284, 3) := by decide +kernel
theorem dX11_difference_7 : decode cX11_difference 7 = .ok (.ifCond .eq 31, 3) := by decide +kernel
theorem dX11_difference_10 : decode cX11_difference 10 = .ok (.iload 4, 2) := by decide +kernel
theorem dX11_difference_12 : decode cX11_difference 12 = .ok (.ifCond .lt 26, 3) := by decide +kernel
theorem dX11_difference_15 : decode cX11_difference 15 = .ok (.iload 5, 2) := by decide +kernel
theorem dX11_difference_17 : decode cX11_difference 17 = .ok (.ifCond .lt 21, 3) := by decide +kernel
theorem dX11_difference_20 : decode cX11_difference 20 = .ok (.iload 4, 2) := by decide +kernel
theorem dX11_difference_22 : decode cX11_difference 22 = .ok (.i2l, 1) := by decide +kernel
theorem dX11_difference_23 : decode cX11_difference 23 = .ok (.iload 5, 2) := by decide +kernel
theorem dX11_difference_25 : decode cX11_difference 25 = .ok (.i2l, 1) := by decide +kernel
theorem dX11_difference_26 : decode cX11_difference 26 = .ok (.ladd, 1) := by decide +kernel
theorem dX11_difference_27 : decode cX11_difference 27 = .ok (.aload_n 0, 1) := by decide +kernel
theorem dX11_difference_28 : decode cX11_difference 28 = .ok (.getfield 86, 3) := by decide +kernel
theorem dX11_difference_31 : decode cX11_difference 31 = .ok (.iconst 2, 1) := by decide +kernel
theorem dX11_difference_32 : decode cX11_difference 32 = .ok (.isub, 1) := by decide +kernel
theorem dX11_difference_33 : decode cX11_difference 33 = .ok (.i2l, 1) := by decide +kernel
theorem dX11_difference_34 : decode cX11_difference 34 = .ok (.lcmp, 1) := by decide +kernel
theorem dX11_difference_35 : decode cX11_difference 35 = .ok (.ifCond .le 7, 3) := by decide +kernel
theorem dX11_difference_38 : decode cX11_difference 38 = .ok (.ldc2_w 178, 3) := by decide +kernel
theorem dX11_difference_41 : decode cX11_difference 41 = .ok (.lreturn, 1) := by decide +kernel
theorem dX11_difference_42 : decode cX11_difference 42 = .ok (.aload_n 0, 1) := by decide +kernel
theorem dX11_difference_43 : decode cX11_difference 43 = .ok (.aload_n 0, 1) := by decide +kernel
theorem dX11_difference_44 : decode cX11_difference 44 = .ok (.invokevirtual 231, 3) := by decide +kernel
theorem dX11_difference_47 : decode cX11_difference 47 = .ok (.putfield 262, 3) := by decide +kernel
theorem dX11_difference_50 : decode cX11_difference 50 = .ok (.aload_n 0, 1) := by decide +kernel
theorem dX11_difference_51 : decode cX11_difference 51 = .ok (.sipush 149, 3) := by decide +kernel
theorem dX11_difference_54 : decode cX11_difference 54 = .ok (.sipush 149, 3) := by decide +kernel
theorem dX11_difference_57 : decode cX11_difference 57 = .ok (.invokevirtual 192, 3) := by decide +kernel
theorem dX11_difference_60 : decode cX11_difference 60 = .ok (.aload_n 0, 1) := by decide +kernel
theorem dX11_difference_61 : decode cX11_difference 61 = .ok (.iload_n 1, 1) := by decide +kernel
theorem dX11_difference_62 : decode cX11_difference 62 = .ok (.iload_n 2, 1) := by decide +kernel
theorem dX11_difference_63 : decode cX11_difference 63 = .ok (.iload_n 3, 1) := by decide +kernel
theorem dX11_difference_64 : decode cX11_difference 64 = .ok (.invokevirtual 287, 3) := by decide +kernel
theorem dX11_difference_67 : decode cX11_difference 67 = .ok (.aload_n 0, 1) := by decide +kernel
theorem dX11_difference_68 : decode cX11_difference 68 = .ok (.iload 4, 2) := by decide +kernel
theorem dX11_difference_70 : decode cX11_difference 70 = .ok (.iload 5, 2) := by decide +kernel
theorem dX11_difference_72 : decode cX11_difference 72 = .ok (.invokevirtual 293, 3) := by decide +kernel
theorem dX11_difference_75 : decode cX11_difference 75 = .ok (.lreturn, 1) := by decide +kernel
theorem dX11_formulaAt_0 : decode cX11_formulaAt 0 = .ok (.aload_n 0, 1) := by decide +kernel
theorem dX11_formulaAt_1 : decode cX11_formulaAt 1 = .ok (.iload_n 1, 1) := by decide +kernel
theorem dX11_formulaAt_2 : decode cX11_formulaAt 2 = .ok (.iload_n 2, 1) := by decide +kernel
theorem dX11_formulaAt_3 : decode cX11_formulaAt 3 = .ok (.iload_n 3, 1) := by decide +kernel
theorem dX11_formulaAt_4 : decode cX11_formulaAt 4 = .ok (.invokevirtual 287, 3) := by decide +kernel
theorem dX11_formulaAt_7 : decode cX11_formulaAt 7 = .ok (.lconst 0, 1) := by decide +kernel
theorem dX11_formulaAt_8 : decode cX11_formulaAt 8 = .ok (.lstore 4, 2) := by decide +kernel
theorem dX11_formulaAt_10 : decode cX11_formulaAt 10 = .ok (.iconst 0, 1) := by decide +kernel
theorem dX11_formulaAt_11 : decode cX11_formulaAt 11 = .ok (.istore 6, 2) := by decide +kernel
theorem dX11_formulaAt_13 : decode cX11_formulaAt 13 = .ok (.iload 6, 2) := by decide +kernel
theorem dX11_formulaAt_15 : decode cX11_formulaAt 15 = .ok (.aload_n 0, 1) := by decide +kernel
theorem dX11_formulaAt_16 : decode cX11_formulaAt 16 = .ok (.getfield 86, 3) := by decide +kernel
theorem dX11_formulaAt_19 : decode cX11_formulaAt 19 = .ok (.iconst 2, 1) := by decide +kernel
theorem dX11_formulaAt_20 : decode cX11_formulaAt 20 = .ok (.isub, 1) := by decide +kernel
theorem dX11_formulaAt_21 : decode cX11_formulaAt 21 = .ok (.if_icmp .gt 65, 3) := by decide +kernel
theorem dX11_formulaAt_24 : decode cX11_formulaAt 24 = .ok (.iconst 0, 1) := by decide +kernel
theorem dX11_formulaAt_25 : decode cX11_formulaAt 25 = .ok (.istore 7, 2) := by decide +kernel
theorem dX11_formulaAt_27 : decode cX11_formulaAt 27 = .ok (.iload 6, 2) := by decide +kernel
theorem dX11_formulaAt_29 : decode cX11_formulaAt 29 = .ok (.iload 7, 2) := by decide +kernel
theorem dX11_formulaAt_31 : decode cX11_formulaAt 31 = .ok (.iadd, 1) := by decide +kernel
theorem dX11_formulaAt_32 : decode cX11_formulaAt 32 = .ok (.aload_n 0, 1) := by decide +kernel
theorem dX11_formulaAt_33 : decode cX11_formulaAt 33 = .ok (.getfield 86, 3) := by decide +kernel
theorem dX11_formulaAt_36 : decode cX11_formulaAt 36 = .ok (.iconst 2, 1) := by decide +kernel
theorem dX11_formulaAt_37 : decode cX11_formulaAt 37 = .ok (.isub, 1) := by decide +kernel
theorem dX11_formulaAt_38 : decode cX11_formulaAt 38 = .ok (.if_icmp .gt 42, 3) := by decide +kernel
theorem dX11_formulaAt_41 : decode cX11_formulaAt 41 = .ok (.lload 4, 2) := by decide +kernel
theorem dX11_formulaAt_43 : decode cX11_formulaAt 43 = .ok (.aload_n 0, 1) := by decide +kernel
theorem dX11_formulaAt_44 : decode cX11_formulaAt 44 = .ok (.iload 6, 2) := by decide +kernel
theorem dX11_formulaAt_46 : decode cX11_formulaAt 46 = .ok (.iload 7, 2) := by decide +kernel
theorem dX11_formulaAt_48 : decode cX11_formulaAt 48 = .ok (.invokevirtual 293, 3) := by decide +kernel
theorem dX11_formulaAt_51 : decode cX11_formulaAt 51 = .ok (.aload_n 0, 1) := by decide +kernel
theorem dX11_formulaAt_52 : decode cX11_formulaAt 52 = .ok (.getfield 268, 3) := by decide +kernel
theorem dX11_formulaAt_55 : decode cX11_formulaAt 55 = .ok (.iload 6, 2) := by decide +kernel
theorem dX11_formulaAt_57 : decode cX11_formulaAt 57 = .ok (.invokestatic 290, 3) := by decide +kernel
theorem dX11_formulaAt_60 : decode cX11_formulaAt 60 = .ok (.lmul, 1) := by decide +kernel
theorem dX11_formulaAt_61 : decode cX11_formulaAt 61 = .ok (.aload_n 0, 1) := by decide +kernel
theorem dX11_formulaAt_62 : decode cX11_formulaAt 62 = .ok (.getfield 271, 3) := by decide +kernel
theorem dX11_formulaAt_65 : decode cX11_formulaAt 65 = .ok (.iload 7, 2) := by decide +kernel
theorem dX11_formulaAt_67 : decode cX11_formulaAt 67 = .ok (.invokestatic 290, 3) := by decide +kernel
theorem dX11_formulaAt_70 : decode cX11_formulaAt 70 = .ok (.lmul, 1) := by decide +kernel
theorem dX11_formulaAt_71 : decode cX11_formulaAt 71 = .ok (.ladd, 1) := by decide +kernel
theorem dX11_formulaAt_72 : decode cX11_formulaAt 72 = .ok (.lstore 4, 2) := by decide +kernel
theorem dX11_formulaAt_74 : decode cX11_formulaAt 74 = .ok (.iinc 7 1, 3) := by decide +kernel
theorem dX11_formulaAt_77 : decode cX11_formulaAt 77 = .ok (.goto (-50), 3) := by decide +kernel
theorem dX11_formulaAt_80 : decode cX11_formulaAt 80 = .ok (.iinc 6 1, 3) := by decide +kernel
theorem dX11_formulaAt_83 : decode cX11_formulaAt 83 = .ok (.goto (-70), 3) := by decide +kernel
theorem dX11_formulaAt_86 : decode cX11_formulaAt 86 = .ok (.lload 4, 2) := by decide +kernel
theorem dX11_formulaAt_88 : decode cX11_formulaAt 88 = .ok (.lreturn, 1) := by decide +kernel
theorem dX11_formula_0 : decode cX11_formula 0 = .ok (.aload_n 0, 1) := by decide +kernel
theorem dX11_formula_1 : decode cX11_formula 1 = .ok (.iload_n 1, 1) := by decide +kernel
theorem dX11_formula_2 : decode cX11_formula 2 = .ok (.iload_n 2, 1) := by decide +kernel
theorem dX11_formula_3 : decode cX11_formula 3 = .ok (.iload_n 3, 1) := by decide +kernel
theorem dX11_formula_4 : decode cX11_formula 4 = .ok (.invokevirtual 284, 3) := by decide +kernel
theorem dX11_formula_7 : decode cX11_formula 7 = .ok (.ifCond .ne 7, 3) := by decide +kernel
theorem dX11_formula_10 : decode cX11_formula 10 = .ok (.ldc2_w 178, 3) := by decide +kernel
theorem dX11_formula_13 : decode cX11_formula 13 = .ok (.lreturn, 1) := by decide +kernel
theorem dX11_formula_14 : decode cX11_formula 14 = .ok (.aload_n 0, 1) := by decide +kernel
theorem dX11_formula_15 : decode cX11_formula 15 = .ok (.aload_n 0, 1) := by decide +kernel
theorem dX11_formula_16 : decode cX11_formula 16 = .ok (.invokevirtual 231, 3) := by decide +kernel
theorem dX11_formula_19 : decode cX11_formula 19 = .ok (.putfield 262, 3) := by decide +kernel
theorem dX11_formula_22 : decode cX11_formula 22 = .ok (.aload_n 0, 1) := by decide +kernel
theorem dX11_formula_23 : decode cX11_formula 23 = .ok (.sipush 149, 3) := by decide +kernel
theorem dX11_formula_26 : decode cX11_formula 26 = .ok (.sipush 149, 3) := by decide +kernel
theorem dX11_formula_29 : decode cX11_formula 29 = .ok (.invokevirtual 192, 3) := by decide +kernel
theorem dX11_formula_32 : decode cX11_formula 32 = .ok (.aload_n 0, 1) := by decide +kernel
theorem dX11_formula_33 : decode cX11_formula 33 = .ok (.iload_n 1, 1) := by decide +kernel
theorem dX11_formula_34 : decode cX11_formula 34 = .ok (.iload_n 2, 1) := by decide +kernel
theorem dX11_formula_35 : decode cX11_formula 35 = .ok (.iload_n 3, 1) := by decide +kernel
theorem dX11_formula_36 : decode cX11_formula 36 = .ok (.invokevirtual 296, 3) := by decide +kernel
theorem dX11_formula_39 : decode cX11_formula 39 = .ok (.lreturn, 1) := by decide +kernel
theorem dX11_agrees_0 : decode cX11_agrees 0 = .ok (.aload_n 0, 1) := by decide +kernel
theorem dX11_agrees_1 : decode cX11_agrees 1 = .ok (.iload_n 1, 1) := by decide +kernel
theorem dX11_agrees_2 : decode cX11_agrees 2 = .ok (.iconst 0, 1) := by decide +kernel
theorem dX11_agrees_3 : decode cX11_agrees 3 = .ok (.iconst 0, 1) := by decide +kernel
theorem dX11_agrees_4 : decode cX11_agrees 4 = .ok (.invokevirtual 284, 3) := by decide +kernel
theorem dX11_agrees_7 : decode cX11_agrees 7 = .ok (.ifCond .eq 13, 3) := by decide +kernel
theorem dX11_agrees_10 : decode cX11_agrees 10 = .ok (.iload_n 2, 1) := by decide +kernel
theorem dX11_agrees_11 : decode cX11_agrees 11 = .ok (.iconst 0, 1) := by decide +kernel
theorem dX11_agrees_12 : decode cX11_agrees 12 = .ok (.bipush 30, 2) := by decide +kernel
theorem dX11_agrees_14 : decode cX11_agrees 14 = .ok (.invokestatic 89, 3) := by decide +kernel
theorem dX11_agrees_17 : decode cX11_agrees 17 = .ok (.ifCond .ne 5, 3) := by decide +kernel
theorem dX11_agrees_20 : decode cX11_agrees 20 = .ok (.iconst (-1), 1) := by decide +kernel
theorem dX11_agrees_21 : decode cX11_agrees 21 = .ok (.ireturn, 1) := by decide +kernel
theorem dX11_agrees_22 : decode cX11_agrees 22 = .ok (.aload_n 0, 1) := by decide +kernel
theorem dX11_agrees_23 : decode cX11_agrees 23 = .ok (.aload_n 0, 1) := by decide +kernel
theorem dX11_agrees_24 : decode cX11_agrees 24 = .ok (.invokevirtual 231, 3) := by decide +kernel
theorem dX11_agrees_27 : decode cX11_agrees 27 = .ok (.putfield 262, 3) := by decide +kernel
theorem dX11_agrees_30 : decode cX11_agrees 30 = .ok (.aload_n 0, 1) := by decide +kernel
theorem dX11_agrees_31 : decode cX11_agrees 31 = .ok (.sipush 149, 3) := by decide +kernel
theorem dX11_agrees_34 : decode cX11_agrees 34 = .ok (.sipush 149, 3) := by decide +kernel
theorem dX11_agrees_37 : decode cX11_agrees 37 = .ok (.invokevirtual 192, 3) := by decide +kernel
theorem dX11_agrees_40 : decode cX11_agrees 40 = .ok (.iconst 0, 1) := by decide +kernel
theorem dX11_agrees_41 : decode cX11_agrees 41 = .ok (.istore_n 3, 1) := by decide +kernel
theorem dX11_agrees_42 : decode cX11_agrees 42 = .ok (.iconst 0, 1) := by decide +kernel
theorem dX11_agrees_43 : decode cX11_agrees 43 = .ok (.istore 4, 2) := by decide +kernel
theorem dX11_agrees_45 : decode cX11_agrees 45 = .ok (.iload 4, 2) := by decide +kernel
theorem dX11_agrees_47 : decode cX11_agrees 47 = .ok (.iload_n 2, 1) := by decide +kernel
theorem dX11_agrees_48 : decode cX11_agrees 48 = .ok (.if_icmp .gt 53, 3) := by decide +kernel
theorem dX11_agrees_51 : decode cX11_agrees 51 = .ok (.iconst 0, 1) := by decide +kernel
theorem dX11_agrees_52 : decode cX11_agrees 52 = .ok (.istore 5, 2) := by decide +kernel
theorem dX11_agrees_54 : decode cX11_agrees 54 = .ok (.iload 5, 2) := by decide +kernel
theorem dX11_agrees_56 : decode cX11_agrees 56 = .ok (.iload_n 2, 1) := by decide +kernel
theorem dX11_agrees_57 : decode cX11_agrees 57 = .ok (.if_icmp .gt 38, 3) := by decide +kernel
theorem dX11_agrees_60 : decode cX11_agrees 60 = .ok (.iload_n 3, 1) := by decide +kernel
theorem dX11_agrees_61 : decode cX11_agrees 61 = .ok (.aload_n 0, 1) := by decide +kernel
theorem dX11_agrees_62 : decode cX11_agrees 62 = .ok (.iload_n 1, 1) := by decide +kernel
theorem dX11_agrees_63 : decode cX11_agrees 63 = .ok (.iload 4, 2) := by decide +kernel
theorem dX11_agrees_65 : decode cX11_agrees 65 = .ok (.iload 5, 2) := by decide +kernel
theorem dX11_agrees_67 : decode cX11_agrees 67 = .ok (.invokevirtual 296, 3) := by decide +kernel
theorem dX11_agrees_70 : decode cX11_agrees 70 = .ok (.aload_n 0, 1) := by decide +kernel
theorem dX11_agrees_71 : decode cX11_agrees 71 = .ok (.iload 4, 2) := by decide +kernel
theorem dX11_agrees_73 : decode cX11_agrees 73 = .ok (.iload 5, 2) := by decide +kernel
theorem dX11_agrees_75 : decode cX11_agrees 75 = .ok (.invokevirtual 195, 3) := by decide +kernel
theorem dX11_agrees_78 : decode cX11_agrees 78 = .ok (.lcmp, 1) := by decide +kernel
theorem dX11_agrees_79 : decode cX11_agrees 79 = .ok (.ifCond .ne 7, 3) := by decide +kernel
theorem dX11_agrees_82 : decode cX11_agrees 82 = .ok (.iconst 1, 1) := by decide +kernel
theorem dX11_agrees_83 : decode cX11_agrees 83 = .ok (.goto 4, 3) := by decide +kernel
theorem dX11_agrees_86 : decode cX11_agrees 86 = .ok (.iconst 0, 1) := by decide +kernel
theorem dX11_agrees_87 : decode cX11_agrees 87 = .ok (.iadd, 1) := by decide +kernel
theorem dX11_agrees_88 : decode cX11_agrees 88 = .ok (.istore_n 3, 1) := by decide +kernel
theorem dX11_agrees_89 : decode cX11_agrees 89 = .ok (.iinc 5 1, 3) := by decide +kernel
theorem dX11_agrees_92 : decode cX11_agrees 92 = .ok (.goto (-38), 3) := by decide +kernel
theorem dX11_agrees_95 : decode cX11_agrees 95 = .ok (.iinc 4 1, 3) := by decide +kernel
theorem dX11_agrees_98 : decode cX11_agrees 98 = .ok (.goto (-53), 3) := by decide +kernel
theorem dX11_agrees_101 : decode cX11_agrees 101 = .ok (.iload_n 3, 1) := by decide +kernel
theorem dX11_agrees_102 : decode cX11_agrees 102 = .ok (.ireturn, 1) := by decide +kernel
theorem dX11_isSheet_0 : decode cX11_isSheet 0 = .ok (.iload_n 0, 1) := by decide +kernel
theorem dX11_isSheet_1 : decode cX11_isSheet 1 = .ok (.iconst 0, 1) := by decide +kernel
theorem dX11_isSheet_2 : decode cX11_isSheet 2 = .ok (.iconst 3, 1) := by decide +kernel
theorem dX11_isSheet_3 : decode cX11_isSheet 3 = .ok (.invokestatic 89, 3) := by decide +kernel
theorem dX11_isSheet_6 : decode cX11_isSheet 6 = .ok (.ireturn, 1) := by decide +kernel
theorem dX11_cut_0 : decode cX11_cut 0 = .ok (.iload_n 0, 1) := by decide +kernel
theorem dX11_cut_1 : decode cX11_cut 1 = .ok (.ifCond .ne 10, 3) := by decide +kernel
theorem dX11_cut_4 : decode cX11_cut 4 = .ok (.lload_n 1, 1) := by decide +kernel
theorem dX11_cut_5 : decode cX11_cut 5 = .ok (.l2i, 1) := by decide +kernel
theorem dX11_cut_6 : decode cX11_cut 6 = .ok (.i2b, 1) := by decide +kernel
theorem dX11_cut_7 : decode cX11_cut 7 = .ok (.i2l, 1) := by decide +kernel
theorem dX11_cut_8 : decode cX11_cut 8 = .ok (.goto 16, 3) := by decide +kernel
theorem dX11_cut_11 : decode cX11_cut 11 = .ok (.iload_n 0, 1) := by decide +kernel
theorem dX11_cut_12 : decode cX11_cut 12 = .ok (.iconst 1, 1) := by decide +kernel
theorem dX11_cut_13 : decode cX11_cut 13 = .ok (.if_icmp .ne 10, 3) := by decide +kernel
theorem dX11_cut_16 : decode cX11_cut 16 = .ok (.lload_n 1, 1) := by decide +kernel
theorem dX11_cut_17 : decode cX11_cut 17 = .ok (.l2i, 1) := by decide +kernel
theorem dX11_cut_18 : decode cX11_cut 18 = .ok (.i2s, 1) := by decide +kernel
theorem dX11_cut_19 : decode cX11_cut 19 = .ok (.i2l, 1) := by decide +kernel
theorem dX11_cut_20 : decode cX11_cut 20 = .ok (.goto 4, 3) := by decide +kernel
theorem dX11_cut_23 : decode cX11_cut 23 = .ok (.lload_n 1, 1) := by decide +kernel
theorem dX11_cut_24 : decode cX11_cut 24 = .ok (.lreturn, 1) := by decide +kernel
theorem dX11_sheet_0 : decode cX11_sheet 0 = .ok (.iload_n 1, 1) := by decide +kernel
theorem dX11_sheet_1 : decode cX11_sheet 1 = .ok (.invokestatic 300, 3) := by decide +kernel
theorem dX11_sheet_4 : decode cX11_sheet 4 = .ok (.ifCond .eq 22, 3) := by decide +kernel
theorem dX11_sheet_7 : decode cX11_sheet 7 = .ok (.iload_n 2, 1) := by decide +kernel
theorem dX11_sheet_8 : decode cX11_sheet 8 = .ok (.iconst (-1), 1) := by decide +kernel
theorem dX11_sheet_9 : decode cX11_sheet 9 = .ok (.iconst 2, 1) := by decide +kernel
theorem dX11_sheet_10 : decode cX11_sheet 10 = .ok (.invokestatic 89, 3) := by decide +kernel
theorem dX11_sheet_13 : decode cX11_sheet 13 = .ok (.ifCond .eq 13, 3) := by decide +kernel
theorem dX11_sheet_16 : decode cX11_sheet 16 = .ok (.iload_n 2, 1) := by decide +kernel
theorem dX11_sheet_17 : decode cX11_sheet 17 = .ok (.ifCond .lt 11, 3) := by decide +kernel
theorem dX11_sheet_20 : decode cX11_sheet 20 = .ok (.iload_n 3, 1) := by decide +kernel
theorem dX11_sheet_21 : decode cX11_sheet 21 = .ok (.bipush 60, 2) := by decide +kernel
theorem dX11_sheet_23 : decode cX11_sheet 23 = .ok (.if_icmp .le 5, 3) := by decide +kernel
theorem dX11_sheet_26 : decode cX11_sheet 26 = .ok (.iconst (-1), 1) := by decide +kernel
theorem dX11_sheet_27 : decode cX11_sheet 27 = .ok (.ireturn, 1) := by decide +kernel
theorem dX11_sheet_28 : decode cX11_sheet 28 = .ok (.iload_n 2, 1) := by decide +kernel
theorem dX11_sheet_29 : decode cX11_sheet 29 = .ok (.ifCond .lt 10, 3) := by decide +kernel
theorem dX11_sheet_32 : decode cX11_sheet 32 = .ok (.iload_n 3, 1) := by decide +kernel
theorem dX11_sheet_33 : decode cX11_sheet 33 = .ok (.ifCond .ge 6, 3) := by decide +kernel
theorem dX11_sheet_36 : decode cX11_sheet 36 = .ok (.bipush (-14), 2) := by decide +kernel
theorem dX11_sheet_38 : decode cX11_sheet 38 = .ok (.ireturn, 1) := by decide +kernel
theorem dX11_sheet_39 : decode cX11_sheet 39 = .ok (.aload_n 0, 1) := by decide +kernel
theorem dX11_sheet_40 : decode cX11_sheet 40 = .ok (.getfield 77, 3) := by decide +kernel
theorem dX11_sheet_43 : decode cX11_sheet 43 = .ok (.iload_n 1, 1) := by decide +kernel
theorem dX11_sheet_44 : decode cX11_sheet 44 = .ok (.iload_n 2, 1) := by decide +kernel
theorem dX11_sheet_45 : decode cX11_sheet 45 = .ok (.iastore, 1) := by decide +kernel
theorem dX11_sheet_46 : decode cX11_sheet 46 = .ok (.aload_n 0, 1) := by decide +kernel
theorem dX11_sheet_47 : decode cX11_sheet 47 = .ok (.getfield 80, 3) := by decide +kernel
theorem dX11_sheet_50 : decode cX11_sheet 50 = .ok (.iload_n 1, 1) := by decide +kernel
theorem dX11_sheet_51 : decode cX11_sheet 51 = .ok (.iload_n 2, 1) := by decide +kernel
theorem dX11_sheet_52 : decode cX11_sheet 52 = .ok (.ifCond .ge 7, 3) := by decide +kernel
theorem dX11_sheet_55 : decode cX11_sheet 55 = .ok (.iconst 0, 1) := by decide +kernel
theorem dX11_sheet_56 : decode cX11_sheet 56 = .ok (.goto 4, 3) := by decide +kernel
theorem dX11_sheet_59 : decode cX11_sheet 59 = .ok (.iload_n 3, 1) := by decide +kernel
theorem dX11_sheet_60 : decode cX11_sheet 60 = .ok (.iastore, 1) := by decide +kernel
theorem dX11_sheet_61 : decode cX11_sheet 61 = .ok (.iconst 0, 1) := by decide +kernel
theorem dX11_sheet_62 : decode cX11_sheet 62 = .ok (.istore 4, 2) := by decide +kernel
theorem dX11_sheet_64 : decode cX11_sheet 64 = .ok (.iload 4, 2) := by decide +kernel
theorem dX11_sheet_66 : decode cX11_sheet 66 = .ok (.bipush 60, 2) := by decide +kernel
theorem dX11_sheet_68 : decode cX11_sheet 68 = .ok (.if_icmp .ge 22, 3) := by decide +kernel
theorem dX11_sheet_71 : decode cX11_sheet 71 = .ok (.aload_n 0, 1) := by decide +kernel
theorem dX11_sheet_72 : decode cX11_sheet 72 = .ok (.getfield 83, 3) := by decide +kernel
theorem dX11_sheet_75 : decode cX11_sheet 75 = .ok (.bipush 60, 2) := by decide +kernel
theorem dX11_sheet_77 : decode cX11_sheet 77 = .ok (.iload_n 1, 1) := by decide +kernel
theorem dX11_sheet_78 : decode cX11_sheet 78 = .ok (.imul, 1) := by decide +kernel
theorem dX11_sheet_79 : decode cX11_sheet 79 = .ok (.iload 4, 2) := by decide +kernel
theorem dX11_sheet_81 : decode cX11_sheet 81 = .ok (.iadd, 1) := by decide +kernel
theorem dX11_sheet_82 : decode cX11_sheet 82 = .ok (.lconst 0, 1) := by decide +kernel
theorem dX11_sheet_83 : decode cX11_sheet 83 = .ok (.lastore, 1) := by decide +kernel
theorem dX11_sheet_84 : decode cX11_sheet 84 = .ok (.iinc 4 1, 3) := by decide +kernel
theorem dX11_sheet_87 : decode cX11_sheet 87 = .ok (.goto (-23), 3) := by decide +kernel
theorem dX11_sheet_90 : decode cX11_sheet 90 = .ok (.iconst 1, 1) := by decide +kernel
theorem dX11_sheet_91 : decode cX11_sheet 91 = .ok (.ireturn, 1) := by decide +kernel
theorem dX11_put_0 : decode cX11_put 0 = .ok (.iload_n 1, 1) := by decide +kernel
theorem dX11_put_1 : decode cX11_put 1 = .ok (.invokestatic 300, 3) := by decide +kernel
theorem dX11_put_4 : decode cX11_put 4 = .ok (.ifCond .ne 5, 3) := by decide +kernel
theorem dX11_put_7 : decode cX11_put 7 = .ok (.iconst (-1), 1) := by decide +kernel
theorem dX11_put_8 : decode cX11_put 8 = .ok (.ireturn, 1) := by decide +kernel
theorem dX11_put_9 : decode cX11_put 9 = .ok (.aload_n 0, 1) := by decide +kernel
theorem dX11_put_10 : decode cX11_put 10 = .ok (.getfield 77, 3) := by decide +kernel
theorem dX11_put_13 : decode cX11_put 13 = .ok (.iload_n 1, 1) := by decide +kernel
theorem dX11_put_14 : decode cX11_put 14 = .ok (.iaload, 1) := by decide +kernel
theorem dX11_put_15 : decode cX11_put 15 = .ok (.ifCond .ge 6, 3) := by decide +kernel
theorem dX11_put_18 : decode cX11_put 18 = .ok (.bipush (-11), 2) := by decide +kernel
theorem dX11_put_20 : decode cX11_put 20 = .ok (.ireturn, 1) := by decide +kernel
theorem dX11_put_21 : decode cX11_put 21 = .ok (.iload_n 2, 1) := by decide +kernel
theorem dX11_put_22 : decode cX11_put 22 = .ok (.iconst 0, 1) := by decide +kernel
theorem dX11_put_23 : decode cX11_put 23 = .ok (.aload_n 0, 1) := by decide +kernel
theorem dX11_put_24 : decode cX11_put 24 = .ok (.getfield 80, 3) := by decide +kernel
theorem dX11_put_27 : decode cX11_put 27 = .ok (.iload_n 1, 1) := by decide +kernel
theorem dX11_put_28 : decode cX11_put 28 = .ok (.iaload, 1) := by decide +kernel
theorem dX11_put_29 : decode cX11_put 29 = .ok (.iconst 1, 1) := by decide +kernel
theorem dX11_put_30 : decode cX11_put 30 = .ok (.isub, 1) := by decide +kernel
theorem dX11_put_31 : decode cX11_put 31 = .ok (.invokestatic 89, 3) := by decide +kernel
theorem dX11_put_34 : decode cX11_put 34 = .ok (.ifCond .ne 6, 3) := by decide +kernel
theorem dX11_put_37 : decode cX11_put 37 = .ok (.bipush (-12), 2) := by decide +kernel
theorem dX11_put_39 : decode cX11_put 39 = .ok (.ireturn, 1) := by decide +kernel
theorem dX11_put_40 : decode cX11_put 40 = .ok (.aload_n 0, 1) := by decide +kernel
theorem dX11_put_41 : decode cX11_put 41 = .ok (.getfield 83, 3) := by decide +kernel
theorem dX11_put_44 : decode cX11_put 44 = .ok (.bipush 60, 2) := by decide +kernel
theorem dX11_put_46 : decode cX11_put 46 = .ok (.iload_n 1, 1) := by decide +kernel
theorem dX11_put_47 : decode cX11_put 47 = .ok (.imul, 1) := by decide +kernel
theorem dX11_put_48 : decode cX11_put 48 = .ok (.iload_n 2, 1) := by decide +kernel
theorem dX11_put_49 : decode cX11_put 49 = .ok (.iadd, 1) := by decide +kernel
theorem dX11_put_50 : decode cX11_put 50 = .ok (.aload_n 0, 1) := by decide +kernel
theorem dX11_put_51 : decode cX11_put 51 = .ok (.getfield 77, 3) := by decide +kernel
theorem dX11_put_54 : decode cX11_put 54 = .ok (.iload_n 1, 1) := by decide +kernel
theorem dX11_put_55 : decode cX11_put 55 = .ok (.iaload, 1) := by decide +kernel
theorem dX11_put_56 : decode cX11_put 56 = .ok (.lload_n 3, 1) := by decide +kernel
theorem dX11_put_57 : decode cX11_put 57 = .ok (.invokestatic 303, 3) := by decide +kernel
theorem dX11_put_60 : decode cX11_put 60 = .ok (.lastore, 1) := by decide +kernel
theorem dX11_put_61 : decode cX11_put 61 = .ok (.iconst 1, 1) := by decide +kernel
theorem dX11_put_62 : decode cX11_put 62 = .ok (.ireturn, 1) := by decide +kernel
theorem dX11_item_0 : decode cX11_item 0 = .ok (.iload_n 1, 1) := by decide +kernel
theorem dX11_item_1 : decode cX11_item 1 = .ok (.invokestatic 300, 3) := by decide +kernel
theorem dX11_item_4 : decode cX11_item 4 = .ok (.ifCond .eq 12, 3) := by decide +kernel
theorem dX11_item_7 : decode cX11_item 7 = .ok (.iload_n 2, 1) := by decide +kernel
theorem dX11_item_8 : decode cX11_item 8 = .ok (.iconst 0, 1) := by decide +kernel
theorem dX11_item_9 : decode cX11_item 9 = .ok (.iconst 2, 1) := by decide +kernel
theorem dX11_item_10 : decode cX11_item 10 = .ok (.invokestatic 89, 3) := by decide +kernel
theorem dX11_item_13 : decode cX11_item 13 = .ok (.ifCond .ne 5, 3) := by decide +kernel
theorem dX11_item_16 : decode cX11_item 16 = .ok (.iconst (-1), 1) := by decide +kernel
theorem dX11_item_17 : decode cX11_item 17 = .ok (.ireturn, 1) := by decide +kernel
theorem dX11_item_18 : decode cX11_item 18 = .ok (.aload_n 0, 1) := by decide +kernel
theorem dX11_item_19 : decode cX11_item 19 = .ok (.getfield 77, 3) := by decide +kernel
theorem dX11_item_22 : decode cX11_item 22 = .ok (.iload_n 1, 1) := by decide +kernel
theorem dX11_item_23 : decode cX11_item 23 = .ok (.iaload, 1) := by decide +kernel
theorem dX11_item_24 : decode cX11_item 24 = .ok (.iload_n 2, 1) := by decide +kernel
theorem dX11_item_25 : decode cX11_item 25 = .ok (.if_icmp .eq 20, 3) := by decide +kernel
theorem dX11_item_28 : decode cX11_item 28 = .ok (.aload_n 0, 1) := by decide +kernel
theorem dX11_item_29 : decode cX11_item 29 = .ok (.getfield 77, 3) := by decide +kernel
theorem dX11_item_32 : decode cX11_item 32 = .ok (.iload_n 1, 1) := by decide +kernel
theorem dX11_item_33 : decode cX11_item 33 = .ok (.iaload, 1) := by decide +kernel
theorem dX11_item_34 : decode cX11_item 34 = .ok (.ifCond .ge 8, 3) := by decide +kernel
theorem dX11_item_37 : decode cX11_item 37 = .ok (.bipush (-11), 2) := by decide +kernel
theorem dX11_item_39 : decode cX11_item 39 = .ok (.goto 5, 3) := by decide +kernel
theorem dX11_item_42 : decode cX11_item 42 = .ok (.bipush (-13), 2) := by decide +kernel
theorem dX11_item_44 : decode cX11_item 44 = .ok (.ireturn, 1) := by decide +kernel
theorem dX11_item_45 : decode cX11_item 45 = .ok (.iload_n 3, 1) := by decide +kernel
theorem dX11_item_46 : decode cX11_item 46 = .ok (.iconst 0, 1) := by decide +kernel
theorem dX11_item_47 : decode cX11_item 47 = .ok (.aload_n 0, 1) := by decide +kernel
theorem dX11_item_48 : decode cX11_item 48 = .ok (.getfield 80, 3) := by decide +kernel
theorem dX11_item_51 : decode cX11_item 51 = .ok (.iload_n 1, 1) := by decide +kernel
theorem dX11_item_52 : decode cX11_item 52 = .ok (.iaload, 1) := by decide +kernel
theorem dX11_item_53 : decode cX11_item 53 = .ok (.iconst 1, 1) := by decide +kernel
theorem dX11_item_54 : decode cX11_item 54 = .ok (.isub, 1) := by decide +kernel
theorem dX11_item_55 : decode cX11_item 55 = .ok (.invokestatic 89, 3) := by decide +kernel
theorem dX11_item_58 : decode cX11_item 58 = .ok (.ifCond .eq 18, 3) := by decide +kernel
theorem dX11_item_61 : decode cX11_item 61 = .ok (.aload_n 0, 1) := by decide +kernel
theorem dX11_item_62 : decode cX11_item 62 = .ok (.getfield 83, 3) := by decide +kernel
theorem dX11_item_65 : decode cX11_item 65 = .ok (.bipush 60, 2) := by decide +kernel
theorem dX11_item_67 : decode cX11_item 67 = .ok (.iload_n 1, 1) := by decide +kernel
theorem dX11_item_68 : decode cX11_item 68 = .ok (.imul, 1) := by decide +kernel
theorem dX11_item_69 : decode cX11_item 69 = .ok (.iload_n 3, 1) := by decide +kernel
theorem dX11_item_70 : decode cX11_item 70 = .ok (.iadd, 1) := by decide +kernel
theorem dX11_item_71 : decode cX11_item 71 = .ok (.laload, 1) := by decide +kernel
theorem dX11_item_72 : decode cX11_item 72 = .ok (.l2i, 1) := by decide +kernel
theorem dX11_item_73 : decode cX11_item 73 = .ok (.goto 5, 3) := by decide +kernel
theorem dX11_item_76 : decode cX11_item 76 = .ok (.bipush (-12), 2) := by decide +kernel
theorem dX11_item_78 : decode cX11_item 78 = .ok (.ireturn, 1) := by decide +kernel
theorem dX11_lacks_0 : decode cX11_lacks 0 = .ok (.iload_n 1, 1) := by decide +kernel
theorem dX11_lacks_1 : decode cX11_lacks 1 = .ok (.invokestatic 300, 3) := by decide +kernel
theorem dX11_lacks_4 : decode cX11_lacks 4 = .ok (.ifCond .eq 13, 3) := by decide +kernel
theorem dX11_lacks_7 : decode cX11_lacks 7 = .ok (.iload_n 2, 1) := by decide +kernel
theorem dX11_lacks_8 : decode cX11_lacks 8 = .ok (.iconst 1, 1) := by decide +kernel
theorem dX11_lacks_9 : decode cX11_lacks 9 = .ok (.bipush 10, 2) := by decide +kernel
theorem dX11_lacks_11 : decode cX11_lacks 11 = .ok (.invokestatic 89, 3) := by decide +kernel
theorem dX11_lacks_14 : decode cX11_lacks 14 = .ok (.ifCond .ne 5, 3) := by decide +kernel
theorem dX11_lacks_17 : decode cX11_lacks 17 = .ok (.iconst (-1), 1) := by decide +kernel
theorem dX11_lacks_18 : decode cX11_lacks 18 = .ok (.ireturn, 1) := by decide +kernel
theorem dX11_lacks_19 : decode cX11_lacks 19 = .ok (.aload_n 0, 1) := by decide +kernel
theorem dX11_lacks_20 : decode cX11_lacks 20 = .ok (.getfield 77, 3) := by decide +kernel
theorem dX11_lacks_23 : decode cX11_lacks 23 = .ok (.iload_n 1, 1) := by decide +kernel
theorem dX11_lacks_24 : decode cX11_lacks 24 = .ok (.iaload, 1) := by decide +kernel
theorem dX11_lacks_25 : decode cX11_lacks 25 = .ok (.ifCond .ge 8, 3) := by decide +kernel
theorem dX11_lacks_28 : decode cX11_lacks 28 = .ok (.bipush (-11), 2) := by decide +kernel
theorem dX11_lacks_30 : decode cX11_lacks 30 = .ok (.goto 19, 3) := by decide +kernel
theorem dX11_lacks_33 : decode cX11_lacks 33 = .ok (.aload_n 0, 1) := by decide +kernel
theorem dX11_lacks_34 : decode cX11_lacks 34 = .ok (.getfield 77, 3) := by decide +kernel
theorem dX11_lacks_37 : decode cX11_lacks 37 = .ok (.iload_n 1, 1) := by decide +kernel
theorem dX11_lacks_38 : decode cX11_lacks 38 = .ok (.iaload, 1) := by decide +kernel
theorem dX11_lacks_39 : decode cX11_lacks 39 = .ok (.iconst 2, 1) := by decide +kernel
theorem dX11_lacks_40 : decode cX11_lacks 40 = .ok (.if_icmp .ne 8, 3) := by decide +kernel
theorem dX11_lacks_43 : decode cX11_lacks 43 = .ok (.bipush (-13), 2) := by decide +kernel
theorem dX11_lacks_45 : decode cX11_lacks 45 = .ok (.goto 4, 3) := by decide +kernel
theorem dX11_lacks_48 : decode cX11_lacks 48 = .ok (.iconst 0, 1) := by decide +kernel
theorem dX11_lacks_49 : decode cX11_lacks 49 = .ok (.ireturn, 1) := by decide +kernel
theorem dX11_countTable_0 : decode cX11_countTable 0 = .ok (.aload_n 0, 1) := by decide +kernel
theorem dX11_countTable_1 : decode cX11_countTable 1 = .ok (.getfield 80, 3) := by decide +kernel
theorem dX11_countTable_4 : decode cX11_countTable 4 = .ok (.iload_n 1, 1) := by decide +kernel
theorem dX11_countTable_5 : decode cX11_countTable 5 = .ok (.iaload, 1) := by decide +kernel
theorem dX11_countTable_6 : decode cX11_countTable 6 = .ok (.istore_n 3, 1) := by decide +kernel
theorem dX11_countTable_7 : decode cX11_countTable 7 = .ok (.aload_n 0, 1) := by decide +kernel
theorem dX11_countTable_8 : decode cX11_countTable 8 = .ok (.iload_n 3, 1) := by decide +kernel
theorem dX11_countTable_9 : decode cX11_countTable 9 = .ok (.iload_n 2, 1) := by decide +kernel
theorem dX11_countTable_10 : decode cX11_countTable 10 = .ok (.if_icmp .ge 7, 3) := by decide +kernel
theorem dX11_countTable_13 : decode cX11_countTable 13 = .ok (.iload_n 3, 1) := by decide +kernel
theorem dX11_countTable_14 : decode cX11_countTable 14 = .ok (.goto 4, 3) := by decide +kernel
theorem dX11_countTable_17 : decode cX11_countTable 17 = .ok (.iload_n 2, 1) := by decide +kernel
theorem dX11_countTable_18 : decode cX11_countTable 18 = .ok (.iload_n 3, 1) := by decide +kernel
theorem dX11_countTable_19 : decode cX11_countTable 19 = .ok (.iload_n 2, 1) := by decide +kernel
theorem dX11_countTable_20 : decode cX11_countTable 20 = .ok (.idiv, 1) := by decide +kernel
theorem dX11_countTable_21 : decode cX11_countTable 21 = .ok (.invokevirtual 180, 3) := by decide +kernel
theorem dX11_countTable_24 : decode cX11_countTable 24 = .ok (.return_, 1) := by decide +kernel
theorem dX11_lay_0 : decode cX11_lay 0 = .ok (.aload_n 0, 1) := by decide +kernel
theorem dX11_lay_1 : decode cX11_lay 1 = .ok (.iload_n 1, 1) := by decide +kernel
theorem dX11_lay_2 : decode cX11_lay 2 = .ok (.iload_n 2, 1) := by decide +kernel
theorem dX11_lay_3 : decode cX11_lay 3 = .ok (.invokevirtual 307, 3) := by decide +kernel
theorem dX11_lay_6 : decode cX11_lay 6 = .ok (.istore_n 3, 1) := by decide +kernel
theorem dX11_lay_7 : decode cX11_lay 7 = .ok (.iload_n 3, 1) := by decide +kernel
theorem dX11_lay_8 : decode cX11_lay 8 = .ok (.ifCond .eq 5, 3) := by decide +kernel
theorem dX11_lay_11 : decode cX11_lay 11 = .ok (.iload_n 3, 1) := by decide +kernel
theorem dX11_lay_12 : decode cX11_lay 12 = .ok (.ireturn, 1) := by decide +kernel
theorem dX11_lay_13 : decode cX11_lay 13 = .ok (.aload_n 0, 1) := by decide +kernel
theorem dX11_lay_14 : decode cX11_lay 14 = .ok (.iload_n 1, 1) := by decide +kernel
theorem dX11_lay_15 : decode cX11_lay 15 = .ok (.iload_n 2, 1) := by decide +kernel
theorem dX11_lay_16 : decode cX11_lay 16 = .ok (.invokevirtual 310, 3) := by decide +kernel
theorem dX11_lay_19 : decode cX11_lay 19 = .ok (.iconst 1, 1) := by decide +kernel
theorem dX11_lay_20 : decode cX11_lay 20 = .ok (.istore 4, 2) := by decide +kernel
theorem dX11_lay_22 : decode cX11_lay 22 = .ok (.iconst 0, 1) := by decide +kernel
theorem dX11_lay_23 : decode cX11_lay 23 = .ok (.istore 5, 2) := by decide +kernel
theorem dX11_lay_25 : decode cX11_lay 25 = .ok (.iload 5, 2) := by decide +kernel
theorem dX11_lay_27 : decode cX11_lay 27 = .ok (.aload_n 0, 1) := by decide +kernel
theorem dX11_lay_28 : decode cX11_lay 28 = .ok (.getfield 80, 3) := by decide +kernel
theorem dX11_lay_31 : decode cX11_lay 31 = .ok (.iload_n 1, 1) := by decide +kernel
theorem dX11_lay_32 : decode cX11_lay 32 = .ok (.iaload, 1) := by decide +kernel
theorem dX11_lay_33 : decode cX11_lay 33 = .ok (.if_icmp .ge 60, 3) := by decide +kernel
theorem dX11_lay_36 : decode cX11_lay 36 = .ok (.iload 4, 2) := by decide +kernel
theorem dX11_lay_38 : decode cX11_lay 38 = .ok (.ifCond .eq 46, 3) := by decide +kernel
theorem dX11_lay_41 : decode cX11_lay 41 = .ok (.aload_n 0, 1) := by decide +kernel
theorem dX11_lay_42 : decode cX11_lay 42 = .ok (.getfield 62, 3) := by decide +kernel
theorem dX11_lay_45 : decode cX11_lay 45 = .ok (.iconst 0, 1) := by decide +kernel
theorem dX11_lay_46 : decode cX11_lay 46 = .ok (.iload 5, 2) := by decide +kernel
theorem dX11_lay_48 : decode cX11_lay 48 = .ok (.iload_n 2, 1) := by decide +kernel
theorem dX11_lay_49 : decode cX11_lay 49 = .ok (.irem, 1) := by decide +kernel
theorem dX11_lay_50 : decode cX11_lay 50 = .ok (.iload 5, 2) := by decide +kernel
theorem dX11_lay_52 : decode cX11_lay 52 = .ok (.iload_n 2, 1) := by decide +kernel
theorem dX11_lay_53 : decode cX11_lay 53 = .ok (.idiv, 1) := by decide +kernel
theorem dX11_lay_54 : decode cX11_lay 54 = .ok (.invokestatic 171, 3) := by decide +kernel
theorem dX11_lay_57 : decode cX11_lay 57 = .ok (.laload, 1) := by decide +kernel
theorem dX11_lay_58 : decode cX11_lay 58 = .ok (.aload_n 0, 1) := by decide +kernel
theorem dX11_lay_59 : decode cX11_lay 59 = .ok (.getfield 77, 3) := by decide +kernel
theorem dX11_lay_62 : decode cX11_lay 62 = .ok (.iload_n 1, 1) := by decide +kernel
theorem dX11_lay_63 : decode cX11_lay 63 = .ok (.iaload, 1) := by decide +kernel
theorem dX11_lay_64 : decode cX11_lay 64 = .ok (.ifCond .ne 9, 3) := by decide +kernel
theorem dX11_lay_67 : decode cX11_lay 67 = .ok (.ldc2_w 313, 3) := by decide +kernel
theorem dX11_lay_70 : decode cX11_lay 70 = .ok (.goto 6, 3) := by decide +kernel
theorem dX11_lay_73 : decode cX11_lay 73 = .ok (.ldc2_w 315, 3) := by decide +kernel
theorem dX11_lay_76 : decode cX11_lay 76 = .ok (.lcmp, 1) := by decide +kernel
theorem dX11_lay_77 : decode cX11_lay 77 = .ok (.ifCond .gt 7, 3) := by decide +kernel
theorem dX11_lay_80 : decode cX11_lay 80 = .ok (.iconst 1, 1) := by decide +kernel
theorem dX11_lay_81 : decode cX11_lay 81 = .ok (.goto 4, 3) := by decide +kernel
theorem dX11_lay_84 : decode cX11_lay 84 = .ok (.iconst 0, 1) := by decide +kernel
theorem dX11_lay_85 : decode cX11_lay 85 = .ok (.istore 4, 2) := by decide +kernel
theorem dX11_lay_87 : decode cX11_lay 87 = .ok (.iinc 5 1, 3) := by decide +kernel
theorem dX11_lay_90 : decode cX11_lay 90 = .ok (.goto (-65), 3) := by decide +kernel
theorem dX11_lay_93 : decode cX11_lay 93 = .ok (.iconst 0, 1) := by decide +kernel
theorem dX11_lay_94 : decode cX11_lay 94 = .ok (.istore 5, 2) := by decide +kernel
theorem dX11_lay_96 : decode cX11_lay 96 = .ok (.iload 5, 2) := by decide +kernel
theorem dX11_lay_98 : decode cX11_lay 98 = .ok (.aload_n 0, 1) := by decide +kernel
theorem dX11_lay_99 : decode cX11_lay 99 = .ok (.getfield 80, 3) := by decide +kernel
theorem dX11_lay_102 : decode cX11_lay 102 = .ok (.iload_n 1, 1) := by decide +kernel
theorem dX11_lay_103 : decode cX11_lay 103 = .ok (.iaload, 1) := by decide +kernel
theorem dX11_lay_104 : decode cX11_lay 104 = .ok (.if_icmp .ge 43, 3) := by decide +kernel
theorem dX11_lay_107 : decode cX11_lay 107 = .ok (.iload 4, 2) := by decide +kernel
theorem dX11_lay_109 : decode cX11_lay 109 = .ok (.ifCond .eq 38, 3) := by decide +kernel
theorem dX11_lay_112 : decode cX11_lay 112 = .ok (.aload_n 0, 1) := by decide +kernel
theorem dX11_lay_113 : decode cX11_lay 113 = .ok (.getfield 83, 3) := by decide +kernel
theorem dX11_lay_116 : decode cX11_lay 116 = .ok (.bipush 60, 2) := by decide +kernel
theorem dX11_lay_118 : decode cX11_lay 118 = .ok (.iload_n 1, 1) := by decide +kernel
theorem dX11_lay_119 : decode cX11_lay 119 = .ok (.imul, 1) := by decide +kernel
theorem dX11_lay_120 : decode cX11_lay 120 = .ok (.iload 5, 2) := by decide +kernel
theorem dX11_lay_122 : decode cX11_lay 122 = .ok (.iadd, 1) := by decide +kernel
theorem dX11_lay_123 : decode cX11_lay 123 = .ok (.aload_n 0, 1) := by decide +kernel
theorem dX11_lay_124 : decode cX11_lay 124 = .ok (.getfield 62, 3) := by decide +kernel
theorem dX11_lay_127 : decode cX11_lay 127 = .ok (.iconst 0, 1) := by decide +kernel
theorem dX11_lay_128 : decode cX11_lay 128 = .ok (.iload 5, 2) := by decide +kernel
theorem dX11_lay_130 : decode cX11_lay 130 = .ok (.iload_n 2, 1) := by decide +kernel
theorem dX11_lay_131 : decode cX11_lay 131 = .ok (.irem, 1) := by decide +kernel
theorem dX11_lay_132 : decode cX11_lay 132 = .ok (.iload 5, 2) := by decide +kernel
theorem dX11_lay_134 : decode cX11_lay 134 = .ok (.iload_n 2, 1) := by decide +kernel
theorem dX11_lay_135 : decode cX11_lay 135 = .ok (.idiv, 1) := by decide +kernel
theorem dX11_lay_136 : decode cX11_lay 136 = .ok (.invokestatic 171, 3) := by decide +kernel
theorem dX11_lay_139 : decode cX11_lay 139 = .ok (.laload, 1) := by decide +kernel
theorem dX11_lay_140 : decode cX11_lay 140 = .ok (.lastore, 1) := by decide +kernel
theorem dX11_lay_141 : decode cX11_lay 141 = .ok (.iinc 5 1, 3) := by decide +kernel
theorem dX11_lay_144 : decode cX11_lay 144 = .ok (.goto (-48), 3) := by decide +kernel
theorem dX11_lay_147 : decode cX11_lay 147 = .ok (.iload 4, 2) := by decide +kernel
theorem dX11_lay_149 : decode cX11_lay 149 = .ok (.ifCond .eq 12, 3) := by decide +kernel
theorem dX11_lay_152 : decode cX11_lay 152 = .ok (.aload_n 0, 1) := by decide +kernel
theorem dX11_lay_153 : decode cX11_lay 153 = .ok (.getfield 80, 3) := by decide +kernel
theorem dX11_lay_156 : decode cX11_lay 156 = .ok (.iload_n 1, 1) := by decide +kernel
theorem dX11_lay_157 : decode cX11_lay 157 = .ok (.iaload, 1) := by decide +kernel
theorem dX11_lay_158 : decode cX11_lay 158 = .ok (.goto 5, 3) := by decide +kernel
theorem dX11_lay_161 : decode cX11_lay 161 = .ok (.bipush (-16), 2) := by decide +kernel
theorem dX11_lay_163 : decode cX11_lay 163 = .ok (.ireturn, 1) := by decide +kernel
theorem dX11_check_0 : decode cX11_check 0 = .ok (.aload_n 0, 1) := by decide +kernel
theorem dX11_check_1 : decode cX11_check 1 = .ok (.iload_n 1, 1) := by decide +kernel
theorem dX11_check_2 : decode cX11_check 2 = .ok (.iload_n 2, 1) := by decide +kernel
theorem dX11_check_3 : decode cX11_check 3 = .ok (.invokevirtual 307, 3) := by decide +kernel
theorem dX11_check_6 : decode cX11_check 6 = .ok (.istore_n 3, 1) := by decide +kernel
theorem dX11_check_7 : decode cX11_check 7 = .ok (.iload_n 3, 1) := by decide +kernel
theorem dX11_check_8 : decode cX11_check 8 = .ok (.ifCond .eq 5, 3) := by decide +kernel
theorem dX11_check_11 : decode cX11_check 11 = .ok (.iload_n 3, 1) := by decide +kernel
theorem dX11_check_12 : decode cX11_check 12 = .ok (.ireturn, 1) := by decide +kernel
theorem dX11_check_13 : decode cX11_check 13 = .ok (.aload_n 0, 1) := by decide +kernel
theorem dX11_check_14 : decode cX11_check 14 = .ok (.iload_n 1, 1) := by decide +kernel
theorem dX11_check_15 : decode cX11_check 15 = .ok (.iload_n 2, 1) := by decide +kernel
theorem dX11_check_16 : decode cX11_check 16 = .ok (.invokevirtual 310, 3) := by decide +kernel
theorem dX11_check_19 : decode cX11_check 19 = .ok (.iconst 0, 1) := by decide +kernel
theorem dX11_check_20 : decode cX11_check 20 = .ok (.istore 4, 2) := by decide +kernel
theorem dX11_check_22 : decode cX11_check 22 = .ok (.iload 4, 2) := by decide +kernel
theorem dX11_check_24 : decode cX11_check 24 = .ok (.aload_n 0, 1) := by decide +kernel
theorem dX11_check_25 : decode cX11_check 25 = .ok (.getfield 80, 3) := by decide +kernel
theorem dX11_check_28 : decode cX11_check 28 = .ok (.iload_n 1, 1) := by decide +kernel
theorem dX11_check_29 : decode cX11_check 29 = .ok (.iaload, 1) := by decide +kernel
theorem dX11_check_30 : decode cX11_check 30 = .ok (.if_icmp .ge 45, 3) := by decide +kernel
theorem dX11_check_33 : decode cX11_check 33 = .ok (.aload_n 0, 1) := by decide +kernel
theorem dX11_check_34 : decode cX11_check 34 = .ok (.getfield 83, 3) := by decide +kernel
theorem dX11_check_37 : decode cX11_check 37 = .ok (.bipush 60, 2) := by decide +kernel
theorem dX11_check_39 : decode cX11_check 39 = .ok (.iload_n 1, 1) := by decide +kernel
theorem dX11_check_40 : decode cX11_check 40 = .ok (.imul, 1) := by decide +kernel
theorem dX11_check_41 : decode cX11_check 41 = .ok (.iload 4, 2) := by decide +kernel
theorem dX11_check_43 : decode cX11_check 43 = .ok (.iadd, 1) := by decide +kernel
theorem dX11_check_44 : decode cX11_check 44 = .ok (.laload, 1) := by decide +kernel
theorem dX11_check_45 : decode cX11_check 45 = .ok (.aload_n 0, 1) := by decide +kernel
theorem dX11_check_46 : decode cX11_check 46 = .ok (.getfield 62, 3) := by decide +kernel
theorem dX11_check_49 : decode cX11_check 49 = .ok (.iconst 0, 1) := by decide +kernel
theorem dX11_check_50 : decode cX11_check 50 = .ok (.iload 4, 2) := by decide +kernel
theorem dX11_check_52 : decode cX11_check 52 = .ok (.iload_n 2, 1) := by decide +kernel
theorem dX11_check_53 : decode cX11_check 53 = .ok (.irem, 1) := by decide +kernel
theorem dX11_check_54 : decode cX11_check 54 = .ok (.iload 4, 2) := by decide +kernel
theorem dX11_check_56 : decode cX11_check 56 = .ok (.iload_n 2, 1) := by decide +kernel
theorem dX11_check_57 : decode cX11_check 57 = .ok (.idiv, 1) := by decide +kernel
theorem dX11_check_58 : decode cX11_check 58 = .ok (.invokestatic 171, 3) := by decide +kernel
theorem dX11_check_61 : decode cX11_check 61 = .ok (.laload, 1) := by decide +kernel
theorem dX11_check_62 : decode cX11_check 62 = .ok (.lcmp, 1) := by decide +kernel
theorem dX11_check_63 : decode cX11_check 63 = .ok (.ifCond .eq 6, 3) := by decide +kernel
theorem dX11_check_66 : decode cX11_check 66 = .ok (.iload 4, 2) := by decide +kernel
theorem dX11_check_68 : decode cX11_check 68 = .ok (.ireturn, 1) := by decide +kernel
theorem dX11_check_69 : decode cX11_check 69 = .ok (.iinc 4 1, 3) := by decide +kernel
theorem dX11_check_72 : decode cX11_check 72 = .ok (.goto (-50), 3) := by decide +kernel
theorem dX11_check_75 : decode cX11_check 75 = .ok (.bipush (-3), 2) := by decide +kernel
theorem dX11_check_77 : decode cX11_check 77 = .ok (.ireturn, 1) := by decide +kernel
theorem dX11_isFree_0 : decode cX11_isFree 0 = .ok (.iconst 1, 1) := by decide +kernel
theorem dX11_isFree_1 : decode cX11_isFree 1 = .ok (.istore_n 3, 1) := by decide +kernel
theorem dX11_isFree_2 : decode cX11_isFree 2 = .ok (.iconst 0, 1) := by decide +kernel
theorem dX11_isFree_3 : decode cX11_isFree 3 = .ok (.istore 4, 2) := by decide +kernel
theorem dX11_isFree_5 : decode cX11_isFree 5 = .ok (.iload 4, 2) := by decide +kernel
theorem dX11_isFree_7 : decode cX11_isFree 7 = .ok (.aload_n 0, 1) := by decide +kernel
theorem dX11_isFree_8 : decode cX11_isFree 8 = .ok (.getfield 80, 3) := by decide +kernel
theorem dX11_isFree_11 : decode cX11_isFree 11 = .ok (.iload_n 1, 1) := by decide +kernel
theorem dX11_isFree_12 : decode cX11_isFree 12 = .ok (.iaload, 1) := by decide +kernel
theorem dX11_isFree_13 : decode cX11_isFree 13 = .ok (.if_icmp .ge 47, 3) := by decide +kernel
theorem dX11_isFree_16 : decode cX11_isFree 16 = .ok (.iload_n 3, 1) := by decide +kernel
theorem dX11_isFree_17 : decode cX11_isFree 17 = .ok (.ifCond .eq 35, 3) := by decide +kernel
theorem dX11_isFree_20 : decode cX11_isFree 20 = .ok (.aload_n 0, 1) := by decide +kernel
theorem dX11_isFree_21 : decode cX11_isFree 21 = .ok (.getfield 83, 3) := by decide +kernel
theorem dX11_isFree_24 : decode cX11_isFree 24 = .ok (.bipush 60, 2) := by decide +kernel
theorem dX11_isFree_26 : decode cX11_isFree 26 = .ok (.iload_n 1, 1) := by decide +kernel
theorem dX11_isFree_27 : decode cX11_isFree 27 = .ok (.imul, 1) := by decide +kernel
theorem dX11_isFree_28 : decode cX11_isFree 28 = .ok (.iload 4, 2) := by decide +kernel
theorem dX11_isFree_30 : decode cX11_isFree 30 = .ok (.iadd, 1) := by decide +kernel
theorem dX11_isFree_31 : decode cX11_isFree 31 = .ok (.laload, 1) := by decide +kernel
theorem dX11_isFree_32 : decode cX11_isFree 32 = .ok (.aload_n 0, 1) := by decide +kernel
theorem dX11_isFree_33 : decode cX11_isFree 33 = .ok (.iload 4, 2) := by decide +kernel
theorem dX11_isFree_35 : decode cX11_isFree 35 = .ok (.iload_n 2, 1) := by decide +kernel
theorem dX11_isFree_36 : decode cX11_isFree 36 = .ok (.irem, 1) := by decide +kernel
theorem dX11_isFree_37 : decode cX11_isFree 37 = .ok (.iload 4, 2) := by decide +kernel
theorem dX11_isFree_39 : decode cX11_isFree 39 = .ok (.iload_n 2, 1) := by decide +kernel
theorem dX11_isFree_40 : decode cX11_isFree 40 = .ok (.idiv, 1) := by decide +kernel
theorem dX11_isFree_41 : decode cX11_isFree 41 = .ok (.invokevirtual 195, 3) := by decide +kernel
theorem dX11_isFree_44 : decode cX11_isFree 44 = .ok (.lcmp, 1) := by decide +kernel
theorem dX11_isFree_45 : decode cX11_isFree 45 = .ok (.ifCond .ne 7, 3) := by decide +kernel
theorem dX11_isFree_48 : decode cX11_isFree 48 = .ok (.iconst 1, 1) := by decide +kernel
theorem dX11_isFree_49 : decode cX11_isFree 49 = .ok (.goto 4, 3) := by decide +kernel
theorem dX11_isFree_52 : decode cX11_isFree 52 = .ok (.iconst 0, 1) := by decide +kernel
theorem dX11_isFree_53 : decode cX11_isFree 53 = .ok (.istore_n 3, 1) := by decide +kernel
theorem dX11_isFree_54 : decode cX11_isFree 54 = .ok (.iinc 4 1, 3) := by decide +kernel
theorem dX11_isFree_57 : decode cX11_isFree 57 = .ok (.goto (-52), 3) := by decide +kernel
theorem dX11_isFree_60 : decode cX11_isFree 60 = .ok (.iload_n 3, 1) := by decide +kernel
theorem dX11_isFree_61 : decode cX11_isFree 61 = .ok (.ireturn, 1) := by decide +kernel
theorem dX11_more_0 : decode cX11_more 0 = .ok (.iload_n 3, 1) := by decide +kernel
theorem dX11_more_1 : decode cX11_more 1 = .ok (.iconst 0, 1) := by decide +kernel
theorem dX11_more_2 : decode cX11_more 2 = .ok (.iconst 1, 1) := by decide +kernel
theorem dX11_more_3 : decode cX11_more 3 = .ok (.invokestatic 89, 3) := by decide +kernel
theorem dX11_more_6 : decode cX11_more 6 = .ok (.ifCond .eq 12, 3) := by decide +kernel
theorem dX11_more_9 : decode cX11_more 9 = .ok (.aload_n 0, 1) := by decide +kernel
theorem dX11_more_10 : decode cX11_more 10 = .ok (.iload_n 1, 1) := by decide +kernel
theorem dX11_more_11 : decode cX11_more 11 = .ok (.iload_n 2, 1) := by decide +kernel
theorem dX11_more_12 : decode cX11_more 12 = .ok (.invokevirtual 307, 3) := by decide +kernel
theorem dX11_more_15 : decode cX11_more 15 = .ok (.goto 4, 3) := by decide +kernel
theorem dX11_more_18 : decode cX11_more 18 = .ok (.iconst (-1), 1) := by decide +kernel
theorem dX11_more_19 : decode cX11_more 19 = .ok (.istore 4, 2) := by decide +kernel
theorem dX11_more_21 : decode cX11_more 21 = .ok (.iload 4, 2) := by decide +kernel
theorem dX11_more_23 : decode cX11_more 23 = .ok (.ifCond .eq 6, 3) := by decide +kernel
theorem dX11_more_26 : decode cX11_more 26 = .ok (.iload 4, 2) := by decide +kernel
theorem dX11_more_28 : decode cX11_more 28 = .ok (.ireturn, 1) := by decide +kernel
theorem dX11_more_29 : decode cX11_more 29 = .ok (.iconst 0, 1) := by decide +kernel
theorem dX11_more_30 : decode cX11_more 30 = .ok (.istore 5, 2) := by decide +kernel
theorem dX11_more_32 : decode cX11_more 32 = .ok (.bipush (-3), 2) := by decide +kernel
theorem dX11_more_34 : decode cX11_more 34 = .ok (.istore 6, 2) := by decide +kernel
theorem dX11_more_36 : decode cX11_more 36 = .ok (.bipush 24, 2) := by decide +kernel
theorem dX11_more_38 : decode cX11_more 38 = .ok (.istore 7, 2) := by decide +kernel
theorem dX11_more_40 : decode cX11_more 40 = .ok (.iload 7, 2) := by decide +kernel
theorem dX11_more_42 : decode cX11_more 42 = .ok (.ifCond .le 81, 3) := by decide +kernel
theorem dX11_more_45 : decode cX11_more 45 = .ok (.aload_n 0, 1) := by decide +kernel
theorem dX11_more_46 : decode cX11_more 46 = .ok (.iload_n 2, 1) := by decide +kernel
theorem dX11_more_47 : decode cX11_more 47 = .ok (.aload_n 0, 1) := by decide +kernel
theorem dX11_more_48 : decode cX11_more 48 = .ok (.getfield 80, 3) := by decide +kernel
theorem dX11_more_51 : decode cX11_more 51 = .ok (.iload_n 1, 1) := by decide +kernel
theorem dX11_more_52 : decode cX11_more 52 = .ok (.iaload, 1) := by decide +kernel
theorem dX11_more_53 : decode cX11_more 53 = .ok (.iload_n 2, 1) := by decide +kernel
theorem dX11_more_54 : decode cX11_more 54 = .ok (.idiv, 1) := by decide +kernel
theorem dX11_more_55 : decode cX11_more 55 = .ok (.invokevirtual 192, 3) := by decide +kernel
theorem dX11_more_58 : decode cX11_more 58 = .ok (.aload_n 0, 1) := by decide +kernel
theorem dX11_more_59 : decode cX11_more 59 = .ok (.iload 7, 2) := by decide +kernel
theorem dX11_more_61 : decode cX11_more 61 = .ok (.iconst 5, 1) := by decide +kernel
theorem dX11_more_62 : decode cX11_more 62 = .ok (.idiv, 1) := by decide +kernel
theorem dX11_more_63 : decode cX11_more 63 = .ok (.iload 7, 2) := by decide +kernel
theorem dX11_more_65 : decode cX11_more 65 = .ok (.iconst 5, 1) := by decide +kernel
theorem dX11_more_66 : decode cX11_more 66 = .ok (.irem, 1) := by decide +kernel
theorem dX11_more_67 : decode cX11_more 67 = .ok (.invokevirtual 189, 3) := by decide +kernel
theorem dX11_more_70 : decode cX11_more 70 = .ok (.aload_n 0, 1) := by decide +kernel
theorem dX11_more_71 : decode cX11_more 71 = .ok (.iload_n 1, 1) := by decide +kernel
theorem dX11_more_72 : decode cX11_more 72 = .ok (.iload_n 2, 1) := by decide +kernel
theorem dX11_more_73 : decode cX11_more 73 = .ok (.invokevirtual 317, 3) := by decide +kernel
theorem dX11_more_76 : decode cX11_more 76 = .ok (.istore 8, 2) := by decide +kernel
theorem dX11_more_78 : decode cX11_more 78 = .ok (.iload 5, 2) := by decide +kernel
theorem dX11_more_80 : decode cX11_more 80 = .ok (.iload 8, 2) := by decide +kernel
theorem dX11_more_82 : decode cX11_more 82 = .ok (.ifCond .eq 7, 3) := by decide +kernel
theorem dX11_more_85 : decode cX11_more 85 = .ok (.iconst 1, 1) := by decide +kernel
theorem dX11_more_86 : decode cX11_more 86 = .ok (.goto 4, 3) := by decide +kernel
theorem dX11_more_89 : decode cX11_more 89 = .ok (.iconst 0, 1) := by decide +kernel
theorem dX11_more_90 : decode cX11_more 90 = .ok (.iadd, 1) := by decide +kernel
theorem dX11_more_91 : decode cX11_more 91 = .ok (.istore 5, 2) := by decide +kernel
theorem dX11_more_93 : decode cX11_more 93 = .ok (.iload 8, 2) := by decide +kernel
theorem dX11_more_95 : decode cX11_more 95 = .ok (.ifCond .eq 18, 3) := by decide +kernel
theorem dX11_more_98 : decode cX11_more 98 = .ok (.bipush 10, 2) := by decide +kernel
theorem dX11_more_100 : decode cX11_more 100 = .ok (.iload 7, 2) := by decide +kernel
theorem dX11_more_102 : decode cX11_more 102 = .ok (.iconst 5, 1) := by decide +kernel
theorem dX11_more_103 : decode cX11_more 103 = .ok (.idiv, 1) := by decide +kernel
theorem dX11_more_104 : decode cX11_more 104 = .ok (.imul, 1) := by decide +kernel
theorem dX11_more_105 : decode cX11_more 105 = .ok (.iload 7, 2) := by decide +kernel
theorem dX11_more_107 : decode cX11_more 107 = .ok (.iconst 5, 1) := by decide +kernel
theorem dX11_more_108 : decode cX11_more 108 = .ok (.irem, 1) := by decide +kernel
theorem dX11_more_109 : decode cX11_more 109 = .ok (.iadd, 1) := by decide +kernel
theorem dX11_more_110 : decode cX11_more 110 = .ok (.goto 5, 3) := by decide +kernel
theorem dX11_more_113 : decode cX11_more 113 = .ok (.iload 6, 2) := by decide +kernel
theorem dX11_more_115 : decode cX11_more 115 = .ok (.istore 6, 2) := by decide +kernel
theorem dX11_more_117 : decode cX11_more 117 = .ok (.iinc 7 (-1), 3) := by decide +kernel
theorem dX11_more_120 : decode cX11_more 120 = .ok (.goto (-80), 3) := by decide +kernel
theorem dX11_more_123 : decode cX11_more 123 = .ok (.iload_n 3, 1) := by decide +kernel
theorem dX11_more_124 : decode cX11_more 124 = .ok (.ifCond .ne 8, 3) := by decide +kernel
theorem dX11_more_127 : decode cX11_more 127 = .ok (.iload 5, 2) := by decide +kernel
theorem dX11_more_129 : decode cX11_more 129 = .ok (.goto 5, 3) := by decide +kernel
theorem dX11_more_132 : decode cX11_more 132 = .ok (.iload 6, 2) := by decide +kernel
theorem dX11_more_134 : decode cX11_more 134 = .ok (.ireturn, 1) := by decide +kernel
theorem dX11_seed_0 : decode cX11_seed 0 = .ok (.aload_n 0, 1) := by decide +kernel
theorem dX11_seed_1 : decode cX11_seed 1 = .ok (.getfield 9, 3) := by decide +kernel
theorem dX11_seed_4 : decode cX11_seed 4 = .ok (.istore_n 2, 1) := by decide +kernel
theorem dX11_seed_5 : decode cX11_seed 5 = .ok (.aload_n 0, 1) := by decide +kernel
theorem dX11_seed_6 : decode cX11_seed 6 = .ok (.iload_n 1, 1) := by decide +kernel
theorem dX11_seed_7 : decode cX11_seed 7 = .ok (.putfield 9, 3) := by decide +kernel
theorem dX11_seed_10 : decode cX11_seed 10 = .ok (.iload_n 2, 1) := by decide +kernel
theorem dX11_seed_11 : decode cX11_seed 11 = .ok (.ireturn, 1) := by decide +kernel
theorem dX11_drawn_0 : decode cX11_drawn 0 = .ok (.aload_n 0, 1) := by decide +kernel
theorem dX11_drawn_1 : decode cX11_drawn 1 = .ok (.aload_n 0, 1) := by decide +kernel
theorem dX11_drawn_2 : decode cX11_drawn 2 = .ok (.getfield 9, 3) := by decide +kernel
theorem dX11_drawn_5 : decode cX11_drawn 5 = .ok (.ldc_w 321, 3) := by decide +kernel
theorem dX11_drawn_8 : decode cX11_drawn 8 = .ok (.imul, 1) := by decide +kernel
theorem dX11_drawn_9 : decode cX11_drawn 9 = .ok (.sipush 12345, 3) := by decide +kernel
theorem dX11_drawn_12 : decode cX11_drawn 12 = .ok (.iadd, 1) := by decide +kernel
theorem dX11_drawn_13 : decode cX11_drawn 13 = .ok (.putfield 9, 3) := by decide +kernel
theorem dX11_drawn_16 : decode cX11_drawn 16 = .ok (.aload_n 0, 1) := by decide +kernel
theorem dX11_drawn_17 : decode cX11_drawn 17 = .ok (.getfield 9, 3) := by decide +kernel
theorem dX11_drawn_20 : decode cX11_drawn 20 = .ok (.bipush 16, 2) := by decide +kernel
theorem dX11_drawn_22 : decode cX11_drawn 22 = .ok (.iushr, 1) := by decide +kernel
theorem dX11_drawn_23 : decode cX11_drawn 23 = .ok (.iconst 5, 1) := by decide +kernel
theorem dX11_drawn_24 : decode cX11_drawn 24 = .ok (.irem, 1) := by decide +kernel
theorem dX11_drawn_25 : decode cX11_drawn 25 = .ok (.ireturn, 1) := by decide +kernel
theorem dX11_lot_0 : decode cX11_lot 0 = .ok (.iload_n 1, 1) := by decide +kernel
theorem dX11_lot_1 : decode cX11_lot 1 = .ok (.iconst 1, 1) := by decide +kernel
theorem dX11_lot_2 : decode cX11_lot 2 = .ok (.bipush 6, 2) := by decide +kernel
theorem dX11_lot_4 : decode cX11_lot 4 = .ok (.invokestatic 89, 3) := by decide +kernel
theorem dX11_lot_7 : decode cX11_lot 7 = .ok (.ifCond .ne 5, 3) := by decide +kernel
theorem dX11_lot_10 : decode cX11_lot 10 = .ok (.iconst (-1), 1) := by decide +kernel
theorem dX11_lot_11 : decode cX11_lot 11 = .ok (.ireturn, 1) := by decide +kernel
theorem dX11_lot_12 : decode cX11_lot 12 = .ok (.iconst 0, 1) := by decide +kernel
theorem dX11_lot_13 : decode cX11_lot 13 = .ok (.istore_n 2, 1) := by decide +kernel
theorem dX11_lot_14 : decode cX11_lot 14 = .ok (.iload_n 2, 1) := by decide +kernel
theorem dX11_lot_15 : decode cX11_lot 15 = .ok (.iload_n 1, 1) := by decide +kernel
theorem dX11_lot_16 : decode cX11_lot 16 = .ok (.if_icmp .ge 54, 3) := by decide +kernel
theorem dX11_lot_19 : decode cX11_lot 19 = .ok (.aload_n 0, 1) := by decide +kernel
theorem dX11_lot_20 : decode cX11_lot 20 = .ok (.getfield 86, 3) := by decide +kernel
theorem dX11_lot_23 : decode cX11_lot 23 = .ok (.bipush 6, 2) := by decide +kernel
theorem dX11_lot_25 : decode cX11_lot 25 = .ok (.if_icmp .ge 45, 3) := by decide +kernel
theorem dX11_lot_28 : decode cX11_lot 28 = .ok (.aload_n 0, 1) := by decide +kernel
theorem dX11_lot_29 : decode cX11_lot 29 = .ok (.invokevirtual 322, 3) := by decide +kernel
theorem dX11_lot_32 : decode cX11_lot 32 = .ok (.istore_n 3, 1) := by decide +kernel
theorem dX11_lot_33 : decode cX11_lot 33 = .ok (.aload_n 0, 1) := by decide +kernel
theorem dX11_lot_34 : decode cX11_lot 34 = .ok (.invokevirtual 322, 3) := by decide +kernel
theorem dX11_lot_37 : decode cX11_lot 37 = .ok (.istore 4, 2) := by decide +kernel
theorem dX11_lot_39 : decode cX11_lot 39 = .ok (.iload_n 3, 1) := by decide +kernel
theorem dX11_lot_40 : decode cX11_lot 40 = .ok (.iload 4, 2) := by decide +kernel
theorem dX11_lot_42 : decode cX11_lot 42 = .ok (.iadd, 1) := by decide +kernel
theorem dX11_lot_43 : decode cX11_lot 43 = .ok (.ifCond .ne 12, 3) := by decide +kernel
theorem dX11_lot_46 : decode cX11_lot 46 = .ok (.aload_n 0, 1) := by decide +kernel
theorem dX11_lot_47 : decode cX11_lot 47 = .ok (.iconst 1, 1) := by decide +kernel
theorem dX11_lot_48 : decode cX11_lot 48 = .ok (.iconst 1, 1) := by decide +kernel
theorem dX11_lot_49 : decode cX11_lot 49 = .ok (.invokevirtual 101, 3) := by decide +kernel
theorem dX11_lot_52 : decode cX11_lot 52 = .ok (.goto 10, 3) := by decide +kernel
theorem dX11_lot_55 : decode cX11_lot 55 = .ok (.aload_n 0, 1) := by decide +kernel
theorem dX11_lot_56 : decode cX11_lot 56 = .ok (.iload_n 3, 1) := by decide +kernel
theorem dX11_lot_57 : decode cX11_lot 57 = .ok (.iload 4, 2) := by decide +kernel
theorem dX11_lot_59 : decode cX11_lot 59 = .ok (.invokevirtual 101, 3) := by decide +kernel
theorem dX11_lot_62 : decode cX11_lot 62 = .ok (.istore 5, 2) := by decide +kernel
theorem dX11_lot_64 : decode cX11_lot 64 = .ok (.iinc 2 1, 3) := by decide +kernel
theorem dX11_lot_67 : decode cX11_lot 67 = .ok (.goto (-53), 3) := by decide +kernel
theorem dX11_lot_70 : decode cX11_lot 70 = .ok (.iload_n 2, 1) := by decide +kernel
theorem dX11_lot_71 : decode cX11_lot 71 = .ok (.ireturn, 1) := by decide +kernel
theorem dX11_many_0 : decode cX11_many 0 = .ok (.iload_n 1, 1) := by decide +kernel
theorem dX11_many_1 : decode cX11_many 1 = .ok (.tableswitch 81 0 5 #[39, 44, 53, 58, 63, 68], 39) := by decide +kernel
theorem dX11_many_40 : decode cX11_many 40 = .ok (.aload_n 0, 1) := by decide +kernel
theorem dX11_many_41 : decode cX11_many 41 = .ok (.getfield 86, 3) := by decide +kernel
theorem dX11_many_44 : decode cX11_many 44 = .ok (.ireturn, 1) := by decide +kernel
theorem dX11_many_45 : decode cX11_many 45 = .ok (.aload_n 0, 1) := by decide +kernel
theorem dX11_many_46 : decode cX11_many 46 = .ok (.invokevirtual 228, 3) := by decide +kernel
theorem dX11_many_49 : decode cX11_many 49 = .ok (.aload_n 0, 1) := by decide +kernel
theorem dX11_many_50 : decode cX11_many 50 = .ok (.getfield 219, 3) := by decide +kernel
theorem dX11_many_53 : decode cX11_many 53 = .ok (.ireturn, 1) := by decide +kernel
theorem dX11_many_54 : decode cX11_many 54 = .ok (.aload_n 0, 1) := by decide +kernel
theorem dX11_many_55 : decode cX11_many 55 = .ok (.invokevirtual 234, 3) := by decide +kernel
theorem dX11_many_58 : decode cX11_many 58 = .ok (.ireturn, 1) := by decide +kernel
theorem dX11_many_59 : decode cX11_many 59 = .ok (.aload_n 0, 1) := by decide +kernel
theorem dX11_many_60 : decode cX11_many 60 = .ok (.getfield 93, 3) := by decide +kernel
theorem dX11_many_63 : decode cX11_many 63 = .ok (.ireturn, 1) := by decide +kernel
theorem dX11_many_64 : decode cX11_many 64 = .ok (.aload_n 0, 1) := by decide +kernel
theorem dX11_many_65 : decode cX11_many 65 = .ok (.getfield 117, 3) := by decide +kernel
theorem dX11_many_68 : decode cX11_many 68 = .ok (.ireturn, 1) := by decide +kernel
theorem dX11_many_69 : decode cX11_many 69 = .ok (.aload_n 0, 1) := by decide +kernel
theorem dX11_many_70 : decode cX11_many 70 = .ok (.invokevirtual 280, 3) := by decide +kernel
theorem dX11_many_73 : decode cX11_many 73 = .ok (.ifCond .eq 7, 3) := by decide +kernel
theorem dX11_many_76 : decode cX11_many 76 = .ok (.iconst 1, 1) := by decide +kernel
theorem dX11_many_77 : decode cX11_many 77 = .ok (.goto 4, 3) := by decide +kernel
theorem dX11_many_80 : decode cX11_many 80 = .ok (.iconst 0, 1) := by decide +kernel
theorem dX11_many_81 : decode cX11_many 81 = .ok (.ireturn, 1) := by decide +kernel
theorem dX11_many_82 : decode cX11_many 82 = .ok (.iconst (-1), 1) := by decide +kernel
theorem dX11_many_83 : decode cX11_many 83 = .ok (.ireturn, 1) := by decide +kernel
theorem dX11_keep_0 : decode cX11_keep 0 = .ok (.iconst 0, 1) := by decide +kernel
theorem dX11_keep_1 : decode cX11_keep 1 = .ok (.istore_n 1, 1) := by decide +kernel
theorem dX11_keep_2 : decode cX11_keep 2 = .ok (.iload_n 1, 1) := by decide +kernel
theorem dX11_keep_3 : decode cX11_keep 3 = .ok (.bipush 6, 2) := by decide +kernel
theorem dX11_keep_5 : decode cX11_keep 5 = .ok (.if_icmp .ge 57, 3) := by decide +kernel
theorem dX11_keep_8 : decode cX11_keep 8 = .ok (.aload_n 0, 1) := by decide +kernel
theorem dX11_keep_9 : decode cX11_keep 9 = .ok (.getfield 29, 3) := by decide +kernel
theorem dX11_keep_12 : decode cX11_keep 12 = .ok (.iload_n 1, 1) := by decide +kernel
theorem dX11_keep_13 : decode cX11_keep 13 = .ok (.aload_n 0, 1) := by decide +kernel
theorem dX11_keep_14 : decode cX11_keep 14 = .ok (.getfield 15, 3) := by decide +kernel
theorem dX11_keep_17 : decode cX11_keep 17 = .ok (.iload_n 1, 1) := by decide +kernel
theorem dX11_keep_18 : decode cX11_keep 18 = .ok (.iaload, 1) := by decide +kernel
theorem dX11_keep_19 : decode cX11_keep 19 = .ok (.iastore, 1) := by decide +kernel
theorem dX11_keep_20 : decode cX11_keep 20 = .ok (.aload_n 0, 1) := by decide +kernel
theorem dX11_keep_21 : decode cX11_keep 21 = .ok (.getfield 32, 3) := by decide +kernel
theorem dX11_keep_24 : decode cX11_keep 24 = .ok (.iload_n 1, 1) := by decide +kernel
theorem dX11_keep_25 : decode cX11_keep 25 = .ok (.aload_n 0, 1) := by decide +kernel
theorem dX11_keep_26 : decode cX11_keep 26 = .ok (.getfield 19, 3) := by decide +kernel
theorem dX11_keep_29 : decode cX11_keep 29 = .ok (.iload_n 1, 1) := by decide +kernel
theorem dX11_keep_30 : decode cX11_keep 30 = .ok (.iaload, 1) := by decide +kernel
theorem dX11_keep_31 : decode cX11_keep 31 = .ok (.iastore, 1) := by decide +kernel
theorem dX11_keep_32 : decode cX11_keep 32 = .ok (.aload_n 0, 1) := by decide +kernel
theorem dX11_keep_33 : decode cX11_keep 33 = .ok (.getfield 35, 3) := by decide +kernel
theorem dX11_keep_36 : decode cX11_keep 36 = .ok (.iload_n 1, 1) := by decide +kernel
theorem dX11_keep_37 : decode cX11_keep 37 = .ok (.aload_n 0, 1) := by decide +kernel
theorem dX11_keep_38 : decode cX11_keep 38 = .ok (.getfield 22, 3) := by decide +kernel
theorem dX11_keep_41 : decode cX11_keep 41 = .ok (.iload_n 1, 1) := by decide +kernel
theorem dX11_keep_42 : decode cX11_keep 42 = .ok (.iaload, 1) := by decide +kernel
theorem dX11_keep_43 : decode cX11_keep 43 = .ok (.iastore, 1) := by decide +kernel
theorem dX11_keep_44 : decode cX11_keep 44 = .ok (.aload_n 0, 1) := by decide +kernel
theorem dX11_keep_45 : decode cX11_keep 45 = .ok (.getfield 38, 3) := by decide +kernel
theorem dX11_keep_48 : decode cX11_keep 48 = .ok (.iload_n 1, 1) := by decide +kernel
theorem dX11_keep_49 : decode cX11_keep 49 = .ok (.aload_n 0, 1) := by decide +kernel
theorem dX11_keep_50 : decode cX11_keep 50 = .ok (.getfield 25, 3) := by decide +kernel
theorem dX11_keep_53 : decode cX11_keep 53 = .ok (.iload_n 1, 1) := by decide +kernel
theorem dX11_keep_54 : decode cX11_keep 54 = .ok (.laload, 1) := by decide +kernel
theorem dX11_keep_55 : decode cX11_keep 55 = .ok (.lastore, 1) := by decide +kernel
theorem dX11_keep_56 : decode cX11_keep 56 = .ok (.iinc 1 1, 3) := by decide +kernel
theorem dX11_keep_59 : decode cX11_keep 59 = .ok (.goto (-57), 3) := by decide +kernel
theorem dX11_keep_62 : decode cX11_keep 62 = .ok (.aload_n 0, 1) := by decide +kernel
theorem dX11_keep_63 : decode cX11_keep 63 = .ok (.aload_n 0, 1) := by decide +kernel
theorem dX11_keep_64 : decode cX11_keep 64 = .ok (.getfield 86, 3) := by decide +kernel
theorem dX11_keep_67 : decode cX11_keep 67 = .ok (.putfield 325, 3) := by decide +kernel
theorem dX11_keep_70 : decode cX11_keep 70 = .ok (.aload_n 0, 1) := by decide +kernel
theorem dX11_keep_71 : decode cX11_keep 71 = .ok (.aload_n 0, 1) := by decide +kernel
theorem dX11_keep_72 : decode cX11_keep 72 = .ok (.getfield 9, 3) := by decide +kernel
theorem dX11_keep_75 : decode cX11_keep 75 = .ok (.putfield 328, 3) := by decide +kernel
theorem dX11_keep_78 : decode cX11_keep 78 = .ok (.aload_n 0, 1) := by decide +kernel
theorem dX11_keep_79 : decode cX11_keep 79 = .ok (.iconst 1, 1) := by decide +kernel
theorem dX11_keep_80 : decode cX11_keep 80 = .ok (.putfield 331, 3) := by decide +kernel
theorem dX11_keep_83 : decode cX11_keep 83 = .ok (.iconst 1, 1) := by decide +kernel
theorem dX11_keep_84 : decode cX11_keep 84 = .ok (.ireturn, 1) := by decide +kernel
theorem dX11_again_0 : decode cX11_again 0 = .ok (.aload_n 0, 1) := by decide +kernel
theorem dX11_again_1 : decode cX11_again 1 = .ok (.getfield 331, 3) := by decide +kernel
theorem dX11_again_4 : decode cX11_again 4 = .ok (.ifCond .ne 6, 3) := by decide +kernel
theorem dX11_again_7 : decode cX11_again 7 = .ok (.bipush (-3), 2) := by decide +kernel
theorem dX11_again_9 : decode cX11_again 9 = .ok (.ireturn, 1) := by decide +kernel
theorem dX11_again_10 : decode cX11_again 10 = .ok (.iconst 0, 1) := by decide +kernel
theorem dX11_again_11 : decode cX11_again 11 = .ok (.istore_n 1, 1) := by decide +kernel
theorem dX11_again_12 : decode cX11_again 12 = .ok (.iload_n 1, 1) := by decide +kernel
theorem dX11_again_13 : decode cX11_again 13 = .ok (.bipush 6, 2) := by decide +kernel
theorem dX11_again_15 : decode cX11_again 15 = .ok (.if_icmp .ge 57, 3) := by decide +kernel
theorem dX11_again_18 : decode cX11_again 18 = .ok (.aload_n 0, 1) := by decide +kernel
theorem dX11_again_19 : decode cX11_again 19 = .ok (.getfield 15, 3) := by decide +kernel
theorem dX11_again_22 : decode cX11_again 22 = .ok (.iload_n 1, 1) := by decide +kernel
theorem dX11_again_23 : decode cX11_again 23 = .ok (.aload_n 0, 1) := by decide +kernel
theorem dX11_again_24 : decode cX11_again 24 = .ok (.getfield 29, 3) := by decide +kernel
theorem dX11_again_27 : decode cX11_again 27 = .ok (.iload_n 1, 1) := by decide +kernel
theorem dX11_again_28 : decode cX11_again 28 = .ok (.iaload, 1) := by decide +kernel
theorem dX11_again_29 : decode cX11_again 29 = .ok (.iastore, 1) := by decide +kernel
theorem dX11_again_30 : decode cX11_again 30 = .ok (.aload_n 0, 1) := by decide +kernel
theorem dX11_again_31 : decode cX11_again 31 = .ok (.getfield 19, 3) := by decide +kernel
theorem dX11_again_34 : decode cX11_again 34 = .ok (.iload_n 1, 1) := by decide +kernel
theorem dX11_again_35 : decode cX11_again 35 = .ok (.aload_n 0, 1) := by decide +kernel
theorem dX11_again_36 : decode cX11_again 36 = .ok (.getfield 32, 3) := by decide +kernel
theorem dX11_again_39 : decode cX11_again 39 = .ok (.iload_n 1, 1) := by decide +kernel
theorem dX11_again_40 : decode cX11_again 40 = .ok (.iaload, 1) := by decide +kernel
theorem dX11_again_41 : decode cX11_again 41 = .ok (.iastore, 1) := by decide +kernel
theorem dX11_again_42 : decode cX11_again 42 = .ok (.aload_n 0, 1) := by decide +kernel
theorem dX11_again_43 : decode cX11_again 43 = .ok (.getfield 22, 3) := by decide +kernel
theorem dX11_again_46 : decode cX11_again 46 = .ok (.iload_n 1, 1) := by decide +kernel
theorem dX11_again_47 : decode cX11_again 47 = .ok (.aload_n 0, 1) := by decide +kernel
theorem dX11_again_48 : decode cX11_again 48 = .ok (.getfield 35, 3) := by decide +kernel
theorem dX11_again_51 : decode cX11_again 51 = .ok (.iload_n 1, 1) := by decide +kernel
theorem dX11_again_52 : decode cX11_again 52 = .ok (.iaload, 1) := by decide +kernel
theorem dX11_again_53 : decode cX11_again 53 = .ok (.iastore, 1) := by decide +kernel
theorem dX11_again_54 : decode cX11_again 54 = .ok (.aload_n 0, 1) := by decide +kernel
theorem dX11_again_55 : decode cX11_again 55 = .ok (.getfield 25, 3) := by decide +kernel
theorem dX11_again_58 : decode cX11_again 58 = .ok (.iload_n 1, 1) := by decide +kernel
theorem dX11_again_59 : decode cX11_again 59 = .ok (.aload_n 0, 1) := by decide +kernel
theorem dX11_again_60 : decode cX11_again 60 = .ok (.getfield 38, 3) := by decide +kernel
theorem dX11_again_63 : decode cX11_again 63 = .ok (.iload_n 1, 1) := by decide +kernel
theorem dX11_again_64 : decode cX11_again 64 = .ok (.laload, 1) := by decide +kernel
theorem dX11_again_65 : decode cX11_again 65 = .ok (.lastore, 1) := by decide +kernel
theorem dX11_again_66 : decode cX11_again 66 = .ok (.iinc 1 1, 3) := by decide +kernel
theorem dX11_again_69 : decode cX11_again 69 = .ok (.goto (-57), 3) := by decide +kernel
theorem dX11_again_72 : decode cX11_again 72 = .ok (.aload_n 0, 1) := by decide +kernel
theorem dX11_again_73 : decode cX11_again 73 = .ok (.aload_n 0, 1) := by decide +kernel
theorem dX11_again_74 : decode cX11_again 74 = .ok (.getfield 325, 3) := by decide +kernel
theorem dX11_again_77 : decode cX11_again 77 = .ok (.putfield 86, 3) := by decide +kernel
theorem dX11_again_80 : decode cX11_again 80 = .ok (.aload_n 0, 1) := by decide +kernel
theorem dX11_again_81 : decode cX11_again 81 = .ok (.aload_n 0, 1) := by decide +kernel
theorem dX11_again_82 : decode cX11_again 82 = .ok (.getfield 328, 3) := by decide +kernel
theorem dX11_again_85 : decode cX11_again 85 = .ok (.putfield 9, 3) := by decide +kernel
theorem dX11_again_88 : decode cX11_again 88 = .ok (.aload_n 0, 1) := by decide +kernel
theorem dX11_again_89 : decode cX11_again 89 = .ok (.iconst 0, 1) := by decide +kernel
theorem dX11_again_90 : decode cX11_again 90 = .ok (.putfield 93, 3) := by decide +kernel
theorem dX11_again_93 : decode cX11_again 93 = .ok (.aload_n 0, 1) := by decide +kernel
theorem dX11_again_94 : decode cX11_again 94 = .ok (.getfield 86, 3) := by decide +kernel
theorem dX11_again_97 : decode cX11_again 97 = .ok (.ireturn, 1) := by decide +kernel
theorem dJ13_bitCount_95d88_0 : decode cJ13_bitCount_95d88 0 = .ok (.lload_n 0, 1) := by decide +kernel
theorem dJ13_bitCount_95d88_1 : decode cJ13_bitCount_95d88 1 = .ok (.lload_n 0, 1) := by decide +kernel
theorem dJ13_bitCount_95d88_2 : decode cJ13_bitCount_95d88 2 = .ok (.iconst 1, 1) := by decide +kernel
theorem dJ13_bitCount_95d88_3 : decode cJ13_bitCount_95d88 3 = .ok (.lushr, 1) := by decide +kernel
theorem dJ13_bitCount_95d88_4 : decode cJ13_bitCount_95d88 4 = .ok (.ldc2_w 314, 3) := by decide +kernel
theorem dJ13_bitCount_95d88_7 : decode cJ13_bitCount_95d88 7 = .ok (.land, 1) := by decide +kernel
theorem dJ13_bitCount_95d88_8 : decode cJ13_bitCount_95d88 8 = .ok (.lsub, 1) := by decide +kernel
theorem dJ13_bitCount_95d88_9 : decode cJ13_bitCount_95d88 9 = .ok (.lstore_n 0, 1) := by decide +kernel
theorem dJ13_bitCount_95d88_10 : decode cJ13_bitCount_95d88 10 = .ok (.lload_n 0, 1) := by decide +kernel
theorem dJ13_bitCount_95d88_11 : decode cJ13_bitCount_95d88 11 = .ok (.ldc2_w 316, 3) := by decide +kernel
theorem dJ13_bitCount_95d88_14 : decode cJ13_bitCount_95d88 14 = .ok (.land, 1) := by decide +kernel
theorem dJ13_bitCount_95d88_15 : decode cJ13_bitCount_95d88 15 = .ok (.lload_n 0, 1) := by decide +kernel
theorem dJ13_bitCount_95d88_16 : decode cJ13_bitCount_95d88 16 = .ok (.iconst 2, 1) := by decide +kernel
theorem dJ13_bitCount_95d88_17 : decode cJ13_bitCount_95d88 17 = .ok (.lushr, 1) := by decide +kernel
theorem dJ13_bitCount_95d88_18 : decode cJ13_bitCount_95d88 18 = .ok (.ldc2_w 316, 3) := by decide +kernel
theorem dJ13_bitCount_95d88_21 : decode cJ13_bitCount_95d88 21 = .ok (.land, 1) := by decide +kernel
theorem dJ13_bitCount_95d88_22 : decode cJ13_bitCount_95d88 22 = .ok (.ladd, 1) := by decide +kernel
theorem dJ13_bitCount_95d88_23 : decode cJ13_bitCount_95d88 23 = .ok (.lstore_n 0, 1) := by decide +kernel
theorem dJ13_bitCount_95d88_24 : decode cJ13_bitCount_95d88 24 = .ok (.lload_n 0, 1) := by decide +kernel
theorem dJ13_bitCount_95d88_25 : decode cJ13_bitCount_95d88 25 = .ok (.lload_n 0, 1) := by decide +kernel
theorem dJ13_bitCount_95d88_26 : decode cJ13_bitCount_95d88 26 = .ok (.iconst 4, 1) := by decide +kernel
theorem dJ13_bitCount_95d88_27 : decode cJ13_bitCount_95d88 27 = .ok (.lushr, 1) := by decide +kernel
theorem dJ13_bitCount_95d88_28 : decode cJ13_bitCount_95d88 28 = .ok (.ladd, 1) := by decide +kernel
theorem dJ13_bitCount_95d88_29 : decode cJ13_bitCount_95d88 29 = .ok (.ldc2_w 318, 3) := by decide +kernel
theorem dJ13_bitCount_95d88_32 : decode cJ13_bitCount_95d88 32 = .ok (.land, 1) := by decide +kernel
theorem dJ13_bitCount_95d88_33 : decode cJ13_bitCount_95d88 33 = .ok (.lstore_n 0, 1) := by decide +kernel
theorem dJ13_bitCount_95d88_34 : decode cJ13_bitCount_95d88 34 = .ok (.lload_n 0, 1) := by decide +kernel
theorem dJ13_bitCount_95d88_35 : decode cJ13_bitCount_95d88 35 = .ok (.lload_n 0, 1) := by decide +kernel
theorem dJ13_bitCount_95d88_36 : decode cJ13_bitCount_95d88 36 = .ok (.bipush 8, 2) := by decide +kernel
theorem dJ13_bitCount_95d88_38 : decode cJ13_bitCount_95d88 38 = .ok (.lushr, 1) := by decide +kernel
theorem dJ13_bitCount_95d88_39 : decode cJ13_bitCount_95d88 39 = .ok (.ladd, 1) := by decide +kernel
theorem dJ13_bitCount_95d88_40 : decode cJ13_bitCount_95d88 40 = .ok (.lstore_n 0, 1) := by decide +kernel
theorem dJ13_bitCount_95d88_41 : decode cJ13_bitCount_95d88 41 = .ok (.lload_n 0, 1) := by decide +kernel
theorem dJ13_bitCount_95d88_42 : decode cJ13_bitCount_95d88 42 = .ok (.lload_n 0, 1) := by decide +kernel
theorem dJ13_bitCount_95d88_43 : decode cJ13_bitCount_95d88 43 = .ok (.bipush 16, 2) := by decide +kernel
theorem dJ13_bitCount_95d88_45 : decode cJ13_bitCount_95d88 45 = .ok (.lushr, 1) := by decide +kernel
theorem dJ13_bitCount_95d88_46 : decode cJ13_bitCount_95d88 46 = .ok (.ladd, 1) := by decide +kernel
theorem dJ13_bitCount_95d88_47 : decode cJ13_bitCount_95d88 47 = .ok (.lstore_n 0, 1) := by decide +kernel
theorem dJ13_bitCount_95d88_48 : decode cJ13_bitCount_95d88 48 = .ok (.lload_n 0, 1) := by decide +kernel
theorem dJ13_bitCount_95d88_49 : decode cJ13_bitCount_95d88 49 = .ok (.lload_n 0, 1) := by decide +kernel
theorem dJ13_bitCount_95d88_50 : decode cJ13_bitCount_95d88 50 = .ok (.bipush 32, 2) := by decide +kernel
theorem dJ13_bitCount_95d88_52 : decode cJ13_bitCount_95d88 52 = .ok (.lushr, 1) := by decide +kernel
theorem dJ13_bitCount_95d88_53 : decode cJ13_bitCount_95d88 53 = .ok (.ladd, 1) := by decide +kernel
theorem dJ13_bitCount_95d88_54 : decode cJ13_bitCount_95d88 54 = .ok (.lstore_n 0, 1) := by decide +kernel
theorem dJ13_bitCount_95d88_55 : decode cJ13_bitCount_95d88 55 = .ok (.lload_n 0, 1) := by decide +kernel
theorem dJ13_bitCount_95d88_56 : decode cJ13_bitCount_95d88 56 = .ok (.l2i, 1) := by decide +kernel
theorem dJ13_bitCount_95d88_57 : decode cJ13_bitCount_95d88 57 = .ok (.bipush 127, 2) := by decide +kernel
theorem dJ13_bitCount_95d88_59 : decode cJ13_bitCount_95d88 59 = .ok (.iand, 1) := by decide +kernel
theorem dJ13_bitCount_95d88_60 : decode cJ13_bitCount_95d88 60 = .ok (.ireturn, 1) := by decide +kernel
theorem dJ9_floorDiv_7cf53_0 : decode cJ9_floorDiv_7cf53 0 = .ok (.iload_n 0, 1) := by decide +kernel
theorem dJ9_floorDiv_7cf53_1 : decode cJ9_floorDiv_7cf53 1 = .ok (.iload_n 1, 1) := by decide +kernel
theorem dJ9_floorDiv_7cf53_2 : decode cJ9_floorDiv_7cf53 2 = .ok (.idiv, 1) := by decide +kernel
theorem dJ9_floorDiv_7cf53_3 : decode cJ9_floorDiv_7cf53 3 = .ok (.istore_n 2, 1) := by decide +kernel
theorem dJ9_floorDiv_7cf53_4 : decode cJ9_floorDiv_7cf53 4 = .ok (.iload_n 0, 1) := by decide +kernel
theorem dJ9_floorDiv_7cf53_5 : decode cJ9_floorDiv_7cf53 5 = .ok (.iload_n 1, 1) := by decide +kernel
theorem dJ9_floorDiv_7cf53_6 : decode cJ9_floorDiv_7cf53 6 = .ok (.ixor, 1) := by decide +kernel
theorem dJ9_floorDiv_7cf53_7 : decode cJ9_floorDiv_7cf53 7 = .ok (.ifCond .ge 14, 3) := by decide +kernel
theorem dJ9_floorDiv_7cf53_10 : decode cJ9_floorDiv_7cf53 10 = .ok (.iload_n 2, 1) := by decide +kernel
theorem dJ9_floorDiv_7cf53_11 : decode cJ9_floorDiv_7cf53 11 = .ok (.iload_n 1, 1) := by decide +kernel
theorem dJ9_floorDiv_7cf53_12 : decode cJ9_floorDiv_7cf53 12 = .ok (.imul, 1) := by decide +kernel
theorem dJ9_floorDiv_7cf53_13 : decode cJ9_floorDiv_7cf53 13 = .ok (.iload_n 0, 1) := by decide +kernel
theorem dJ9_floorDiv_7cf53_14 : decode cJ9_floorDiv_7cf53 14 = .ok (.if_icmp .eq 7, 3) := by decide +kernel
theorem dJ9_floorDiv_7cf53_17 : decode cJ9_floorDiv_7cf53 17 = .ok (.iload_n 2, 1) := by decide +kernel
theorem dJ9_floorDiv_7cf53_18 : decode cJ9_floorDiv_7cf53 18 = .ok (.iconst 1, 1) := by decide +kernel
theorem dJ9_floorDiv_7cf53_19 : decode cJ9_floorDiv_7cf53 19 = .ok (.isub, 1) := by decide +kernel
theorem dJ9_floorDiv_7cf53_20 : decode cJ9_floorDiv_7cf53 20 = .ok (.ireturn, 1) := by decide +kernel
theorem dJ9_floorDiv_7cf53_21 : decode cJ9_floorDiv_7cf53 21 = .ok (.iload_n 2, 1) := by decide +kernel
theorem dJ9_floorDiv_7cf53_22 : decode cJ9_floorDiv_7cf53 22 = .ok (.ireturn, 1) := by decide +kernel
theorem dJ9_abs_0f7a4_0 : decode cJ9_abs_0f7a4 0 = .ok (.iload_n 0, 1) := by decide +kernel
theorem dJ9_abs_0f7a4_1 : decode cJ9_abs_0f7a4 1 = .ok (.ifCond .ge 8, 3) := by decide +kernel
theorem dJ9_abs_0f7a4_4 : decode cJ9_abs_0f7a4 4 = .ok (.iload_n 0, 1) := by decide +kernel
theorem dJ9_abs_0f7a4_5 : decode cJ9_abs_0f7a4 5 = .ok (.ineg, 1) := by decide +kernel
theorem dJ9_abs_0f7a4_6 : decode cJ9_abs_0f7a4 6 = .ok (.goto 4, 3) := by decide +kernel
theorem dJ9_abs_0f7a4_9 : decode cJ9_abs_0f7a4 9 = .ok (.iload_n 0, 1) := by decide +kernel
theorem dJ9_abs_0f7a4_10 : decode cJ9_abs_0f7a4 10 = .ok (.ireturn, 1) := by decide +kernel
theorem dJ9_max_7cf53_0 : decode cJ9_max_7cf53 0 = .ok (.iload_n 0, 1) := by decide +kernel
theorem dJ9_max_7cf53_1 : decode cJ9_max_7cf53 1 = .ok (.iload_n 1, 1) := by decide +kernel
theorem dJ9_max_7cf53_2 : decode cJ9_max_7cf53 2 = .ok (.if_icmp .lt 7, 3) := by decide +kernel
theorem dJ9_max_7cf53_5 : decode cJ9_max_7cf53 5 = .ok (.iload_n 0, 1) := by decide +kernel
theorem dJ9_max_7cf53_6 : decode cJ9_max_7cf53 6 = .ok (.goto 4, 3) := by decide +kernel
theorem dJ9_max_7cf53_9 : decode cJ9_max_7cf53 9 = .ok (.iload_n 1, 1) := by decide +kernel
theorem dJ9_max_7cf53_10 : decode cJ9_max_7cf53 10 = .ok (.ireturn, 1) := by decide +kernel
theorem dJ9_max_f86c9_0 : decode cJ9_max_f86c9 0 = .ok (.lload_n 0, 1) := by decide +kernel
theorem dJ9_max_f86c9_1 : decode cJ9_max_f86c9 1 = .ok (.lload_n 2, 1) := by decide +kernel
theorem dJ9_max_f86c9_2 : decode cJ9_max_f86c9 2 = .ok (.lcmp, 1) := by decide +kernel
theorem dJ9_max_f86c9_3 : decode cJ9_max_f86c9 3 = .ok (.ifCond .lt 7, 3) := by decide +kernel
theorem dJ9_max_f86c9_6 : decode cJ9_max_f86c9 6 = .ok (.lload_n 0, 1) := by decide +kernel
theorem dJ9_max_f86c9_7 : decode cJ9_max_f86c9 7 = .ok (.goto 4, 3) := by decide +kernel
theorem dJ9_max_f86c9_10 : decode cJ9_max_f86c9 10 = .ok (.lload_n 2, 1) := by decide +kernel
theorem dJ9_max_f86c9_11 : decode cJ9_max_f86c9 11 = .ok (.lreturn, 1) := by decide +kernel
theorem dJ9_min_7cf53_0 : decode cJ9_min_7cf53 0 = .ok (.iload_n 0, 1) := by decide +kernel
theorem dJ9_min_7cf53_1 : decode cJ9_min_7cf53 1 = .ok (.iload_n 1, 1) := by decide +kernel
theorem dJ9_min_7cf53_2 : decode cJ9_min_7cf53 2 = .ok (.if_icmp .gt 7, 3) := by decide +kernel
theorem dJ9_min_7cf53_5 : decode cJ9_min_7cf53 5 = .ok (.iload_n 0, 1) := by decide +kernel
theorem dJ9_min_7cf53_6 : decode cJ9_min_7cf53 6 = .ok (.goto 4, 3) := by decide +kernel
theorem dJ9_min_7cf53_9 : decode cJ9_min_7cf53 9 = .ok (.iload_n 1, 1) := by decide +kernel
theorem dJ9_min_7cf53_10 : decode cJ9_min_7cf53 10 = .ok (.ireturn, 1) := by decide +kernel
theorem dJ9_min_f86c9_0 : decode cJ9_min_f86c9 0 = .ok (.lload_n 0, 1) := by decide +kernel
theorem dJ9_min_f86c9_1 : decode cJ9_min_f86c9 1 = .ok (.lload_n 2, 1) := by decide +kernel
theorem dJ9_min_f86c9_2 : decode cJ9_min_f86c9 2 = .ok (.lcmp, 1) := by decide +kernel
theorem dJ9_min_f86c9_3 : decode cJ9_min_f86c9 3 = .ok (.ifCond .gt 7, 3) := by decide +kernel
theorem dJ9_min_f86c9_6 : decode cJ9_min_f86c9 6 = .ok (.lload_n 0, 1) := by decide +kernel
theorem dJ9_min_f86c9_7 : decode cJ9_min_f86c9 7 = .ok (.goto 4, 3) := by decide +kernel
theorem dJ9_min_f86c9_10 : decode cJ9_min_f86c9 10 = .ok (.lload_n 2, 1) := by decide +kernel
theorem dJ9_min_f86c9_11 : decode cJ9_min_f86c9 11 = .ok (.lreturn, 1) := by decide +kernel
theorem dJ0_length_8abf5_0 : decode cJ0_length_8abf5 0 = .ok (.aload_n 0, 1) := by decide +kernel
theorem dJ0_length_8abf5_1 : decode cJ0_length_8abf5 1 = .ok (.getfield 9, 3) := by decide +kernel
theorem dJ0_length_8abf5_4 : decode cJ0_length_8abf5 4 = .ok (.arraylength, 1) := by decide +kernel
theorem dJ0_length_8abf5_5 : decode cJ0_length_8abf5 5 = .ok (.aload_n 0, 1) := by decide +kernel
theorem dJ0_length_8abf5_6 : decode cJ0_length_8abf5 6 = .ok (.invokevirtual 335, 3) := by decide +kernel
theorem dJ0_length_8abf5_9 : decode cJ0_length_8abf5 9 = .ok (.ishr, 1) := by decide +kernel
theorem dJ0_length_8abf5_10 : decode cJ0_length_8abf5 10 = .ok (.ireturn, 1) := by decide +kernel
theorem dJ0_charAt_5068e_0 : decode cJ0_charAt_5068e 0 = .ok (.aload_n 0, 1) := by decide +kernel
theorem dJ0_charAt_5068e_1 : decode cJ0_charAt_5068e 1 = .ok (.invokevirtual 492, 3) := by decide +kernel
theorem dJ0_charAt_5068e_4 : decode cJ0_charAt_5068e 4 = .ok (.ifCond .eq 12, 3) := by decide +kernel
theorem dJ0_charAt_5068e_7 : decode cJ0_charAt_5068e 7 = .ok (.aload_n 0, 1) := by decide +kernel
theorem dJ0_charAt_5068e_8 : decode cJ0_charAt_5068e 8 = .ok (.getfield 9, 3) := by decide +kernel
theorem dJ0_charAt_5068e_11 : decode cJ0_charAt_5068e 11 = .ok (.iload_n 1, 1) := by decide +kernel
theorem dJ0_charAt_5068e_12 : decode cJ0_charAt_5068e 12 = .ok (.invokestatic 495, 3) := by decide +kernel
theorem dJ0_charAt_5068e_15 : decode cJ0_charAt_5068e 15 = .ok (.ireturn, 1) := by decide +kernel
theorem dJ0_charAt_5068e_16 : decode cJ0_charAt_5068e 16 = .ok (.aload_n 0, 1) := by decide +kernel
theorem dJ0_charAt_5068e_17 : decode cJ0_charAt_5068e 17 = .ok (.getfield 9, 3) := by decide +kernel
theorem dJ0_charAt_5068e_20 : decode cJ0_charAt_5068e 20 = .ok (.iload_n 1, 1) := by decide +kernel
theorem dJ0_charAt_5068e_21 : decode cJ0_charAt_5068e 21 = .ok (.invokestatic 498, 3) := by decide +kernel
theorem dJ0_charAt_5068e_24 : decode cJ0_charAt_5068e 24 = .ok (.ireturn, 1) := by decide +kernel
theorem dJ0_coder_7d493_0 : decode cJ0_coder_7d493 0 = .ok (.getstatic 38, 3) := by decide +kernel
theorem dJ0_coder_7d493_3 : decode cJ0_coder_7d493 3 = .ok (.ifCond .eq 10, 3) := by decide +kernel
theorem dJ0_coder_7d493_6 : decode cJ0_coder_7d493 6 = .ok (.aload_n 0, 1) := by decide +kernel
theorem dJ0_coder_7d493_7 : decode cJ0_coder_7d493 7 = .ok (.getfield 15, 3) := by decide +kernel
theorem dJ0_coder_7d493_10 : decode cJ0_coder_7d493 10 = .ok (.goto 4, 3) := by decide +kernel
theorem dJ0_coder_7d493_13 : decode cJ0_coder_7d493 13 = .ok (.iconst 1, 1) := by decide +kernel
theorem dJ0_coder_7d493_14 : decode cJ0_coder_7d493 14 = .ok (.ireturn, 1) := by decide +kernel
theorem dJ0_isLatin1_aae02_0 : decode cJ0_isLatin1_aae02 0 = .ok (.getstatic 38, 3) := by decide +kernel
theorem dJ0_isLatin1_aae02_3 : decode cJ0_isLatin1_aae02 3 = .ok (.ifCond .eq 14, 3) := by decide +kernel
theorem dJ0_isLatin1_aae02_6 : decode cJ0_isLatin1_aae02 6 = .ok (.aload_n 0, 1) := by decide +kernel
theorem dJ0_isLatin1_aae02_7 : decode cJ0_isLatin1_aae02 7 = .ok (.getfield 15, 3) := by decide +kernel
theorem dJ0_isLatin1_aae02_10 : decode cJ0_isLatin1_aae02 10 = .ok (.ifCond .ne 7, 3) := by decide +kernel
theorem dJ0_isLatin1_aae02_13 : decode cJ0_isLatin1_aae02 13 = .ok (.iconst 1, 1) := by decide +kernel
theorem dJ0_isLatin1_aae02_14 : decode cJ0_isLatin1_aae02 14 = .ok (.goto 4, 3) := by decide +kernel
theorem dJ0_isLatin1_aae02_17 : decode cJ0_isLatin1_aae02 17 = .ok (.iconst 0, 1) := by decide +kernel
theorem dJ0_isLatin1_aae02_18 : decode cJ0_isLatin1_aae02 18 = .ok (.ireturn, 1) := by decide +kernel
theorem dJ0_checkIndex_df160_0 : decode cJ0_checkIndex_df160 0 = .ok (.iload_n 0, 1) := by decide +kernel
theorem dJ0_checkIndex_df160_1 : decode cJ0_checkIndex_df160 1 = .ok (.iload_n 1, 1) := by decide +kernel
theorem dJ0_checkIndex_df160_2 : decode cJ0_checkIndex_df160 2 = .ok (.getstatic 1053, 3) := by decide +kernel
theorem dJ0_checkIndex_df160_5 : decode cJ0_checkIndex_df160 5 = .ok (.invokestatic 1059, 3) := by decide +kernel
theorem dJ0_checkIndex_df160_8 : decode cJ0_checkIndex_df160 8 = .ok (.pop, 1) := by decide +kernel
theorem dJ0_checkIndex_df160_9 : decode cJ0_checkIndex_df160 9 = .ok (.return_, 1) := by decide +kernel
theorem dJ1_charAt_3b067_0 : decode cJ1_charAt_3b067 0 = .ok (.iload_n 1, 1) := by decide +kernel
theorem dJ1_charAt_3b067_1 : decode cJ1_charAt_3b067 1 = .ok (.aload_n 0, 1) := by decide +kernel
theorem dJ1_charAt_3b067_2 : decode cJ1_charAt_3b067 2 = .ok (.arraylength, 1) := by decide +kernel
theorem dJ1_charAt_3b067_3 : decode cJ1_charAt_3b067 3 = .ok (.invokestatic 9, 3) := by decide +kernel
theorem dJ1_charAt_3b067_6 : decode cJ1_charAt_3b067 6 = .ok (.aload_n 0, 1) := by decide +kernel
theorem dJ1_charAt_3b067_7 : decode cJ1_charAt_3b067 7 = .ok (.iload_n 1, 1) := by decide +kernel
theorem dJ1_charAt_3b067_8 : decode cJ1_charAt_3b067 8 = .ok (.baload, 1) := by decide +kernel
theorem dJ1_charAt_3b067_9 : decode cJ1_charAt_3b067 9 = .ok (.sipush 255, 3) := by decide +kernel
theorem dJ1_charAt_3b067_12 : decode cJ1_charAt_3b067 12 = .ok (.iand, 1) := by decide +kernel
theorem dJ1_charAt_3b067_13 : decode cJ1_charAt_3b067 13 = .ok (.i2c, 1) := by decide +kernel
theorem dJ1_charAt_3b067_14 : decode cJ1_charAt_3b067 14 = .ok (.ireturn, 1) := by decide +kernel
theorem dJ2_getChar_3b067_0 : decode cJ2_getChar_3b067 0 = .ok (.getstatic 44, 3) := by decide +kernel
theorem dJ2_getChar_3b067_3 : decode cJ2_getChar_3b067 3 = .ok (.ifCond .ne 25, 3) := by decide +kernel
theorem dJ2_getChar_3b067_6 : decode cJ2_getChar_3b067 6 = .ok (.iload_n 1, 1) := by decide +kernel
theorem dJ2_getChar_3b067_7 : decode cJ2_getChar_3b067 7 = .ok (.ifCond .lt 11, 3) := by decide +kernel
theorem dJ2_getChar_3b067_10 : decode cJ2_getChar_3b067 10 = .ok (.iload_n 1, 1) := by decide +kernel
theorem dJ2_getChar_3b067_11 : decode cJ2_getChar_3b067 11 = .ok (.aload_n 0, 1) := by decide +kernel
theorem dJ2_getChar_3b067_12 : decode cJ2_getChar_3b067 12 = .ok (.invokestatic 48, 3) := by decide +kernel
theorem dJ2_getChar_3b067_15 : decode cJ2_getChar_3b067 15 = .ok (.if_icmp .lt 13, 3) := by decide +kernel
theorem dJ2_getChar_3b067_18 : decode cJ2_getChar_3b067 18 = .ok (.new 52, 3) := by decide +kernel
theorem dJ2_getChar_3b067_21 : decode cJ2_getChar_3b067 21 = .ok (.dup, 1) := by decide +kernel
theorem dJ2_getChar_3b067_22 : decode cJ2_getChar_3b067 22 = .ok (.ldc 54, 2) := by decide +kernel
theorem dJ2_getChar_3b067_24 : decode cJ2_getChar_3b067 24 = .ok (.invokespecial 56, 3) := by decide +kernel
theorem dJ2_getChar_3b067_27 : decode cJ2_getChar_3b067 27 = .ok (.athrow, 1) := by decide +kernel
theorem dJ2_getChar_3b067_28 : decode cJ2_getChar_3b067 28 = .ok (.iload_n 1, 1) := by decide +kernel
theorem dJ2_getChar_3b067_29 : decode cJ2_getChar_3b067 29 = .ok (.iconst 1, 1) := by decide +kernel
theorem dJ2_getChar_3b067_30 : decode cJ2_getChar_3b067 30 = .ok (.ishl, 1) := by decide +kernel
theorem dJ2_getChar_3b067_31 : decode cJ2_getChar_3b067 31 = .ok (.istore_n 1, 1) := by decide +kernel
theorem dJ2_getChar_3b067_32 : decode cJ2_getChar_3b067 32 = .ok (.aload_n 0, 1) := by decide +kernel
theorem dJ2_getChar_3b067_33 : decode cJ2_getChar_3b067 33 = .ok (.iload_n 1, 1) := by decide +kernel
theorem dJ2_getChar_3b067_34 : decode cJ2_getChar_3b067 34 = .ok (.iinc 1 1, 3) := by decide +kernel
theorem dJ2_getChar_3b067_37 : decode cJ2_getChar_3b067 37 = .ok (.baload, 1) := by decide +kernel
theorem dJ2_getChar_3b067_38 : decode cJ2_getChar_3b067 38 = .ok (.sipush 255, 3) := by decide +kernel
theorem dJ2_getChar_3b067_41 : decode cJ2_getChar_3b067 41 = .ok (.iand, 1) := by decide +kernel
theorem dJ2_getChar_3b067_42 : decode cJ2_getChar_3b067 42 = .ok (.getstatic 59, 3) := by decide +kernel
theorem dJ2_getChar_3b067_45 : decode cJ2_getChar_3b067 45 = .ok (.ishl, 1) := by decide +kernel
theorem dJ2_getChar_3b067_46 : decode cJ2_getChar_3b067 46 = .ok (.aload_n 0, 1) := by decide +kernel
theorem dJ2_getChar_3b067_47 : decode cJ2_getChar_3b067 47 = .ok (.iload_n 1, 1) := by decide +kernel
theorem dJ2_getChar_3b067_48 : decode cJ2_getChar_3b067 48 = .ok (.baload, 1) := by decide +kernel
theorem dJ2_getChar_3b067_49 : decode cJ2_getChar_3b067 49 = .ok (.sipush 255, 3) := by decide +kernel
theorem dJ2_getChar_3b067_52 : decode cJ2_getChar_3b067 52 = .ok (.iand, 1) := by decide +kernel
theorem dJ2_getChar_3b067_53 : decode cJ2_getChar_3b067 53 = .ok (.getstatic 63, 3) := by decide +kernel
theorem dJ2_getChar_3b067_56 : decode cJ2_getChar_3b067 56 = .ok (.ishl, 1) := by decide +kernel
theorem dJ2_getChar_3b067_57 : decode cJ2_getChar_3b067 57 = .ok (.ior, 1) := by decide +kernel
theorem dJ2_getChar_3b067_58 : decode cJ2_getChar_3b067 58 = .ok (.i2c, 1) := by decide +kernel
theorem dJ2_getChar_3b067_59 : decode cJ2_getChar_3b067 59 = .ok (.ireturn, 1) := by decide +kernel
theorem dJ2_length_9d52b_0 : decode cJ2_length_9d52b 0 = .ok (.aload_n 0, 1) := by decide +kernel
theorem dJ2_length_9d52b_1 : decode cJ2_length_9d52b 1 = .ok (.arraylength, 1) := by decide +kernel
theorem dJ2_length_9d52b_2 : decode cJ2_length_9d52b 2 = .ok (.iconst 1, 1) := by decide +kernel
theorem dJ2_length_9d52b_3 : decode cJ2_length_9d52b 3 = .ok (.ishr, 1) := by decide +kernel
theorem dJ2_length_9d52b_4 : decode cJ2_length_9d52b 4 = .ok (.ireturn, 1) := by decide +kernel
theorem dJ2_charAt_3b067_0 : decode cJ2_charAt_3b067 0 = .ok (.iload_n 1, 1) := by decide +kernel
theorem dJ2_charAt_3b067_1 : decode cJ2_charAt_3b067 1 = .ok (.aload_n 0, 1) := by decide +kernel
theorem dJ2_charAt_3b067_2 : decode cJ2_charAt_3b067 2 = .ok (.invokestatic 67, 3) := by decide +kernel
theorem dJ2_charAt_3b067_5 : decode cJ2_charAt_3b067 5 = .ok (.aload_n 0, 1) := by decide +kernel
theorem dJ2_charAt_3b067_6 : decode cJ2_charAt_3b067 6 = .ok (.iload_n 1, 1) := by decide +kernel
theorem dJ2_charAt_3b067_7 : decode cJ2_charAt_3b067 7 = .ok (.invokestatic 71, 3) := by decide +kernel
theorem dJ2_charAt_3b067_10 : decode cJ2_charAt_3b067 10 = .ok (.ireturn, 1) := by decide +kernel
theorem dJ2_checkIndex_2214a_0 : decode cJ2_checkIndex_2214a 0 = .ok (.iload_n 0, 1) := by decide +kernel
theorem dJ2_checkIndex_2214a_1 : decode cJ2_checkIndex_2214a 1 = .ok (.aload_n 1, 1) := by decide +kernel
theorem dJ2_checkIndex_2214a_2 : decode cJ2_checkIndex_2214a 2 = .ok (.invokestatic 48, 3) := by decide +kernel
theorem dJ2_checkIndex_2214a_5 : decode cJ2_checkIndex_2214a 5 = .ok (.invokestatic 414, 3) := by decide +kernel
theorem dJ2_checkIndex_2214a_8 : decode cJ2_checkIndex_2214a 8 = .ok (.return_, 1) := by decide +kernel
theorem dJ7_fill_d0a16_0 : decode cJ7_fill_d0a16 0 = .ok (.iconst 0, 1) := by decide +kernel
theorem dJ7_fill_d0a16_1 : decode cJ7_fill_d0a16 1 = .ok (.istore_n 3, 1) := by decide +kernel
theorem dJ7_fill_d0a16_2 : decode cJ7_fill_d0a16 2 = .ok (.aload_n 0, 1) := by decide +kernel
theorem dJ7_fill_d0a16_3 : decode cJ7_fill_d0a16 3 = .ok (.arraylength, 1) := by decide +kernel
theorem dJ7_fill_d0a16_4 : decode cJ7_fill_d0a16 4 = .ok (.istore 4, 2) := by decide +kernel
theorem dJ7_fill_d0a16_6 : decode cJ7_fill_d0a16 6 = .ok (.iload_n 3, 1) := by decide +kernel
theorem dJ7_fill_d0a16_7 : decode cJ7_fill_d0a16 7 = .ok (.iload 4, 2) := by decide +kernel
theorem dJ7_fill_d0a16_9 : decode cJ7_fill_d0a16 9 = .ok (.if_icmp .ge 13, 3) := by decide +kernel
theorem dJ7_fill_d0a16_12 : decode cJ7_fill_d0a16 12 = .ok (.aload_n 0, 1) := by decide +kernel
theorem dJ7_fill_d0a16_13 : decode cJ7_fill_d0a16 13 = .ok (.iload_n 3, 1) := by decide +kernel
theorem dJ7_fill_d0a16_14 : decode cJ7_fill_d0a16 14 = .ok (.lload_n 1, 1) := by decide +kernel
theorem dJ7_fill_d0a16_15 : decode cJ7_fill_d0a16 15 = .ok (.lastore, 1) := by decide +kernel
theorem dJ7_fill_d0a16_16 : decode cJ7_fill_d0a16 16 = .ok (.iinc 3 1, 3) := by decide +kernel
theorem dJ7_fill_d0a16_19 : decode cJ7_fill_d0a16 19 = .ok (.goto (-13), 3) := by decide +kernel
theorem dJ7_fill_d0a16_22 : decode cJ7_fill_d0a16 22 = .ok (.return_, 1) := by decide +kernel
theorem dJ7_fill_53178_0 : decode cJ7_fill_53178 0 = .ok (.iconst 0, 1) := by decide +kernel
theorem dJ7_fill_53178_1 : decode cJ7_fill_53178 1 = .ok (.istore_n 2, 1) := by decide +kernel
theorem dJ7_fill_53178_2 : decode cJ7_fill_53178 2 = .ok (.aload_n 0, 1) := by decide +kernel
theorem dJ7_fill_53178_3 : decode cJ7_fill_53178 3 = .ok (.arraylength, 1) := by decide +kernel
theorem dJ7_fill_53178_4 : decode cJ7_fill_53178 4 = .ok (.istore_n 3, 1) := by decide +kernel
theorem dJ7_fill_53178_5 : decode cJ7_fill_53178 5 = .ok (.iload_n 2, 1) := by decide +kernel
theorem dJ7_fill_53178_6 : decode cJ7_fill_53178 6 = .ok (.iload_n 3, 1) := by decide +kernel
theorem dJ7_fill_53178_7 : decode cJ7_fill_53178 7 = .ok (.if_icmp .ge 13, 3) := by decide +kernel
theorem dJ7_fill_53178_10 : decode cJ7_fill_53178 10 = .ok (.aload_n 0, 1) := by decide +kernel
theorem dJ7_fill_53178_11 : decode cJ7_fill_53178 11 = .ok (.iload_n 2, 1) := by decide +kernel
theorem dJ7_fill_53178_12 : decode cJ7_fill_53178 12 = .ok (.iload_n 1, 1) := by decide +kernel
theorem dJ7_fill_53178_13 : decode cJ7_fill_53178 13 = .ok (.iastore, 1) := by decide +kernel
theorem dJ7_fill_53178_14 : decode cJ7_fill_53178 14 = .ok (.iinc 2 1, 3) := by decide +kernel
theorem dJ7_fill_53178_17 : decode cJ7_fill_53178 17 = .ok (.goto (-12), 3) := by decide +kernel
theorem dJ7_fill_53178_20 : decode cJ7_fill_53178 20 = .ok (.return_, 1) := by decide +kernel
theorem dJ3_checkIndex_8e157_0 : decode cJ3_checkIndex_8e157 0 = .ok (.iload_n 0, 1) := by decide +kernel
theorem dJ3_checkIndex_8e157_1 : decode cJ3_checkIndex_8e157 1 = .ok (.ifCond .lt 8, 3) := by decide +kernel
theorem dJ3_checkIndex_8e157_4 : decode cJ3_checkIndex_8e157 4 = .ok (.iload_n 0, 1) := by decide +kernel
theorem dJ3_checkIndex_8e157_5 : decode cJ3_checkIndex_8e157 5 = .ok (.iload_n 1, 1) := by decide +kernel
theorem dJ3_checkIndex_8e157_6 : decode cJ3_checkIndex_8e157 6 = .ok (.if_icmp .lt 10, 3) := by decide +kernel
theorem dJ3_checkIndex_8e157_9 : decode cJ3_checkIndex_8e157 9 = .ok (.aload_n 2, 1) := by decide +kernel
theorem dJ3_checkIndex_8e157_10 : decode cJ3_checkIndex_8e157 10 = .ok (.iload_n 0, 1) := by decide +kernel
theorem dJ3_checkIndex_8e157_11 : decode cJ3_checkIndex_8e157 11 = .ok (.iload_n 1, 1) := by decide +kernel
theorem dJ3_checkIndex_8e157_12 : decode cJ3_checkIndex_8e157 12 = .ok (.invokestatic 95, 3) := by decide +kernel
theorem dJ3_checkIndex_8e157_15 : decode cJ3_checkIndex_8e157 15 = .ok (.athrow, 1) := by decide +kernel
theorem dJ3_checkIndex_8e157_16 : decode cJ3_checkIndex_8e157 16 = .ok (.iload_n 0, 1) := by decide +kernel
theorem dJ3_checkIndex_8e157_17 : decode cJ3_checkIndex_8e157 17 = .ok (.ireturn, 1) := by decide +kernel
